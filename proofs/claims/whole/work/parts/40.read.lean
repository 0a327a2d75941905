/-! what is read off the rows of a THROW -/
def mv (X Y : Int → Int) (k t : Int) : Int := (X (13 * t + k) - X (13 * (t - 1) + k)) * (X (13 * t + k) - X (13 * (t - 1) + k)) + (Y (13 * t + k) - Y (13 * (t - 1) + k)) * (Y (13 * t + k) - Y (13 * (t - 1) + k))
theorem mv_b {X Y : Int → Int} {k t : Int} (h : bA (X, Y)) (hk : 0 ≤ k ∧ k ≤ 12) (ht : 1 ≤ t ∧ t ≤ 60) : ab 130000 (X (13 * t + k)) ∧ ab 130000 (X (13 * (t - 1) + k)) ∧ ab 130000 (Y (13 * t + k)) ∧ ab 130000 (Y (13 * (t - 1) + k)) ∧ 0 ≤ mv X Y k t ∧ mv X Y k t ≤ 140000000000 ∧ 0 ≤ rt (mv X Y k t) ∧ rt (mv X Y k t) < 400000 := by
  have h1 := h (13 * t + k) (by omega) (by omega)
  have h2 := h (13 * (t - 1) + k) (by omega) (by omega)
  have q1 := ab_sq (B := 260000) (z := X (13 * t + k) - X (13 * (t - 1) + k)) (by unfold ab at *; simp only [] at h1 h2; omega)
  have q2 := ab_sq (B := 260000) (z := Y (13 * t + k) - Y (13 * (t - 1) + k)) (by unfold ab at *; simp only [] at h1 h2; omega)
  have e0 : 0 ≤ mv X Y k t := by unfold mv; omega
  have e1 : mv X Y k t ≤ 140000000000 := by unfold mv; omega
  refine ⟨h1.1, h2.1, h1.2, h2.2, e0, e1, rt_nn _, ?_⟩
  have := rt_le e0
  exact sq_lt (by omega) (by omega)
def sI (f : Nat → Int) : Nat → Int
  | 0 => 0
  | n + 1 => sI f n + f n
def mxF (f : Nat → Int) (a : Int) : Nat → Int
  | 0 => a
  | n + 1 => max (mxF f a n) (f n)
def gM (v : Int → Int → Int) (n : Nat) : Nat → Int
  | 0 => 0
  | t + 1 => mxF (fun j => v (j + 1) (t + 1)) (gM v n t) n
def dot (X Y : Int → Int) (t k : Int) : Int := (X (13 * t + k) - X (13 * t + k - 1)) * (X (13 * t + k + 1) - X (13 * t + k)) + (Y (13 * t + k) - Y (13 * t + k - 1)) * (Y (13 * t + k + 1) - Y (13 * t + k))
/-- the least so far, and where -/
def lpS (X Y : Int → Int) (t : Int) : Nat → Int × Int
  | 0 => (0, -1)
  | j + 1 => if dot X Y t (j + 1) < (lpS X Y t j).1 then (dot X Y t (j + 1), j + 1) else lpS X Y t j
def lpO (X Y : Int → Int) (n : Nat) (t : Int) : Int := (lpS X Y t (n - 1)).2
theorem dot_b {X Y : Int → Int} {k t : Int} (h : bA (X, Y)) (hk : 1 ≤ k ∧ k ≤ 11) (ht : 0 ≤ t ∧ t ≤ 60) : ab 130000 (X (13 * t + k)) ∧ ab 130000 (X (13 * t + k - 1)) ∧ ab 130000 (X (13 * t + k + 1)) ∧ ab 130000 (Y (13 * t + k)) ∧ ab 130000 (Y (13 * t + k - 1)) ∧ ab 130000 (Y (13 * t + k + 1)) ∧ ab 200000000000 (dot X Y t k) := by
  have h1 := h (13 * t + k) (by omega) (by omega)
  have h2 := h (13 * t + k - 1) (by omega) (by omega)
  have h3 := h (13 * t + k + 1) (by omega) (by omega)
  simp only [] at h1 h2 h3
  have key : ∀ a b : Int, ab 260000 a → ab 260000 b → ab 67600000000 (a * b) := by
    intro a b ha hb
    rcases (show 0 ≤ b ∨ b ≤ 0 by unfold ab at hb; omega) with h | h
    · exact ab_mul (C := 260000) ha h hb.2
    · have := ab_mul (C := 260000) (m := -b) ha (by omega) (by unfold ab at hb; omega)
      rw [Int.mul_neg] at this
      unfold ab at *
      omega
  refine ⟨h1.1, h2.1, h3.1, h1.2, h2.2, h3.2, ?_⟩
  have k1 := key (X (13 * t + k) - X (13 * t + k - 1)) (X (13 * t + k + 1) - X (13 * t + k)) (by unfold ab at *; omega) (by unfold ab at *; omega)
  have k2 := key (Y (13 * t + k) - Y (13 * t + k - 1)) (Y (13 * t + k + 1) - Y (13 * t + k)) (by unfold ab at *; omega) (by unfold ab at *; omega)
  unfold dot ab at *
  omega
theorem lpS_b {X Y : Int → Int} {t : Int} (h : bA (X, Y)) (ht : 0 ≤ t ∧ t ≤ 60) : ∀ j : Nat, j ≤ 11 → ab 200000000000 (lpS X Y t j).1 ∧ -1 ≤ (lpS X Y t j).2 ∧ (lpS X Y t j).2 ≤ j := by
  intro j
  induction j with
  | zero =>
    intro _
    show ab 200000000000 (0 : Int) ∧ (-1 : Int) ≤ -1 ∧ (-1 : Int) ≤ 0
    exact ⟨⟨by omega, by omega⟩, by omega, by omega⟩
  | succ j ih =>
    intro hj
    have := ih (by omega)
    have hd := (dot_b h (k := (j : Int) + 1) (by omega) ht).2.2.2.2.2.2
    rw [lpS]
    split
    · exact ⟨hd, by simp only []; omega, by simp only []; omega⟩
    · exact ⟨this.1, this.2.1, by omega⟩
section P40
variable {G : gT} {F : fT} {A : nT} {f : Nat}
theorem p_X1_xOf (hf : isFl f) {k t : Int} (hk : 0 ≤ k ∧ k ≤ 12) (ht : 0 ≤ t ∧ t ≤ 60) : Pu G mX1_xOf [.ref f, vi k, vi t] F A (vi (A (f + 1) (13 * t + k))) := by
  refine L_ent [some (.ref f), some (vi k), some (vi t)] rfl ?_
  refine L_aload_n eX1_xOf_0 rfl ?_
  refine L_getR eX1_xOf_1 f_X1_24.g hf.k hf.r4 (by omega) ?_
  refine L_iload_n eX1_xOf_4 rfl ?_
  refine L_bipush eX1_xOf_5 rfl ?_
  refine V_imul eX1_xOf_7 ?_
  refine L_iload_n eX1_xOf_8 rfl ?_
  refine V_iadd eX1_xOf_9 ?_
  refine V.topi (show t * 13 + k = 13 * t + k by omega) ?_
  refine L_iald eX1_xOf_10 hf.k1 ?_
  exact V_ireturn eX1_xOf_11 ⟨rfl, rfl⟩
theorem p_X1_yOf (hf : isFl f) {k t : Int} (hk : 0 ≤ k ∧ k ≤ 12) (ht : 0 ≤ t ∧ t ≤ 60) : Pu G mX1_yOf [.ref f, vi k, vi t] F A (vi (A (f + 2) (13 * t + k))) := by
  refine L_ent [some (.ref f), some (vi k), some (vi t)] rfl ?_
  refine L_aload_n eX1_yOf_0 rfl ?_
  refine L_getR eX1_yOf_1 f_X1_28.g hf.k hf.r5 (by omega) ?_
  refine L_iload_n eX1_yOf_4 rfl ?_
  refine L_bipush eX1_yOf_5 rfl ?_
  refine V_imul eX1_yOf_7 ?_
  refine L_iload_n eX1_yOf_8 rfl ?_
  refine V_iadd eX1_yOf_9 ?_
  refine V.topi (show t * 13 + k = 13 * t + k by omega) ?_
  refine L_iald eX1_yOf_10 hf.k2 ?_
  exact V_ireturn eX1_yOf_11 ⟨rfl, rfl⟩
theorem p_X1_moved (hf : isFl f) {k t : Int} (hb : bA (A (f + 1), A (f + 2))) (hk : 0 ≤ k ∧ k ≤ 12) (ht : 1 ≤ t ∧ t ≤ 60) : Pu G mX1_moved [.ref f, vi k, vi t] F A (vl (mv (A (f + 1)) (A (f + 2)) k t)) := by
  obtain ⟨b1, b2, b3, b4, -⟩ := mv_b hb hk ht
  unfold ab at b1 b2 b3 b4
  have e : 13 * t + k - 13 = 13 * (t - 1) + k := by omega
  refine L_ent [some (.ref f), some (vi k), some (vi t), none] rfl ?_
  refine L_iload_n eX1_moved_0 rfl ?_
  refine L_bipush eX1_moved_1 rfl ?_
  refine V_imul eX1_moved_3 ?_
  refine L_iload_n eX1_moved_4 rfl ?_
  refine V_iadd eX1_moved_5 ?_
  refine V.topi (show t * 13 + k = 13 * t + k by omega) ?_
  refine L_istore_n eX1_moved_6 (s_3 rfl rfl) ?_
  refine L_aload_n eX1_moved_7 rfl ?_
  refine L_getR eX1_moved_8 f_X1_24.g hf.k hf.r4 (by omega) ?_
  refine L_iload_n eX1_moved_11 rfl ?_
  refine L_iald eX1_moved_12 hf.k1 ?_
  refine L_aload_n eX1_moved_13 rfl ?_
  refine L_getR eX1_moved_14 f_X1_24.g hf.k hf.r4 (by omega) ?_
  refine L_iload_n eX1_moved_17 rfl ?_
  refine L_bipush eX1_moved_18 rfl ?_
  refine V_isub eX1_moved_20 ?_
  refine V.topi e ?_
  refine L_iald eX1_moved_21 hf.k1 ?_
  refine V_isub eX1_moved_22 ?_
  refine V_i2l eX1_moved_23 ?_
  refine L_aload_n eX1_moved_24 rfl ?_
  refine L_getR eX1_moved_25 f_X1_28.g hf.k hf.r5 (by omega) ?_
  refine L_iload_n eX1_moved_28 rfl ?_
  refine L_iald eX1_moved_29 hf.k2 ?_
  refine L_aload_n eX1_moved_30 rfl ?_
  refine L_getR eX1_moved_31 f_X1_28.g hf.k hf.r5 (by omega) ?_
  refine L_iload_n eX1_moved_34 rfl ?_
  refine L_bipush eX1_moved_35 rfl ?_
  refine V_isub eX1_moved_37 ?_
  refine V.topi e ?_
  refine L_iald eX1_moved_38 hf.k2 ?_
  refine V_isub eX1_moved_39 ?_
  refine V_i2l eX1_moved_40 ?_
  refine C_s1 p_X1_squares v_X1_95 eX1_moved_41 rfl ?_
  exact V_lreturn eX1_moved_44 ⟨rfl, rfl⟩
theorem p_X1_speedOf (hf : isFl f) {k t : Int} (hb : bA (A (f + 1), A (f + 2))) (hk : 0 ≤ k ∧ k ≤ 12) (ht : 1 ≤ t ∧ t ≤ 60) : Pu G mX1_speedOf [.ref f, vi k, vi t] F A (vi (rt (mv (A (f + 1)) (A (f + 2)) k t))) := by
  have hm := mv_b hb hk ht
  refine L_ent [some (.ref f), some (vi k), some (vi t)] rfl ?_
  refine L_aload_n eX1_speedOf_0 rfl ?_
  refine L_iload_n eX1_speedOf_1 rfl ?_
  refine L_iload_n eX1_speedOf_2 rfl ?_
  refine C_v1 (p_X1_moved hf hb (by omega) (by omega)) v_X1_98 eX1_speedOf_3 hf.k rfl ?_
  refine C_n1 (p_X10_root (by omega)) v_X1_81 eX1_speedOf_6 rfl ?_
  refine V_l2i eX1_speedOf_9 ?_
  exact V_ireturn eX1_speedOf_10 ⟨rfl, rfl⟩
theorem p_X1_forceOf (hf : isFl f) {k t : Int} (hb : bA (A (f + 1), A (f + 2))) (hk : 1 ≤ k ∧ k ≤ 12) (ht : 1 ≤ t ∧ t ≤ 60) (hw : 1 ≤ A (f + 3) k ∧ A (f + 3) k ≤ 80) : Pu G mX1_forceOf [.ref f, vi k, vi t] F A (vl (A (f + 3) k * mv (A (f + 1)) (A (f + 2)) k t)) := by
  refine L_ent [some (.ref f), some (vi k), some (vi t)] rfl ?_
  refine L_aload_n eX1_forceOf_0 rfl ?_
  refine L_getR eX1_forceOf_1 f_X1_31.g hf.k hf.r6 (by omega) ?_
  refine L_iload_n eX1_forceOf_4 rfl ?_
  refine L_iald eX1_forceOf_5 hf.k3 ?_
  refine V_i2l eX1_forceOf_6 ?_
  refine L_aload_n eX1_forceOf_7 rfl ?_
  refine L_iload_n eX1_forceOf_8 rfl ?_
  refine L_iload_n eX1_forceOf_9 rfl ?_
  refine C_v1 (p_X1_moved hf hb (by omega) (by omega)) v_X1_98 eX1_forceOf_10 hf.k rfl ?_
  refine V_lmul eX1_forceOf_13 ?_
  exact V_lreturn eX1_forceOf_14 ⟨rfl, rfl⟩
theorem p_X1_forceOfAll (hf : isFl f) {n : Nat} {t : Int} (hb : bA (A (f + 1), A (f + 2))) (h0 : F f 0 = n) (hn : n ≤ 12) (ht : 1 ≤ t ∧ t ≤ 60) (hw : ∀ k : Int, 1 ≤ k → k ≤ n → 1 ≤ A (f + 3) k ∧ A (f + 3) k ≤ 80) : Pu G mX1_forceOfAll [.ref f, vi t] F A (vl (sI (fun j => A (f + 3) (j + 1) * mv (A (f + 1)) (A (f + 2)) (j + 1) t) n)) := by
  refine L_ent [some (.ref f), some (vi t), none, none, none] rfl ?_
  generalize hQ : (fun (r' : Option Value) (w : wT) => r' = some (vl (sI (fun j => A (f + 3) (j + 1) * mv (A (f + 1)) (A (f + 2)) (j + 1) t) n)) ∧ w = sw F A) = Q
  refine L_lconst0 eX1_forceOfAll_0 ?_
  refine L_lstore_n eX1_forceOfAll_1 (t_2 rfl) ?_
  refine V_iconst eX1_forceOfAll_2 ?_
  refine L_istore eX1_forceOfAll_3 (s_4 rfl rfl) ?_
  have LOOP : ∀ (r j : Nat) (k : Int), n < r + j → j ≤ n → k = j + 1 → V G mX1_forceOfAll Q 0 0 5 [some (.ref f), some (vi t), some (vl (sI (fun j => A (f + 3) (j + 1) * mv (A (f + 1)) (A (f + 2)) (j + 1) t) j)), none, some (vi k)] [] (sw F A) := by
    intro r
    induction r with
    | zero => intro j k e1 e2; omega
    | succ r ih =>
      intro j k e1 e2 ek
      refine L_iload eX1_forceOfAll_5 rfl ?_
      refine L_aload_n eX1_forceOfAll_7 rfl ?_
      refine L_get eX1_forceOfAll_8 f_X1_9.g hf.k (hf.i (by decide)) ?_
      -- at 11: .if_icmp .gt 19
      refine V_icmpgt eX1_forceOfAll_11 (fun h1 => ?_) (fun h1 => ?_)
      · have e : j = n := by omega
        subst e
        refine L_lload_n eX1_forceOfAll_30 rfl ?_
        -- at 31: .lreturn
        exact V_lreturn eX1_forceOfAll_31 (by rw [← hQ]; exact ⟨rfl, rfl⟩)
      · subst ek
        refine L_lload_n eX1_forceOfAll_14 rfl ?_
        refine L_aload_n eX1_forceOfAll_15 rfl ?_
        refine L_iload eX1_forceOfAll_16 rfl ?_
        refine L_iload_n eX1_forceOfAll_18 rfl ?_
        refine C_v1 (p_X1_forceOf hf hb (by omega) ht (hw _ (by omega) (by omega))) v_X1_102 eX1_forceOfAll_19 hf.k rfl ?_
        refine V_ladd eX1_forceOfAll_22 ?_
        refine L_lstore_n eX1_forceOfAll_23 (t_2 rfl) ?_
        refine L_iinc eX1_forceOfAll_24 rfl (s_4 rfl rfl) ?_
        refine V_goto eX1_forceOfAll_27 ?_
        exact ih (j + 1) _ (by omega) (by omega) (by omega)
  exact LOOP (n + 1) 0 1 (by omega) (by omega) (by omega)
theorem p_X1_pathOf (hf : isFl f) {T : Nat} {k : Int} (hb : bA (A (f + 1), A (f + 2))) (h1 : F f 1 = T) (hT : T ≤ 60) (hk : 0 ≤ k ∧ k ≤ 12) : Pu G mX1_pathOf [.ref f, vi k] F A (vi (sI (fun j => rt (mv (A (f + 1)) (A (f + 2)) k (j + 1))) T)) := by
  refine L_ent [some (.ref f), some (vi k), none, none] rfl ?_
  generalize hQ : (fun (r' : Option Value) (w : wT) => r' = some (vi (sI (fun j => rt (mv (A (f + 1)) (A (f + 2)) k (j + 1))) T)) ∧ w = sw F A) = Q
  refine V_iconst eX1_pathOf_0 ?_
  refine L_istore_n eX1_pathOf_1 (s_2 rfl rfl) ?_
  refine V_iconst eX1_pathOf_2 ?_
  refine L_istore_n eX1_pathOf_3 (s_3 rfl rfl) ?_
  have LOOP : ∀ (r j : Nat) (t : Int), T < r + j → j ≤ T → t = j + 1 → V G mX1_pathOf Q 0 0 4 [some (.ref f), some (vi k), some (vi (sI (fun j => rt (mv (A (f + 1)) (A (f + 2)) k (j + 1))) j)), some (vi t)] [] (sw F A) := by
    intro r
    induction r with
    | zero => intro j t e1 e2; omega
    | succ r ih =>
      intro j t e1 e2 ek
      refine L_iload_n eX1_pathOf_4 rfl ?_
      refine L_aload_n eX1_pathOf_5 rfl ?_
      refine L_get eX1_pathOf_6 f_X1_15.g hf.k (hf.i (by decide)) ?_
      -- at 9: .if_icmp .gt 18
      refine V_icmpgt eX1_pathOf_9 (fun h2 => ?_) (fun h2 => ?_)
      · have e : j = T := by omega
        subst e
        refine L_iload_n eX1_pathOf_27 rfl ?_
        -- at 28: .ireturn
        exact V_ireturn eX1_pathOf_28 (by rw [← hQ]; exact ⟨rfl, rfl⟩)
      · subst ek
        refine L_iload_n eX1_pathOf_12 rfl ?_
        refine L_aload_n eX1_pathOf_13 rfl ?_
        refine L_iload_n eX1_pathOf_14 rfl ?_
        refine L_iload_n eX1_pathOf_15 rfl ?_
        refine C_v1 (p_X1_speedOf hf hb (by omega) (by omega)) v_X1_105 eX1_pathOf_16 hf.k rfl ?_
        refine V_iadd eX1_pathOf_19 ?_
        refine L_istore_n eX1_pathOf_20 (s_2 rfl rfl) ?_
        refine L_iinc eX1_pathOf_21 rfl (s_3 rfl rfl) ?_
        refine V_goto eX1_pathOf_24 ?_
        exact ih (j + 1) _ (by omega) (by omega) (by omega)
  exact LOOP (T + 1) 0 1 (by omega) (by omega) (by omega)
theorem mxF_b {f : Nat → Int} {a B : Int} (ha : 0 ≤ a ∧ a ≤ B) : ∀ n : Nat, (∀ j, j < n → 0 ≤ f j ∧ f j ≤ B) → 0 ≤ mxF f a n ∧ mxF f a n ≤ B := by
  intro n
  induction n with
  | zero => intro _; exact ha
  | succ n ih =>
    intro h
    have h1 := ih (fun j hj => h j (by omega))
    have h2 := h n (by omega)
    show 0 ≤ max _ _ ∧ max _ _ ≤ B
    omega
theorem gM_b {v : Int → Int → Int} {n T : Nat} {B : Int} (hB : 0 ≤ B) (h : ∀ k t : Int, 1 ≤ k → k ≤ n → 1 ≤ t → t ≤ T → 0 ≤ v k t ∧ v k t ≤ B) : ∀ j : Nat, j ≤ T → 0 ≤ gM v n j ∧ gM v n j ≤ B := by
  intro j
  induction j with
  | zero => intro _; exact ⟨by show (0 : Int) ≤ 0; omega, hB⟩
  | succ j ih =>
    intro hj
    exact mxF_b (ih (by omega)) n (fun i hi => h _ _ (by omega) (by omega) (by omega) (by omega))
theorem p_X1_greatestSpeed (hf : isFl f) {n T : Nat} (hb : bA (A (f + 1), A (f + 2))) (h0 : F f 0 = n) (h1 : F f 1 = T) (hn : n ≤ 12) (hT : T ≤ 60) : Pu G mX1_greatestSpeed [.ref f] F A (vi (rt (gM (mv (A (f + 1)) (A (f + 2))) n T))) := by
  have hmv : ∀ k t : Int, 1 ≤ k → k ≤ n → 1 ≤ t → t ≤ T → 0 ≤ mv (A (f + 1)) (A (f + 2)) k t ∧ mv (A (f + 1)) (A (f + 2)) k t ≤ 140000000000 := fun k t a b c d => by
    have := mv_b hb (k := k) (t := t) (by omega) (by omega)
    exact ⟨this.2.2.2.2.1, this.2.2.2.2.2.1⟩
  have hg := gM_b (v := mv (A (f + 1)) (A (f + 2))) (n := n) (T := T) (B := 140000000000) (by omega) hmv
  refine L_ent [some (.ref f), none, none, none, none] rfl ?_
  generalize hQ : (fun (r' : Option Value) (w : wT) => r' = some (vi (rt (gM (mv (A (f + 1)) (A (f + 2))) n T))) ∧ w = sw F A) = Q
  refine L_lconst0 eX1_greatestSpeed_0 ?_
  refine L_lstore_n eX1_greatestSpeed_1 (t_1 rfl) ?_
  refine V_iconst eX1_greatestSpeed_2 ?_
  refine L_istore_n eX1_greatestSpeed_3 (s_3 rfl rfl) ?_
  have LOOP : ∀ (r j : Nat) (t : Int) (x4 : Option Value), T < r + j → j ≤ T → t = j + 1 → V G mX1_greatestSpeed Q 0 0 4 [some (.ref f), some (vl (gM (mv (A (f + 1)) (A (f + 2))) n j)), none, some (vi t), x4] [] (sw F A) := by
    intro r
    induction r with
    | zero => intro j t x4 e1 e2; omega
    | succ r ih =>
      intro j t x4 e1 e2 et
      refine L_iload_n eX1_greatestSpeed_4 rfl ?_
      refine L_aload_n eX1_greatestSpeed_5 rfl ?_
      refine L_get eX1_greatestSpeed_6 f_X1_15.g hf.k (hf.i (by decide)) ?_
      -- at 9: .if_icmp .gt 39
      refine V_icmpgt eX1_greatestSpeed_9 (fun h2 => ?_) (fun h2 => ?_)
      · have e : j = T := by omega
        subst e
        have := hg j (Nat.le_refl _)
        refine L_lload_n eX1_greatestSpeed_48 rfl ?_
        refine C_n1 (p_X10_root (by omega)) v_X1_81 eX1_greatestSpeed_49 rfl ?_
        refine V_l2i eX1_greatestSpeed_52 ?_
        -- at 53: .ireturn
        exact V_ireturn eX1_greatestSpeed_53 (by rw [← hQ]; exact ⟨rfl, rfl⟩)
      · subst et
        have IN : ∀ (r i : Nat) (k : Int), n < r + i → i ≤ n → k = i + 1 → V G mX1_greatestSpeed Q 0 0 15 [some (.ref f), some (vl (mxF (fun i => mv (A (f + 1)) (A (f + 2)) (i + 1) ((j : Int) + 1)) (gM (mv (A (f + 1)) (A (f + 2))) n j) i)), none, some (vi ((j : Int) + 1)), some (vi k)] [] (sw F A) := by
          intro r
          induction r with
          | zero => intro i k e3 e4; omega
          | succ r ihr =>
            intro i k e3 e4 ek
            have hm := mxF_b (f := fun i => mv (A (f + 1)) (A (f + 2)) (i + 1) ((j : Int) + 1)) (hg j e2) i (fun a ha => hmv _ _ (by omega) (by omega) (by omega) (by omega))
            refine L_iload eX1_greatestSpeed_15 rfl ?_
            refine L_aload_n eX1_greatestSpeed_17 rfl ?_
            refine L_get eX1_greatestSpeed_18 f_X1_9.g hf.k (hf.i (by decide)) ?_
            -- at 21: .if_icmp .gt 21
            refine V_icmpgt eX1_greatestSpeed_21 (fun h3 => ?_) (fun h3 => ?_)
            · have e : i = n := by omega
              subst e
              refine L_iinc eX1_greatestSpeed_42 rfl (s_3 rfl rfl) ?_
              refine V_goto eX1_greatestSpeed_45 ?_
              exact ih (j + 1) _ _ (by omega) (by omega) (by omega)
            · subst ek
              have hv := hmv ((i : Int) + 1) ((j : Int) + 1) (by omega) (by omega) (by omega) (by omega)
              refine L_lload_n eX1_greatestSpeed_24 rfl ?_
              refine L_aload_n eX1_greatestSpeed_25 rfl ?_
              refine L_iload eX1_greatestSpeed_26 rfl ?_
              refine L_iload_n eX1_greatestSpeed_28 rfl ?_
              refine C_v1 (p_X1_moved hf hb (by omega) (by omega)) v_X1_98 eX1_greatestSpeed_29 hf.k rfl ?_
              refine V_mmaxl v_X1_108 eX1_greatestSpeed_32 ?_
              refine L_lstore_n eX1_greatestSpeed_35 (t_1 rfl) ?_
              refine L_iinc eX1_greatestSpeed_36 rfl (s_4 rfl rfl) ?_
              refine V_goto eX1_greatestSpeed_39 ?_
              exact ihr (i + 1) _ (by omega) (by omega) (by omega)
        refine V_iconst eX1_greatestSpeed_12 ?_
        refine L_istore eX1_greatestSpeed_13 (s_4 rfl rfl) ?_
        exact IN (n + 1) 0 1 (by omega) (by omega) (by omega)
  exact LOOP (T + 1) 0 1 _ (by omega) (by omega) (by omega)
theorem p_X1_loopOf (hf : isFl f) {n : Nat} {t : Int} (hb : bA (A (f + 1), A (f + 2))) (h0 : F f 0 = n) (hn : 1 ≤ n ∧ n ≤ 12) (ht : 0 ≤ t ∧ t ≤ 60) : Pu G mX1_loopOf [.ref f, vi t] F A (vi (lpO (A (f + 1)) (A (f + 2)) n t)) := by
  refine L_ent [some (.ref f), some (vi t), none, none, none, none, none, none, none, none, none] rfl ?_
  generalize hQ : (fun (r' : Option Value) (w : wT) => r' = some (vi (lpO (A (f + 1)) (A (f + 2)) n t)) ∧ w = sw F A) = Q
  refine V_iconst eX1_loopOf_0 ?_
  refine L_istore_n eX1_loopOf_1 (s_2 rfl rfl) ?_
  refine L_lconst0 eX1_loopOf_2 ?_
  refine L_lstore_n eX1_loopOf_3 (t_3 rfl) ?_
  refine V_iconst eX1_loopOf_4 ?_
  refine L_istore eX1_loopOf_5 (s_5 rfl rfl) ?_
  have LOOP : ∀ (r j : Nat) (k : Int) (x6 x7 x8 x9 x10 : Option Value), n < r + j + 1 → j + 1 ≤ n → k = j + 1 → V G mX1_loopOf Q 0 0 7 [some (.ref f), some (vi t), some (vi (lpS (A (f + 1)) (A (f + 2)) t j).2), some (vl (lpS (A (f + 1)) (A (f + 2)) t j).1), none, some (vi k), x6, x7, x8, x9, x10] [] (sw F A) := by
    intro r
    induction r with
    | zero => intro j k x6 x7 x8 x9 x10 e1 e2; omega
    | succ r ih =>
      intro j k x6 x7 x8 x9 x10 e1 e2 ek
      have hl := lpS_b hb ht j (by omega)
      refine L_iload eX1_loopOf_7 rfl ?_
      refine L_aload_n eX1_loopOf_9 rfl ?_
      refine L_get eX1_loopOf_10 f_X1_9.g hf.k (hf.i (by decide)) ?_
      -- at 13: .if_icmp .ge 115
      refine V_icmpge eX1_loopOf_13 (fun h1 => ?_) (fun h1 => ?_)
      · have e : j = n - 1 := by omega
        subst e
        refine L_iload_n eX1_loopOf_128 rfl ?_
        -- at 129: .ireturn
        exact V_ireturn eX1_loopOf_129 (by rw [← hQ]; exact ⟨rfl, rfl⟩)
      · have hd := dot_b hb (k := k) (by omega) ht
        have hstep : lpS (A (f + 1)) (A (f + 2)) t (j + 1) = if dot (A (f + 1)) (A (f + 2)) t k < (lpS (A (f + 1)) (A (f + 2)) t j).1 then (dot (A (f + 1)) (A (f + 2)) t k, k) else lpS (A (f + 1)) (A (f + 2)) t j := by rw [ek]; rfl
        have hnext := fun x6 x7 x8 x9 x10 => ih (j + 1) (k + 1) x6 x7 x8 x9 x10 (by omega) (by omega) (by omega)
        rw [hstep] at hnext
        unfold dot at hd hnext
        unfold ab at hd hl
        refine L_iload_n eX1_loopOf_16 rfl ?_
        refine L_bipush eX1_loopOf_17 rfl ?_
        refine V_imul eX1_loopOf_19 ?_
        refine L_iload eX1_loopOf_20 rfl ?_
        refine V_iadd eX1_loopOf_22 ?_
        refine V.topi (show t * 13 + k = 13 * t + k by omega) ?_
        refine L_istore eX1_loopOf_23 (s_6 rfl rfl) ?_
        refine L_aload_n eX1_loopOf_25 rfl ?_
        refine L_getR eX1_loopOf_26 f_X1_24.g hf.k hf.r4 (by omega) ?_
        refine L_iload eX1_loopOf_29 rfl ?_
        refine L_iald eX1_loopOf_31 hf.k1 ?_
        refine L_aload_n eX1_loopOf_32 rfl ?_
        refine L_getR eX1_loopOf_33 f_X1_24.g hf.k hf.r4 (by omega) ?_
        refine L_iload eX1_loopOf_36 rfl ?_
        refine V_iconst eX1_loopOf_38 ?_
        refine V_isub eX1_loopOf_39 ?_
        refine L_iald eX1_loopOf_40 hf.k1 ?_
        refine V_isub eX1_loopOf_41 ?_
        refine V_i2l eX1_loopOf_42 ?_
        refine L_aload_n eX1_loopOf_43 rfl ?_
        refine L_getR eX1_loopOf_44 f_X1_24.g hf.k hf.r4 (by omega) ?_
        refine L_iload eX1_loopOf_47 rfl ?_
        refine V_iconst eX1_loopOf_49 ?_
        refine V_iadd eX1_loopOf_50 ?_
        refine L_iald eX1_loopOf_51 hf.k1 ?_
        refine L_aload_n eX1_loopOf_52 rfl ?_
        refine L_getR eX1_loopOf_53 f_X1_24.g hf.k hf.r4 (by omega) ?_
        refine L_iload eX1_loopOf_56 rfl ?_
        refine L_iald eX1_loopOf_58 hf.k1 ?_
        refine V_isub eX1_loopOf_59 ?_
        refine V_i2l eX1_loopOf_60 ?_
        refine V_lmul eX1_loopOf_61 ?_
        refine L_lstore eX1_loopOf_62 (t_7 rfl) ?_
        refine L_aload_n eX1_loopOf_64 rfl ?_
        refine L_getR eX1_loopOf_65 f_X1_28.g hf.k hf.r5 (by omega) ?_
        refine L_iload eX1_loopOf_68 rfl ?_
        refine L_iald eX1_loopOf_70 hf.k2 ?_
        refine L_aload_n eX1_loopOf_71 rfl ?_
        refine L_getR eX1_loopOf_72 f_X1_28.g hf.k hf.r5 (by omega) ?_
        refine L_iload eX1_loopOf_75 rfl ?_
        refine V_iconst eX1_loopOf_77 ?_
        refine V_isub eX1_loopOf_78 ?_
        refine L_iald eX1_loopOf_79 hf.k2 ?_
        refine V_isub eX1_loopOf_80 ?_
        refine V_i2l eX1_loopOf_81 ?_
        refine L_aload_n eX1_loopOf_82 rfl ?_
        refine L_getR eX1_loopOf_83 f_X1_28.g hf.k hf.r5 (by omega) ?_
        refine L_iload eX1_loopOf_86 rfl ?_
        refine V_iconst eX1_loopOf_88 ?_
        refine V_iadd eX1_loopOf_89 ?_
        refine L_iald eX1_loopOf_90 hf.k2 ?_
        refine L_aload_n eX1_loopOf_91 rfl ?_
        refine L_getR eX1_loopOf_92 f_X1_28.g hf.k hf.r5 (by omega) ?_
        refine L_iload eX1_loopOf_95 rfl ?_
        refine L_iald eX1_loopOf_97 hf.k2 ?_
        refine V_isub eX1_loopOf_98 ?_
        refine V_i2l eX1_loopOf_99 ?_
        refine V_lmul eX1_loopOf_100 ?_
        refine L_lstore eX1_loopOf_101 (t_9 rfl) ?_
        refine L_lload eX1_loopOf_103 rfl ?_
        refine L_lload eX1_loopOf_105 rfl ?_
        refine V_ladd eX1_loopOf_107 ?_
        refine L_lload_n eX1_loopOf_108 rfl ?_
        -- at 109: .lcmp
        refine V_lcmpge eX1_loopOf_109 eX1_loopOf_110 (fun h2 => ?_) (fun h2 => ?_)
        · rw [if_neg (by omega)] at hnext
          refine L_iinc eX1_loopOf_122 rfl (s_5 rfl rfl) ?_
          refine V_goto eX1_loopOf_125 ?_
          exact hnext _ _ _ _ _
        · rw [if_pos (by omega)] at hnext
          refine L_lload eX1_loopOf_113 rfl ?_
          refine L_lload eX1_loopOf_115 rfl ?_
          refine V_ladd eX1_loopOf_117 ?_
          refine L_lstore_n eX1_loopOf_118 (t_3 rfl) ?_
          refine L_iload eX1_loopOf_119 rfl ?_
          refine L_istore_n eX1_loopOf_121 (s_2 rfl rfl) ?_
          refine L_iinc eX1_loopOf_122 rfl (s_5 rfl rfl) ?_
          refine V_goto eX1_loopOf_125 ?_
          exact hnext _ _ _ _ _
  exact LOOP n 0 1 _ _ _ _ _ (by omega) (by omega) (by omega)
end P40

