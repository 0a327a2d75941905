/-! distances, loops, turns read off a THROW -/
def qP (X Y : Int → Int) (x y k t : Int) : Int := (X (13 * t + k) - x) * (X (13 * t + k) - x) + (Y (13 * t + k) - y) * (Y (13 * t + k) - y)
theorem qP_b {X Y : Int → Int} {x y k t : Int} (h : bA (X, Y)) (hx : ab 5000 x) (hy : ab 5000 y) (hk : 0 ≤ k ∧ k ≤ 12) (ht : 0 ≤ t ∧ t ≤ 60) : ab 130000 (X (13 * t + k)) ∧ ab 130000 (Y (13 * t + k)) ∧ 0 ≤ qP X Y x y k t ∧ qP X Y x y k t ≤ 36450000000 ∧ 0 ≤ rt (qP X Y x y k t) ∧ rt (qP X Y x y k t) < 200000 := by
  have h1 := h (13 * t + k) (by omega) (by omega)
  simp only [] at h1
  have q1 := ab_sq (B := 135000) (z := X (13 * t + k) - x) (by unfold ab at *; omega)
  have q2 := ab_sq (B := 135000) (z := Y (13 * t + k) - y) (by unfold ab at *; omega)
  have e0 : 0 ≤ qP X Y x y k t := by unfold qP; omega
  have e1 : qP X Y x y k t ≤ 36450000000 := by unfold qP; omega
  refine ⟨h1.1, h1.2, e0, e1, rt_nn _, ?_⟩
  have := rt_le e0
  exact sq_lt (by omega) (by omega)
def hlP (X Y : Int → Int) (n T : Nat) : Prop := ∃ j : Nat, j < T ∧ lpO X Y n (j + 1) ≠ -1
def ohP (Y : Int → Int) (len : Int) (n T : Nat) : Prop := ∃ j : Nat, j < T ∧ ∃ i : Nat, i < n ∧ 2 * len < Y (13 * ((j : Int) + 1) + ((i : Int) + 1)) - Y (13 * ((j : Int) + 1))
def coP (n lp k : Int) : Int := if lp ≠ -1 ∧ (k = lp ∨ k - 1 = lp) then 1 else if k = n then 0 else 2
def nrS (g : Int × Int → Int) (b : Int) (e : Int × Int) : Int := if b = -1 then g e else min b (g e)
def nrL (g : Int × Int → Int) (L : List (Int × Int)) : Int := L.foldl (nrS g) (-1)
def mnF (f : Nat → Int) (a : Int) : Nat → Int
  | 0 => a
  | n + 1 => min (mnF f a n) (f n)
def gN (v : Int → Int → Int) (n : Nat) (a : Int) : Nat → Int
  | 0 => a
  | t + 1 => mnF (fun j => v j t) (gN v n a t) (n + 1)
/-- the first of the nearest from a on -/
def ntS (g : Int → Int) (a : Int) : Nat → Int
  | 0 => a
  | j + 1 => if g (a + j) < g (ntS g a j) then a + j else ntS g a j
def tuD (now was : Int) : Int := if now = (was + 1) % 4 then 1 else if was = (now + 1) % 4 then -1 else 0
/-- TURNS so far, and the quarter -/
def tuS (X Y : Int → Int) (x y n : Int) : Nat → Int × Int
  | 0 => (0, 0)
  | j + 1 => ((tuS X Y x y n j).1 + (if j = 0 then 0 else tuD (qrT (X (13 * j + n) - x) (Y (13 * j + n) - y) (tuS X Y x y n j).2) (tuS X Y x y n j).2), qrT (X (13 * j + n) - x) (Y (13 * j + n) - y) (tuS X Y x y n j).2)
theorem qrT_b {x y was : Int} (h : 0 ≤ was ∧ was ≤ 3) : 0 ≤ qrT x y was ∧ qrT x y was ≤ 3 := by
  unfold qrT
  split
  · omega
  · split
    · omega
    · split
      · omega
      · split <;> omega
theorem tuS_b {X Y : Int → Int} {x y n : Int} : ∀ j : Nat, (-(j : Int) ≤ (tuS X Y x y n j).1 ∧ (tuS X Y x y n j).1 ≤ j) ∧ 0 ≤ (tuS X Y x y n j).2 ∧ (tuS X Y x y n j).2 ≤ 3 := by
  intro j
  induction j with
  | zero => exact ⟨⟨by show -(0 : Int) ≤ 0; omega, by show (0 : Int) ≤ 0; omega⟩, by show (0 : Int) ≤ 0; omega, by show (0 : Int) ≤ 3; omega⟩
  | succ j ih =>
    refine ⟨?_, qrT_b ih.2⟩
    show -((j + 1 : Nat) : Int) ≤ _ + _ ∧ _ + _ ≤ ((j + 1 : Nat) : Int)
    unfold tuD
    split
    · omega
    · split
      · omega
      · split <;> omega
section P42
variable {G : gT} {F : fT} {A : nT} {f : Nat}
theorem p_X1_hasLoop (hf : isFl f) {n T : Nat} (hb : bA (A (f + 1), A (f + 2))) (h0 : F f 0 = n) (h1 : F f 1 = T) (hn : 1 ≤ n ∧ n ≤ 12) (hT : T ≤ 60) : Pu G mX1_hasLoop [.ref f] F A (vi (@ite Int (hlP (A (f + 1)) (A (f + 2)) n T) (Classical.propDecidable _) 1 0)) := by
  refine L_ent [some (.ref f), none] rfl ?_
  generalize hQ : (fun (r' : Option Value) (w : wT) => r' = some (vi (@ite Int (hlP (A (f + 1)) (A (f + 2)) n T) (Classical.propDecidable _) 1 0)) ∧ w = sw F A) = Q
  refine V_iconst eX1_hasLoop_0 ?_
  refine L_istore_n eX1_hasLoop_1 (s_1 rfl rfl) ?_
  have LOOP : ∀ (r j : Nat) (t : Int), T < r + j → j ≤ T → t = j + 1 → (∀ i : Nat, i < j → lpO (A (f + 1)) (A (f + 2)) n (i + 1) = -1) → V G mX1_hasLoop Q 0 0 2 [some (.ref f), some (vi t)] [] (sw F A) := by
    intro r
    induction r with
    | zero => intro j t e1 e2; omega
    | succ r ih =>
      intro j t e1 e2 et hE
      refine L_iload_n eX1_hasLoop_2 rfl ?_
      refine L_aload_n eX1_hasLoop_3 rfl ?_
      refine L_get eX1_hasLoop_4 f_X1_15.g hf.k (hf.i (by decide)) ?_
      -- at 7: .if_icmp .gt 20
      refine V_icmpgt eX1_hasLoop_7 (fun h3 => ?_) (fun h3 => ?_)
      · refine V_iconst eX1_hasLoop_27 ?_
        -- at 28: .ireturn
        exact V_zreturn (by first | exact nar_z (by omega) | rfl) eX1_hasLoop_28 (by
          rw [← hQ]
          refine ⟨?_, rfl⟩
          rw [if_neg]
          rintro ⟨i, h4, h5⟩
          exact h5 (hE i (by omega)))
      · have hl := lpS_b hb (t := t) (by omega) (n - 1) (by omega)
        refine L_aload_n eX1_hasLoop_10 rfl ?_
        refine L_iload_n eX1_hasLoop_11 rfl ?_
        refine C_v1 (p_X1_loopOf hf hb (n := n) h0 hn (by omega)) v_X1_110 eX1_hasLoop_12 hf.k rfl ?_
        unfold lpO
        refine V_iconst eX1_hasLoop_15 ?_
        -- at 16: .if_icmp .eq 5
        refine V_icmpeq eX1_hasLoop_16 (fun h4 => ?_) (fun h4 => ?_)
        · refine L_iinc eX1_hasLoop_21 rfl (s_1 rfl rfl) ?_
          refine V_goto eX1_hasLoop_24 ?_
          refine ih (j + 1) _ (by omega) (by omega) (by omega) (fun i hi => ?_)
          by_cases e : i = j
          · rw [e, ← et]; exact h4
          · exact hE i (by omega)
        · refine V_iconst eX1_hasLoop_19 ?_
          -- at 20: .ireturn
          exact V_zreturn (by first | exact nar_z (by omega) | rfl) eX1_hasLoop_20 (by
            rw [← hQ]
            refine ⟨?_, rfl⟩
            rw [if_pos ⟨j, by omega, by rw [← et]; exact h4⟩])
  exact LOOP (T + 1) 0 1 (by omega) (by omega) (by omega) (fun i hi => by omega)
theorem p_X1_isOverhead (hf : isFl f) {n T : Nat} (hb : bA (A (f + 1), A (f + 2))) (hl : 20 ≤ F f 3 ∧ F f 3 ≤ 200) (h0 : F f 0 = n) (h1 : F f 1 = T) (hn : 1 ≤ n ∧ n ≤ 12) (hT : T ≤ 60) : Pu G mX1_isOverhead [.ref f] F A (vi (@ite Int (ohP (A (f + 2)) (F f 3) n T) (Classical.propDecidable _) 1 0)) := by
  refine L_ent [some (.ref f), none, none] rfl ?_
  generalize hQ : (fun (r' : Option Value) (w : wT) => r' = some (vi (@ite Int (ohP (A (f + 2)) (F f 3) n T) (Classical.propDecidable _) 1 0)) ∧ w = sw F A) = Q
  refine V_iconst eX1_isOverhead_0 ?_
  refine L_istore_n eX1_isOverhead_1 (s_1 rfl rfl) ?_
  have LOOP : ∀ (r j : Nat) (t : Int) (x2 : Option Value), T < r + j → j ≤ T → t = j + 1 → (∀ j' : Nat, j' < j → ∀ i : Nat, i < n → ¬ 2 * F f 3 < A (f + 2) (13 * ((j' : Int) + 1) + ((i : Int) + 1)) - A (f + 2) (13 * ((j' : Int) + 1))) → V G mX1_isOverhead Q 0 0 2 [some (.ref f), some (vi t), x2] [] (sw F A) := by
    intro r
    induction r with
    | zero => intro j t x2 e1 e2; omega
    | succ r ih =>
      intro j t x2 e1 e2 et hE
      refine L_iload_n eX1_isOverhead_2 rfl ?_
      refine L_aload_n eX1_isOverhead_3 rfl ?_
      refine L_get eX1_isOverhead_4 f_X1_15.g hf.k (hf.i (by decide)) ?_
      -- at 7: .if_icmp .gt 49
      refine V_icmpgt eX1_isOverhead_7 (fun h3 => ?_) (fun h3 => ?_)
      · refine V_iconst eX1_isOverhead_56 ?_
        -- at 57: .ireturn
        exact V_zreturn (by first | exact nar_z (by omega) | rfl) eX1_isOverhead_57 (by
          rw [← hQ]
          refine ⟨?_, rfl⟩
          rw [if_neg]
          rintro ⟨j', h4, i, h5, h6⟩
          exact hE j' (by omega) i h5 h6)
      · have IN : ∀ (r i : Nat) (k : Int), n < r + i → i ≤ n → k = i + 1 → (∀ i' : Nat, i' < i → ¬ 2 * F f 3 < A (f + 2) (13 * t + ((i' : Int) + 1)) - A (f + 2) (13 * t)) → V G mX1_isOverhead Q 0 0 12 [some (.ref f), some (vi t), some (vi k)] [] (sw F A) := by
          intro r
          induction r with
          | zero => intro i k e3 e4; omega
          | succ r ihr =>
            intro i k e3 e4 ek hI
            refine L_iload_n eX1_isOverhead_12 rfl ?_
            refine L_aload_n eX1_isOverhead_13 rfl ?_
            refine L_get eX1_isOverhead_14 f_X1_9.g hf.k (hf.i (by decide)) ?_
            -- at 17: .if_icmp .gt 33
            refine V_icmpgt eX1_isOverhead_17 (fun h4 => ?_) (fun h4 => ?_)
            · refine L_iinc eX1_isOverhead_50 rfl (s_1 rfl rfl) ?_
              refine V_goto eX1_isOverhead_53 ?_
              refine ih (j + 1) _ _ (by omega) (by omega) (by omega) (fun j' hj i' hi => ?_)
              by_cases e : j' = j
              · rw [e, ← et]; exact hI i' (by omega)
              · exact hE j' (by omega) i' hi
            · have b1 := (hb (13 * t + k) (by omega) (by omega)).2
              have b2 := (hb (13 * t) (by omega) (by omega)).2
              simp only [] at b1 b2
              unfold ab at b1 b2
              refine L_aload_n eX1_isOverhead_20 rfl ?_
              refine L_iload_n eX1_isOverhead_21 rfl ?_
              refine L_iload_n eX1_isOverhead_22 rfl ?_
              refine C_v1 (p_X1_yOf hf (by omega) (by omega)) v_X1_113 eX1_isOverhead_23 hf.k rfl ?_
              refine L_aload_n eX1_isOverhead_26 rfl ?_
              refine V_iconst eX1_isOverhead_27 ?_
              refine L_iload_n eX1_isOverhead_28 rfl ?_
              refine C_v1 (p_X1_yOf hf (by omega) (by omega)) v_X1_113 eX1_isOverhead_29 hf.k rfl ?_
              rw [Int.add_zero]
              refine V_isub eX1_isOverhead_32 ?_
              refine V_iconst eX1_isOverhead_33 ?_
              refine L_aload_n eX1_isOverhead_34 rfl ?_
              refine L_get eX1_isOverhead_35 f_X1_21.g hf.k (hf.i (by decide)) ?_
              refine V_imul eX1_isOverhead_38 ?_
              -- at 39: .if_icmp .le 5
              refine V_icmple eX1_isOverhead_39 (fun h5 => ?_) (fun h5 => ?_)
              · refine L_iinc eX1_isOverhead_44 rfl (s_2 rfl rfl) ?_
                refine V_goto eX1_isOverhead_47 ?_
                refine ihr (i + 1) _ (by omega) (by omega) (by omega) (fun i' hi => ?_)
                by_cases e : i' = i
                · rw [e, ← ek]; omega
                · exact hI i' (by omega)
              · refine V_iconst eX1_isOverhead_42 ?_
                -- at 43: .ireturn
                exact V_zreturn (by first | exact nar_z (by omega) | rfl) eX1_isOverhead_43 (by
                  rw [← hQ]
                  refine ⟨?_, rfl⟩
                  rw [if_pos ⟨j, by omega, i, by omega, by rw [← et, ← ek]; omega⟩])
        refine V_iconst eX1_isOverhead_10 ?_
        refine L_istore_n eX1_isOverhead_11 (s_2 rfl rfl) ?_
        exact IN (n + 1) 0 1 (by omega) (by omega) (by omega) (fun i hi => by omega)
  exact LOOP (T + 1) 0 1 _ (by omega) (by omega) (by omega) (fun i hi => by omega)
theorem p_X1_crackOf (hf : isFl f) {n : Nat} {k t : Int} (hb : bA (A (f + 1), A (f + 2))) (h0 : F f 0 = n) (hn : 1 ≤ n ∧ n ≤ 12) (hk : 1 ≤ k ∧ k ≤ 12) (ht : 0 ≤ t ∧ t ≤ 60) : Pu G mX1_crackOf [.ref f, vi k, vi t] F A (vi (coP n (lpO (A (f + 1)) (A (f + 2)) n t) k)) := by
  have hl := lpS_b hb (t := t) (by omega) (n - 1) (by omega)
  refine L_ent [some (.ref f), some (vi k), some (vi t), none] rfl ?_
  refine L_aload_n eX1_crackOf_0 rfl ?_
  refine L_iload_n eX1_crackOf_1 rfl ?_
  refine C_v1 (p_X1_loopOf hf hb (n := n) h0 hn (by omega)) v_X1_110 eX1_crackOf_2 hf.k rfl ?_
  unfold lpO
  generalize (lpS (A (f + 1)) (A (f + 2)) t (n - 1)).2 = lp at hl
  refine L_istore_n eX1_crackOf_5 (s_3 rfl rfl) ?_
  refine L_iload_n eX1_crackOf_6 rfl ?_
  refine V_iconst eX1_crackOf_7 ?_
  refine V_icmpeq eX1_crackOf_8 (fun h8 => ?_) (fun h8 => ?_)
  · refine L_iload_n eX1_crackOf_25 rfl ?_
    refine L_aload_n eX1_crackOf_26 rfl ?_
    refine L_get eX1_crackOf_27 f_X1_9.g hf.k (hf.i (by decide)) ?_
    refine V_icmpne eX1_crackOf_30 (fun h30 => ?_) (fun h30 => ?_)
    · refine V_iconst eX1_crackOf_37 ?_
      exact V_ireturn eX1_crackOf_38 ⟨by congr 2; unfold coP; (repeat (first | rw [if_pos (by omega)] | rw [if_neg (by omega)])) <;> omega, rfl⟩
    · refine V_iconst eX1_crackOf_33 ?_
      refine V_goto eX1_crackOf_34 ?_
      exact V_ireturn eX1_crackOf_38 ⟨by congr 2; unfold coP; (repeat (first | rw [if_pos (by omega)] | rw [if_neg (by omega)])) <;> omega, rfl⟩
  · refine L_iload_n eX1_crackOf_11 rfl ?_
    refine L_iload_n eX1_crackOf_12 rfl ?_
    refine V_icmpeq eX1_crackOf_13 (fun h13 => ?_) (fun h13 => ?_)
    · refine V_iconst eX1_crackOf_23 ?_
      exact V_ireturn eX1_crackOf_24 ⟨by congr 2; unfold coP; (repeat (first | rw [if_pos (by omega)] | rw [if_neg (by omega)])) <;> omega, rfl⟩
    · refine L_iload_n eX1_crackOf_16 rfl ?_
      refine V_iconst eX1_crackOf_17 ?_
      refine V_isub eX1_crackOf_18 ?_
      refine L_iload_n eX1_crackOf_19 rfl ?_
      refine V_icmpne eX1_crackOf_20 (fun h20 => ?_) (fun h20 => ?_)
      · refine L_iload_n eX1_crackOf_25 rfl ?_
        refine L_aload_n eX1_crackOf_26 rfl ?_
        refine L_get eX1_crackOf_27 f_X1_9.g hf.k (hf.i (by decide)) ?_
        refine V_icmpne eX1_crackOf_30 (fun h30 => ?_) (fun h30 => ?_)
        · refine V_iconst eX1_crackOf_37 ?_
          exact V_ireturn eX1_crackOf_38 ⟨by congr 2; unfold coP; (repeat (first | rw [if_pos (by omega)] | rw [if_neg (by omega)])) <;> omega, rfl⟩
        · refine V_iconst eX1_crackOf_33 ?_
          refine V_goto eX1_crackOf_34 ?_
          exact V_ireturn eX1_crackOf_38 ⟨by congr 2; unfold coP; (repeat (first | rw [if_pos (by omega)] | rw [if_neg (by omega)])) <;> omega, rfl⟩
      · refine V_iconst eX1_crackOf_23 ?_
        exact V_ireturn eX1_crackOf_24 ⟨by congr 2; unfold coP; (repeat (first | rw [if_pos (by omega)] | rw [if_neg (by omega)])) <;> omega, rfl⟩
theorem p_X1_loudOf (hf : isFl f) {k t r : Int} (hb : bA (A (f + 1), A (f + 2))) (hk : 1 ≤ k ∧ k ≤ 12) (ht : 1 ≤ t ∧ t ≤ 60) (hw : 1 ≤ A (f + 3) k ∧ A (f + 3) k ≤ 80) (hr : 0 ≤ r ∧ r < 200000) : Pu G mX1_loudOf [.ref f, vi k, vi t, vi r] F A (vi ((1000 * rt (mv (A (f + 1)) (A (f + 2)) k t) * A (f + 3) k).tdiv (r + 1))) := by
  have hm := mv_b hb (k := k) (by omega) ht
  have m1 := ab_mul (B := 400000000) (C := 80) (a := 1000 * rt (mv (A (f + 1)) (A (f + 2)) k t)) (m := A (f + 3) k) (by unfold ab; omega) (by omega) (by omega)
  unfold ab at m1
  refine L_ent [some (.ref f), some (vi k), some (vi t), some (vi r)] rfl ?_
  refine L_ldc2 eX1_loudOf_0 k_X1_79 ?_
  refine L_aload_n eX1_loudOf_3 rfl ?_
  refine L_iload_n eX1_loudOf_4 rfl ?_
  refine L_iload_n eX1_loudOf_5 rfl ?_
  refine C_v1 (p_X1_speedOf hf hb (by omega) (by omega)) v_X1_105 eX1_loudOf_6 hf.k rfl ?_
  refine V_i2l eX1_loudOf_9 ?_
  refine V_lmul eX1_loudOf_10 ?_
  refine L_aload_n eX1_loudOf_11 rfl ?_
  refine L_getR eX1_loudOf_12 f_X1_31.g hf.k hf.r6 (by omega) ?_
  refine L_iload_n eX1_loudOf_15 rfl ?_
  refine L_iald eX1_loudOf_16 hf.k3 ?_
  refine V_i2l eX1_loudOf_17 ?_
  refine V_lmul eX1_loudOf_18 ?_
  refine V_iconst eX1_loudOf_19 ?_
  refine L_iload_n eX1_loudOf_20 rfl ?_
  refine V_mmax v_X1_73 eX1_loudOf_21 ?_
  rw [show max 0 r = r by omega]
  refine V_i2l eX1_loudOf_24 ?_
  refine L_lconst1 eX1_loudOf_25 ?_
  refine V_ladd eX1_loudOf_26 ?_
  refine V_ldiv eX1_loudOf_27 ?_
  refine V_l2i eX1_loudOf_28 ?_
  exact V_ireturn eX1_loudOf_29 ⟨rfl, rfl⟩
theorem p_X1_farOf (hf : isFl f) {k t x y : Int} (hb : bA (A (f + 1), A (f + 2))) (hk : 0 ≤ k ∧ k ≤ 12) (ht : 0 ≤ t ∧ t ≤ 60) (hx : ab 5000 x) (hy : ab 5000 y) : Pu G mX1_farOf [.ref f, vi k, vi t, vi x, vi y] F A (vi (rt (qP (A (f + 1)) (A (f + 2)) x y k t))) := by
  have hq := qP_b hb hx hy hk ht
  unfold ab at hq hx hy
  have hq2 := hq.2.2
  unfold qP at hq2
  refine L_ent [some (.ref f), some (vi k), some (vi t), some (vi x), some (vi y)] rfl ?_
  refine L_aload_n eX1_farOf_0 rfl ?_
  refine L_iload_n eX1_farOf_1 rfl ?_
  refine L_iload_n eX1_farOf_2 rfl ?_
  refine C_v1 (p_X1_xOf hf (by omega) (by omega)) v_X1_126 eX1_farOf_3 hf.k rfl ?_
  refine L_iload_n eX1_farOf_6 rfl ?_
  refine V_isub eX1_farOf_7 ?_
  refine V_i2l eX1_farOf_8 ?_
  refine L_aload_n eX1_farOf_9 rfl ?_
  refine L_iload_n eX1_farOf_10 rfl ?_
  refine L_iload_n eX1_farOf_11 rfl ?_
  refine C_v1 (p_X1_yOf hf (by omega) (by omega)) v_X1_113 eX1_farOf_12 hf.k rfl ?_
  refine L_iload eX1_farOf_15 rfl ?_
  refine V_isub eX1_farOf_17 ?_
  refine V_i2l eX1_farOf_18 ?_
  refine C_s1 p_X1_squares v_X1_95 eX1_farOf_19 rfl ?_
  refine C_n1 (p_X10_root (by omega)) v_X1_81 eX1_farOf_22 rfl ?_
  refine V_l2i eX1_farOf_25 ?_
  exact V_ireturn eX1_farOf_26 ⟨rfl, rfl⟩
theorem nrS_b {g : Int × Int → Int} {b : Int} {e : Int × Int} (hg : 0 ≤ g e ∧ g e < 200000) (hb : -1 ≤ b ∧ b < 200000) : -1 ≤ nrS g b e ∧ nrS g b e < 200000 := by
  unfold nrS
  split <;> omega
theorem p_X1_leastCrackFar (hf : isFl f) {n T : Nat} {x y : Int} (hb : bA (A (f + 1), A (f + 2))) (hp : 10 ≤ F f 2 ∧ F f 2 ≤ 2000) (h0 : F f 0 = n) (h1 : F f 1 = T) (hn : n ≤ 12) (hT : T ≤ 60) (hx : ab 5000 x) (hy : ab 5000 y) : Pu G mX1_leastCrackFar [.ref f, vi x, vi y] F A (vi (nrL (fun e => rt (qP (A (f + 1)) (A (f + 2)) x y e.2 e.1)) (ckL (A (f + 1)) (A (f + 2)) (F f 2) n T))) := by
  refine L_ent [some (.ref f), some (vi x), some (vi y), none, none, none, none] rfl ?_
  generalize hQ : (fun (r' : Option Value) (w : wT) => r' = some (vi (nrL (fun e => rt (qP (A (f + 1)) (A (f + 2)) x y e.2 e.1)) (ckL (A (f + 1)) (A (f + 2)) (F f 2) n T))) ∧ w = sw F A) = Q
  refine V_iconst eX1_leastCrackFar_0 ?_
  refine L_istore_n eX1_leastCrackFar_1 (s_3 rfl rfl) ?_
  refine V_iconst eX1_leastCrackFar_2 ?_
  refine L_istore eX1_leastCrackFar_3 (s_4 rfl rfl) ?_
  have LOOP : ∀ (r j : Nat) (t c : Int) (x5 x6 : Option Value), T < r + j → j ≤ T → t = j + 1 → c = nrL (fun e => rt (qP (A (f + 1)) (A (f + 2)) x y e.2 e.1)) (ckL (A (f + 1)) (A (f + 2)) (F f 2) n j) → (-1 ≤ c ∧ c < 200000) → V G mX1_leastCrackFar Q 0 0 5 [some (.ref f), some (vi x), some (vi y), some (vi c), some (vi t), x5, x6] [] (sw F A) := by
    intro r
    induction r with
    | zero => intro j t c x5 x6 e1 e2; omega
    | succ r ih =>
      intro j t c x5 x6 e1 e2 et ec hc
      refine L_iload eX1_leastCrackFar_5 rfl ?_
      refine L_aload_n eX1_leastCrackFar_7 rfl ?_
      refine L_get eX1_leastCrackFar_8 f_X1_15.g hf.k (hf.i (by decide)) ?_
      -- at 11: .if_icmp .gt 67
      refine V_icmpgt eX1_leastCrackFar_11 (fun h2 => ?_) (fun h2 => ?_)
      · have e : j = T := by omega
        subst e
        refine L_iload_n eX1_leastCrackFar_78 rfl ?_
        -- at 79: .ireturn
        exact V_ireturn eX1_leastCrackFar_79 (by rw [← hQ, ec]; exact ⟨rfl, rfl⟩)
      · have IN : ∀ (r i : Nat) (k d : Int) (x6 : Option Value), n < r + i → i ≤ n → k = i + 1 → d = (ckI (A (f + 1)) (A (f + 2)) (F f 2) t i).foldl (nrS (fun e => rt (qP (A (f + 1)) (A (f + 2)) x y e.2 e.1))) c → (-1 ≤ d ∧ d < 200000) → V G mX1_leastCrackFar Q 0 0 17 [some (.ref f), some (vi x), some (vi y), some (vi d), some (vi t), some (vi k), x6] [] (sw F A) := by
          intro r
          induction r with
          | zero => intro i k d x6 e3 e4; omega
          | succ r ihr =>
            intro i k d x6 e3 e4 ek ed hd
            refine L_iload eX1_leastCrackFar_17 rfl ?_
            refine L_aload_n eX1_leastCrackFar_19 rfl ?_
            refine L_get eX1_leastCrackFar_20 f_X1_9.g hf.k (hf.i (by decide)) ?_
            -- at 23: .if_icmp .gt 49
            refine V_icmpgt eX1_leastCrackFar_23 (fun h3 => ?_) (fun h3 => ?_)
            · have e : i = n := by omega
              subst e
              refine L_iinc eX1_leastCrackFar_72 rfl (s_4 rfl rfl) ?_
              refine V_goto eX1_leastCrackFar_75 ?_
              refine ih (j + 1) _ _ _ _ (by omega) (by omega) (by omega) ?_ hd
              rw [ckL, nrL, List.foldl_append, ed, ec, et]
              rfl
            · have hs : ckI (A (f + 1)) (A (f + 2)) (F f 2) t (i + 1) = ckI (A (f + 1)) (A (f + 2)) (F f 2) t i ++ (if ckP (A (f + 1)) (A (f + 2)) (F f 2) k t then [(t, k)] else []) := by rw [ek]; rfl
              have hq := qP_b hb hx hy (k := k) (t := t) (by omega) (by omega)
              refine L_aload_n eX1_leastCrackFar_26 rfl ?_
              refine L_iload eX1_leastCrackFar_27 rfl ?_
              refine L_iload eX1_leastCrackFar_29 rfl ?_
              refine C_v1 (p_X1_isCrack hf hb hp (by omega) (by omega)) v_X1_120 eX1_leastCrackFar_31 hf.k rfl ?_
              -- at 34: .ifCond .eq 32
              refine V_ifeqB eX1_leastCrackFar_34 (fun h4 => ?_) (fun h4 => ?_)
              · refine L_iinc eX1_leastCrackFar_66 rfl (s_5 rfl rfl) ?_
                refine V_goto eX1_leastCrackFar_69 ?_
                refine ihr (i + 1) _ _ _ (by omega) (by omega) (by omega) ?_ hd
                rw [hs, if_neg h4, List.append_nil]
                exact ed
              · have hnx := fun (x6 : Option Value) => ihr (i + 1) (k + 1) (nrS (fun e => rt (qP (A (f + 1)) (A (f + 2)) x y e.2 e.1)) d (t, k)) x6 (by omega) (by omega) (by omega) (by rw [hs, if_pos h4, List.foldl_append, ed]; rfl) (nrS_b ⟨by simp only []; omega, by simp only []; omega⟩ hd)
                unfold nrS at hnx
                simp only [] at hnx
                refine L_aload_n eX1_leastCrackFar_37 rfl ?_
                refine L_iload eX1_leastCrackFar_38 rfl ?_
                refine L_iload eX1_leastCrackFar_40 rfl ?_
                refine L_iload_n eX1_leastCrackFar_42 rfl ?_
                refine L_iload_n eX1_leastCrackFar_43 rfl ?_
                refine C_v1 (p_X1_farOf hf hb (by omega) (by omega) hx hy) v_X1_129 eX1_leastCrackFar_44 hf.k rfl ?_
                refine L_istore eX1_leastCrackFar_47 (s_6 rfl rfl) ?_
                refine L_iload_n eX1_leastCrackFar_49 rfl ?_
                refine V_iconst eX1_leastCrackFar_50 ?_
                -- at 51: .if_icmp .ne 8
                refine V_icmpne eX1_leastCrackFar_51 (fun h5 => ?_) (fun h5 => ?_)
                · rw [if_neg h5] at hnx
                  refine L_iload_n eX1_leastCrackFar_59 rfl ?_
                  refine L_iload eX1_leastCrackFar_60 rfl ?_
                  refine V_mmin v_X1_133 eX1_leastCrackFar_62 ?_
                  refine L_istore_n eX1_leastCrackFar_65 (s_3 rfl rfl) ?_
                  refine L_iinc eX1_leastCrackFar_66 rfl (s_5 rfl rfl) ?_
                  refine V_goto eX1_leastCrackFar_69 ?_
                  exact hnx _
                · rw [if_pos h5] at hnx
                  refine L_iload eX1_leastCrackFar_54 rfl ?_
                  refine V_goto eX1_leastCrackFar_56 ?_
                  refine L_istore_n eX1_leastCrackFar_65 (s_3 rfl rfl) ?_
                  refine L_iinc eX1_leastCrackFar_66 rfl (s_5 rfl rfl) ?_
                  refine V_goto eX1_leastCrackFar_69 ?_
                  exact hnx _
        refine V_iconst eX1_leastCrackFar_14 ?_
        refine L_istore eX1_leastCrackFar_15 (s_5 rfl rfl) ?_
        exact IN (n + 1) 0 1 c _ (by omega) (by omega) (by omega) rfl hc
  exact LOOP (T + 1) 0 1 (-1) _ _ (by omega) (by omega) (by omega) rfl (by omega)
end P42

