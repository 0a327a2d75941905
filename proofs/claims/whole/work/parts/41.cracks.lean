/-! CRACKS, as a list in their order -/
abbrev fsP (X Y : Int → Int) (p k t : Int) : Prop := 0 < t ∧ p * p ≤ mv X Y k t
abbrev ckP (X Y : Int → Int) (p k t : Int) : Prop := fsP X Y p k t ∧ ¬ fsP X Y p k (t - 1)
def ckI (X Y : Int → Int) (p t : Int) : Nat → List (Int × Int)
  | 0 => []
  | j + 1 => ckI X Y p t j ++ (if ckP X Y p (j + 1) t then [(t, (j : Int) + 1)] else [])
def ckL (X Y : Int → Int) (p : Int) (n : Nat) : Nat → List (Int × Int)
  | 0 => []
  | t + 1 => ckL X Y p n t ++ ckI X Y p (t + 1) n
theorem ckI_mem {X Y : Int → Int} {p t : Int} : ∀ {j : Nat} {e : Int × Int}, e ∈ ckI X Y p t j → e.1 = t ∧ 1 ≤ e.2 ∧ e.2 ≤ j := by
  intro j
  induction j with
  | zero => intro e h; cases h
  | succ j ih =>
    intro e h
    rw [ckI] at h
    rcases List.mem_append.mp h with h | h
    · have := ih h; omega
    · split at h
      · have := List.mem_singleton.mp h
        subst this
        exact ⟨rfl, by show (1 : Int) ≤ (j : Int) + 1; omega, by show (j : Int) + 1 ≤ ((j + 1 : Nat) : Int); omega⟩
      · cases h
theorem ckI_pre {X Y : Int → Int} {p t : Int} {i : Nat} : ∀ {n : Nat}, i ≤ n → ∃ r, ckI X Y p t n = ckI X Y p t i ++ r := by
  intro n
  induction n with
  | zero => intro h; exact ⟨[], by rw [show i = 0 by omega]; rfl⟩
  | succ n ih =>
    intro h
    by_cases e : i = n + 1
    · exact ⟨[], by rw [e]; simp⟩
    · obtain ⟨r, hr⟩ := ih (by omega)
      exact ⟨r ++ (if ckP X Y p (n + 1) t then [(t, (n : Int) + 1)] else []), by rw [ckI, hr, List.append_assoc]⟩
theorem ckL_pre {X Y : Int → Int} {p : Int} {n j : Nat} : ∀ {T : Nat}, j ≤ T → ∃ r, ckL X Y p n T = ckL X Y p n j ++ r := by
  intro T
  induction T with
  | zero => intro h; exact ⟨[], by rw [show j = 0 by omega]; rfl⟩
  | succ T ih =>
    intro h
    by_cases e : j = T + 1
    · exact ⟨[], by rw [e]; simp⟩
    · obtain ⟨r, hr⟩ := ih (by omega)
      exact ⟨r ++ ckI X Y p (T + 1) n, by rw [ckL, hr, List.append_assoc]⟩
theorem ckL_at {X Y : Int → Int} {p : Int} {n j i T : Nat} (hj : j < T) (hi : i < n) (hc : ckP X Y p (i + 1) (j + 1)) : ∃ r, ckL X Y p n T = (ckL X Y p n j ++ ckI X Y p (j + 1) i) ++ ((j : Int) + 1, (i : Int) + 1) :: r := by
  obtain ⟨r1, h1⟩ := ckL_pre (X := X) (Y := Y) (p := p) (n := n) (j := j + 1) (T := T) (by omega)
  obtain ⟨r2, h2⟩ := ckI_pre (X := X) (Y := Y) (p := p) (t := (j : Int) + 1) (i := i + 1) (n := n) (by omega)
  rw [ckI, if_pos hc] at h2
  exact ⟨r2 ++ r1, by rw [h1, ckL, h2]; simp⟩
/-- CRACK i, its TICK and JOINT in one number -/
def fcR (L : List (Int × Int)) (i : Int) : Int := if i < 0 then -1 else match L[i.toNat]? with
  | some e => 13 * e.1 + e.2
  | none => -1
def ftR (L : List (Int × Int)) : Int := match L with
  | [] => -1
  | e :: _ => e.1
def ltR (L : List (Int × Int)) : Int := match L.getLast? with
  | some e => e.1
  | none => -1
section P41
variable {G : gT} {F : fT} {A : nT} {f : Nat}
theorem p_X1_isFast (hf : isFl f) {k t : Int} (hb : bA (A (f + 1), A (f + 2))) (hp : 10 ≤ F f 2 ∧ F f 2 ≤ 2000) (hk : 0 ≤ k ∧ k ≤ 12) (ht : 0 ≤ t ∧ t ≤ 60) : Pu G mX1_isFast [.ref f, vi k, vi t] F A (vi (if fsP (A (f + 1)) (A (f + 2)) (F f 2) k t then 1 else 0)) := by
  have q := sq_le (a := F f 2) (b := 2000) (by omega) (by omega)
  have q0 := sq_le (a := 0) (b := F f 2) (by omega) (by omega)
  refine L_ent [some (.ref f), some (vi k), some (vi t)] rfl ?_
  refine L_iload_n eX1_isFast_0 rfl ?_
  -- at 1: .ifCond .le 28
  refine V_ifle eX1_isFast_1 (fun h1 => ?_) (fun h1 => ?_)
  · refine V_iconst eX1_isFast_29 ?_
    exact V_zreturn (by first | exact nar_z (by omega) | rfl) eX1_isFast_30 ⟨by rw [if_neg (fun h => by have := h.1; omega)], rfl⟩
  · have hm := mv_b hb hk (t := t) (by omega)
    refine L_aload_n eX1_isFast_4 rfl ?_
    refine L_iload_n eX1_isFast_5 rfl ?_
    refine L_iload_n eX1_isFast_6 rfl ?_
    refine C_v1 (p_X1_moved hf hb (by omega) (by omega)) v_X1_98 eX1_isFast_7 hf.k rfl ?_
    refine L_aload_n eX1_isFast_10 rfl ?_
    refine L_get eX1_isFast_11 f_X1_18.g hf.k (hf.i (by decide)) ?_
    refine V_i2l eX1_isFast_14 ?_
    refine L_aload_n eX1_isFast_15 rfl ?_
    refine L_get eX1_isFast_16 f_X1_18.g hf.k (hf.i (by decide)) ?_
    refine V_i2l eX1_isFast_19 ?_
    refine V_lmul eX1_isFast_20 ?_
    -- at 21: .lcmp
    refine V_lcmplt eX1_isFast_21 eX1_isFast_22 (fun h2 => ?_) (fun h2 => ?_)
    · refine V_iconst eX1_isFast_29 ?_
      exact V_zreturn (by first | exact nar_z (by omega) | rfl) eX1_isFast_30 ⟨by rw [if_neg (fun h => by have := h.2; omega)], rfl⟩
    · refine V_iconst eX1_isFast_25 ?_
      refine V_goto eX1_isFast_26 ?_
      exact V_zreturn (by first | exact nar_z (by omega) | rfl) eX1_isFast_30 ⟨by rw [if_pos ⟨by omega, by omega⟩], rfl⟩
theorem p_X1_isCrack (hf : isFl f) {k t : Int} (hb : bA (A (f + 1), A (f + 2))) (hp : 10 ≤ F f 2 ∧ F f 2 ≤ 2000) (hk : 0 ≤ k ∧ k ≤ 12) (ht : 1 ≤ t ∧ t ≤ 60) : Pu G mX1_isCrack [.ref f, vi k, vi t] F A (vi (if ckP (A (f + 1)) (A (f + 2)) (F f 2) k t then 1 else 0)) := by
  refine L_ent [some (.ref f), some (vi k), some (vi t)] rfl ?_
  refine L_aload_n eX1_isCrack_0 rfl ?_
  refine L_iload_n eX1_isCrack_1 rfl ?_
  refine L_iload_n eX1_isCrack_2 rfl ?_
  refine C_v1 (p_X1_isFast hf hb hp (by omega) (by omega)) v_X1_116 eX1_isCrack_3 hf.k rfl ?_
  -- at 6: .ifCond .eq 18
  refine V_ifeqB eX1_isCrack_6 (fun h1 => ?_) (fun h1 => ?_)
  · refine V_iconst eX1_isCrack_24 ?_
    exact V_zreturn (by first | exact nar_z (by omega) | rfl) eX1_isCrack_25 ⟨by rw [if_neg (fun h => h1 h.1)], rfl⟩
  · refine L_aload_n eX1_isCrack_9 rfl ?_
    refine L_iload_n eX1_isCrack_10 rfl ?_
    refine L_iload_n eX1_isCrack_11 rfl ?_
    refine V_iconst eX1_isCrack_12 ?_
    refine V_isub eX1_isCrack_13 ?_
    refine C_v1 (p_X1_isFast hf hb hp (by omega) (by omega)) v_X1_116 eX1_isCrack_14 hf.k rfl ?_
    -- at 17: .ifCond .ne 7
    refine V_ifneB eX1_isCrack_17 (fun h2 => ?_) (fun h2 => ?_)
    · refine V_iconst eX1_isCrack_24 ?_
      exact V_zreturn (by first | exact nar_z (by omega) | rfl) eX1_isCrack_25 ⟨by rw [if_neg (fun h => h.2 h2)], rfl⟩
    · refine V_iconst eX1_isCrack_20 ?_
      refine V_goto eX1_isCrack_21 ?_
      exact V_zreturn (by first | exact nar_z (by omega) | rfl) eX1_isCrack_25 ⟨by rw [if_pos ⟨h1, h2⟩], rfl⟩
theorem p_X1_crackCount (hf : isFl f) {n T : Nat} (hb : bA (A (f + 1), A (f + 2))) (hp : 10 ≤ F f 2 ∧ F f 2 ≤ 2000) (h0 : F f 0 = n) (h1 : F f 1 = T) (hn : n ≤ 12) (hT : T ≤ 60) : Pu G mX1_crackCount [.ref f] F A (vi (ckL (A (f + 1)) (A (f + 2)) (F f 2) n T).length) := by
  refine L_ent [some (.ref f), none, none, none] rfl ?_
  generalize hQ : (fun (r' : Option Value) (w : wT) => r' = some (vi (ckL (A (f + 1)) (A (f + 2)) (F f 2) n T).length) ∧ w = sw F A) = Q
  refine V_iconst eX1_crackCount_0 ?_
  refine L_istore_n eX1_crackCount_1 (s_1 rfl rfl) ?_
  refine V_iconst eX1_crackCount_2 ?_
  refine L_istore_n eX1_crackCount_3 (s_2 rfl rfl) ?_
  have LOOP : ∀ (r j : Nat) (t c : Int) (x3 : Option Value), T < r + j → j ≤ T → t = j + 1 → c = (ckL (A (f + 1)) (A (f + 2)) (F f 2) n j).length → V G mX1_crackCount Q 0 0 4 [some (.ref f), some (vi c), some (vi t), x3] [] (sw F A) := by
    intro r
    induction r with
    | zero => intro j t c x3 e1 e2; omega
    | succ r ih =>
      intro j t c x3 e1 e2 et ec
      refine L_iload_n eX1_crackCount_4 rfl ?_
      refine L_aload_n eX1_crackCount_5 rfl ?_
      refine L_get eX1_crackCount_6 f_X1_15.g hf.k (hf.i (by decide)) ?_
      -- at 9: .if_icmp .gt 42
      refine V_icmpgt eX1_crackCount_9 (fun h2 => ?_) (fun h2 => ?_)
      · have e : j = T := by omega
        subst e
        refine L_iload_n eX1_crackCount_51 rfl ?_
        -- at 52: .ireturn
        exact V_ireturn eX1_crackCount_52 (by rw [← hQ, ec]; exact ⟨rfl, rfl⟩)
      · have IN : ∀ (r i : Nat) (k d : Int), n < r + i → i ≤ n → k = i + 1 → d = c + (ckI (A (f + 1)) (A (f + 2)) (F f 2) t i).length → V G mX1_crackCount Q 0 0 14 [some (.ref f), some (vi d), some (vi t), some (vi k)] [] (sw F A) := by
          intro r
          induction r with
          | zero => intro i k d e3 e4; omega
          | succ r ihr =>
            intro i k d e3 e4 ek ed
            refine L_iload_n eX1_crackCount_14 rfl ?_
            refine L_aload_n eX1_crackCount_15 rfl ?_
            refine L_get eX1_crackCount_16 f_X1_9.g hf.k (hf.i (by decide)) ?_
            -- at 19: .if_icmp .gt 26
            refine V_icmpgt eX1_crackCount_19 (fun h3 => ?_) (fun h3 => ?_)
            · have e : i = n := by omega
              subst e
              refine L_iinc eX1_crackCount_45 rfl (s_2 rfl rfl) ?_
              refine V_goto eX1_crackCount_48 ?_
              refine ih (j + 1) _ _ _ (by omega) (by omega) (by omega) ?_
              rw [ckL, List.length_append, ed, ec, et]
              omega
            · have hs : ckI (A (f + 1)) (A (f + 2)) (F f 2) t (i + 1) = ckI (A (f + 1)) (A (f + 2)) (F f 2) t i ++ (if ckP (A (f + 1)) (A (f + 2)) (F f 2) k t then [(t, (i : Int) + 1)] else []) := by rw [ek]; rfl
              refine L_iload_n eX1_crackCount_22 rfl ?_
              refine L_aload_n eX1_crackCount_23 rfl ?_
              refine L_iload_n eX1_crackCount_24 rfl ?_
              refine L_iload_n eX1_crackCount_25 rfl ?_
              refine C_v1 (p_X1_isCrack hf hb hp (by omega) (by omega)) v_X1_120 eX1_crackCount_26 hf.k rfl ?_
              -- at 29: .ifCond .eq 7
              refine V_ifeqB eX1_crackCount_29 (fun h4 => ?_) (fun h4 => ?_)
              · refine V_iconst eX1_crackCount_36 ?_
                refine V_iadd eX1_crackCount_37 ?_
                refine L_istore_n eX1_crackCount_38 (s_1 rfl rfl) ?_
                refine L_iinc eX1_crackCount_39 rfl (s_3 rfl rfl) ?_
                refine V_goto eX1_crackCount_42 ?_
                refine ihr (i + 1) _ _ (by omega) (by omega) (by omega) ?_
                rw [hs, if_neg h4, List.append_nil]
                omega
              · refine V_iconst eX1_crackCount_32 ?_
                refine V_goto eX1_crackCount_33 ?_
                refine V_iadd eX1_crackCount_37 ?_
                refine L_istore_n eX1_crackCount_38 (s_1 rfl rfl) ?_
                refine L_iinc eX1_crackCount_39 rfl (s_3 rfl rfl) ?_
                refine V_goto eX1_crackCount_42 ?_
                refine ihr (i + 1) _ _ (by omega) (by omega) (by omega) ?_
                rw [hs, if_pos h4, List.length_append]
                simp
                omega
        refine V_iconst eX1_crackCount_12 ?_
        refine L_istore_n eX1_crackCount_13 (s_3 rfl rfl) ?_
        exact IN (n + 1) 0 1 c (by omega) (by omega) (by omega) (by show c = c + ((0 : Nat) : Int); omega)
  exact LOOP (T + 1) 0 1 0 _ (by omega) (by omega) (by omega) rfl
theorem p_X1_findCrack (hf : isFl f) {n T : Nat} {z : Int} (hb : bA (A (f + 1), A (f + 2))) (hp : 10 ≤ F f 2 ∧ F f 2 ≤ 2000) (h0 : F f 0 = n) (h1 : F f 1 = T) (hn : n ≤ 12) (hT : T ≤ 60) (hz : -2147483648 ≤ z ∧ z < 2147483648) : Pu G mX1_findCrack [.ref f, vi z] F A (vi (fcR (ckL (A (f + 1)) (A (f + 2)) (F f 2) n T) z)) := by
  refine L_ent [some (.ref f), some (vi z), none, none, none] rfl ?_
  generalize hQ : (fun (r' : Option Value) (w : wT) => r' = some (vi (fcR (ckL (A (f + 1)) (A (f + 2)) (F f 2) n T) z)) ∧ w = sw F A) = Q
  have hmany : ∀ j : Nat, (ckL (A (f + 1)) (A (f + 2)) (F f 2) n j).length ≤ 12 * j := by
    have hin : ∀ (t : Int) (i : Nat), (ckI (A (f + 1)) (A (f + 2)) (F f 2) t i).length ≤ i := by
      intro t i
      induction i with
      | zero => exact Nat.le_refl _
      | succ i ih =>
        rw [ckI, List.length_append]
        split <;> simp <;> omega
    intro j
    induction j with
    | zero => exact Nat.le_refl _
    | succ j ih =>
      rw [ckL, List.length_append]
      have := hin ((j : Int) + 1) n
      omega
  have hin : ∀ (t : Int) (i : Nat), (ckI (A (f + 1)) (A (f + 2)) (F f 2) t i).length ≤ i := by
    intro t i
    induction i with
    | zero => exact Nat.le_refl _
    | succ i ih =>
      rw [ckI, List.length_append]
      split <;> simp <;> omega
  refine V_iconst eX1_findCrack_0 ?_
  refine L_istore_n eX1_findCrack_1 (s_2 rfl rfl) ?_
  refine V_iconst eX1_findCrack_2 ?_
  refine L_istore_n eX1_findCrack_3 (s_3 rfl rfl) ?_
  have LOOP : ∀ (r j : Nat) (t c : Int) (x3 : Option Value), T < r + j → j ≤ T → t = j + 1 → c = (ckL (A (f + 1)) (A (f + 2)) (F f 2) n j).length → (z < 0 ∨ c ≤ z) → V G mX1_findCrack Q 0 0 4 [some (.ref f), some (vi z), some (vi c), some (vi t), x3] [] (sw F A) := by
    intro r
    induction r with
    | zero => intro j t c x3 e1 e2; omega
    | succ r ih =>
      intro j t c x3 e1 e2 et ec ez
      have hcj := hmany j
      refine L_iload_n eX1_findCrack_4 rfl ?_
      refine L_aload_n eX1_findCrack_5 rfl ?_
      refine L_get eX1_findCrack_6 f_X1_15.g hf.k (hf.i (by decide)) ?_
      -- at 9: .if_icmp .gt 53
      refine V_icmpgt eX1_findCrack_9 (fun h2 => ?_) (fun h2 => ?_)
      · have e : j = T := by omega
        subst e
        refine V_iconst eX1_findCrack_62 ?_
        -- at 63: .ireturn
        exact V_ireturn eX1_findCrack_63 (by
          rw [← hQ]
          refine ⟨?_, rfl⟩
          unfold fcR
          by_cases hz0 : z < 0
          · rw [if_pos hz0]
          · rw [if_neg hz0, List.getElem?_eq_none (by omega)])
      · have IN : ∀ (r i : Nat) (k d : Int), n < r + i → i ≤ n → k = i + 1 → d = c + (ckI (A (f + 1)) (A (f + 2)) (F f 2) t i).length → (z < 0 ∨ d ≤ z) → V G mX1_findCrack Q 0 0 15 [some (.ref f), some (vi z), some (vi d), some (vi t), some (vi k)] [] (sw F A) := by
          intro r
          induction r with
          | zero => intro i k d e3 e4; omega
          | succ r ihr =>
            intro i k d e3 e4 ek ed ez2
            have hci := hin t i
            refine L_iload eX1_findCrack_15 rfl ?_
            refine L_aload_n eX1_findCrack_17 rfl ?_
            refine L_get eX1_findCrack_18 f_X1_9.g hf.k (hf.i (by decide)) ?_
            -- at 21: .if_icmp .gt 35
            refine V_icmpgt eX1_findCrack_21 (fun h3 => ?_) (fun h3 => ?_)
            · have e : i = n := by omega
              subst e
              refine L_iinc eX1_findCrack_56 rfl (s_3 rfl rfl) ?_
              refine V_goto eX1_findCrack_59 ?_
              refine ih (j + 1) _ _ _ (by omega) (by omega) (by omega) ?_ ez2
              rw [ckL, List.length_append, ed, ec, et]
              omega
            · have hs : ckI (A (f + 1)) (A (f + 2)) (F f 2) t (i + 1) = ckI (A (f + 1)) (A (f + 2)) (F f 2) t i ++ (if ckP (A (f + 1)) (A (f + 2)) (F f 2) k t then [(t, (i : Int) + 1)] else []) := by rw [ek]; rfl
              refine L_aload_n eX1_findCrack_24 rfl ?_
              refine L_iload eX1_findCrack_25 rfl ?_
              refine L_iload_n eX1_findCrack_27 rfl ?_
              refine C_v1 (p_X1_isCrack hf hb hp (by omega) (by omega)) v_X1_120 eX1_findCrack_28 hf.k rfl ?_
              -- at 31: .ifCond .eq 19
              refine V_ifeqB eX1_findCrack_31 (fun h4 => ?_) (fun h4 => ?_)
              · refine L_iinc eX1_findCrack_50 rfl (s_4 rfl rfl) ?_
                refine V_goto eX1_findCrack_53 ?_
                refine ihr (i + 1) _ _ (by omega) (by omega) (by omega) ?_ ez2
                rw [hs, if_neg h4, List.append_nil]
                omega
              · refine L_iload_n eX1_findCrack_34 rfl ?_
                refine L_iload_n eX1_findCrack_35 rfl ?_
                -- at 36: .if_icmp .ne 11
                refine V_icmpne eX1_findCrack_36 (fun h5 => ?_) (fun h5 => ?_)
                · refine L_iinc eX1_findCrack_47 rfl (s_2 rfl rfl) ?_
                  refine L_iinc eX1_findCrack_50 rfl (s_4 rfl rfl) ?_
                  refine V_goto eX1_findCrack_53 ?_
                  refine ihr (i + 1) _ _ (by omega) (by omega) (by omega) ?_ (by omega)
                  rw [hs, if_pos h4, List.length_append]
                  simp
                  omega
                · refine L_iload_n eX1_findCrack_39 rfl ?_
                  refine L_bipush eX1_findCrack_40 rfl ?_
                  refine V_imul eX1_findCrack_42 ?_
                  refine L_iload eX1_findCrack_43 rfl ?_
                  refine V_iadd eX1_findCrack_45 ?_
                  -- at 46: .ireturn
                  exact V_ireturn eX1_findCrack_46 (by
                    rw [← hQ]
                    refine ⟨?_, rfl⟩
                    rw [ek, et] at h4
                    obtain ⟨rr, hr⟩ := ckL_at (T := T) (n := n) (by omega) (by omega) h4
                    rw [hr]
                    unfold fcR
                    rw [if_neg (by omega), List.getElem?_append_right (by rw [List.length_append]; rw [et] at ed; omega)]
                    have e9 : z.toNat - (ckL (A (f + 1)) (A (f + 2)) (F f 2) n j ++ ckI (A (f + 1)) (A (f + 2)) (F f 2) ((j : Int) + 1) i).length = 0 := by rw [List.length_append]; rw [et] at ed; omega
                    rw [e9]
                    show some (vi (t * 13 + k)) = some (vi (13 * ((j : Int) + 1) + ((i : Int) + 1)))
                    rw [et, ek]
                    congr 2
                    omega)
        refine V_iconst eX1_findCrack_12 ?_
        refine L_istore eX1_findCrack_13 (s_4 rfl rfl) ?_
        exact IN (n + 1) 0 1 c (by omega) (by omega) (by omega) (by show c = c + ((0 : Nat) : Int); omega) ez
  exact LOOP (T + 1) 0 1 0 _ (by omega) (by omega) (by omega) rfl (by omega)
theorem p_X1_hasCrack (hf : isFl f) {n : Nat} {t : Int} (hb : bA (A (f + 1), A (f + 2))) (hp : 10 ≤ F f 2 ∧ F f 2 ≤ 2000) (h0 : F f 0 = n) (hn : n ≤ 12) (ht : 1 ≤ t ∧ t ≤ 60) : Pu G mX1_hasCrack [.ref f, vi t] F A (vi (if 0 < (ckI (A (f + 1)) (A (f + 2)) (F f 2) t n).length then 1 else 0)) := by
  refine L_ent [some (.ref f), some (vi t), none] rfl ?_
  generalize hQ : (fun (r' : Option Value) (w : wT) => r' = some (vi (if 0 < (ckI (A (f + 1)) (A (f + 2)) (F f 2) t n).length then 1 else 0)) ∧ w = sw F A) = Q
  refine V_iconst eX1_hasCrack_0 ?_
  refine L_istore_n eX1_hasCrack_1 (s_2 rfl rfl) ?_
  have LOOP : ∀ (r i : Nat) (k : Int), n < r + i → i ≤ n → k = i + 1 → ckI (A (f + 1)) (A (f + 2)) (F f 2) t i = [] → V G mX1_hasCrack Q 0 0 2 [some (.ref f), some (vi t), some (vi k)] [] (sw F A) := by
    intro r
    induction r with
    | zero => intro i k e1 e2; omega
    | succ r ih =>
      intro i k e1 e2 ek hE
      refine L_iload_n eX1_hasCrack_2 rfl ?_
      refine L_aload_n eX1_hasCrack_3 rfl ?_
      refine L_get eX1_hasCrack_4 f_X1_9.g hf.k (hf.i (by decide)) ?_
      -- at 7: .if_icmp .gt 20
      refine V_icmpgt eX1_hasCrack_7 (fun h3 => ?_) (fun h3 => ?_)
      · have e : i = n := by omega
        subst e
        refine V_iconst eX1_hasCrack_27 ?_
        -- at 28: .ireturn
        exact V_zreturn (by first | exact nar_z (by omega) | rfl) eX1_hasCrack_28 (by rw [← hQ, hE]; exact ⟨rfl, rfl⟩)
      · have hs : ckI (A (f + 1)) (A (f + 2)) (F f 2) t (i + 1) = ckI (A (f + 1)) (A (f + 2)) (F f 2) t i ++ (if ckP (A (f + 1)) (A (f + 2)) (F f 2) k t then [(t, (i : Int) + 1)] else []) := by rw [ek]; rfl
        refine L_aload_n eX1_hasCrack_10 rfl ?_
        refine L_iload_n eX1_hasCrack_11 rfl ?_
        refine L_iload_n eX1_hasCrack_12 rfl ?_
        refine C_v1 (p_X1_isCrack hf hb hp (by omega) (by omega)) v_X1_120 eX1_hasCrack_13 hf.k rfl ?_
        -- at 16: .ifCond .eq 5
        refine V_ifeqB eX1_hasCrack_16 (fun h4 => ?_) (fun h4 => ?_)
        · refine L_iinc eX1_hasCrack_21 rfl (s_2 rfl rfl) ?_
          refine V_goto eX1_hasCrack_24 ?_
          exact ih (i + 1) _ (by omega) (by omega) (by omega) (by rw [hs, hE, if_neg h4]; rfl)
        · refine V_iconst eX1_hasCrack_19 ?_
          -- at 20: .ireturn
          exact V_zreturn (by first | exact nar_z (by omega) | rfl) eX1_hasCrack_20 (by
            obtain ⟨rr, hr⟩ := ckI_pre (X := A (f + 1)) (Y := A (f + 2)) (p := F f 2) (t := t) (i := i + 1) (n := n) (by omega)
            rw [← hQ]
            refine ⟨?_, rfl⟩
            rw [hr, hs, hE, if_pos h4]
            rfl)
  exact LOOP (n + 1) 0 1 (by omega) (by omega) (by omega) rfl
theorem p_X1_firstCrackTick (hf : isFl f) {n T : Nat} (hb : bA (A (f + 1), A (f + 2))) (hp : 10 ≤ F f 2 ∧ F f 2 ≤ 2000) (h0 : F f 0 = n) (h1 : F f 1 = T) (hn : n ≤ 12) (hT : T ≤ 60) : Pu G mX1_firstCrackTick [.ref f] F A (vi (ftR (ckL (A (f + 1)) (A (f + 2)) (F f 2) n T))) := by
  refine L_ent [some (.ref f), none] rfl ?_
  generalize hQ : (fun (r' : Option Value) (w : wT) => r' = some (vi (ftR (ckL (A (f + 1)) (A (f + 2)) (F f 2) n T))) ∧ w = sw F A) = Q
  refine V_iconst eX1_firstCrackTick_0 ?_
  refine L_istore_n eX1_firstCrackTick_1 (s_1 rfl rfl) ?_
  have LOOP : ∀ (r j : Nat) (t : Int), T < r + j → j ≤ T → t = j + 1 → ckL (A (f + 1)) (A (f + 2)) (F f 2) n j = [] → V G mX1_firstCrackTick Q 0 0 2 [some (.ref f), some (vi t)] [] (sw F A) := by
    intro r
    induction r with
    | zero => intro j t e1 e2; omega
    | succ r ih =>
      intro j t e1 e2 et hE
      refine L_iload_n eX1_firstCrackTick_2 rfl ?_
      refine L_aload_n eX1_firstCrackTick_3 rfl ?_
      refine L_get eX1_firstCrackTick_4 f_X1_15.g hf.k (hf.i (by decide)) ?_
      -- at 7: .if_icmp .gt 19
      refine V_icmpgt eX1_firstCrackTick_7 (fun h3 => ?_) (fun h3 => ?_)
      · have e : j = T := by omega
        subst e
        refine V_iconst eX1_firstCrackTick_26 ?_
        -- at 27: .ireturn
        exact V_ireturn eX1_firstCrackTick_27 (by rw [← hQ, hE]; exact ⟨rfl, rfl⟩)
      · have hs : ckL (A (f + 1)) (A (f + 2)) (F f 2) n (j + 1) = ckI (A (f + 1)) (A (f + 2)) (F f 2) t n := by rw [ckL, hE, et]; rfl
        refine L_aload_n eX1_firstCrackTick_10 rfl ?_
        refine L_iload_n eX1_firstCrackTick_11 rfl ?_
        refine C_v1 (p_X1_hasCrack hf hb hp (n := n) h0 hn (by omega)) v_X1_123 eX1_firstCrackTick_12 hf.k rfl ?_
        -- at 15: .ifCond .eq 5
        refine V_ifeqB eX1_firstCrackTick_15 (fun h4 => ?_) (fun h4 => ?_)
        · refine L_iinc eX1_firstCrackTick_20 rfl (s_1 rfl rfl) ?_
          refine V_goto eX1_firstCrackTick_23 ?_
          exact ih (j + 1) _ (by omega) (by omega) (by omega) (by rw [hs]; exact List.length_eq_zero_iff.mp (by omega))
        · refine L_iload_n eX1_firstCrackTick_18 rfl ?_
          -- at 19: .ireturn
          exact V_ireturn eX1_firstCrackTick_19 (by
            obtain ⟨rr, hr⟩ := ckL_pre (X := A (f + 1)) (Y := A (f + 2)) (p := F f 2) (n := n) (j := j + 1) (T := T) (by omega)
            rw [← hQ]
            refine ⟨?_, rfl⟩
            rw [hr, hs]
            have hm := fun e => ckI_mem (X := A (f + 1)) (Y := A (f + 2)) (p := F f 2) (t := t) (j := n) (e := e)
            generalize ckI (A (f + 1)) (A (f + 2)) (F f 2) t n = L at h4 hm
            cases L with
            | nil => simp at h4
            | cons e L =>
              show some (vi t) = some (vi e.1)
              rw [(hm e List.mem_cons_self).1])
  exact LOOP (T + 1) 0 1 (by omega) (by omega) (by omega) rfl
theorem p_X1_lastCrackTick (hf : isFl f) {n T : Nat} (hb : bA (A (f + 1), A (f + 2))) (hp : 10 ≤ F f 2 ∧ F f 2 ≤ 2000) (h0 : F f 0 = n) (h1 : F f 1 = T) (hn : n ≤ 12) (hT : T ≤ 60) : Pu G mX1_lastCrackTick [.ref f] F A (vi (ltR (ckL (A (f + 1)) (A (f + 2)) (F f 2) n T))) := by
  refine L_ent [some (.ref f), none] rfl ?_
  generalize hQ : (fun (r' : Option Value) (w : wT) => r' = some (vi (ltR (ckL (A (f + 1)) (A (f + 2)) (F f 2) n T))) ∧ w = sw F A) = Q
  refine L_aload_n eX1_lastCrackTick_0 rfl ?_
  refine L_get eX1_lastCrackTick_1 f_X1_15.g hf.k (hf.i (by decide)) ?_
  refine L_istore_n eX1_lastCrackTick_4 (s_1 rfl rfl) ?_
  rw [h1]
  have LOOP : ∀ (j : Nat), j ≤ T → ∀ t : Int, t = j → ckL (A (f + 1)) (A (f + 2)) (F f 2) n T = ckL (A (f + 1)) (A (f + 2)) (F f 2) n j → V G mX1_lastCrackTick Q 0 0 5 [some (.ref f), some (vi t)] [] (sw F A) := by
    intro j
    induction j with
    | zero =>
      intro _ t et hE
      refine L_iload_n eX1_lastCrackTick_5 rfl ?_
      refine V_iconst eX1_lastCrackTick_6 ?_
      -- at 7: .if_icmp .lt 19
      refine V_icmplt eX1_lastCrackTick_7 (fun h3 => ?_) (fun h3 => ?_)
      · refine V_iconst eX1_lastCrackTick_26 ?_
        -- at 27: .ireturn
        exact V_ireturn eX1_lastCrackTick_27 (by rw [← hQ, hE]; exact ⟨rfl, rfl⟩)
      · omega
    | succ j ih =>
      intro hj t et hE
      refine L_iload_n eX1_lastCrackTick_5 rfl ?_
      refine V_iconst eX1_lastCrackTick_6 ?_
      -- at 7: .if_icmp .lt 19
      refine V_icmplt eX1_lastCrackTick_7 (fun h3 => ?_) (fun h3 => ?_)
      · omega
      · have et2 : t = (j : Int) + 1 := by omega
        have hs : ckL (A (f + 1)) (A (f + 2)) (F f 2) n (j + 1) = ckL (A (f + 1)) (A (f + 2)) (F f 2) n j ++ ckI (A (f + 1)) (A (f + 2)) (F f 2) t n := by rw [et2]; rfl
        refine L_aload_n eX1_lastCrackTick_10 rfl ?_
        refine L_iload_n eX1_lastCrackTick_11 rfl ?_
        refine C_v1 (p_X1_hasCrack hf hb hp (n := n) h0 hn (by omega)) v_X1_123 eX1_lastCrackTick_12 hf.k rfl ?_
        -- at 15: .ifCond .eq 5
        refine V_ifeqB eX1_lastCrackTick_15 (fun h4 => ?_) (fun h4 => ?_)
        · refine L_iinc eX1_lastCrackTick_20 rfl (s_1 rfl rfl) ?_
          refine V_goto eX1_lastCrackTick_23 ?_
          refine ih (by omega) _ (by omega) ?_
          rw [hE, hs, List.length_eq_zero_iff.mp (show (ckI (A (f + 1)) (A (f + 2)) (F f 2) t n).length = 0 by omega), List.append_nil]
        · refine L_iload_n eX1_lastCrackTick_18 rfl ?_
          -- at 19: .ireturn
          exact V_ireturn eX1_lastCrackTick_19 (by
            rw [← hQ]
            refine ⟨?_, rfl⟩
            rw [hE, hs]
            have hm := fun e => ckI_mem (X := A (f + 1)) (Y := A (f + 2)) (p := F f 2) (t := t) (j := n) (e := e)
            generalize ckI (A (f + 1)) (A (f + 2)) (F f 2) t n = L at h4 hm
            have hne : L ≠ [] := fun e => by rw [e] at h4; simp at h4
            unfold ltR
            rw [List.getLast?_append, List.getLast?_eq_some_getLast hne]
            show some (vi t) = some (vi (L.getLast hne).1)
            rw [(hm _ (List.getLast_mem hne)).1])
  exact LOOP T (Nat.le_refl _) _ rfl rfl
end P41

