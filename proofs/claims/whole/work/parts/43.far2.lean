theorem mnF_b {f : Nat → Int} {a B : Int} (ha : 0 ≤ a ∧ a ≤ B) : ∀ n : Nat, (∀ j, j < n → 0 ≤ f j ∧ f j ≤ B) → 0 ≤ mnF f a n ∧ mnF f a n ≤ B := by
  intro n
  induction n with
  | zero => intro _; exact ha
  | succ n ih =>
    intro h
    have h1 := ih (fun j hj => h j (by omega))
    have h2 := h n (by omega)
    show 0 ≤ min _ _ ∧ min _ _ ≤ B
    omega
theorem gN_b {v : Int → Int → Int} {n T : Nat} {a B : Int} (ha : 0 ≤ a ∧ a ≤ B) (h : ∀ k t : Int, 0 ≤ k → k ≤ n → 0 ≤ t → t < T → 0 ≤ v k t ∧ v k t ≤ B) : ∀ j : Nat, j ≤ T → 0 ≤ gN v n a j ∧ gN v n a j ≤ B := by
  intro j
  induction j with
  | zero => intro _; exact ha
  | succ j ih =>
    intro hj
    exact mnF_b (ih (by omega)) (n + 1) (fun i hi => h _ _ (by omega) (by omega) (by omega) (by omega))
theorem mnF_le {f : Nat → Int} {a : Int} : ∀ {n i : Nat}, i < n → mnF f a n ≤ f i := by
  intro n
  induction n with
  | zero => intro i h; omega
  | succ n ih =>
    intro i h
    show min _ _ ≤ _
    by_cases e : i = n
    · subst e; omega
    · have := ih (show i < n by omega); omega
theorem mnF_le0 {f : Nat → Int} {a : Int} : ∀ n : Nat, mnF f a n ≤ a := by
  intro n
  induction n with
  | zero => exact Int.le_refl _
  | succ n ih => show min _ _ ≤ _; omega
theorem gN_le0 {v : Int → Int → Int} {n : Nat} {a : Int} : ∀ j : Nat, gN v n a j ≤ a := by
  intro j
  induction j with
  | zero => exact Int.le_refl _
  | succ j ih => exact Int.le_trans (mnF_le0 _) ih
theorem gN_mono {v : Int → Int → Int} {n : Nat} {a : Int} {i : Nat} : ∀ {j : Nat}, i ≤ j → gN v n a j ≤ gN v n a i := by
  intro j
  induction j with
  | zero => intro h; rw [show i = 0 by omega]; exact Int.le_refl _
  | succ j ih =>
    intro h
    by_cases e : i = j + 1
    · rw [e]; exact Int.le_refl _
    · exact Int.le_trans (mnF_le0 _) (ih (by omega))
section P43
variable {G : gT} {F : fT} {A : nT} {f : Nat}
theorem p_X1_leastFar (hf : isFl f) {n T : Nat} {x y : Int} (hb : bA (A (f + 1), A (f + 2))) (h0 : F f 0 = n) (h1 : F f 1 = T) (hn : n ≤ 12) (hT : T ≤ 60) (hx : ab 5000 x) (hy : ab 5000 y) : Pu G mX1_leastFar [.ref f, vi x, vi y] F A (vi (rt (gN (qP (A (f + 1)) (A (f + 2)) x y) n 9223372036854775807 (T + 1)))) := by
  have hq : ∀ k t : Int, 0 ≤ k → k ≤ n → 0 ≤ t → t < ((T + 1 : Nat) : Int) → 0 ≤ qP (A (f + 1)) (A (f + 2)) x y k t ∧ qP (A (f + 1)) (A (f + 2)) x y k t ≤ 9223372036854775807 := fun k t a b c d => by
    have := qP_b hb hx hy (k := k) (t := t) (by omega) (by omega)
    omega
  have hg := gN_b (v := qP (A (f + 1)) (A (f + 2)) x y) (n := n) (T := T + 1) (a := 9223372036854775807) (B := 9223372036854775807) (by omega) hq
  have hxx := hx
  have hyy := hy
  unfold ab at hxx hyy
  refine L_ent [some (.ref f), some (vi x), some (vi y), none, none, none, none] rfl ?_
  generalize hQ : (fun (r' : Option Value) (w : wT) => r' = some (vi (rt (gN (qP (A (f + 1)) (A (f + 2)) x y) n 9223372036854775807 (T + 1)))) ∧ w = sw F A) = Q
  refine L_ldc2 eX1_leastFar_0 k_X1_136 ?_
  refine L_lstore_n eX1_leastFar_3 (t_3 rfl) ?_
  refine V_iconst eX1_leastFar_4 ?_
  refine L_istore eX1_leastFar_5 (s_5 rfl rfl) ?_
  have LOOP : ∀ (r j : Nat) (t : Int) (x6 : Option Value), T + 1 < r + j → j ≤ T + 1 → t = j → V G mX1_leastFar Q 0 0 7 [some (.ref f), some (vi x), some (vi y), some (vl (gN (qP (A (f + 1)) (A (f + 2)) x y) n 9223372036854775807 j)), none, some (vi t), x6] [] (sw F A) := by
    intro r
    induction r with
    | zero => intro j t x6 e1 e2; omega
    | succ r ih =>
      intro j t x6 e1 e2 et
      have hgj := hg j e2
      refine L_iload eX1_leastFar_7 rfl ?_
      refine L_aload_n eX1_leastFar_9 rfl ?_
      refine L_get eX1_leastFar_10 f_X1_15.g hf.k (hf.i (by decide)) ?_
      -- at 13: .if_icmp .gt 57
      refine V_icmpgt eX1_leastFar_13 (fun h2 => ?_) (fun h2 => ?_)
      · have e : j = T + 1 := by omega
        subst e
        have hsmall : gN (qP (A (f + 1)) (A (f + 2)) x y) n 9223372036854775807 (T + 1) ≤ 36450000000 := by
          have a1 := gN_mono (v := qP (A (f + 1)) (A (f + 2)) x y) (n := n) (a := 9223372036854775807) (i := 1) (j := T + 1) (by omega)
          have a2 := mnF_le (f := fun j => qP (A (f + 1)) (A (f + 2)) x y j ((0 : Nat) : Int)) (a := 9223372036854775807) (n := n + 1) (i := 0) (by omega)
          have a3 := qP_b hb hx hy (k := ((0 : Nat) : Int)) (t := ((0 : Nat) : Int)) (by omega) (by omega)
          have a4 : gN (qP (A (f + 1)) (A (f + 2)) x y) n 9223372036854775807 1 = mnF (fun j => qP (A (f + 1)) (A (f + 2)) x y j ((0 : Nat) : Int)) 9223372036854775807 (n + 1) := rfl
          omega
        refine L_lload_n eX1_leastFar_70 rfl ?_
        refine C_n1 (p_X10_root (by omega)) v_X1_81 eX1_leastFar_71 rfl ?_
        refine V_l2i eX1_leastFar_74 ?_
        -- at 75: .ireturn
        exact V_ireturn eX1_leastFar_75 (by rw [← hQ]; exact ⟨rfl, rfl⟩)
      · subst et
        have IN : ∀ (r i : Nat) (k : Int), n + 1 < r + i → i ≤ n + 1 → k = i → V G mX1_leastFar Q 0 0 19 [some (.ref f), some (vi x), some (vi y), some (vl (mnF (fun i => qP (A (f + 1)) (A (f + 2)) x y i j) (gN (qP (A (f + 1)) (A (f + 2)) x y) n 9223372036854775807 j) i)), none, some (vi (j : Int)), some (vi k)] [] (sw F A) := by
          intro r
          induction r with
          | zero => intro i k e3 e4; omega
          | succ r ihr =>
            intro i k e3 e4 ek
            have hm := mnF_b (f := fun i => qP (A (f + 1)) (A (f + 2)) x y i j) hgj i (fun a ha => hq _ _ (by omega) (by omega) (by omega) (by omega))
            refine L_iload eX1_leastFar_19 rfl ?_
            refine L_aload_n eX1_leastFar_21 rfl ?_
            refine L_get eX1_leastFar_22 f_X1_9.g hf.k (hf.i (by decide)) ?_
            -- at 25: .if_icmp .gt 39
            refine V_icmpgt eX1_leastFar_25 (fun h3 => ?_) (fun h3 => ?_)
            · have e : i = n + 1 := by omega
              subst e
              refine L_iinc eX1_leastFar_64 rfl (s_5 rfl rfl) ?_
              refine V_goto eX1_leastFar_67 ?_
              exact ih (j + 1) _ _ (by omega) (by omega) (by omega)
            · subst ek
              have hv := qP_b hb hx hy (k := (i : Int)) (t := (j : Int)) (by omega) (by omega)
              have hv2 := hv.2.2
              unfold ab at hv
              unfold qP at hv2
              refine L_lload_n eX1_leastFar_28 rfl ?_
              refine L_aload_n eX1_leastFar_29 rfl ?_
              refine L_iload eX1_leastFar_30 rfl ?_
              refine L_iload eX1_leastFar_32 rfl ?_
              refine C_v1 (p_X1_xOf hf (by omega) (by omega)) v_X1_126 eX1_leastFar_34 hf.k rfl ?_
              refine L_iload_n eX1_leastFar_37 rfl ?_
              refine V_isub eX1_leastFar_38 ?_
              refine V_i2l eX1_leastFar_39 ?_
              refine L_aload_n eX1_leastFar_40 rfl ?_
              refine L_iload eX1_leastFar_41 rfl ?_
              refine L_iload eX1_leastFar_43 rfl ?_
              refine C_v1 (p_X1_yOf hf (by omega) (by omega)) v_X1_113 eX1_leastFar_45 hf.k rfl ?_
              refine L_iload_n eX1_leastFar_48 rfl ?_
              refine V_isub eX1_leastFar_49 ?_
              refine V_i2l eX1_leastFar_50 ?_
              refine C_s1 p_X1_squares v_X1_95 eX1_leastFar_51 rfl ?_
              refine V_mminl v_X1_138 eX1_leastFar_54 ?_
              refine L_lstore_n eX1_leastFar_57 (t_3 rfl) ?_
              refine L_iinc eX1_leastFar_58 rfl (s_6 rfl rfl) ?_
              refine V_goto eX1_leastFar_61 ?_
              exact ihr (i + 1) _ (by omega) (by omega) (by omega)
        refine V_iconst eX1_leastFar_16 ?_
        refine L_istore eX1_leastFar_17 (s_6 rfl rfl) ?_
        exact IN (n + 2) 0 0 (by omega) (by omega) (by omega)
  exact LOOP (T + 2) 0 0 _ (by omega) (by omega) (by omega)
theorem ntS_b {g : Int → Int} {a : Int} : ∀ j : Nat, a ≤ ntS g a j ∧ (ntS g a j < a + j ∨ j = 0 ∧ ntS g a j = a) := by
  intro j
  induction j with
  | zero => exact ⟨Int.le_refl _, Or.inr ⟨rfl, rfl⟩⟩
  | succ j ih =>
    rw [ntS]
    split <;> omega
theorem p_X1_nearestTick (hf : isFl f) {n T : Nat} {x y a b : Int} (hb : bA (A (f + 1), A (f + 2))) (h0 : F f 0 = n) (hn : n ≤ 12) (hT : T ≤ 60) (hx : ab 5000 x) (hy : ab 5000 y) (ha : 0 ≤ a ∧ a ≤ b) (hbT : b ≤ T) : Pu G mX1_nearestTick [.ref f, vi x, vi y, vi a, vi b] F A (vi (ntS (fun t => rt (qP (A (f + 1)) (A (f + 2)) x y n t)) a (b - a + 1).toNat)) := by
  refine L_ent [some (.ref f), some (vi x), some (vi y), some (vi a), some (vi b), none, none, none, none] rfl ?_
  generalize hQ : (fun (r' : Option Value) (w : wT) => r' = some (vi (ntS (fun t => rt (qP (A (f + 1)) (A (f + 2)) x y n t)) a (b - a + 1).toNat)) ∧ w = sw F A) = Q
  generalize hM : (b - a + 1).toNat = M at hQ
  refine L_iload_n eX1_nearestTick_0 rfl ?_
  refine L_istore eX1_nearestTick_1 (s_5 rfl rfl) ?_
  refine L_ldc eX1_nearestTick_3 k_X1_140 ?_
  refine L_istore eX1_nearestTick_5 (s_6 rfl rfl) ?_
  refine L_iload_n eX1_nearestTick_7 rfl ?_
  refine L_istore eX1_nearestTick_8 (s_7 rfl rfl) ?_
  have LOOP : ∀ (r j : Nat) (t le : Int) (x8 : Option Value), M < r + j → j ≤ M → t = a + j → (j = 0 ∧ le = 2147483647 ∨ 0 < j ∧ le = rt (qP (A (f + 1)) (A (f + 2)) x y n (ntS (fun t => rt (qP (A (f + 1)) (A (f + 2)) x y n t)) a j))) → V G mX1_nearestTick Q 0 0 10 [some (.ref f), some (vi x), some (vi y), some (vi a), some (vi b), some (vi (ntS (fun t => rt (qP (A (f + 1)) (A (f + 2)) x y n t)) a j)), some (vi le), some (vi t), x8] [] (sw F A) := by
    intro r
    induction r with
    | zero => intro j t le x8 e1 e2; omega
    | succ r ih =>
      intro j t le x8 e1 e2 et hle
      refine L_iload eX1_nearestTick_10 rfl ?_
      refine L_iload eX1_nearestTick_12 rfl ?_
      -- at 14: .if_icmp .gt 38
      refine V_icmpgt eX1_nearestTick_14 (fun h2 => ?_) (fun h2 => ?_)
      · have e : j = M := by omega
        subst e
        refine L_iload eX1_nearestTick_52 rfl ?_
        -- at 54: .ireturn
        exact V_ireturn eX1_nearestTick_54 (by rw [← hQ]; exact ⟨rfl, rfl⟩)
      · have hq := qP_b hb hx hy (k := (n : Int)) (t := t) (by omega) (by omega)
        have hnb := ntS_b (g := fun t => rt (qP (A (f + 1)) (A (f + 2)) x y n t)) (a := a) j
        have hs : ntS (fun t => rt (qP (A (f + 1)) (A (f + 2)) x y n t)) a (j + 1) = if rt (qP (A (f + 1)) (A (f + 2)) x y n t) < rt (qP (A (f + 1)) (A (f + 2)) x y n (ntS (fun t => rt (qP (A (f + 1)) (A (f + 2)) x y n t)) a j)) then t else ntS (fun t => rt (qP (A (f + 1)) (A (f + 2)) x y n t)) a j := by rw [et]; rfl
        generalize hcur : ntS (fun t => rt (qP (A (f + 1)) (A (f + 2)) x y n t)) a j = cur at hs hle hnb
        have hq2 := qP_b hb hx hy (k := (n : Int)) (t := cur) (by omega) (by omega)
        have hnx := fun (le' : Int) (x8 : Option Value) (hl : le' = rt (qP (A (f + 1)) (A (f + 2)) x y n (ntS (fun t => rt (qP (A (f + 1)) (A (f + 2)) x y n t)) a (j + 1)))) => ih (j + 1) (t + 1) le' x8 (by omega) (by omega) (by omega) (Or.inr ⟨by omega, hl⟩)
        rw [hs] at hnx
        refine L_aload_n eX1_nearestTick_17 rfl ?_
        refine L_aload_n eX1_nearestTick_18 rfl ?_
        refine L_get eX1_nearestTick_19 f_X1_9.g hf.k (hf.i (by decide)) ?_
        refine L_iload eX1_nearestTick_22 rfl ?_
        refine L_iload_n eX1_nearestTick_24 rfl ?_
        refine L_iload_n eX1_nearestTick_25 rfl ?_
        rw [h0]
        refine C_v1 (p_X1_farOf hf hb (by omega) (by omega) hx hy) v_X1_129 eX1_nearestTick_26 hf.k rfl ?_
        refine L_istore eX1_nearestTick_29 (s_8 rfl rfl) ?_
        refine L_iload eX1_nearestTick_31 rfl ?_
        refine L_iload eX1_nearestTick_33 rfl ?_
        -- at 35: .if_icmp .ge 11
        refine V_icmpge eX1_nearestTick_35 (fun h3 => ?_) (fun h3 => ?_)
        · have hneg : ¬ rt (qP (A (f + 1)) (A (f + 2)) x y n t) < rt (qP (A (f + 1)) (A (f + 2)) x y n cur) := by
            rcases hle with ⟨e, hle⟩ | ⟨e, hle⟩ <;> omega
          rw [if_neg hneg] at hnx
          have hj : 0 < j := by omega
          refine L_iinc eX1_nearestTick_46 rfl (s_7 rfl rfl) ?_
          refine V_goto eX1_nearestTick_49 ?_
          exact hnx _ _ (by rcases hle with ⟨e, hle⟩ | ⟨e, hle⟩ <;> omega)
        · by_cases hj : j = 0
          · have ec : cur = t := by rw [← hcur, hj, et, hj]; show a = a + 0; omega
            rw [ec, if_neg (by omega)] at hnx
            refine L_iload eX1_nearestTick_38 rfl ?_
            refine L_istore eX1_nearestTick_40 (s_6 rfl rfl) ?_
            refine L_iload eX1_nearestTick_42 rfl ?_
            refine L_istore eX1_nearestTick_44 (s_5 rfl rfl) ?_
            refine L_iinc eX1_nearestTick_46 rfl (s_7 rfl rfl) ?_
            refine V_goto eX1_nearestTick_49 ?_
            exact hnx _ _ rfl
          · have hpos : rt (qP (A (f + 1)) (A (f + 2)) x y n t) < rt (qP (A (f + 1)) (A (f + 2)) x y n cur) := by
              rcases hle with ⟨e, hle⟩ | ⟨e, hle⟩ <;> omega
            rw [if_pos hpos] at hnx
            refine L_iload eX1_nearestTick_38 rfl ?_
            refine L_istore eX1_nearestTick_40 (s_6 rfl rfl) ?_
            refine L_iload eX1_nearestTick_42 rfl ?_
            refine L_istore eX1_nearestTick_44 (s_5 rfl rfl) ?_
            refine L_iinc eX1_nearestTick_46 rfl (s_7 rfl rfl) ?_
            refine V_goto eX1_nearestTick_49 ?_
            exact hnx _ _ rfl
  exact LOOP (M + 1) 0 a 2147483647 _ (by omega) (by omega) (by omega) (Or.inl ⟨rfl, rfl⟩)
theorem tuD_eq {now was : Int} (h1 : 0 ≤ now ∧ now ≤ 3) (h2 : 0 ≤ was ∧ was ≤ 3) : ((now - was + 4).tmod 4 = 1 → tuD now was = 1) ∧ ((now - was + 4).tmod 4 = 3 → tuD now was = -1) ∧ ((now - was + 4).tmod 4 ≠ 1 → (now - was + 4).tmod 4 ≠ 3 → tuD now was = 0) := by
  rw [Int.tmod_eq_emod_of_nonneg (by omega)]
  unfold tuD
  refine ⟨fun h => ?_, fun h => ?_, fun h h' => ?_⟩
  · rw [if_pos (by omega)]
  · rw [if_neg (by omega), if_pos (by omega)]
  · rw [if_neg (by omega), if_neg (by omega)]
theorem p_X1_turnsAbout (hf : isFl f) {n T : Nat} {x y : Int} (hb : bA (A (f + 1), A (f + 2))) (h0 : F f 0 = n) (h1 : F f 1 = T) (hn : n ≤ 12) (hT : T ≤ 60) (hx : ab 5000 x) (hy : ab 5000 y) : Pu G mX1_turnsAbout [.ref f, vi x, vi y] F A (vi (tuS (A (f + 1)) (A (f + 2)) x y n (T + 1)).1) := by
  unfold ab at hx hy
  refine L_ent [some (.ref f), some (vi x), some (vi y), none, none, none, none, none] rfl ?_
  generalize hQ : (fun (r' : Option Value) (w : wT) => r' = some (vi (tuS (A (f + 1)) (A (f + 2)) x y n (T + 1)).1) ∧ w = sw F A) = Q
  refine V_iconst eX1_turnsAbout_0 ?_
  refine L_istore_n eX1_turnsAbout_1 (s_3 rfl rfl) ?_
  refine V_iconst eX1_turnsAbout_2 ?_
  refine L_istore eX1_turnsAbout_3 (s_4 rfl rfl) ?_
  refine V_iconst eX1_turnsAbout_5 ?_
  refine L_istore eX1_turnsAbout_6 (s_5 rfl rfl) ?_
  have LOOP : ∀ (r j : Nat) (t c q : Int) (x6 x7 : Option Value), T + 1 < r + j → j ≤ T + 1 → t = j → (c, q) = tuS (A (f + 1)) (A (f + 2)) x y n j → V G mX1_turnsAbout Q 0 0 8 [some (.ref f), some (vi x), some (vi y), some (vi c), some (vi q), some (vi t), x6, x7] [] (sw F A) := by
    intro r
    induction r with
    | zero => intro j t c q x6 x7 e1 e2; omega
    | succ r ih =>
      intro j t c q x6 x7 e1 e2 et ecq
      have hB := tuS_b (X := A (f + 1)) (Y := A (f + 2)) (x := x) (y := y) (n := n) j
      rw [← ecq] at hB
      simp only [] at hB
      refine L_iload eX1_turnsAbout_8 rfl ?_
      refine L_aload_n eX1_turnsAbout_10 rfl ?_
      refine L_get eX1_turnsAbout_11 f_X1_15.g hf.k (hf.i (by decide)) ?_
      -- at 14: .if_icmp .gt 86
      refine V_icmpgt eX1_turnsAbout_14 (fun h2 => ?_) (fun h2 => ?_)
      · have e : j = T + 1 := by omega
        subst e
        refine L_iload_n eX1_turnsAbout_100 rfl ?_
        -- at 101: .ireturn
        exact V_ireturn eX1_turnsAbout_101 (by rw [← hQ, ← ecq]; exact ⟨rfl, rfl⟩)
      · have b1 := hb (13 * t + n) (by omega) (by omega)
        simp only [] at b1
        unfold ab at b1
        have hs : tuS (A (f + 1)) (A (f + 2)) x y n (j + 1) = (c + (if j = 0 then 0 else tuD (qrT (A (f + 1) (13 * t + n) - x) (A (f + 2) (13 * t + n) - y) q) q), qrT (A (f + 1) (13 * t + n) - x) (A (f + 2) (13 * t + n) - y) q) := by rw [tuS, ← ecq, et]
        have hqn := qrT_b (x := A (f + 1) (13 * t + n) - x) (y := A (f + 2) (13 * t + n) - y) hB.2
        refine L_aload_n eX1_turnsAbout_17 rfl ?_
        refine L_aload_n eX1_turnsAbout_18 rfl ?_
        refine L_get eX1_turnsAbout_19 f_X1_9.g hf.k (hf.i (by decide)) ?_
        refine L_iload eX1_turnsAbout_22 rfl ?_
        rw [h0]
        refine C_v1 (p_X1_xOf hf (by omega) (by omega)) v_X1_126 eX1_turnsAbout_24 hf.k rfl ?_
        refine L_iload_n eX1_turnsAbout_27 rfl ?_
        refine V_isub eX1_turnsAbout_28 ?_
        refine L_aload_n eX1_turnsAbout_29 rfl ?_
        refine L_aload_n eX1_turnsAbout_30 rfl ?_
        refine L_get eX1_turnsAbout_31 f_X1_9.g hf.k (hf.i (by decide)) ?_
        refine L_iload eX1_turnsAbout_34 rfl ?_
        rw [h0]
        refine C_v1 (p_X1_yOf hf (by omega) (by omega)) v_X1_113 eX1_turnsAbout_36 hf.k rfl ?_
        refine L_iload_n eX1_turnsAbout_39 rfl ?_
        refine V_isub eX1_turnsAbout_40 ?_
        refine L_iload eX1_turnsAbout_41 rfl ?_
        refine C_s1 (p_X1_quarterOf (by omega) (by omega)) v_X1_141 eX1_turnsAbout_43 rfl ?_
        generalize qrT (A (f + 1) (13 * t + n) - x) (A (f + 2) (13 * t + n) - y) q = nq at hs hqn
        obtain ⟨d1, d2, d3⟩ := tuD_eq hqn hB.2
        have hm : 0 ≤ (nq - q + 4).tmod 4 ∧ (nq - q + 4).tmod 4 < 4 := by rw [Int.tmod_eq_emod_of_nonneg (by omega)]; omega
        have hnx := fun (c' : Int) (x6 x7 : Option Value) (hc : c' = c + (if j = 0 then 0 else tuD nq q)) => ih (j + 1) (t + 1) c' nq x6 x7 (by omega) (by omega) (by omega) (by rw [hs, hc])
        refine L_istore eX1_turnsAbout_46 (s_6 rfl rfl) ?_
        refine L_iload eX1_turnsAbout_48 rfl ?_
        refine L_iload eX1_turnsAbout_50 rfl ?_
        refine V_isub eX1_turnsAbout_52 ?_
        refine V_iconst eX1_turnsAbout_53 ?_
        refine V_iadd eX1_turnsAbout_54 ?_
        refine V_iconst eX1_turnsAbout_55 ?_
        refine V_irem eX1_turnsAbout_56 ?_
        refine L_istore eX1_turnsAbout_57 (s_7 rfl rfl) ?_
        refine L_iload eX1_turnsAbout_59 rfl ?_
        -- at 61: .ifCond .le 15
        generalize (nq - q + 4).tmod 4 = ad at hm d1 d2 d3
        refine V_ifle eX1_turnsAbout_61 (fun h3 => ?_) (fun h3 => ?_)
        · rw [if_pos (show j = 0 by omega)] at hnx
          refine L_iload eX1_turnsAbout_76 rfl ?_
          -- at 78: .ifCond .le 12
          refine V_ifle eX1_turnsAbout_78 (fun h4 => ?_) (fun h4 => ?_)
          · refine L_iload eX1_turnsAbout_90 rfl ?_
            refine L_istore eX1_turnsAbout_92 (s_4 rfl rfl) ?_
            refine L_iinc eX1_turnsAbout_94 rfl (s_5 rfl rfl) ?_
            refine V_goto eX1_turnsAbout_97 ?_
            exact hnx _ _ _ (by omega)
          · omega
        · rw [if_neg (show ¬ j = 0 by omega)] at hnx
          refine L_iload eX1_turnsAbout_64 rfl ?_
          refine V_iconst eX1_turnsAbout_66 ?_
          -- at 67: .if_icmp .ne 9
          refine V_icmpne eX1_turnsAbout_67 (fun h4 => ?_) (fun h4 => ?_)
          · refine L_iload eX1_turnsAbout_76 rfl ?_
            -- at 78: .ifCond .le 12
            refine V_ifle eX1_turnsAbout_78 (fun h5 => ?_) (fun h5 => ?_)
            · omega
            · refine L_iload eX1_turnsAbout_81 rfl ?_
              refine V_iconst eX1_turnsAbout_83 ?_
              -- at 84: .if_icmp .ne 6
              refine V_icmpne eX1_turnsAbout_84 (fun h6 => ?_) (fun h6 => ?_)
              · refine L_iload eX1_turnsAbout_90 rfl ?_
                refine L_istore eX1_turnsAbout_92 (s_4 rfl rfl) ?_
                refine L_iinc eX1_turnsAbout_94 rfl (s_5 rfl rfl) ?_
                refine V_goto eX1_turnsAbout_97 ?_
                exact hnx _ _ _ (by rw [d3 h4 h6]; omega)
              · refine L_iinc eX1_turnsAbout_87 rfl (s_3 rfl rfl) ?_
                refine L_iload eX1_turnsAbout_90 rfl ?_
                refine L_istore eX1_turnsAbout_92 (s_4 rfl rfl) ?_
                refine L_iinc eX1_turnsAbout_94 rfl (s_5 rfl rfl) ?_
                refine V_goto eX1_turnsAbout_97 ?_
                exact hnx _ _ _ (by rw [d2 h6])
          · refine L_iinc eX1_turnsAbout_70 rfl (s_3 rfl rfl) ?_
            refine V_goto eX1_turnsAbout_73 ?_
            refine L_iload eX1_turnsAbout_90 rfl ?_
            refine L_istore eX1_turnsAbout_92 (s_4 rfl rfl) ?_
            refine L_iinc eX1_turnsAbout_94 rfl (s_5 rfl rfl) ?_
            refine V_goto eX1_turnsAbout_97 ?_
            exact hnx _ _ _ (by rw [d1 h4])
  exact LOOP (T + 2) 0 0 0 0 _ _ (by omega) (by omega) (by omega) rfl
end P43

