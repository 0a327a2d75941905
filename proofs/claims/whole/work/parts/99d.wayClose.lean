/-! WAYS told in a text: the end of a TIMES, in the class -/
section P99d
variable {F : fT} {A : nT} {L : lwT} {st : skT}
theorem c_closeTimes {G : gT} {m : Int} {p c : lwT} (h : wyK F A (pz st p ++ c) ((m, p) :: st)) : Meets G mX9_closeTimes [.ref 35] (sw F A) (fun r w => ∃ F1 A1, r = none ∧ w = sw F1 A1 ∧ frV F F1 A A1 ∧ wyK F1 A1 (pz st p ++ rpt c m.toNat) st ∧ F1 35 9 = 1 ∧ ∀ k, F1 28 k = F 28 k) := by
  have hst : (A 39 st.length = m ∧ A 40 st.length = (min 60 (pz st p).length : Nat) ∧ A 41 st.length = tsm (pz st p)) ∧ (2 ≤ m ∧ m ≤ 9) ∧ stK A st := h.st'
  obtain ⟨⟨r39, r40, r41⟩, hm, hst'⟩ := hst
  have hn := h.n
  have ht := h.t
  have hd := h.d
  rw [List.length_cons] at hd
  have hdl : st.length + 1 ≤ 3 := h.dl
  have hs := h.s
  clear h
  generalize pz st p = B at *
  obtain ⟨kk, rfl⟩ : ∃ kk : Nat, m = kk + 1 := ⟨(m - 1).toNat, by omega⟩
  rw [show ((kk : Int) + 1).toNat = kk + 1 by omega]
  have lenT : (B ++ c).length = B.length + c.length := List.length_append
  have lenT' : (B ++ rpt c (kk + 1)).length = B.length + (kk * c.length + c.length) := by rw [List.length_append, rpt_len, Nat.succ_mul]
  have eT' : B ++ rpt c (kk + 1) = (B ++ c) ++ rpt c kk := by rw [rpt_s, List.append_assoc]
  have tT' : tsm (B ++ rpt c (kk + 1)) = tsm B + (kk * tsm c + tsm c) := by
    rw [tsm_app, rpt_tsm]
    push_cast
    rw [Int.add_mul, Int.one_mul]
  rw [lenT] at hn
  rw [tsm_app] at ht
  refine L_ent [some (.ref 35), none, none, none, none] rfl ?_
  generalize hQ : (fun (r : Option Value) (w : wT) => ∃ F1 A1, r = none ∧ w = sw F1 A1 ∧ frV F F1 A A1 ∧ wyK F1 A1 (B ++ rpt c (kk + 1)) st ∧ F1 35 9 = 1 ∧ ∀ k, F1 28 k = F 28 k) = Q
  have fin : ∀ (F2 : fT) (A2 : nT) (x1 x2 x3 x4 : Option Value), F2 35 3 = (min 60 (B ++ rpt c (kk + 1)).length : Nat) → rwK A2 60 (B ++ rpt c (kk + 1)) → F2 35 4 = tsm (B ++ rpt c (kk + 1)) → F2 35 8 = st.length → (∀ o k, o ≠ 35 → F2 o k = F o k) → (∀ o, o < 36 ∨ 38 < o → A2 o = A o) → V G mX9_closeTimes Q 0 0 98 [some (.ref 35), x1, x2, x3, x4] [] (sw F2 A2) := by
    intro F2 A2 x1 x2 x3 x4 e3 er e4 e8 ef ea
    refine L_aload_n eX9_closeTimes_98 rfl ?_
    refine V_iconst eX9_closeTimes_99 ?_
    refine L_putZ eX9_closeTimes_100 f_X9_40 rfl rfl ?_
    refine V_return eX9_closeTimes_103 ?_
    rw [← hQ]
    refine ⟨_, A2, rfl, rfl, ⟨fun o k _ q => by rw [uF_ne (by omega)]; exact ef o k q, fun o q => ea o (by omega)⟩, wyK.mk ?_ ?_ ?_ (by omega) (stK.fr (fun o a b => ea o (by omega)) st hst') er, uF_eq, fun k => by rw [uF_ne (by omega)]; exact ef 28 k (by decide)⟩
    · rw [uF_ne (by decide)]; exact e3
    · rw [uF_ne (by decide)]; exact e4
    · rw [uF_ne (by decide)]; exact e8
  refine L_aload_n eX9_closeTimes_0 rfl ?_
  refine L_dup eX9_closeTimes_1 ?_
  refine L_get eX9_closeTimes_2 f_X9_37.g rfl rfl ?_
  refine V_iconst eX9_closeTimes_5 ?_
  refine V_isub eX9_closeTimes_6 ?_
  refine L_put eX9_closeTimes_7 f_X9_37 rfl rfl ?_
  obtain ⟨F1, eF1⟩ : ∃ F1, F1 = uF F 35 8 (F 35 8 - 1) := ⟨_, rfl⟩
  rw [← eF1]
  have m8 : F1 35 8 = st.length := by rw [eF1, uF_eq]; omega
  have m3 : F1 35 3 = F 35 3 := by rw [eF1, uF_ne (by decide)]
  have m4 : F1 35 4 = F 35 4 := by rw [eF1, uF_ne (by decide)]
  have mo : ∀ o k, o ≠ 35 → F1 o k = F o k := fun o k q => by rw [eF1, uF_ne (by omega)]
  rw [← m8] at r39 r40 r41
  refine L_aload_n eX9_closeTimes_10 rfl ?_
  refine L_getR (r := 40) eX9_closeTimes_11 f_X9_31.g rfl rfl (by decide) ?_
  refine L_aload_n eX9_closeTimes_14 rfl ?_
  refine L_get eX9_closeTimes_15 f_X9_37.g rfl rfl ?_
  refine L_iald eX9_closeTimes_18 rfl ?_
  refine L_istore_n eX9_closeTimes_19 (s_1 rfl rfl) ?_
  refine L_aload_n eX9_closeTimes_20 rfl ?_
  refine L_get eX9_closeTimes_21 f_X9_21.g rfl rfl ?_
  refine L_iload_n eX9_closeTimes_24 rfl ?_
  refine V_isub eX9_closeTimes_25 ?_
  refine L_istore_n eX9_closeTimes_26 (s_2 rfl rfl) ?_
  refine L_aload_n eX9_closeTimes_27 rfl ?_
  refine L_getR (r := 39) eX9_closeTimes_28 f_X9_28.g rfl rfl (by decide) ?_
  refine L_aload_n eX9_closeTimes_31 rfl ?_
  refine L_get eX9_closeTimes_32 f_X9_37.g rfl rfl ?_
  refine L_iald eX9_closeTimes_35 rfl ?_
  refine V_iconst eX9_closeTimes_36 ?_
  refine V_isub eX9_closeTimes_37 ?_
  refine L_istore_n eX9_closeTimes_38 (s_3 rfl rfl) ?_
  refine L_aload_n eX9_closeTimes_39 rfl ?_
  refine L_dup eX9_closeTimes_40 ?_
  refine L_get eX9_closeTimes_41 f_X9_25.g rfl rfl ?_
  refine L_aload_n eX9_closeTimes_44 rfl ?_
  refine L_get eX9_closeTimes_45 f_X9_25.g rfl rfl ?_
  refine L_aload_n eX9_closeTimes_48 rfl ?_
  refine L_getR (r := 41) eX9_closeTimes_49 f_X9_34.g rfl rfl (by decide) ?_
  refine L_aload_n eX9_closeTimes_52 rfl ?_
  refine L_get eX9_closeTimes_53 f_X9_37.g rfl rfl ?_
  refine L_iald eX9_closeTimes_56 rfl ?_
  refine V_isub eX9_closeTimes_57 ?_
  refine L_iload_n eX9_closeTimes_58 rfl ?_
  refine V_imul eX9_closeTimes_59 ?_
  refine V_iadd eX9_closeTimes_60 ?_
  refine L_put eX9_closeTimes_61 f_X9_25 rfl rfl ?_
  refine V_iconst eX9_closeTimes_64 ?_
  refine L_istore eX9_closeTimes_65 (s_4 rfl rfl) ?_
  rw [r40, r39, r41]
  have e1 : F1 35 4 + (F1 35 4 - tsm B) * ((kk : Int) + 1 - 1) = tsm (B ++ rpt c (kk + 1)) := by
    rw [tT', m4, ht, show tsm B + tsm c - tsm B = tsm c by omega, show (kk : Int) + 1 - 1 = kk by omega, Int.mul_comm (tsm c)]
    omega
  rw [e1]
  obtain ⟨F2, eF2⟩ : ∃ F2, F2 = uF F1 35 4 (tsm (B ++ rpt c (kk + 1))) := ⟨_, rfl⟩
  rw [← eF2]
  have g3 : F2 35 3 = F 35 3 := by rw [eF2, uF_ne (by decide)]; exact m3
  have g4 : F2 35 4 = tsm (B ++ rpt c (kk + 1)) := by rw [eF2, uF_eq]
  have g8 : F2 35 8 = st.length := by rw [eF2, uF_ne (by decide)]; exact m8
  have go : ∀ o k, o ≠ 35 → F2 o k = F o k := fun o k q => by rw [eF2, uF_ne (by omega)]; exact mo o k q
  rw [m3, show (kk : Int) + 1 - 1 = kk by omega]
  by_cases big : 60 ≤ B.length + c.length
  · obtain ⟨z, ez⟩ : ∃ z, z = (F 35 3 - ((min 60 B.length : Nat) : Int)) := ⟨_, rfl⟩
    rw [← ez]
    have hz : 0 ≤ z ∧ z ≤ 60 := by omega
    have hzk : 0 ≤ z * (kk : Int) ∧ z * (kk : Int) ≤ 60 * 8 := ⟨Int.mul_nonneg hz.1 (by omega), Int.le_trans (Int.mul_le_mul_of_nonneg_right hz.2 (by omega)) (by omega)⟩
    have f98 : ∀ (x1 x2 x3 x4 : Option Value), V G mX9_closeTimes Q 0 0 98 [some (.ref 35), x1, x2, x3, x4] [] (sw F2 A) := fun x1 x2 x3 x4 => by
      refine fin F2 A x1 x2 x3 x4 ?_ ?_ g4 g8 go (fun _ _ => rfl)
      · rw [g3, hn, lenT']
        have : 0 ≤ kk * c.length := Nat.zero_le _
        omega
      · intro i x hi e
        rw [eT', List.getElem?_append_left (by omega)] at e
        exact hs i x hi e
    refine L_iload eX9_closeTimes_67 rfl ?_
    refine L_iload_n eX9_closeTimes_69 rfl ?_
    refine L_iload_n eX9_closeTimes_70 rfl ?_
    refine V_imul eX9_closeTimes_71 ?_
    -- at 72: .if_icmp .ge 26
    refine V_icmpge eX9_closeTimes_72 (fun h2 => ?_) (fun h2 => ?_)
    · exact f98 _ _ _ _
    · refine L_aload_n eX9_closeTimes_75 rfl ?_
      refine L_get eX9_closeTimes_76 f_X9_21.g rfl rfl ?_
      refine L_bipush eX9_closeTimes_79 rfl ?_
      -- at 81: .if_icmp .ge 17
      refine V_icmpge eX9_closeTimes_81 (fun h3 => ?_) (fun h3 => ?_)
      · exact f98 _ _ _ _
      · omega
  · have ea : ((min 60 B.length : Nat) : Int) = B.length := by omega
    have el : F 35 3 - ((min 60 B.length : Nat) : Int) = c.length := by omega
    rw [el, ea]
    have eP : (c.length : Int) * (kk : Int) = ((kk * c.length : Nat) : Int) := by
      push_cast
      rw [Int.mul_comm]
    have hP : kk * c.length ≤ 8 * 60 := Nat.mul_le_mul (by omega) (by omega)
    generalize ePP : kk * c.length = P at *
    have LOOP : ∀ (r i : Nat) (F3 : fT) (A3 : nT), i + r = P → F3 35 3 = (B.length + c.length + i : Nat) → B.length + c.length + i ≤ 60 → rwK A3 (B.length + c.length + i) (B ++ rpt c (kk + 1)) → F3 35 4 = tsm (B ++ rpt c (kk + 1)) → F3 35 8 = st.length → (∀ o k, o ≠ 35 → F3 o k = F o k) → (∀ o, o < 36 ∨ 38 < o → A3 o = A o) → V G mX9_closeTimes Q 0 0 67 [some (.ref 35), some (vi B.length), some (vi c.length), some (vi kk), some (vi i)] [] (sw F3 A3) := by
      intro r
      induction r with
      | zero =>
        intro i F3 A3 e0 e3 e60 er e4 e8 ef eA
        refine L_iload eX9_closeTimes_67 rfl ?_
        refine L_iload_n eX9_closeTimes_69 rfl ?_
        refine L_iload_n eX9_closeTimes_70 rfl ?_
        refine V_imul eX9_closeTimes_71 ?_
        -- at 72: .if_icmp .ge 26
        refine V_icmpge eX9_closeTimes_72 (fun h2 => ?_) (fun h2 => ?_)
        · refine fin F3 A3 _ _ _ _ (by rw [e3, lenT']; omega) ?_ e4 e8 ef eA
          intro j x hj e
          by_cases cj : j < B.length + c.length + i
          · exact er j x cj e
          · rw [List.getElem?_eq_none (by omega)] at e
            exact absurd e (by simp)
        · omega
      | succ r ih =>
        intro i F3 A3 e0 e3 e60 er e4 e8 ef eA
        have cp : 0 < c.length := by
          rcases Nat.eq_zero_or_pos c.length with e | e
          · rw [e] at ePP; omega
          · exact e
        refine L_iload eX9_closeTimes_67 rfl ?_
        refine L_iload_n eX9_closeTimes_69 rfl ?_
        refine L_iload_n eX9_closeTimes_70 rfl ?_
        refine V_imul eX9_closeTimes_71 ?_
        -- at 72: .if_icmp .ge 26
        refine V_icmpge eX9_closeTimes_72 (fun h2 => ?_) (fun h2 => ?_)
        · omega
        · refine L_aload_n eX9_closeTimes_75 rfl ?_
          refine L_get eX9_closeTimes_76 f_X9_21.g rfl rfl ?_
          refine L_bipush eX9_closeTimes_79 rfl ?_
          -- at 81: .if_icmp .ge 17
          refine V_icmpge eX9_closeTimes_81 (fun h3 => ?_) (fun h3 => ?_)
          · refine fin F3 A3 _ _ _ _ (by rw [e3, lenT']; omega) ?_ e4 e8 ef eA
            intro j x hj e
            exact er j x (by omega) e
          · refine L_aload_n eX9_closeTimes_84 rfl ?_
            refine L_iload_n eX9_closeTimes_85 rfl ?_
            refine L_iload eX9_closeTimes_86 rfl ?_
            refine V_iadd eX9_closeTimes_88 ?_
            refine C_v0 (p_X9_copyStep (by omega) (by omega)) v_X9_122 eX9_closeTimes_89 rfl rfl ?_
            refine L_iinc eX9_closeTimes_92 rfl (s_4 rfl rfl) ?_
            refine V_goto eX9_closeTimes_95 ?_
            refine ih (i + 1) _ _ (by omega) (by rw [uF_eq, e3]; omega) (by omega) ?_ (by rw [uF_ne (by decide)]; exact e4) (by rw [uF_ne (by decide)]; exact e8) (fun o k q => by rw [uF_ne (by omega)]; exact ef o k q) (fun o q => by rw [sA_ne (by omega), sA_ne (by omega), sA_ne (by omega)]; exact eA o q)
            intro j x hj e
            rw [sA_ne (by decide), sA_ne (by decide), sA_eq, sA_ne (by decide), sA_eq, sA_eq]
            by_cases cj : j = B.length + c.length + i
            · have ej : (j : Int) = F3 35 3 := by omega
              rw [ej, uI_eq, uI_eq, uI_eq]
              have e' : (B ++ rpt c (kk + 1))[B.length + i]? = some x := by
                rw [← e, cj, List.getElem?_append_right (by omega), List.getElem?_append_right (by omega), show B.length + c.length + i - B.length = i + c.length by omega, show B.length + i - B.length = i by omega]
                exact (rpt_per (by omega)).symm
              have := er (B.length + i) x (by omega) e'
              rw [show (B.length : Int) + (i : Int) = ((B.length + i : Nat) : Int) by omega]
              exact this
            · have ej : (j : Int) ≠ F3 35 3 := by omega
              rw [uI_ne ej, uI_ne ej, uI_ne ej]
              exact er j x (by omega) e
    refine LOOP P 0 F2 A (by omega) (by rw [g3, hn]; omega) (by omega) ?_ g4 g8 go (fun _ _ => rfl)
    intro j x hj e
    rw [eT', List.getElem?_append_left (by omega)] at e
    exact hs j x (by omega) e
end P99d

