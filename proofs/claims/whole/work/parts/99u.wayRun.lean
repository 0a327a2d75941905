/-! WAYS: all the ops are run, in the reference -/
section P99u
variable {F : fT} {A : nT} {O : List opT}
theorem m_runWay {G : gT} {S : lwT} (hb : baT 0 O) (hO : O.length ≤ 63) (h : opR F A O) (eS : (O.foldl smS ([], [])).1 = S) : Meets G mX11_runWay [.ref 66] (sw F A) (fun r w => ∃ F1 A1, w = sw F1 A1 ∧ frRw F F1 A A1 ∧ (60 < tsm S → r = some (vi 0)) ∧ (¬ 60 < tsm S → r = some (vi 1) ∧ F1 66 36 = tsm S ∧ F1 66 37 = S.length ∧ prK A1 82 83 (S.foldl ptS [(0, 0)]))) := by
  have hSB : ∀ s ∈ S, stB s := by
    rw [← eS]
    exact (ba_smB O 0 ([], []) hb rfl ⟨fun x hx => absurd hx (by simp), fun x hx => absurd hx (by simp)⟩).1
  rw [sm_ex hb] at eS
  refine L_ent [some (.ref 66), none, none, none, none, none] rfl ?_
  generalize hQ : (fun (r : Option Value) (w : wT) => ∃ F1 A1, w = sw F1 A1 ∧ frRw F F1 A A1 ∧ (60 < tsm S → r = some (vi 0)) ∧ (¬ 60 < tsm S → r = some (vi 1) ∧ F1 66 36 = tsm S ∧ F1 66 37 = S.length ∧ prK A1 82 83 (S.foldl ptS [(0, 0)]))) = Q
  have LOOP : ∀ (W : List opT) (k : Nat) (ls : List (Nat × Int)) (L : lwT) (F1 : fT) (A1 : nT) (x3 x4 x5 : Option Value), W = (exT (O.drop k)).1 ++ wkT O (exT (O.drop k)).2 ls → lkT O (exT (O.drop k)).2 ls → k ≤ O.length → S = L ++ stpT W → tsm L ≤ 60 → frRw F F1 A A1 → F1 66 36 = tsm L → F1 66 37 = L.length → prK A1 82 83 (L.foldl ptS [(0, 0)]) → lpK A1 ls → V G mX11_runWay Q 0 0 28 [some (.ref 66), some (vi ls.length), some (vi k), x3, x4, x5] [] (sw F1 A1) := by
    intro W
    induction W with
    | nil =>
      intro k ls L F1 A1 x3 x4 x5 eW lk hk eL tL f g36 g37 pr lp
      have g27 : F1 66 27 = O.length := by rw [f.1 66 27 (by decide)]; exact h.1
      by_cases c : k < O.length
      · rw [List.drop_eq_getElem_cons c] at eW
        exfalso
        by_cases c2 : O[k].1 = 2
        · rw [exT_two c2] at eW; exact absurd eW (by simp)
        · by_cases c3 : O[k].1 = 3
          · rw [exT_thr c3] at eW; exact absurd eW (by simp)
          · rw [exT_one c2 c3] at eW; exact absurd eW (by simp)
      · have eL' : S = L := by rw [eL]; show L ++ [] = L; rw [List.append_nil]
        refine L_iload_n eX11_runWay_28 rfl ?_
        refine L_aload_n eX11_runWay_29 rfl ?_
        refine L_get eX11_runWay_30 f_X11_224.g rfl rfl ?_
        -- at 33: .if_icmp .ge 240
        refine V_icmpge eX11_runWay_33 (fun h2 => ?_) (fun h2 => ?_)
        · refine V_iconst eX11_runWay_273 ?_
          -- at 274: .ireturn
          refine V_zreturn (nar_z (Or.inr rfl)) eX11_runWay_274 ?_
          rw [← hQ, eL']
          exact ⟨F1, A1, rfl, f, fun x => by omega, fun _ => ⟨rfl, g36, g37, pr⟩⟩
        · omega
    | cons w W ih =>
      intro k ls L F1 A1 x3 x4 x5 eW lk hk eL tL f g36 g37 pr lp
      have g27 : F1 66 27 = O.length := by rw [f.1 66 27 (by decide)]; exact h.1
      obtain ⟨d, hd⟩ := ba_drop k O 0 hb
      have hlen := lk_len _ _ lk
      rw [ba_len _ _ hd] at hlen
      by_cases c : k < O.length
      rotate_left
      · rw [List.drop_eq_nil_of_le (by omega)] at eW hd
        have d0 : d = 0 := hd
        have ls0 : ls = [] := List.eq_nil_of_length_eq_zero (by omega)
        rw [ls0] at eW
        exact absurd eW (by simp [exT, wkT])
      rw [List.drop_eq_getElem_cons c] at eW hd lk
      obtain ⟨o, eo⟩ : ∃ o, o = O[k] := ⟨_, rfl⟩
      rw [← eo] at eW hd lk
      have hr := h.2 k o (by rw [List.getElem?_eq_getElem c, eo])
      rw [← f.2 76 (by decide), ← f.2 77 (by decide), ← f.2 78 (by decide), ← f.2 79 (by decide)] at hr
      obtain ⟨r76, r77, r78, r79⟩ := hr
      obtain ⟨⟨ok, ok3, d3, dp3⟩, hd'⟩ := hd
      have hY := ba_len _ _ hd'
      obtain ⟨o0, ox, oy, ot⟩ := o
      have r76' : A1 76 k = o0 := r76
      have r77' : A1 77 k = ox := r77
      have r78' : A1 78 k = oy := r78
      have r79' : A1 79 k = ot := r79
      have okb : -1 ≤ o0 ∧ o0 ≤ 3 := by
        rcases ok with x | x | x | x
        · have : o0 = 0 := x.1
          omega
        · have : o0 = 1 := x.1
          omega
        · have : o0 = 2 := x.1
          omega
        · have : o0 = 3 := x
          omega
      by_cases c2 : o0 = 2
      · have ot9 : 2 ≤ ot ∧ ot ≤ 9 := by
          rcases ok with x | x | x | x
          · have : o0 = 0 := x.1
            omega
          · have : o0 = 1 := x.1
            omega
          · exact x.2
          · have : o0 = 3 := x
            omega
        rw [dpO_two (o := (o0, ox, oy, ot)) c2] at hY dp3
        rw [exT_two (o := (o0, ox, oy, ot)) c2] at eW lk
        cases e2 : (exT (O.drop (k + 1))).2 with
        | nil => rw [e2] at hY; exact absurd hY (by simp)
        | cons c1 st =>
          rw [e2] at eW lk
          have lk' : lkT O st ls := lk
          have eW' : w :: W = (o0, ox, oy, ot) :: ((rpO (exT (O.drop (k + 1))).1 ot.toNat ++ c1) ++ wkT O st ls) := eW
          obtain ⟨ew, eW2⟩ := List.cons.inj eW'
          rw [ew, stp_no (Or.inl c2)] at eL
          have hnx := ih (k + 1) ((k, ot) :: ls) L F1 (sA (sA A1 80 (uI (A1 80) ls.length k)) 81 (uI (A1 81) ls.length ot)) x3 x4 x5 (by
            rw [e2, eW2]
            show _ = (exT (O.drop (k + 1))).1 ++ (rpO (exT (O.drop (k + 1))).1 (ot - 1).toNat ++ (c1 ++ wkT O st ls))
            rw [show ot.toNat = (ot - 1).toNat + 1 by omega, rpO_s]
            simp only [List.append_assoc]) (by
            rw [e2]
            exact ⟨⟨e2, by show 1 ≤ ot ∧ ot ≤ 9; omega, c⟩, lk'⟩) (by omega) eL tL ⟨f.1, fun o q => by rw [sA_ne (by omega), sA_ne (by omega)]; exact f.2 o q⟩ g36 g37 (by
            intro i x e
            rw [sA_ne (by decide), sA_ne (by decide), sA_ne (by decide), sA_ne (by decide)]
            exact pr i x e) ⟨⟨by rw [sA_ne (by decide), sA_eq, uI_eq], by rw [sA_eq, uI_eq]⟩, lp_up ls lp (fun i hi => by
              have cne : (i : Int) ≠ ls.length := by omega
              rw [sA_ne (by decide), sA_eq, uI_ne cne, sA_eq, uI_ne cne]
              exact ⟨rfl, rfl⟩)⟩
          refine L_iload_n eX11_runWay_28 rfl ?_
          refine L_aload_n eX11_runWay_29 rfl ?_
          refine L_get eX11_runWay_30 f_X11_224.g rfl rfl ?_
          -- at 33: .if_icmp .ge 240
          refine V_icmpge eX11_runWay_33 (fun h2 => ?_) (fun h2 => ?_)
          · omega
          refine L_aload_n eX11_runWay_36 rfl ?_
          refine L_getR (r := 76) eX11_runWay_37 f_X11_41.g rfl rfl (by decide) ?_
          refine L_iload_n eX11_runWay_40 rfl ?_
          refine L_iald eX11_runWay_41 rfl ?_
          refine V_iconst eX11_runWay_42 ?_
          -- at 43: .if_icmp .ne 28
          refine V_icmpne eX11_runWay_43 (fun h3 => ?_) (fun h3 => ?_)
          · omega
          refine L_aload_n eX11_runWay_46 rfl ?_
          refine L_getR (r := 80) eX11_runWay_47 f_X11_53.g rfl rfl (by decide) ?_
          refine L_iload_n eX11_runWay_50 rfl ?_
          refine L_iload_n eX11_runWay_51 rfl ?_
          refine L_iast eX11_runWay_52 rfl ?_
          obtain ⟨A2, eA2⟩ : ∃ A2, A2 = sA A1 80 (uI (A1 80) ls.length k) := ⟨_, rfl⟩
          rw [← eA2] at hnx ⊢
          have u79 : A2 79 k = ot := by rw [eA2, sA_ne (by decide)]; exact r79'
          refine L_aload_n eX11_runWay_53 rfl ?_
          refine L_getR (r := 81) eX11_runWay_54 f_X11_56.g rfl rfl (by decide) ?_
          refine L_iload_n eX11_runWay_57 rfl ?_
          refine L_aload_n eX11_runWay_58 rfl ?_
          refine L_getR (r := 79) eX11_runWay_59 f_X11_50.g rfl rfl (by decide) ?_
          refine L_iload_n eX11_runWay_62 rfl ?_
          refine L_iald eX11_runWay_63 rfl ?_
          rw [u79]
          refine L_iast eX11_runWay_64 rfl ?_
          refine L_iinc eX11_runWay_65 rfl (s_1 rfl rfl) ?_
          refine V_goto eX11_runWay_68 ?_
          refine L_iinc eX11_runWay_267 rfl (s_2 rfl rfl) ?_
          refine V_goto eX11_runWay_270 ?_
          rw [show A2 81 = A1 81 by rw [eA2, sA_ne (by decide)]]
          exact hnx
      by_cases c3 : o0 = 3
      · have d0 := ok3 c3
        rw [exT_thr (o := (o0, ox, oy, ot)) c3] at eW lk
        cases ls with
        | nil => exact absurd hlen (by show ¬ 0 = d; omega)
        | cons e ls =>
          obtain ⟨a, lf⟩ := e
          obtain ⟨⟨k1, k2, k3⟩, lk'⟩ : ((exT (O.drop (a + 1))).2 = (exT (O.drop (k + 1))).1 :: (exT (O.drop (k + 1))).2 ∧ (1 ≤ lf ∧ lf ≤ 9) ∧ a < O.length) ∧ lkT O (exT (O.drop (k + 1))).2 ls := lk
          obtain ⟨⟨p1, p2⟩, lp'⟩ := lp
          have p1' : A1 80 ls.length = a := p1
          have p2' : A1 81 ls.length = lf := p2
          rw [List.length_cons] at hlen
          have eW' : w :: W = (o0, ox, oy, ot) :: (rpO (exT (O.drop (a + 1))).1 (lf - 1).toNat ++ ((exT (O.drop (k + 1))).1 ++ wkT O (exT (O.drop (k + 1))).2 ls)) := eW
          obtain ⟨ew, eW2⟩ := List.cons.inj eW'
          rw [ew, stp_no (Or.inr c3)] at eL
          have ei : (((a, lf) :: ls).length : Int) = (ls.length : Int) + 1 := rfl
          have ez : (ls.length : Int) + 1 - 1 = ls.length := by omega
          rw [ei]
          refine L_iload_n eX11_runWay_28 rfl ?_
          refine L_aload_n eX11_runWay_29 rfl ?_
          refine L_get eX11_runWay_30 f_X11_224.g rfl rfl ?_
          -- at 33: .if_icmp .ge 240
          refine V_icmpge eX11_runWay_33 (fun h2 => ?_) (fun h2 => ?_)
          · omega
          refine L_aload_n eX11_runWay_36 rfl ?_
          refine L_getR (r := 76) eX11_runWay_37 f_X11_41.g rfl rfl (by decide) ?_
          refine L_iload_n eX11_runWay_40 rfl ?_
          refine L_iald eX11_runWay_41 rfl ?_
          refine V_iconst eX11_runWay_42 ?_
          -- at 43: .if_icmp .ne 28
          refine V_icmpne eX11_runWay_43 (fun h3 => ?_) (fun h3 => ?_)
          rotate_left
          · omega
          refine L_aload_n eX11_runWay_71 rfl ?_
          refine L_getR (r := 76) eX11_runWay_72 f_X11_41.g rfl rfl (by decide) ?_
          refine L_iload_n eX11_runWay_75 rfl ?_
          refine L_iald eX11_runWay_76 rfl ?_
          refine V_iconst eX11_runWay_77 ?_
          -- at 78: .if_icmp .ne 44
          refine V_icmpne eX11_runWay_78 (fun h4 => ?_) (fun h4 => ?_)
          · omega
          refine L_aload_n eX11_runWay_81 rfl ?_
          refine L_getR (r := 81) eX11_runWay_82 f_X11_56.g rfl rfl (by decide) ?_
          refine L_iload_n eX11_runWay_85 rfl ?_
          refine V_iconst eX11_runWay_86 ?_
          refine V_isub eX11_runWay_87 ?_
          refine L_dup2 eX11_runWay_88 ?_
          refine L_iald eX11_runWay_89 rfl ?_
          refine V_iconst eX11_runWay_90 ?_
          refine V_isub eX11_runWay_91 ?_
          refine L_iast eX11_runWay_92 rfl ?_
          rw [ez, p2']
          obtain ⟨A2, eA2⟩ : ∃ A2, A2 = sA A1 81 (uI (A1 81) ls.length (lf - 1)) := ⟨_, rfl⟩
          rw [← eA2]
          have u81 : A2 81 ls.length = lf - 1 := by rw [eA2, sA_eq, uI_eq]
          have u80 : A2 80 = A1 80 := by rw [eA2, sA_ne (by decide)]
          have u80' : A2 80 ls.length = a := by rw [u80]; exact p1'
          have fA : frRw F F1 A A2 := ⟨f.1, fun o q => by rw [eA2, sA_ne (by omega)]; exact f.2 o q⟩
          have pr2 : prK A2 82 83 (L.foldl ptS [(0, 0)]) := fun i x e => by
            rw [eA2, sA_ne (by decide), sA_ne (by decide)]
            exact pr i x e
          have lp2 : lpK A2 ls := lp_up ls lp' (fun i hi => by
              have cne : (i : Int) ≠ ls.length := by omega
              rw [eA2, sA_ne (by decide), sA_eq, uI_ne cne]
              exact ⟨rfl, rfl⟩)
          refine L_aload_n eX11_runWay_93 rfl ?_
          refine L_getR (r := 81) eX11_runWay_94 f_X11_56.g rfl rfl (by decide) ?_
          refine L_iload_n eX11_runWay_97 rfl ?_
          refine V_iconst eX11_runWay_98 ?_
          refine V_isub eX11_runWay_99 ?_
          rw [ez]
          refine L_iald eX11_runWay_100 rfl ?_
          -- at 101: .ifCond .le 15
          rw [u81]
          refine V_ifle eX11_runWay_101 (fun h5 => ?_) (fun h5 => ?_)
          · have l1 : (lf - 1).toNat = 0 := by omega
            rw [l1] at eW2
            refine L_iinc eX11_runWay_116 rfl (s_1 rfl rfl) ?_
            refine V_goto eX11_runWay_119 ?_
            refine L_iinc eX11_runWay_267 rfl (s_2 rfl rfl) ?_
            refine V_goto eX11_runWay_270 ?_
            have := ih (k + 1) ls L F1 A2 x3 x4 x5 eW2 lk' (by omega) eL tL fA g36 g37 pr2 lp2
            rw [show (ls.length : Int) + 1 + -1 = ls.length by omega]
            exact this
          · refine L_aload_n eX11_runWay_104 rfl ?_
            refine L_getR (r := 80) eX11_runWay_105 f_X11_53.g rfl rfl (by decide) ?_
            refine L_iload_n eX11_runWay_108 rfl ?_
            refine V_iconst eX11_runWay_109 ?_
            refine V_isub eX11_runWay_110 ?_
            rw [ez]
            refine L_iald eX11_runWay_111 rfl ?_
            rw [u80']
            refine L_istore_n eX11_runWay_112 (s_2 rfl rfl) ?_
            refine V_goto eX11_runWay_113 ?_
            refine L_iinc eX11_runWay_267 rfl (s_2 rfl rfl) ?_
            refine V_goto eX11_runWay_270 ?_
            have := ih (a + 1) ((a, lf - 1) :: ls) L F1 A2 x3 x4 x5 (by
              rw [k1, eW2, show (lf - 1).toNat = (lf - 1 - 1).toNat + 1 by omega, rpO_s]
              show _ = (exT (O.drop (a + 1))).1 ++ (rpO (exT (O.drop (a + 1))).1 (lf - 1 - 1).toNat ++ ((exT (O.drop (k + 1))).1 ++ wkT O (exT (O.drop (k + 1))).2 ls))
              simp only [List.append_assoc]) (by
              rw [k1]
              exact ⟨⟨k1, by show 1 ≤ lf - 1 ∧ lf - 1 ≤ 9; omega, k3⟩, lk'⟩) (by omega) eL tL fA g36 g37 pr2 ⟨⟨u80', u81⟩, lp2⟩
            exact this
      · rw [exT_one (o := (o0, ox, oy, ot)) c2 c3] at eW lk
        have eW' : w :: W = (o0, ox, oy, ot) :: ((exT (O.drop (k + 1))).1 ++ wkT O (exT (O.drop (k + 1))).2 ls) := eW
        obtain ⟨ew, eW2⟩ := List.cons.inj eW'
        rw [ew, stp_yes (show ¬ (o0 = 2 ∨ o0 = 3) by omega)] at eL
        have eL2 : S = L ++ [(ox, oy, ot)] ++ stpT W := by rw [eL, List.append_assoc]; rfl
        have sb := hSB (ox, oy, ot) (by rw [eL]; simp)
        obtain ⟨b1, b2, b3, b4⟩ := sb
        have b1' : ab 999 ox := b1
        have b2' : ab 999 oy := b2
        have b3' : 1 ≤ ot ∧ ot ≤ 30 := ⟨b3, b4⟩
        have hLb : ∀ x ∈ L, stB x := fun x hx => hSB x (by rw [eL]; simp [hx])
        have hRb : ∀ x ∈ stpT W, stB x := fun x hx => hSB x (by rw [eL]; simp [hx])
        have tR := tsm_ge _ hRb
        have tP := tsm_ge _ hLb
        have tS : tsm S = tsm L + (ot + tsm (stpT W)) := by rw [eL, tsm_app, tsm_c]
        have pl := pt_len L [(0, 0)] hLb
        have pl1 : (([(0, 0)] : poT).length : Int) = 1 := rfl
        rw [pl1] at pl
        refine L_iload_n eX11_runWay_28 rfl ?_
        refine L_aload_n eX11_runWay_29 rfl ?_
        refine L_get eX11_runWay_30 f_X11_224.g rfl rfl ?_
        -- at 33: .if_icmp .ge 240
        refine V_icmpge eX11_runWay_33 (fun h2 => ?_) (fun h2 => ?_)
        · omega
        refine L_aload_n eX11_runWay_36 rfl ?_
        refine L_getR (r := 76) eX11_runWay_37 f_X11_41.g rfl rfl (by decide) ?_
        refine L_iload_n eX11_runWay_40 rfl ?_
        refine L_iald eX11_runWay_41 rfl ?_
        refine V_iconst eX11_runWay_42 ?_
        -- at 43: .if_icmp .ne 28
        refine V_icmpne eX11_runWay_43 (fun h3 => ?_) (fun h3 => ?_)
        rotate_left
        · omega
        refine L_aload_n eX11_runWay_71 rfl ?_
        refine L_getR (r := 76) eX11_runWay_72 f_X11_41.g rfl rfl (by decide) ?_
        refine L_iload_n eX11_runWay_75 rfl ?_
        refine L_iald eX11_runWay_76 rfl ?_
        refine V_iconst eX11_runWay_77 ?_
        -- at 78: .if_icmp .ne 44
        refine V_icmpne eX11_runWay_78 (fun h4 => ?_) (fun h4 => ?_)
        rotate_left
        · omega
        refine L_aload_n eX11_runWay_122 rfl ?_
        refine L_get eX11_runWay_123 f_X11_234.g rfl rfl ?_
        refine L_aload_n eX11_runWay_126 rfl ?_
        refine L_getR (r := 79) eX11_runWay_127 f_X11_50.g rfl rfl (by decide) ?_
        refine L_iload_n eX11_runWay_130 rfl ?_
        refine L_iald eX11_runWay_131 rfl ?_
        rw [r79']
        refine V_iadd eX11_runWay_132 ?_
        refine L_bipush eX11_runWay_133 rfl ?_
        -- at 135: .if_icmp .le 5
        refine V_icmple eX11_runWay_135 (fun h5 => ?_) (fun h5 => ?_)
        rotate_left
        · refine V_iconst eX11_runWay_138 ?_
          -- at 139: .ireturn
          refine V_zreturn (nar_z (Or.inl rfl)) eX11_runWay_139 ?_
          rw [← hQ]
          exact ⟨F1, A1, rfl, f, fun _ => rfl, fun x => by omega⟩
        · refine m_runStep (m := (tsm L).toNat) (l := L.foldl ptS [(0, 0)]) (by omega) (by omega) (by rw [g36]; omega) pr b3' b1' b2' (by omega) r77' r78' r79' (fun F2 A2 x3 x4 x5 ff fa m36 m37 pr2 => ?_)
          refine L_iinc eX11_runWay_267 rfl (s_2 rfl rfl) ?_
          refine V_goto eX11_runWay_270 ?_
          exact ih (k + 1) ls (L ++ [(ox, oy, ot)]) F2 A2 x3 x4 x5 eW2 lk (by omega) eL2 (by rw [tsm_app, tsm_one]; show tsm L + ot ≤ 60; omega) (f.tr ⟨ff, fun o q => fa o (by omega)⟩) (by rw [m36, tsm_app, tsm_one]; show _ = tsm L + ot; omega) (by rw [m37, g37, List.length_append]; rfl) (by rw [List.foldl_append]; exact pr2) (lp_up ls lp (fun i hi => by rw [fa 80 (by decide), fa 81 (by decide)]; exact ⟨rfl, rfl⟩))
  refine L_aload_n eX11_runWay_0 rfl ?_
  refine V_iconst eX11_runWay_1 ?_
  refine L_put eX11_runWay_2 f_X11_234 rfl rfl ?_
  refine L_aload_n eX11_runWay_5 rfl ?_
  refine V_iconst eX11_runWay_6 ?_
  refine L_put eX11_runWay_7 f_X11_237 rfl rfl ?_
  refine L_aload_n eX11_runWay_10 rfl ?_
  refine L_getR (r := 82) eX11_runWay_11 f_X11_59.g rfl rfl (by decide) ?_
  refine V_iconst eX11_runWay_14 ?_
  refine V_iconst eX11_runWay_15 ?_
  refine L_iast eX11_runWay_16 rfl ?_
  refine L_aload_n eX11_runWay_17 rfl ?_
  refine L_getR (r := 83) eX11_runWay_18 f_X11_62.g rfl rfl (by decide) ?_
  refine V_iconst eX11_runWay_21 ?_
  refine V_iconst eX11_runWay_22 ?_
  refine L_iast eX11_runWay_23 rfl ?_
  refine V_iconst eX11_runWay_24 ?_
  refine L_istore_n eX11_runWay_25 (s_1 rfl rfl) ?_
  refine V_iconst eX11_runWay_26 ?_
  refine L_istore_n eX11_runWay_27 (s_2 rfl rfl) ?_
  refine LOOP (exT O).1 0 [] [] _ _ none none none ?_ ?_ (by omega) ?_ (by decide) ⟨fun o k q => by rw [uF_ne (by omega), uF_ne (by omega)], fun o q => by rw [sA_ne (by omega), sA_ne (by omega)]⟩ (by rw [uF_ne (by decide), uF_eq]; rfl) (by rw [uF_eq]; rfl) ?_ trivial
  · rw [List.drop_zero, List.eq_nil_of_length_eq_zero (ba_len O 0 hb)]
    show _ = _ ++ []
    rw [List.append_nil]
  · rw [List.drop_zero, List.eq_nil_of_length_eq_zero (ba_len O 0 hb)]
    trivial
  · rw [← eS]; rfl
  · intro i x e
    have e' : ([(0, 0)] : poT)[i]? = some x := e
    cases i with
    | zero =>
      have := Option.some.inj e'
      rw [← this, sA_ne (by decide), sA_eq, sA_eq]
      exact ⟨if_pos rfl, if_pos rfl⟩
    | succ i => exact absurd e' (by simp)
end P99u

