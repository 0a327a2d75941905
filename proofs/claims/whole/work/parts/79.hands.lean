/-! all HANDS from 10 to 200 -/
section P79
variable {F F' : fT} {A A' : nT}
theorem iv_fly47 (h : Iv F A) {g : Int} (hg : 10 ≤ g ∧ g ≤ 200) : ∃ F1 A1, (∀ G : gT, Mu G mX1_fly [.ref 47, .ref 2, .ref 6, .ref 9, vi g] F A none F1 A1) ∧ Iv F1 A1 ∧ kp F A F1 A1 ∧ (F1 47 0 = F 2 0 ∧ F1 47 1 = F 6 0 ∧ F1 47 2 = A 9 3 ∧ F1 47 3 = F 2 1) ∧ agP (inN F) (A1 48, A1 49) (cTs F A 2 g zr) ∧ (∀ k, F1 42 k = F 42 k) ∧ A1 43 = A 43 ∧ A1 44 = A 44 ∧ A1 45 = A 45 := by
  have hok := h.ok
  have k1 := fly_kp (F := F) (A := A) (f := 47) (Or.inr rfl) (g := g) (a := F 2 0) (b := F 6 0) (c := A 9 3) (d := F 2 1)
  refine ⟨flF F 47 (F 2 0) (F 6 0) (A 9 3) (F 2 1), flA F A 47 2 g, fun G => p_X1_fly (Or.inr rfl) (Or.inl rfl) hg hok.c h.b2, ?_, k1, ⟨flF_0, flF_1, flF_2, flF_3⟩, ?_, fun k => flF_o (by omega), flA_o (by decide), flA_o (by decide), flA_o (by decide)⟩
  · refine k1.Qv h ?_ ?_ ?_ ?_ ?_ ?_
    · rw [flF_o (by decide)]
      exact h.fl.imp id (fun e => ⟨e.1, k1.Qf e.2 (fun k => flF_o (by omega)) (flA_o (by decide)) (flA_o (by decide)) (flA_o (by decide))⟩)
    · exact k1.Qk h.ts (flF_o (by decide)) (flA_o (by decide)) (flA_o (by decide))
    · exact k1.Qr h.sr (flF_o (by decide)) (flF_o (by decide)) (flA_o (by decide))
    · rw [flA_o (by decide), flA_o (by decide)]
      exact h.b1
    · rw [show flA F A 47 2 g 48 = _ from flA_1, show flA F A 47 2 g 49 = _ from flA_2]
      exact cTs_b hok.c hg h.b2
    · rw [flA_o (by decide), flA_o (by decide)]
      exact h.b3
  · rw [show flA F A 47 2 g 48 = _ from flA_1, show flA F A 47 2 g 49 = _ from flA_2]
    exact Iv.ag hok
/-- the CRACKS of a HAND's THROW -/
noncomputable def crH (F : fT) (A : nT) (n T : Nat) (g : Int) : List (Int × Int) := ckL (cTs F A 2 g zr).1 (cTs F A 2 g zr).2 (A 9 3) n T
theorem kp.cr (hk : kp F A F' A') {n T : Nat} {g : Int} : crH F' A' n T g = crH F A n T g := by
  unfold crH
  rw [hk.Qt, hk.2 9 rfl]
theorem kp.na (hk : kp F A F' A') {n T : Nat} (en : F 2 0 = n) (eT : F 6 0 = T) : F' 2 0 = n ∧ F' 6 0 = T := by
  rw [hk.1 2 0 rfl, hk.1 6 0 rfl]
  exact ⟨en, eT⟩
/-- class: the other Flight's THROW by g, from a world that has kept all -/
theorem fly_g (h : Iv F A) (h' : Iv F' A') (hk : kp F A F' A') {n T : Nat} (en : F 2 0 = n) (eT : F 6 0 = T) (hn : 1 ≤ n ∧ n ≤ 12) (hT : 1 ≤ T ∧ T ≤ 60) {g : Int} (hg : 10 ≤ g ∧ g ≤ 200) : ∃ F1 A1, (∀ G : gT, Mu G mX1_fly [.ref 47, .ref 2, .ref 6, .ref 9, vi g] F' A' none F1 A1) ∧ Iv F1 A1 ∧ kp F A F1 A1 ∧ (F1 47 0 = n ∧ F1 47 1 = T ∧ 10 ≤ F1 47 2 ∧ F1 47 2 ≤ 2000) ∧ agP (inI n T n) (A1 48, A1 49) (cTs F A 2 g zr) ∧ ckL (A1 48) (A1 49) (F1 47 2) n T = crH F A n T g ∧ (∀ k, F1 42 k = F' 42 k) ∧ A1 43 = A' 43 ∧ A1 44 = A' 44 ∧ A1 45 = A' 45 := by
  obtain ⟨F1, A1, hM, i1, k1, ef, ag, e42, e43, e44, e45⟩ := iv_fly47 h' hg
  have hna := hk.na en eT
  have ag2 : agP (inI n T n) (A1 48, A1 49) (cTs F A 2 g zr) := by
    unfold inN at ag
    rw [hna.1, hna.2, hk.Qt] at ag
    exact ag
  refine ⟨F1, A1, hM, i1, hk.tr k1, ⟨ef.1.trans hna.1, ef.2.1.trans hna.2, ?_⟩, ag2, ?_, e42, e43, e44, e45⟩
  · rw [ef.2.2.1]
    exact h'.ok.lw.2.2.2.1
  · rw [ef.2.2.1, hk.2 9 rfl]
    exact ckL_c ag2 hn.2 T (Nat.le_refl _)
/-- reference: the THROW by g, from a world that has kept all -/
theorem toss_g (h : Iv F A) (h' : Iv F' A') (hk : kp F A F' A') {n T : Nat} (en : F 2 0 = n) (eT : F 6 0 = T) {g : Int} (hg : 10 ≤ g ∧ g ≤ 200) : ∃ F1 A1, (∀ G : gT, Mu G mX11_toss [.ref 66, vi g] F' A' none F1 A1) ∧ Iv F1 A1 ∧ kp F A F1 A1 ∧ kp F' A' F1 A1 ∧ F1 66 0 = n ∧ F1 66 5 = T ∧ agP (inI n T n) (A1 84, A1 85) (cTs F A 2 g zr) := by
  obtain ⟨F1, A1, hM, i1, k1, e40, ag⟩ := iv_toss h' hg
  have hkk := hk.tr k1
  have hna := hkk.na en eT
  refine ⟨F1, A1, hM, i1, hkk, k1, by rw [i1.s.n]; exact hna.1, by rw [i1.s.T]; exact hna.2, ?_⟩
  unfold inN at ag
  rw [hna.1, hna.2, hkk.Qt] at ag
  exact ag
theorem crack_g (h : Iv F A) (h' : Iv F' A') (hk : kp F A F' A') {n T : Nat} (f0 : F' 66 0 = n) (f5 : F' 66 5 = T) (hn : 1 ≤ n ∧ n ≤ 12) (hT : 1 ≤ T ∧ T ≤ 60) {g : Int} (ag : agP (inI n T n) (A' 84, A' 85) (cTs F A 2 g zr)) : ∃ F1 A1, (∀ G : gT, Mu G mX11_findCracks [.ref 66] F' A' none F1 A1) ∧ Iv F1 A1 ∧ kp F A F1 A1 ∧ kp F' A' F1 A1 ∧ F1 66 41 = (crH F A n T g).length ∧ (∀ (i : Nat) (hi : i < (crH F A n T g).length), A1 86 i = (crH F A n T g)[i].1 ∧ A1 87 i = (crH F A n T g)[i].2) ∧ A1 84 = A' 84 ∧ A1 85 = A' 85 := by
  have eL : crH F A n T g = ckL (A' 84) (A' 85) (A' 72 3) n T := by
    unfold crH
    rw [h'.s.lw 3 (by omega) (by omega), hk.2 9 rfl]
    exact (ckL_c ag hn.2 T (Nat.le_refl _)).symm
  obtain ⟨F1, A1, hK, i1, k1, e41, hr, e84, e85⟩ := iv_cracks h' f0 f5 hn.2 hT.2 eL
  exact ⟨F1, A1, hK, i1, hk.tr k1, k1, e41, hr, e84, e85⟩
theorem crH_mem {n T : Nat} {g : Int} : ∀ e, e ∈ crH F A n T g → (1 ≤ e.1 ∧ e.1 ≤ T) ∧ 1 ≤ e.2 ∧ e.2 ≤ n := fun e he => ckL_mem he
theorem ftR_b {L : List (Int × Int)} {T n : Int} (h : ∀ e, e ∈ L → (1 ≤ e.1 ∧ e.1 ≤ T) ∧ 1 ≤ e.2 ∧ e.2 ≤ n) (hT : 1 ≤ T) : (0 < L.length → 1 ≤ ftR L ∧ ftR L ≤ T) ∧ (L.length = 0 → ftR L = -1) := by
  refine ⟨fun c => ?_, fun c => ?_⟩
  · rw [ftR_at c]
    exact (h _ (List.getElem_mem c)).1
  · rw [List.length_eq_zero_iff.mp c]
    rfl
noncomputable def lhV (F : fT) (A : nT) (n T : Nat) : Nat → Int → Int
  | 0, _ => -1
  | r + 1, g => if 0 < (crH F A n T g).length then g else lhV F A n T r (g + 10)
theorem pw_leastHand (h : Iv F A) : Pw mX10_leastHand mX11_leastHand [] F A := by
  obtain ⟨n, T, en, eT, hn, hT⟩ := iv_nat h
  have C : ∀ G : gT, Meets G mX10_leastHand [.ref 0] (sw F A) (fun r w => ∃ F1 A1, r = some (vi (lhV F A n T 20 10)) ∧ w = sw F1 A1 ∧ Iv F1 A1 ∧ kp F A F1 A1) := by
    intro G
    refine L_ent [some (.ref 0), none] rfl ?_
    generalize hQ : (fun (r : Option Value) (w : wT) => ∃ F1 A1, r = some (vi (lhV F A n T 20 10)) ∧ w = sw F1 A1 ∧ Iv F1 A1 ∧ kp F A F1 A1) = Q
    refine L_bipush eX10_leastHand_0 rfl ?_
    refine L_istore_n eX10_leastHand_2 (s_1 rfl rfl) ?_
    have LOOP : ∀ (r : Nat) (g : Int) (F' : fT) (A' : nT), g = 210 - 10 * r → r ≤ 20 → lhV F A n T r g = lhV F A n T 20 10 → Iv F' A' → kp F A F' A' → V G mX10_leastHand Q 0 0 3 [some (.ref 0), some (vi g)] [] (sw F' A') := by
      intro r
      induction r with
      | zero =>
        intro g F' A' e1 e2 e3 h' hk
        refine L_iload_n eX10_leastHand_3 rfl ?_
        refine L_sipush eX10_leastHand_4 rfl ?_
        -- at 7: .if_icmp .gt 51
        refine V_icmpgt eX10_leastHand_7 (fun h2 => ?_) (fun h2 => ?_)
        · refine V_iconst eX10_leastHand_58 ?_
          -- at 59: .ireturn
          exact V_ireturn eX10_leastHand_59 (by rw [← hQ, ← e3]; exact ⟨F', A', rfl, rfl, h', hk⟩)
        · omega
      | succ r ih =>
        intro g F' A' e1 e2 e3 h' hk
        obtain ⟨F1, A1, hM, i1, k1, ef, ag, ec, -⟩ := fly_g h h' hk en eT hn hT (g := g) (by omega)
        have hF := fun (G : gT) => p_X1_firstCrackTick (G := G) (F := F1) (A := A1) (f := 47) (Or.inr rfl) i1.b2 ef.2.2 ef.1 ef.2.1 hn.2 hT.2
        rw [show A1 (47 + 1) = A1 48 from rfl, show A1 (47 + 2) = A1 49 from rfl, ec] at hF
        have hb := ftR_b (L := crH F A n T g) crH_mem (by omega)
        have e4 : lhV F A n T (r + 1) g = if 0 < (crH F A n T g).length then g else lhV F A n T r (g + 10) := rfl
        rw [e4] at e3
        refine L_iload_n eX10_leastHand_3 rfl ?_
        refine L_sipush eX10_leastHand_4 rfl ?_
        -- at 7: .if_icmp .gt 51
        refine V_icmpgt eX10_leastHand_7 (fun h2 => ?_) (fun h2 => ?_)
        · omega
        · refine L_aload_n eX10_leastHand_10 rfl ?_
          refine L_getR (r := 47) eX10_leastHand_11 f_X10_50.g rfl rfl (by decide) ?_
          refine L_aload_n eX10_leastHand_14 rfl ?_
          refine L_getR (r := 1) eX10_leastHand_15 f_X10_10.g rfl rfl (by decide) ?_
          refine L_getR (r := 2) eX10_leastHand_18 f_X10_112 rfl rfl (by decide) ?_
          refine L_aload_n eX10_leastHand_21 rfl ?_
          refine L_getR (r := 1) eX10_leastHand_22 f_X10_10.g rfl rfl (by decide) ?_
          refine L_getR (r := 6) eX10_leastHand_25 f_X10_130 rfl rfl (by decide) ?_
          refine L_aload_n eX10_leastHand_28 rfl ?_
          refine L_getR (r := 1) eX10_leastHand_29 f_X10_10.g rfl rfl (by decide) ?_
          refine L_getR (r := 9) eX10_leastHand_32 f_X10_166 rfl rfl (by decide) ?_
          refine L_iload_n eX10_leastHand_35 rfl ?_
          refine C_v0 (hM G) v_X10_255 eX10_leastHand_36 rfl rfl ?_
          refine L_aload_n eX10_leastHand_39 rfl ?_
          refine L_getR (r := 47) eX10_leastHand_40 f_X10_50.g rfl rfl (by decide) ?_
          refine C_v1 (hF G) v_X10_235 eX10_leastHand_43 rfl rfl ?_
          refine V_iconst eX10_leastHand_46 ?_
          -- at 47: .if_icmp .eq 5
          refine V_icmpeq eX10_leastHand_47 (fun h3 => ?_) (fun h3 => ?_)
          · rw [if_neg (by omega)] at e3
            refine L_iinc eX10_leastHand_52 rfl (s_1 rfl rfl) ?_
            refine V_goto eX10_leastHand_55 ?_
            exact ih _ _ _ (by omega) (by omega) e3 i1 k1
          · rw [if_pos (by omega)] at e3
            refine L_iload_n eX10_leastHand_50 rfl ?_
            -- at 51: .ireturn
            exact V_ireturn eX10_leastHand_51 (by rw [← hQ, ← e3]; exact ⟨F1, A1, rfl, rfl, i1, k1⟩)
    exact LOOP 20 10 F A (by omega) (by omega) rfl h kp.rfl'
  intro G
  refine ⟨_, C G, fun r w e => ?_⟩
  obtain ⟨F0, A0, er, ew, i0, k0⟩ := e
  refine ⟨_, F0, A0, er, ew, ty_v, (fun r w => ∃ F1 A1, r = some (vi (lhV F A n T 20 10)) ∧ w = sw F1 A1 ∧ Iv F1 A1), ?_, fun r' w' e' => e'⟩
  refine L_ent [some (.ref 66), none] rfl ?_
  generalize hQ : (fun (r : Option Value) (w : wT) => ∃ F1 A1, r = some (vi (lhV F A n T 20 10)) ∧ w = sw F1 A1 ∧ Iv F1 A1) = Q
  refine L_bipush eX11_leastHand_0 rfl ?_
  refine L_istore_n eX11_leastHand_2 (s_1 rfl rfl) ?_
  have LOOP : ∀ (r : Nat) (g : Int) (F' : fT) (A' : nT), g = 210 - 10 * r → r ≤ 20 → lhV F A n T r g = lhV F A n T 20 10 → Iv F' A' → kp F A F' A' → V G mX11_leastHand Q 0 0 3 [some (.ref 66), some (vi g)] [] (sw F' A') := by
    intro r
    induction r with
    | zero =>
      intro g F' A' e1 e2 e3 h' hk
      refine L_iload_n eX11_leastHand_3 rfl ?_
      refine L_sipush eX11_leastHand_4 rfl ?_
      -- at 7: .if_icmp .gt 27
      refine V_icmpgt eX11_leastHand_7 (fun h2 => ?_) (fun h2 => ?_)
      · refine V_iconst eX11_leastHand_34 ?_
        -- at 35: .ireturn
        exact V_ireturn eX11_leastHand_35 (by rw [← hQ, ← e3]; exact ⟨F', A', rfl, rfl, h'⟩)
      · omega
    | succ r ih =>
      intro g F' A' e1 e2 e3 h' hk
      obtain ⟨F1, A1, hM, i1, k1, -, f0, f5, ag⟩ := toss_g h h' hk en eT (g := g) (by omega)
      obtain ⟨F2, A2, hK, i2, k2, -, e41, hr, -, -⟩ := crack_g h i1 k1 f0 f5 hn hT ag
      have e4 : lhV F A n T (r + 1) g = if 0 < (crH F A n T g).length then g else lhV F A n T r (g + 10) := rfl
      rw [e4] at e3
      have hlen : (crH F A n T g).length ≤ 12 * T := ckL_len hn.2 T
      refine L_iload_n eX11_leastHand_3 rfl ?_
      refine L_sipush eX11_leastHand_4 rfl ?_
      -- at 7: .if_icmp .gt 27
      refine V_icmpgt eX11_leastHand_7 (fun h2 => ?_) (fun h2 => ?_)
      · omega
      · refine L_aload_n eX11_leastHand_10 rfl ?_
        refine L_iload_n eX11_leastHand_11 rfl ?_
        refine C_v0 (hM G) v_X11_311 eX11_leastHand_12 rfl rfl ?_
        refine L_aload_n eX11_leastHand_15 rfl ?_
        refine C_v0 (hK G) v_X11_334 eX11_leastHand_16 rfl rfl ?_
        refine L_aload_n eX11_leastHand_19 rfl ?_
        refine L_get eX11_leastHand_20 f_X11_326.g rfl rfl ?_
        -- at 23: .ifCond .le 5
        refine V_ifle eX11_leastHand_23 (fun h3 => ?_) (fun h3 => ?_)
        · rw [if_neg (by omega)] at e3
          refine L_iinc eX11_leastHand_28 rfl (s_1 rfl rfl) ?_
          refine V_goto eX11_leastHand_31 ?_
          exact ih _ _ _ (by omega) (by omega) e3 i2 k2
        · rw [if_pos (by omega)] at e3
          refine L_iload_n eX11_leastHand_26 rfl ?_
          -- at 27: .ireturn
          exact V_ireturn eX11_leastHand_27 (by rw [← hQ, ← e3]; exact ⟨F2, A2, rfl, rfl, i2⟩)
  exact LOOP 20 10 F0 A0 (by omega) (by omega) rfl i0 k0
end P79

