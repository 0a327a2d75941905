/-! WAYS told in a text: a part, in the class -/
theorem uF_idW {F : fT} {o k : Nat} {v : Int} (e : F o k = v) : uF F o k v = F := by
  funext o' k'
  by_cases c : o' = o ∧ k' = k
  · obtain ⟨c1, c2⟩ := c
    subst c1 c2
    rw [uF_eq]
    exact e.symm
  · rw [uF_ne (by omega)]
def ptK (F F1 : fT) (A1 : nT) (s : lwT × skT) (o : oT (opT × Int)) : Prop := match o with
  | .inl e => wfK F1 ∧ F1 28 4 = e.1 ∧ F1 28 5 = e.2 ∧ 1 ≤ e.1 ∧ e.1 ≤ 9
  | .inr x => wyK F1 A1 (pz (smS s x.1).2 (smS s x.1).1) (smS s x.1).2 ∧ F1 28 4 = 0 ∧ F1 28 5 = F 28 5 ∧ F1 28 2 = x.2 ∧ F1 35 9 = (if x.1.1 = 2 then 0 else 1)
section P99g
variable {F : fT} {A : nT} {c : lwT} {st : skT} {n q : Int}
theorem sm_go {x : Int × Int × Int} : smS (c, st) (0, x) = (c ++ [x], st) := by
  unfold smS
  rw [if_neg (show ¬ (0 : Int) = 2 by decide), if_neg (show ¬ (0 : Int) = 3 by decide)]
theorem sm_ho {t : Int} : smS (c, st) (1, 0, 0, t) = (c ++ [(0, 0, t)], st) := by
  unfold smS
  rw [if_neg (show ¬ (1 : Int) = 2 by decide), if_neg (show ¬ (1 : Int) = 3 by decide)]
theorem sm_ti {t : Int} : smS (c, st) (2, 0, 0, t) = ([], (t, c) :: st) := by
  unfold smS
  rw [if_pos rfl]
theorem sm_en {m : Int} {p : lwT} : smS (c, (m, p) :: st) (3, 0, 0, 0) = (p ++ rpt c m.toNat, st) := by
  unfold smS
  rw [if_neg (show ¬ (3 : Int) = 2 by decide), if_pos rfl]
  rfl
theorem c_readPart {G : gT} {needs : Bool} (hT : txT n (A 29)) (hn : F 28 1 = n) (ha : F 28 2 = q) (hab : 0 ≤ q ∧ q ≤ n) (hs : skp (A 29) n q = q) (hk : F 28 4 = 0) (h : wyK F A (pz st c) st) (ht : 0 ≤ tsm (pz st c) ∧ tsm (pz st c) ≤ 10000000) (h9 : F 35 9 = if needs = true then 0 else 1) : Meets G mX9_readPart [.ref 35, .ref 28] (sw F A) (fun r w => ∃ F1 A1, r = none ∧ w = sw F1 A1 ∧ frV F F1 A A1 ∧ ptK F F1 A1 (c, st) (ptO (A 29) n st.length needs q)) := by
  have hn1 := hT.1
  have h3 := h.n
  have h4 := h.t
  have h8 := h.d
  have hdl := h.dl
  have h9' : F 35 9 = 0 ∨ F 35 9 = 1 := by
    cases needs
    · exact Or.inr h9
    · exact Or.inl h9
  refine L_ent [some (.ref 35), some (.ref 28)] rfl ?_
  generalize hQ : (fun (r : Option Value) (w : wT) => ∃ F1 A1, r = none ∧ w = sw F1 A1 ∧ frV F F1 A A1 ∧ ptK F F1 A1 (c, st) (ptO (A 29) n st.length needs q)) = Q
  have eFq : uF F 28 2 q = F := uF_idW ha
  have tw4 := c_takesWord (F := F) (j := 4) hT hn ha hab (by decide)
  have tw5 := c_takesWord (F := F) (j := 5) hT hn ha hab (by decide)
  have tw6 := c_isWord (F := F) (j := 6) hT hn ha hab (by decide)
  have ts := c_takesSign (F := F) (s := 41) (by omega) hT hn ha hab
  rw [hs, eFq] at tw4 tw5 tw6 ts
  have e2 : (sLn.getD 4 0 : Int) = 2 := rfl
  have e4 : (sLn.getD 5 0 : Int) = 4 := rfl
  rw [e2] at tw4
  rw [e4] at tw5
  refine L_aload_n eX9_readPart_0 rfl ?_
  refine V_ldcS (j := 4) (List.mem_of_getElem? (i := 4) rfl) eX9_readPart_1 ?_
  by_cases w4 : wm (A 29) n 4 q
  · have hwl := wm_le (by decide) hab w4
    rw [e2] at hwl
    have ep : ptO (A 29) n st.length needs q = bO' (goO (A 29) n (q + 2)) fun x => .inr ((0, x.1), x.2) := by
      unfold ptO
      rw [if_neg (fun x => wm_41 (Or.inl rfl) hab w4 x.2.2), if_pos w4]
    refine C_v1 (tw4.1 w4 G) v_X9_78 eX9_readPart_3 rfl rfl ?_
    obtain ⟨F1, eF1⟩ : ∃ F1, F1 = uF F 28 2 (q + 2) := ⟨_, rfl⟩
    rw [← eF1]
    have f1 : fr28 F F1 := fun o k x => by rw [eF1, uF_ne (by omega)]
    refine V_ifeq eX9_readPart_6 (fun h2 => ?_) (fun h2 => ?_)
    · omega
    refine L_aload_n eX9_readPart_9 rfl ?_
    refine L_aload_n eX9_readPart_10 rfl ?_
    refine C_vq (c_readGo (G := G) (F := F1) (a := q + 2) (L := pz st c) (st := st) hT (by rw [f1 28 1 (by decide)]; exact hn) (by rw [eF1, uF_eq]) (by omega) (by rw [eF1, uF_ne (by decide)]; exact hk) (h.fr (f1 35 3 (by decide)) (f1 35 4 (by decide)) (f1 35 8 (by decide)) (fun _ _ _ => rfl)) ht) v_X9_82 eX9_readPart_11 rfl rfl (fun r' w' e' => ?_)
    obtain ⟨F2, A2, er, ew, fr2, gk⟩ := e'
    subst er ew
    refine V_goto eX9_readPart_14 ?_
    refine V_return eX9_readPart_104 ?_
    rw [← hQ]
    refine ⟨F2, A2, rfl, rfl, (frV.of f1).tr fr2, ?_⟩
    rw [ep]
    revert gk
    cases goO (A 29) n (q + 2) with
    | inl e => exact fun gk => gk
    | inr x =>
      intro gk
      obtain ⟨k1, k2, k3, k4, k5⟩ := gk
      show wyK F2 A2 (pz (smS (c, st) (0, x.1)).2 (smS (c, st) (0, x.1)).1) (smS (c, st) (0, x.1)).2 ∧ F2 28 4 = 0 ∧ F2 28 5 = F 28 5 ∧ F2 28 2 = x.2 ∧ F2 35 9 = (if (0 : Int) = 2 then 0 else 1)
      rw [sm_go]
      refine ⟨?_, k2, ?_, k4, k5⟩
      · show wyK F2 A2 (pz st (c ++ [x.1])) st
        rw [pz_app]; exact k1
      · rw [k3, eF1, uF_ne (by decide)]
  refine C_v1 (tw4.2 w4 G) v_X9_78 eX9_readPart_3 rfl rfl ?_
  refine V_ifeq eX9_readPart_6 (fun h2 => ?_) (fun h2 => ?_)
  rotate_left
  · omega
  refine L_aload_n eX9_readPart_17 rfl ?_
  refine V_ldcS (j := 5) (List.mem_of_getElem? (i := 5) rfl) eX9_readPart_18 ?_
  by_cases w5 : wm (A 29) n 5 q
  · have hwl := wm_le (by decide) hab w5
    rw [e4] at hwl
    have ep : ptO (A 29) n st.length needs q = bO' (hoO (A 29) n (q + 4)) fun x => .inr ((1, 0, 0, x.1), x.2) := by
      unfold ptO
      rw [if_neg (fun x => wm_41 (Or.inr (Or.inl rfl)) hab w5 x.2.2), if_neg w4, if_pos w5]
    refine C_v1 (tw5.1 w5 G) v_X9_78 eX9_readPart_20 rfl rfl ?_
    obtain ⟨F1, eF1⟩ : ∃ F1, F1 = uF F 28 2 (q + 4) := ⟨_, rfl⟩
    rw [← eF1]
    have f1 : fr28 F F1 := fun o k x => by rw [eF1, uF_ne (by omega)]
    obtain ⟨F2, v, hM, f2, b2, n2, vb, k2⟩ := c_needNumber (F := F1) (lo := 1) (hi := 30) hT (by rw [f1 28 1 (by decide)]; exact hn) (show F1 28 2 = q + 4 by rw [eF1, uF_eq]) (by omega) (by rw [eF1, uF_ne (by decide)]; exact hk) (by omega) (by omega)
    have f2' := f1.tr f2
    refine V_ifeq eX9_readPart_23 (fun h2 => ?_) (fun h2 => ?_)
    · omega
    refine L_aload_n eX9_readPart_26 rfl ?_
    refine V_iconst eX9_readPart_27 ?_
    refine V_iconst eX9_readPart_28 ?_
    refine L_aload_n eX9_readPart_29 rfl ?_
    refine V_iconst eX9_readPart_30 ?_
    refine L_bipush eX9_readPart_31 rfl ?_
    refine C_v1 (hM G) v_X9_87 eX9_readPart_33 rfl rfl ?_
    refine C_vq (c_addStep (G := G) (h.fr (f2' 35 3 (by decide)) (f2' 35 4 (by decide)) (f2' 35 8 (by decide)) (fun _ _ _ => rfl))) v_X9_91 eX9_readPart_36 rfl rfl (fun r' w' e' => ?_)
    obtain ⟨F5, A5, er, ew, fr5, w5', c9, k28⟩ := e'
    subst er ew
    have e29 : A5 29 = A 29 := fr5.2 29 (by decide)
    have fy := (frV.of (A := A) f2').tr fr5
    have tb : -100000000 ≤ tsm (pz st c ++ [(0, 0, v)]) ∧ tsm (pz st c ++ [(0, 0, v)]) ≤ 100000000 := by
      rw [tsm_app, tsm_one]
      show -100000000 ≤ tsm (pz st c) + v ∧ tsm (pz st c) + v ≤ 100000000
      omega
    refine L_aload_n eX9_readPart_39 rfl ?_
    refine L_bipush eX9_readPart_40 rfl ?_
    rcases nm_k k2 with ⟨a3, o2, y2, y4, y5⟩ | ⟨k, p, o2, kb, y4, y5⟩
    rotate_left
    · refine C_v0 (c_needSign_f (by rw [k28]; omega) (by rw [k28]; omega) G) v_X9_92 eX9_readPart_42 rfl rfl ?_
      refine V_goto eX9_readPart_45 ?_
      refine V_return eX9_readPart_104 ?_
      rw [← hQ]
      refine ⟨F5, A5, rfl, rfl, fy, ?_⟩
      have eh : hoO (A 29) n (q + 4) = .inl (k, p) := by
        unfold hoO
        rw [o2]
        rfl
      rw [ep, eh]
      exact ⟨w5'.wf tb (Or.inr c9), by rw [k28]; exact y4, by rw [k28]; exact y5, by show 1 ≤ k ∧ k ≤ 9; omega⟩
    have ok2 := nm_ok hT (by omega) o2
    have hS := c_needSign (F := F5) (A := A5) (s := 59) (a := a3) (by omega) (by rw [e29]; exact hT) (by rw [k28, f2' 28 1 (by decide)]; exact hn) (by rw [k28]; exact y2) (by omega) (by rw [k28]; exact y4)
    rw [e29] at hS
    have et : hoO (A 29) n (q + 4) = bO' (sgO (A 29) n 59 a3) fun a5 => .inr (v, a5) := by
      unfold hoO
      rw [o2, bO_r]
    by_cases c4 : chA (A 29) n (skp (A 29) n a3) = 59
    · obtain ⟨og, hg2, hg3⟩ := sg_ok (s := 59) (by omega) hT (show 0 ≤ a3 ∧ a3 ≤ n by omega) c4
      refine C_v0 (hS.1 c4 G) v_X9_92 eX9_readPart_42 rfl rfl ?_
      refine V_goto eX9_readPart_45 ?_
      refine V_return eX9_readPart_104 ?_
      rw [← hQ]
      refine ⟨_, A5, rfl, rfl, fy.tr ⟨fun o k x _ => by rw [uF_ne (by omega)], fun _ _ => rfl⟩, ?_⟩
      rw [ep, et, og]
      show wyK _ A5 (pz (smS (c, st) (1, 0, 0, v)).2 (smS (c, st) (1, 0, 0, v)).1) (smS (c, st) (1, 0, 0, v)).2 ∧ _ ∧ _ ∧ _ ∧ _ = (if (1 : Int) = 2 then (0 : Int) else 1)
      rw [sm_ho]
      refine ⟨?_, ?_, ?_, uF_eq, ?_⟩
      · show wyK _ A5 (pz st (c ++ [(0, 0, v)])) st
        rw [pz_app]
        exact w5'.fr (uF_ne (by decide)) (uF_ne (by decide)) (uF_ne (by decide)) (fun _ _ _ => rfl)
      · rw [uF_ne (by decide), k28]; exact y4
      · rw [uF_ne (by decide), k28, y5, eF1, uF_ne (by decide)]
      · rw [uF_ne (by decide), c9]; rfl
    · refine C_v0 (hS.2 c4 G) v_X9_92 eX9_readPart_42 rfl rfl ?_
      refine V_goto eX9_readPart_45 ?_
      refine V_return eX9_readPart_104 ?_
      rw [← hQ]
      refine ⟨_, A5, rfl, rfl, fy.tr ⟨fun o k x _ => by rw [uF_ne (by omega), uF_ne (by omega), uF_ne (by omega)], fun _ _ => rfl⟩, ?_⟩
      rw [ep, et, sg_no c4]
      have w6 : wyK (uF (uF (uF F5 28 2 (skp (A 29) n a3)) 28 4 1) 28 5 (skp (A 29) n a3)) A5 (pz st c ++ [(0, 0, v)]) st := w5'.fr (by rw [uF_ne (by decide), uF_ne (by decide), uF_ne (by decide)]) (by rw [uF_ne (by decide), uF_ne (by decide), uF_ne (by decide)]) (by rw [uF_ne (by decide), uF_ne (by decide), uF_ne (by decide)]) (fun _ _ _ => rfl)
      exact ⟨w6.wf tb (Or.inr (by rw [uF_ne (by decide), uF_ne (by decide), uF_ne (by decide)]; exact c9)), by rw [uF_ne (by decide), uF_eq], uF_eq, by show (1 : Int) ≤ 1; decide, by show (1 : Int) ≤ 9; decide⟩
  refine C_v1 (tw5.2 w5 G) v_X9_78 eX9_readPart_20 rfl rfl ?_
  refine V_ifeq eX9_readPart_23 (fun h2 => ?_) (fun h2 => ?_)
  rotate_left
  · omega
  refine L_aload_n eX9_readPart_48 rfl ?_
  refine V_ldcS (j := 6) (List.mem_of_getElem? (i := 6) rfl) eX9_readPart_49 ?_
  refine C_v1 (tw6 G) v_X9_97 eX9_readPart_51 rfl rfl ?_
  by_cases w6 : wm (A 29) n 6 q
  · rw [if_pos w6]
    have ep : ptO (A 29) n st.length needs q = if 3 ≤ st.length then .inl (3, q) else bO' (tiO (A 29) n (q + 5)) fun x => .inr ((2, 0, 0, x.1), x.2) := by
      unfold ptO
      rw [if_neg (fun x => wm_41 (Or.inr (Or.inr rfl)) hab w6 x.2.2), if_neg w4, if_neg w5, if_pos w6]
    refine V_ifeq eX9_readPart_54 (fun h2 => ?_) (fun h2 => ?_)
    · omega
    refine L_aload_n eX9_readPart_57 rfl ?_
    refine L_aload_n eX9_readPart_58 rfl ?_
    refine C_vq (c_openTimes (G := G) (c := c) hT hn ha hab hs w6 hk h ht h9') v_X9_100 eX9_readPart_59 rfl rfl (fun r' w' e' => ?_)
    obtain ⟨F2, A2, er, ew, fr2, gk⟩ := e'
    subst er ew
    refine V_goto eX9_readPart_62 ?_
    refine V_return eX9_readPart_104 ?_
    rw [← hQ]
    refine ⟨F2, A2, rfl, rfl, fr2, ?_⟩
    rw [ep]
    by_cases c3 : 3 ≤ st.length
    · rw [if_pos c3] at gk ⊢
      exact gk
    · rw [if_neg c3] at gk ⊢
      revert gk
      cases tiO (A 29) n (q + 5) with
      | inl e => exact fun gk => gk
      | inr x =>
        intro gk
        obtain ⟨k1, k2, k3, k4, k5⟩ := gk
        show wyK F2 A2 (pz (smS (c, st) (2, 0, 0, x.1)).2 (smS (c, st) (2, 0, 0, x.1)).1) (smS (c, st) (2, 0, 0, x.1)).2 ∧ F2 28 4 = 0 ∧ F2 28 5 = F 28 5 ∧ F2 28 2 = x.2 ∧ F2 35 9 = (if (2 : Int) = 2 then 0 else 1)
        rw [sm_ti]
        refine ⟨?_, k2, k3, k4, k5⟩
        show wyK F2 A2 (pz st c ++ []) ((x.1, c) :: st)
        rw [List.append_nil]
        exact k1
  rw [if_neg w6]
  refine V_ifeq eX9_readPart_54 (fun h2 => ?_) (fun h2 => ?_)
  rotate_left
  · omega
  have bl : ¬ (needs = false ∧ 0 < st.length ∧ chA (A 29) n q = 41) → V G mX9_readPart Q 0 0 95 [some (.ref 35), some (.ref 28)] [] (sw F A) := fun cc => by
    refine L_aload_n eX9_readPart_95 rfl ?_
    refine V_iconst eX9_readPart_96 ?_
    refine L_aload_n eX9_readPart_97 rfl ?_
    refine L_get eX9_readPart_98 f_X9_110.g rfl rfl ?_
    rw [ha]
    refine C_v0 (p_X7_blame hk) v_X9_64 eX9_readPart_101 rfl rfl ?_
    refine V_return eX9_readPart_104 ?_
    rw [← hQ]
    refine ⟨_, A, rfl, rfl, ⟨fun o k x _ => by rw [uF_ne (by omega), uF_ne (by omega)], fun _ _ => rfl⟩, ?_⟩
    have ep : ptO (A 29) n st.length needs q = .inl (1, q) := by
      unfold ptO
      rw [if_neg cc, if_neg w4, if_neg w5, if_neg w6]
    rw [ep]
    have w1 : wyK (uF (uF F 28 4 1) 28 5 q) A (pz st c) st := h.fr (by rw [uF_ne (by decide), uF_ne (by decide)]) (by rw [uF_ne (by decide), uF_ne (by decide)]) (by rw [uF_ne (by decide), uF_ne (by decide)]) (fun _ _ _ => rfl)
    exact ⟨w1.wf (by omega) (by rw [uF_ne (by decide), uF_ne (by decide)]; exact h9'), by rw [uF_ne (by decide), uF_eq], uF_eq, by show (1 : Int) ≤ 1; decide, by show (1 : Int) ≤ 9; decide⟩
  refine L_aload_n eX9_readPart_65 rfl ?_
  refine L_get eX9_readPart_66 f_X9_37.g rfl rfl ?_
  -- at 69: .ifCond .le 26
  refine V_ifle eX9_readPart_69 (fun h5 => ?_) (fun h5 => ?_)
  · exact bl (fun x => by omega)
  refine L_aload_n eX9_readPart_72 rfl ?_
  refine L_get eX9_readPart_73 f_X9_40.g rfl rfl ?_
  -- at 76: .ifCond .eq 19
  refine V_ifeq eX9_readPart_76 (fun h6 => ?_) (fun h6 => ?_)
  · refine bl (fun x => ?_)
    rw [x.1] at h9
    have : F 35 9 = 1 := h9
    omega
  have nf : needs = false := by
    cases needs
    · rfl
    · exact absurd h9 h6
  refine L_aload_n eX9_readPart_79 rfl ?_
  refine L_bipush eX9_readPart_80 rfl ?_
  by_cases c41 : chA (A 29) n q = 41
  · refine C_v1 (ts.1 c41 G) v_X9_103 eX9_readPart_82 rfl rfl ?_
    have ep : ptO (A 29) n st.length needs q = .inr ((3, 0, 0, 0), q + 1) := by
      unfold ptO
      rw [if_pos ⟨nf, by omega, c41⟩]
    obtain ⟨F1, eF1⟩ : ∃ F1, F1 = uF F 28 2 (q + 1) := ⟨_, rfl⟩
    rw [← eF1]
    have f1 : fr28 F F1 := fun o k x => by rw [eF1, uF_ne (by omega)]
    refine V_ifeq eX9_readPart_85 (fun h2 => ?_) (fun h2 => ?_)
    · omega
    cases st with
    | nil => exact absurd h8 (by show ¬ F 35 8 = 0; omega)
    | cons e st =>
      obtain ⟨m, p⟩ := e
      have w1 : wyK F1 A (pz st p ++ c) ((m, p) :: st) := h.fr (f1 35 3 (by decide)) (f1 35 4 (by decide)) (f1 35 8 (by decide)) (fun _ _ _ => rfl)
      refine L_aload_n eX9_readPart_88 rfl ?_
      refine C_vq (c_closeTimes (G := G) w1) v_X9_107 eX9_readPart_89 rfl rfl (fun r' w' e' => ?_)
      obtain ⟨F2, A2, er, ew, fr2, k1, k5, k28⟩ := e'
      subst er ew
      refine V_goto eX9_readPart_92 ?_
      refine V_return eX9_readPart_104 ?_
      rw [← hQ]
      refine ⟨F2, A2, rfl, rfl, (frV.of f1).tr fr2, ?_⟩
      rw [ep]
      show wyK F2 A2 (pz (smS (c, (m, p) :: st) (3, 0, 0, 0)).2 (smS (c, (m, p) :: st) (3, 0, 0, 0)).1) (smS (c, (m, p) :: st) (3, 0, 0, 0)).2 ∧ F2 28 4 = 0 ∧ F2 28 5 = F 28 5 ∧ F2 28 2 = q + 1 ∧ F2 35 9 = (if (3 : Int) = 2 then 0 else 1)
      rw [sm_en]
      refine ⟨?_, ?_, ?_, ?_, k5⟩
      · show wyK F2 A2 (pz st (p ++ rpt c m.toNat)) st
        rw [pz_app]
        exact k1
      · rw [k28, eF1, uF_ne (by decide)]; exact hk
      · rw [k28, eF1, uF_ne (by decide)]
      · rw [k28, eF1, uF_eq]
  · refine C_v1 (ts.2 c41 G) v_X9_103 eX9_readPart_82 rfl rfl ?_
    refine V_ifeq eX9_readPart_85 (fun h2 => ?_) (fun h2 => ?_)
    · exact bl (fun x => c41 x.2.2)
    · omega
end P99g

