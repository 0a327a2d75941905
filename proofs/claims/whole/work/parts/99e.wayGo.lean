/-! WAYS told in a text: GO, in the class -/
def wfK (F1 : fT) : Prop := (0 ≤ F1 35 3 ∧ F1 35 3 ≤ 60) ∧ (-100000000 ≤ F1 35 4 ∧ F1 35 4 ≤ 100000000) ∧ (0 ≤ F1 35 8 ∧ F1 35 8 ≤ 3) ∧ (F1 35 9 = 0 ∨ F1 35 9 = 1)
theorem wyK.wf {F : fT} {A : nT} {L : lwT} {st : skT} (h : wyK F A L st) (ht : -100000000 ≤ tsm L ∧ tsm L ≤ 100000000) (h9 : F 35 9 = 0 ∨ F 35 9 = 1) : wfK F := by
  have h1 := h.n
  have h2 := h.t
  have h3 := h.d
  have h4 := h.dl
  exact ⟨by omega, by omega, by omega, h9⟩
def goK (F F1 : fT) (A1 : nT) (L : lwT) (st : skT) (o : oT ((Int × Int × Int) × Int)) : Prop := match o with
  | .inl e => wfK F1 ∧ F1 28 4 = e.1 ∧ F1 28 5 = e.2 ∧ 1 ≤ e.1 ∧ e.1 ≤ 9
  | .inr x => wyK F1 A1 (L ++ [x.1]) st ∧ F1 28 4 = 0 ∧ F1 28 5 = F 28 5 ∧ F1 28 2 = x.2 ∧ F1 35 9 = 1
section P99e
variable {F : fT} {A : nT} {L : lwT} {st : skT} {n a : Int}
/-- the sign, when there is a FAULT already -/
theorem rg_f29 {G : gT} {Q : Option Value → wT → Prop} {x2 x3 : Option Value} (hb : 1 ≤ F 28 4 ∧ F 28 4 ≤ 9) (hq : Q none (sw F A)) : V G mX9_readGo Q 0 0 29 [some (.ref 35), some (.ref 28), x2, x3] [] (sw F A) := by
  refine L_aload_n eX9_readGo_29 rfl ?_
  refine L_bipush eX9_readGo_30 rfl ?_
  refine C_v0 (c_needSign_f (by omega) (by omega) G) v_X9_92 eX9_readGo_32 rfl rfl ?_
  exact V_return eX9_readGo_35 hq
theorem rg_f26 {G : gT} {Q : Option Value → wT → Prop} {x y v : Int} (hb : 1 ≤ F 28 4 ∧ F 28 4 ≤ 9) (h : wyK F A L st) (ht : 0 ≤ tsm L ∧ tsm L ≤ 10000000) (hv : 0 ≤ v ∧ v ≤ 999) (hq : ∀ F1 A1, frV F F1 A A1 → wfK F1 → F1 28 4 = F 28 4 → F1 28 5 = F 28 5 → Q none (sw F1 A1)) : V G mX9_readGo Q 0 0 26 [some (.ref 35), some (.ref 28), some (vi x), some (vi y)] [vi v, vi y, vi x, .ref 35] (sw F A) := by
  refine C_vq (c_addStep (G := G) h) v_X9_91 eX9_readGo_26 rfl rfl (fun r' w' e' => ?_)
  obtain ⟨F1, A1, er, ew, fr1, w1, c9, k28⟩ := e'
  subst er ew
  refine rg_f29 (by rw [k28]; exact hb) (hq F1 A1 fr1 (w1.wf ?_ (Or.inr c9)) (k28 4) (k28 5))
  rw [tsm_app, tsm_one]
  show -100000000 ≤ tsm L + v ∧ tsm L + v ≤ 100000000
  omega
theorem rg_f16 {G : gT} {Q : Option Value → wT → Prop} {x y : Int} (hb : 1 ≤ F 28 4 ∧ F 28 4 ≤ 9) (h : wyK F A L st) (ht : 0 ≤ tsm L ∧ tsm L ≤ 10000000) (hq : ∀ F1 A1, frV F F1 A A1 → wfK F1 → F1 28 4 = F 28 4 → F1 28 5 = F 28 5 → Q none (sw F1 A1)) : V G mX9_readGo Q 0 0 16 [some (.ref 35), some (.ref 28), some (vi x), some (vi y)] [] (sw F A) := by
  refine L_aload_n eX9_readGo_16 rfl ?_
  refine L_iload_n eX9_readGo_17 rfl ?_
  refine L_iload_n eX9_readGo_18 rfl ?_
  refine L_aload_n eX9_readGo_19 rfl ?_
  refine V_iconst eX9_readGo_20 ?_
  refine L_bipush eX9_readGo_21 rfl ?_
  refine C_v1 (c_needNumber_f (by omega) (by omega) G) v_X9_87 eX9_readGo_23 rfl rfl ?_
  exact rg_f26 hb h ht (by omega) hq
theorem c_readGo {G : gT} (hT : txT n (A 29)) (hn : F 28 1 = n) (ha : F 28 2 = a) (hab : 0 ≤ a ∧ a ≤ n) (hk : F 28 4 = 0) (h : wyK F A L st) (ht : 0 ≤ tsm L ∧ tsm L ≤ 10000000) : Meets G mX9_readGo [.ref 35, .ref 28] (sw F A) (fun r w => ∃ F1 A1, r = none ∧ w = sw F1 A1 ∧ frV F F1 A A1 ∧ goK F F1 A1 L st (goO (A 29) n a)) := by
  have hn1 := hT.1
  refine L_ent [some (.ref 35), some (.ref 28), none, none] rfl ?_
  generalize hQ : (fun (r : Option Value) (w : wT) => ∃ F1 A1, r = none ∧ w = sw F1 A1 ∧ frV F F1 A A1 ∧ goK F F1 A1 L st (goO (A 29) n a)) = Q
  have bad : ∀ (F0 : fT) (k p : Int), fr28 F F0 → F0 28 4 = k → F0 28 5 = p → (1 ≤ k ∧ k ≤ 9) → goO (A 29) n a = .inl (k, p) → ∀ F1 A1, frV F0 F1 A A1 → wfK F1 → F1 28 4 = F0 28 4 → F1 28 5 = F0 28 5 → Q none (sw F1 A1) := fun F0 k p f e1 e2 e3 e4 F1 A1 fr w g4 g5 => by
    rw [← hQ]
    refine ⟨F1, A1, rfl, rfl, (frV.of f).tr fr, ?_⟩
    rw [e4]
    exact ⟨w, by rw [g4]; exact e1, by rw [g5]; exact e2, e3⟩
  have wk : ∀ F0 : fT, fr28 F F0 → wyK F0 A L st := fun F0 f => h.fr (f 35 3 (by decide)) (f 35 4 (by decide)) (f 35 8 (by decide)) (fun _ _ _ => rfl)
  obtain ⟨F1, x, hM1, f1, b1, v1, k1⟩ := c_needMove hT hn ha hab hk
  refine L_aload_n eX9_readGo_0 rfl ?_
  refine C_v1 (hM1 G) v_X9_113 eX9_readGo_1 rfl rfl ?_
  refine L_istore_n eX9_readGo_4 (s_2 rfl rfl) ?_
  refine L_aload_n eX9_readGo_5 rfl ?_
  rcases nm_k k1 with ⟨a2, o1, e2, e4, e5⟩ | ⟨k, p, o1, kb, e4, e5⟩
  rotate_left
  · refine C_v1 (c_needMove_f (by omega) (by omega) G) v_X9_113 eX9_readGo_6 rfl rfl ?_
    refine L_istore_n eX9_readGo_9 (s_3 rfl rfl) ?_
    refine L_aload_n eX9_readGo_10 rfl ?_
    refine V_ldcS (j := 7) (List.mem_of_getElem? (i := 7) rfl) eX9_readGo_11 ?_
    refine C_v0 (c_needWord_f (j := 7) (by omega) (by omega) G) v_X9_118 eX9_readGo_13 rfl rfl ?_
    refine rg_f16 (by omega) (wk F1 f1) ht (bad F1 k p f1 e4 e5 (by omega) ?_)
    unfold goO
    rw [o1]
    rfl
  have ok1 := nm_ok hT hab o1
  obtain ⟨F2, y, hM2, f2, b2, v2, k2⟩ := c_needMove (F := F1) hT (by rw [f1 28 1 (by decide)]; exact hn) e2 (by omega) e4
  have f2' := f1.tr f2
  refine C_v1 (hM2 G) v_X9_113 eX9_readGo_6 rfl rfl ?_
  refine L_istore_n eX9_readGo_9 (s_3 rfl rfl) ?_
  refine L_aload_n eX9_readGo_10 rfl ?_
  refine V_ldcS (j := 7) (List.mem_of_getElem? (i := 7) rfl) eX9_readGo_11 ?_
  rcases nm_k k2 with ⟨a3, o2, y2, y4, y5⟩ | ⟨k, p, o2, kb, y4, y5⟩
  rotate_left
  · refine C_v0 (c_needWord_f (j := 7) (by omega) (by omega) G) v_X9_118 eX9_readGo_13 rfl rfl ?_
    refine rg_f16 (by omega) (wk F2 f2') ht (bad F2 k p f2' y4 y5 (by omega) ?_)
    unfold goO
    rw [o1, bO_r, o2]
    rfl
  have ok2 := nm_ok hT (by omega) o2
  have hsk : a3 ≤ skp (A 29) n a3 ∧ skp (A 29) n a3 ≤ n := rn_ge (by omega)
  have hW := c_needWord (F := F2) (j := 7) hT (by rw [f2' 28 1 (by decide)]; exact hn) y2 (by omega) (by decide) y4
  by_cases w1 : wm (A 29) n 7 (skp (A 29) n a3)
  rotate_left
  · refine C_v0 (hW.2 w1 G) v_X9_118 eX9_readGo_13 rfl rfl ?_
    obtain ⟨F3, eF3⟩ : ∃ F3, F3 = uF (uF (uF F2 28 2 (skp (A 29) n a3)) 28 4 1) 28 5 (skp (A 29) n a3) := ⟨_, rfl⟩
    rw [← eF3]
    have g4 : F3 28 4 = 1 := by rw [eF3, uF_ne (by decide), uF_eq]
    have g5 : F3 28 5 = skp (A 29) n a3 := by rw [eF3, uF_eq]
    have f3 : fr28 F F3 := f2'.tr (fun o k q => by rw [eF3, uF_ne (by omega), uF_ne (by omega), uF_ne (by omega)])
    refine rg_f16 (by omega) (wk F3 f3) ht (bad F3 1 (skp (A 29) n a3) f3 g4 g5 (by omega) ?_)
    unfold goO
    rw [o1, bO_r, o2, bO_r, wd_no w1]
    rfl
  refine C_v0 (hW.1 w1 G) v_X9_118 eX9_readGo_13 rfl rfl ?_
  obtain ⟨ow, hw2, hw3⟩ := wd_ok (e := 0) (j := 7) (by decide) (show 0 ≤ a3 ∧ a3 ≤ n by omega) w1
  obtain ⟨a4, ea4⟩ : ∃ a4, a4 = skp (A 29) n a3 + (sLn.getD 7 0 : Int) := ⟨_, rfl⟩
  rw [← ea4] at ow hw2 hw3 ⊢
  obtain ⟨F3, eF3⟩ : ∃ F3, F3 = uF F2 28 2 a4 := ⟨_, rfl⟩
  rw [← eF3]
  have f3 : fr28 F F3 := f2'.tr (fun o k q => by rw [eF3, uF_ne (by omega)])
  have z2 : F3 28 2 = a4 := by rw [eF3, uF_eq]
  have z4 : F3 28 4 = 0 := by rw [eF3, uF_ne (by decide)]; exact y4
  have z5 : F3 28 5 = F 28 5 := by rw [eF3, uF_ne (by decide), y5]; exact e5
  obtain ⟨F4, v, hM4, f4, b4, n4, v4, k4⟩ := c_needNumber (F := F3) (lo := 1) (hi := 30) hT (by rw [f3 28 1 (by decide)]; exact hn) z2 (by omega) z4 (by omega) (by omega)
  have f4' := f3.tr f4
  refine L_aload_n eX9_readGo_16 rfl ?_
  refine L_iload_n eX9_readGo_17 rfl ?_
  refine L_iload_n eX9_readGo_18 rfl ?_
  refine L_aload_n eX9_readGo_19 rfl ?_
  refine V_iconst eX9_readGo_20 ?_
  refine L_bipush eX9_readGo_21 rfl ?_
  refine C_v1 (hM4 G) v_X9_87 eX9_readGo_23 rfl rfl ?_
  rcases nm_k k4 with ⟨a5, o4, u2, u4, u5⟩ | ⟨k, p, o4, kb, u4, u5⟩
  rotate_left
  · refine rg_f26 (by omega) (wk F4 f4') ht v4 (bad F4 k p f4' u4 u5 (by omega) ?_)
    unfold goO
    rw [o1, bO_r, o2, bO_r, ow, bO_r, o4]
    rfl
  have ok4 := nm_ok hT (by omega) o4
  refine C_vq (c_addStep (G := G) (wk F4 f4')) v_X9_91 eX9_readGo_26 rfl rfl (fun r' w' e' => ?_)
  obtain ⟨F5, A5, er, ew, fr5, w5, c9, k28⟩ := e'
  subst er ew
  have e29 : A5 29 = A 29 := fr5.2 29 (by decide)
  have hS := c_needSign (F := F5) (A := A5) (s := 59) (a := a5) (by omega) (by rw [e29]; exact hT) (by rw [k28, f4' 28 1 (by decide)]; exact hn) (by rw [k28]; exact u2) (by omega) (by rw [k28]; exact u4)
  rw [e29] at hS
  have eg : goO (A 29) n a = bO' (sgO (A 29) n 59 a5) fun a5 => .inr ((x, y, v), a5) := by
    unfold goO
    rw [o1, bO_r, o2, bO_r, ow, bO_r, o4, bO_r]
  have fy := (frV.of (A := A) f4').tr fr5
  refine L_aload_n eX9_readGo_29 rfl ?_
  refine L_bipush eX9_readGo_30 rfl ?_
  by_cases c4 : chA (A 29) n (skp (A 29) n a5) = 59
  · obtain ⟨og, hg2, hg3⟩ := sg_ok (s := 59) (by omega) hT (show 0 ≤ a5 ∧ a5 ≤ n by omega) c4
    refine C_v0 (hS.1 c4 G) v_X9_92 eX9_readGo_32 rfl rfl ?_
    refine V_return eX9_readGo_35 ?_
    rw [← hQ]
    refine ⟨_, A5, rfl, rfl, fy.tr ⟨fun o k q _ => by rw [uF_ne (by omega)], fun _ _ => rfl⟩, ?_⟩
    rw [eg, og]
    refine ⟨w5.fr (uF_ne (by decide)) (uF_ne (by decide)) (uF_ne (by decide)) (fun _ _ _ => rfl), ?_, ?_, uF_eq, ?_⟩
    · rw [uF_ne (by decide), k28]; exact u4
    · rw [uF_ne (by decide), k28, u5]; exact z5
    · rw [uF_ne (by decide)]; exact c9
  · refine C_v0 (hS.2 c4 G) v_X9_92 eX9_readGo_32 rfl rfl ?_
    refine V_return eX9_readGo_35 ?_
    rw [← hQ]
    refine ⟨_, A5, rfl, rfl, fy.tr ⟨fun o k q _ => by rw [uF_ne (by omega), uF_ne (by omega), uF_ne (by omega)], fun _ _ => rfl⟩, ?_⟩
    rw [eg, sg_no c4]
    have w6 : wyK (uF (uF (uF F5 28 2 (skp (A 29) n a5)) 28 4 1) 28 5 (skp (A 29) n a5)) A5 (L ++ [(x, y, v)]) st := w5.fr (by rw [uF_ne (by decide), uF_ne (by decide), uF_ne (by decide)]) (by rw [uF_ne (by decide), uF_ne (by decide), uF_ne (by decide)]) (by rw [uF_ne (by decide), uF_ne (by decide), uF_ne (by decide)]) (fun _ _ _ => rfl)
    refine ⟨w6.wf ?_ (Or.inr (by rw [uF_ne (by decide), uF_ne (by decide), uF_ne (by decide)]; exact c9)), by rw [uF_ne (by decide), uF_eq], uF_eq, by show (1 : Int) ≤ 1; decide, by show (1 : Int) ≤ 9; decide⟩
    rw [tsm_app, tsm_one]
    show -100000000 ≤ tsm L + v ∧ tsm L + v ≤ 100000000
    omega
end P99e

