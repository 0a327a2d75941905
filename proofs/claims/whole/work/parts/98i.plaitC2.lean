noncomputable def clO (T : Int → Int) (n : Int) (L : List (Int × Int)) (len hl q : Int) : oT (List (Int × Int) × Int × Int × Int) := @ite _ (wm T n 0 q) (Classical.propDecidable _) (bO' (pcO T n L (q + 5)) fun x => .inr (x.1, len, hl, x.2)) (@ite _ (wm T n 1 q) (Classical.propDecidable _) (bO' (lnO T n hl q) fun x => .inr (L, x.1, 1, x.2)) (.inl (1, q)))
theorem plO_s {T : Int → Int} {n : Int} {r : Nat} {L : List (Int × Int)} {len hl a : Int} (h : skp T n a < n) : plO T n (r + 1) L len hl a = bO' (clO T n L len hl (skp T n a)) fun x => plO T n r x.1 x.2.1 x.2.2.1 x.2.2.2 := by
  rw [plO, if_pos h]
  unfold clO
  by_cases w0 : wm T n 0 (skp T n a)
  · rw [if_pos w0, if_pos w0]
    cases pcO T n L (skp T n a + 5) <;> rfl
  · rw [if_neg w0, if_neg w0]
    by_cases w1 : wm T n 1 (skp T n a)
    · rw [if_pos w1, if_pos w1]
      cases lnO T n hl (skp T n a) <;> rfl
    · rw [if_neg w1, if_neg w1]
      rfl
theorem plO_e {T : Int → Int} {n : Int} {r : Nat} {L : List (Int × Int)} {len hl a : Int} (h : ¬ skp T n a < n) : plO T n (r + 1) L len hl a = if L.length = 0 then .inl (1, n) else .inr (L, len) := by
  rw [plO, if_neg h]
/-- all but what the reader writes -/
def frX (F F1 : fT) (A A1 : nT) : Prop := (∀ o k, (o ≠ 28 ∨ k < 2 ∨ 5 < k) → (o ≠ 31 ∨ 1 < k) → (o ≠ 30 ∨ k ≠ 1) → F1 o k = F o k) ∧ ∀ o, o < 32 ∨ 34 < o → A1 o = A o
theorem frX.tr {F F1 F2 : fT} {A A1 A2 : nT} (h : frX F F1 A A1) (h2 : frX F1 F2 A1 A2) : frX F F2 A A2 := ⟨fun o k a b c => (h2.1 o k a b c).trans (h.1 o k a b c), fun o a => (h2.2 o a).trans (h.2 o a)⟩
/-- what the reader has so far -/
def rdK (F : fT) (A : nT) (L : pcL) (len hl a fp : Int) : Prop := (arL F A L) ∧ (F 31 1 = len) ∧ (F 30 1 = hl) ∧ (F 28 2 = a) ∧ (F 28 4 = 0) ∧ (F 28 5 = fp)
theorem rdK.ar {F : fT} {A : nT} {L : pcL} {len hl a fp : Int} (h : rdK F A L len hl a fp) : arL F A L := h.1
theorem rdK.len {F : fT} {A : nT} {L : pcL} {len hl a fp : Int} (h : rdK F A L len hl a fp) : F 31 1 = len := h.2.1
theorem rdK.hl {F : fT} {A : nT} {L : pcL} {len hl a fp : Int} (h : rdK F A L len hl a fp) : F 30 1 = hl := h.2.2.1
theorem rdK.at' {F : fT} {A : nT} {L : pcL} {len hl a fp : Int} (h : rdK F A L len hl a fp) : F 28 2 = a := h.2.2.2.1
theorem rdK.k {F : fT} {A : nT} {L : pcL} {len hl a fp : Int} (h : rdK F A L len hl a fp) : F 28 4 = 0 := h.2.2.2.2.1
theorem rdK.p {F : fT} {A : nT} {L : pcL} {len hl a fp : Int} (h : rdK F A L len hl a fp) : F 28 5 = fp := h.2.2.2.2.2
theorem rdK.mk {F : fT} {A : nT} {L : pcL} {len hl a fp : Int} (qar : arL F A L) (qlen : F 31 1 = len) (qhl : F 30 1 = hl) (qat' : F 28 2 = a) (qk : F 28 4 = 0) (qp : F 28 5 = fp) : rdK F A L len hl a fp := ⟨qar, qlen, qhl, qat', qk, qp⟩
def cqK (F1 : fT) (A1 : nT) (n a fp : Int) (o : oT (List (Int × Int) × Int × Int × Int)) : Prop := match o with
  | .inl e => (0 ≤ F1 31 0 ∧ F1 31 0 ≤ 12) ∧ F1 28 4 = e.1 ∧ F1 28 5 = e.2 ∧ 1 ≤ e.1 ∧ e.1 ≤ 9
  | .inr x => rdK F1 A1 x.1 x.2.1 x.2.2.1 x.2.2.2 fp ∧ (a < x.2.2.2 ∧ x.2.2.2 ≤ n) ∧ (x.2.2.1 = 0 ∨ x.2.2.1 = 1) ∧ 20 ≤ x.2.1 ∧ x.2.1 ≤ 200
section P98i
variable {F : fT} {A : nT} {L : List (Int × Int)} {n a len hl fp : Int}
theorem c_readLength {G : gT} (hT : txT n (A 29)) (hn : F 28 1 = n) (hq : 0 ≤ a ∧ a ≤ n) (hs : skp (A 29) n a = a) (w1 : wm (A 29) n 1 a) (R : rdK F A L len hl a fp) (hh : hl = 0 ∨ hl = 1) : Meets G mX4_readLength [.ref 30, .ref 28] (sw F A) (fun r w => ∃ F1, r = none ∧ w = sw F1 A ∧ frX F F1 A A ∧ cqK F1 A n a fp (bO' (lnO (A 29) n hl a) fun x => .inr (L, x.1, 1, x.2))) := by
  have hn1 := hT.1
  have r30 := R.hl
  refine L_ent [some (.ref 30), some (.ref 28)] rfl ?_
  generalize hQ : (fun (r : Option Value) (w : wT) => ∃ F1, r = none ∧ w = sw F1 A ∧ frX F F1 A A ∧ cqK F1 A n a fp (bO' (lnO (A 29) n hl a) fun x => .inr (L, x.1, 1, x.2))) = Q
  have n31 : 0 ≤ F 31 0 ∧ F 31 0 ≤ 12 := by
    have := R.ar.n
    have := R.ar.le
    omega
  -- with a FAULT
  have flt : ∀ (F1 : fT) (k p : Int), F1 31 0 = F 31 0 → frX F F1 A A → F1 28 4 = k → F1 28 5 = p → (1 ≤ k ∧ k ≤ 9) → lnO (A 29) n hl a = .inl (k, p) → ∀ v : Int, Q none (sw (uF F1 31 1 v) A) := fun F1 k p e0 f e1 e2 e3 e4 v => by
    rw [← hQ]
    refine ⟨uF F1 31 1 v, rfl, rfl, ⟨fun o k x y z => by rw [uF_ne (by omega)]; exact f.1 o k x y z, fun _ _ => rfl⟩, ?_⟩
    rw [e4]
    exact ⟨by rw [uF_ne (by decide), e0]; exact n31, by rw [uF_ne (by decide)]; exact e1, by rw [uF_ne (by decide)]; exact e2, e3⟩
  rcases hh with hh | hh
  · -- the first one
    have el : lnO (A 29) n hl a = bO' (nmO (A 29) n false 20 200 (a + 6)) fun x => bO' (sgO (A 29) n 59 x.2) fun a3 => .inr (x.1, a3) := by
      unfold lnO
      rw [if_neg (by omega)]
    have u1 : uF F 30 1 1 28 1 = n := by rw [uF_ne (by decide)]; exact hn
    have u2 : uF F 30 1 1 28 2 = a := by rw [uF_ne (by decide)]; exact R.at'
    have u4 : uF F 30 1 1 28 4 = 0 := by rw [uF_ne (by decide)]; exact R.k
    have hW := c_needWord (F := uF F 30 1 1) (j := 1) hT u1 u2 hq (by decide) u4
    have hw := (wm_i (T := A 29) (n := n) (q := a) (j := 1) (by decide) hq).mp w1
    have e6 : (sLn.getD 1 0 : Int) = 6 := rfl
    rw [hs, e6] at hW
    rw [e6] at hw
    have h6 := hw.1
    refine L_aload_n eX4_readLength_0 rfl ?_
    refine L_get eX4_readLength_1 f_X4_18.g rfl rfl ?_
    -- at 4: .ifCond .eq 12
    refine V_ifeq eX4_readLength_4 (fun h2 => ?_) (fun h2 => ?_)
    · refine L_aload_n eX4_readLength_16 rfl ?_
      refine V_iconst eX4_readLength_17 ?_
      refine L_putZ eX4_readLength_18 f_X4_18 rfl rfl ?_
      refine L_aload_n eX4_readLength_21 rfl ?_
      refine V_ldcS (j := 1) (List.mem_of_getElem? (i := 1) rfl) eX4_readLength_22 ?_
      refine C_v0 (hW.1 w1 G) v_X4_72 eX4_readLength_24 rfl rfl ?_
      obtain ⟨F1, eF1⟩ : ∃ F1, F1 = uF (uF F 30 1 1) 28 2 (a + 6) := ⟨_, rfl⟩
      rw [← eF1]
      obtain ⟨F2, v, hM, f2, b2, n2, vb, k2⟩ := c_needNumber (F := F1) (lo := 20) (hi := 200) hT (by rw [eF1, uF_ne (by decide)]; exact u1) (show F1 28 2 = a + 6 by rw [eF1, uF_eq]) (by omega) (by rw [eF1, uF_ne (by decide)]; exact u4) (by omega) (by omega)
      have fx1 : frX F F1 A A := ⟨fun o k x y z => by rw [eF1, uF_ne (by omega), uF_ne (by omega)], fun _ _ => rfl⟩
      have fx2 : frX F F2 A A := fx1.tr ⟨fun o k x y z => f2 o k x, fun _ _ => rfl⟩
      refine L_aload_n eX4_readLength_27 rfl ?_
      refine L_getR (r := 31) eX4_readLength_28 f_X4_12.g rfl rfl (by decide) ?_
      refine L_aload_n eX4_readLength_31 rfl ?_
      refine L_bipush eX4_readLength_32 rfl ?_
      refine L_sipush eX4_readLength_34 rfl ?_
      refine C_v1 (hM G) v_X4_76 eX4_readLength_37 rfl rfl ?_
      refine L_put eX4_readLength_40 f_X4_31 rfl rfl ?_
      refine L_aload_n eX4_readLength_43 rfl ?_
      refine L_bipush eX4_readLength_44 rfl ?_
      rcases nm_k k2 with ⟨a2, o2, y2, y4, y5⟩ | ⟨k, p, o2, kb, y4, y5⟩
      · have ok2 := nm_ok hT (by omega) o2
        have hS := c_needSign (F := uF F2 31 1 v) (s := 59) (a := a2) (by omega) hT (by rw [uF_ne (by decide), f2 28 1 (by decide), eF1, uF_ne (by decide)]; exact u1) (by rw [uF_ne (by decide)]; exact y2) (by omega) (by rw [uF_ne (by decide)]; exact y4)
        by_cases c4 : chA (A 29) n (skp (A 29) n a2) = 59
        · obtain ⟨og, hg2, hg3⟩ := sg_ok (s := 59) (by omega) hT (show 0 ≤ a2 ∧ a2 ≤ n by omega) c4
          refine C_v0 (hS.1 c4 G) v_X4_80 eX4_readLength_46 rfl rfl ?_
          refine V_return eX4_readLength_49 ?_
          rw [← hQ]
          refine ⟨_, rfl, rfl, ⟨fun o k x y z => by rw [uF_ne (by omega), uF_ne (by omega)]; exact fx2.1 o k x y z, fun _ _ => rfl⟩, ?_⟩
          rw [el, o2]
          show cqK _ A n a fp (bO' (bO' (sgO (A 29) n 59 a2) _) _)
          rw [og]
          refine ⟨rdK.mk ?_ ?_ ?_ ?_ ?_ ?_, ?_, Or.inr rfl, ok2.1⟩
          · refine R.ar.fr ?_ (fun _ _ _ => rfl)
            rw [uF_ne (by decide), uF_ne (by decide), f2 31 0 (by decide), eF1, uF_ne (by decide), uF_ne (by decide)]
          · rw [uF_ne (by decide), uF_eq]
          · rw [uF_ne (by decide), uF_ne (by decide), f2 30 1 (by decide), eF1, uF_ne (by decide), uF_eq]
          · rw [uF_eq]
          · rw [uF_ne (by decide), uF_ne (by decide)]; exact y4
          · rw [uF_ne (by decide), uF_ne (by decide), y5, eF1, uF_ne (by decide), uF_ne (by decide)]; exact R.p
          · show a < skp (A 29) n a2 + 1 ∧ skp (A 29) n a2 + 1 ≤ n
            omega
        · refine C_v0 (hS.2 c4 G) v_X4_80 eX4_readLength_46 rfl rfl ?_
          refine V_return eX4_readLength_49 ?_
          rw [← hQ]
          refine ⟨_, rfl, rfl, ⟨fun o k x y z => by rw [uF_ne (by omega), uF_ne (by omega), uF_ne (by omega), uF_ne (by omega)]; exact fx2.1 o k x y z, fun _ _ => rfl⟩, ?_⟩
          rw [el, o2]
          show cqK _ A n a fp (bO' (bO' (sgO (A 29) n 59 a2) _) _)
          rw [sg_no c4]
          exact ⟨by rw [uF_ne (by decide), uF_ne (by decide), uF_ne (by decide), uF_ne (by decide), f2 31 0 (by decide), eF1, uF_ne (by decide), uF_ne (by decide)]; exact n31, by rw [uF_ne (by decide), uF_eq], by rw [uF_eq], by show (1 : Int) ≤ 1; decide, by show (1 : Int) ≤ 9; decide⟩
      · refine C_v0 (c_needSign_f (by rw [uF_ne (by decide)]; omega) (by rw [uF_ne (by decide)]; omega) G) v_X4_80 eX4_readLength_46 rfl rfl ?_
        refine V_return eX4_readLength_49 (flt F2 k p (by rw [f2 31 0 (by decide), eF1, uF_ne (by decide), uF_ne (by decide)]) fx2 y4 y5 (by omega) ?_ v)
        rw [el, o2]
        rfl
    · omega
  · -- one more
    have el : lnO (A 29) n hl a = .inl (5, a) := if_pos hh
    have e2 := R.at'
    refine L_aload_n eX4_readLength_0 rfl ?_
    refine L_get eX4_readLength_1 f_X4_18.g rfl rfl ?_
    -- at 4: .ifCond .eq 12
    refine V_ifeq eX4_readLength_4 (fun h2 => ?_) (fun h2 => ?_)
    · omega
    · refine L_aload_n eX4_readLength_7 rfl ?_
      refine V_iconst eX4_readLength_8 ?_
      refine L_aload_n eX4_readLength_9 rfl ?_
      refine L_get eX4_readLength_10 f_X4_69.g rfl rfl ?_
      rw [e2]
      refine C_v0 (p_X7_blame R.k) v_X4_49 eX4_readLength_13 rfl rfl ?_
      refine L_aload_n eX4_readLength_16 rfl ?_
      refine V_iconst eX4_readLength_17 ?_
      refine L_putZ eX4_readLength_18 f_X4_18 rfl rfl ?_
      refine L_aload_n eX4_readLength_21 rfl ?_
      refine V_ldcS (j := 1) (List.mem_of_getElem? (i := 1) rfl) eX4_readLength_22 ?_
      have g4 : uF (uF (uF F 28 4 5) 28 5 a) 30 1 1 28 4 = 5 := by rw [uF_ne (by decide), uF_ne (by decide), uF_eq]
      refine C_v0 (c_needWord_f (j := 1) (by omega) (by omega) G) v_X4_72 eX4_readLength_24 rfl rfl ?_
      refine L_aload_n eX4_readLength_27 rfl ?_
      refine L_getR (r := 31) eX4_readLength_28 f_X4_12.g rfl rfl (by decide) ?_
      refine L_aload_n eX4_readLength_31 rfl ?_
      refine L_bipush eX4_readLength_32 rfl ?_
      refine L_sipush eX4_readLength_34 rfl ?_
      refine C_v1 (c_needNumber_f (by omega) (by omega) G) v_X4_76 eX4_readLength_37 rfl rfl ?_
      refine L_put eX4_readLength_40 f_X4_31 rfl rfl ?_
      refine L_aload_n eX4_readLength_43 rfl ?_
      refine L_bipush eX4_readLength_44 rfl ?_
      refine C_v0 (c_needSign_f (by rw [uF_ne (by decide)]; omega) (by rw [uF_ne (by decide)]; omega) G) v_X4_80 eX4_readLength_46 rfl rfl ?_
      exact V_return eX4_readLength_49 (flt _ 5 a (by rw [uF_ne (by decide), uF_ne (by decide), uF_ne (by decide)]) ⟨fun o k x y z => by rw [uF_ne (by omega), uF_ne (by omega), uF_ne (by omega)], fun _ _ => rfl⟩ g4 (by rw [uF_ne (by decide), uF_eq]) (by omega) el 0)
theorem c_readClause {G : gT} (hT : txT n (A 29)) (hn : F 28 1 = n) (hq : 0 ≤ a ∧ a ≤ n) (hs : skp (A 29) n a = a) (R : rdK F A L len hl a fp) (hh : hl = 0 ∨ hl = 1) (hlen : 20 ≤ len ∧ len ≤ 200) : Meets G mX4_readClause [.ref 30, .ref 28] (sw F A) (fun r w => ∃ F1 A1, r = none ∧ w = sw F1 A1 ∧ frX F F1 A A1 ∧ cqK F1 A1 n a fp (clO (A 29) n L len hl a)) := by
  have hn1 := hT.1
  refine L_ent [some (.ref 30), some (.ref 28)] rfl ?_
  generalize hQ : (fun (r : Option Value) (w : wT) => ∃ F1 A1, r = none ∧ w = sw F1 A1 ∧ frX F F1 A A1 ∧ cqK F1 A1 n a fp (clO (A 29) n L len hl a)) = Q
  have n31 : 0 ≤ F 31 0 ∧ F 31 0 ≤ 12 := by
    have := R.ar.n
    have := R.ar.le
    omega
  have hTW := c_takesWord (F := F) (j := 0) hT hn R.at' hq (by decide)
  have e5 : (sLn.getD 0 0 : Int) = 5 := rfl
  rw [hs, e5] at hTW
  refine L_aload_n eX4_readClause_0 rfl ?_
  refine V_ldcS (j := 0) (List.mem_of_getElem? (i := 0) rfl) eX4_readClause_1 ?_
  by_cases w0 : wm (A 29) n 0 a
  · have hw := (wm_i (T := A 29) (n := n) (q := a) (j := 0) (by decide) hq).mp w0
    rw [e5] at hw
    have h5 := hw.1
    refine C_v1 (hTW.1 w0 G) v_X4_55 eX4_readClause_3 rfl rfl ?_
    refine V_ifeq eX4_readClause_6 (fun h2 => ?_) (fun h2 => ?_)
    · omega
    · refine L_aload_n eX4_readClause_9 rfl ?_
      refine L_aload_n eX4_readClause_10 rfl ?_
      refine C_vq (c_readPieces (G := G) (F := uF F 28 2 (a + 5)) (A := A) (L := L) (a := a + 5) hT (by rw [uF_ne (by decide)]; exact hn) uF_eq (by omega) (by rw [uF_ne (by decide)]; exact R.k) (R.ar.fr (uF_ne (by decide)) (fun _ _ _ => rfl))) v_X4_59 eX4_readClause_11 rfl rfl (fun r' w' e' => ?_)
      obtain ⟨F1, A1, er, ew, fr1, cl⟩ := e'
      subst er ew
      refine V_goto eX4_readClause_14 ?_
      refine V_return eX4_readClause_43 ?_
      rw [← hQ]
      refine ⟨F1, A1, rfl, rfl, ⟨fun o k x y z => by rw [fr1.1 o k x (by omega), uF_ne (by omega)], fr1.2⟩, ?_⟩
      have ec : clO (A 29) n L len hl a = bO' (pcO (A 29) n L (a + 5)) fun x => .inr (x.1, len, hl, x.2) := if_pos w0
      rw [ec]
      revert cl
      cases pcO (A 29) n L (a + 5) with
      | inl e =>
        intro cl
        obtain ⟨q0, q1⟩ := cl
        exact ⟨by rw [q0, uF_ne (by decide)]; exact n31, q1⟩
      | inr x =>
        intro cl
        obtain ⟨q1, q2, q3, q4, q5⟩ := cl
        refine ⟨rdK.mk q5 ?_ ?_ q3 q1 ?_, by show a < x.2 ∧ x.2 ≤ n; omega, hh, hlen⟩
        · rw [fr1.1 31 1 (by decide) (by decide), uF_ne (by decide)]; exact R.len
        · rw [fr1.1 30 1 (by decide) (by decide), uF_ne (by decide)]; exact R.hl
        · rw [q2, uF_ne (by decide)]; exact R.p
  · refine C_v1 (hTW.2 w0 G) v_X4_55 eX4_readClause_3 rfl rfl ?_
    have eF : uF F 28 2 a = F := by rw [← R.at', uF_self]
    rw [eF]
    have hIW := c_isWord (F := F) (j := 1) hT hn R.at' hq (by decide)
    rw [hs, eF] at hIW
    refine V_ifeq eX4_readClause_6 (fun h2 => ?_) (fun h2 => ?_)
    · refine L_aload_n eX4_readClause_17 rfl ?_
      refine V_ldcS (j := 1) (List.mem_of_getElem? (i := 1) rfl) eX4_readClause_18 ?_
      refine C_v1 (hIW G) v_X4_63 eX4_readClause_20 rfl rfl ?_
      refine V_ifeqB eX4_readClause_23 (fun h3 => ?_) (fun h3 => ?_)
      · refine L_aload_n eX4_readClause_34 rfl ?_
        refine V_iconst eX4_readClause_35 ?_
        refine L_aload_n eX4_readClause_36 rfl ?_
        refine L_get eX4_readClause_37 f_X4_69.g rfl rfl ?_
        rw [R.at']
        refine C_v0 (p_X7_blame R.k) v_X4_49 eX4_readClause_40 rfl rfl ?_
        refine V_return eX4_readClause_43 ?_
        rw [← hQ]
        refine ⟨_, A, rfl, rfl, ⟨fun o k x y z => by rw [uF_ne (by omega), uF_ne (by omega)], fun _ _ => rfl⟩, ?_⟩
        have ec : clO (A 29) n L len hl a = .inl (1, a) := by
          unfold clO
          rw [if_neg w0, if_neg h3]
        rw [ec]
        exact ⟨by rw [uF_ne (by decide), uF_ne (by decide)]; exact n31, by rw [uF_ne (by decide), uF_eq], by rw [uF_eq], by show (1 : Int) ≤ 1; decide, by show (1 : Int) ≤ 9; decide⟩
      · refine L_aload_n eX4_readClause_26 rfl ?_
        refine L_aload_n eX4_readClause_27 rfl ?_
        refine C_vq (c_readLength (G := G) hT hn hq hs h3 R hh) v_X4_66 eX4_readClause_28 rfl rfl (fun r' w' e' => ?_)
        obtain ⟨F1, er, ew, fr1, cl⟩ := e'
        subst er ew
        refine V_goto eX4_readClause_31 ?_
        refine V_return eX4_readClause_43 ?_
        rw [← hQ]
        refine ⟨F1, A, rfl, rfl, fr1, ?_⟩
        have ec : clO (A 29) n L len hl a = bO' (lnO (A 29) n hl a) fun x => .inr (L, x.1, 1, x.2) := by
          unfold clO
          rw [if_neg w0, if_pos h3]
        rw [ec]
        exact cl
    · omega
/-- what a whole reading leaves -/
def plK' (F1 : fT) (A1 : nT) (o : oT (List (Int × Int) × Int)) : Prop := match o with
  | .inl e => F1 28 4 = e.1 ∧ F1 28 5 = e.2 ∧ 1 ≤ e.1 ∧ e.1 ≤ 9
  | .inr x => F1 28 4 = 0 ∧ F1 28 5 = -1 ∧ arL F1 A1 x.1 ∧ F1 31 1 = x.2 ∧ 0 < x.1.length ∧ 20 ≤ x.2 ∧ x.2 ≤ 200
theorem c_read {G : gT} (hT : txT n (A 29)) (hn : F 28 1 = n) : Meets G mX4_read [.ref 30, .ref 28] (sw F A) (fun r w => ∃ F1 A1, r = none ∧ w = sw F1 A1 ∧ frX F F1 A A1 ∧ plK' F1 A1 (plO (A 29) n 161 [] 50 0 0)) := by
  have hn1 := hT.1
  refine L_ent [some (.ref 30), some (.ref 28), none] rfl ?_
  generalize hQ : (fun (r : Option Value) (w : wT) => ∃ F1 A1, r = none ∧ w = sw F1 A1 ∧ frX F F1 A A1 ∧ plK' F1 A1 (plO (A 29) n 161 [] 50 0 0)) = Q
  have fbad : ∀ (F1 : fT) (A1 : nT) (k p : Int) (i : Int), frX F F1 A A1 → F1 28 4 = k → F1 28 5 = p → (1 ≤ k ∧ k ≤ 9) → plO (A 29) n 161 [] 50 0 0 = .inl (k, p) → (0 ≤ F1 31 0 ∧ F1 31 0 ≤ 100) → V G mX4_read Q 0 0 61 [some (.ref 30), some (.ref 28), some (vi i)] [] (sw F1 A1) := by
    intro F1 A1 k p i f e1 e2 e3 e4 e5
    have fi : Q none (sw F1 A1) := by
      rw [← hQ]
      refine ⟨F1, A1, rfl, rfl, f, ?_⟩
      rw [e4]
      exact ⟨e1, e2, e3⟩
    refine L_aload_n eX4_read_61 rfl ?_
    refine L_getR (r := 31) eX4_read_62 f_X4_12.g rfl rfl (by decide) ?_
    refine L_get eX4_read_65 f_X4_27.g rfl rfl ?_
    -- at 68: .ifCond .ne 12
    refine V_ifne eX4_read_68 (fun h2 => ?_) (fun h2 => ?_)
    · exact V_return eX4_read_80 fi
    · refine L_aload_n eX4_read_71 rfl ?_
      refine V_iconst eX4_read_72 ?_
      refine L_aload_n eX4_read_73 rfl ?_
      refine L_get eX4_read_74 f_X4_46.g rfl rfl ?_
      refine C_v0 (p_X7_blame_no (by omega) (by omega)) v_X4_49 eX4_read_77 rfl rfl ?_
      exact V_return eX4_read_80 fi
  have fgood : ∀ (F1 : fT) (A1 : nT) (L : List (Int × Int)) (len hl a i : Int) (r : Nat), frX F F1 A A1 → rdK F1 A1 L len hl a (-1) → 20 ≤ len ∧ len ≤ 200 → ¬ skp (A 29) n a < n → plO (A 29) n 161 [] 50 0 0 = plO (A 29) n (r + 1) L len hl a → V G mX4_read Q 0 0 61 [some (.ref 30), some (.ref 28), some (vi i)] [] (sw F1 A1) := by
    intro F1 A1 L len hl a i r f R hlen hsk e
    rw [plO_e hsk] at e
    have en := R.ar.n
    have hle := R.ar.le
    refine L_aload_n eX4_read_61 rfl ?_
    refine L_getR (r := 31) eX4_read_62 f_X4_12.g rfl rfl (by decide) ?_
    refine L_get eX4_read_65 f_X4_27.g rfl rfl ?_
    -- at 68: .ifCond .ne 12
    refine V_ifne eX4_read_68 (fun h2 => ?_) (fun h2 => ?_)
    · refine V_return eX4_read_80 ?_
      rw [← hQ]
      refine ⟨F1, A1, rfl, rfl, f, ?_⟩
      rw [e, if_neg (by omega)]
      exact ⟨R.k, R.p, R.ar, R.len, by show 0 < L.length; omega, hlen⟩
    · have h1 : F1 28 1 = n := by rw [f.1 28 1 (by decide) (by decide) (by decide)]; exact hn
      refine L_aload_n eX4_read_71 rfl ?_
      refine V_iconst eX4_read_72 ?_
      refine L_aload_n eX4_read_73 rfl ?_
      refine L_get eX4_read_74 f_X4_46.g rfl rfl ?_
      rw [h1]
      refine C_v0 (p_X7_blame R.k) v_X4_49 eX4_read_77 rfl rfl ?_
      refine V_return eX4_read_80 ?_
      rw [← hQ]
      refine ⟨_, A1, rfl, rfl, f.tr ⟨fun o k x y z => by rw [uF_ne (by omega), uF_ne (by omega)], fun _ _ => rfl⟩, ?_⟩
      rw [e, if_pos (by omega)]
      exact ⟨by rw [uF_ne (by decide), uF_eq], by rw [uF_eq], by show (1 : Int) ≤ 1; decide, by show (1 : Int) ≤ 9; decide⟩
  have LOOP : ∀ (r : Nat) (i : Int) (F1 : fT) (A1 : nT) (L : List (Int × Int)) (len hl a : Int), i + r = 160 → 0 ≤ i → i ≤ a → a ≤ n → frX F F1 A A1 → rdK F1 A1 L len hl a (-1) → (hl = 0 ∨ hl = 1) → (20 ≤ len ∧ len ≤ 200) → plO (A 29) n 161 [] 50 0 0 = plO (A 29) n (r + 1) L len hl a → V G mX4_read Q 0 0 28 [some (.ref 30), some (.ref 28), some (vi i)] [] (sw F1 A1) := by
    intro r
    induction r with
    | zero =>
      intro i F1 A1 L len hl a e1 e2 e3 e4 f R hh hlen e5
      have hsk : a ≤ skp (A 29) n a ∧ skp (A 29) n a ≤ n := rn_ge e4
      refine L_iload_n eX4_read_28 rfl ?_
      refine L_sipush eX4_read_29 rfl ?_
      -- at 32: .if_icmp .ge 29
      refine V_icmpge eX4_read_32 (fun h2 => ?_) (fun h2 => ?_)
      · exact fgood F1 A1 L len hl a i 0 f R hlen (by omega) e5
      · omega
    | succ r ih =>
      intro i F1 A1 L len hl a e1 e2 e3 e4 f R hh hlen e5
      have hT1 : txT n (A1 29) := by rw [f.2 29 (by decide)]; exact hT
      have h1 : F1 28 1 = n := by rw [f.1 28 1 (by decide) (by decide) (by decide)]; exact hn
      have e29 : A1 29 = A 29 := f.2 29 (by decide)
      have hsk : a ≤ skp (A 29) n a ∧ skp (A 29) n a ≤ n := rn_ge e4
      have hNx := p_X7_next (G := G) (F := F1) (A := A1) hT1 h1 R.at' (by omega)
      rw [e29] at hNx
      have hc := chA_b (q := skp (A 29) n a) hT (by omega)
      have hk := R.k
      refine L_iload_n eX4_read_28 rfl ?_
      refine L_sipush eX4_read_29 rfl ?_
      -- at 32: .if_icmp .ge 29
      refine V_icmpge eX4_read_32 (fun h2 => ?_) (fun h2 => ?_)
      · omega
      · refine L_aload_n eX4_read_35 rfl ?_
        refine C_v1 (p_X7_isFine (by omega)) v_X4_34 eX4_read_36 rfl rfl ?_
        refine V_ifeqB eX4_read_39 (fun h3 => ?_) (fun h3 => ?_)
        · exact absurd hk h3
        · refine L_aload_n eX4_read_42 rfl ?_
          refine C_v1 hNx v_X4_38 eX4_read_43 rfl rfl ?_
          have R2 : rdK (uF F1 28 2 (skp (A 29) n a)) A1 L len hl (skp (A 29) n a) (-1) := rdK.mk (R.ar.fr (uF_ne (by decide)) (fun _ _ _ => rfl)) (by rw [uF_ne (by decide)]; exact R.len) (by rw [uF_ne (by decide)]; exact R.hl) uF_eq (by rw [uF_ne (by decide)]; exact hk) (by rw [uF_ne (by decide)]; exact R.p)
          have f2 : frX F (uF F1 28 2 (skp (A 29) n a)) A A1 := f.tr ⟨fun o k x y z => by rw [uF_ne (by omega)], fun _ _ => rfl⟩
          refine V_iconst eX4_read_46 ?_
          -- at 47: .if_icmp .eq 14
          refine V_icmpeq eX4_read_47 (fun h4 => ?_) (fun h4 => ?_)
          · refine fgood _ A1 L len hl (skp (A 29) n a) i r.succ f2 R2 hlen ?_ ?_
            · have hss : skp (A 29) n (skp (A 29) n a) = skp (A 29) n a := rn_rn e4
              rw [hss]
              intro w
              unfold chA at h4
              rw [if_pos w] at h4
              have := hT.2 (skp (A 29) n a) (by omega) w
              omega
            · rw [e5, plO_e, plO_e]
              · have hss : skp (A 29) n (skp (A 29) n a) = skp (A 29) n a := rn_rn e4
                rw [hss]
                intro w
                unfold chA at h4
                rw [if_pos w] at h4
                have := hT.2 (skp (A 29) n a) (by omega) w
                omega
              · intro w
                unfold chA at h4
                rw [if_pos w] at h4
                have := hT.2 (skp (A 29) n a) (by omega) w
                omega
          · have hlt := hc.2.2 h4
            have hss : skp (A 29) n (skp (A 29) n a) = skp (A 29) n a := rn_rn e4
            rw [plO_s hlt] at e5
            refine L_aload_n eX4_read_50 rfl ?_
            refine L_aload_n eX4_read_51 rfl ?_
            refine C_vq (c_readClause (G := G) (F := uF F1 28 2 (skp (A 29) n a)) (A := A1) (a := skp (A 29) n a) hT1 (by rw [uF_ne (by decide)]; exact h1) (by omega) (by rw [e29]; exact hss) R2 hh hlen) v_X4_42 eX4_read_52 rfl rfl (fun r' w' e' => ?_)
            obtain ⟨F3, A3, er, ew, fr3, cl⟩ := e'
            subst er ew
            rw [e29] at cl
            have f3 := f2.tr fr3
            revert cl e5
            cases clO (A 29) n L len hl (skp (A 29) n a) with
            | inl e =>
              intro e5 cl
              obtain ⟨c0, c1, c2, c3⟩ := cl
              have n31 : 0 ≤ F3 31 0 ∧ F3 31 0 ≤ 100 := by omega
              have ex : ∀ z : Int, V G mX4_read Q 0 0 61 [some (.ref 30), some (.ref 28), some (vi z)] [] (sw F3 A3) := fun z => fbad F3 A3 e.1 e.2 z f3 c1 c2 c3 e5 n31
              refine L_iinc eX4_read_55 rfl (s_2 rfl rfl) ?_
              refine V_goto eX4_read_58 ?_
              refine L_iload_n eX4_read_28 rfl ?_
              refine L_sipush eX4_read_29 rfl ?_
              -- at 32: .if_icmp .ge 29
              refine V_icmpge eX4_read_32 (fun h5 => ?_) (fun h5 => ?_)
              · exact ex _
              · refine L_aload_n eX4_read_35 rfl ?_
                refine C_v1 (p_X7_isFine (by omega)) v_X4_34 eX4_read_36 rfl rfl ?_
                refine V_ifeqB eX4_read_39 (fun h6 => ?_) (fun h6 => ?_)
                · exact ex _
                · omega
            | inr x =>
              intro e5 cl
              obtain ⟨c1, c2, c3, c4⟩ := cl
              refine L_iinc eX4_read_55 rfl (s_2 rfl rfl) ?_
              refine V_goto eX4_read_58 ?_
              exact ih (i + 1) F3 A3 x.1 x.2.1 x.2.2.1 x.2.2.2 (by omega) (by omega) (by omega) c2.2 f3 c1 c3 c4 e5
  refine L_aload_n eX4_read_0 rfl ?_
  refine C_v0 p_X7_begin v_X4_22 eX4_read_1 rfl rfl ?_
  refine L_aload_n eX4_read_4 rfl ?_
  refine L_getR (r := 31) eX4_read_5 f_X4_12.g rfl rfl (by decide) ?_
  refine V_iconst eX4_read_8 ?_
  refine L_put eX4_read_9 f_X4_27 rfl rfl ?_
  refine L_aload_n eX4_read_12 rfl ?_
  refine L_getR (r := 31) eX4_read_13 f_X4_12.g rfl rfl (by decide) ?_
  refine L_bipush eX4_read_16 rfl ?_
  refine L_put eX4_read_18 f_X4_31 rfl rfl ?_
  refine L_aload_n eX4_read_21 rfl ?_
  refine V_iconst eX4_read_22 ?_
  refine L_putZ eX4_read_23 f_X4_18 rfl rfl ?_
  refine V_iconst eX4_read_26 ?_
  refine L_istore_n eX4_read_27 (s_2 rfl rfl) ?_
  refine LOOP 160 0 _ A [] 50 0 0 (by omega) (by omega) (by omega) (by omega) ⟨fun o k x y z => by rw [uF_ne (by omega), uF_ne (by omega), uF_ne (by omega), uF_ne (by omega), uF_ne (by omega), uF_ne (by omega)], fun _ _ => rfl⟩ (rdK.mk (arL.mk ?_ (by decide) (fun i hi => absurd hi (by simp)) (fun i hi => absurd hi (by simp))) ?_ ?_ ?_ ?_ ?_) (Or.inl rfl) (by omega) rfl
  · rw [uF_ne (by decide), uF_ne (by decide), uF_eq]; rfl
  · rw [uF_ne (by decide), uF_eq]
  · rw [uF_eq]
  · rw [uF_ne (by decide), uF_ne (by decide), uF_ne (by decide), uF_ne (by decide), uF_ne (by decide), uF_eq]
  · rw [uF_ne (by decide), uF_ne (by decide), uF_ne (by decide), uF_ne (by decide), uF_eq]
  · rw [uF_ne (by decide), uF_ne (by decide), uF_ne (by decide), uF_eq]
end P98i

