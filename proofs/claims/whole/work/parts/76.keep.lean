/-! a Setup is copied -/
def plF (F : fT) (p : Nat) (a b : Int) : fT := uF (uF F p 0 a) p 1 b
def pcA (A : nT) (p : Nat) (X Y Z : Int → Int) : nT := sA (sA (sA A (p + 1) X) (p + 2) Y) (p + 3) Z
section R76
variable {G : gT} {F : fT} {A : nT} {p q y z s t : Nat}
theorem p_X3_copyFrom (hp : isPl p) (hq : isPl q) (hne : p ≠ q) : Mu G mX3_copyFrom [.ref p, .ref q] F A none (plF F p (F q 0) (F q 1)) (pcA A p (cpI (A (q + 1)) (A (p + 1)) 12) (cpI (A (q + 2)) (A (p + 2)) 12) (cpI (A (q + 3)) (A (p + 3)) 12)) := by
  have hp' : p = 2 ∨ p = 11 ∨ p = 20 ∨ p = 31 ∨ p = 55 := hp
  have hq' : q = 2 ∨ q = 11 ∨ q = 20 ∨ q = 31 ∨ q = 55 := hq
  refine L_ent [some (.ref p), some (.ref q)] rfl ?_
  refine L_aload_n eX3_copyFrom_0 rfl ?_
  refine L_aload_n eX3_copyFrom_1 rfl ?_
  refine L_get eX3_copyFrom_2 f_X3_9.g hq.k (hq.i (by decide)) ?_
  refine L_put eX3_copyFrom_5 f_X3_9 hp.k (hp.i (by decide)) ?_
  refine L_aload_n eX3_copyFrom_8 rfl ?_
  refine L_aload_n eX3_copyFrom_9 rfl ?_
  refine L_get eX3_copyFrom_10 f_X3_15.g hq.k (hq.i (by decide)) ?_
  refine L_put eX3_copyFrom_13 f_X3_15 hp.k (hp.i (by decide)) ?_
  refine L_aload_n eX3_copyFrom_16 rfl ?_
  refine L_getR eX3_copyFrom_17 f_X3_18.g hq.k hq.r2 (by omega) ?_
  refine V_iconst eX3_copyFrom_20 ?_
  refine L_aload_n eX3_copyFrom_21 rfl ?_
  refine L_getR eX3_copyFrom_22 f_X3_18.g hp.k hp.r2 (by omega) ?_
  refine V_iconst eX3_copyFrom_25 ?_
  refine L_bipush eX3_copyFrom_26 rfl ?_
  refine L_acopy eX3_copyFrom_28 v_X3_28 hq.k1 hp.k1 ?_
  refine L_aload_n eX3_copyFrom_31 rfl ?_
  refine L_getR eX3_copyFrom_32 f_X3_22.g hq.k hq.r3 (by omega) ?_
  refine V_iconst eX3_copyFrom_35 ?_
  refine L_aload_n eX3_copyFrom_36 rfl ?_
  refine L_getR eX3_copyFrom_37 f_X3_22.g hp.k hp.r3 (by omega) ?_
  refine V_iconst eX3_copyFrom_40 ?_
  refine L_bipush eX3_copyFrom_41 rfl ?_
  refine L_acopy eX3_copyFrom_43 v_X3_28 hq.k2 hp.k2 ?_
  refine L_aload_n eX3_copyFrom_46 rfl ?_
  refine L_getR eX3_copyFrom_47 f_X3_25.g hq.k hq.r4 (by omega) ?_
  refine V_iconst eX3_copyFrom_50 ?_
  refine L_aload_n eX3_copyFrom_51 rfl ?_
  refine L_getR eX3_copyFrom_52 f_X3_25.g hp.k hp.r4 (by omega) ?_
  refine V_iconst eX3_copyFrom_55 ?_
  refine L_bipush eX3_copyFrom_56 rfl ?_
  refine L_acopy eX3_copyFrom_58 v_X3_28 hq.k3 hp.k3 ?_
  exact V_return eX3_copyFrom_61 ⟨rfl, by unfold pcA plF; rw [uF_ne (Or.inl (Ne.symm hne))]; (repeat rw [sA_ne (by omega)])⟩
theorem p_X8_copyFrom (hy : isWy y) (hz : isWy z) (hne : y ≠ z) : Mu G mX8_copyFrom [.ref y, .ref z] F A none (plF F y (F z 0) (F z 1)) (s2 A y (cpI (A (z + 1)) (A (y + 1)) 61) (cpI (A (z + 2)) (A (y + 2)) 61)) := by
  have hy' : y = 6 ∨ y = 15 ∨ y = 24 := hy
  have hz' : z = 6 ∨ z = 15 ∨ z = 24 := hz
  refine L_ent [some (.ref y), some (.ref z)] rfl ?_
  refine L_aload_n eX8_copyFrom_0 rfl ?_
  refine L_aload_n eX8_copyFrom_1 rfl ?_
  refine L_get eX8_copyFrom_2 f_X8_9.g hz.k (hz.i (by decide)) ?_
  refine L_put eX8_copyFrom_5 f_X8_9 hy.k (hy.i (by decide)) ?_
  refine L_aload_n eX8_copyFrom_8 rfl ?_
  refine L_aload_n eX8_copyFrom_9 rfl ?_
  refine L_get eX8_copyFrom_10 f_X8_15.g hz.k (hz.i (by decide)) ?_
  refine L_put eX8_copyFrom_13 f_X8_15 hy.k (hy.i (by decide)) ?_
  refine L_aload_n eX8_copyFrom_16 rfl ?_
  refine L_getR eX8_copyFrom_17 f_X8_18.g hz.k hz.r2 (by omega) ?_
  refine V_iconst eX8_copyFrom_20 ?_
  refine L_aload_n eX8_copyFrom_21 rfl ?_
  refine L_getR eX8_copyFrom_22 f_X8_18.g hy.k hy.r2 (by omega) ?_
  refine V_iconst eX8_copyFrom_25 ?_
  refine L_bipush eX8_copyFrom_26 rfl ?_
  refine L_acopy eX8_copyFrom_28 v_X8_25 hz.k1 hy.k1 ?_
  refine L_aload_n eX8_copyFrom_31 rfl ?_
  refine L_getR eX8_copyFrom_32 f_X8_22.g hz.k hz.r3 (by omega) ?_
  refine V_iconst eX8_copyFrom_35 ?_
  refine L_aload_n eX8_copyFrom_36 rfl ?_
  refine L_getR eX8_copyFrom_37 f_X8_22.g hy.k hy.r3 (by omega) ?_
  refine V_iconst eX8_copyFrom_40 ?_
  refine L_bipush eX8_copyFrom_41 rfl ?_
  refine L_acopy eX8_copyFrom_43 v_X8_25 hz.k2 hy.k2 ?_
  exact V_return eX8_copyFrom_46 ⟨rfl, by unfold s2 plF; rw [uF_ne (Or.inl (Ne.symm hne))]; (repeat rw [sA_ne (by omega)])⟩
/-- Setup s of (F', A') is Setup t of (F, A), all else is as it was -/
def cpS (F : fT) (A : nT) (F' : fT) (A' : nT) (s t : Nat) : Prop := (F' (s + 1) 0 = F (t + 1) 0) ∧ (F' (s + 1) 1 = F (t + 1) 1) ∧ (F' (s + 5) 0 = F (t + 5) 0) ∧ (F' (s + 5) 1 = F (t + 5) 1) ∧ (eqO 12 (A' (s + 2)) (A (t + 2))) ∧ (eqO 12 (A' (s + 3)) (A (t + 3))) ∧ (eqO 12 (A' (s + 4)) (A (t + 4))) ∧ (eqO 61 (A' (s + 6)) (A (t + 6))) ∧ (eqO 61 (A' (s + 7)) (A (t + 7))) ∧ (eqO 5 (A' (s + 8)) (A (t + 8))) ∧ (∀ o k, o ≠ s + 1 → o ≠ s + 5 → F' o k = F o k) ∧ (∀ o, o < s + 2 ∨ s + 8 < o ∨ o = s + 5 → A' o = A o)
theorem cpS.n {F : fT} {A : nT} {F' : fT} {A' : nT} {s t : Nat} (h : cpS F A F' A' s t) : F' (s + 1) 0 = F (t + 1) 0 := h.1
theorem cpS.len {F : fT} {A : nT} {F' : fT} {A' : nT} {s t : Nat} (h : cpS F A F' A' s t) : F' (s + 1) 1 = F (t + 1) 1 := h.2.1
theorem cpS.T {F : fT} {A : nT} {F' : fT} {A' : nT} {s t : Nat} (h : cpS F A F' A' s t) : F' (s + 5) 0 = F (t + 5) 0 := h.2.2.1
theorem cpS.cl {F : fT} {A : nT} {F' : fT} {A' : nT} {s t : Nat} (h : cpS F A F' A' s t) : F' (s + 5) 1 = F (t + 5) 1 := h.2.2.2.1
theorem cpS.str {F : fT} {A : nT} {F' : fT} {A' : nT} {s t : Nat} (h : cpS F A F' A' s t) : eqO 12 (A' (s + 2)) (A (t + 2)) := h.2.2.2.2.1
theorem cpS.stf {F : fT} {A : nT} {F' : fT} {A' : nT} {s t : Nat} (h : cpS F A F' A' s t) : eqO 12 (A' (s + 3)) (A (t + 3)) := h.2.2.2.2.2.1
theorem cpS.wr {F : fT} {A : nT} {F' : fT} {A' : nT} {s t : Nat} (h : cpS F A F' A' s t) : eqO 12 (A' (s + 4)) (A (t + 4)) := h.2.2.2.2.2.2.1
theorem cpS.wx {F : fT} {A : nT} {F' : fT} {A' : nT} {s t : Nat} (h : cpS F A F' A' s t) : eqO 61 (A' (s + 6)) (A (t + 6)) := h.2.2.2.2.2.2.2.1
theorem cpS.wy {F : fT} {A : nT} {F' : fT} {A' : nT} {s t : Nat} (h : cpS F A F' A' s t) : eqO 61 (A' (s + 7)) (A (t + 7)) := h.2.2.2.2.2.2.2.2.1
theorem cpS.lw {F : fT} {A : nT} {F' : fT} {A' : nT} {s t : Nat} (h : cpS F A F' A' s t) : eqO 5 (A' (s + 8)) (A (t + 8)) := h.2.2.2.2.2.2.2.2.2.1
theorem cpS.fo {F : fT} {A : nT} {F' : fT} {A' : nT} {s t : Nat} (h : cpS F A F' A' s t) : ∀ o k, o ≠ s + 1 → o ≠ s + 5 → F' o k = F o k := h.2.2.2.2.2.2.2.2.2.2.1
theorem cpS.ao {F : fT} {A : nT} {F' : fT} {A' : nT} {s t : Nat} (h : cpS F A F' A' s t) : ∀ o, o < s + 2 ∨ s + 8 < o ∨ o = s + 5 → A' o = A o := h.2.2.2.2.2.2.2.2.2.2.2
theorem cpS.mk {F : fT} {A : nT} {F' : fT} {A' : nT} {s t : Nat} (qn : F' (s + 1) 0 = F (t + 1) 0) (qlen : F' (s + 1) 1 = F (t + 1) 1) (qT : F' (s + 5) 0 = F (t + 5) 0) (qcl : F' (s + 5) 1 = F (t + 5) 1) (qstr : eqO 12 (A' (s + 2)) (A (t + 2))) (qstf : eqO 12 (A' (s + 3)) (A (t + 3))) (qwr : eqO 12 (A' (s + 4)) (A (t + 4))) (qwx : eqO 61 (A' (s + 6)) (A (t + 6))) (qwy : eqO 61 (A' (s + 7)) (A (t + 7))) (qlw : eqO 5 (A' (s + 8)) (A (t + 8))) (qfo : ∀ o k, o ≠ s + 1 → o ≠ s + 5 → F' o k = F o k) (qao : ∀ o, o < s + 2 ∨ s + 8 < o ∨ o = s + 5 → A' o = A o) : cpS F A F' A' s t := ⟨qn, qlen, qT, qcl, qstr, qstf, qwr, qwx, qwy, qlw, qfo, qao⟩
theorem cpI_o {f g : Int → Int} {n : Int} : eqO n (cpI f g n) f := fun i a b => if_pos ⟨a, b⟩
theorem p_X6_copyFrom (hs : isSe s) (ht : isSe t) (hne : s ≠ t) : ∃ F' A', (∀ G : gT, Mu G mX6_copyFrom [.ref s, .ref t] F A none F' A') ∧ cpS F A F' A' s t := by
  have hs' : s = 1 ∨ s = 10 ∨ s = 19 := hs
  have ht' : t = 1 ∨ t = 10 ∨ t = 19 := ht
  obtain ⟨F1, hF1⟩ : ∃ F1, F1 = plF F (s + 1) (F (t + 1) 0) (F (t + 1) 1) := ⟨_, rfl⟩
  obtain ⟨A1, hA1⟩ : ∃ A1, A1 = pcA A (s + 1) (cpI (A (t + 1 + 1)) (A (s + 1 + 1)) 12) (cpI (A (t + 1 + 2)) (A (s + 1 + 2)) 12) (cpI (A (t + 1 + 3)) (A (s + 1 + 3)) 12) := ⟨_, rfl⟩
  obtain ⟨A2, hA2⟩ : ∃ A2, A2 = s2 A1 (s + 5) (cpI (A1 (t + 5 + 1)) (A1 (s + 5 + 1)) 61) (cpI (A1 (t + 5 + 2)) (A1 (s + 5 + 2)) 61) := ⟨_, rfl⟩
  refine ⟨plF F1 (s + 5) (F1 (t + 5) 0) (F1 (t + 5) 1), sA A2 (s + 8) (cpI (A2 (t + 8)) (A2 (s + 8)) 5), fun G => ?_, ?_⟩
  · subst hA2 hA1 hF1
    refine L_ent [some (.ref s), some (.ref t)] rfl ?_
    refine L_aload_n eX6_copyFrom_0 rfl ?_
    refine L_getR eX6_copyFrom_1 f_X6_12.g hs.k hs.r0 (by omega) ?_
    refine L_aload_n eX6_copyFrom_4 rfl ?_
    refine L_getR eX6_copyFrom_5 f_X6_12.g ht.k ht.r0 (by omega) ?_
    refine C_v0 (p_X3_copyFrom hs.pl ht.pl (by omega)) v_X6_33 eX6_copyFrom_8 hs.pl.k rfl ?_
    refine L_aload_n eX6_copyFrom_11 rfl ?_
    refine L_getR eX6_copyFrom_12 f_X6_21.g hs.k hs.r1 (by omega) ?_
    refine L_aload_n eX6_copyFrom_15 rfl ?_
    refine L_getR eX6_copyFrom_16 f_X6_21.g ht.k ht.r1 (by omega) ?_
    refine C_v0 (p_X8_copyFrom hs.wy ht.wy (by omega)) v_X6_37 eX6_copyFrom_19 hs.wy.k rfl ?_
    refine L_aload_n eX6_copyFrom_22 rfl ?_
    refine L_getR eX6_copyFrom_23 f_X6_25.g ht.k ht.r2 (by omega) ?_
    refine V_iconst eX6_copyFrom_26 ?_
    refine L_aload_n eX6_copyFrom_27 rfl ?_
    refine L_getR eX6_copyFrom_28 f_X6_25.g hs.k hs.r2 (by omega) ?_
    refine V_iconst eX6_copyFrom_31 ?_
    refine V_iconst eX6_copyFrom_32 ?_
    refine L_acopy eX6_copyFrom_33 v_X6_40 ht.k8 hs.k8 ?_
    exact V_return eX6_copyFrom_36 ⟨rfl, rfl⟩
  · subst hA2 hA1 hF1
    refine cpS.mk ?_ ?_ ?_ ?_ ?_ ?_ ?_ ?_ ?_ ?_ ?_ ?_
    · unfold plF
      repeat rw [uF_ne (by omega)]
      rw [uF_eq]
    · unfold plF
      repeat rw [uF_ne (by omega)]
      rw [uF_eq]
    · unfold plF
      rw [uF_ne (by omega), uF_eq]
      repeat rw [uF_ne (by omega)]
    · unfold plF
      rw [uF_eq]
      repeat rw [uF_ne (by omega)]
    · rw [sA_ne (by omega), s2_o (by omega)]
      unfold pcA
      rw [sA_ne (by omega), sA_ne (by omega), show s + 2 = s + 1 + 1 from rfl, sA_eq]
      exact cpI_o
    · rw [sA_ne (by omega), s2_o (by omega)]
      unfold pcA
      rw [sA_ne (by omega), show s + 3 = s + 1 + 2 from rfl, sA_eq]
      exact cpI_o
    · rw [sA_ne (by omega), s2_o (by omega)]
      unfold pcA
      rw [show s + 4 = s + 1 + 3 from rfl, sA_eq]
      exact cpI_o
    · rw [sA_ne (by omega), show s + 6 = s + 5 + 1 from rfl, s2_1]
      intro i a b
      rw [cpI_o i a b]
      unfold pcA
      rw [sA_ne (by omega), sA_ne (by omega), sA_ne (by omega)]
    · rw [sA_ne (by omega), show s + 7 = s + 5 + 2 from rfl, s2_2]
      intro i a b
      rw [cpI_o i a b]
      unfold pcA
      rw [sA_ne (by omega), sA_ne (by omega), sA_ne (by omega)]
    · rw [sA_eq]
      intro i a b
      rw [cpI_o i a b, s2_o (by omega)]
      unfold pcA
      rw [sA_ne (by omega), sA_ne (by omega), sA_ne (by omega)]
    · intro o k a b
      unfold plF
      rw [uF_ne (by omega), uF_ne (by omega), uF_ne (by omega), uF_ne (by omega)]
    · intro o a
      rw [sA_ne (by omega), s2_o (by omega)]
      unfold pcA
      rw [sA_ne (by omega), sA_ne (by omega), sA_ne (by omega)]
end R76
section P76
variable {F F' : fT} {A A' : nT} {s t : Nat}
theorem cpS.ok (h : cpS F A F' A' s t) (k : sOK F A t) : sOK F' A' s := by
  have e1 := h.n
  have e3 := h.T
  refine sOK.mk ?_ ?_ ?_ ?_ ?_ ?_ ?_ ?_
  · rw [h.n]; exact k.n
  · rw [h.len]; exact k.len
  · rw [h.T]; exact k.T
  · intro i a b
    have kn := k.n
    rw [h.n] at b
    rw [h.str i a (by omega), h.stf i a (by omega)]
    exact k.pl i a b
  · have kl := k.lw
    unfold lwK at *
    rw [h.lw 0 (by omega) (by omega), h.lw 1 (by omega) (by omega), h.lw 2 (by omega) (by omega), h.lw 3 (by omega) (by omega), h.lw 4 (by omega) (by omega)]
    exact kl
  · intro i a b
    have kT := k.T
    rw [h.T] at b
    rw [h.wx i a (by omega), h.wy i a (by omega)]
    exact k.wy i a b
  · rw [h.wx 0 (by omega) (by omega), h.wy 0 (by omega) (by omega)]
    exact k.w0
  · intro i a b
    have kn := k.n
    rw [h.n] at b
    rw [h.wr i (by omega) (by omega)]
    exact k.wr i a b
end P76
/-! pairs whose worlds are told by what holds of them -/
def Pw (mC mM : mT) (args : List Value) (F : fT) (A : nT) : Prop := ∀ G : gT, ∃ Q1, Meets G mC (.ref 0 :: args) (sw F A) Q1 ∧ ∀ r w, Q1 r w → ∃ v F1 A1, r = some v ∧ w = sw F1 A1 ∧ tyV (mRt mC) v ∧ ∃ Q2, Meets G mM (.ref 66 :: args) (sw F1 A1) Q2 ∧ ∀ r' w', Q2 r' w' → ∃ F2 A2, r' = some v ∧ w' = sw F2 A2 ∧ Iv F2 A2
theorem Pr.w {mC mM : mT} {args : List Value} {F : fT} {A : nT} (h : Pr mC mM args F A) : Pw mC mM args F A := by
  obtain ⟨r, F1, A1, F2, A2, hC, hM, hI, hT⟩ := h
  exact fun G => ⟨_, hC G, fun r' w' e => ⟨r, F1, A1, e.1, e.2, hT, _, hM G, fun r2 w2 e2 => ⟨F2, A2, e2.1, e2.2, hI⟩⟩⟩
/-- the reference's IMAGE at b is what was so -/
def imS (F : fT) (A : nT) (I : Int → Int) (b : Int) : Prop := (I b = F 66 0) ∧ (I (b + 1) = F 66 1) ∧ (I (b + 2) = F 66 5) ∧ (I (b + 3) = F 66 6) ∧ (eqO 12 (fun i => I (b + 4 + i)) (A 67)) ∧ (eqO 12 (fun i => I (b + 16 + i)) (A 68)) ∧ (eqO 12 (fun i => I (b + 28 + i)) (A 69)) ∧ (eqO 5 (fun i => I (b + 40 + i)) (A 72)) ∧ (eqO 61 (fun i => I (b + 45 + i)) (A 70)) ∧ (eqO 61 (fun i => I (b + 106 + i)) (A 71))
theorem imS.n {F : fT} {A : nT} {I : Int → Int} {b : Int} (h : imS F A I b) : I b = F 66 0 := h.1
theorem imS.len {F : fT} {A : nT} {I : Int → Int} {b : Int} (h : imS F A I b) : I (b + 1) = F 66 1 := h.2.1
theorem imS.T {F : fT} {A : nT} {I : Int → Int} {b : Int} (h : imS F A I b) : I (b + 2) = F 66 5 := h.2.2.1
theorem imS.cl {F : fT} {A : nT} {I : Int → Int} {b : Int} (h : imS F A I b) : I (b + 3) = F 66 6 := h.2.2.2.1
theorem imS.str {F : fT} {A : nT} {I : Int → Int} {b : Int} (h : imS F A I b) : eqO 12 (fun i => I (b + 4 + i)) (A 67) := h.2.2.2.2.1
theorem imS.stf {F : fT} {A : nT} {I : Int → Int} {b : Int} (h : imS F A I b) : eqO 12 (fun i => I (b + 16 + i)) (A 68) := h.2.2.2.2.2.1
theorem imS.wr {F : fT} {A : nT} {I : Int → Int} {b : Int} (h : imS F A I b) : eqO 12 (fun i => I (b + 28 + i)) (A 69) := h.2.2.2.2.2.2.1
theorem imS.lw {F : fT} {A : nT} {I : Int → Int} {b : Int} (h : imS F A I b) : eqO 5 (fun i => I (b + 40 + i)) (A 72) := h.2.2.2.2.2.2.2.1
theorem imS.wx {F : fT} {A : nT} {I : Int → Int} {b : Int} (h : imS F A I b) : eqO 61 (fun i => I (b + 45 + i)) (A 70) := h.2.2.2.2.2.2.2.2.1
theorem imS.wy {F : fT} {A : nT} {I : Int → Int} {b : Int} (h : imS F A I b) : eqO 61 (fun i => I (b + 106 + i)) (A 71) := h.2.2.2.2.2.2.2.2.2
theorem imS.mk {F : fT} {A : nT} {I : Int → Int} {b : Int} (qn : I b = F 66 0) (qlen : I (b + 1) = F 66 1) (qT : I (b + 2) = F 66 5) (qcl : I (b + 3) = F 66 6) (qstr : eqO 12 (fun i => I (b + 4 + i)) (A 67)) (qstf : eqO 12 (fun i => I (b + 16 + i)) (A 68)) (qwr : eqO 12 (fun i => I (b + 28 + i)) (A 69)) (qlw : eqO 5 (fun i => I (b + 40 + i)) (A 72)) (qwx : eqO 61 (fun i => I (b + 45 + i)) (A 70)) (qwy : eqO 61 (fun i => I (b + 106 + i)) (A 71)) : imS F A I b := ⟨qn, qlen, qT, qcl, qstr, qstf, qwr, qlw, qwx, qwy⟩
section Q76
variable {G : gT} {F : fT} {A : nT}
theorem p_X11_keep {z : Int} (hz : z = 0 ∨ z = 1) : Meets G mX11_keep [.ref 66, vi z] (sw F A) (fun r w => ∃ I, r = some (vi 1) ∧ w = sw F (sA (sA A 99 I) 100 (uI (A 100) z 1)) ∧ imS F A I (170 * z) ∧ ∀ i, i < 170 * z ∨ 170 * z + 170 ≤ i → I i = A 99 i) := by
  refine L_ent [some (.ref 66), some (vi z), none, none] rfl ?_
  generalize hQ : (fun (r : Option Value) (w : wT) => ∃ I, r = some (vi 1) ∧ w = sw F (sA (sA A 99 I) 100 (uI (A 100) z 1)) ∧ imS F A I (170 * z) ∧ ∀ i, i < 170 * z ∨ 170 * z + 170 ≤ i → I i = A 99 i) = Q
  have eo : ∀ {I : Int → Int} {o : Nat}, o ≠ 99 → sA A 99 I o = A o := fun h => sA_ne h
  have r67 : ∀ I, sA A 99 I 67 = A 67 := fun I => sA_ne (by decide)
  have r68 : ∀ I, sA A 99 I 68 = A 68 := fun I => sA_ne (by decide)
  have r69 : ∀ I, sA A 99 I 69 = A 69 := fun I => sA_ne (by decide)
  have r70 : ∀ I, sA A 99 I 70 = A 70 := fun I => sA_ne (by decide)
  have r71 : ∀ I, sA A 99 I 71 = A 71 := fun I => sA_ne (by decide)
  have r72 : ∀ I, sA A 99 I 72 = A 72 := fun I => sA_ne (by decide)
  have LOOP3 : ∀ (r : Nat) (k : Int) (I : Int → Int), 61 - k < r → 0 ≤ k → k ≤ 61 → (I (170 * z) = F 66 0 ∧ I (170 * z + 1) = F 66 1 ∧ I (170 * z + 2) = F 66 5 ∧ I (170 * z + 3) = F 66 6) → (∀ i, 0 ≤ i → i < 12 → I (170 * z + 4 + i) = A 67 i ∧ I (170 * z + 16 + i) = A 68 i ∧ I (170 * z + 28 + i) = A 69 i) → (∀ i, 0 ≤ i → i < 5 → I (170 * z + 40 + i) = A 72 i) → (∀ i, 0 ≤ i → i < k → I (170 * z + 45 + i) = A 70 i ∧ I (170 * z + 106 + i) = A 71 i) → (∀ i, i < 170 * z ∨ 170 * z + 170 ≤ i → I i = A 99 i) → V G mX11_keep Q 0 0 162 [some (.ref 66), some (vi z), some (vi (170 * z)), some (vi k)] [] (sw F (sA A 99 I)) := by
    intro r
    induction r with
    | zero => intro k I e1; omega
    | succ r ih =>
      intro k I e1 e2 e3 a0 a1 a2 a3 fo
      refine L_iload_n eX11_keep_162 rfl ?_
      refine L_bipush eX11_keep_163 rfl ?_
      -- at 165: .if_icmp .ge 43
      refine V_icmpge eX11_keep_165 (fun h2 => ?_) (fun h2 => ?_)
      · have e : k = 61 := by omega
        subst e
        refine L_aload_n eX11_keep_208 rfl ?_
        refine L_getR (r := 100) eX11_keep_209 f_X11_118.g rfl rfl (by decide) ?_
        refine L_iload_n eX11_keep_212 rfl ?_
        refine V_iconst eX11_keep_213 ?_
        refine L_zast eX11_keep_214 rfl ?_
        refine V_iconst eX11_keep_215 ?_
        refine V_ireturn eX11_keep_216 ?_
        rw [← hQ, eo (by decide)]
        exact ⟨I, rfl, rfl, imS.mk a0.1 a0.2.1 a0.2.2.1 a0.2.2.2 (fun i a b => (a1 i a b).1) (fun i a b => (a1 i a b).2.1) (fun i a b => (a1 i a b).2.2) a2 (fun i a b => (a3 i a b).1) (fun i a b => (a3 i a b).2), fo⟩
      · refine L_aload_n eX11_keep_168 rfl ?_
        refine L_getR (r := 99) eX11_keep_169 f_X11_115.g rfl rfl (by decide) ?_
        refine L_iload_n eX11_keep_172 rfl ?_
        refine L_bipush eX11_keep_173 rfl ?_
        refine V_iadd eX11_keep_175 ?_
        refine L_iload_n eX11_keep_176 rfl ?_
        refine V_iadd eX11_keep_177 ?_
        refine L_aload_n eX11_keep_178 rfl ?_
        refine L_getR (r := 70) eX11_keep_179 f_X11_19.g rfl rfl (by decide) ?_
        refine L_iload_n eX11_keep_182 rfl ?_
        refine L_iald eX11_keep_183 rfl ?_
        refine L_iast eX11_keep_184 rfl ?_
        refine L_aload_n eX11_keep_185 rfl ?_
        refine L_getR (r := 99) eX11_keep_186 f_X11_115.g rfl rfl (by decide) ?_
        refine L_iload_n eX11_keep_189 rfl ?_
        refine L_bipush eX11_keep_190 rfl ?_
        refine V_iadd eX11_keep_192 ?_
        refine L_iload_n eX11_keep_193 rfl ?_
        refine V_iadd eX11_keep_194 ?_
        refine L_aload_n eX11_keep_195 rfl ?_
        refine L_getR (r := 71) eX11_keep_196 f_X11_22.g rfl rfl (by decide) ?_
        refine L_iload_n eX11_keep_199 rfl ?_
        refine L_iald eX11_keep_200 rfl ?_
        refine L_iast eX11_keep_201 rfl ?_
        refine L_iinc eX11_keep_202 rfl (s_3 rfl rfl) ?_
        refine V_goto eX11_keep_205 ?_
        simp only [sA_sA, sA_eq, r67, r68, r69, r70, r71, r72]
        refine ih _ _ (by omega) (by omega) (by omega) ?_ ?_ ?_ ?_ ?_
        · simp only [uI]
          rw [if_neg (by omega), if_neg (by omega), if_neg (by omega), if_neg (by omega), if_neg (by omega), if_neg (by omega), if_neg (by omega), if_neg (by omega)]
          exact a0
        · intro i a b
          simp only [uI]
          rw [if_neg (by omega), if_neg (by omega), if_neg (by omega), if_neg (by omega), if_neg (by omega), if_neg (by omega)]
          exact a1 i a b
        · intro i a b
          simp only [uI]
          rw [if_neg (by omega), if_neg (by omega)]
          exact a2 i a b
        · intro i a b
          simp only [uI]
          by_cases c : i = k
          · subst c
            rw [if_neg (by omega), if_pos rfl, if_pos rfl]
            exact ⟨rfl, rfl⟩
          · rw [if_neg (by omega), if_neg (by omega), if_neg (by omega), if_neg (by omega)]
            exact a3 i a (by omega)
        · intro i a
          simp only [uI]
          rw [if_neg (by omega), if_neg (by omega)]
          exact fo i a
  have LOOP2 : ∀ (r : Nat) (k : Int) (I : Int → Int), 5 - k < r → 0 ≤ k → k ≤ 5 → (I (170 * z) = F 66 0 ∧ I (170 * z + 1) = F 66 1 ∧ I (170 * z + 2) = F 66 5 ∧ I (170 * z + 3) = F 66 6) → (∀ i, 0 ≤ i → i < 12 → I (170 * z + 4 + i) = A 67 i ∧ I (170 * z + 16 + i) = A 68 i ∧ I (170 * z + 28 + i) = A 69 i) → (∀ i, 0 ≤ i → i < k → I (170 * z + 40 + i) = A 72 i) → (∀ i, i < 170 * z ∨ 170 * z + 170 ≤ i → I i = A 99 i) → V G mX11_keep Q 0 0 132 [some (.ref 66), some (vi z), some (vi (170 * z)), some (vi k)] [] (sw F (sA A 99 I)) := by
    intro r
    induction r with
    | zero => intro k I e1; omega
    | succ r ih =>
      intro k I e1 e2 e3 a0 a1 a2 fo
      refine L_iload_n eX11_keep_132 rfl ?_
      refine V_iconst eX11_keep_133 ?_
      -- at 134: .if_icmp .ge 26
      refine V_icmpge eX11_keep_134 (fun h2 => ?_) (fun h2 => ?_)
      · have e : k = 5 := by omega
        subst e
        refine V_iconst eX11_keep_160 ?_
        refine L_istore_n eX11_keep_161 (s_3 rfl rfl) ?_
        exact LOOP3 62 0 I (by omega) (by omega) (by omega) a0 a1 a2 (fun i a b => by omega) fo
      · refine L_aload_n eX11_keep_137 rfl ?_
        refine L_getR (r := 99) eX11_keep_138 f_X11_115.g rfl rfl (by decide) ?_
        refine L_iload_n eX11_keep_141 rfl ?_
        refine L_bipush eX11_keep_142 rfl ?_
        refine V_iadd eX11_keep_144 ?_
        refine L_iload_n eX11_keep_145 rfl ?_
        refine V_iadd eX11_keep_146 ?_
        refine L_aload_n eX11_keep_147 rfl ?_
        refine L_getR (r := 72) eX11_keep_148 f_X11_25.g rfl rfl (by decide) ?_
        refine L_iload_n eX11_keep_151 rfl ?_
        refine L_iald eX11_keep_152 rfl ?_
        refine L_iast eX11_keep_153 rfl ?_
        refine L_iinc eX11_keep_154 rfl (s_3 rfl rfl) ?_
        refine V_goto eX11_keep_157 ?_
        simp only [sA_sA, sA_eq, r67, r68, r69, r70, r71, r72]
        refine ih _ _ (by omega) (by omega) (by omega) ?_ ?_ ?_ ?_
        · simp only [uI]
          rw [if_neg (by omega), if_neg (by omega), if_neg (by omega), if_neg (by omega)]
          exact a0
        · intro i a b
          simp only [uI]
          rw [if_neg (by omega), if_neg (by omega), if_neg (by omega)]
          exact a1 i a b
        · intro i a b
          simp only [uI]
          by_cases c : i = k
          · subst c
            rw [if_pos rfl]
          · rw [if_neg (by omega)]
            exact a2 i a (by omega)
        · intro i a
          simp only [uI]
          rw [if_neg (by omega)]
          exact fo i a
  have LOOP1 : ∀ (r : Nat) (k : Int) (I : Int → Int), 12 - k < r → 0 ≤ k → k ≤ 12 → (I (170 * z) = F 66 0 ∧ I (170 * z + 1) = F 66 1 ∧ I (170 * z + 2) = F 66 5 ∧ I (170 * z + 3) = F 66 6) → (∀ i, 0 ≤ i → i < k → I (170 * z + 4 + i) = A 67 i ∧ I (170 * z + 16 + i) = A 68 i ∧ I (170 * z + 28 + i) = A 69 i) → (∀ i, i < 170 * z ∨ 170 * z + 170 ≤ i → I i = A 99 i) → V G mX11_keep Q 0 0 68 [some (.ref 66), some (vi z), some (vi (170 * z)), some (vi k)] [] (sw F (sA A 99 I)) := by
    intro r
    induction r with
    | zero => intro k I e1; omega
    | succ r ih =>
      intro k I e1 e2 e3 a0 a1 fo
      refine L_iload_n eX11_keep_68 rfl ?_
      refine L_bipush eX11_keep_69 rfl ?_
      -- at 71: .if_icmp .ge 59
      refine V_icmpge eX11_keep_71 (fun h2 => ?_) (fun h2 => ?_)
      · have e : k = 12 := by omega
        subst e
        refine V_iconst eX11_keep_130 ?_
        refine L_istore_n eX11_keep_131 (s_3 rfl rfl) ?_
        exact LOOP2 6 0 I (by omega) (by omega) (by omega) a0 a1 (fun i a b => by omega) fo
      · refine L_aload_n eX11_keep_74 rfl ?_
        refine L_getR (r := 99) eX11_keep_75 f_X11_115.g rfl rfl (by decide) ?_
        refine L_iload_n eX11_keep_78 rfl ?_
        refine V_iconst eX11_keep_79 ?_
        refine V_iadd eX11_keep_80 ?_
        refine L_iload_n eX11_keep_81 rfl ?_
        refine V_iadd eX11_keep_82 ?_
        refine L_aload_n eX11_keep_83 rfl ?_
        refine L_getR (r := 67) eX11_keep_84 f_X11_7.g rfl rfl (by decide) ?_
        refine L_iload_n eX11_keep_87 rfl ?_
        refine L_iald eX11_keep_88 rfl ?_
        refine L_iast eX11_keep_89 rfl ?_
        refine L_aload_n eX11_keep_90 rfl ?_
        refine L_getR (r := 99) eX11_keep_91 f_X11_115.g rfl rfl (by decide) ?_
        refine L_iload_n eX11_keep_94 rfl ?_
        refine L_bipush eX11_keep_95 rfl ?_
        refine V_iadd eX11_keep_97 ?_
        refine L_iload_n eX11_keep_98 rfl ?_
        refine V_iadd eX11_keep_99 ?_
        refine L_aload_n eX11_keep_100 rfl ?_
        refine L_getR (r := 68) eX11_keep_101 f_X11_13.g rfl rfl (by decide) ?_
        refine L_iload_n eX11_keep_104 rfl ?_
        refine L_iald eX11_keep_105 rfl ?_
        refine L_iast eX11_keep_106 rfl ?_
        refine L_aload_n eX11_keep_107 rfl ?_
        refine L_getR (r := 99) eX11_keep_108 f_X11_115.g rfl rfl (by decide) ?_
        refine L_iload_n eX11_keep_111 rfl ?_
        refine L_bipush eX11_keep_112 rfl ?_
        refine V_iadd eX11_keep_114 ?_
        refine L_iload_n eX11_keep_115 rfl ?_
        refine V_iadd eX11_keep_116 ?_
        refine L_aload_n eX11_keep_117 rfl ?_
        refine L_getR (r := 69) eX11_keep_118 f_X11_16.g rfl rfl (by decide) ?_
        refine L_iload_n eX11_keep_121 rfl ?_
        refine L_iald eX11_keep_122 rfl ?_
        refine L_iast eX11_keep_123 rfl ?_
        refine L_iinc eX11_keep_124 rfl (s_3 rfl rfl) ?_
        refine V_goto eX11_keep_127 ?_
        simp only [sA_sA, sA_eq, r67, r68, r69, r70, r71, r72]
        refine ih _ _ (by omega) (by omega) (by omega) ?_ ?_ ?_
        · simp only [uI]
          (repeat rw [if_neg (by omega)])
          exact a0
        · intro i a b
          simp only [uI]
          by_cases c : i = k
          · subst c
            rw [if_neg (by omega), if_neg (by omega), if_pos rfl, if_neg (by omega), if_pos rfl, if_pos rfl]
            exact ⟨rfl, rfl, rfl⟩
          · (repeat rw [if_neg (by omega)])
            exact a1 i a (by omega)
        · intro i a
          simp only [uI]
          (repeat rw [if_neg (by omega)])
          exact fo i a
  have go : V G mX11_keep Q 0 0 14 [some (.ref 66), some (vi z), none, none] [] (sw F A) := by
    refine L_sipush eX11_keep_14 rfl ?_
    refine L_iload_n eX11_keep_17 rfl ?_
    refine V_imul eX11_keep_18 ?_
    refine L_istore_n eX11_keep_19 (s_2 rfl rfl) ?_
    refine L_aload_n eX11_keep_20 rfl ?_
    refine L_getR (r := 99) eX11_keep_21 f_X11_115.g rfl rfl (by decide) ?_
    refine L_iload_n eX11_keep_24 rfl ?_
    refine L_aload_n eX11_keep_25 rfl ?_
    refine L_get eX11_keep_26 f_X11_121.g rfl rfl ?_
    refine L_iast eX11_keep_29 rfl ?_
    refine L_aload_n eX11_keep_30 rfl ?_
    refine L_getR (r := 99) eX11_keep_31 f_X11_115.g rfl rfl (by decide) ?_
    refine L_iload_n eX11_keep_34 rfl ?_
    refine V_iconst eX11_keep_35 ?_
    refine V_iadd eX11_keep_36 ?_
    refine L_aload_n eX11_keep_37 rfl ?_
    refine L_get eX11_keep_38 f_X11_124.g rfl rfl ?_
    refine L_iast eX11_keep_41 rfl ?_
    refine L_aload_n eX11_keep_42 rfl ?_
    refine L_getR (r := 99) eX11_keep_43 f_X11_115.g rfl rfl (by decide) ?_
    refine L_iload_n eX11_keep_46 rfl ?_
    refine V_iconst eX11_keep_47 ?_
    refine V_iadd eX11_keep_48 ?_
    refine L_aload_n eX11_keep_49 rfl ?_
    refine L_get eX11_keep_50 f_X11_127.g rfl rfl ?_
    refine L_iast eX11_keep_53 rfl ?_
    refine L_aload_n eX11_keep_54 rfl ?_
    refine L_getR (r := 99) eX11_keep_55 f_X11_115.g rfl rfl (by decide) ?_
    refine L_iload_n eX11_keep_58 rfl ?_
    refine V_iconst eX11_keep_59 ?_
    refine V_iadd eX11_keep_60 ?_
    refine L_aload_n eX11_keep_61 rfl ?_
    refine L_get eX11_keep_62 f_X11_130.g rfl rfl ?_
    refine L_iast eX11_keep_65 rfl ?_
    refine V_iconst eX11_keep_66 ?_
    refine L_istore_n eX11_keep_67 (s_3 rfl rfl) ?_
    rw [sA_eq, sA_sA, sA_eq, sA_sA, sA_eq, sA_sA]
    refine LOOP1 13 0 _ (by omega) (by omega) (by omega) ?_ (fun i a b => by omega) ?_
    · simp only [uI]
      refine ⟨?_, ?_, ?_, ?_⟩ <;> (repeat (first | rw [if_pos trivial] | rw [if_pos (by omega)] | rw [if_neg (by omega)]))
    · intro i a
      simp only [uI]
      (repeat rw [if_neg (by omega)])
  refine L_iload_n eX11_keep_0 rfl ?_
  refine V_i2l eX11_keep_1 ?_
  refine L_lconst0 eX11_keep_2 ?_
  refine L_lconst1 eX11_keep_3 ?_
  refine C_s1 (p_X11_in (by omega) (by omega) (by omega)) v_X11_152 eX11_keep_4 rfl ?_
  refine V_ifneB eX11_keep_7 (fun h7 => ?_) (fun h7 => ?_)
  · exact go
  · (exfalso; omega)
end Q76

