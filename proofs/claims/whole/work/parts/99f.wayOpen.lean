/-! WAYS told in a text: TIMES opened, in the class -/
theorem wm_41 {T : Int → Int} {n q : Int} {j : Nat} (hj : j = 4 ∨ j = 5 ∨ j = 6) (h : 0 ≤ q ∧ q ≤ n) (w : wm T n j q) : chA T n q ≠ 41 := by
  have hw := wm_le (by omega) h w
  have e4 : (sLn.getD 4 0 : Int) = 2 := rfl
  have e5 : (sLn.getD 5 0 : Int) = 4 := rfl
  have e6 : (sLn.getD 6 0 : Int) = 5 := rfl
  have hp : q < n := by
    rcases hj with e | e | e <;> subst e <;> omega
  have h0 : T (q + 0) = wdC j 0 := w.2 0 (by omega) (by rcases hj with e | e | e <;> subst e <;> omega)
  rw [Int.add_zero] at h0
  unfold chA
  rw [if_pos hp, h0]
  rcases hj with e | e | e <;> subst e <;> decide +kernel
theorem stK_open {A : nT} : ∀ (s' : skT) (m : Nat) (x y z : Int), s'.length ≤ m → stK A s' → stK (sA (sA (sA A 39 (uI (A 39) m x)) 40 (uI (sA A 39 (uI (A 39) m x) 40) m y)) 41 (uI (sA A 39 (uI (A 39) m x) 41) m z)) s' := by
  intro s'
  induction s' with
  | nil => intro _ _ _ _ _ _; trivial
  | cons e s' ih =>
    intro m x y z hm hh
    rw [List.length_cons] at hm
    have hh' : (A 39 s'.length = e.1 ∧ A 40 s'.length = (min 60 (pz s' e.2).length : Nat) ∧ A 41 s'.length = tsm (pz s' e.2)) ∧ (2 ≤ e.1 ∧ e.1 ≤ 9) ∧ stK A s' := hh
    refine ⟨⟨?_, ?_, ?_⟩, hh'.2.1, ih m x y z (by omega) hh'.2.2⟩
    · rw [sA_ne (by decide), sA_ne (by decide), sA_eq, uI_ne (by omega)]; exact hh'.1.1
    · rw [sA_ne (by decide), sA_eq, uI_ne (by omega), sA_ne (by decide)]; exact hh'.1.2.1
    · rw [sA_eq, uI_ne (by omega), sA_ne (by decide)]; exact hh'.1.2.2
def otK (F F1 : fT) (A1 : nT) (c : lwT) (st : skT) (o : oT (Int × Int)) : Prop := match o with
  | .inl e => wfK F1 ∧ F1 28 4 = e.1 ∧ F1 28 5 = e.2 ∧ 1 ≤ e.1 ∧ e.1 ≤ 9
  | .inr x => wyK F1 A1 (pz st c) ((x.1, c) :: st) ∧ F1 28 4 = 0 ∧ F1 28 5 = F 28 5 ∧ F1 28 2 = x.2 ∧ F1 35 9 = 0
section P99f
variable {F : fT} {A : nT} {c : lwT} {st : skT} {n q : Int}
theorem ot46 {G : gT} {Q : Option Value → wT → Prop} (hd : 0 ≤ F 35 8 ∧ F 35 8 < 3) (hq : Q none (sw (uF (uF F 35 8 (F 35 8 + 1)) 35 9 0) (sA (sA A 40 (uI (A 40) (F 35 8) (F 35 3))) 41 (uI (A 41) (F 35 8) (F 35 4))))) : V G mX9_openTimes Q 0 0 46 [some (.ref 35), some (.ref 28)] [] (sw F A) := by
  refine L_aload_n eX9_openTimes_46 rfl ?_
  refine L_getR (r := 40) eX9_openTimes_47 f_X9_31.g rfl rfl (by decide) ?_
  refine L_aload_n eX9_openTimes_50 rfl ?_
  refine L_get eX9_openTimes_51 f_X9_37.g rfl rfl ?_
  refine L_aload_n eX9_openTimes_54 rfl ?_
  refine L_get eX9_openTimes_55 f_X9_21.g rfl rfl ?_
  refine L_iast eX9_openTimes_58 rfl ?_
  refine L_aload_n eX9_openTimes_59 rfl ?_
  refine L_getR (r := 41) eX9_openTimes_60 f_X9_34.g rfl rfl (by decide) ?_
  refine L_aload_n eX9_openTimes_63 rfl ?_
  refine L_get eX9_openTimes_64 f_X9_37.g rfl rfl ?_
  refine L_aload_n eX9_openTimes_67 rfl ?_
  refine L_get eX9_openTimes_68 f_X9_25.g rfl rfl ?_
  refine L_iast eX9_openTimes_71 rfl ?_
  refine L_aload_n eX9_openTimes_72 rfl ?_
  refine L_dup eX9_openTimes_73 ?_
  refine L_get eX9_openTimes_74 f_X9_37.g rfl rfl ?_
  refine V_iconst eX9_openTimes_77 ?_
  refine V_iadd eX9_openTimes_78 ?_
  refine L_put eX9_openTimes_79 f_X9_37 rfl rfl ?_
  refine L_aload_n eX9_openTimes_82 rfl ?_
  refine V_iconst eX9_openTimes_83 ?_
  refine L_putZ eX9_openTimes_84 f_X9_40 rfl rfl ?_
  exact V_return eX9_openTimes_87 hq
theorem c_openTimes {G : gT} (hT : txT n (A 29)) (hn : F 28 1 = n) (ha : F 28 2 = q) (hab : 0 ≤ q ∧ q ≤ n) (hs : skp (A 29) n q = q) (w6 : wm (A 29) n 6 q) (hk : F 28 4 = 0) (h : wyK F A (pz st c) st) (ht : 0 ≤ tsm (pz st c) ∧ tsm (pz st c) ≤ 10000000) (h9 : F 35 9 = 0 ∨ F 35 9 = 1) : Meets G mX9_openTimes [.ref 35, .ref 28] (sw F A) (fun r w => ∃ F1 A1, r = none ∧ w = sw F1 A1 ∧ frV F F1 A A1 ∧ otK F F1 A1 c st (if 3 ≤ st.length then .inl (3, q) else tiO (A 29) n (q + 5))) := by
  have hn1 := hT.1
  have h3 := h.n
  have h4 := h.t
  have h8 := h.d
  have hdl := h.dl
  refine L_ent [some (.ref 35), some (.ref 28)] rfl ?_
  generalize hQ : (fun (r : Option Value) (w : wT) => ∃ F1 A1, r = none ∧ w = sw F1 A1 ∧ frV F F1 A A1 ∧ otK F F1 A1 c st (if 3 ≤ st.length then .inl (3, q) else tiO (A 29) n (q + 5))) = Q
  refine L_aload_n eX9_openTimes_0 rfl ?_
  refine L_get eX9_openTimes_1 f_X9_37.g rfl rfl ?_
  refine V_iconst eX9_openTimes_4 ?_
  -- at 5: .if_icmp .lt 13
  refine V_icmplt eX9_openTimes_5 (fun h2 => ?_) (fun h2 => ?_)
  rotate_left
  · refine L_aload_n eX9_openTimes_8 rfl ?_
    refine V_iconst eX9_openTimes_9 ?_
    refine L_aload_n eX9_openTimes_10 rfl ?_
    refine L_get eX9_openTimes_11 f_X9_110.g rfl rfl ?_
    rw [ha]
    refine C_v0 (p_X7_blame hk) v_X9_64 eX9_openTimes_14 rfl rfl ?_
    refine V_return eX9_openTimes_17 ?_
    rw [← hQ]
    refine ⟨_, A, rfl, rfl, ⟨fun o k x _ => by rw [uF_ne (by omega), uF_ne (by omega)], fun _ _ => rfl⟩, ?_⟩
    rw [if_pos (by omega)]
    have w1 : wyK (uF (uF F 28 4 3) 28 5 q) A (pz st c) st := h.fr (by rw [uF_ne (by decide), uF_ne (by decide)]) (by rw [uF_ne (by decide), uF_ne (by decide)]) (by rw [uF_ne (by decide), uF_ne (by decide)]) (fun _ _ _ => rfl)
    exact ⟨w1.wf (by omega) (by rw [uF_ne (by decide), uF_ne (by decide)]; exact h9), by rw [uF_ne (by decide), uF_eq], uF_eq, by show (1 : Int) ≤ 3; decide, by show (3 : Int) ≤ 9; decide⟩
  rw [if_neg (show ¬ 3 ≤ st.length by omega)] at hQ
  have hW := c_needWord (F := F) (j := 6) hT hn ha hab (by decide) hk
  rw [hs] at hW
  have hwl := wm_le (by decide) hab w6
  have e6 : (sLn.getD 6 0 : Int) = 5 := rfl
  rw [e6] at hW hwl
  refine L_aload_n eX9_openTimes_18 rfl ?_
  refine V_ldcS (j := 6) (List.mem_of_getElem? (i := 6) rfl) eX9_openTimes_19 ?_
  refine C_v0 (hW.1 w6 G) v_X9_118 eX9_openTimes_21 rfl rfl ?_
  obtain ⟨F1, eF1⟩ : ∃ F1, F1 = uF F 28 2 (q + 5) := ⟨_, rfl⟩
  rw [← eF1]
  have f1 : fr28 F F1 := fun o k x => by rw [eF1, uF_ne (by omega)]
  obtain ⟨F2, v, hM, f2, b2, n2, vb, k2⟩ := c_needNumber (F := F1) (lo := 2) (hi := 9) hT (by rw [f1 28 1 (by decide)]; exact hn) (show F1 28 2 = q + 5 by rw [eF1, uF_eq]) (by omega) (by rw [eF1, uF_ne (by decide)]; exact hk) (by omega) (by omega)
  have f2' := f1.tr f2
  have m8 : F1 35 8 = st.length := by rw [f1 35 8 (by decide)]; exact h8
  refine L_aload_n eX9_openTimes_24 rfl ?_
  refine L_getR (r := 39) eX9_openTimes_25 f_X9_28.g rfl rfl (by decide) ?_
  refine L_aload_n eX9_openTimes_28 rfl ?_
  refine L_get eX9_openTimes_29 f_X9_37.g rfl rfl ?_
  refine L_aload_n eX9_openTimes_32 rfl ?_
  refine V_iconst eX9_openTimes_33 ?_
  refine L_bipush eX9_openTimes_34 rfl ?_
  refine C_v1 (hM G) v_X9_87 eX9_openTimes_36 rfl rfl ?_
  refine L_iast eX9_openTimes_39 rfl ?_
  refine L_aload_n eX9_openTimes_40 rfl ?_
  refine L_bipush eX9_openTimes_41 rfl ?_
  rw [m8]
  obtain ⟨A2, eA2⟩ : ∃ A2, A2 = sA A 39 (uI (A 39) st.length v) := ⟨_, rfl⟩
  rw [← eA2]
  have a2 : ∀ o, o ≠ 39 → A2 o = A o := fun o x => by rw [eA2, sA_ne x]
  have fa2 : frV F F2 A A2 := ⟨fun o k x _ => f2' o k x, fun o x => a2 o (by omega)⟩
  have g3 : ∀ F3 : fT, fr28 F F3 → F3 35 3 = (min 60 (pz st c).length : Nat) := fun F3 f => by rw [f 35 3 (by decide)]; exact h3
  have g4 : ∀ F3 : fT, fr28 F F3 → F3 35 4 = tsm (pz st c) := fun F3 f => by rw [f 35 4 (by decide)]; exact h4
  have g8 : ∀ F3 : fT, fr28 F F3 → F3 35 8 = st.length := fun F3 f => by rw [f 35 8 (by decide)]; exact h8
  -- the end of it
  have fin : ∀ F3 : fT, fr28 F F3 → (otK F (uF (uF F3 35 8 (F3 35 8 + 1)) 35 9 0) (sA (sA A2 40 (uI (A2 40) (F3 35 8) (F3 35 3))) 41 (uI (A2 41) (F3 35 8) (F3 35 4))) c st (tiO (A 29) n (q + 5))) → V G mX9_openTimes Q 0 0 46 [some (.ref 35), some (.ref 28)] [] (sw F3 A2) := fun F3 f o => by
    refine ot46 (by rw [g8 F3 f]; omega) ?_
    rw [← hQ]
    exact ⟨_, _, rfl, rfl, ⟨fun o k x y => by rw [uF_ne (by omega), uF_ne (by omega)]; exact f o k x, fun o x => by rw [sA_ne (by omega), sA_ne (by omega)]; exact a2 o (by omega)⟩, o⟩
  have fbad : ∀ (F3 : fT) (k p : Int), fr28 F F3 → F3 28 4 = k → F3 28 5 = p → (1 ≤ k ∧ k ≤ 9) → tiO (A 29) n (q + 5) = .inl (k, p) → V G mX9_openTimes Q 0 0 46 [some (.ref 35), some (.ref 28)] [] (sw F3 A2) := fun F3 k p f e4 e5 kb e => by
    refine fin F3 f ?_
    rw [e]
    have i3 := g3 F3 f
    have i4 := g4 F3 f
    have i8 := g8 F3 f
    refine ⟨⟨?_, ?_, ?_, Or.inl uF_eq⟩, ?_, ?_, kb⟩
    · rw [uF_ne (by decide), uF_ne (by decide)]; omega
    · rw [uF_ne (by decide), uF_ne (by decide)]; omega
    · rw [uF_ne (by decide), uF_eq]; omega
    · rw [uF_ne (by decide), uF_ne (by decide)]; exact e4
    · rw [uF_ne (by decide), uF_ne (by decide)]; exact e5
  rcases nm_k k2 with ⟨a3, o2, y2, y4, y5⟩ | ⟨k, p, o2, kb, y4, y5⟩
  rotate_left
  · refine C_v0 (c_needSign_f (by omega) (by omega) G) v_X9_92 eX9_openTimes_43 rfl rfl ?_
    refine fbad F2 k p f2' y4 y5 (by omega) ?_
    unfold tiO
    rw [o2]
    rfl
  have ok2 := nm_ok hT (by omega) o2
  have e29 : A2 29 = A 29 := a2 29 (by decide)
  have hS := c_needSign (F := F2) (A := A2) (s := 40) (a := a3) (by omega) (by rw [e29]; exact hT) (by rw [f2' 28 1 (by decide)]; exact hn) y2 (by omega) y4
  rw [e29] at hS
  have et : tiO (A 29) n (q + 5) = bO' (sgO (A 29) n 40 a3) fun a5 => .inr (v, a5) := by
    unfold tiO
    rw [o2, bO_r]
  by_cases c4 : chA (A 29) n (skp (A 29) n a3) = 40
  · obtain ⟨og, hg2, hg3⟩ := sg_ok (s := 40) (by omega) hT (show 0 ≤ a3 ∧ a3 ≤ n by omega) c4
    refine C_v0 (hS.1 c4 G) v_X9_92 eX9_openTimes_43 rfl rfl ?_
    have f3 : fr28 F (uF F2 28 2 (skp (A 29) n a3 + 1)) := f2'.tr (fun o k x => by rw [uF_ne (by omega)])
    refine fin _ f3 ?_
    rw [et, og]
    have i3 := g3 _ f3
    have i4 := g4 _ f3
    have i8 := g8 _ f3
    rw [i8, i3, i4]
    refine ⟨wyK.mk ?_ ?_ ?_ ?_ ?_ ?_, ?_, ?_, ?_, uF_eq⟩
    · rw [uF_ne (by decide), uF_ne (by decide)]; exact i3
    · rw [uF_ne (by decide), uF_ne (by decide)]; exact i4
    · rw [uF_ne (by decide), uF_eq, List.length_cons]; omega
    · rw [List.length_cons]; omega
    · refine ⟨⟨?_, ?_, ?_⟩, by show 2 ≤ v ∧ v ≤ 9; omega, ?_⟩
      · rw [sA_ne (by decide), sA_ne (by decide), eA2, sA_eq, uI_eq]
      · rw [sA_ne (by decide), sA_eq, uI_eq]
      · rw [sA_eq, uI_eq]
      · have hst := h.st'
        rw [eA2]
        exact stK_open st st.length v _ _ (Nat.le_refl _) hst
    · have hr := h.s
      unfold rwK at hr ⊢
      rw [sA_ne (by decide), sA_ne (by decide), a2 36 (by decide), sA_ne (by decide), sA_ne (by decide), a2 37 (by decide), sA_ne (by decide), sA_ne (by decide), a2 38 (by decide)]
      exact hr
    · rw [uF_ne (by decide), uF_ne (by decide), uF_ne (by decide)]; exact y4
    · rw [uF_ne (by decide), uF_ne (by decide), uF_ne (by decide), y5, eF1, uF_ne (by decide)]
    · rw [uF_ne (by decide), uF_ne (by decide), uF_eq]
  · refine C_v0 (hS.2 c4 G) v_X9_92 eX9_openTimes_43 rfl rfl ?_
    refine fbad _ 1 (skp (A 29) n a3) (f2'.tr (fun o k x => by rw [uF_ne (by omega), uF_ne (by omega), uF_ne (by omega)])) (by rw [uF_ne (by decide), uF_eq]) uF_eq (by omega) ?_
    rw [et, sg_no c4]
    rfl
end P99f

