/-! WAYS told in a text: what the class holds while it reads -/
abbrev lwT : Type := List stT'
theorem pz_app {st : skT} {p x : lwT} : pz st (p ++ x) = pz st p ++ x := by
  cases st with
  | nil => rfl
  | cons y st => show pz st y.2 ++ (p ++ x) = pz st y.2 ++ p ++ x; rw [List.append_assoc]
theorem tsm_app {p x : lwT} : tsm (p ++ x) = tsm p + tsm x := by
  unfold tsm
  rw [List.map_append, List.sum_append]
theorem tsm_one {x : stT'} : tsm [x] = x.2.2 := by
  unfold tsm
  simp
def rpt (c : lwT) (k : Nat) : lwT := (List.replicate k c).flatten
theorem rpt_s {c : lwT} {k : Nat} : rpt c (k + 1) = c ++ rpt c k := by
  unfold rpt
  rw [List.replicate_succ, List.flatten_cons]
theorem rpt_e {c : lwT} {k : Nat} : rpt c (k + 1) = rpt c k ++ c := by
  unfold rpt
  rw [List.replicate_succ', List.flatten_append]
  simp
theorem rpt_len {c : lwT} : ∀ k : Nat, (rpt c k).length = k * c.length := by
  intro k
  induction k with
  | zero => simp [rpt]
  | succ k ih => rw [rpt_s, List.length_append, ih, Nat.succ_mul, Nat.add_comm]
theorem rpt_tsm {c : lwT} : ∀ k : Nat, tsm (rpt c k) = k * tsm c := by
  intro k
  induction k with
  | zero => simp [rpt, tsm]
  | succ k ih => rw [rpt_s, tsm_app, ih]; push_cast; rw [Int.add_mul]; omega
theorem rpt_per {c : lwT} {k i : Nat} (hi : i < k * c.length) : (rpt c (k + 1))[i + c.length]? = (rpt c (k + 1))[i]? := by
  have e1 : (rpt c (k + 1))[i + c.length]? = (rpt c k)[i]? := by
    rw [rpt_s, List.getElem?_append_right (by omega), Nat.add_sub_cancel]
  have e2 : (rpt c (k + 1))[i]? = (rpt c k)[i]? := by
    rw [rpt_e, List.getElem?_append_left (by rw [rpt_len]; exact hi)]
  rw [e1, e2]
/-- the rows of a list of steps, as far as they are kept -/
def rwK (A : nT) (n : Nat) (L : lwT) : Prop := ∀ (i : Nat) (x : stT'), i < n → L[i]? = some x → A 36 i = x.1 ∧ A 37 i = x.2.1 ∧ A 38 i = x.2.2
def stK (A : nT) : skT → Prop
  | [] => True
  | (m, p) :: st => (A 39 st.length = m ∧ A 40 st.length = (min 60 (pz st p).length : Nat) ∧ A 41 st.length = tsm (pz st p)) ∧ (2 ≤ m ∧ m ≤ 9) ∧ stK A st
theorem stK.fr {A A1 : nT} (e : ∀ o, 39 ≤ o → o ≤ 41 → A1 o = A o) : ∀ st : skT, stK A st → stK A1 st := by
  intro st
  induction st with
  | nil => intro _; trivial
  | cons y st ih =>
    intro h
    have h' : (A 39 st.length = y.1 ∧ A 40 st.length = (min 60 (pz st y.2).length : Nat) ∧ A 41 st.length = tsm (pz st y.2)) ∧ (2 ≤ y.1 ∧ y.1 ≤ 9) ∧ stK A st := h
    show (A1 39 st.length = y.1 ∧ A1 40 st.length = (min 60 (pz st y.2).length : Nat) ∧ A1 41 st.length = tsm (pz st y.2)) ∧ (2 ≤ y.1 ∧ y.1 ≤ 9) ∧ stK A1 st
    rw [e 39 (by decide) (by decide), e 40 (by decide) (by decide), e 41 (by decide) (by decide)]
    exact ⟨h'.1, h'.2.1, ih h'.2.2⟩
def wyK (F : fT) (A : nT) (L : lwT) (st : skT) : Prop := (F 35 3 = (min 60 L.length : Nat)) ∧ (F 35 4 = tsm L) ∧ (F 35 8 = st.length) ∧ (st.length ≤ 3) ∧ (stK A st) ∧ (rwK A 60 L)
theorem wyK.n {F : fT} {A : nT} {L : lwT} {st : skT} (h : wyK F A L st) : F 35 3 = (min 60 L.length : Nat) := h.1
theorem wyK.t {F : fT} {A : nT} {L : lwT} {st : skT} (h : wyK F A L st) : F 35 4 = tsm L := h.2.1
theorem wyK.d {F : fT} {A : nT} {L : lwT} {st : skT} (h : wyK F A L st) : F 35 8 = st.length := h.2.2.1
theorem wyK.dl {F : fT} {A : nT} {L : lwT} {st : skT} (h : wyK F A L st) : st.length ≤ 3 := h.2.2.2.1
theorem wyK.st' {F : fT} {A : nT} {L : lwT} {st : skT} (h : wyK F A L st) : stK A st := h.2.2.2.2.1
theorem wyK.s {F : fT} {A : nT} {L : lwT} {st : skT} (h : wyK F A L st) : rwK A 60 L := h.2.2.2.2.2
theorem wyK.mk {F : fT} {A : nT} {L : lwT} {st : skT} (qn : F 35 3 = (min 60 L.length : Nat)) (qt : F 35 4 = tsm L) (qd : F 35 8 = st.length) (qdl : st.length ≤ 3) (qst' : stK A st) (qs : rwK A 60 L) : wyK F A L st := ⟨qn, qt, qd, qdl, qst', qs⟩
def frV (F F1 : fT) (A A1 : nT) : Prop := (∀ o k, (o ≠ 28 ∨ k < 2 ∨ 5 < k) → o ≠ 35 → F1 o k = F o k) ∧ ∀ o, o < 36 ∨ 41 < o → A1 o = A o
theorem frV.of {F F1 : fT} {A : nT} (h : fr28 F F1) : frV F F1 A A := ⟨fun o k a _ => h o k a, fun _ _ => rfl⟩
theorem frV.tr {F F1 F2 : fT} {A A1 A2 : nT} (h : frV F F1 A A1) (g : frV F1 F2 A1 A2) : frV F F2 A A2 := ⟨fun o k x y => by rw [g.1 o k x y]; exact h.1 o k x y, fun o x => by rw [g.2 o x]; exact h.2 o x⟩
theorem wyK.fr {F F1 : fT} {A A1 : nT} {L : lwT} {st : skT} (h : wyK F A L st) (e3 : F1 35 3 = F 35 3) (e4 : F1 35 4 = F 35 4) (e8 : F1 35 8 = F 35 8) (a : ∀ o, 36 ≤ o → o ≤ 41 → A1 o = A o) : wyK F1 A1 L st := by
  refine wyK.mk (by rw [e3]; exact h.n) (by rw [e4]; exact h.t) (by rw [e8]; exact h.d) h.dl (stK.fr (fun o x y => a o (by omega) y) st h.st') ?_
  have := h.s
  unfold rwK at this ⊢
  rw [a 36 (by decide) (by decide), a 37 (by decide) (by decide), a 38 (by decide) (by decide)]
  exact this
section P99c
variable {F : fT} {A : nT} {L : lwT} {st : skT}
theorem rwK.add {x : stT'} {n : Nat} (h : rwK A n L) (hn : L.length < n) : rwK (sA (sA (sA A 36 (uI (A 36) L.length x.1)) 37 (uI (A 37) L.length x.2.1)) 38 (uI (A 38) L.length x.2.2)) n (L ++ [x]) := by
  intro i y hi e
  rw [sA_ne (by decide), sA_ne (by decide), sA_eq, sA_ne (by decide), sA_eq, sA_eq]
  by_cases c : i < L.length
  · rw [List.getElem?_append_left c] at e
    have := h i y hi e
    have cne : (i : Int) ≠ L.length := by omega
    rw [uI_ne cne, uI_ne cne, uI_ne cne]
    exact this
  · rw [List.getElem?_append_right (by omega)] at e
    by_cases c2 : i = L.length
    · subst c2
      rw [Nat.sub_self] at e
      have := Option.some.inj e
      subst this
      rw [uI_eq, uI_eq, uI_eq]
      exact ⟨rfl, rfl, rfl⟩
    · rw [List.getElem?_eq_none (by show 1 ≤ _; omega)] at e
      exact absurd e (by simp)
theorem c_addStep {G : gT} {x y t : Int} (h : wyK F A L st) : Meets G mX9_addStep [.ref 35, vi x, vi y, vi t] (sw F A) (fun r w => ∃ F1 A1, r = none ∧ w = sw F1 A1 ∧ frV F F1 A A1 ∧ wyK F1 A1 (L ++ [(x, y, t)]) st ∧ F1 35 9 = 1 ∧ ∀ k, F1 28 k = F 28 k) := by
  have hn := h.n
  have ht := h.t
  have hs := h.s
  refine L_ent [some (.ref 35), some (vi x), some (vi y), some (vi t)] rfl ?_
  refine L_aload_n eX9_addStep_0 rfl ?_
  refine L_dup eX9_addStep_1 ?_
  refine L_get eX9_addStep_2 f_X9_25.g rfl rfl ?_
  refine L_iload_n eX9_addStep_5 rfl ?_
  refine V_iadd eX9_addStep_6 ?_
  refine L_put eX9_addStep_7 f_X9_25 rfl rfl ?_
  refine L_aload_n eX9_addStep_10 rfl ?_
  refine V_iconst eX9_addStep_11 ?_
  refine L_putZ eX9_addStep_12 f_X9_40 rfl rfl ?_
  obtain ⟨F1, eF1⟩ : ∃ F1, F1 = uF (uF F 35 4 (F 35 4 + t)) 35 9 1 := ⟨_, rfl⟩
  rw [← eF1]
  have m3 : F1 35 3 = F 35 3 := by rw [eF1, uF_ne (by decide), uF_ne (by decide)]
  have m4 : F1 35 4 = F 35 4 + t := by rw [eF1, uF_ne (by decide), uF_eq]
  have m8 : F1 35 8 = F 35 8 := by rw [eF1, uF_ne (by decide), uF_ne (by decide)]
  have m9 : F1 35 9 = 1 := by rw [eF1, uF_eq]
  have mo : ∀ o k, o ≠ 35 → F1 o k = F o k := fun o k q => by rw [eF1, uF_ne (by omega), uF_ne (by omega)]
  have et : F1 35 4 = tsm (L ++ [(x, y, t)]) := by rw [m4, ht, tsm_app, tsm_one]
  have len : (L ++ [(x, y, t)]).length = L.length + 1 := by rw [List.length_append]; rfl
  refine L_aload_n eX9_addStep_15 rfl ?_
  refine L_get eX9_addStep_16 f_X9_21.g rfl rfl ?_
  refine L_bipush eX9_addStep_19 rfl ?_
  -- at 21: .if_icmp .ge 43
  refine V_icmpge eX9_addStep_21 (fun h2 => ?_) (fun h2 => ?_)
  · refine V_return eX9_addStep_64 ?_
    refine ⟨F1, A, rfl, rfl, ⟨fun o k _ q => mo o k q, fun _ _ => rfl⟩, wyK.mk ?_ et (by rw [m8]; exact h.d) h.dl h.st' ?_, m9, fun k => mo 28 k (by decide)⟩
    · rw [m3, hn, len]; omega
    · intro i z hi e
      rw [List.getElem?_append_left (by omega)] at e
      exact hs i z hi e
  · have e3 : F1 35 3 = (L.length : Int) := by omega
    refine L_aload_n eX9_addStep_24 rfl ?_
    refine L_getR (r := 36) eX9_addStep_25 f_X9_9.g rfl rfl (by decide) ?_
    refine L_aload_n eX9_addStep_28 rfl ?_
    refine L_get eX9_addStep_29 f_X9_21.g rfl rfl ?_
    refine L_iload_n eX9_addStep_32 rfl ?_
    refine L_iast eX9_addStep_33 rfl ?_
    refine L_aload_n eX9_addStep_34 rfl ?_
    refine L_getR (r := 37) eX9_addStep_35 f_X9_15.g rfl rfl (by decide) ?_
    refine L_aload_n eX9_addStep_38 rfl ?_
    refine L_get eX9_addStep_39 f_X9_21.g rfl rfl ?_
    refine L_iload_n eX9_addStep_42 rfl ?_
    refine L_iast eX9_addStep_43 rfl ?_
    refine L_aload_n eX9_addStep_44 rfl ?_
    refine L_getR (r := 38) eX9_addStep_45 f_X9_18.g rfl rfl (by decide) ?_
    refine L_aload_n eX9_addStep_48 rfl ?_
    refine L_get eX9_addStep_49 f_X9_21.g rfl rfl ?_
    refine L_iload_n eX9_addStep_52 rfl ?_
    refine L_iast eX9_addStep_53 rfl ?_
    refine L_aload_n eX9_addStep_54 rfl ?_
    refine L_dup eX9_addStep_55 ?_
    refine L_get eX9_addStep_56 f_X9_21.g rfl rfl ?_
    refine V_iconst eX9_addStep_59 ?_
    refine V_iadd eX9_addStep_60 ?_
    refine L_put eX9_addStep_61 f_X9_21 rfl rfl ?_
    refine V_return eX9_addStep_64 ?_
    refine ⟨_, _, rfl, rfl, ⟨fun o k _ q => by rw [uF_ne (by omega)]; exact mo o k q, fun o q => by rw [sA_ne (by omega), sA_ne (by omega), sA_ne (by omega)]⟩, wyK.mk ?_ ?_ ?_ h.dl ?_ ?_, by rw [uF_ne (by decide)]; exact m9, fun k => by rw [uF_ne (by omega)]; exact mo 28 k (by decide)⟩
    · rw [uF_eq, len, e3]; omega
    · rw [uF_ne (by decide)]; exact et
    · rw [uF_ne (by decide), m8]; exact h.d
    · exact stK.fr (fun o a b => by rw [sA_ne (by omega), sA_ne (by omega), sA_ne (by omega)]) st h.st'
    · have := hs.add (x := (x, y, t)) (by omega)
      rw [e3]
      exact this
theorem p_X9_copyStep {G : gT} {j : Int} (hj : 0 ≤ j ∧ j < 60) (hn : 0 ≤ F 35 3 ∧ F 35 3 < 60) : Mu G mX9_copyStep [.ref 35, vi j] F A none (uF F 35 3 (F 35 3 + 1)) (sA (sA (sA A 36 (uI (A 36) (F 35 3) (A 36 j))) 37 (uI (A 37) (F 35 3) (A 37 j))) 38 (uI (A 38) (F 35 3) (A 38 j))) := by
  refine L_ent [some (.ref 35), some (vi j)] rfl ?_
  refine L_aload_n eX9_copyStep_0 rfl ?_
  refine L_getR (r := 36) eX9_copyStep_1 f_X9_9.g rfl rfl (by decide) ?_
  refine L_aload_n eX9_copyStep_4 rfl ?_
  refine L_get eX9_copyStep_5 f_X9_21.g rfl rfl ?_
  refine L_aload_n eX9_copyStep_8 rfl ?_
  refine L_getR (r := 36) eX9_copyStep_9 f_X9_9.g rfl rfl (by decide) ?_
  refine L_iload_n eX9_copyStep_12 rfl ?_
  refine L_iald eX9_copyStep_13 rfl ?_
  refine L_iast eX9_copyStep_14 rfl ?_
  refine L_aload_n eX9_copyStep_15 rfl ?_
  refine L_getR (r := 37) eX9_copyStep_16 f_X9_15.g rfl rfl (by decide) ?_
  refine L_aload_n eX9_copyStep_19 rfl ?_
  refine L_get eX9_copyStep_20 f_X9_21.g rfl rfl ?_
  refine L_aload_n eX9_copyStep_23 rfl ?_
  refine L_getR (r := 37) eX9_copyStep_24 f_X9_15.g rfl rfl (by decide) ?_
  refine L_iload_n eX9_copyStep_27 rfl ?_
  refine L_iald eX9_copyStep_28 rfl ?_
  refine L_iast eX9_copyStep_29 rfl ?_
  refine L_aload_n eX9_copyStep_30 rfl ?_
  refine L_getR (r := 38) eX9_copyStep_31 f_X9_18.g rfl rfl (by decide) ?_
  refine L_aload_n eX9_copyStep_34 rfl ?_
  refine L_get eX9_copyStep_35 f_X9_21.g rfl rfl ?_
  refine L_aload_n eX9_copyStep_38 rfl ?_
  refine L_getR (r := 38) eX9_copyStep_39 f_X9_18.g rfl rfl (by decide) ?_
  refine L_iload_n eX9_copyStep_42 rfl ?_
  refine L_iald eX9_copyStep_43 rfl ?_
  refine L_iast eX9_copyStep_44 rfl ?_
  refine L_aload_n eX9_copyStep_45 rfl ?_
  refine L_dup eX9_copyStep_46 ?_
  refine L_get eX9_copyStep_47 f_X9_21.g rfl rfl ?_
  refine V_iconst eX9_copyStep_50 ?_
  refine V_iadd eX9_copyStep_51 ?_
  refine L_put eX9_copyStep_52 f_X9_21 rfl rfl ?_
  exact V_return eX9_copyStep_55 ⟨rfl, rfl⟩
end P99c

