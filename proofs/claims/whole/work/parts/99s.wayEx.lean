/-! WAYS: what is run of the ops, in order -/
def rpO (c : List opT) (k : Nat) : List opT := (List.replicate k c).flatten
theorem rpO_s {c : List opT} {k : Nat} : rpO c (k + 1) = c ++ rpO c k := by
  unfold rpO
  rw [List.replicate_succ, List.flatten_cons]
def exT : List opT → List opT × List (List opT)
  | [] => ([], [])
  | o :: X => if o.1 = 2 then (o :: (rpO (exT X).1 o.2.2.2.toNat ++ (exT X).2.headD []), (exT X).2.tail) else if o.1 = 3 then ([o], (exT X).1 :: (exT X).2) else (o :: (exT X).1, (exT X).2)
theorem exT_two {o : opT} {X : List opT} (h : o.1 = 2) : exT (o :: X) = (o :: (rpO (exT X).1 o.2.2.2.toNat ++ (exT X).2.headD []), (exT X).2.tail) := by
  rw [exT, if_pos h]
theorem exT_thr {o : opT} {X : List opT} (h : o.1 = 3) : exT (o :: X) = ([o], (exT X).1 :: (exT X).2) := by
  rw [exT, if_neg (by omega), if_pos h]
theorem exT_one {o : opT} {X : List opT} (h2 : o.1 ≠ 2) (h3 : o.1 ≠ 3) : exT (o :: X) = (o :: (exT X).1, (exT X).2) := by
  rw [exT, if_neg h2, if_neg h3]
def baT : Nat → List opT → Prop
  | d, [] => d = 0
  | d, o :: X => (opK o ∧ (o.1 = 3 → 0 < d) ∧ d ≤ 3 ∧ dpO d o ≤ 3) ∧ baT (dpO d o) X
theorem dpO_two {d : Nat} {o : opT} (h : o.1 = 2) : dpO d o = d + 1 := by
  unfold dpO
  rw [if_pos h]
theorem dpO_thr {d : Nat} {o : opT} (h : o.1 = 3) : dpO d o = d - 1 := by
  unfold dpO
  rw [if_neg (by omega), if_pos h]
theorem dpO_one {d : Nat} {o : opT} (h2 : o.1 ≠ 2) (h3 : o.1 ≠ 3) : dpO d o = d := by
  unfold dpO
  rw [if_neg h2, if_neg h3]
theorem ba_len : ∀ (X : List opT) (d : Nat), baT d X → (exT X).2.length = d := by
  intro X
  induction X with
  | nil => intro d h; exact h.symm
  | cons o X ih =>
    intro d h
    have h' := ih _ h.2
    by_cases c2 : o.1 = 2
    · rw [dpO_two c2] at h'
      rw [exT_two c2]
      show (exT X).2.tail.length = d
      rw [List.length_tail, h']
      rfl
    · by_cases c3 : o.1 = 3
      · have := h.1.2.1 c3
        rw [dpO_thr c3] at h'
        rw [exT_thr c3]
        show ((exT X).1 :: (exT X).2).length = d
        rw [List.length_cons, h']
        omega
      · rw [dpO_one c2 c3] at h'
        rw [exT_one c2 c3]
        exact h'
theorem ba_drop : ∀ (k : Nat) (X : List opT) (d : Nat), baT d X → ∃ d', baT d' (X.drop k) := by
  intro k
  induction k with
  | zero => intro X d h; exact ⟨d, h⟩
  | succ k ih =>
    intro X d h
    cases X with
    | nil => exact ⟨d, h⟩
    | cons o X => exact ih X _ h.2
def stpT : List opT → lwT
  | [] => []
  | o :: X => if o.1 = 2 ∨ o.1 = 3 then stpT X else o.2 :: stpT X
theorem stp_no {o : opT} {X : List opT} (h : o.1 = 2 ∨ o.1 = 3) : stpT (o :: X) = stpT X := by
  rw [stpT, if_pos h]
theorem stp_yes {o : opT} {X : List opT} (h : ¬ (o.1 = 2 ∨ o.1 = 3)) : stpT (o :: X) = o.2 :: stpT X := by
  rw [stpT, if_neg h]
theorem stp_app {X Y : List opT} : stpT (X ++ Y) = stpT X ++ stpT Y := by
  induction X with
  | nil => rfl
  | cons o X ih =>
    rw [List.cons_append]
    by_cases c : o.1 = 2 ∨ o.1 = 3
    · rw [stp_no c, stp_no c]; exact ih
    · rw [stp_yes c, stp_yes c, ih]; rfl
theorem stp_rp {X : List opT} : ∀ k : Nat, stpT (rpO X k) = rpt (stpT X) k := by
  intro k
  induction k with
  | zero => rfl
  | succ k ih => rw [rpO_s, rpt_s, stp_app, ih]
def glT : List (List opT) → lwT → lwT → skT → lwT
  | c1 :: st, cur, c, (m, p) :: sk => glT st (stpT c1) (p ++ rpt (c ++ cur) m.toNat) sk
  | [], cur, c, _ => c ++ cur
  | _ :: _, cur, c, [] => c ++ cur
theorem gl_app {st : List (List opT)} {x cur c : lwT} {sk : skT} : glT st (x ++ cur) c sk = glT st cur (c ++ x) sk := by
  cases st with
  | nil => show c ++ (x ++ cur) = c ++ x ++ cur; rw [List.append_assoc]
  | cons c1 st =>
    cases sk with
    | nil => show c ++ (x ++ cur) = c ++ x ++ cur; rw [List.append_assoc]
    | cons e sk =>
      show glT st (stpT c1) (e.2 ++ rpt (c ++ (x ++ cur)) e.1.toNat) sk = glT st (stpT c1) (e.2 ++ rpt (c ++ x ++ cur) e.1.toNat) sk
      rw [List.append_assoc]
theorem gl_ex : ∀ (X : List opT) (d : Nat) (c : lwT) (sk : skT), baT d X → sk.length = d → (X.foldl smS (c, sk)).1 = glT (exT X).2 (stpT (exT X).1) c sk := by
  intro X
  induction X with
  | nil =>
    intro d c sk h hl
    show c = c ++ []
    rw [List.append_nil]
  | cons o X ih =>
    intro d c sk h hl
    have hb := h.2
    have hL := ba_len X _ hb
    rw [List.foldl_cons]
    by_cases c2 : o.1 = 2
    · rw [dpO_two c2] at hb hL
      rw [sm_two c2, ih _ _ _ hb (by rw [List.length_cons, hl]), exT_two c2]
      cases e : (exT X).2 with
      | nil => rw [e] at hL; exact absurd hL (by simp)
      | cons c1 st =>
        show glT st (stpT c1) (c ++ rpt ([] ++ stpT (exT X).1) o.2.2.2.toNat) sk = glT st (stpT (o :: (rpO (exT X).1 o.2.2.2.toNat ++ c1))) c sk
        rw [stp_no (Or.inl c2), stp_app, stp_rp, gl_app, List.nil_append]
    · by_cases c3 : o.1 = 3
      · have h0 := h.1.2.1 c3
        rw [dpO_thr c3] at hb hL
        cases sk with
        | nil => exact absurd hl (by show ¬ 0 = d; omega)
        | cons e sk =>
          obtain ⟨m, p⟩ := e
          rw [sm_thr c3, ih _ _ _ hb (by rw [List.length_cons] at hl; omega), exT_thr c3]
          show _ = glT (exT X).2 (stpT (exT X).1) (p ++ rpt (c ++ stpT [o]) m.toNat) sk
          rw [stp_no (Or.inr c3)]
          show _ = glT (exT X).2 (stpT (exT X).1) (p ++ rpt (c ++ []) m.toNat) sk
          rw [List.append_nil]
      · rw [dpO_one c2 c3] at hb hL
        rw [sm_one c2 c3, ih _ _ _ hb hl, exT_one c2 c3]
        show _ = glT (exT X).2 (stpT (o :: (exT X).1)) c sk
        rw [stp_yes (by omega)]
        exact (gl_app (x := [o.2])).symm
theorem sm_ex {O : List opT} (h : baT 0 O) : (O.foldl smS ([], [])).1 = stpT (exT O).1 := by
  rw [gl_ex O 0 [] [] h rfl]
  have := ba_len O 0 h
  rw [List.eq_nil_of_length_eq_zero this]
  rfl
/-- what is still to be run behind the end of the innermost loop -/
def wkT (O : List opT) : List (List opT) → List (Nat × Int) → List opT
  | c :: st, (a, l) :: ls => rpO (exT (O.drop (a + 1))).1 (l - 1).toNat ++ (c ++ wkT O st ls)
  | [], _ => []
  | _ :: _, [] => []
def lkT (O : List opT) : List (List opT) → List (Nat × Int) → Prop
  | c :: st, (a, l) :: ls => ((exT (O.drop (a + 1))).2 = c :: st ∧ (1 ≤ l ∧ l ≤ 9) ∧ a < O.length) ∧ lkT O st ls
  | [], [] => True
  | [], _ :: _ => False
  | _ :: _, [] => False
theorem lk_len {O : List opT} : ∀ (st : List (List opT)) (ls : List (Nat × Int)), lkT O st ls → ls.length = st.length := by
  intro st
  induction st with
  | nil => intro ls h; cases ls with
    | nil => rfl
    | cons e ls => exact absurd h (by simp [lkT])
  | cons c st ih => intro ls h; cases ls with
    | nil => exact absurd h (by simp [lkT])
    | cons e ls =>
      rw [List.length_cons, List.length_cons, ih ls h.2]
/-- what is read is well nested -/
theorem wy_ba {T : Int → Int} {n : Int} (hT : txT n T) : ∀ (r deep : Nat) (needs : Bool) (O O' : List opT) (a : Int), (0 ≤ a ∧ a ≤ n) → deep ≤ 3 → 4 * (O.length : Int) + 3 * (deep : Int) ≤ a → wyO T n r deep needs O a = .inr O' → ∃ X, O' = O ++ X ∧ baT deep X ∧ 4 * (O'.length : Int) ≤ n := by
  intro r
  induction r with
  | zero => intro deep needs O O' a _ _ _ e; exact absurd e (by simp [wyO])
  | succ r ih =>
    intro deep needs O O' a ha hd hl e
    have hsk : a ≤ skp T n a ∧ skp T n a ≤ n := rn_ge ha.2
    by_cases c : skp T n a < n
    · rw [wyO_s c] at e
      cases hp : ptO T n deep needs (skp T n a) with
      | inl e' => rw [hp] at e; exact absurd e (by simp [bO'])
      | inr x =>
        rw [hp, bO_r] at e
        have ok := pt_ok hT (by omega) hd hp
        obtain ⟨X, e1, e2, e3⟩ := ih _ _ _ _ _ (by omega) ok.2.2.2.2.1 (by rw [List.length_append]; show 4 * ((O.length + 1 : Nat) : Int) + _ ≤ _; omega) e
        refine ⟨x.1 :: X, by rw [e1, List.append_assoc]; rfl, ⟨⟨ok.1, ok.2.2.2.2.2, hd, ok.2.2.2.2.1⟩, e2⟩, e3⟩
    · rw [wyO_e c] at e
      by_cases c2 : 0 < deep ∨ needs = true
      · rw [if_pos c2] at e; exact absurd e (by simp)
      · rw [if_neg c2] at e
        have := Sum.inr.inj e
        subst this
        exact ⟨[], by simp, by show deep = 0; omega, by omega⟩
theorem ba_smB : ∀ (X : List opT) (d : Nat) (s : lwT × skT), baT d X → s.2.length = d → smB s → smB (X.foldl smS s) := by
  intro X
  induction X with
  | nil => intro d s _ _ h; exact h
  | cons o X ih =>
    intro d s h hl hs
    obtain ⟨c, sk⟩ := s
    rw [List.foldl_cons]
    have hl' : sk.length = d := hl
    refine ih _ _ h.2 ?_ (smB_step hs h.1.1 (fun e => by rw [hl']; exact h.1.2.1 e))
    by_cases c2 : o.1 = 2
    · rw [sm_two c2, dpO_two c2]
      show ((o.2.2.2, c) :: sk).length = d + 1
      rw [List.length_cons, hl']
    · by_cases c3 : o.1 = 3
      · have h0 := h.1.2.1 c3
        cases sk with
        | nil => exact absurd hl' (by show ¬ 0 = d; omega)
        | cons e sk =>
          obtain ⟨m, p⟩ := e
          rw [sm_thr c3, dpO_thr c3]
          show sk.length = d - 1
          rw [List.length_cons] at hl'
          omega
      · rw [sm_one c2 c3, dpO_one c2 c3]
        exact hl'

