/-! WAYS told in a text: what is read -/
abbrev opT : Type := Int × Int × Int × Int
abbrev stT' : Type := Int × Int × Int
abbrev skT : Type := List (Int × List stT')
def smS (s : List stT' × skT) (o : opT) : List stT' × skT :=
  if o.1 = 2 then ([], (o.2.2.2, s.1) :: s.2) else if o.1 = 3 then (match s.2 with
    | [] => s
    | (m, p) :: st => (p ++ (List.replicate m.toNat s.1).flatten, st))
  else (s.1 ++ [(o.2.1, o.2.2.1, o.2.2.2)], s.2)
def pz : skT → List stT' → List stT'
  | [], c => c
  | (_, p) :: st, c => pz st p ++ c
def tsm (l : List stT') : Int := (l.map (fun s => s.2.2)).sum
/-- no more than this can come of it -/
def pu : skT → Int → Int
  | [], c => c
  | (_, p) :: st, c => pu st (tsm p + 9 * c)
noncomputable def goO (T : Int → Int) (n a : Int) : oT ((Int × Int × Int) × Int) :=
  bO' (nmO T n true (-999) 999 a) fun x => bO' (nmO T n true (-999) 999 x.2) fun y => bO' (wdO T n 7 y.2) fun a3 => bO' (nmO T n false 1 30 a3) fun z => bO' (sgO T n 59 z.2) fun a5 => .inr ((x.1, y.1, z.1), a5)
def hoO (T : Int → Int) (n a : Int) : oT (Int × Int) := bO' (nmO T n false 1 30 a) fun z => bO' (sgO T n 59 z.2) fun a5 => .inr (z.1, a5)
def tiO (T : Int → Int) (n a : Int) : oT (Int × Int) := bO' (nmO T n false 2 9 a) fun z => bO' (sgO T n 40 z.2) fun a5 => .inr (z.1, a5)
/-- one clause, or what opens or closes one: the op, whether a clause is needed then, and the place behind it -/
noncomputable def ptO (T : Int → Int) (n : Int) (deep : Nat) (needs : Bool) (q : Int) : oT (opT × Int) :=
  if needs = false ∧ 0 < deep ∧ chA T n q = 41 then .inr ((3, 0, 0, 0), q + 1) else
  (@ite _ (wm T n 4 q) (Classical.propDecidable _) (bO' (goO T n (q + 2)) fun x => .inr ((0, x.1), x.2))
  (@ite _ (wm T n 5 q) (Classical.propDecidable _) (bO' (hoO T n (q + 4)) fun x => .inr ((1, 0, 0, x.1), x.2))
  (@ite _ (wm T n 6 q) (Classical.propDecidable _) (if 3 ≤ deep then .inl (3, q) else bO' (tiO T n (q + 5)) fun x => .inr ((2, 0, 0, x.1), x.2)) (.inl (1, q)))))
def dpO (deep : Nat) (o : opT) : Nat := if o.1 = 2 then deep + 1 else if o.1 = 3 then deep - 1 else deep
noncomputable def wyO (T : Int → Int) (n : Int) : Nat → Nat → Bool → List opT → Int → oT (List opT)
  | 0, _, _, _, _ => .inl (1, 0)
  | r + 1, deep, needs, O, a => if skp T n a < n then bO' (ptO T n deep needs (skp T n a)) fun x => wyO T n r (dpO deep x.1) (decide (x.1.1 = 2)) (O ++ [x.1]) x.2
    else if 0 < deep ∨ needs = true then .inl (1, n) else .inr O
/-- an op as it can be read -/
def opK (o : opT) : Prop := (o.1 = 0 ∧ ab 999 o.2.1 ∧ ab 999 o.2.2.1 ∧ 1 ≤ o.2.2.2 ∧ o.2.2.2 ≤ 30) ∨ (o.1 = 1 ∧ o.2.1 = 0 ∧ o.2.2.1 = 0 ∧ 1 ≤ o.2.2.2 ∧ o.2.2.2 ≤ 30) ∨ (o.1 = 2 ∧ 2 ≤ o.2.2.2 ∧ o.2.2.2 ≤ 9) ∨ o.1 = 3
section P99
variable {T : Int → Int} {n a q : Int}
theorem go_ok {x : (Int × Int × Int) × Int} (hT : txT n T) (h : 0 ≤ a ∧ a ≤ n) (e : goO T n a = .inr x) : (ab 999 x.1.1 ∧ ab 999 x.1.2.1 ∧ 1 ≤ x.1.2.2 ∧ x.1.2.2 ≤ 30) ∧ a + 7 ≤ x.2 ∧ x.2 ≤ n := by
  unfold goO at e
  cases h1 : nmO T n true (-999) 999 a with
  | inl e' => rw [h1] at e; exact absurd e (by simp [bO'])
  | inr y =>
    rw [h1, bO_r] at e
    have ok1 := nm_ok hT h (v := y.1) (e := y.2) h1
    cases h2 : nmO T n true (-999) 999 y.2 with
    | inl e' => rw [h2] at e; exact absurd e (by simp [bO'])
    | inr z =>
      rw [h2, bO_r] at e
      have ok2 := nm_ok hT (by omega) (v := z.1) (e := z.2) h2
      by_cases w : wm T n 7 (skp T n z.2)
      · obtain ⟨ow, hw2, hw3⟩ := wd_ok (e := 0) (j := 7) (by decide) (show 0 ≤ z.2 ∧ z.2 ≤ n by omega) w
        have hs : z.2 ≤ skp T n z.2 ∧ skp T n z.2 ≤ n := rn_ge (by omega)
        have e3 : (sLn.getD 7 0 : Int) = 3 := rfl
        rw [e3] at ow hw2 hw3
        rw [ow, bO_r] at e
        cases h4 : nmO T n false 1 30 (skp T n z.2 + 3) with
        | inl e' => rw [h4] at e; exact absurd e (by simp [bO'])
        | inr u =>
          rw [h4, bO_r] at e
          have ok4 := nm_ok hT (by omega) (v := u.1) (e := u.2) h4
          by_cases c : chA T n (skp T n u.2) = 59
          · obtain ⟨og, hg2, hg3⟩ := sg_ok (s := 59) (by omega) hT (show 0 ≤ u.2 ∧ u.2 ≤ n by omega) c
            rw [og, bO_r] at e
            have := Sum.inr.inj e
            rw [← this]
            refine ⟨⟨?_, ?_, ok4.1.1, ok4.1.2⟩, ?_⟩
            · show ab 999 y.1
              unfold ab; omega
            · show ab 999 z.1
              unfold ab; omega
            · show a + 7 ≤ skp T n u.2 + 1 ∧ skp T n u.2 + 1 ≤ n
              omega
          · rw [sg_no c] at e
            exact absurd e (by simp [bO'])
      · rw [wd_no w] at e
        exact absurd e (by simp [bO'])
theorem ho_ok {x : Int × Int} (hT : txT n T) (h : 0 ≤ a ∧ a ≤ n) (e : hoO T n a = .inr x) : (1 ≤ x.1 ∧ x.1 ≤ 30) ∧ a + 2 ≤ x.2 ∧ x.2 ≤ n := by
  unfold hoO at e
  cases h1 : nmO T n false 1 30 a with
  | inl e' => rw [h1] at e; exact absurd e (by simp [bO'])
  | inr u =>
    rw [h1, bO_r] at e
    have ok4 := nm_ok hT h (v := u.1) (e := u.2) h1
    by_cases c : chA T n (skp T n u.2) = 59
    · obtain ⟨og, hg2, hg3⟩ := sg_ok (s := 59) (by omega) hT (show 0 ≤ u.2 ∧ u.2 ≤ n by omega) c
      rw [og, bO_r] at e
      have := Sum.inr.inj e
      rw [← this]
      refine ⟨ok4.1, ?_⟩
      show a + 2 ≤ skp T n u.2 + 1 ∧ skp T n u.2 + 1 ≤ n
      omega
    · rw [sg_no c] at e
      exact absurd e (by simp [bO'])
theorem ti_ok {x : Int × Int} (hT : txT n T) (h : 0 ≤ a ∧ a ≤ n) (e : tiO T n a = .inr x) : (2 ≤ x.1 ∧ x.1 ≤ 9) ∧ a + 2 ≤ x.2 ∧ x.2 ≤ n := by
  unfold tiO at e
  cases h1 : nmO T n false 2 9 a with
  | inl e' => rw [h1] at e; exact absurd e (by simp [bO'])
  | inr u =>
    rw [h1, bO_r] at e
    have ok4 := nm_ok hT h (v := u.1) (e := u.2) h1
    by_cases c : chA T n (skp T n u.2) = 40
    · obtain ⟨og, hg2, hg3⟩ := sg_ok (s := 40) (by omega) hT (show 0 ≤ u.2 ∧ u.2 ≤ n by omega) c
      rw [og, bO_r] at e
      have := Sum.inr.inj e
      rw [← this]
      refine ⟨ok4.1, ?_⟩
      show a + 2 ≤ skp T n u.2 + 1 ∧ skp T n u.2 + 1 ≤ n
      omega
    · rw [sg_no c] at e
      exact absurd e (by simp [bO'])
theorem wm_le {j : Nat} (hj : j < 8) (h : 0 ≤ q ∧ q ≤ n) (w : wm T n j q) : q + sLn.getD j 0 ≤ n := ((wm_i hj h).mp w).1
/-- what a part leaves -/
theorem pt_ok {deep : Nat} {needs : Bool} {x : opT × Int} (hT : txT n T) (h : 0 ≤ q ∧ q ≤ n) (hd : deep ≤ 3) (e : ptO T n deep needs q = .inr x) : opK x.1 ∧ (q + 4 + 3 * ((dpO deep x.1 : Nat) : Int) ≤ x.2 + 3 * (deep : Int)) ∧ x.2 ≤ n ∧ q < x.2 ∧ dpO deep x.1 ≤ 3 ∧ (x.1.1 = 3 → 0 < deep) := by
  unfold ptO at e
  by_cases c0 : needs = false ∧ 0 < deep ∧ chA T n q = 41
  · rw [if_pos c0] at e
    have := Sum.inr.inj e
    rw [← this]
    have hc := chA_b (q := q) hT h.1
    have hlt := hc.2.2 (by omega)
    have ed : dpO deep (3, 0, 0, 0) = deep - 1 := by
      unfold dpO
      rw [if_neg (show ¬ (3 : Int) = 2 by decide), if_pos rfl]
    refine ⟨Or.inr (Or.inr (Or.inr rfl)), ?_, ?_, ?_, ?_, fun _ => c0.2.1⟩
    · show q + 4 + 3 * ((dpO deep (3, 0, 0, 0) : Nat) : Int) ≤ q + 1 + 3 * (deep : Int)
      rw [ed]; omega
    · show q + 1 ≤ n; omega
    · show q < q + 1; omega
    · show dpO deep (3, 0, 0, 0) ≤ 3
      rw [ed]; omega
  · rw [if_neg c0] at e
    by_cases w4 : wm T n 4 q
    · have hw := wm_le (by decide) h w4
      have e2 : (sLn.getD 4 0 : Int) = 2 := rfl
      rw [e2] at hw
      rw [if_pos w4] at e
      cases h1 : goO T n (q + 2) with
      | inl e' => rw [h1] at e; exact absurd e (by simp [bO'])
      | inr y =>
        rw [h1, bO_r] at e
        have ok := go_ok hT (by omega) h1
        have := Sum.inr.inj e
        rw [← this]
        have ed : dpO deep (0, y.1) = deep := by
          unfold dpO
          rw [if_neg (show ¬ (0 : Int) = 2 by decide), if_neg (show ¬ (0 : Int) = 3 by decide)]
        refine ⟨Or.inl ⟨rfl, ok.1⟩, ?_, ok.2.2, ?_, ?_, fun x => absurd x (show ¬ (0 : Int) = 3 by decide)⟩
        · show q + 4 + 3 * ((dpO deep (0, y.1) : Nat) : Int) ≤ y.2 + 3 * (deep : Int)
          rw [ed]; omega
        · show q < y.2; omega
        · show dpO deep (0, y.1) ≤ 3
          rw [ed]; exact hd
    · rw [if_neg w4] at e
      by_cases w5 : wm T n 5 q
      · have hw := wm_le (by decide) h w5
        have e2 : (sLn.getD 5 0 : Int) = 4 := rfl
        rw [e2] at hw
        rw [if_pos w5] at e
        cases h1 : hoO T n (q + 4) with
        | inl e' => rw [h1] at e; exact absurd e (by simp [bO'])
        | inr y =>
          rw [h1, bO_r] at e
          have ok := ho_ok hT (by omega) h1
          have := Sum.inr.inj e
          rw [← this]
          have ed : dpO deep (1, 0, 0, y.1) = deep := by
            unfold dpO
            rw [if_neg (show ¬ (1 : Int) = 2 by decide), if_neg (show ¬ (1 : Int) = 3 by decide)]
          refine ⟨Or.inr (Or.inl ⟨rfl, rfl, rfl, ok.1⟩), ?_, ok.2.2, ?_, ?_, fun x => absurd x (show ¬ (1 : Int) = 3 by decide)⟩
          · show q + 4 + 3 * ((dpO deep (1, 0, 0, y.1) : Nat) : Int) ≤ y.2 + 3 * (deep : Int)
            rw [ed]; omega
          · show q < y.2; omega
          · show dpO deep (1, 0, 0, y.1) ≤ 3
            rw [ed]; exact hd
      · rw [if_neg w5] at e
        by_cases w6 : wm T n 6 q
        · have hw := wm_le (by decide) h w6
          have e2 : (sLn.getD 6 0 : Int) = 5 := rfl
          rw [e2] at hw
          rw [if_pos w6] at e
          by_cases c3 : 3 ≤ deep
          · rw [if_pos c3] at e
            exact absurd e (by simp)
          · rw [if_neg c3] at e
            cases h1 : tiO T n (q + 5) with
            | inl e' => rw [h1] at e; exact absurd e (by simp [bO'])
            | inr y =>
              rw [h1, bO_r] at e
              have ok := ti_ok hT (by omega) h1
              have := Sum.inr.inj e
              rw [← this]
              have ed : dpO deep (2, 0, 0, y.1) = deep + 1 := by
                unfold dpO
                rw [if_pos rfl]
              refine ⟨Or.inr (Or.inr (Or.inl ⟨rfl, ok.1⟩)), ?_, ok.2.2, ?_, ?_, fun x => absurd x (show ¬ (2 : Int) = 3 by decide)⟩
              · show q + 4 + 3 * ((dpO deep (2, 0, 0, y.1) : Nat) : Int) ≤ y.2 + 3 * (deep : Int)
                rw [ed]; omega
              · show q < y.2; omega
              · show dpO deep (2, 0, 0, y.1) ≤ 3
                rw [ed]; omega
        · rw [if_neg w6] at e
          exact absurd e (by simp)
end P99

