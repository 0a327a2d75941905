/-! WAYS told in a text: what is behind the text doesn't matter -/
section P99b
variable {T T' : Int → Int} {n a q : Int}
theorem goO_c (hT : txT n T) (hE : ∀ i : Int, 0 ≤ i → i < n → T i = T' i) (h : 0 ≤ a ∧ a ≤ n) : goO T n a = goO T' n a := by
  unfold goO
  rw [← nmO_c hT hE h]
  cases h1 : nmO T n true (-999) 999 a with
  | inl e => rfl
  | inr x =>
    have ok1 := nm_ok hT h (v := x.1) (e := x.2) h1
    rw [bO_r, bO_r, ← nmO_c hT hE (show 0 ≤ x.2 ∧ x.2 ≤ n by omega)]
    cases h2 : nmO T n true (-999) 999 x.2 with
    | inl e => rfl
    | inr y =>
      have ok2 := nm_ok hT (by omega) (v := y.1) (e := y.2) h2
      rw [bO_r, bO_r, ← wdO_c hE (show 0 ≤ y.2 ∧ y.2 ≤ n by omega)]
      by_cases w : wm T n 7 (skp T n y.2)
      · obtain ⟨ow, hw2, hw3⟩ := wd_ok (e := 0) (j := 7) (by decide) (show 0 ≤ y.2 ∧ y.2 ≤ n by omega) w
        rw [ow]
        generalize skp T n y.2 + (sLn.getD 7 0 : Int) = a3 at *
        rw [bO_r, bO_r, ← nmO_c hT hE (show 0 ≤ a3 ∧ a3 ≤ n by omega)]
        cases h4 : nmO T n false 1 30 a3 with
        | inl e => rfl
        | inr z =>
          have ok4 := nm_ok hT (by omega) (v := z.1) (e := z.2) h4
          rw [bO_r, bO_r, sgO_c hE (by omega)]
      · rw [wd_no w]
        rfl
theorem hoO_c (hT : txT n T) (hE : ∀ i : Int, 0 ≤ i → i < n → T i = T' i) (h : 0 ≤ a ∧ a ≤ n) : hoO T n a = hoO T' n a := by
  unfold hoO
  rw [← nmO_c hT hE h]
  cases h1 : nmO T n false 1 30 a with
  | inl e => rfl
  | inr z =>
    have ok4 := nm_ok hT (by omega) (v := z.1) (e := z.2) h1
    rw [bO_r, bO_r, sgO_c hE (by omega)]
theorem tiO_c (hT : txT n T) (hE : ∀ i : Int, 0 ≤ i → i < n → T i = T' i) (h : 0 ≤ a ∧ a ≤ n) : tiO T n a = tiO T' n a := by
  unfold tiO
  rw [← nmO_c hT hE h]
  cases h1 : nmO T n false 2 9 a with
  | inl e => rfl
  | inr z =>
    have ok4 := nm_ok hT (by omega) (v := z.1) (e := z.2) h1
    rw [bO_r, bO_r, sgO_c hE (by omega)]
theorem ptO_c {deep : Nat} {needs : Bool} (hT : txT n T) (hE : ∀ i : Int, 0 ≤ i → i < n → T i = T' i) (h : 0 ≤ q ∧ q ≤ n) : ptO T n deep needs q = ptO T' n deep needs q := by
  have e4 := wm_c (j := 4) hE h
  have e5 := wm_c (j := 5) hE h
  have e6 := wm_c (j := 6) hE h
  unfold ptO
  rw [← chA_c hE h.1]
  by_cases c0 : needs = false ∧ 0 < deep ∧ chA T n q = 41
  · rw [if_pos c0, if_pos c0]
  · rw [if_neg c0, if_neg c0]
    by_cases w4 : wm T n 4 q
    · have hw := wm_le (by decide) h w4
      have e2 : (sLn.getD 4 0 : Int) = 2 := rfl
      rw [e2] at hw
      rw [if_pos w4, if_pos (e4.mp w4), goO_c hT hE (by omega)]
    · rw [if_neg w4, if_neg (fun x => w4 (e4.mpr x))]
      by_cases w5 : wm T n 5 q
      · have hw := wm_le (by decide) h w5
        have e2 : (sLn.getD 5 0 : Int) = 4 := rfl
        rw [e2] at hw
        rw [if_pos w5, if_pos (e5.mp w5), hoO_c hT hE (by omega)]
      · rw [if_neg w5, if_neg (fun x => w5 (e5.mpr x))]
        by_cases w6 : wm T n 6 q
        · have hw := wm_le (by decide) h w6
          have e2 : (sLn.getD 6 0 : Int) = 5 := rfl
          rw [e2] at hw
          rw [if_pos w6, if_pos (e6.mp w6), tiO_c hT hE (by omega)]
        · rw [if_neg w6, if_neg (fun x => w6 (e6.mpr x))]
theorem wyO_s {r deep : Nat} {needs : Bool} {O : List opT} (c : skp T n a < n) : wyO T n (r + 1) deep needs O a = bO' (ptO T n deep needs (skp T n a)) fun x => wyO T n r (dpO deep x.1) (decide (x.1.1 = 2)) (O ++ [x.1]) x.2 := by
  rw [wyO, if_pos c]
theorem wyO_e {r deep : Nat} {needs : Bool} {O : List opT} (c : ¬ skp T n a < n) : wyO T n (r + 1) deep needs O a = if 0 < deep ∨ needs = true then .inl (1, n) else .inr O := by
  rw [wyO, if_neg c]
theorem wyO_c (hT : txT n T) (hE : ∀ i : Int, 0 ≤ i → i < n → T i = T' i) : ∀ (r deep : Nat) (needs : Bool) (O : List opT) (a : Int), deep ≤ 3 → 0 ≤ a ∧ a ≤ n → wyO T n r deep needs O a = wyO T' n r deep needs O a := by
  intro r
  induction r with
  | zero => intro deep needs O a _ _; rfl
  | succ r ih =>
    intro deep needs O a hd h
    have hq : a ≤ skp T n a ∧ skp T n a ≤ n := rn_ge h.2
    have es := skp_c hE h
    by_cases c : skp T n a < n
    · rw [wyO_s c, wyO_s (by rw [← es]; exact c), ← es, ← ptO_c hT hE (by omega)]
      cases h1 : ptO T n deep needs (skp T n a) with
      | inl e => rfl
      | inr x =>
        have ok := pt_ok hT (by omega) hd h1
        exact ih _ _ _ _ ok.2.2.2.2.1 (by omega)
    · rw [wyO_e c, wyO_e (by rw [← es]; exact c)]
end P99b

