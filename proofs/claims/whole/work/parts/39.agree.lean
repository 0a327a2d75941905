/-! what lay in the rows ahead of a THROW doesn't matter -/
def inI (n t m i : Int) : Prop := 0 ≤ i ∧ i % 13 ≤ n ∧ i ≤ 13 * t + m
def agP (I : Int → Prop) (s s' : rS) : Prop := ∀ i, I i → s.1 i = s'.1 i ∧ s.2 i = s'.2 i
theorem agP_set {I J : Int → Prop} {s s' : rS} {c x y x' y' : Int} (h : agP I s s') (hx : x = x') (hy : y = y') (hJ : ∀ i, J i → I i ∨ i = c) : agP J (uI s.1 c x, uI s.2 c y) (uI s'.1 c x', uI s'.2 c y') := by
  intro i hi
  simp only [uI]
  by_cases e : i = c
  · rw [if_pos e, if_pos e, if_pos e, if_pos e]; exact ⟨hx, hy⟩
  · rw [if_neg e, if_neg e, if_neg e, if_neg e]
    exact h i ((hJ i hi).resolve_right e)
theorem ag_rs {n : Nat} {len : Int} {s s' : rS} : ∀ m : Nat, agP (fun i => 0 ≤ i ∧ i < m) (it (fun j s => (uI s.1 j (j * len), uI s.2 j 0)) m s) (it (fun j s => (uI s.1 j (j * len), uI s.2 j 0)) m s') := by
  intro m
  induction m with
  | zero => intro i hi; omega
  | succ m ih => exact agP_set ih rfl rfl (fun i hi => by omega)
theorem ag_g {n : Nat} {wt : Int → Int} {air fall t : Int} {s s' : rS} (hn : n ≤ 12) (ht : 1 ≤ t) (h : agP (inI n t 0) s s') : ∀ m : Nat, m ≤ n → agP (inI n t m) (it (fun j => gO wt air fall t (j + 1)) m s) (it (fun j => gO wt air fall t (j + 1)) m s') := by
  intro m
  induction m with
  | zero => intro _; exact h
  | succ m ih =>
    intro hm
    have h1 := ih (by omega)
    show agP _ (gO wt air fall t ((m : Int) + 1) (it (fun j => gO wt air fall t (j + 1)) m s)) (gO wt air fall t ((m : Int) + 1) (it (fun j => gO wt air fall t (j + 1)) m s'))
    generalize it (fun j => gO wt air fall t (j + 1)) m s = S at h1
    generalize it (fun j => gO wt air fall t (j + 1)) m s' = S' at h1
    have a := h1 (13 * (t - 1) + ((m : Int) + 1)) (by unfold inI; omega)
    have b : t ≠ 1 → S.1 (13 * (t - 1) + ((m : Int) + 1) - 13) = S'.1 (13 * (t - 1) + ((m : Int) + 1) - 13) ∧ S.2 (13 * (t - 1) + ((m : Int) + 1) - 13) = S'.2 (13 * (t - 1) + ((m : Int) + 1) - 13) := fun h => h1 _ (by unfold inI; omega)
    have eu : (if t = 1 then 0 else S.1 (13 * (t - 1) + ((m : Int) + 1)) - S.1 (13 * (t - 1) + ((m : Int) + 1) - 13)) = (if t = 1 then 0 else S'.1 (13 * (t - 1) + ((m : Int) + 1)) - S'.1 (13 * (t - 1) + ((m : Int) + 1) - 13)) := by
      by_cases e : t = 1
      · rw [if_pos e, if_pos e]
      · rw [if_neg e, if_neg e, a.1, (b e).1]
    have ev : (if t = 1 then 0 else S.2 (13 * (t - 1) + ((m : Int) + 1)) - S.2 (13 * (t - 1) + ((m : Int) + 1) - 13)) = (if t = 1 then 0 else S'.2 (13 * (t - 1) + ((m : Int) + 1)) - S'.2 (13 * (t - 1) + ((m : Int) + 1) - 13)) := by
      by_cases e : t = 1
      · rw [if_pos e, if_pos e]
      · rw [if_neg e, if_neg e, a.2, (b e).2]
    unfold gO
    simp only []
    rw [eu, ev, a.1, a.2]
    exact agP_set h1 rfl rfl (fun i hi => by unfold inI at *; omega)
theorem ag_b {n : Nat} {bd : Int → Int} {t : Int} {s s' : rS} (hn : n ≤ 12) (ht : 1 ≤ t) (h : agP (inI n t n) s s') : ∀ m : Nat, m ≤ n - 1 → agP (inI n t n) (it (fun j => bE bd t (j + 2)) m s) (it (fun j => bE bd t (j + 2)) m s') := by
  intro m
  induction m with
  | zero => intro _; exact h
  | succ m ih =>
    intro hm
    have h1 := ih (by omega)
    show agP _ (bE bd t ((m : Int) + 2) (it (fun j => bE bd t (j + 2)) m s)) (bE bd t ((m : Int) + 2) (it (fun j => bE bd t (j + 2)) m s'))
    generalize it (fun j => bE bd t (j + 2)) m s = S at h1
    generalize it (fun j => bE bd t (j + 2)) m s' = S' at h1
    have a := h1 (13 * t + ((m : Int) + 2)) (by unfold inI; omega)
    have b := h1 (13 * t + ((m : Int) + 2) - 1) (by unfold inI; omega)
    have c := h1 (13 * t + ((m : Int) + 2) - 2) (by unfold inI; omega)
    unfold bE
    simp only []
    rw [a.1, a.2, b.1, b.2, c.1, c.2]
    exact agP_set h1 rfl rfl (fun i hi => Or.inl hi)
theorem ag_p {n : Nat} {wt : Int → Int} {len t : Int} {s s' : rS} (hn : n ≤ 12) (ht : 1 ≤ t) (h : agP (inI n t n) s s') : ∀ m : Nat, m ≤ n → agP (inI n t n) (it (fun j => pU wt len t (j + 1)) m s) (it (fun j => pU wt len t (j + 1)) m s') := by
  intro m
  induction m with
  | zero => intro _; exact h
  | succ m ih =>
    intro hm
    have h1 := ih (by omega)
    show agP _ (pU wt len t ((m : Int) + 1) (it (fun j => pU wt len t (j + 1)) m s)) (pU wt len t ((m : Int) + 1) (it (fun j => pU wt len t (j + 1)) m s'))
    generalize it (fun j => pU wt len t (j + 1)) m s = S at h1
    generalize it (fun j => pU wt len t (j + 1)) m s' = S' at h1
    have a := h1 (13 * t + ((m : Int) + 1)) (by unfold inI; omega)
    have b := h1 (13 * t + ((m : Int) + 1) - 1) (by unfold inI; omega)
    unfold pU spn
    simp only []
    rw [a.1, a.2, b.1, b.2]
    split
    · split
      · exact agP_set h1 rfl rfl (fun i hi => Or.inl hi)
      · exact agP_set (s := (uI S.1 _ _, uI S.2 _ _)) (s' := (uI S'.1 _ _, uI S'.2 _ _)) (agP_set h1 rfl rfl (fun i hi => Or.inl hi)) rfl rfl (fun i hi => Or.inl hi)
    · exact h1
theorem ag_rd {n R : Nat} {wt : Int → Int} {len t : Int} {s s' : rS} (hn : n ≤ 12) (ht : 1 ≤ t) (h : agP (inI n t n) s s') : agP (inI n t n) (rdS wt len t n R s) (rdS wt len t n R s') := by
  unfold rdS
  induction R with
  | zero => exact h
  | succ m ih => exact ag_p hn ht ih n (Nat.le_refl _)
theorem ag_h {n : Nat} {len t : Int} {s s' : rS} (hn : n ≤ 12) (ht : 1 ≤ t) (h : agP (inI n t n) s s') : ∀ m : Nat, m ≤ n → agP (inI n t n) (it (fun j => hO len t (j + 1)) m s) (it (fun j => hO len t (j + 1)) m s') := by
  intro m
  induction m with
  | zero => intro _; exact h
  | succ m ih =>
    intro hm
    have h1 := ih (by omega)
    show agP _ (hO len t ((m : Int) + 1) (it (fun j => hO len t (j + 1)) m s)) (hO len t ((m : Int) + 1) (it (fun j => hO len t (j + 1)) m s'))
    generalize it (fun j => hO len t (j + 1)) m s = S at h1
    generalize it (fun j => hO len t (j + 1)) m s' = S' at h1
    have a := h1 (13 * t + ((m : Int) + 1)) (by unfold inI; omega)
    have b := h1 (13 * t + ((m : Int) + 1) - 1) (by unfold inI; omega)
    unfold hO spn
    simp only []
    rw [a.1, a.2, b.1, b.2]
    split
    · exact agP_set h1 rfl rfl (fun i hi => Or.inl hi)
    · exact h1
theorem ag_tk {n R : Nat} {wt bd : Int → Int} {len air fall hx hy t : Int} {s s' : rS} (hn : n ≤ 12) (ht : 1 ≤ t) (h : agP (inI n (t - 1) n) s s') : agP (inI n t n) (tkS wt bd len air fall n R hx hy t s) (tkS wt bd len air fall n R hx hy t s') := by
  have h0 : agP (inI n t 0) (hdS hx hy t s) (hdS hx hy t s') := agP_set h rfl rfl (fun i hi => by unfold inI at *; omega)
  exact ag_h hn ht (ag_rd hn ht (ag_b hn ht (ag_g hn ht h0 n (Nat.le_refl _)) (n - 1) (Nat.le_refl _))) n (Nat.le_refl _)
theorem ag_ts {n R T : Nat} {wt bd wx wy : Int → Int} {len air fall g : Int} {s s' : rS} (hn : n ≤ 12) : agP (inI n T n) (tsS wt bd len air fall n R wx wy g T s) (tsS wt bd len air fall n R wx wy g T s') := by
  unfold tsS
  induction T with
  | zero =>
    intro i hi
    exact ag_rs (n := n) (n + 1) i (by unfold inI at hi; omega)
  | succ m ih =>
    refine ag_tk hn (by omega) ?_
    rw [show (((m + 1 : Nat) : Int) - 1) = (m : Int) by omega]
    exact ih
/-- the same THROW out of numbers that are alike where they count -/
theorem ts_cong {n R T : Nat} {wt bd wt' bd' wx wy wx' wy' : Int → Int} {len air fall g : Int} {s : rS} (h : ∀ k : Int, 1 ≤ k → k ≤ n → wt k = wt' k) (hb : ∀ k : Int, 1 ≤ k → k ≤ n → bd k = bd' k) (hw : ∀ t : Int, 1 ≤ t → t ≤ T → wx t = wx' t ∧ wy t = wy' t) : tsS wt bd len air fall n R wx wy g T s = tsS wt' bd' len air fall n R wx' wy' g T s := by
  unfold tsS
  refine it_cong T _ (fun j s hj => ?_)
  rw [(hw _ (by omega) (by omega)).1, (hw _ (by omega) (by omega)).2]
  exact tkS_wt h hb

