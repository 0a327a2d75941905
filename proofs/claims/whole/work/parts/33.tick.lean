/-! a TICK, and a whole THROW -/
def rsS (n : Nat) (len : Int) (s : rS) : rS := it (fun j s => (uI s.1 j (j * len), uI s.2 j 0)) (n + 1) s
def hdS (hx hy t : Int) (s : rS) : rS := (uI s.1 (13 * t) hx, uI s.2 (13 * t) hy)
def gS (wt : Int → Int) (air fall t : Int) (n : Nat) (s : rS) : rS := it (fun j => gO wt air fall t (j + 1)) n s
def bS (bd : Int → Int) (t : Int) (n : Nat) (s : rS) : rS := it (fun j => bE bd t (j + 2)) (n - 1) s
def pS (wt : Int → Int) (len t : Int) (n : Nat) (s : rS) : rS := it (fun j => pU wt len t (j + 1)) n s
def rdS (wt : Int → Int) (len t : Int) (n R : Nat) (s : rS) : rS := it (fun _ => pS wt len t n) R s
def hS (len t : Int) (n : Nat) (s : rS) : rS := it (fun j => hO len t (j + 1)) n s
def tkS (wt bd : Int → Int) (len air fall : Int) (n R : Nat) (hx hy t : Int) (s : rS) : rS := hS len t n (rdS wt len t n R (bS bd t n (gS wt air fall t n (hdS hx hy t s))))
def tsS (wt bd : Int → Int) (len air fall : Int) (n R : Nat) (wx wy : Int → Int) (g : Int) (T : Nat) (s : rS) : rS :=
  it (fun j => tkS wt bd len air fall n R ((wx (j + 1) * g).tdiv 100) ((wy (j + 1) * g).tdiv 100) (j + 1)) T (rsS n len s)
/-- all places of the rows -/
def bA (s : rS) : Prop := ∀ i, 0 ≤ i → i < 793 → ab 130000 (s.1 i) ∧ ab 130000 (s.2 i)
theorem bA_set {s : rS} (h : bA s) {c x y : Int} (hx : ab 130000 x) (hy : ab 130000 y) : bA (uI s.1 c x, uI s.2 c y) := by
  intro i h0 h1
  have := h i h0 h1
  simp only [uI]
  by_cases e : i = c
  · rw [if_pos e, if_pos e]; exact ⟨hx, hy⟩
  · rw [if_neg e, if_neg e]; exact this
theorem rs_b {len : Int} (hl : 0 ≤ len ∧ len ≤ 200) {s : rS} (h : bA s) : ∀ j : Nat, j ≤ 13 → bA (it (fun j s => (uI s.1 j (j * len), uI s.2 j 0)) j s) := by
  intro j
  induction j with
  | zero => intro _; exact h
  | succ j ih =>
    intro hj
    refine bA_set (ih (by omega)) ?_ ⟨by omega, by omega⟩
    have h1 := Int.mul_le_mul (show (j : Int) ≤ 12 by omega) hl.2 hl.1 (by omega)
    have h2 := Int.mul_nonneg (show (0 : Int) ≤ j by omega) hl.1
    unfold ab
    omega
theorem hd_b {n t hx hy : Int} {s : rS} (h : bA s) (ht : 1 ≤ t ∧ t ≤ 60) (hn : 0 ≤ n ∧ n ≤ 12) (h1 : ab 119880 hx) (h2 : ab 119880 hy) : bO n t (hdS hx hy t s) ∧ bR n t 400000 (hdS hx hy t s) ∧ (hdS hx hy t s).1 (13 * t) = hx ∧ (hdS hx hy t s).2 (13 * t) = hy := by
  have h3 : bA (hdS hx hy t s) := bA_set h (by unfold ab at *; omega) (by unfold ab at *; omega)
  refine ⟨fun i a b _ => h3 i a b, fun k a b => ?_, uI_eq, uI_eq⟩
  have := h3 (13 * t + k) (by omega) (by omega)
  unfold ab at *
  omega
/-- the first place of a row stays through what follows -/
def hE (t hx hy : Int) (s : rS) : Prop := s.1 (13 * t) = hx ∧ s.2 (13 * t) = hy
theorem g_b {n : Nat} {t air fall hx hy : Int} {wt : Int → Int} {s : rS} (h : bO n t s) (hr : bR n t 400000 s) (he : hE t hx hy s) (ht : 1 ≤ t ∧ t ≤ 60) (hn : n ≤ 12) (hw : ∀ k : Int, 1 ≤ k → k ≤ n → 1 ≤ wt k) (ha : 0 ≤ air) (hf : 0 ≤ fall ∧ fall ≤ 50) : ∀ j : Nat, j ≤ n → bO n t (it (fun j => gO wt air fall t (j + 1)) j s) ∧ bR n t 400000 (it (fun j => gO wt air fall t (j + 1)) j s) ∧ hE t hx hy (it (fun j => gO wt air fall t (j + 1)) j s) := by
  intro j
  induction j with
  | zero => intro _; exact ⟨h, hr, he⟩
  | succ j ih =>
    intro hj
    obtain ⟨h1, h2, h3⟩ := ih (by omega)
    have := gO_p (k := (j : Int) + 1) (wt := wt) (air := air) (fall := fall) h1 h2 ht (by omega) (by omega) (hw _ (by omega) (by omega)) ha hf
    refine ⟨this.1, this.2, ?_⟩
    show hE t hx hy (gO wt air fall t (j + 1) _)
    unfold gO hE
    simp only [uI]
    rw [if_neg (by omega), if_neg (by omega)]
    exact h3
theorem b_b {n : Nat} {t hx hy : Int} {bd : Int → Int} {s : rS} (h : bO n t s) (hr : bR n t 400000 s) (he : hE t hx hy s) (hn : n ≤ 12) (hd : ∀ k : Int, 1 ≤ k → k ≤ n → 0 ≤ bd k ∧ bd k ≤ 500) : ∀ j : Nat, j ≤ n - 1 → bO n t (it (fun j => bE bd t (j + 2)) j s) ∧ bBd n t (j + 2) (it (fun j => bE bd t (j + 2)) j s) ∧ hE t hx hy (it (fun j => bE bd t (j + 2)) j s) := by
  intro j
  induction j with
  | zero => intro _; exact ⟨h, bBd_0 (by omega) hr, he⟩
  | succ j ih =>
    intro hj
    obtain ⟨h1, h2, h3⟩ := ih (by omega)
    have := bE_p (k := (j : Int) + 2) (bd := bd) h1 h2 (by omega) (by omega) (hd _ (by omega) (by omega))
    refine ⟨this.1, ?_, ?_⟩
    · rw [show ((j + 1 : Nat) : Int) + 2 = (j : Int) + 2 + 1 by omega]
      exact this.2
    · show hE t hx hy (bE bd t (j + 2) _)
      unfold bE hE
      simp only [uI]
      rw [if_neg (by omega), if_neg (by omega)]
      exact h3
theorem b_R {n : Nat} {t : Int} {s : rS} (hn : 1 ≤ n ∧ n ≤ 12) {j : Nat} (h : bBd n t (j + 2) s) : bR n t 60000000 s := bBd_R2 (by omega) h
theorem p_b {n : Nat} {t len hx hy : Int} {wt : Int → Int} {s : rS} (h : bO n t s) (hr : bR n t 60000000 s) (he : hE t hx hy s) (hn : n ≤ 12) (hl : 0 ≤ len) (hw : ∀ k : Int, 1 ≤ k → k ≤ n → 1 ≤ wt k) : ∀ j : Nat, j ≤ n → bO n t (it (fun j => pU wt len t (j + 1)) j s) ∧ bR n t 60000000 (it (fun j => pU wt len t (j + 1)) j s) ∧ hE t hx hy (it (fun j => pU wt len t (j + 1)) j s) := by
  intro j
  induction j with
  | zero => intro _; exact ⟨h, hr, he⟩
  | succ j ih =>
    intro hj
    obtain ⟨h1, h2, h3⟩ := ih (by omega)
    have := pU_p (k := (j : Int) + 1) (wt := wt) (len := len) h1 h2 (by omega) (by omega) hl (hw _ (by omega) (by omega)) (fun _ => hw _ (by omega) (by omega))
    refine ⟨this.1, this.2, ?_⟩
    show hE t hx hy (pU wt len t (j + 1) _)
    unfold pU hE
    simp only []
    split
    · split
      · simp only [uI]
        rw [if_neg (by omega), if_neg (by omega)]
        exact h3
      · simp only [uI]
        rw [if_neg (by omega), if_neg (by omega), if_neg (by omega), if_neg (by omega)]
        exact h3
    · exact h3
theorem rd_b {n : Nat} {t len hx hy : Int} {wt : Int → Int} {s : rS} (h : bO n t s) (hr : bR n t 60000000 s) (he : hE t hx hy s) (hn : n ≤ 12) (hl : 0 ≤ len) (hw : ∀ k : Int, 1 ≤ k → k ≤ n → 1 ≤ wt k) : ∀ j : Nat, bO n t (it (fun _ => pS wt len t n) j s) ∧ bR n t 60000000 (it (fun _ => pS wt len t n) j s) ∧ hE t hx hy (it (fun _ => pS wt len t n) j s) := by
  intro j
  induction j with
  | zero => exact ⟨h, hr, he⟩
  | succ j ih =>
    obtain ⟨h1, h2, h3⟩ := ih
    exact p_b h1 h2 h3 hn hl hw n (Nat.le_refl _)
theorem h_b {n : Nat} {t len hx hy : Int} {s : rS} (h : bO n t s) (hr : bR n t 60000000 s) (he : hE t hx hy s) (h1 : ab 119880 hx) (h2 : ab 119880 hy) (hn : n ≤ 12) (hl : 0 ≤ len ∧ len ≤ 200) : ∀ j : Nat, j ≤ n → bO n t (it (fun j => hO len t (j + 1)) j s) ∧ bH n t (j + 1) len (it (fun j => hO len t (j + 1)) j s) := by
  intro j
  induction j with
  | zero =>
    intro _
    refine ⟨h, fun i a b c => ?_, hr⟩
    rw [show i = 0 by omega, Int.add_zero]
    show ab _ (s.1 _) ∧ ab _ (s.2 _)
    rw [he.1, he.2]
    exact ⟨by unfold ab at *; omega, by unfold ab at *; omega⟩
  | succ j ih =>
    intro hj
    obtain ⟨h3, h4⟩ := ih (by omega)
    have := hO_p (k := (j : Int) + 1) (len := len) h3 h4 (by omega) (by omega) hl
    refine ⟨this.1, ?_⟩
    rw [show ((j + 1 : Nat) : Int) + 1 = (j : Int) + 1 + 1 by omega]
    exact this.2
theorem h_A {n : Nat} {t len : Int} {s : rS} (h : bO n t s) (hh : bH n t (n + 1) len s) (hn : n ≤ 12) : bA s := by
  intro i h0 h1
  by_cases e : i < 13 * t ∨ 13 * t + n < i
  · exact h i h0 h1 e
  · have := hh.1 (i - 13 * t) (by omega) (by omega) (by omega)
    rw [show 13 * t + (i - 13 * t) = i by omega] at this
    unfold ab at *
    omega
/-- what a TICK needs of its numbers -/
def okW (wt bd : Int → Int) (len air fall : Int) (n : Nat) : Prop := (1 ≤ n ∧ n ≤ 12) ∧ (∀ k : Int, 1 ≤ k → k ≤ n → 1 ≤ wt k) ∧ (∀ k : Int, 1 ≤ k → k ≤ n → 0 ≤ bd k ∧ bd k ≤ 500) ∧ (0 ≤ len ∧ len ≤ 200) ∧ 0 ≤ air ∧ 0 ≤ fall ∧ fall ≤ 50
theorem tk_b {wt bd : Int → Int} {len air fall hx hy t : Int} {n R : Nat} {s : rS} (hk : okW wt bd len air fall n) (h : bA s) (ht : 1 ≤ t ∧ t ≤ 60) (h1 : ab 119880 hx) (h2 : ab 119880 hy) : bA (tkS wt bd len air fall n R hx hy t s) := by
  obtain ⟨hn, hw, hd, hl, ha, hf⟩ := hk
  obtain ⟨a1, a2, a3⟩ := hd_b (n := n) h ht (by omega) h1 h2
  obtain ⟨b1, b2, b3⟩ := g_b (wt := wt) (air := air) (fall := fall) a1 a2 a3 ht (by omega) hw ha hf n (Nat.le_refl _)
  obtain ⟨c1, c2, c3⟩ := b_b (bd := bd) b1 b2 b3 (by omega) hd (n - 1) (Nat.le_refl _)
  obtain ⟨d1, d2, d3⟩ := rd_b (wt := wt) c1 (b_R hn c2) c3 (by omega) hl.1 hw R
  obtain ⟨e1, e2⟩ := h_b d1 d2 d3 h1 h2 (by omega) hl n (Nat.le_refl _)
  exact h_A e1 e2 (by omega)
/-- a hand's place with GIVEN -/
theorem hand_b {z g : Int} (hz : ab 59940 z) (hg : 10 ≤ g ∧ g ≤ 200) : ab 119880 ((z * g).tdiv 100) ∧ -2147483648 ≤ z * g ∧ z * g < 2147483648 := by
  have h1 := ab_mul (C := 200) hz (show 0 ≤ g by omega) hg.2
  refine ⟨?_, by unfold ab at h1; omega, by unfold ab at h1; omega⟩
  have key : ∀ z : Int, 0 ≤ z → z ≤ 59940 → 0 ≤ (z * g).tdiv 100 ∧ (z * g).tdiv 100 ≤ 119880 := by
    intro z h0 h2
    have := Int.mul_le_mul h2 hg.2 (by omega) (by omega)
    have h3 := Int.mul_nonneg h0 (show 0 ≤ g by omega)
    rw [Int.tdiv_eq_ediv_of_nonneg h3]
    omega
  unfold ab at *
  rcases (show 0 ≤ z ∨ z ≤ 0 by omega) with h | h
  · have := key z h hz.2; omega
  · have := key (-z) (by omega) (by omega)
    rw [Int.neg_mul, Int.neg_tdiv] at this
    omega
theorem ts_b {wt bd wx wy : Int → Int} {len air fall g : Int} {n R T : Nat} {s : rS} (hk : okW wt bd len air fall n) (h : bA s) (hT : T ≤ 60) (hg : 10 ≤ g ∧ g ≤ 200) (hw : ∀ t : Int, 1 ≤ t → t ≤ T → ab 59940 (wx t) ∧ ab 59940 (wy t)) : ∀ j : Nat, j ≤ T → bA (it (fun j => tkS wt bd len air fall n R ((wx (j + 1) * g).tdiv 100) ((wy (j + 1) * g).tdiv 100) (j + 1)) j (rsS n len s)) := by
  intro j
  induction j with
  | zero => intro _; exact rs_b hk.2.2.2.1 h (n + 1) (by have := hk.1; omega)
  | succ j ih =>
    intro hj
    have := hw ((j : Int) + 1) (by omega) (by omega)
    exact tk_b hk (ih (by omega)) (by omega) (hand_b this.1 hg).1 (hand_b this.2 hg).1

