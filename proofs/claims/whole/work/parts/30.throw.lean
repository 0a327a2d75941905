/-! A THROW in whole numbers: rows of places one behind the other (13 a TICK), changed place by place -/
abbrev rS : Type := (Int → Int) × (Int → Int)
def it (f : Nat → rS → rS) : Nat → rS → rS
  | 0, s => s
  | n + 1, s => f n (it f n s)
def gO (wt : Int → Int) (air fall t k : Int) (s : rS) : rS :=
  let b := 13 * (t - 1) + k
  let u := if t = 1 then 0 else s.1 b - s.1 (b - 13)
  let v := if t = 1 then 0 else s.2 b - s.2 (b - 13)
  let p := rt (u * u + v * v)
  let w := 1000 * wt k
  (uI s.1 (13 * t + k) (s.1 b + if air * p < w then (u * (w - air * p)).tdiv w else 0), uI s.2 (13 * t + k) (s.2 b + (if air * p < w then (v * (w - air * p)).tdiv w else 0) - fall))
def bE (bd : Int → Int) (t k : Int) (s : rS) : rS :=
  let a := 13 * t + k
  (uI s.1 a (s.1 a + ((2 * s.1 (a - 1) - s.1 (a - 2) - s.1 a) * bd k).tdiv 1000), uI s.2 a (s.2 a + ((2 * s.2 (a - 1) - s.2 (a - 2) - s.2 a) * bd k).tdiv 1000))
def spn (s : rS) (c : Int) : Int := rt ((s.1 c - s.1 (c - 1)) * (s.1 c - s.1 (c - 1)) + (s.2 c - s.2 (c - 1)) * (s.2 c - s.2 (c - 1)))
def pU (wt : Int → Int) (len t k : Int) (s : rS) : rS :=
  let c := 13 * t + k
  let a := s.1 c - s.1 (c - 1)
  let b := s.2 c - s.2 (c - 1)
  let d := spn s c
  if len < d then
    if k = 1 then (uI s.1 c (s.1 c - (a * (d - len)).tdiv d), uI s.2 c (s.2 c - (b * (d - len)).tdiv d))
    else
      let l := d * (wt (k - 1) + wt k)
      (uI (uI s.1 c (s.1 c - (a * (d - len) * wt (k - 1)).tdiv l)) (c - 1) (s.1 (c - 1) + (a * (d - len) * wt k).tdiv l),
       uI (uI s.2 c (s.2 c - (b * (d - len) * wt (k - 1)).tdiv l)) (c - 1) (s.2 (c - 1) + (b * (d - len) * wt k).tdiv l))
  else s
def hO (len t k : Int) (s : rS) : rS :=
  let c := 13 * t + k
  let a := s.1 c - s.1 (c - 1)
  let b := s.2 c - s.2 (c - 1)
  let d := spn s c
  if len < d then (uI s.1 c (s.1 (c - 1) + (a * len).tdiv d), uI s.2 c (s.2 (c - 1) + (b * len).tdiv d)) else s
/-- bounds -/
def ab (B z : Int) : Prop := -B ≤ z ∧ z ≤ B
theorem td_bt {a m D : Int} (hD : 0 < D) (h0 : 0 ≤ m) (h1 : m ≤ D) : (0 ≤ a → 0 ≤ (a * m).tdiv D ∧ (a * m).tdiv D ≤ a) ∧ (a ≤ 0 → a ≤ (a * m).tdiv D ∧ (a * m).tdiv D ≤ 0) := by
  have key : ∀ a : Int, 0 ≤ a → 0 ≤ (a * m).tdiv D ∧ (a * m).tdiv D ≤ a := by
    intro a ha
    have hm : 0 ≤ a * m := Int.mul_nonneg ha h0
    rw [Int.tdiv_eq_ediv_of_nonneg hm]
    refine ⟨Int.ediv_nonneg hm (by omega), ?_⟩
    have h2 : a * m ≤ a * D := Int.mul_le_mul_of_nonneg_left h1 ha
    have h3 : (a * m) / D ≤ (a * D) / D := Int.ediv_le_ediv hD h2
    rw [Int.mul_ediv_cancel _ (by omega)] at h3
    exact h3
  refine ⟨key a, fun ha => ?_⟩
  have := key (-a) (by omega)
  rw [Int.neg_mul, Int.neg_tdiv] at this
  omega
theorem td_ab {a m D B : Int} (hD : 0 < D) (h0 : 0 ≤ m) (h1 : m ≤ D) (ha : ab B a) : ab B ((a * m).tdiv D) := by
  obtain ⟨h2, h3⟩ := td_bt (a := a) hD h0 h1
  unfold ab at *
  rcases (show 0 ≤ a ∨ a ≤ 0 by omega) with h | h
  · have := h2 h; omega
  · have := h3 h; omega
theorem td_half {z m B : Int} (h0 : 0 ≤ m) (h1 : m ≤ 500) (hz : ab B z) : ab (B / 2) ((z * m).tdiv 1000) := by
  have key : ∀ z : Int, 0 ≤ z → z ≤ B → 0 ≤ (z * m).tdiv 1000 ∧ (z * m).tdiv 1000 ≤ B / 2 := by
    intro z hz hB
    have hm : 0 ≤ z * m := Int.mul_nonneg hz h0
    rw [Int.tdiv_eq_ediv_of_nonneg hm]
    have h2 : z * m ≤ B * 500 := Int.mul_le_mul hB h1 h0 (by omega)
    omega
  unfold ab at *
  rcases (show 0 ≤ z ∨ z ≤ 0 by omega) with h | h
  · have := key z h hz.2; omega
  · have := key (-z) (by omega) (by omega)
    rw [Int.neg_mul, Int.neg_tdiv] at this
    omega
theorem ab_sq {B z : Int} (h : ab B z) : 0 ≤ z * z ∧ z * z ≤ B * B := by
  unfold ab at h
  rcases (show 0 ≤ z ∨ z ≤ 0 by omega) with h1 | h1
  · have := sq_le h1 h.2
    have := Int.mul_nonneg h1 h1
    omega
  · have h2 := sq_le (a := -z) (b := B) (by omega) (by omega)
    have h3 := Int.mul_nonneg (show 0 ≤ -z by omega) (show 0 ≤ -z by omega)
    rw [Int.neg_mul_neg] at h2 h3
    omega
/-- a leg is not longer than the root of the squares -/
theorem leg_le {a b : Int} : ab (rt (a * a + b * b)) a ∧ ab (rt (a * a + b * b)) b := by
  have ha : 0 ≤ a * a := by
    rcases (show 0 ≤ a ∨ a ≤ 0 by omega) with h | h
    · exact Int.mul_nonneg h h
    · have := Int.mul_nonneg (show 0 ≤ -a by omega) (show 0 ≤ -a by omega)
      rwa [Int.neg_mul_neg] at this
  have hb : 0 ≤ b * b := by
    rcases (show 0 ≤ b ∨ b ≤ 0 by omega) with h | h
    · exact Int.mul_nonneg h h
    · have := Int.mul_nonneg (show 0 ≤ -b by omega) (show 0 ≤ -b by omega)
      rwa [Int.neg_mul_neg] at this
  have h2 := rt_lt (n := a * a + b * b) (by omega)
  have h0 := rt_nn (a * a + b * b)
  have key : ∀ z : Int, z * z < (rt (a * a + b * b) + 1) * (rt (a * a + b * b) + 1) → ab (rt (a * a + b * b)) z := by
    intro z hz
    have h3 : z < rt (a * a + b * b) + 1 := sq_lt (by omega) hz
    have h4 : -z < rt (a * a + b * b) + 1 := sq_lt (by omega) (by rw [Int.neg_mul_neg]; exact hz)
    unfold ab
    omega
  exact ⟨key a (by omega), key b (by omega)⟩
/-- all places but those of row t from 0 to n -/
def bO (n t : Int) (s : rS) : Prop := ∀ i, 0 ≤ i → i < 793 → (i < 13 * t ∨ 13 * t + n < i) → ab 130000 (s.1 i) ∧ ab 130000 (s.2 i)
/-- those of row t -/
def bR (n t B : Int) (s : rS) : Prop := ∀ k, 0 ≤ k → k ≤ n → ab B (s.1 (13 * t + k)) ∧ ab B (s.2 (13 * t + k))
theorem bO_set {n t : Int} {s : rS} (h : bO n t s) {c x y : Int} (hc : 13 * t ≤ c ∧ c ≤ 13 * t + n) : bO n t (uI s.1 c x, uI s.2 c y) := by
  intro i h0 h1 h2
  have := h i h0 h1 h2
  simp only [uI]
  rw [if_neg (by omega), if_neg (by omega)]
  exact this
theorem bR_set {n t B : Int} {s : rS} (h : bR n t B s) {c x y : Int} (hx : ab B x) (hy : ab B y) : bR n t B (uI s.1 c x, uI s.2 c y) := by
  intro k h0 h1
  have := h k h0 h1
  simp only [uI]
  by_cases e : 13 * t + k = c
  · rw [if_pos e, if_pos e]; exact ⟨hx, hy⟩
  · rw [if_neg e, if_neg e]; exact this
theorem gO_uv {n t k : Int} {s : rS} (h : bO n t s) (ht : 1 ≤ t ∧ t ≤ 60) (hk : 0 ≤ k ∧ k ≤ 12) : ab 260000 (if t = 1 then 0 else s.1 (13 * (t - 1) + k) - s.1 (13 * (t - 1) + k - 13)) ∧ ab 260000 (if t = 1 then 0 else s.2 (13 * (t - 1) + k) - s.2 (13 * (t - 1) + k - 13)) ∧ ab 130000 (s.1 (13 * (t - 1) + k)) ∧ ab 130000 (s.2 (13 * (t - 1) + k)) := by
  have h1 := h (13 * (t - 1) + k) (by omega) (by omega) (by omega)
  by_cases e : t = 1
  · rw [if_pos e, if_pos e]
    exact ⟨⟨by omega, by omega⟩, ⟨by omega, by omega⟩, h1⟩
  · rw [if_neg e, if_neg e]
    have h2 := h (13 * (t - 1) + k - 13) (by omega) (by omega) (by omega)
    unfold ab at *
    omega
theorem gO_p {n t k air fall : Int} {wt : Int → Int} {s : rS} (h : bO n t s) (hr : bR n t 400000 s) (ht : 1 ≤ t ∧ t ≤ 60) (hn : n ≤ 12) (hk : 1 ≤ k ∧ k ≤ n) (hw : 1 ≤ wt k) (ha : 0 ≤ air) (hf : 0 ≤ fall ∧ fall ≤ 50) : bO n t (gO wt air fall t k s) ∧ bR n t 400000 (gO wt air fall t k s) := by
  obtain ⟨h1, h2, h3, h4⟩ := gO_uv h ht (k := k) (by omega)
  unfold gO
  simp only []
  generalize (if t = 1 then 0 else s.1 (13 * (t - 1) + k) - s.1 (13 * (t - 1) + k - 13)) = u at h1
  generalize (if t = 1 then 0 else s.2 (13 * (t - 1) + k) - s.2 (13 * (t - 1) + k - 13)) = v at h2
  have hp := rt_nn (u * u + v * v)
  generalize rt (u * u + v * v) = p at hp
  have hap : 0 ≤ air * p := Int.mul_nonneg ha hp
  refine ⟨bO_set h (by omega), bR_set hr ?_ ?_⟩
  · by_cases e : air * p < 1000 * wt k
    · rw [if_pos e]
      have := td_ab (a := u) (D := 1000 * wt k) (m := 1000 * wt k - air * p) (B := 260000) (by omega) (by omega) (by omega) h1
      unfold ab at *
      omega
    · rw [if_neg e]
      unfold ab at *
      omega
  · by_cases e : air * p < 1000 * wt k
    · rw [if_pos e]
      have := td_ab (a := v) (D := 1000 * wt k) (m := 1000 * wt k - air * p) (B := 260000) (by omega) (by omega) (by omega) h2
      unfold ab at *
      omega
    · rw [if_neg e]
      unfold ab at *
      omega
/-- how far a bent row may reach -/
def mB : Nat → Int
  | 0 => 400000
  | 1 => 400000
  | k + 2 => 600001 + mB (k + 1) + mB k / 2
theorem mB_12 : ∀ k, k < 13 → 400000 ≤ mB k ∧ mB k ≤ 60000000 := by decide
def bBd (n t k : Int) (s : rS) : Prop := (∀ j : Nat, (j : Int) < k → (j : Int) ≤ n → ab (mB j) (s.1 (13 * t + j)) ∧ ab (mB j) (s.2 (13 * t + j))) ∧ ∀ j, k ≤ j → j ≤ n → ab 400000 (s.1 (13 * t + j)) ∧ ab 400000 (s.2 (13 * t + j))
theorem bBd_0 {n t : Int} {s : rS} (hn : n ≤ 12) (h : bR n t 400000 s) : bBd n t 2 s := by
  refine ⟨fun j h1 h2 => ?_, fun j h1 h2 => h j (by omega) h2⟩
  have := h j (by omega) h2
  have hm := mB_12 j (by omega)
  unfold ab at *
  omega
theorem bBd_R {n t : Int} {s : rS} (hn : n ≤ 12) (h : bBd n t (n + 1) s) : bR n t 60000000 s := by
  intro k h0 h1
  have := h.1 k.toNat (by omega) (by omega)
  have hm := mB_12 k.toNat (by omega)
  rw [Int.toNat_of_nonneg h0] at this
  unfold ab at *
  omega
theorem bBd_R2 {n t k : Int} {s : rS} (hn : n ≤ 12) (h : bBd n t k s) : bR n t 60000000 s := by
  intro j h0 h1
  by_cases e : j < k
  · have := h.1 j.toNat (by omega) (by omega)
    have hm := mB_12 j.toNat (by omega)
    rw [Int.toNat_of_nonneg h0] at this
    unfold ab at *
    omega
  · have := h.2 j (by omega) h1
    unfold ab at *
    omega
theorem bE_p {n t k : Int} {bd : Int → Int} {s : rS} (h : bO n t s) (hb : bBd n t k s) (hn : n ≤ 12) (hk : 2 ≤ k ∧ k ≤ n) (hd : 0 ≤ bd k ∧ bd k ≤ 500) : bO n t (bE bd t k s) ∧ bBd n t (k + 1) (bE bd t k s) := by
  unfold bE
  simp only []
  refine ⟨bO_set h (by omega), fun j h1 h2 => ?_, fun j h1 h2 => ?_⟩
  · simp only [uI]
    by_cases e : 13 * t + (j : Int) = 13 * t + k
    · rw [if_pos e, if_pos e]
      obtain ⟨i, rfl⟩ : ∃ i : Nat, j = i + 2 := ⟨j - 2, by omega⟩
      have ek : k = ((i + 2 : Nat) : Int) := by omega
      have a1 := hb.1 (i + 1) (by omega) (by omega)
      have a2 := hb.1 i (by omega) (by omega)
      have a3 := hb.2 k (by omega) (by omega)
      rw [show 13 * t + ((i + 1 : Nat) : Int) = 13 * t + k - 1 by omega] at a1
      rw [show 13 * t + (i : Int) = 13 * t + k - 2 by omega] at a2
      have m1 := mB_12 (i + 1) (by omega)
      have m2 := mB_12 i (by omega)
      rw [mB]
      constructor
      · have := td_half (z := 2 * s.1 (13 * t + k - 1) - s.1 (13 * t + k - 2) - s.1 (13 * t + k)) (B := 2 * mB (i + 1) + mB i + 400000) hd.1 hd.2 (by unfold ab at *; omega)
        unfold ab at *
        omega
      · have := td_half (z := 2 * s.2 (13 * t + k - 1) - s.2 (13 * t + k - 2) - s.2 (13 * t + k)) (B := 2 * mB (i + 1) + mB i + 400000) hd.1 hd.2 (by unfold ab at *; omega)
        unfold ab at *
        omega
    · rw [if_neg e, if_neg e]
      exact hb.1 j (by omega) h2
  · simp only [uI]
    rw [if_neg (by omega), if_neg (by omega)]
    exact hb.2 j (by omega) h2
theorem pU_p {n t k len : Int} {wt : Int → Int} {s : rS} (h : bO n t s) (hr : bR n t 60000000 s) (hn : n ≤ 12) (hk : 1 ≤ k ∧ k ≤ n) (hl : 0 ≤ len) (hw : 1 ≤ wt k) (hw2 : 1 < k → 1 ≤ wt (k - 1)) : bO n t (pU wt len t k s) ∧ bR n t 60000000 (pU wt len t k s) := by
  unfold pU
  simp only []
  have r1 := hr k (by omega) (by omega)
  have r2 := hr (k - 1) (by omega) (by omega)
  rw [show 13 * t + (k - 1) = 13 * t + k - 1 by omega] at r2
  generalize hd : spn s (13 * t + k) = d
  by_cases hc : len < d
  · rw [if_pos hc]
    by_cases e : k = 1
    · rw [if_pos e]
      refine ⟨bO_set h (by omega), bR_set hr ?_ ?_⟩
      · have := td_bt (a := s.1 (13 * t + k) - s.1 (13 * t + k - 1)) (m := d - len) (D := d) (by omega) (by omega) (by omega)
        unfold ab at *
        omega
      · have := td_bt (a := s.2 (13 * t + k) - s.2 (13 * t + k - 1)) (m := d - len) (D := d) (by omega) (by omega) (by omega)
        unfold ab at *
        omega
    · rw [if_neg e]
      have hw3 := hw2 (by omega)
      have hD : 0 < d * (wt (k - 1) + wt k) := Int.mul_pos (by omega) (by omega)
      have e1 : ∀ x, 0 ≤ x → x ≤ wt (k - 1) + wt k → 0 ≤ (d - len) * x ∧ (d - len) * x ≤ d * (wt (k - 1) + wt k) := fun x h0 h1 => ⟨Int.mul_nonneg (by omega) h0, Int.mul_le_mul (by omega) h1 h0 (by omega)⟩
      have p1 := e1 (wt (k - 1)) (by omega) (by omega)
      have p2 := e1 (wt k) (by omega) (by omega)
      have t1 := td_bt (a := s.1 (13 * t + k) - s.1 (13 * t + k - 1)) hD p1.1 p1.2
      have t2 := td_bt (a := s.1 (13 * t + k) - s.1 (13 * t + k - 1)) hD p2.1 p2.2
      have t3 := td_bt (a := s.2 (13 * t + k) - s.2 (13 * t + k - 1)) hD p1.1 p1.2
      have t4 := td_bt (a := s.2 (13 * t + k) - s.2 (13 * t + k - 1)) hD p2.1 p2.2
      rw [← Int.mul_assoc] at t1 t2 t3 t4
      refine ⟨bO_set (s := (uI s.1 _ _, uI s.2 _ _)) (bO_set h (by omega)) (by omega), bR_set (s := (uI s.1 _ _, uI s.2 _ _)) (bR_set hr ?_ ?_) ?_ ?_⟩ <;> (unfold ab at *; omega)
  · rw [if_neg hc]
    exact ⟨h, hr⟩
/-- behind the last step: a place is not farther than LENGTH from the one ahead -/
def bH (n t k len : Int) (s : rS) : Prop := (∀ j, 0 ≤ j → j < k → j ≤ n → ab (119880 + 200 * j) (s.1 (13 * t + j)) ∧ ab (119880 + 200 * j) (s.2 (13 * t + j))) ∧ bR n t 60000000 s
theorem hO_p {n t k len : Int} {s : rS} (h : bO n t s) (hr : bH n t k len s) (hn : n ≤ 12) (hk : 1 ≤ k ∧ k ≤ n) (hl : 0 ≤ len ∧ len ≤ 200) : bO n t (hO len t k s) ∧ bH n t (k + 1) len (hO len t k s) := by
  unfold hO
  simp only []
  have r2 := hr.1 (k - 1) (by omega) (by omega) (by omega)
  rw [show 13 * t + (k - 1) = 13 * t + k - 1 by omega] at r2
  have lg := leg_le (a := s.1 (13 * t + k) - s.1 (13 * t + k - 1)) (b := s.2 (13 * t + k) - s.2 (13 * t + k - 1))
  change ab (spn s (13 * t + k)) _ ∧ ab (spn s (13 * t + k)) _ at lg
  generalize hd : spn s (13 * t + k) = d at lg
  by_cases hc : len < d
  · rw [if_pos hc]
    have q : ∀ a : Int, ab d a → ab len ((a * len).tdiv d) := by
      intro a ha
      have key : ∀ a : Int, 0 ≤ a → a ≤ d → 0 ≤ (a * len).tdiv d ∧ (a * len).tdiv d ≤ len := by
        intro a h0 h1
        have := (td_bt (a := len) (m := a) (D := d) (by omega) h0 h1).1 hl.1
        rwa [Int.mul_comm] at this
      unfold ab at *
      rcases (show 0 ≤ a ∨ a ≤ 0 by omega) with h0 | h0
      · have := key a h0 ha.2; omega
      · have := key (-a) (by omega) (by omega)
        rw [Int.neg_mul, Int.neg_tdiv] at this
        omega
    have q1 := q _ lg.1
    have q2 := q _ lg.2
    refine ⟨bO_set h (by omega), fun j h0 h1 h2 => ?_, bR_set hr.2 (by unfold ab at *; omega) (by unfold ab at *; omega)⟩
    simp only [uI]
    by_cases e : 13 * t + j = 13 * t + k
    · rw [if_pos e, if_pos e]
      unfold ab at *
      omega
    · rw [if_neg e, if_neg e]
      exact hr.1 j h0 (by omega) h2
  · rw [if_neg hc]
    refine ⟨h, fun j h0 h1 h2 => ?_, hr.2⟩
    by_cases e : j = k
    · subst e
      unfold ab at *
      omega
    · exact hr.1 j h0 (by omega) h2

