/-! STRANDS cut from hides: which SETS of STRANDS can be cut from the first hides -/
def sB (L : Int → Int) (c m : Nat) : Int := sI (fun k => if m.testBit k then L k else 0) c
def Rr (set : Nat) (H L : Int → Int) (c : Nat) : Nat → Nat → Prop
  | 0, S => S = 0
  | k + 1, S => Rr set H L c k S ∨ (set.testBit k = true ∧ ∃ s m : Nat, s &&& m = 0 ∧ s ||| m = S ∧ sB L c m ≤ H k ∧ Rr set H L c k s)
section P93
variable {set c h : Nat} {H L : Int → Int}
theorem sI_one {f g : Nat → Int} {d : Int} {i : Nat} (hi : f i = g i + d) (ho : ∀ k, k ≠ i → f k = g k) : ∀ n : Nat, i < n → sI f n = sI g n + d := by
  intro n
  induction n with
  | zero => intro h; omega
  | succ n ih =>
    intro h
    rw [sI, sI]
    by_cases e : i = n
    · subst e
      rw [hi, sI_c i (fun j hj => ho j (by omega))]
      omega
    · rw [ih (by omega), ho n (by omega)]
      omega
theorem tb_x {m i k : Nat} : (m ^^^ 2 ^ i).testBit k = if k = i then !m.testBit k else m.testBit k := by
  rw [Nat.testBit_xor, Nat.testBit_two_pow]
  by_cases e : k = i
  · subst e
    simp
  · rw [if_neg e]
    have : decide (i = k) = false := by simp; omega
    rw [this]
    simp
theorem and0 {s m k : Nat} (h : s &&& m = 0) (hk : s.testBit k = true) : m.testBit k = false := by
  have e := congrArg (fun z => Nat.testBit z k) h
  simp only [Nat.testBit_and, Nat.zero_testBit, hk, Bool.true_and] at e
  exact e
theorem and0' {s m k : Nat} (h : s &&& m = 0) (hk : m.testBit k = true) : s.testBit k = false := by
  rw [Nat.and_comm] at h
  exact and0 h hk
theorem or_b {s m S k : Nat} (h : s ||| m = S) : S.testBit k = (s.testBit k || m.testBit k) := by
  rw [← h, Nat.testBit_or]
theorem mk0 {s m : Nat} (h : ∀ k, ¬ (s.testBit k = true ∧ m.testBit k = true)) : s &&& m = 0 := by
  apply Nat.eq_of_testBit_eq
  intro k
  rw [Nat.testBit_and, Nat.zero_testBit]
  have := h k
  cases a : s.testBit k <;> cases b : m.testBit k <;> simp_all
theorem sB_x {m i : Nat} (hi : i < c) (h : m.testBit i = true) : sB L c m = sB L c (m ^^^ 2 ^ i) + L i := by
  unfold sB
  refine sI_one (i := i) ?_ ?_ c hi
  · simp only [tb_x, h]
    simp
  · intro k e
    simp only [tb_x, if_neg e]
theorem sB_0 : ∀ n : Nat, sB L n 0 = 0 := by
  intro n
  unfold sB
  induction n with
  | zero => rfl
  | succ n ih => rw [sI, ih]; simp
theorem sB_nn {m : Nat} (hL : ∀ k : Int, 0 ≤ k → k < c → 1 ≤ L k) : 0 ≤ sB L c m := by
  have gen : ∀ n : Nat, n ≤ c → 0 ≤ sI (fun k => if m.testBit k then L k else 0) n := by
    intro n
    induction n with
    | zero => intro _; exact Int.le_refl _
    | succ n ih =>
      intro hn
      have a := ih (by omega)
      have b := hL n (by omega) (by omega)
      rw [sI]
      by_cases e : m.testBit n = true
      · rw [if_pos e]; omega
      · rw [if_neg e]; omega
  exact gen c (Nat.le_refl _)
theorem tb_lt {m k : Nat} (hm : m < 2 ^ c) (hk : m.testBit k = true) : k < c := by
  by_cases e : k < c
  · exact e
  · have : m < 2 ^ k := Nat.lt_of_lt_of_le hm (Nat.pow_le_pow_right (by decide) (by omega))
    rw [Nat.testBit_lt_two_pow this] at hk
    exact absurd hk (by decide)
theorem c256 (hc : c ≤ 8) : 2 ^ c ≤ 256 := Nat.le_trans (Nat.pow_le_pow_right (by decide) hc) (by decide)
theorem ex_b {m : Nat} (hc : c ≤ 8) (hm : m < 2 ^ c) (h0 : m ≠ 0) : ∃ i, i < c ∧ m.testBit i = true := by
  have := c256 hc
  obtain ⟨k, hk⟩ := ex256 ⟨m, by omega⟩ h0
  exact ⟨k.val, tb_lt hm hk, hk⟩
theorem or_le {s m S : Nat} (h : s ||| m = S) : s ≤ S ∧ m ≤ S := by
  rw [← h]
  exact ⟨Nat.left_le_or, Nat.right_le_or⟩
/-- more hides can cut no less -/
theorem Rr.up {S : Nat} : ∀ {k j : Nat}, k ≤ j → Rr set H L c k S → Rr set H L c j S := by
  intro k j
  induction j with
  | zero => intro h r; rw [show k = 0 by omega] at r; exact r
  | succ j ih =>
    intro h r
    by_cases e : k = j + 1
    · rw [← e]; exact r
    · exact Or.inl (ih (by omega) r)
/-- how far the hides are used is how far they can be used -/
def Sd (set : Nat) (H L : Int → Int) (c h D : Nat) (v : Int) : Prop := ∃ k s m : Nat, s &&& m = 0 ∧ s ||| m = D ∧ Rr set H L c k s ∧ v = 1000 * k + sB L c m ∧ (0 ≤ sB L c m ∧ sB L c m < 1000) ∧ (D = 0 ∧ v = 0 ∨ k < h ∧ set.testBit k = true ∧ sB L c m ≤ H k)
/-- and no less is needed -/
def Cp (set : Nat) (H L : Int → Int) (c h D : Nat) (v : Int) : Prop := ∀ k s m : Nat, k < h → set.testBit k = true → s &&& m = 0 → s ||| m = D → m ≠ 0 → sB L c m ≤ H k → Rr set H L c k s → v ≠ -1 ∧ v ≤ 1000 * k + sB L c m
/-- what afterCut answers, from hide k0 of which u0 is used -/
def Ac (set : Nat) (H : Int → Int) (h k0 : Nat) (u0 len r : Int) : Prop := (r = -1 ∧ ∀ k : Nat, k0 ≤ k → k < h → set.testBit k = true → H k < (if k = k0 then u0 else 0) + len) ∨ ∃ k : Nat, k0 ≤ k ∧ k < h ∧ set.testBit k = true ∧ (if k = k0 then u0 else 0) + len ≤ H k ∧ r = 1000 * k + (if k = k0 then u0 else 0) + len ∧ ∀ j : Nat, k0 ≤ j → j < k → set.testBit j = true → H j < (if j = k0 then u0 else 0) + len
theorem Sd.step {D i k0 : Nat} {v r u0 : Int} (hL : ∀ k : Int, 0 ≤ k → k < c → 1 ≤ L k) (hH : ∀ k : Int, 0 ≤ k → k < h → H k ≤ 999) (hi : i < c) (hD : D.testBit i = true) (hs : Sd set H L c h (D ^^^ 2 ^ i) v) (hv : v = 1000 * k0 + u0) (hu : 0 ≤ u0 ∧ u0 < 1000) (ha : Ac set H h k0 u0 (L i) r) (hr : r ≠ -1) : Sd set H L c h D r := by
  obtain ⟨k, s, m, p0, p1, p2, p3, p4, p5⟩ := hs
  have ek : k = k0 := by omega
  subst ek
  have eu : u0 = sB L c m := by omega
  subst eu
  have hbi : ∀ j, (D ^^^ 2 ^ i).testBit j = if j = i then false else D.testBit j := fun j => by
    rw [tb_x]
    by_cases e : j = i
    · subst e; rw [if_pos rfl, if_pos rfl, hD]; rfl
    · rw [if_neg e, if_neg e]
  have hsi : s.testBit i = false ∧ m.testBit i = false := by
    have := or_b (k := i) p1
    rw [hbi i, if_pos rfl] at this
    exact Bool.or_eq_false_iff.mp this.symm
  rcases ha with ⟨a1, -⟩ | ⟨k', a1, a2, a3, a4, a5, -⟩
  · exact absurd a1 hr
  · have hLi := hL i (by omega) (by omega)
    have hHk := hH k' (by omega) (by omega)
    by_cases e : k' = k
    · subst e
      rw [if_pos rfl] at a4 a5
      have hmi : (m ^^^ 2 ^ i).testBit i = true := by rw [tb_x, if_pos rfl, hsi.2]; rfl
      have hmm : (m ^^^ 2 ^ i) ^^^ 2 ^ i = m := by
        apply Nat.eq_of_testBit_eq
        intro j
        rw [tb_x, tb_x]
        by_cases q : j = i
        · rw [if_pos q, if_pos q]; simp
        · rw [if_neg q, if_neg q]
      have hsB : sB L c (m ^^^ 2 ^ i) = sB L c m + L i := by rw [sB_x hi hmi, hmm]
      refine ⟨k', s, m ^^^ 2 ^ i, ?_, ?_, p2, by omega, by omega, Or.inr ⟨a2, a3, by omega⟩⟩
      · refine mk0 (fun j q => ?_)
        have q2 := q.2
        rw [tb_x] at q2
        by_cases w : j = i
        · subst w; rw [hsi.1] at q; exact absurd q.1 (by decide)
        · rw [if_neg w, and0 p0 q.1] at q2
          exact absurd q2 (by decide)
      · apply Nat.eq_of_testBit_eq
        intro j
        rw [Nat.testBit_or, tb_x]
        have := or_b (k := j) p1
        rw [hbi j] at this
        by_cases w : j = i
        · subst w
          rw [if_pos rfl, hD, hsi.1, hsi.2]
          rfl
        · rw [if_neg w] at this ⊢
          exact this.symm
    · rw [if_neg e] at a4 a5
      have e2 : sB L c (2 ^ i) = L i := by
        have hb : (2 ^ i : Nat).testBit i = true := by rw [Nat.testBit_two_pow]; simp
        rw [sB_x hi hb, Nat.xor_self, sB_0]
        omega
      have hR : Rr set H L c k' (D ^^^ 2 ^ i) := by
        rcases p5 with ⟨q1, q2⟩ | ⟨q1, q2, q3⟩
        · rw [q1]
          exact Rr.up (k := 0) (by omega) rfl
        · refine Rr.up (k := k + 1) (by omega) (Or.inr ⟨q2, s, m, p0, p1, q3, p2⟩)
      refine ⟨k', D ^^^ 2 ^ i, 2 ^ i, ?_, ?_, hR, by omega, by omega, Or.inr ⟨a2, a3, by omega⟩⟩
      · refine mk0 (fun j q => ?_)
        have q2 := q.2
        rw [Nat.testBit_two_pow] at q2
        have w : i = j := by simpa using q2
        rw [hbi j, if_pos w.symm] at q
        exact absurd q.1 (by decide)
      · apply Nat.eq_of_testBit_eq
        intro j
        rw [Nat.testBit_or, hbi j, Nat.testBit_two_pow]
        by_cases w : j = i
        · subst w
          rw [if_pos rfl, hD]
          simp
        · rw [if_neg w]
          have : decide (i = j) = false := by simp; omega
          rw [this]
          simp
theorem Cp.zero {D : Nat} {v : Int} (hH : ∀ k : Int, 0 ≤ k → k < h → H k ≤ 999) (hc : Cp set H L c h D v) (h0 : D = 0 → v = 0) : ∀ {k : Nat}, k ≤ h → Rr set H L c k D → v ≠ -1 ∧ v ≤ 1000 * k := by
  intro k
  induction k with
  | zero =>
    intro _ r
    have := h0 r
    omega
  | succ k ih =>
    intro hk r
    rcases r with r | ⟨r1, s, m, r2, r3, r4, r5⟩
    · have := ih (by omega) r
      omega
    · by_cases e : m = 0
      · subst e
        rw [Nat.or_zero] at r3
        rw [r3] at r5
        have := ih (by omega) r5
        omega
      · have a := hc k s m (by omega) r1 r2 r3 e r4 r5
        have b := hH k (by omega) (by omega)
        omega
theorem Cp.step {D : Nat} {v : Int} {w : Nat → Int} (hc8 : c ≤ 8) (hD : D < 2 ^ c) (hL : ∀ k : Int, 0 ≤ k → k < c → 1 ≤ L k) (hH : ∀ k : Int, 0 ≤ k → k < h → H k ≤ 999)
    (hw : ∀ i, i < c → D.testBit i = true → (w i ≠ -1 → Sd set H L c h (D ^^^ 2 ^ i) (w i)) ∧ Cp set H L c h (D ^^^ 2 ^ i) (w i) ∧ (D ^^^ 2 ^ i = 0 → w i = 0))
    (hv : ∀ i, i < c → D.testBit i = true → w i ≠ -1 → ∀ (k0 : Nat) (u0 : Int), w i = 1000 * k0 + u0 → 0 ≤ u0 ∧ u0 < 1000 → ∃ r, Ac set H h k0 u0 (L i) r ∧ (r ≠ -1 → v ≠ -1 ∧ v ≤ r)) : Cp set H L c h D v := by
  intro k s m hk hkb p0 p1 m0 hm hR
  have hmD := (or_le p1).2
  obtain ⟨i, hi, hmi⟩ := ex_b hc8 (Nat.lt_of_le_of_lt hmD hD) m0
  have hDi : D.testBit i = true := by rw [or_b p1, hmi]; simp
  have hsi := and0' p0 hmi
  obtain ⟨w1, w2, w3⟩ := hw i hi hDi
  have q0 : s &&& (m ^^^ 2 ^ i) = 0 := by
    refine mk0 (fun j q => ?_)
    have q2 := q.2
    rw [tb_x] at q2
    by_cases e : j = i
    · subst e; rw [hsi] at q; exact absurd q.1 (by decide)
    · rw [if_neg e, and0 p0 q.1] at q2
      exact absurd q2 (by decide)
  have q1 : s ||| (m ^^^ 2 ^ i) = D ^^^ 2 ^ i := by
    apply Nat.eq_of_testBit_eq
    intro j
    rw [Nat.testBit_or, tb_x, tb_x]
    have := or_b (k := j) p1
    by_cases e : j = i
    · subst e
      rw [if_pos rfl, if_pos rfl, hDi, hmi, hsi]
      rfl
    · rw [if_neg e, if_neg e]
      exact this.symm
  have hsB : sB L c m = sB L c (m ^^^ 2 ^ i) + L i := sB_x hi hmi
  have hnn := sB_nn (c := c) (m := m ^^^ 2 ^ i) hL
  have hLi := hL i (by omega) (by omega)
  have hwb : w i ≠ -1 ∧ w i ≤ 1000 * k + sB L c (m ^^^ 2 ^ i) := by
    by_cases e : m ^^^ 2 ^ i = 0
    · rw [e, Nat.or_zero] at q1
      rw [q1] at hR
      have := Cp.zero hH w2 w3 (k := k) (by omega) hR
      omega
    · exact w2 k s _ hk hkb q0 q1 e (by omega) hR
  obtain ⟨k0, s', m', -, -, -, e3, e4, -⟩ := w1 hwb.1
  obtain ⟨r, hA, hr⟩ := hv i hi hDi hwb.1 k0 (sB L c m') e3 e4
  have hHk := hH k (by omega) (by omega)
  have hk0 : k0 ≤ k := by omega
  have fit : (if k = k0 then sB L c m' else 0) + L i ≤ H k ∧ (if k = k0 then sB L c m' else 0) + L i ≤ sB L c m := by
    by_cases e : k = k0
    · rw [if_pos e]; subst e; omega
    · rw [if_neg e]; omega
  rcases hA with ⟨a1, a2⟩ | ⟨k', a1, a2, a3, a4, a5, a6⟩
  · have := a2 k hk0 hk hkb
    omega
  · have hHk' := hH k' (by omega) (by omega)
    by_cases e : k < k'
    · have := a6 k hk0 e hkb
      omega
    · have u0 : 0 ≤ (if k' = k0 then sB L c m' else 0) := by
        by_cases f : k' = k0
        · rw [if_pos f]; omega
        · rw [if_neg f]; omega
      have := hr (by omega)
      refine ⟨this.1, ?_⟩
      by_cases f : k' = k
      · subst f
        omega
      · omega
/-- all STRANDS can be cut just if the last SET is reached -/
theorem cut_iff {D : Nat} {v : Int} (hH : ∀ k : Int, 0 ≤ k → k < h → H k ≤ 999) (hs : v ≠ -1 → Sd set H L c h D v) (hc : Cp set H L c h D v) (h0 : D = 0 → v = 0) : v ≠ -1 ↔ Rr set H L c h D := by
  constructor
  · intro e
    obtain ⟨k, s, m, p0, p1, p2, p3, p4, p5⟩ := hs e
    rcases p5 with ⟨q1, q2⟩ | ⟨q1, q2, q3⟩
    · rw [q1]
      exact Rr.up (k := 0) (by omega) rfl
    · exact Rr.up (k := k + 1) (by omega) (Or.inr ⟨q2, s, m, p0, p1, q3, p2⟩)
  · intro r
    exact (Cp.zero hH hc h0 (k := h) (Nat.le_refl _) r).1
end P93

