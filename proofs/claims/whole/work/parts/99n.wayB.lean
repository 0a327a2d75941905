/-! WAYS: bounds of what is read and of the positions -/
def smB (s : lwT × skT) : Prop := (∀ x ∈ s.1, stB x) ∧ ∀ e ∈ s.2, ∀ x ∈ e.2, stB x
theorem rpt_mem {c : lwT} {x : stT'} : ∀ k : Nat, x ∈ rpt c k → x ∈ c := by
  intro k
  induction k with
  | zero => intro h; exact absurd h (by simp [rpt])
  | succ k ih =>
    intro h
    rw [rpt_s] at h
    rcases List.mem_append.mp h with y | y
    · exact y
    · exact ih y
theorem smB_step {c : lwT} {st : skT} {o : opT} (h : smB (c, st)) (ho : opK o) (hd : o.1 = 3 → 0 < st.length) : smB (smS (c, st) o) := by
  have h1 : ∀ x ∈ c, stB x := h.1
  have h2 : ∀ e ∈ st, ∀ x ∈ e.2, stB x := h.2
  have one : o.1 ≠ 2 → o.1 ≠ 3 → stB (o.2.1, o.2.2.1, o.2.2.2) → smB (smS (c, st) o) := fun n2 n3 hs => by
    rw [sm_one n2 n3]
    refine ⟨fun x hx => ?_, h2⟩
    rcases List.mem_append.mp hx with y | y
    · exact h1 x y
    · rw [List.mem_singleton.mp y]
      exact hs
  rcases ho with ⟨k, b1, b2, t1, t2⟩ | ⟨k, b1, b2, t1, t2⟩ | ⟨k, t1, t2⟩ | k
  · exact one (by omega) (by omega) ⟨b1, b2, t1, t2⟩
  · refine one (by omega) (by omega) ⟨?_, ?_, t1, t2⟩
    · show ab 999 o.2.1
      unfold ab; omega
    · show ab 999 o.2.2.1
      unfold ab; omega
  · rw [sm_two k]
    refine ⟨fun x hx => absurd hx (by simp), fun e he => ?_⟩
    rcases List.mem_cons.mp he with y | y
    · subst y
      exact h1
    · exact h2 e y
  · cases st with
    | nil => exact absurd (hd k) (by decide)
    | cons e st =>
      obtain ⟨m, p⟩ := e
      rw [sm_thr k]
      refine ⟨fun x hx => ?_, fun e he => h2 e (by simp [he])⟩
      rcases List.mem_append.mp hx with y | y
      · exact h2 (m, p) (by simp) x y
      · exact h1 x (rpt_mem _ y)
def psB (B : Int) (l : poT) : Prop := ∀ x ∈ l, ab B x.1 ∧ ab B x.2
theorem td_999 {a m D : Int} (ha : ab 999 a) (h0 : 0 ≤ m) (h1 : m ≤ D) (hD : 0 < D) : ab 999 ((a * m).tdiv D) := by
  have t := td_bt (a := a) hD h0 h1
  unfold ab at *
  by_cases c : 0 ≤ a
  · have := t.1 c
    omega
  · have := t.2 (by omega)
    omega
theorem psB_step {B : Int} {l : poT} {s : stT'} (hB : 0 ≤ B) (h : psB B l) (hs : stB s) : psB (B + 999) (ptS l s) := by
  have hl : ab B (lsP l).1 ∧ ab B (lsP l).2 := by
    unfold lsP
    cases e : l[l.length - 1]? with
    | none => show ab B 0 ∧ ab B 0; unfold ab; omega
    | some x => exact h x (List.mem_of_getElem? e)
  obtain ⟨s1, s2, s3, s4⟩ := hs
  intro x hx
  unfold ptS at hx
  rcases List.mem_append.mp hx with y | y
  · have := h x y
    unfold ab at *
    omega
  · unfold ptL at y
    obtain ⟨j, hj, e⟩ := List.mem_map.mp y
    have hj' := List.mem_range.mp hj
    have d1 := td_999 (m := (j : Int) + 1) s1 (by omega) (by omega) (show 0 < s.2.2 by omega)
    have d2 := td_999 (m := (j : Int) + 1) s2 (by omega) (by omega) (show 0 < s.2.2 by omega)
    rw [← e]
    unfold ptN
    unfold ab at *
    show (-(B + 999) ≤ (lsP l).1 + _ ∧ (lsP l).1 + _ ≤ B + 999) ∧ (-(B + 999) ≤ (lsP l).2 + _ ∧ (lsP l).2 + _ ≤ B + 999)
    omega
theorem psB_all : ∀ (L : lwT) (l : poT) (B : Int), 0 ≤ B → psB B l → (∀ s ∈ L, stB s) → psB (B + 999 * L.length) (L.foldl ptS l) := by
  intro L
  induction L with
  | nil => intro l B _ h _; show psB (B + 999 * 0) l; rw [show B + 999 * 0 = B by omega]; exact h
  | cons s L ih =>
    intro l B hB h hb
    have := ih (ptS l s) (B + 999) (by omega) (psB_step hB h (hb s (by simp))) (fun x hx => hb x (by simp [hx]))
    rw [List.foldl_cons, List.length_cons, show B + 999 * ((L.length + 1 : Nat) : Int) = B + 999 + 999 * (L.length : Int) by omega]
    exact this

