/-! at first both tell the same -/
theorem s00_e {i : Int} (h0 : 0 ≤ i) (h1 : i < 4) : a00 67 i = a00 3 i ∧ (1 ≤ a00 3 i ∧ a00 3 i ≤ 16) := by
  rcases (show i = 0 ∨ i = 1 ∨ i = 2 ∨ i = 3 by omega) with rfl | rfl | rfl | rfl <;> decide
theorem iv00 : Iv f00 a00 := by
  have z : ∀ B : Int, 0 ≤ B → ab B 0 := fun B h => by unfold ab; omega
  have n20 : f00 2 0 = 4 := rfl
  have n281 : f00 28 1 = 0 := rfl
  have n590 : f00 59 0 = 0 := rfl
  have n591 : f00 59 1 = 0 := rfl
  have n630 : f00 63 0 = 0 := rfl
  refine Iv.mk ?_ ?_ ?_ ?_ ?_ ?_ ?_ ?_ ?_ ?_ ?_ ?_ ?_ ?_ ?_ ?_ ?_ ?_ ?_ ?_ ?_ ?_
  · refine sOK.mk (by decide) (by decide) (by decide) ?_ ?_ ?_ ⟨rfl, rfl⟩ ?_
    · intro i a b
      have b' : i < f00 2 0 := b
      have := s00_e (i := i) a (by omega)
      exact ⟨this.2, by show (0 : Int) ≤ 0 ∧ (0 : Int) < 4; decide⟩
    · show lwK (a00 9)
      unfold lwK
      decide
    · intro t _ _
      exact ⟨z _ (by decide), z _ (by decide)⟩
    · intro i _ _
      show (0 : Int) ≤ 0 ∧ (0 : Int) ≤ 30000
      decide
  · refine eqS.mk rfl rfl rfl rfl ?_ (fun _ _ _ => rfl) (fun _ _ _ => rfl) (fun _ _ _ => rfl) (fun _ _ _ => rfl) (fun _ _ _ => rfl)
    intro i a b
    exact (s00_e a (by omega)).1
  · decide
  · exact ⟨rfl, rfl, by unfold ab; decide, by unfold ab; decide⟩
  · exact ⟨rfl, rfl, by unfold ab; decide, by unfold ab; decide⟩
  · decide
  · intro i a b
    omega
  · rfl
  · decide
  · intro i a b
    omega
  · decide
  · intro i a b
    omega
  · decide
  · intro i a b
    omega
  · exact ⟨rfl, Or.inl rfl⟩
  · exact ⟨rfl, Or.inl rfl⟩
  · exact Or.inl rfl
  · exact Or.inl rfl
  · exact Or.inl rfl
  · exact fun i _ _ => ⟨z _ (by decide), z _ (by decide)⟩
  · exact fun i _ _ => ⟨z _ (by decide), z _ (by decide)⟩
  · exact fun i _ _ => ⟨z _ (by decide), z _ (by decide)⟩

