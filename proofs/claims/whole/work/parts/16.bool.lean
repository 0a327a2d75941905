section R16
variable {G : gT} {M N : mT} {Q : Option Value → wT → Prop} {kc ks pc q t i n : Nat} {lc lc' : List (Option Value)} {st rest : List Value} {w : wT} {F F' : fT} {A A' : nT}
theorem V_ifeqB {P : Prop} {hP : Decidable P} (d : dj M pc (.ifCond .eq) q t) (kt : ¬ P → V G M Q kc ks t lc st w) (kf : P → V G M Q kc ks q lc st w) : V G M Q kc ks pc lc (vi (@ite Int P hP 1 0) :: st) w := by
  by_cases h : P
  · rw [if_pos h]
    exact V_ifeq d (fun h1 => absurd h1 (by decide)) (fun _ => kf h)
  · rw [if_neg h]
    exact V_ifeq d (fun _ => kt h) (fun h1 => absurd rfl h1)
theorem V_ifneB {P : Prop} {hP : Decidable P} (d : dj M pc (.ifCond .ne) q t) (kt : P → V G M Q kc ks t lc st w) (kf : ¬ P → V G M Q kc ks q lc st w) : V G M Q kc ks pc lc (vi (@ite Int P hP 1 0) :: st) w := by
  by_cases h : P
  · rw [if_pos h]
    exact V_ifne d (fun _ => kt h) (fun h1 => absurd h1 (by decide))
  · rw [if_neg h]
    exact V_ifne d (fun h1 => absurd rfl h1) (fun _ => kf h)
theorem bI_z {P : Prop} {hP : Decidable P} : (@ite Int P hP 1 0) = 0 ∨ (@ite Int P hP 1 0) = 1 := by
  by_cases h : P
  · exact Or.inr (if_pos h)
  · exact Or.inl (if_neg h)
end R16
/-- two rows that follow a cell: what they hold, the rest as it was -/
def s2 (A : nT) (f : Nat) (X Y : Int → Int) : nT := sA (sA A (f + 1) X) (f + 2) Y
theorem sA_eq {A : nT} {o : Nat} {f : Int → Int} : sA A o f o = f := if_pos rfl
theorem sA_ne {A : nT} {o o' : Nat} {f : Int → Int} (h : o' ≠ o) : sA A o f o' = A o' := if_neg h
theorem sA_sA {A : nT} {o : Nat} {f g : Int → Int} : sA (sA A o f) o g = sA A o g := by
  funext j
  by_cases h : j = o
  · simp [sA, h]
  · simp [sA, h]
theorem sA_self {A : nT} {o : Nat} : sA A o (A o) = A := by
  funext j
  by_cases h : j = o
  · subst h; simp [sA]
  · simp [sA, h]
theorem sA_comm {A : nT} {o p : Nat} {f g : Int → Int} (h : o ≠ p) : sA (sA A o f) p g = sA (sA A p g) o f := by
  funext j
  by_cases h1 : j = o
  · subst h1; simp [sA, h]
  · simp [sA, h1]
theorem uF_eq {F : fT} {o k : Nat} {z : Int} : uF F o k z o k = z := if_pos ⟨rfl, rfl⟩
theorem uF_ne {F : fT} {o k o' k' : Nat} {z : Int} (h : o' ≠ o ∨ k' ≠ k) : uF F o k z o' k' = F o' k' := if_neg (fun ⟨h1, h2⟩ => h.elim (fun x => x h1) (fun x => x h2))
theorem uF_uF {F : fT} {o k : Nat} {z y : Int} : uF (uF F o k z) o k y = uF F o k y := by
  funext a b
  by_cases h : a = o ∧ b = k
  · simp [uF, h]
  · simp [uF, h]
theorem uF_self {F : fT} {o k : Nat} : uF F o k (F o k) = F := by
  funext a b
  by_cases h : a = o ∧ b = k
  · obtain ⟨rfl, rfl⟩ := h; simp [uF]
  · simp [uF, h]
theorem uI_eq {f : Int → Int} {i x : Int} : uI f i x i = x := if_pos rfl
theorem uI_ne {f : Int → Int} {i x j : Int} (h : j ≠ i) : uI f i x j = f j := if_neg h
theorem s2_1 {A : nT} {f : Nat} {X Y : Int → Int} : s2 A f X Y (f + 1) = X := by simp [s2, sA]
theorem s2_2 {A : nT} {f : Nat} {X Y : Int → Int} : s2 A f X Y (f + 2) = Y := by simp [s2, sA]
theorem s2_o {A : nT} {f o : Nat} {X Y : Int → Int} (h : o ≠ f + 1 ∧ o ≠ f + 2) : s2 A f X Y o = A o := by simp [s2, sA, h.1, h.2]
theorem s2_u1 {A : nT} {f : Nat} {X Y X' : Int → Int} : sA (s2 A f X Y) (f + 1) X' = s2 A f X' Y := by
  unfold s2
  rw [sA_comm (by omega : f + 2 ≠ f + 1), sA_sA]
theorem s2_u2 {A : nT} {f : Nat} {X Y Y' : Int → Int} : sA (s2 A f X Y) (f + 2) Y' = s2 A f X Y' := by
  unfold s2
  rw [sA_sA]
theorem s2_self {A : nT} {f : Nat} : s2 A f (A (f + 1)) (A (f + 2)) = A := by
  unfold s2
  rw [sA_self, sA_self]
theorem s2_s2 {A : nT} {f : Nat} {X Y X' Y' : Int → Int} : s2 (s2 A f X Y) f X' Y' = s2 A f X' Y' := by
  rw [s2, s2_u1, s2_u2]

