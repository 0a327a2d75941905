/-! WAYS told in a text: how many ticks there can be -/
def pw9 : skT → Int
  | [] => 1
  | _ :: st => 9 * pw9 st
theorem pu_lin : ∀ (st : skT) (x y : Int), pu st (x + y) = pu st x + pw9 st * y := by
  intro st
  induction st with
  | nil => intro x y; show x + y = x + 1 * y; omega
  | cons e st ih =>
    intro x y
    show pu st (tsm e.2 + 9 * (x + y)) = pu st (tsm e.2 + 9 * x) + 9 * pw9 st * y
    rw [show tsm e.2 + 9 * (x + y) = (tsm e.2 + 9 * x) + 9 * y by omega, ih, Int.mul_left_comm, Int.mul_assoc]
theorem pw9_1 : ∀ st : skT, 1 ≤ pw9 st := by
  intro st
  induction st with
  | nil => show (1 : Int) ≤ 1; decide
  | cons e st ih => show 1 ≤ 9 * pw9 st; omega
theorem pw9_3 : ∀ st : skT, st.length ≤ 3 → pw9 st ≤ 729 := by
  intro st h
  match st with
  | [] => show (1 : Int) ≤ 729; decide
  | [_] => show (9 * 1 : Int) ≤ 729; decide
  | [_, _] => show (9 * (9 * 1) : Int) ≤ 729; decide
  | [_, _, _] => show (9 * (9 * (9 * 1)) : Int) ≤ 729; decide
  | _ :: _ :: _ :: _ :: st => exact absurd h (by simp only [List.length_cons]; omega)
def nnE (st : skT) : Prop := ∀ e ∈ st, 0 ≤ tsm e.2 ∧ 2 ≤ e.1 ∧ e.1 ≤ 9
theorem tsm_pz : ∀ (st : skT) (c : lwT), nnE st → 0 ≤ tsm c → 0 ≤ tsm (pz st c) ∧ tsm (pz st c) ≤ pu st (tsm c) := by
  intro st
  induction st with
  | nil => intro c _ h; exact ⟨h, Int.le_refl _⟩
  | cons e st ih =>
    intro c hn h
    have he := hn e (by simp)
    have i := ih e.2 (fun x hx => hn x (by simp [hx])) he.1
    show 0 ≤ tsm (pz st e.2 ++ c) ∧ tsm (pz st e.2 ++ c) ≤ pu st (tsm e.2 + 9 * tsm c)
    rw [tsm_app, pu_lin]
    have h1 : 1 * (9 * tsm c) ≤ pw9 st * (9 * tsm c) := Int.mul_le_mul_of_nonneg_right (pw9_1 st) (by omega)
    omega
theorem sm_one {c : lwT} {st : skT} {o : opT} (h2 : o.1 ≠ 2) (h3 : o.1 ≠ 3) : smS (c, st) o = (c ++ [(o.2.1, o.2.2.1, o.2.2.2)], st) := by
  unfold smS
  rw [if_neg h2, if_neg h3]
theorem sm_two {c : lwT} {st : skT} {o : opT} (h2 : o.1 = 2) : smS (c, st) o = ([], (o.2.2.2, c) :: st) := by
  unfold smS
  rw [if_pos h2]
theorem sm_thr {c p : lwT} {m : Int} {st : skT} {o : opT} (h3 : o.1 = 3) : smS (c, (m, p) :: st) o = (p ++ rpt c m.toNat, st) := by
  unfold smS
  rw [if_neg (by omega), if_pos h3]
  rfl
/-- what a part does to it -/
theorem pu_step {c : lwT} {st : skT} {o : opT} (hl : st.length ≤ 3) (hn : nnE st) (hc : 0 ≤ tsm c) (ho : opK o) (hd : o.1 = 3 → 0 < st.length) : (nnE (smS (c, st) o).2 ∧ 0 ≤ tsm (smS (c, st) o).1) ∧ pu (smS (c, st) o).2 (tsm (smS (c, st) o).1) ≤ pu st (tsm c) + 21870 ∧ (smS (c, st) o).2.length = dpO st.length o := by
  have one : o.1 ≠ 2 → o.1 ≠ 3 → 1 ≤ o.2.2.2 → o.2.2.2 ≤ 30 → (nnE (smS (c, st) o).2 ∧ 0 ≤ tsm (smS (c, st) o).1) ∧ pu (smS (c, st) o).2 (tsm (smS (c, st) o).1) ≤ pu st (tsm c) + 21870 ∧ (smS (c, st) o).2.length = dpO st.length o := fun h2 h3 t1 t2 => by
    rw [sm_one h2 h3]
    show (nnE st ∧ 0 ≤ tsm (c ++ [(o.2.1, o.2.2.1, o.2.2.2)])) ∧ pu st (tsm (c ++ [(o.2.1, o.2.2.1, o.2.2.2)])) ≤ pu st (tsm c) + 21870 ∧ st.length = dpO st.length o
    rw [tsm_app, tsm_one, pu_lin]
    show (nnE st ∧ 0 ≤ tsm c + o.2.2.2) ∧ pu st (tsm c) + pw9 st * o.2.2.2 ≤ pu st (tsm c) + 21870 ∧ st.length = dpO st.length o
    have h1 : pw9 st * o.2.2.2 ≤ 729 * o.2.2.2 := Int.mul_le_mul_of_nonneg_right (pw9_3 st hl) (by omega)
    refine ⟨⟨hn, by omega⟩, by omega, ?_⟩
    unfold dpO
    rw [if_neg h2, if_neg h3]
  rcases ho with ⟨k, _, _, t1, t2⟩ | ⟨k, _, _, t1, t2⟩ | ⟨k, t1, t2⟩ | k
  · exact one (by omega) (by omega) t1 t2
  · exact one (by omega) (by omega) t1 t2
  · rw [sm_two k]
    refine ⟨⟨fun e he => ?_, by show 0 ≤ tsm []; decide⟩, ?_, ?_⟩
    · rcases List.mem_cons.mp he with x | x
      · subst x
        exact ⟨hc, t1, t2⟩
      · exact hn e x
    · show pu st (tsm c + 9 * tsm []) ≤ pu st (tsm c) + 21870
      rw [show tsm [] = 0 from rfl, show tsm c + 9 * 0 = tsm c by omega]
      omega
    · unfold dpO
      rw [if_pos k]
      rfl
  · cases st with
    | nil => exact absurd (hd k) (by decide)
    | cons e st =>
      obtain ⟨m, p⟩ := e
      have he := hn (m, p) (by simp)
      have hp : 0 ≤ tsm p := he.1
      have hm : 2 ≤ m ∧ m ≤ 9 := he.2
      rw [sm_thr k]
      have em : ((m.toNat : Nat) : Int) = m := by omega
      have mt : 0 ≤ m * tsm c := Int.mul_nonneg (by omega) hc
      refine ⟨⟨fun x hx => hn x (by simp [hx]), ?_⟩, ?_, ?_⟩
      · show 0 ≤ tsm (p ++ rpt c m.toNat)
        rw [tsm_app, rpt_tsm, em]
        omega
      · show pu st (tsm (p ++ rpt c m.toNat)) ≤ pu st (tsm p + 9 * tsm c) + 21870
        rw [tsm_app, rpt_tsm, em]
        have e9 : tsm p + 9 * tsm c = (tsm p + m * tsm c) + (9 - m) * tsm c := by
          rw [Int.sub_mul]
          omega
        rw [e9, pu_lin st (tsm p + m * tsm c)]
        have h9 : 0 ≤ (9 - m) * tsm c := Int.mul_nonneg (by omega) hc
        have := Int.mul_nonneg (show 0 ≤ pw9 st by have := pw9_1 st; omega) h9
        omega
      · unfold dpO
        rw [if_neg (by omega), if_pos k]
        rfl

