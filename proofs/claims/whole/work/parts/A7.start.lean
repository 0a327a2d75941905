/-! THE START: what the Statement gives, in the layer's words -/
def fL1 : List Cond := flatC (Jvm.Cond.and given_1 narrow_1)
def hB (s : State) : Nat → Prop := fun q => s.heap.size ≤ q
theorem hB_n {s : State} : ∀ a : Nat, a < s.heap.size → ¬ hB s a := fun a h1 h2 => Nat.not_le.mpr h1 h2
def stP (s : State) (j t : Nat) : Prop := va_Z RX10 (stN j) "[I" (.ref t) (hB s) s s.heap ∧ va_T .int t (stV j).length (fun k => .int (Int32.ofInt ((stV j).getD k 0))) (hB s) s s.heap
set_option maxRecDepth 100000 in
theorem st_0 {args : Array Value} {s : State} (hs : ∀ w ∈ fL1, w.before args s = true) (ht : ∀ w ∈ lw_tbl, w.before args s = true) : ∃ t, stP s 0 t := by
  obtain ⟨t, e, h⟩ := va_Tof (args := args) (s := s) (tm := .static RX10 (stN 0) "[I") (ty := .int) (N := (stV 0).length) (f := fun k => .int (Int32.ofInt ((stV 0).getD k 0))) (A := hB s) (by decide) (hs _ (by decide +kernel)) (va_eqt (hs _ (by decide +kernel))) (fun k hk => by
    have hk : k < 4 := hk
    rcases (show k = 0 ∨ k = 1 ∨ k = 2 ∨ k = 3 by omega) with rfl | rfl | rfl | rfl <;> exact va_eqt (hs _ (by decide +kernel))) hB_n
  exact ⟨t, va_Zof (ht (.laysStatic RX10 (stN 0) "[I") (by decide +kernel)) (ht (.initialized RX10) (by decide +kernel)) e hB_n, h⟩
set_option maxRecDepth 100000 in
theorem st_1 {args : Array Value} {s : State} (hs : ∀ w ∈ fL1, w.before args s = true) (ht : ∀ w ∈ lw_tbl, w.before args s = true) : ∃ t, stP s 1 t := by
  obtain ⟨t, e, h⟩ := va_Tof (args := args) (s := s) (tm := .static RX10 (stN 1) "[I") (ty := .int) (N := (stV 1).length) (f := fun k => .int (Int32.ofInt ((stV 1).getD k 0))) (A := hB s) (by decide) (hs _ (by decide +kernel)) (va_eqt (hs _ (by decide +kernel))) (fun k hk => by
    have hk : k < 4 := hk
    rcases (show k = 0 ∨ k = 1 ∨ k = 2 ∨ k = 3 by omega) with rfl | rfl | rfl | rfl <;> exact va_eqt (hs _ (by decide +kernel))) hB_n
  exact ⟨t, va_Zof (ht (.laysStatic RX10 (stN 1) "[I") (by decide +kernel)) (ht (.initialized RX10) (by decide +kernel)) e hB_n, h⟩
set_option maxRecDepth 100000 in
theorem st_2 {args : Array Value} {s : State} (hs : ∀ w ∈ fL1, w.before args s = true) (ht : ∀ w ∈ lw_tbl, w.before args s = true) : ∃ t, stP s 2 t := by
  obtain ⟨t, e, h⟩ := va_Tof (args := args) (s := s) (tm := .static RX10 (stN 2) "[I") (ty := .int) (N := (stV 2).length) (f := fun k => .int (Int32.ofInt ((stV 2).getD k 0))) (A := hB s) (by decide) (hs _ (by decide +kernel)) (va_eqt (hs _ (by decide +kernel))) (fun k hk => by
    have hk : k < 4 := hk
    rcases (show k = 0 ∨ k = 1 ∨ k = 2 ∨ k = 3 by omega) with rfl | rfl | rfl | rfl <;> exact va_eqt (hs _ (by decide +kernel))) hB_n
  exact ⟨t, va_Zof (ht (.laysStatic RX10 (stN 2) "[I") (by decide +kernel)) (ht (.initialized RX10) (by decide +kernel)) e hB_n, h⟩
set_option maxRecDepth 100000 in
theorem st_3 {args : Array Value} {s : State} (hs : ∀ w ∈ fL1, w.before args s = true) (ht : ∀ w ∈ lw_tbl, w.before args s = true) : ∃ t, stP s 3 t := by
  obtain ⟨t, e, h⟩ := va_Tof (args := args) (s := s) (tm := .static RX10 (stN 3) "[I") (ty := .int) (N := (stV 3).length) (f := fun k => .int (Int32.ofInt ((stV 3).getD k 0))) (A := hB s) (by decide) (hs _ (by decide +kernel)) (va_eqt (hs _ (by decide +kernel))) (fun k hk => by
    have hk : k < 5 := hk
    rcases (show k = 0 ∨ k = 1 ∨ k = 2 ∨ k = 3 ∨ k = 4 by omega) with rfl | rfl | rfl | rfl | rfl <;> exact va_eqt (hs _ (by decide +kernel))) hB_n
  exact ⟨t, va_Zof (ht (.laysStatic RX10 (stN 3) "[I") (by decide +kernel)) (ht (.initialized RX10) (by decide +kernel)) e hB_n, h⟩
set_option maxRecDepth 100000 in
theorem st_4 {args : Array Value} {s : State} (hs : ∀ w ∈ fL1, w.before args s = true) (ht : ∀ w ∈ lw_tbl, w.before args s = true) : ∃ t, stP s 4 t := by
  obtain ⟨t, e, h⟩ := va_Tof (args := args) (s := s) (tm := .static RX10 (stN 4) "[I") (ty := .int) (N := (stV 4).length) (f := fun k => .int (Int32.ofInt ((stV 4).getD k 0))) (A := hB s) (by decide) (hs _ (by decide +kernel)) (va_eqt (hs _ (by decide +kernel))) (fun k hk => by
    have hk : k < 5 := hk
    rcases (show k = 0 ∨ k = 1 ∨ k = 2 ∨ k = 3 ∨ k = 4 by omega) with rfl | rfl | rfl | rfl | rfl <;> exact va_eqt (hs _ (by decide +kernel))) hB_n
  exact ⟨t, va_Zof (ht (.laysStatic RX10 (stN 4) "[I") (by decide +kernel)) (ht (.initialized RX10) (by decide +kernel)) e hB_n, h⟩
set_option maxRecDepth 100000 in
theorem st_5 {args : Array Value} {s : State} (hs : ∀ w ∈ fL1, w.before args s = true) (ht : ∀ w ∈ lw_tbl, w.before args s = true) : ∃ t, stP s 5 t := by
  obtain ⟨t, e, h⟩ := va_Tof (args := args) (s := s) (tm := .static RX10 (stN 5) "[I") (ty := .int) (N := (stV 5).length) (f := fun k => .int (Int32.ofInt ((stV 5).getD k 0))) (A := hB s) (by decide) (hs _ (by decide +kernel)) (va_eqt (hs _ (by decide +kernel))) (fun k hk => by
    have hk : k < 5 := hk
    rcases (show k = 0 ∨ k = 1 ∨ k = 2 ∨ k = 3 ∨ k = 4 by omega) with rfl | rfl | rfl | rfl | rfl <;> exact va_eqt (hs _ (by decide +kernel))) hB_n
  exact ⟨t, va_Zof (ht (.laysStatic RX10 (stN 5) "[I") (by decide +kernel)) (ht (.initialized RX10) (by decide +kernel)) e hB_n, h⟩
def sTm (i : Nat) : Term := match i with
  | 0 => .string RX4 53
  | 1 => .string RX4 62
  | 2 => .string RX4 87
  | 3 => .string RX4 92
  | 4 => .string RX9 76
  | 5 => .string RX9 85
  | 6 => .string RX9 96
  | _ => .string RX9 116
section A7
variable {args : Array Value} {s : State}
set_option maxRecDepth 100000 in
theorem sg_ex (hs : ∀ w ∈ fL1, w.before args s = true) : ∀ i : Nat, i < 8 → (Cond.exactly (sTm i) "java/lang/String").before args s = true ∧ (Cond.eq (.field (sTm i) "java/lang/String" "coder" "B") (.int 0)).before args s = true ∧ (Cond.arrayOf (.field (sTm i) "java/lang/String" "value" "[B") .byte).before args s = true ∧ (Cond.eq (.length (.field (sTm i) "java/lang/String" "value" "[B")) (.int (Int32.ofNat (sLn.getD i 0)))).before args s = true := by
  intro i hi
  rcases (show i = 0 ∨ i = 1 ∨ i = 2 ∨ i = 3 ∨ i = 4 ∨ i = 5 ∨ i = 6 ∨ i = 7 by omega) with rfl | rfl | rfl | rfl | rfl | rfl | rfl | rfl <;> exact ⟨hs _ (by decide +kernel), hs _ (by decide +kernel), hs _ (by decide +kernel), hs _ (by decide +kernel)⟩
set_option maxRecDepth 100000 in
theorem sg_el0 (hs : ∀ w ∈ fL1, w.before args s = true) : ∀ j : Nat, j < 5 → (Cond.eq (.elem (.field (sTm 0) "java/lang/String" "value" "[B") (.int (Int32.ofNat j))) (.int ((sBy.getD 0 []).getD j 0))).before args s = true := by
  intro j hj
  rcases (show j = 0 ∨ j = 1 ∨ j = 2 ∨ j = 3 ∨ j = 4 by omega) with rfl | rfl | rfl | rfl | rfl <;> exact hs _ (by decide +kernel)
set_option maxRecDepth 100000 in
theorem sg_el1 (hs : ∀ w ∈ fL1, w.before args s = true) : ∀ j : Nat, j < 6 → (Cond.eq (.elem (.field (sTm 1) "java/lang/String" "value" "[B") (.int (Int32.ofNat j))) (.int ((sBy.getD 1 []).getD j 0))).before args s = true := by
  intro j hj
  rcases (show j = 0 ∨ j = 1 ∨ j = 2 ∨ j = 3 ∨ j = 4 ∨ j = 5 by omega) with rfl | rfl | rfl | rfl | rfl | rfl <;> exact hs _ (by decide +kernel)
set_option maxRecDepth 100000 in
theorem sg_el2 (hs : ∀ w ∈ fL1, w.before args s = true) : ∀ j : Nat, j < 7 → (Cond.eq (.elem (.field (sTm 2) "java/lang/String" "value" "[B") (.int (Int32.ofNat j))) (.int ((sBy.getD 2 []).getD j 0))).before args s = true := by
  intro j hj
  rcases (show j = 0 ∨ j = 1 ∨ j = 2 ∨ j = 3 ∨ j = 4 ∨ j = 5 ∨ j = 6 by omega) with rfl | rfl | rfl | rfl | rfl | rfl | rfl <;> exact hs _ (by decide +kernel)
set_option maxRecDepth 100000 in
theorem sg_el3 (hs : ∀ w ∈ fL1, w.before args s = true) : ∀ j : Nat, j < 5 → (Cond.eq (.elem (.field (sTm 3) "java/lang/String" "value" "[B") (.int (Int32.ofNat j))) (.int ((sBy.getD 3 []).getD j 0))).before args s = true := by
  intro j hj
  rcases (show j = 0 ∨ j = 1 ∨ j = 2 ∨ j = 3 ∨ j = 4 by omega) with rfl | rfl | rfl | rfl | rfl <;> exact hs _ (by decide +kernel)
set_option maxRecDepth 100000 in
theorem sg_el4 (hs : ∀ w ∈ fL1, w.before args s = true) : ∀ j : Nat, j < 2 → (Cond.eq (.elem (.field (sTm 4) "java/lang/String" "value" "[B") (.int (Int32.ofNat j))) (.int ((sBy.getD 4 []).getD j 0))).before args s = true := by
  intro j hj
  rcases (show j = 0 ∨ j = 1 by omega) with rfl | rfl <;> exact hs _ (by decide +kernel)
set_option maxRecDepth 100000 in
theorem sg_el5 (hs : ∀ w ∈ fL1, w.before args s = true) : ∀ j : Nat, j < 4 → (Cond.eq (.elem (.field (sTm 5) "java/lang/String" "value" "[B") (.int (Int32.ofNat j))) (.int ((sBy.getD 5 []).getD j 0))).before args s = true := by
  intro j hj
  rcases (show j = 0 ∨ j = 1 ∨ j = 2 ∨ j = 3 by omega) with rfl | rfl | rfl | rfl <;> exact hs _ (by decide +kernel)
set_option maxRecDepth 100000 in
theorem sg_el6 (hs : ∀ w ∈ fL1, w.before args s = true) : ∀ j : Nat, j < 5 → (Cond.eq (.elem (.field (sTm 6) "java/lang/String" "value" "[B") (.int (Int32.ofNat j))) (.int ((sBy.getD 6 []).getD j 0))).before args s = true := by
  intro j hj
  rcases (show j = 0 ∨ j = 1 ∨ j = 2 ∨ j = 3 ∨ j = 4 by omega) with rfl | rfl | rfl | rfl | rfl <;> exact hs _ (by decide +kernel)
set_option maxRecDepth 100000 in
theorem sg_el7 (hs : ∀ w ∈ fL1, w.before args s = true) : ∀ j : Nat, j < 3 → (Cond.eq (.elem (.field (sTm 7) "java/lang/String" "value" "[B") (.int (Int32.ofNat j))) (.int ((sBy.getD 7 []).getD j 0))).before args s = true := by
  intro j hj
  rcases (show j = 0 ∨ j = 1 ∨ j = 2 by omega) with rfl | rfl | rfl <;> exact hs _ (by decide +kernel)
set_option maxRecDepth 100000 in
theorem sg_ne0 (hs : ∀ w ∈ fL1, w.before args s = true) : ∀ j : Nat, j < 8 → 0 ≠ j → (Cond.not (Cond.eq (sTm 0) (sTm j))).before args s = true ∨ (Cond.not (Cond.eq (sTm j) (sTm 0))).before args s = true := by
  intro j hj hne
  rcases (show j = 0 ∨ j = 1 ∨ j = 2 ∨ j = 3 ∨ j = 4 ∨ j = 5 ∨ j = 6 ∨ j = 7 by omega) with rfl | rfl | rfl | rfl | rfl | rfl | rfl | rfl
  · exact absurd rfl hne
  · exact Or.inl (hs _ (by decide +kernel))
  · exact Or.inl (hs _ (by decide +kernel))
  · exact Or.inl (hs _ (by decide +kernel))
  · exact Or.inl (hs _ (by decide +kernel))
  · exact Or.inl (hs _ (by decide +kernel))
  · exact Or.inl (hs _ (by decide +kernel))
  · exact Or.inl (hs _ (by decide +kernel))
set_option maxRecDepth 100000 in
theorem sg_ne1 (hs : ∀ w ∈ fL1, w.before args s = true) : ∀ j : Nat, j < 8 → 1 ≠ j → (Cond.not (Cond.eq (sTm 1) (sTm j))).before args s = true ∨ (Cond.not (Cond.eq (sTm j) (sTm 1))).before args s = true := by
  intro j hj hne
  rcases (show j = 0 ∨ j = 1 ∨ j = 2 ∨ j = 3 ∨ j = 4 ∨ j = 5 ∨ j = 6 ∨ j = 7 by omega) with rfl | rfl | rfl | rfl | rfl | rfl | rfl | rfl
  · exact Or.inr (hs _ (by decide +kernel))
  · exact absurd rfl hne
  · exact Or.inr (hs _ (by decide +kernel))
  · exact Or.inr (hs _ (by decide +kernel))
  · exact Or.inl (hs _ (by decide +kernel))
  · exact Or.inl (hs _ (by decide +kernel))
  · exact Or.inl (hs _ (by decide +kernel))
  · exact Or.inl (hs _ (by decide +kernel))
set_option maxRecDepth 100000 in
theorem sg_ne2 (hs : ∀ w ∈ fL1, w.before args s = true) : ∀ j : Nat, j < 8 → 2 ≠ j → (Cond.not (Cond.eq (sTm 2) (sTm j))).before args s = true ∨ (Cond.not (Cond.eq (sTm j) (sTm 2))).before args s = true := by
  intro j hj hne
  rcases (show j = 0 ∨ j = 1 ∨ j = 2 ∨ j = 3 ∨ j = 4 ∨ j = 5 ∨ j = 6 ∨ j = 7 by omega) with rfl | rfl | rfl | rfl | rfl | rfl | rfl | rfl
  · exact Or.inr (hs _ (by decide +kernel))
  · exact Or.inl (hs _ (by decide +kernel))
  · exact absurd rfl hne
  · exact Or.inl (hs _ (by decide +kernel))
  · exact Or.inl (hs _ (by decide +kernel))
  · exact Or.inl (hs _ (by decide +kernel))
  · exact Or.inl (hs _ (by decide +kernel))
  · exact Or.inl (hs _ (by decide +kernel))
set_option maxRecDepth 100000 in
theorem sg_ne3 (hs : ∀ w ∈ fL1, w.before args s = true) : ∀ j : Nat, j < 8 → 3 ≠ j → (Cond.not (Cond.eq (sTm 3) (sTm j))).before args s = true ∨ (Cond.not (Cond.eq (sTm j) (sTm 3))).before args s = true := by
  intro j hj hne
  rcases (show j = 0 ∨ j = 1 ∨ j = 2 ∨ j = 3 ∨ j = 4 ∨ j = 5 ∨ j = 6 ∨ j = 7 by omega) with rfl | rfl | rfl | rfl | rfl | rfl | rfl | rfl
  · exact Or.inr (hs _ (by decide +kernel))
  · exact Or.inl (hs _ (by decide +kernel))
  · exact Or.inr (hs _ (by decide +kernel))
  · exact absurd rfl hne
  · exact Or.inl (hs _ (by decide +kernel))
  · exact Or.inl (hs _ (by decide +kernel))
  · exact Or.inl (hs _ (by decide +kernel))
  · exact Or.inl (hs _ (by decide +kernel))
set_option maxRecDepth 100000 in
theorem sg_ne4 (hs : ∀ w ∈ fL1, w.before args s = true) : ∀ j : Nat, j < 8 → 4 ≠ j → (Cond.not (Cond.eq (sTm 4) (sTm j))).before args s = true ∨ (Cond.not (Cond.eq (sTm j) (sTm 4))).before args s = true := by
  intro j hj hne
  rcases (show j = 0 ∨ j = 1 ∨ j = 2 ∨ j = 3 ∨ j = 4 ∨ j = 5 ∨ j = 6 ∨ j = 7 by omega) with rfl | rfl | rfl | rfl | rfl | rfl | rfl | rfl
  · exact Or.inr (hs _ (by decide +kernel))
  · exact Or.inr (hs _ (by decide +kernel))
  · exact Or.inr (hs _ (by decide +kernel))
  · exact Or.inr (hs _ (by decide +kernel))
  · exact absurd rfl hne
  · exact Or.inl (hs _ (by decide +kernel))
  · exact Or.inl (hs _ (by decide +kernel))
  · exact Or.inl (hs _ (by decide +kernel))
set_option maxRecDepth 100000 in
theorem sg_ne5 (hs : ∀ w ∈ fL1, w.before args s = true) : ∀ j : Nat, j < 8 → 5 ≠ j → (Cond.not (Cond.eq (sTm 5) (sTm j))).before args s = true ∨ (Cond.not (Cond.eq (sTm j) (sTm 5))).before args s = true := by
  intro j hj hne
  rcases (show j = 0 ∨ j = 1 ∨ j = 2 ∨ j = 3 ∨ j = 4 ∨ j = 5 ∨ j = 6 ∨ j = 7 by omega) with rfl | rfl | rfl | rfl | rfl | rfl | rfl | rfl
  · exact Or.inr (hs _ (by decide +kernel))
  · exact Or.inr (hs _ (by decide +kernel))
  · exact Or.inr (hs _ (by decide +kernel))
  · exact Or.inr (hs _ (by decide +kernel))
  · exact Or.inr (hs _ (by decide +kernel))
  · exact absurd rfl hne
  · exact Or.inl (hs _ (by decide +kernel))
  · exact Or.inr (hs _ (by decide +kernel))
set_option maxRecDepth 100000 in
theorem sg_ne6 (hs : ∀ w ∈ fL1, w.before args s = true) : ∀ j : Nat, j < 8 → 6 ≠ j → (Cond.not (Cond.eq (sTm 6) (sTm j))).before args s = true ∨ (Cond.not (Cond.eq (sTm j) (sTm 6))).before args s = true := by
  intro j hj hne
  rcases (show j = 0 ∨ j = 1 ∨ j = 2 ∨ j = 3 ∨ j = 4 ∨ j = 5 ∨ j = 6 ∨ j = 7 by omega) with rfl | rfl | rfl | rfl | rfl | rfl | rfl | rfl
  · exact Or.inr (hs _ (by decide +kernel))
  · exact Or.inr (hs _ (by decide +kernel))
  · exact Or.inr (hs _ (by decide +kernel))
  · exact Or.inr (hs _ (by decide +kernel))
  · exact Or.inr (hs _ (by decide +kernel))
  · exact Or.inr (hs _ (by decide +kernel))
  · exact absurd rfl hne
  · exact Or.inr (hs _ (by decide +kernel))
set_option maxRecDepth 100000 in
theorem sg_ne7 (hs : ∀ w ∈ fL1, w.before args s = true) : ∀ j : Nat, j < 8 → 7 ≠ j → (Cond.not (Cond.eq (sTm 7) (sTm j))).before args s = true ∨ (Cond.not (Cond.eq (sTm j) (sTm 7))).before args s = true := by
  intro j hj hne
  rcases (show j = 0 ∨ j = 1 ∨ j = 2 ∨ j = 3 ∨ j = 4 ∨ j = 5 ∨ j = 6 ∨ j = 7 by omega) with rfl | rfl | rfl | rfl | rfl | rfl | rfl | rfl
  · exact Or.inr (hs _ (by decide +kernel))
  · exact Or.inr (hs _ (by decide +kernel))
  · exact Or.inr (hs _ (by decide +kernel))
  · exact Or.inr (hs _ (by decide +kernel))
  · exact Or.inr (hs _ (by decide +kernel))
  · exact Or.inl (hs _ (by decide +kernel))
  · exact Or.inl (hs _ (by decide +kernel))
  · exact absurd rfl hne
theorem sg_all (hs : ∀ w ∈ fL1, w.before args s = true) : ∃ adK adV : Nat → Nat, vk_S 8 sLn sBy adK adV (hB s) s s.heap ∧ ∀ i : Nat, i < 8 → (sTm i).eval args s none [] s = some (.ref (adK i)) := by
  refine vk_Sof (args := args) (fun i hi => ?_) (fun i hi => (sg_ex hs i hi).1) (fun i hi => (sg_ex hs i hi).2.1) (fun i hi => (sg_ex hs i hi).2.2.1) (fun i hi => (sg_ex hs i hi).2.2.2) (fun i hi j hj => ?_) (fun i j hi hj hne => ?_) hB_n
  · rcases (show i = 0 ∨ i = 1 ∨ i = 2 ∨ i = 3 ∨ i = 4 ∨ i = 5 ∨ i = 6 ∨ i = 7 by omega) with rfl | rfl | rfl | rfl | rfl | rfl | rfl | rfl <;> decide
  · rcases (show i = 0 ∨ i = 1 ∨ i = 2 ∨ i = 3 ∨ i = 4 ∨ i = 5 ∨ i = 6 ∨ i = 7 by omega) with rfl | rfl | rfl | rfl | rfl | rfl | rfl | rfl
    · exact sg_el0 hs j hj
    · exact sg_el1 hs j hj
    · exact sg_el2 hs j hj
    · exact sg_el3 hs j hj
    · exact sg_el4 hs j hj
    · exact sg_el5 hs j hj
    · exact sg_el6 hs j hj
    · exact sg_el7 hs j hj
  · rcases (show i = 0 ∨ i = 1 ∨ i = 2 ∨ i = 3 ∨ i = 4 ∨ i = 5 ∨ i = 6 ∨ i = 7 by omega) with rfl | rfl | rfl | rfl | rfl | rfl | rfl | rfl
    · exact sg_ne0 hs j hj hne
    · exact sg_ne1 hs j hj hne
    · exact sg_ne2 hs j hj hne
    · exact sg_ne3 hs j hj hne
    · exact sg_ne4 hs j hj hne
    · exact sg_ne5 hs j hj hne
    · exact sg_ne6 hs j hj hne
    · exact sg_ne7 hs j hj hne
set_option maxRecDepth 100000 in
theorem sg_R {adK : Nat → Nat} (ht : ∀ w ∈ lw_tbl, w.before args s = true) (he : ∀ i : Nat, i < 8 → (sTm i).eval args s none [] s = some (.ref (adK i))) : ∀ q ∈ sRf, vk_R q.1 q.2.1 q.2.2.1 (adK q.2.2.2) s := by
  unfold sRf
  refine List.forall_mem_cons.mpr ⟨?_, List.forall_mem_cons.mpr ⟨?_, List.forall_mem_cons.mpr ⟨?_, List.forall_mem_cons.mpr ⟨?_, List.forall_mem_cons.mpr ⟨?_, List.forall_mem_cons.mpr ⟨?_, List.forall_mem_cons.mpr ⟨?_, List.forall_mem_cons.mpr ⟨?_, fun _ h => absurd h List.not_mem_nil⟩⟩⟩⟩⟩⟩⟩⟩
  · exact vk_R.of (A := args) (ht _ (by decide +kernel)) (he 0 (by decide))
  · exact vk_R.of (A := args) (ht _ (by decide +kernel)) (he 1 (by decide))
  · exact vk_R.of (A := args) (ht _ (by decide +kernel)) (he 2 (by decide))
  · exact vk_R.of (A := args) (ht _ (by decide +kernel)) (he 3 (by decide))
  · exact vk_R.of (A := args) (ht _ (by decide +kernel)) (he 4 (by decide))
  · exact vk_R.of (A := args) (ht _ (by decide +kernel)) (he 5 (by decide))
  · exact vk_R.of (A := args) (ht _ (by decide +kernel)) (he 6 (by decide))
  · exact vk_R.of (A := args) (ht _ (by decide +kernel)) (he 7 (by decide))
end A7

