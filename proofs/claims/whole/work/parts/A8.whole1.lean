/-! THE WALK OF THE LAW, from its entry -/
theorem law_V {G : gT} (hL : gL G ≤ 3072) (hX : ∀ k, i32 (gX G k)) : V G mL_law (fun r _ => r = some (vi 1)) 0 0 0 [some (.ref 1100), none, none, none] [] (lw []) := by
  show V G mL_law _ 0 0 0 _ [] (lw ([] ++ []))
  refine N_new (l := []) (X := []) (m := 0) eL_law_0 okX10 c_L_7 rfl (by decide) (by decide) (by decide) ?_
  refine L_dup eL_law_3 ?_
  refine N_ctorL (l := []) (X := []) (m := 0) (Y := Y10) eL_law_4 (n_X10 (by decide)) v_L_9 rfl ?_
  refine L_astore_n eL_law_7 (s_1 rfl rfl) ?_
  show V G mL_law _ _ _ 8 _ _ (lw ([] ++ Y10 0))
  refine N_new (l := []) (X := Y10 0) (m := 66) eL_law_8 okX11 c_L_10 rfl (by decide) (by decide) (by decide) ?_
  refine L_dup eL_law_11 ?_
  refine N_ctorL (l := []) (X := Y10 0) (m := 66) (Y := Y11) eL_law_12 (n_X11 (Nat.le_of_ble_eq_true rfl)) v_L_12 rfl ?_
  refine L_astore_n eL_law_15 (s_2 rfl rfl) ?_
  refine V_iconst eL_law_16 ?_
  refine L_istore_n eL_law_17 (s_3 rfl rfl) ?_
  show V G mL_law _ _ _ 18 _ _ (lw y00)
  refine V_cg (w' := sw f00 a00) w00 rfl ?_
  exact law_loop hL hX (gL G + 1) 0 f00 a00 (by omega) (by omega) iv00
section A8
variable {args : Array Value} {s : State}
theorem kn_of {ci N : Nat} {C : String} {T : u_T} {ty : Nat → FieldType} (h : cOk ci C T N ty) (ha : ∀ w ∈ aW, w.before args s = true) : ∃ (cC : ClassId) (iS : Nat → Nat), u_Kn s C T N cC iS := u_known (ws := aW) ha h.2.1 (ha _ h.2.2.2.2.1)
theorem kn_all (ha : ∀ w ∈ aW, w.before args s = true) : ∃ (dC : Nat → ClassId) (dI : Nat → Nat → Nat), ∀ (k : Nat) (q : vw_C), vwCl[k]? = some q → u_Kn s q.1 q.2.1 q.2.2 (dC k) (dI k) := by
  obtain ⟨z1, z2, _⟩ := kn_of okX0 ha
  have h : ∀ k : Nat, ∃ p : ClassId × (Nat → Nat), ∀ q : vw_C, vwCl[k]? = some q → u_Kn s q.1 q.2.1 q.2.2 p.1 p.2 := by
    intro k
    have one : ∀ {ci N : Nat} {C : String} {T : u_T} {ty : Nat → FieldType}, cOk ci C T N ty → ∃ p : ClassId × (Nat → Nat), ∀ q : vw_C, vwCl[ci]? = some q → u_Kn s q.1 q.2.1 q.2.2 p.1 p.2 := fun {ci N C T ty} hc => by
      obtain ⟨c, i, hk⟩ := kn_of hc ha
      refine ⟨(c, i), fun q hq => ?_⟩
      rw [hc.1] at hq
      have := Option.some.inj hq
      rw [← this]
      exact hk
    by_cases hk : k < 12
    · rcases (show k = 0 ∨ k = 1 ∨ k = 2 ∨ k = 3 ∨ k = 4 ∨ k = 5 ∨ k = 6 ∨ k = 7 ∨ k = 8 ∨ k = 9 ∨ k = 10 ∨ k = 11 by omega) with rfl | rfl | rfl | rfl | rfl | rfl | rfl | rfl | rfl | rfl | rfl | rfl
      · exact one okX0
      · exact one okX1
      · exact one okX2
      · exact one okX3
      · exact one okX4
      · exact one okX5
      · exact one okX6
      · exact one okX7
      · exact one okX8
      · exact one okX9
      · exact one okX10
      · exact one okX11
    · refine ⟨(z1, z2), fun q hq => ?_⟩
      rw [List.getElem?_eq_none (show vwCl.length ≤ k from by show 12 ≤ k; omega)] at hq
      cases hq
  obtain ⟨f, hf⟩ := Classical.axiomOfChoice h
  exact ⟨fun k => (f k).1, fun k => (f k).2, fun k q hq => hf k q hq⟩
theorem st_all (hs : ∀ w ∈ fL1, w.before args s = true) (ht : ∀ w ∈ lw_tbl, w.before args s = true) : ∃ t : Nat → Nat, ∀ j, j < 6 → stP s j (t j) := by
  have h : ∀ j : Nat, ∃ t : Nat, j < 6 → stP s j t := by
    intro j
    by_cases hj : j < 6
    · rcases (show j = 0 ∨ j = 1 ∨ j = 2 ∨ j = 3 ∨ j = 4 ∨ j = 5 by omega) with rfl | rfl | rfl | rfl | rfl | rfl
      · obtain ⟨t, h⟩ := st_0 hs ht
        exact ⟨t, fun _ => h⟩
      · obtain ⟨t, h⟩ := st_1 hs ht
        exact ⟨t, fun _ => h⟩
      · obtain ⟨t, h⟩ := st_2 hs ht
        exact ⟨t, fun _ => h⟩
      · obtain ⟨t, h⟩ := st_3 hs ht
        exact ⟨t, fun _ => h⟩
      · obtain ⟨t, h⟩ := st_4 hs ht
        exact ⟨t, fun _ => h⟩
      · obtain ⟨t, h⟩ := st_5 hs ht
        exact ⟨t, fun _ => h⟩
    · exact ⟨0, fun h => absurd h hj⟩
  exact Classical.axiomOfChoice h
def spA (b ft : Nat) (t adK adV : Nat → Nat) : Nat → Nat := fun n => if n < 1100 then t (n - 1000) else if n < 1200 then b else if n < 1300 then adK (n - 1200) else if n < 1400 then adV (n - 1300) else ft
set_option maxRecDepth 100000 in
/-- the layer's world at the start -/
theorem sx_all {b L : Nat} {xs : Nat → Int32} (hgv : (Jvm.Cond.and given_1 narrow_1).before args s = true) (ht : ∀ w ∈ lw_tbl, w.before args s = true) (hX : va_X b L xs s s.heap) (hbl : b < s.heap.size) (hL : L ≤ 3072) : ∃ G : gT, Sx G s ∧ gB G = s.heap.size ∧ gL G = L ∧ (∀ k, i32 (gX G k)) ∧ gsp G 1100 = b := by
  have hs : ∀ w ∈ fL1, w.before args s = true := flat_of_before _ hgv
  have ha : ∀ w ∈ aW, w.before args s = true := fun w hw => ht w (List.mem_filter.mp hw).1
  obtain ⟨t, hst⟩ := st_all hs ht
  obtain ⟨adK, adV, hS, hE⟩ := sg_all hs
  obtain ⟨dC, dI, hK⟩ := kn_all ha
  obtain ⟨cI, kI, mI, a1, a2, a3⟩ := Cond.arrayClass_spec (args := args) (first := s) (o := none) (s := s) (idx := []) (ha _ ar_int)
  obtain ⟨cJ, kJ, mJ, b1, b2, b3⟩ := Cond.arrayClass_spec (args := args) (first := s) (o := none) (s := s) (idx := []) (ha _ ar_long)
  obtain ⟨cZ, kZ, mZ, z1, z2, z3⟩ := Cond.arrayClass_spec (args := args) (first := s) (o := none) (s := s) (idx := []) (ha _ ar_boolean)
  have hC : va_Z "java/lang/String" "COMPACT_STRINGS" "Z" (.int 1) (hB s) s s.heap := va_Zof (ht (.laysStatic "java/lang/String" "COMPACT_STRINGS" "Z") (by decide +kernel)) (ht (.initialized "java/lang/String") (by decide +kernel)) (va_eqt (hs _ (by decide +kernel))) hB_n
  have hF : va_Zq "jdk/internal/util/Preconditions" "SIOOBE_FORMATTER" "Ljava/util/function/BiFunction;" (hB s) s s.heap := va_Zqof (ht (.laysStatic "jdk/internal/util/Preconditions" "SIOOBE_FORMATTER" "Ljava/util/function/BiFunction;") (by decide +kernel)) (ht (.initialized "jdk/internal/util/Preconditions") (by decide +kernel)) (hs _ (by decide +kernel)) hB_n
  obtain ⟨fq, ft, hf⟩ : ∃ (fq : Value) (ft : Nat), (fq = .null ∧ va_Z "jdk/internal/util/Preconditions" "SIOOBE_FORMATTER" "Ljava/util/function/BiFunction;" .null (hB s) s s.heap) ∨ (fq = .ref 1400 ∧ va_Z "jdk/internal/util/Preconditions" "SIOOBE_FORMATTER" "Ljava/util/function/BiFunction;" (.ref ft) (hB s) s s.heap) := by
    rcases hF with h | ⟨x, h⟩
    · exact ⟨.null, 0, Or.inl ⟨rfl, h⟩⟩
    · exact ⟨.ref 1400, x, Or.inr ⟨rfl, h⟩⟩
  obtain ⟨sp, esp⟩ : ∃ sp, sp = spA b ft t adK adV := ⟨_, rfl⟩
  have sp0 : ∀ j, j < 6 → sp (1000 + j) = t j := fun j hj => by
    rw [esp]; unfold spA
    rw [if_pos (by omega), Nat.add_sub_cancel_left]
  have sp1 : sp 1100 = b := by rw [esp]; rfl
  have sp2 : ∀ i, i < 8 → sp (1200 + i) = adK i := fun i hi => by
    rw [esp]; unfold spA
    rw [if_neg (by omega), if_neg (by omega), if_pos (by omega), Nat.add_sub_cancel_left]
  have sp3 : ∀ i, i < 8 → sp (1300 + i) = adV i := fun i hi => by
    rw [esp]; unfold spA
    rw [if_neg (by omega), if_neg (by omega), if_neg (by omega), if_pos (by omega), Nat.add_sub_cancel_left]
  have sp4 : sp 1400 = ft := by rw [esp]; rfl
  let G : gT := ((dC, dI), (fun k => if k = 0 then cI else if k = 1 then cJ else cZ), s.heap.size, sp, L, (fun k => (xs k).toInt), fq)
  refine ⟨G, ⟨⟨hK, fun k q hq => ?_⟩, ⟨fun q hq => ?_, fun w hw => va_Nw.of (nw_tab (nW_nest w hw)) (ht w (nW_in w hw))⟩, ⟨fun j hj => ?_, ?_, ?_, hC, ?_, ?_⟩, Nat.le_refl _⟩, rfl, rfl, fun k => i32_r _, sp1⟩
  · match k, hq with
    | 0, hq => cases hq; exact ⟨fun n z => ⟨fun k h => (by cases h), kI, a2, mI, a3⟩, a1⟩
    | 1, hq => cases hq; exact ⟨fun n z => ⟨fun k h => (by cases h), kJ, b2, mJ, b3⟩, b1⟩
    | 2, hq => cases hq; exact ⟨fun n z => ⟨fun k h => (by cases h), kZ, z2, mZ, z3⟩, z1⟩
    | k + 3, hq => exact absurd hq (by simp [gty])
  · have hq8 : q.2.2.2 < 8 := (show ∀ q ∈ sRf, q.2.2.2 < 8 by decide) q hq
    show vk_R q.1 q.2.1 q.2.2.1 (sp (1200 + q.2.2.2)) s
    rw [sp2 _ hq8]
    exact sg_R ht hE q hq
  · show va_Z RX10 (stN j) "[I" (.ref (sp (1000 + j))) (hB s) s s.heap ∧ va_T .int (sp (1000 + j)) (stV j).length (fun k => .int (Int32.ofInt ((stV j).getD k 0))) (hB s) s s.heap
    rw [sp0 j hj]
    exact hst j hj
  · show va_T .int (sp 1100) L (fun k => .int (Int32.ofInt (xs k).toInt)) (hB s) s s.heap
    rw [sp1]
    obtain ⟨scr, h1, h2, h3, h4, h5⟩ := hX
    refine ⟨scr, h1, h2, h3, Nat.le_of_eq h4.symm, by rw [h4] <;> rfl, fun j hj => ?_, hB_n b hbl⟩
    rw [h5 j hj]
    show _ = some (Value.int (Int32.ofInt (xs j).toInt))
    rw [Int32.ofInt_toInt]
  · show vk_S 8 sLn sBy (fun i => sp (1200 + i)) (fun i => sp (1300 + i)) (hB s) s s.heap
    refine ⟨fun i hi => ?_, fun i j hi hj e => ?_⟩
    · show va_O "java/lang/String" (sp (1200 + i)) (hB s) s s.heap ∧ va_OF "java/lang/String" "coder" "B" (.int 0) (sp (1200 + i)) (hB s) s s.heap ∧ va_OF "java/lang/String" "value" "[B" (.ref (sp (1300 + i))) (sp (1200 + i)) (hB s) s s.heap ∧ va_T .byte (sp (1300 + i)) (sLn.getD i 0) (fun j => .int ((sBy.getD i []).getD j 0)) (hB s) s s.heap
      rw [sp2 i hi, sp3 i hi]
      exact hS.1 i hi
    · have e' : sp (1200 + i) = sp (1200 + j) := e
      rw [sp2 i hi, sp2 j hj] at e'
      exact hS.2 i j hi hj e'
  · show va_Z "jdk/internal/util/Preconditions" "SIOOBE_FORMATTER" "Ljava/util/function/BiFunction;" (gre G fq) (hB s) s s.heap
    rcases hf with ⟨e, h⟩ | ⟨e, h⟩
    · rw [e]; exact h
    · rw [e]
      show va_Z "jdk/internal/util/Preconditions" "SIOOBE_FORMATTER" "Ljava/util/function/BiFunction;" (.ref (sp 1400)) (hB s) s s.heap
      rw [sp4]; exact h
  · show fq = .null ∨ fq = .ref 1400
    exact hf.imp And.left And.left
end A8

