section P21
variable {G : gT} {F : fT} {A : nT}
theorem p_X11_in {v a b : Int} (h : -9223372036854775808 ≤ v ∧ v < 9223372036854775808) (ha : -9223372036854775808 ≤ a ∧ a < 9223372036854775808) (hb : -9223372036854775808 ≤ b ∧ b < 9223372036854775808) : Pu G mX11_in [vl v, vl a, vl b] F A (vi (if a ≤ v ∧ v ≤ b then 1 else 0)) := by
  refine L_ent [some (vl v), none, some (vl a), none, some (vl b), none] rfl ?_
  refine L_lload_n eX11_in_0 rfl ?_
  refine L_lload_n eX11_in_1 rfl ?_
  refine V_lcmplt eX11_in_2 eX11_in_3 (fun h2 => ?_) (fun h2 => ?_)
  · refine V_iconst eX11_in_17 ?_
    exact V_zreturn (by first | exact nar_z (by omega) | rfl) eX11_in_18 ⟨by first | rw [if_pos (by omega)] | rw [if_neg (by omega)], rfl⟩
  · refine L_lload_n eX11_in_6 rfl ?_
    refine L_lload eX11_in_7 rfl ?_
    refine V_lcmpgt eX11_in_9 eX11_in_10 (fun h9 => ?_) (fun h9 => ?_)
    · refine V_iconst eX11_in_17 ?_
      exact V_zreturn (by first | exact nar_z (by omega) | rfl) eX11_in_18 ⟨by first | rw [if_pos (by omega)] | rw [if_neg (by omega)], rfl⟩
    · refine V_iconst eX11_in_13 ?_
      refine V_goto eX11_in_14 ?_
      exact V_zreturn (by first | exact nar_z (by omega) | rfl) eX11_in_18 ⟨by first | rw [if_pos (by omega)] | rw [if_neg (by omega)], rfl⟩
theorem p_X11_one {P : Prop} {hP : Decidable P} : Pu G mX11_one [vi (@ite Int P hP 1 0)] F A (vi (@ite Int P hP 1 0)) := by
  refine L_ent [some (vi (@ite Int P hP 1 0))] rfl ?_
  refine L_iload_n eX11_one_0 rfl ?_
  refine V_ifeqB eX11_one_1 (fun h => ?_) (fun h => ?_)
  · refine V_iconst eX11_one_8 ?_
    exact V_ireturn eX11_one_9 ⟨by rw [if_neg h], rfl⟩
  · refine V_iconst eX11_one_4 ?_
    refine V_goto eX11_one_5 ?_
    exact V_ireturn eX11_one_9 ⟨by rw [if_pos h], rfl⟩
theorem p_X11_span {a b : Int} (h : 0 ≤ a * a + b * b ∧ a * a + b * b < 9000000000000000000) : Pu G mX11_span [vl a, vl b] F A (vl (rt (a * a + b * b))) := by
  refine L_ent [some (vl a), none, some (vl b), none] rfl ?_
  refine L_lload_n eX11_span_0 rfl ?_
  refine L_lload_n eX11_span_1 rfl ?_
  refine V_lmul eX11_span_2 ?_
  refine L_lload_n eX11_span_3 rfl ?_
  refine L_lload_n eX11_span_4 rfl ?_
  refine V_lmul eX11_span_5 ?_
  refine V_ladd eX11_span_6 ?_
  refine C_s1 (p_X11_root (by omega)) v_X11_146 eX11_span_7 rfl ?_
  exact V_lreturn eX11_span_10 ⟨rfl, rfl⟩
/-- what is told of a STUFF -/
def hfT (s : Int) : Int := if s = 0 then 4 else if s = 1 then 5 else if s = 2 then 1 else 2
def stT (s : Int) : Int := if s = 0 then 24 else if s = 1 then 36 else if s = 2 then 2 else 8
def wrT (s : Int) : Int := if s = 0 then 2 else if s = 1 then 3 else if s = 2 then 9 else 5
def ltT (s : Int) : Int := if s = 0 then 12 else if s = 1 then 8 else if s = 2 then 6 else if s = 3 then 4 else 2
theorem four {s : Int} (h : 0 ≤ s ∧ s < 4) : s = 0 ∨ s = 1 ∨ s = 2 ∨ s = 3 := by omega
theorem hf_tab {s : Int} (h : 0 ≤ s ∧ s < 4) : (stV 0).getD s.toNat 0 = hfT s := by rcases four h with rfl | rfl | rfl | rfl <;> rfl
theorem st_tab {s : Int} (h : 0 ≤ s ∧ s < 4) : (stV 1).getD s.toNat 0 = stT s := by rcases four h with rfl | rfl | rfl | rfl <;> rfl
theorem wr_tab {s : Int} (h : 0 ≤ s ∧ s < 4) : (stV 2).getD s.toNat 0 = wrT s := by rcases four h with rfl | rfl | rfl | rfl <;> rfl
theorem lt_tab {s : Int} (h : 0 ≤ s ∧ s < 5) : (stV 5).getD s.toNat 0 = ltT s := by
  rcases (show s = 0 ∨ s = 1 ∨ s = 2 ∨ s = 3 ∨ s = 4 by omega) with rfl | rfl | rfl | rfl | rfl <;> rfl
theorem hf_b (s : Int) : 1 ≤ hfT s ∧ hfT s ≤ 5 := by unfold hfT; split <;> (try split) <;> (try split) <;> omega
theorem st_b (s : Int) : 2 ≤ stT s ∧ stT s ≤ 36 := by unfold stT; split <;> (try split) <;> (try split) <;> omega
theorem wr_b (s : Int) : 2 ≤ wrT s ∧ wrT s ≤ 9 := by unfold wrT; split <;> (try split) <;> (try split) <;> omega
theorem lt_b (s : Int) : 2 ≤ ltT s ∧ ltT s ≤ 12 := by unfold ltT; split <;> (try split) <;> (try split) <;> (try split) <;> omega
theorem p_X11_heft {s : Int} (h : -2147483648 ≤ s ∧ s < 2147483648) : Pu G mX11_heft [vi s] F A (vi (hfT s)) := by
  refine L_ent [some (vi s)] rfl ?_
  refine L_iload_n eX11_heft_0 rfl ?_
  refine V_ifne eX11_heft_1 (fun h1 => ?_) (fun h1 => ?_)
  · refine L_iload_n eX11_heft_8 rfl ?_
    refine V_iconst eX11_heft_9 ?_
    refine V_icmpne eX11_heft_10 (fun h10 => ?_) (fun h10 => ?_)
    · refine L_iload_n eX11_heft_17 rfl ?_
      refine V_iconst eX11_heft_18 ?_
      refine V_icmpne eX11_heft_19 (fun h19 => ?_) (fun h19 => ?_)
      · refine V_iconst eX11_heft_26 ?_
        exact V_ireturn eX11_heft_27 ⟨by simp [hfT, *], rfl⟩
      · refine V_iconst eX11_heft_22 ?_
        refine V_goto eX11_heft_23 ?_
        exact V_ireturn eX11_heft_27 ⟨by simp [hfT, *], rfl⟩
    · refine V_iconst eX11_heft_13 ?_
      refine V_goto eX11_heft_14 ?_
      exact V_ireturn eX11_heft_27 ⟨by simp [hfT, *], rfl⟩
  · refine V_iconst eX11_heft_4 ?_
    refine V_goto eX11_heft_5 ?_
    exact V_ireturn eX11_heft_27 ⟨by simp [hfT, *], rfl⟩
theorem p_X11_stiff {s : Int} (h : -2147483648 ≤ s ∧ s < 2147483648) : Pu G mX11_stiff [vi s] F A (vi (stT s)) := by
  refine L_ent [some (vi s)] rfl ?_
  refine L_iload_n eX11_stiff_0 rfl ?_
  refine V_ifne eX11_stiff_1 (fun h1 => ?_) (fun h1 => ?_)
  · refine L_iload_n eX11_stiff_9 rfl ?_
    refine V_iconst eX11_stiff_10 ?_
    refine V_icmpne eX11_stiff_11 (fun h11 => ?_) (fun h11 => ?_)
    · refine L_iload_n eX11_stiff_19 rfl ?_
      refine V_iconst eX11_stiff_20 ?_
      refine V_icmpne eX11_stiff_21 (fun h21 => ?_) (fun h21 => ?_)
      · refine L_bipush eX11_stiff_28 rfl ?_
        exact V_ireturn eX11_stiff_30 ⟨by simp [stT, *], rfl⟩
      · refine V_iconst eX11_stiff_24 ?_
        refine V_goto eX11_stiff_25 ?_
        exact V_ireturn eX11_stiff_30 ⟨by simp [stT, *], rfl⟩
    · refine L_bipush eX11_stiff_14 rfl ?_
      refine V_goto eX11_stiff_16 ?_
      exact V_ireturn eX11_stiff_30 ⟨by simp [stT, *], rfl⟩
  · refine L_bipush eX11_stiff_4 rfl ?_
    refine V_goto eX11_stiff_6 ?_
    exact V_ireturn eX11_stiff_30 ⟨by simp [stT, *], rfl⟩
theorem p_X11_wears {s : Int} (h : -2147483648 ≤ s ∧ s < 2147483648) : Pu G mX11_wears [vi s] F A (vi (wrT s)) := by
  refine L_ent [some (vi s)] rfl ?_
  refine L_iload_n eX11_wears_0 rfl ?_
  refine V_ifne eX11_wears_1 (fun h1 => ?_) (fun h1 => ?_)
  · refine L_iload_n eX11_wears_8 rfl ?_
    refine V_iconst eX11_wears_9 ?_
    refine V_icmpne eX11_wears_10 (fun h10 => ?_) (fun h10 => ?_)
    · refine L_iload_n eX11_wears_17 rfl ?_
      refine V_iconst eX11_wears_18 ?_
      refine V_icmpne eX11_wears_19 (fun h19 => ?_) (fun h19 => ?_)
      · refine V_iconst eX11_wears_27 ?_
        exact V_ireturn eX11_wears_28 ⟨by simp [wrT, *], rfl⟩
      · refine L_bipush eX11_wears_22 rfl ?_
        refine V_goto eX11_wears_24 ?_
        exact V_ireturn eX11_wears_28 ⟨by simp [wrT, *], rfl⟩
    · refine V_iconst eX11_wears_13 ?_
      refine V_goto eX11_wears_14 ?_
      exact V_ireturn eX11_wears_28 ⟨by simp [wrT, *], rfl⟩
  · refine V_iconst eX11_wears_4 ?_
    refine V_goto eX11_wears_5 ?_
    exact V_ireturn eX11_wears_28 ⟨by simp [wrT, *], rfl⟩
theorem p_X11_listed {s : Int} (h : -2147483648 ≤ s ∧ s < 2147483648) : Pu G mX11_listed [vi s] F A (vi (ltT s)) := by
  refine L_ent [some (vi s)] rfl ?_
  refine L_iload_n eX11_listed_0 rfl ?_
  refine V_ifne eX11_listed_1 (fun h1 => ?_) (fun h1 => ?_)
  · refine L_iload_n eX11_listed_9 rfl ?_
    refine V_iconst eX11_listed_10 ?_
    refine V_icmpne eX11_listed_11 (fun h11 => ?_) (fun h11 => ?_)
    · refine L_iload_n eX11_listed_19 rfl ?_
      refine V_iconst eX11_listed_20 ?_
      refine V_icmpne eX11_listed_21 (fun h21 => ?_) (fun h21 => ?_)
      · refine L_iload_n eX11_listed_29 rfl ?_
        refine V_iconst eX11_listed_30 ?_
        refine V_icmpne eX11_listed_31 (fun h31 => ?_) (fun h31 => ?_)
        · refine V_iconst eX11_listed_38 ?_
          exact V_ireturn eX11_listed_39 ⟨by simp [ltT, *], rfl⟩
        · refine V_iconst eX11_listed_34 ?_
          refine V_goto eX11_listed_35 ?_
          exact V_ireturn eX11_listed_39 ⟨by simp [ltT, *], rfl⟩
      · refine L_bipush eX11_listed_24 rfl ?_
        refine V_goto eX11_listed_26 ?_
        exact V_ireturn eX11_listed_39 ⟨by simp [ltT, *], rfl⟩
    · refine L_bipush eX11_listed_14 rfl ?_
      refine V_goto eX11_listed_16 ?_
      exact V_ireturn eX11_listed_39 ⟨by simp [ltT, *], rfl⟩
  · refine L_bipush eX11_listed_4 rfl ?_
    refine V_goto eX11_listed_6 ?_
    exact V_ireturn eX11_listed_39 ⟨by simp [ltT, *], rfl⟩
theorem p_X11_cell {k t : Int} : Pu G mX11_cell [vi k, vi t] F A (vi (13 * t + k)) := by
  refine L_ent [some (vi k), some (vi t)] rfl ?_
  refine L_bipush eX11_cell_0 rfl ?_
  refine L_iload_n eX11_cell_2 rfl ?_
  refine V_imul eX11_cell_3 ?_
  refine L_iload_n eX11_cell_4 rfl ?_
  refine V_iadd eX11_cell_5 ?_
  exact V_ireturn eX11_cell_6 ⟨rfl, rfl⟩
theorem p_X11_isPlace {x y : Int} (h : -2147483648 ≤ x ∧ x < 2147483648) (hb : -2147483648 ≤ y ∧ y < 2147483648) : Pu G mX11_isPlace [vi x, vi y] F A (vi (if (-5000 ≤ x ∧ x ≤ 5000) ∧ (-5000 ≤ y ∧ y ≤ 5000) then 1 else 0)) := by
  refine L_ent [some (vi x), some (vi y)] rfl ?_
  refine L_iload_n eX11_isPlace_0 rfl ?_
  refine V_i2l eX11_isPlace_1 ?_
  refine L_ldc2 eX11_isPlace_2 k_X11_359 ?_
  refine L_ldc2 eX11_isPlace_5 k_X11_361 ?_
  refine C_s1 (p_X11_in (by omega) (by omega) (by omega)) v_X11_152 eX11_isPlace_8 rfl ?_
  refine V_ifeqB eX11_isPlace_11 (fun h11 => ?_) (fun h11 => ?_)
  · refine V_iconst eX11_isPlace_32 ?_
    exact V_zreturn (by first | exact nar_z (by omega) | rfl) eX11_isPlace_33 ⟨by first | rw [if_pos (by omega)] | rw [if_neg (by omega)], rfl⟩
  · refine L_iload_n eX11_isPlace_14 rfl ?_
    refine V_i2l eX11_isPlace_15 ?_
    refine L_ldc2 eX11_isPlace_16 k_X11_359 ?_
    refine L_ldc2 eX11_isPlace_19 k_X11_361 ?_
    refine C_s1 (p_X11_in (by omega) (by omega) (by omega)) v_X11_152 eX11_isPlace_22 rfl ?_
    refine V_ifeqB eX11_isPlace_25 (fun h25 => ?_) (fun h25 => ?_)
    · refine V_iconst eX11_isPlace_32 ?_
      exact V_zreturn (by first | exact nar_z (by omega) | rfl) eX11_isPlace_33 ⟨by first | rw [if_pos (by omega)] | rw [if_neg (by omega)], rfl⟩
    · refine V_iconst eX11_isPlace_28 ?_
      refine V_goto eX11_isPlace_29 ?_
      exact V_zreturn (by first | exact nar_z (by omega) | rfl) eX11_isPlace_33 ⟨by first | rw [if_pos (by omega)] | rw [if_neg (by omega)], rfl⟩
theorem p_X11_isTwo {x y : Int} (h : -2147483648 ≤ x ∧ x < 2147483648) (hb : -2147483648 ≤ y ∧ y < 2147483648) : Pu G mX11_isTwo [vi x, vi y] F A (vi (if (-5000 ≤ x ∧ x ≤ 5000) ∧ (10 ≤ y ∧ y ≤ 200) then 1 else 0)) := by
  refine L_ent [some (vi x), some (vi y)] rfl ?_
  refine L_iload_n eX11_isTwo_0 rfl ?_
  refine V_i2l eX11_isTwo_1 ?_
  refine L_ldc2 eX11_isTwo_2 k_X11_359 ?_
  refine L_ldc2 eX11_isTwo_5 k_X11_361 ?_
  refine C_s1 (p_X11_in (by omega) (by omega) (by omega)) v_X11_152 eX11_isTwo_8 rfl ?_
  refine V_ifeqB eX11_isTwo_11 (fun h11 => ?_) (fun h11 => ?_)
  · refine V_iconst eX11_isTwo_32 ?_
    exact V_zreturn (by first | exact nar_z (by omega) | rfl) eX11_isTwo_33 ⟨by first | rw [if_pos (by omega)] | rw [if_neg (by omega)], rfl⟩
  · refine L_iload_n eX11_isTwo_14 rfl ?_
    refine V_i2l eX11_isTwo_15 ?_
    refine L_ldc2 eX11_isTwo_16 k_X11_268 ?_
    refine L_ldc2 eX11_isTwo_19 k_X11_270 ?_
    refine C_s1 (p_X11_in (by omega) (by omega) (by omega)) v_X11_152 eX11_isTwo_22 rfl ?_
    refine V_ifeqB eX11_isTwo_25 (fun h25 => ?_) (fun h25 => ?_)
    · refine V_iconst eX11_isTwo_32 ?_
      exact V_zreturn (by first | exact nar_z (by omega) | rfl) eX11_isTwo_33 ⟨by first | rw [if_pos (by omega)] | rw [if_neg (by omega)], rfl⟩
    · refine V_iconst eX11_isTwo_28 ?_
      refine V_goto eX11_isTwo_29 ?_
      exact V_zreturn (by first | exact nar_z (by omega) | rfl) eX11_isTwo_33 ⟨by first | rw [if_pos (by omega)] | rw [if_neg (by omega)], rfl⟩
def qrT (x y was : Int) : Int := if 0 < x ∧ 0 ≤ y then 0 else if x ≤ 0 ∧ 0 < y then 1 else if x < 0 ∧ y ≤ 0 then 2 else if 0 ≤ x ∧ y < 0 then 3 else was
theorem p_X11_quarter {x y was : Int} (h : -9223372036854775808 ≤ x ∧ x < 9223372036854775808) (hb : -9223372036854775808 ≤ y ∧ y < 9223372036854775808) : Pu G mX11_quarter [vl x, vl y, vi was] F A (vi (qrT x y was)) := by
  refine L_ent [some (vl x), none, some (vl y), none, some (vi was)] rfl ?_
  refine L_lload_n eX11_quarter_0 rfl ?_
  refine L_lconst0 eX11_quarter_1 ?_
  refine V_lcmple eX11_quarter_2 eX11_quarter_3 (fun h2 => ?_) (fun h2 => ?_)
  · refine L_lload_n eX11_quarter_16 rfl ?_
    refine L_lconst0 eX11_quarter_17 ?_
    refine V_lcmpgt eX11_quarter_18 eX11_quarter_19 (fun h18 => ?_) (fun h18 => ?_)
    · refine L_lload_n eX11_quarter_32 rfl ?_
      refine L_lconst0 eX11_quarter_33 ?_
      refine V_lcmpge eX11_quarter_34 eX11_quarter_35 (fun h34 => ?_) (fun h34 => ?_)
      · refine L_lload_n eX11_quarter_48 rfl ?_
        refine L_lconst0 eX11_quarter_49 ?_
        refine V_lcmplt eX11_quarter_50 eX11_quarter_51 (fun h50 => ?_) (fun h50 => ?_)
        · refine L_iload eX11_quarter_64 rfl ?_
          exact V_ireturn eX11_quarter_66 ⟨by congr 2; unfold qrT; (repeat (first | rw [if_pos (by omega)] | rw [if_neg (by omega)])) <;> omega, rfl⟩
        · refine L_lload_n eX11_quarter_54 rfl ?_
          refine L_lconst0 eX11_quarter_55 ?_
          refine V_lcmpge eX11_quarter_56 eX11_quarter_57 (fun h56 => ?_) (fun h56 => ?_)
          · refine L_iload eX11_quarter_64 rfl ?_
            exact V_ireturn eX11_quarter_66 ⟨by congr 2; unfold qrT; (repeat (first | rw [if_pos (by omega)] | rw [if_neg (by omega)])) <;> omega, rfl⟩
          · refine V_iconst eX11_quarter_60 ?_
            refine V_goto eX11_quarter_61 ?_
            exact V_ireturn eX11_quarter_66 ⟨by congr 2; unfold qrT; (repeat (first | rw [if_pos (by omega)] | rw [if_neg (by omega)])) <;> omega, rfl⟩
      · refine L_lload_n eX11_quarter_38 rfl ?_
        refine L_lconst0 eX11_quarter_39 ?_
        refine V_lcmpgt eX11_quarter_40 eX11_quarter_41 (fun h40 => ?_) (fun h40 => ?_)
        · refine L_lload_n eX11_quarter_48 rfl ?_
          refine L_lconst0 eX11_quarter_49 ?_
          refine V_lcmplt eX11_quarter_50 eX11_quarter_51 (fun h50 => ?_) (fun h50 => ?_)
          · refine L_iload eX11_quarter_64 rfl ?_
            exact V_ireturn eX11_quarter_66 ⟨by congr 2; unfold qrT; (repeat (first | rw [if_pos (by omega)] | rw [if_neg (by omega)])) <;> omega, rfl⟩
          · refine L_lload_n eX11_quarter_54 rfl ?_
            refine L_lconst0 eX11_quarter_55 ?_
            refine V_lcmpge eX11_quarter_56 eX11_quarter_57 (fun h56 => ?_) (fun h56 => ?_)
            · refine L_iload eX11_quarter_64 rfl ?_
              exact V_ireturn eX11_quarter_66 ⟨by congr 2; unfold qrT; (repeat (first | rw [if_pos (by omega)] | rw [if_neg (by omega)])) <;> omega, rfl⟩
            · refine V_iconst eX11_quarter_60 ?_
              refine V_goto eX11_quarter_61 ?_
              exact V_ireturn eX11_quarter_66 ⟨by congr 2; unfold qrT; (repeat (first | rw [if_pos (by omega)] | rw [if_neg (by omega)])) <;> omega, rfl⟩
        · refine V_iconst eX11_quarter_44 ?_
          refine V_goto eX11_quarter_45 ?_
          exact V_ireturn eX11_quarter_66 ⟨by congr 2; unfold qrT; (repeat (first | rw [if_pos (by omega)] | rw [if_neg (by omega)])) <;> omega, rfl⟩
    · refine L_lload_n eX11_quarter_22 rfl ?_
      refine L_lconst0 eX11_quarter_23 ?_
      refine V_lcmple eX11_quarter_24 eX11_quarter_25 (fun h24 => ?_) (fun h24 => ?_)
      · refine L_lload_n eX11_quarter_32 rfl ?_
        refine L_lconst0 eX11_quarter_33 ?_
        refine V_lcmpge eX11_quarter_34 eX11_quarter_35 (fun h34 => ?_) (fun h34 => ?_)
        · refine L_lload_n eX11_quarter_48 rfl ?_
          refine L_lconst0 eX11_quarter_49 ?_
          refine V_lcmplt eX11_quarter_50 eX11_quarter_51 (fun h50 => ?_) (fun h50 => ?_)
          · refine L_iload eX11_quarter_64 rfl ?_
            exact V_ireturn eX11_quarter_66 ⟨by congr 2; unfold qrT; (repeat (first | rw [if_pos (by omega)] | rw [if_neg (by omega)])) <;> omega, rfl⟩
          · refine L_lload_n eX11_quarter_54 rfl ?_
            refine L_lconst0 eX11_quarter_55 ?_
            refine V_lcmpge eX11_quarter_56 eX11_quarter_57 (fun h56 => ?_) (fun h56 => ?_)
            · refine L_iload eX11_quarter_64 rfl ?_
              exact V_ireturn eX11_quarter_66 ⟨by congr 2; unfold qrT; (repeat (first | rw [if_pos (by omega)] | rw [if_neg (by omega)])) <;> omega, rfl⟩
            · refine V_iconst eX11_quarter_60 ?_
              refine V_goto eX11_quarter_61 ?_
              exact V_ireturn eX11_quarter_66 ⟨by congr 2; unfold qrT; (repeat (first | rw [if_pos (by omega)] | rw [if_neg (by omega)])) <;> omega, rfl⟩
        · refine L_lload_n eX11_quarter_38 rfl ?_
          refine L_lconst0 eX11_quarter_39 ?_
          refine V_lcmpgt eX11_quarter_40 eX11_quarter_41 (fun h40 => ?_) (fun h40 => ?_)
          · refine L_lload_n eX11_quarter_48 rfl ?_
            refine L_lconst0 eX11_quarter_49 ?_
            refine V_lcmplt eX11_quarter_50 eX11_quarter_51 (fun h50 => ?_) (fun h50 => ?_)
            · refine L_iload eX11_quarter_64 rfl ?_
              exact V_ireturn eX11_quarter_66 ⟨by congr 2; unfold qrT; (repeat (first | rw [if_pos (by omega)] | rw [if_neg (by omega)])) <;> omega, rfl⟩
            · refine L_lload_n eX11_quarter_54 rfl ?_
              refine L_lconst0 eX11_quarter_55 ?_
              refine V_lcmpge eX11_quarter_56 eX11_quarter_57 (fun h56 => ?_) (fun h56 => ?_)
              · refine L_iload eX11_quarter_64 rfl ?_
                exact V_ireturn eX11_quarter_66 ⟨by congr 2; unfold qrT; (repeat (first | rw [if_pos (by omega)] | rw [if_neg (by omega)])) <;> omega, rfl⟩
              · refine V_iconst eX11_quarter_60 ?_
                refine V_goto eX11_quarter_61 ?_
                exact V_ireturn eX11_quarter_66 ⟨by congr 2; unfold qrT; (repeat (first | rw [if_pos (by omega)] | rw [if_neg (by omega)])) <;> omega, rfl⟩
          · refine V_iconst eX11_quarter_44 ?_
            refine V_goto eX11_quarter_45 ?_
            exact V_ireturn eX11_quarter_66 ⟨by congr 2; unfold qrT; (repeat (first | rw [if_pos (by omega)] | rw [if_neg (by omega)])) <;> omega, rfl⟩
      · refine V_iconst eX11_quarter_28 ?_
        refine V_goto eX11_quarter_29 ?_
        exact V_ireturn eX11_quarter_66 ⟨by congr 2; unfold qrT; (repeat (first | rw [if_pos (by omega)] | rw [if_neg (by omega)])) <;> omega, rfl⟩
  · refine L_lload_n eX11_quarter_6 rfl ?_
    refine L_lconst0 eX11_quarter_7 ?_
    refine V_lcmplt eX11_quarter_8 eX11_quarter_9 (fun h8 => ?_) (fun h8 => ?_)
    · refine L_lload_n eX11_quarter_16 rfl ?_
      refine L_lconst0 eX11_quarter_17 ?_
      refine V_lcmpgt eX11_quarter_18 eX11_quarter_19 (fun h18 => ?_) (fun h18 => ?_)
      · refine L_lload_n eX11_quarter_32 rfl ?_
        refine L_lconst0 eX11_quarter_33 ?_
        refine V_lcmpge eX11_quarter_34 eX11_quarter_35 (fun h34 => ?_) (fun h34 => ?_)
        · refine L_lload_n eX11_quarter_48 rfl ?_
          refine L_lconst0 eX11_quarter_49 ?_
          refine V_lcmplt eX11_quarter_50 eX11_quarter_51 (fun h50 => ?_) (fun h50 => ?_)
          · refine L_iload eX11_quarter_64 rfl ?_
            exact V_ireturn eX11_quarter_66 ⟨by congr 2; unfold qrT; (repeat (first | rw [if_pos (by omega)] | rw [if_neg (by omega)])) <;> omega, rfl⟩
          · refine L_lload_n eX11_quarter_54 rfl ?_
            refine L_lconst0 eX11_quarter_55 ?_
            refine V_lcmpge eX11_quarter_56 eX11_quarter_57 (fun h56 => ?_) (fun h56 => ?_)
            · refine L_iload eX11_quarter_64 rfl ?_
              exact V_ireturn eX11_quarter_66 ⟨by congr 2; unfold qrT; (repeat (first | rw [if_pos (by omega)] | rw [if_neg (by omega)])) <;> omega, rfl⟩
            · refine V_iconst eX11_quarter_60 ?_
              refine V_goto eX11_quarter_61 ?_
              exact V_ireturn eX11_quarter_66 ⟨by congr 2; unfold qrT; (repeat (first | rw [if_pos (by omega)] | rw [if_neg (by omega)])) <;> omega, rfl⟩
        · refine L_lload_n eX11_quarter_38 rfl ?_
          refine L_lconst0 eX11_quarter_39 ?_
          refine V_lcmpgt eX11_quarter_40 eX11_quarter_41 (fun h40 => ?_) (fun h40 => ?_)
          · refine L_lload_n eX11_quarter_48 rfl ?_
            refine L_lconst0 eX11_quarter_49 ?_
            refine V_lcmplt eX11_quarter_50 eX11_quarter_51 (fun h50 => ?_) (fun h50 => ?_)
            · refine L_iload eX11_quarter_64 rfl ?_
              exact V_ireturn eX11_quarter_66 ⟨by congr 2; unfold qrT; (repeat (first | rw [if_pos (by omega)] | rw [if_neg (by omega)])) <;> omega, rfl⟩
            · refine L_lload_n eX11_quarter_54 rfl ?_
              refine L_lconst0 eX11_quarter_55 ?_
              refine V_lcmpge eX11_quarter_56 eX11_quarter_57 (fun h56 => ?_) (fun h56 => ?_)
              · refine L_iload eX11_quarter_64 rfl ?_
                exact V_ireturn eX11_quarter_66 ⟨by congr 2; unfold qrT; (repeat (first | rw [if_pos (by omega)] | rw [if_neg (by omega)])) <;> omega, rfl⟩
              · refine V_iconst eX11_quarter_60 ?_
                refine V_goto eX11_quarter_61 ?_
                exact V_ireturn eX11_quarter_66 ⟨by congr 2; unfold qrT; (repeat (first | rw [if_pos (by omega)] | rw [if_neg (by omega)])) <;> omega, rfl⟩
          · refine V_iconst eX11_quarter_44 ?_
            refine V_goto eX11_quarter_45 ?_
            exact V_ireturn eX11_quarter_66 ⟨by congr 2; unfold qrT; (repeat (first | rw [if_pos (by omega)] | rw [if_neg (by omega)])) <;> omega, rfl⟩
      · refine L_lload_n eX11_quarter_22 rfl ?_
        refine L_lconst0 eX11_quarter_23 ?_
        refine V_lcmple eX11_quarter_24 eX11_quarter_25 (fun h24 => ?_) (fun h24 => ?_)
        · refine L_lload_n eX11_quarter_32 rfl ?_
          refine L_lconst0 eX11_quarter_33 ?_
          refine V_lcmpge eX11_quarter_34 eX11_quarter_35 (fun h34 => ?_) (fun h34 => ?_)
          · refine L_lload_n eX11_quarter_48 rfl ?_
            refine L_lconst0 eX11_quarter_49 ?_
            refine V_lcmplt eX11_quarter_50 eX11_quarter_51 (fun h50 => ?_) (fun h50 => ?_)
            · refine L_iload eX11_quarter_64 rfl ?_
              exact V_ireturn eX11_quarter_66 ⟨by congr 2; unfold qrT; (repeat (first | rw [if_pos (by omega)] | rw [if_neg (by omega)])) <;> omega, rfl⟩
            · refine L_lload_n eX11_quarter_54 rfl ?_
              refine L_lconst0 eX11_quarter_55 ?_
              refine V_lcmpge eX11_quarter_56 eX11_quarter_57 (fun h56 => ?_) (fun h56 => ?_)
              · refine L_iload eX11_quarter_64 rfl ?_
                exact V_ireturn eX11_quarter_66 ⟨by congr 2; unfold qrT; (repeat (first | rw [if_pos (by omega)] | rw [if_neg (by omega)])) <;> omega, rfl⟩
              · refine V_iconst eX11_quarter_60 ?_
                refine V_goto eX11_quarter_61 ?_
                exact V_ireturn eX11_quarter_66 ⟨by congr 2; unfold qrT; (repeat (first | rw [if_pos (by omega)] | rw [if_neg (by omega)])) <;> omega, rfl⟩
          · refine L_lload_n eX11_quarter_38 rfl ?_
            refine L_lconst0 eX11_quarter_39 ?_
            refine V_lcmpgt eX11_quarter_40 eX11_quarter_41 (fun h40 => ?_) (fun h40 => ?_)
            · refine L_lload_n eX11_quarter_48 rfl ?_
              refine L_lconst0 eX11_quarter_49 ?_
              refine V_lcmplt eX11_quarter_50 eX11_quarter_51 (fun h50 => ?_) (fun h50 => ?_)
              · refine L_iload eX11_quarter_64 rfl ?_
                exact V_ireturn eX11_quarter_66 ⟨by congr 2; unfold qrT; (repeat (first | rw [if_pos (by omega)] | rw [if_neg (by omega)])) <;> omega, rfl⟩
              · refine L_lload_n eX11_quarter_54 rfl ?_
                refine L_lconst0 eX11_quarter_55 ?_
                refine V_lcmpge eX11_quarter_56 eX11_quarter_57 (fun h56 => ?_) (fun h56 => ?_)
                · refine L_iload eX11_quarter_64 rfl ?_
                  exact V_ireturn eX11_quarter_66 ⟨by congr 2; unfold qrT; (repeat (first | rw [if_pos (by omega)] | rw [if_neg (by omega)])) <;> omega, rfl⟩
                · refine V_iconst eX11_quarter_60 ?_
                  refine V_goto eX11_quarter_61 ?_
                  exact V_ireturn eX11_quarter_66 ⟨by congr 2; unfold qrT; (repeat (first | rw [if_pos (by omega)] | rw [if_neg (by omega)])) <;> omega, rfl⟩
            · refine V_iconst eX11_quarter_44 ?_
              refine V_goto eX11_quarter_45 ?_
              exact V_ireturn eX11_quarter_66 ⟨by congr 2; unfold qrT; (repeat (first | rw [if_pos (by omega)] | rw [if_neg (by omega)])) <;> omega, rfl⟩
        · refine V_iconst eX11_quarter_28 ?_
          refine V_goto eX11_quarter_29 ?_
          exact V_ireturn eX11_quarter_66 ⟨by congr 2; unfold qrT; (repeat (first | rw [if_pos (by omega)] | rw [if_neg (by omega)])) <;> omega, rfl⟩
    · refine V_iconst eX11_quarter_12 ?_
      refine V_goto eX11_quarter_13 ?_
      exact V_ireturn eX11_quarter_66 ⟨by congr 2; unfold qrT; (repeat (first | rw [if_pos (by omega)] | rw [if_neg (by omega)])) <;> omega, rfl⟩
theorem p_X1_quarterOf {x y was : Int} (h : -2147483648 ≤ x ∧ x < 2147483648) (hb : -2147483648 ≤ y ∧ y < 2147483648) : Pu G mX1_quarterOf [vi x, vi y, vi was] F A (vi (qrT x y was)) := by
  refine L_ent [some (vi x), some (vi y), some (vi was)] rfl ?_
  refine L_iload_n eX1_quarterOf_0 rfl ?_
  refine V_ifle eX1_quarterOf_1 (fun h1 => ?_) (fun h1 => ?_)
  · refine L_iload_n eX1_quarterOf_10 rfl ?_
    refine V_ifgt eX1_quarterOf_11 (fun h11 => ?_) (fun h11 => ?_)
    · refine L_iload_n eX1_quarterOf_20 rfl ?_
      refine V_ifge eX1_quarterOf_21 (fun h21 => ?_) (fun h21 => ?_)
      · refine L_iload_n eX1_quarterOf_30 rfl ?_
        refine V_iflt eX1_quarterOf_31 (fun h31 => ?_) (fun h31 => ?_)
        · refine L_iload_n eX1_quarterOf_42 rfl ?_
          exact V_ireturn eX1_quarterOf_43 ⟨by congr 2; unfold qrT; (repeat (first | rw [if_pos (by omega)] | rw [if_neg (by omega)])) <;> omega, rfl⟩
        · refine L_iload_n eX1_quarterOf_34 rfl ?_
          refine V_ifge eX1_quarterOf_35 (fun h35 => ?_) (fun h35 => ?_)
          · refine L_iload_n eX1_quarterOf_42 rfl ?_
            exact V_ireturn eX1_quarterOf_43 ⟨by congr 2; unfold qrT; (repeat (first | rw [if_pos (by omega)] | rw [if_neg (by omega)])) <;> omega, rfl⟩
          · refine V_iconst eX1_quarterOf_38 ?_
            refine V_goto eX1_quarterOf_39 ?_
            exact V_ireturn eX1_quarterOf_43 ⟨by congr 2; unfold qrT; (repeat (first | rw [if_pos (by omega)] | rw [if_neg (by omega)])) <;> omega, rfl⟩
      · refine L_iload_n eX1_quarterOf_24 rfl ?_
        refine V_ifgt eX1_quarterOf_25 (fun h25 => ?_) (fun h25 => ?_)
        · refine L_iload_n eX1_quarterOf_30 rfl ?_
          refine V_iflt eX1_quarterOf_31 (fun h31 => ?_) (fun h31 => ?_)
          · refine L_iload_n eX1_quarterOf_42 rfl ?_
            exact V_ireturn eX1_quarterOf_43 ⟨by congr 2; unfold qrT; (repeat (first | rw [if_pos (by omega)] | rw [if_neg (by omega)])) <;> omega, rfl⟩
          · refine L_iload_n eX1_quarterOf_34 rfl ?_
            refine V_ifge eX1_quarterOf_35 (fun h35 => ?_) (fun h35 => ?_)
            · refine L_iload_n eX1_quarterOf_42 rfl ?_
              exact V_ireturn eX1_quarterOf_43 ⟨by congr 2; unfold qrT; (repeat (first | rw [if_pos (by omega)] | rw [if_neg (by omega)])) <;> omega, rfl⟩
            · refine V_iconst eX1_quarterOf_38 ?_
              refine V_goto eX1_quarterOf_39 ?_
              exact V_ireturn eX1_quarterOf_43 ⟨by congr 2; unfold qrT; (repeat (first | rw [if_pos (by omega)] | rw [if_neg (by omega)])) <;> omega, rfl⟩
        · refine V_iconst eX1_quarterOf_28 ?_
          exact V_ireturn eX1_quarterOf_29 ⟨by congr 2; unfold qrT; (repeat (first | rw [if_pos (by omega)] | rw [if_neg (by omega)])) <;> omega, rfl⟩
    · refine L_iload_n eX1_quarterOf_14 rfl ?_
      refine V_ifle eX1_quarterOf_15 (fun h15 => ?_) (fun h15 => ?_)
      · refine L_iload_n eX1_quarterOf_20 rfl ?_
        refine V_ifge eX1_quarterOf_21 (fun h21 => ?_) (fun h21 => ?_)
        · refine L_iload_n eX1_quarterOf_30 rfl ?_
          refine V_iflt eX1_quarterOf_31 (fun h31 => ?_) (fun h31 => ?_)
          · refine L_iload_n eX1_quarterOf_42 rfl ?_
            exact V_ireturn eX1_quarterOf_43 ⟨by congr 2; unfold qrT; (repeat (first | rw [if_pos (by omega)] | rw [if_neg (by omega)])) <;> omega, rfl⟩
          · refine L_iload_n eX1_quarterOf_34 rfl ?_
            refine V_ifge eX1_quarterOf_35 (fun h35 => ?_) (fun h35 => ?_)
            · refine L_iload_n eX1_quarterOf_42 rfl ?_
              exact V_ireturn eX1_quarterOf_43 ⟨by congr 2; unfold qrT; (repeat (first | rw [if_pos (by omega)] | rw [if_neg (by omega)])) <;> omega, rfl⟩
            · refine V_iconst eX1_quarterOf_38 ?_
              refine V_goto eX1_quarterOf_39 ?_
              exact V_ireturn eX1_quarterOf_43 ⟨by congr 2; unfold qrT; (repeat (first | rw [if_pos (by omega)] | rw [if_neg (by omega)])) <;> omega, rfl⟩
        · refine L_iload_n eX1_quarterOf_24 rfl ?_
          refine V_ifgt eX1_quarterOf_25 (fun h25 => ?_) (fun h25 => ?_)
          · refine L_iload_n eX1_quarterOf_30 rfl ?_
            refine V_iflt eX1_quarterOf_31 (fun h31 => ?_) (fun h31 => ?_)
            · refine L_iload_n eX1_quarterOf_42 rfl ?_
              exact V_ireturn eX1_quarterOf_43 ⟨by congr 2; unfold qrT; (repeat (first | rw [if_pos (by omega)] | rw [if_neg (by omega)])) <;> omega, rfl⟩
            · refine L_iload_n eX1_quarterOf_34 rfl ?_
              refine V_ifge eX1_quarterOf_35 (fun h35 => ?_) (fun h35 => ?_)
              · refine L_iload_n eX1_quarterOf_42 rfl ?_
                exact V_ireturn eX1_quarterOf_43 ⟨by congr 2; unfold qrT; (repeat (first | rw [if_pos (by omega)] | rw [if_neg (by omega)])) <;> omega, rfl⟩
              · refine V_iconst eX1_quarterOf_38 ?_
                refine V_goto eX1_quarterOf_39 ?_
                exact V_ireturn eX1_quarterOf_43 ⟨by congr 2; unfold qrT; (repeat (first | rw [if_pos (by omega)] | rw [if_neg (by omega)])) <;> omega, rfl⟩
          · refine V_iconst eX1_quarterOf_28 ?_
            exact V_ireturn eX1_quarterOf_29 ⟨by congr 2; unfold qrT; (repeat (first | rw [if_pos (by omega)] | rw [if_neg (by omega)])) <;> omega, rfl⟩
      · refine V_iconst eX1_quarterOf_18 ?_
        exact V_ireturn eX1_quarterOf_19 ⟨by congr 2; unfold qrT; (repeat (first | rw [if_pos (by omega)] | rw [if_neg (by omega)])) <;> omega, rfl⟩
  · refine L_iload_n eX1_quarterOf_4 rfl ?_
    refine V_iflt eX1_quarterOf_5 (fun h5 => ?_) (fun h5 => ?_)
    · refine L_iload_n eX1_quarterOf_10 rfl ?_
      refine V_ifgt eX1_quarterOf_11 (fun h11 => ?_) (fun h11 => ?_)
      · refine L_iload_n eX1_quarterOf_20 rfl ?_
        refine V_ifge eX1_quarterOf_21 (fun h21 => ?_) (fun h21 => ?_)
        · refine L_iload_n eX1_quarterOf_30 rfl ?_
          refine V_iflt eX1_quarterOf_31 (fun h31 => ?_) (fun h31 => ?_)
          · refine L_iload_n eX1_quarterOf_42 rfl ?_
            exact V_ireturn eX1_quarterOf_43 ⟨by congr 2; unfold qrT; (repeat (first | rw [if_pos (by omega)] | rw [if_neg (by omega)])) <;> omega, rfl⟩
          · refine L_iload_n eX1_quarterOf_34 rfl ?_
            refine V_ifge eX1_quarterOf_35 (fun h35 => ?_) (fun h35 => ?_)
            · refine L_iload_n eX1_quarterOf_42 rfl ?_
              exact V_ireturn eX1_quarterOf_43 ⟨by congr 2; unfold qrT; (repeat (first | rw [if_pos (by omega)] | rw [if_neg (by omega)])) <;> omega, rfl⟩
            · refine V_iconst eX1_quarterOf_38 ?_
              refine V_goto eX1_quarterOf_39 ?_
              exact V_ireturn eX1_quarterOf_43 ⟨by congr 2; unfold qrT; (repeat (first | rw [if_pos (by omega)] | rw [if_neg (by omega)])) <;> omega, rfl⟩
        · refine L_iload_n eX1_quarterOf_24 rfl ?_
          refine V_ifgt eX1_quarterOf_25 (fun h25 => ?_) (fun h25 => ?_)
          · refine L_iload_n eX1_quarterOf_30 rfl ?_
            refine V_iflt eX1_quarterOf_31 (fun h31 => ?_) (fun h31 => ?_)
            · refine L_iload_n eX1_quarterOf_42 rfl ?_
              exact V_ireturn eX1_quarterOf_43 ⟨by congr 2; unfold qrT; (repeat (first | rw [if_pos (by omega)] | rw [if_neg (by omega)])) <;> omega, rfl⟩
            · refine L_iload_n eX1_quarterOf_34 rfl ?_
              refine V_ifge eX1_quarterOf_35 (fun h35 => ?_) (fun h35 => ?_)
              · refine L_iload_n eX1_quarterOf_42 rfl ?_
                exact V_ireturn eX1_quarterOf_43 ⟨by congr 2; unfold qrT; (repeat (first | rw [if_pos (by omega)] | rw [if_neg (by omega)])) <;> omega, rfl⟩
              · refine V_iconst eX1_quarterOf_38 ?_
                refine V_goto eX1_quarterOf_39 ?_
                exact V_ireturn eX1_quarterOf_43 ⟨by congr 2; unfold qrT; (repeat (first | rw [if_pos (by omega)] | rw [if_neg (by omega)])) <;> omega, rfl⟩
          · refine V_iconst eX1_quarterOf_28 ?_
            exact V_ireturn eX1_quarterOf_29 ⟨by congr 2; unfold qrT; (repeat (first | rw [if_pos (by omega)] | rw [if_neg (by omega)])) <;> omega, rfl⟩
      · refine L_iload_n eX1_quarterOf_14 rfl ?_
        refine V_ifle eX1_quarterOf_15 (fun h15 => ?_) (fun h15 => ?_)
        · refine L_iload_n eX1_quarterOf_20 rfl ?_
          refine V_ifge eX1_quarterOf_21 (fun h21 => ?_) (fun h21 => ?_)
          · refine L_iload_n eX1_quarterOf_30 rfl ?_
            refine V_iflt eX1_quarterOf_31 (fun h31 => ?_) (fun h31 => ?_)
            · refine L_iload_n eX1_quarterOf_42 rfl ?_
              exact V_ireturn eX1_quarterOf_43 ⟨by congr 2; unfold qrT; (repeat (first | rw [if_pos (by omega)] | rw [if_neg (by omega)])) <;> omega, rfl⟩
            · refine L_iload_n eX1_quarterOf_34 rfl ?_
              refine V_ifge eX1_quarterOf_35 (fun h35 => ?_) (fun h35 => ?_)
              · refine L_iload_n eX1_quarterOf_42 rfl ?_
                exact V_ireturn eX1_quarterOf_43 ⟨by congr 2; unfold qrT; (repeat (first | rw [if_pos (by omega)] | rw [if_neg (by omega)])) <;> omega, rfl⟩
              · refine V_iconst eX1_quarterOf_38 ?_
                refine V_goto eX1_quarterOf_39 ?_
                exact V_ireturn eX1_quarterOf_43 ⟨by congr 2; unfold qrT; (repeat (first | rw [if_pos (by omega)] | rw [if_neg (by omega)])) <;> omega, rfl⟩
          · refine L_iload_n eX1_quarterOf_24 rfl ?_
            refine V_ifgt eX1_quarterOf_25 (fun h25 => ?_) (fun h25 => ?_)
            · refine L_iload_n eX1_quarterOf_30 rfl ?_
              refine V_iflt eX1_quarterOf_31 (fun h31 => ?_) (fun h31 => ?_)
              · refine L_iload_n eX1_quarterOf_42 rfl ?_
                exact V_ireturn eX1_quarterOf_43 ⟨by congr 2; unfold qrT; (repeat (first | rw [if_pos (by omega)] | rw [if_neg (by omega)])) <;> omega, rfl⟩
              · refine L_iload_n eX1_quarterOf_34 rfl ?_
                refine V_ifge eX1_quarterOf_35 (fun h35 => ?_) (fun h35 => ?_)
                · refine L_iload_n eX1_quarterOf_42 rfl ?_
                  exact V_ireturn eX1_quarterOf_43 ⟨by congr 2; unfold qrT; (repeat (first | rw [if_pos (by omega)] | rw [if_neg (by omega)])) <;> omega, rfl⟩
                · refine V_iconst eX1_quarterOf_38 ?_
                  refine V_goto eX1_quarterOf_39 ?_
                  exact V_ireturn eX1_quarterOf_43 ⟨by congr 2; unfold qrT; (repeat (first | rw [if_pos (by omega)] | rw [if_neg (by omega)])) <;> omega, rfl⟩
            · refine V_iconst eX1_quarterOf_28 ?_
              exact V_ireturn eX1_quarterOf_29 ⟨by congr 2; unfold qrT; (repeat (first | rw [if_pos (by omega)] | rw [if_neg (by omega)])) <;> omega, rfl⟩
        · refine V_iconst eX1_quarterOf_18 ?_
          exact V_ireturn eX1_quarterOf_19 ⟨by congr 2; unfold qrT; (repeat (first | rw [if_pos (by omega)] | rw [if_neg (by omega)])) <;> omega, rfl⟩
    · refine V_iconst eX1_quarterOf_8 ?_
      exact V_ireturn eX1_quarterOf_9 ⟨by congr 2; unfold qrT; (repeat (first | rw [if_pos (by omega)] | rw [if_neg (by omega)])) <;> omega, rfl⟩
theorem p_X11_size {v : Int} (h : -9000000000000000000 ≤ v ∧ v < 9000000000000000000) : Pu G mX11_size [vl v] F A (vl (if v < 0 then -v else v)) := by
  refine L_ent [some (vl v), none] rfl ?_
  refine L_lload_n eX11_size_0 rfl ?_
  refine L_lconst0 eX11_size_1 ?_
  refine V_lcmpge eX11_size_2 eX11_size_3 (fun h2 => ?_) (fun h2 => ?_)
  · refine L_lload_n eX11_size_12 rfl ?_
    exact V_lreturn eX11_size_13 ⟨by congr 2; first | (rw [if_pos (by omega)]; omega) | (rw [if_neg (by omega)]), rfl⟩
  · refine L_lconst0 eX11_size_6 ?_
    refine L_lload_n eX11_size_7 rfl ?_
    refine V_lsub eX11_size_8 ?_
    refine V_goto eX11_size_9 ?_
    exact V_lreturn eX11_size_13 ⟨by congr 2; first | (rw [if_pos (by omega)]; omega) | (rw [if_neg (by omega)]), rfl⟩
theorem p_X10_isWithin {v m : Int} (h : -2147483648 ≤ v ∧ v < 2147483648) (hm : 0 ≤ m ∧ m < 2147483648) : Pu G mX10_isWithin [vi v, vi m] F A (vi (if -m ≤ v ∧ v ≤ m then 1 else 0)) := by
  refine L_ent [some (vi v), some (vi m)] rfl ?_
  refine L_iload_n eX10_isWithin_0 rfl ?_
  refine L_iload_n eX10_isWithin_1 rfl ?_
  refine V_ineg eX10_isWithin_2 ?_
  refine V_icmplt eX10_isWithin_3 (fun h3 => ?_) (fun h3 => ?_)
  · refine V_iconst eX10_isWithin_15 ?_
    exact V_zreturn (by first | exact nar_z (by omega) | rfl) eX10_isWithin_16 ⟨by first | rw [if_pos (by omega)] | rw [if_neg (by omega)], rfl⟩
  · refine L_iload_n eX10_isWithin_6 rfl ?_
    refine L_iload_n eX10_isWithin_7 rfl ?_
    refine V_icmpgt eX10_isWithin_8 (fun h8 => ?_) (fun h8 => ?_)
    · refine V_iconst eX10_isWithin_15 ?_
      exact V_zreturn (by first | exact nar_z (by omega) | rfl) eX10_isWithin_16 ⟨by first | rw [if_pos (by omega)] | rw [if_neg (by omega)], rfl⟩
    · refine V_iconst eX10_isWithin_11 ?_
      refine V_goto eX10_isWithin_12 ?_
      exact V_zreturn (by first | exact nar_z (by omega) | rfl) eX10_isWithin_16 ⟨by first | rw [if_pos (by omega)] | rw [if_neg (by omega)], rfl⟩
theorem p_X10_isPlace {x y : Int} (h : -2147483648 ≤ x ∧ x < 2147483648) (hb : -2147483648 ≤ y ∧ y < 2147483648) : Pu G mX10_isPlace [vi x, vi y] F A (vi (if (-5000 ≤ x ∧ x ≤ 5000) ∧ (-5000 ≤ y ∧ y ≤ 5000) then 1 else 0)) := by
  refine L_ent [some (vi x), some (vi y)] rfl ?_
  refine L_iload_n eX10_isPlace_0 rfl ?_
  refine L_sipush eX10_isPlace_1 rfl ?_
  refine C_s1 (p_X10_isWithin (by omega) (by omega)) v_X10_303 eX10_isPlace_4 rfl ?_
  refine V_ifeqB eX10_isPlace_7 (fun h7 => ?_) (fun h7 => ?_)
  · refine V_iconst eX10_isPlace_24 ?_
    exact V_zreturn (by first | exact nar_z (by omega) | rfl) eX10_isPlace_25 ⟨by first | rw [if_pos (by omega)] | rw [if_neg (by omega)], rfl⟩
  · refine L_iload_n eX10_isPlace_10 rfl ?_
    refine L_sipush eX10_isPlace_11 rfl ?_
    refine C_s1 (p_X10_isWithin (by omega) (by omega)) v_X10_303 eX10_isPlace_14 rfl ?_
    refine V_ifeqB eX10_isPlace_17 (fun h17 => ?_) (fun h17 => ?_)
    · refine V_iconst eX10_isPlace_24 ?_
      exact V_zreturn (by first | exact nar_z (by omega) | rfl) eX10_isPlace_25 ⟨by first | rw [if_pos (by omega)] | rw [if_neg (by omega)], rfl⟩
    · refine V_iconst eX10_isPlace_20 ?_
      refine V_goto eX10_isPlace_21 ?_
      exact V_zreturn (by first | exact nar_z (by omega) | rfl) eX10_isPlace_25 ⟨by first | rw [if_pos (by omega)] | rw [if_neg (by omega)], rfl⟩
theorem p_X10_isGiven {v : Int} (h : -2147483648 ≤ v ∧ v < 2147483648) : Pu G mX10_isGiven [vi v] F A (vi (if 10 ≤ v ∧ v ≤ 200 then 1 else 0)) := by
  refine L_ent [some (vi v)] rfl ?_
  refine L_iload_n eX10_isGiven_0 rfl ?_
  refine L_bipush eX10_isGiven_1 rfl ?_
  refine V_icmplt eX10_isGiven_3 (fun h3 => ?_) (fun h3 => ?_)
  · refine V_iconst eX10_isGiven_17 ?_
    exact V_zreturn (by first | exact nar_z (by omega) | rfl) eX10_isGiven_18 ⟨by first | rw [if_pos (by omega)] | rw [if_neg (by omega)], rfl⟩
  · refine L_iload_n eX10_isGiven_6 rfl ?_
    refine L_sipush eX10_isGiven_7 rfl ?_
    refine V_icmpgt eX10_isGiven_10 (fun h10 => ?_) (fun h10 => ?_)
    · refine V_iconst eX10_isGiven_17 ?_
      exact V_zreturn (by first | exact nar_z (by omega) | rfl) eX10_isGiven_18 ⟨by first | rw [if_pos (by omega)] | rw [if_neg (by omega)], rfl⟩
    · refine V_iconst eX10_isGiven_13 ?_
      refine V_goto eX10_isGiven_14 ?_
      exact V_zreturn (by first | exact nar_z (by omega) | rfl) eX10_isGiven_18 ⟨by first | rw [if_pos (by omega)] | rw [if_neg (by omega)], rfl⟩
theorem p_X10_isJoint {k : Int} (h : -2147483648 ≤ k ∧ k < 2147483648) (hp : 1 ≤ F 2 0 ∧ F 2 0 ≤ 12) : Pu G mX10_isJoint [.ref 0, vi k] F A (vi (if 0 ≤ k ∧ k ≤ F 2 0 then 1 else 0)) := by
  refine L_ent [some (.ref 0), some (vi k)] rfl ?_
  refine L_iload_n eX10_isJoint_0 rfl ?_
  refine V_iflt eX10_isJoint_1 (fun h1 => ?_) (fun h1 => ?_)
  · refine V_iconst eX10_isJoint_22 ?_
    exact V_zreturn (by first | exact nar_z (by omega) | rfl) eX10_isJoint_23 ⟨by first | rw [if_pos (by omega)] | rw [if_neg (by omega)], rfl⟩
  · refine L_iload_n eX10_isJoint_4 rfl ?_
    refine L_aload_n eX10_isJoint_5 rfl ?_
    refine L_getR (r := 1) eX10_isJoint_6 f_X10_10.g rfl rfl (by decide) ?_
    refine L_getR (r := 2) eX10_isJoint_9 f_X10_112 rfl rfl (by decide) ?_
    refine L_get eX10_isJoint_12 f_X10_126.g rfl rfl ?_
    refine V_icmpgt eX10_isJoint_15 (fun h15 => ?_) (fun h15 => ?_)
    · refine V_iconst eX10_isJoint_22 ?_
      exact V_zreturn (by first | exact nar_z (by omega) | rfl) eX10_isJoint_23 ⟨by first | rw [if_pos (by omega)] | rw [if_neg (by omega)], rfl⟩
    · refine V_iconst eX10_isJoint_18 ?_
      refine V_goto eX10_isJoint_19 ?_
      exact V_zreturn (by first | exact nar_z (by omega) | rfl) eX10_isJoint_23 ⟨by first | rw [if_pos (by omega)] | rw [if_neg (by omega)], rfl⟩
theorem p_X10_isTick {k : Int} (h : -2147483648 ≤ k ∧ k < 2147483648) (hp : 1 ≤ F 6 0 ∧ F 6 0 ≤ 60) : Pu G mX10_isTick [.ref 0, vi k] F A (vi (if 0 ≤ k ∧ k ≤ F 6 0 then 1 else 0)) := by
  refine L_ent [some (.ref 0), some (vi k)] rfl ?_
  refine L_iload_n eX10_isTick_0 rfl ?_
  refine V_iflt eX10_isTick_1 (fun h1 => ?_) (fun h1 => ?_)
  · refine V_iconst eX10_isTick_22 ?_
    exact V_zreturn (by first | exact nar_z (by omega) | rfl) eX10_isTick_23 ⟨by first | rw [if_pos (by omega)] | rw [if_neg (by omega)], rfl⟩
  · refine L_iload_n eX10_isTick_4 rfl ?_
    refine L_aload_n eX10_isTick_5 rfl ?_
    refine L_getR (r := 1) eX10_isTick_6 f_X10_10.g rfl rfl (by decide) ?_
    refine L_getR (r := 6) eX10_isTick_9 f_X10_130 rfl rfl (by decide) ?_
    refine L_get eX10_isTick_12 f_X10_138.g rfl rfl ?_
    refine V_icmpgt eX10_isTick_15 (fun h15 => ?_) (fun h15 => ?_)
    · refine V_iconst eX10_isTick_22 ?_
      exact V_zreturn (by first | exact nar_z (by omega) | rfl) eX10_isTick_23 ⟨by first | rw [if_pos (by omega)] | rw [if_neg (by omega)], rfl⟩
    · refine V_iconst eX10_isTick_18 ?_
      refine V_goto eX10_isTick_19 ?_
      exact V_zreturn (by first | exact nar_z (by omega) | rfl) eX10_isTick_23 ⟨by first | rw [if_pos (by omega)] | rw [if_neg (by omega)], rfl⟩
theorem p_X11_noJoint {k : Int} (h : -2147483648 ≤ k ∧ k < 2147483648) (hp : 1 ≤ F 66 0 ∧ F 66 0 ≤ 12) : Pu G mX11_noJoint [.ref 66, vi k] F A (vi (if ¬ (0 ≤ k ∧ k ≤ F 66 0) then 1 else 0)) := by
  refine L_ent [some (.ref 66), some (vi k)] rfl ?_
  refine L_iload_n eX11_noJoint_0 rfl ?_
  refine V_i2l eX11_noJoint_1 ?_
  refine L_lconst0 eX11_noJoint_2 ?_
  refine L_aload_n eX11_noJoint_3 rfl ?_
  refine L_get eX11_noJoint_4 f_X11_121.g rfl rfl ?_
  refine V_i2l eX11_noJoint_7 ?_
  refine C_s1 (p_X11_in (by omega) (by omega) (by omega)) v_X11_152 eX11_noJoint_8 rfl ?_
  refine V_ifneB eX11_noJoint_11 (fun h11 => ?_) (fun h11 => ?_)
  · refine V_iconst eX11_noJoint_18 ?_
    exact V_zreturn (by first | exact nar_z (by omega) | rfl) eX11_noJoint_19 ⟨by first | rw [if_pos (by omega)] | rw [if_neg (by omega)], rfl⟩
  · refine V_iconst eX11_noJoint_14 ?_
    refine V_goto eX11_noJoint_15 ?_
    exact V_zreturn (by first | exact nar_z (by omega) | rfl) eX11_noJoint_19 ⟨by first | rw [if_pos (by omega)] | rw [if_neg (by omega)], rfl⟩
theorem p_X1_squares {a b : Int} : Pu G mX1_squares [vl a, vl b] F A (vl (a * a + b * b)) := by
  refine L_ent [some (vl a), none, some (vl b), none] rfl ?_
  refine L_lload_n eX1_squares_0 rfl ?_
  refine L_lload_n eX1_squares_1 rfl ?_
  refine V_lmul eX1_squares_2 ?_
  refine L_lload_n eX1_squares_3 rfl ?_
  refine L_lload_n eX1_squares_4 rfl ?_
  refine V_lmul eX1_squares_5 ?_
  refine V_ladd eX1_squares_6 ?_
  exact V_lreturn eX1_squares_7 ⟨rfl, rfl⟩
end P21

