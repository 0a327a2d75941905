/-! THE CONSTRUCTORS: what they leave -/
def Y3 (b : Nat) : List aE := [.inr (3, up (up (up (up (up (fun k => dflt (tyX3 k)) 0 (vi 4)) 1 (vi 50)) 2 (.ref (b + 1))) 3 (.ref (b + 2))) 4 (.ref (b + 3))), .inl (0, 12, up (up (up (up (up (up (up (up (up (up (up (up (fun _ => 0) 0 8) 1 6) 2 4) 3 2) 4 0) 5 0) 6 0) 7 0) 8 0) 9 0) 10 0) 11 0), .inl (0, 12, fun _ => 0), .inl (0, 12, fun _ => 0)]
theorem n_X3 {G : gT} {l : List aE} (hl : l.length ≤ 900) : Meets G mX3_init [.ref l.length] (lw (l ++ [.inr (3, fun k => dflt (tyX3 k))])) (fun r w => r = none ∧ w = lw (l ++ Y3 l.length)) := by
  refine L_ent [some (.ref l.length)] rfl ?_
  refine L_aload_n eX3_init_0 rfl ?_
  refine V_objInit (o := l.length) v_X3_3 oi_1 oi_2 eX3_init_1 ?_
  refine L_aload_n eX3_init_4 rfl ?_
  refine V_iconst eX3_init_5 ?_
  refine N_put (i := 0) eX3_init_6 f_X3_9 rfl rfl rfl ?_
  refine L_aload_n eX3_init_9 rfl ?_
  refine L_bipush eX3_init_10 rfl ?_
  refine N_put (i := 0) eX3_init_12 f_X3_15 rfl rfl rfl ?_
  refine L_aload_n eX3_init_15 rfl ?_
  refine L_bipush eX3_init_16 rfl ?_
  refine N_newI (n := 12) (m := 1) eX3_init_18 rfl (by omega) (by decide) ?_
  refine L_dup eX3_init_20 ?_
  refine V_iconst eX3_init_21 ?_
  refine L_bipush eX3_init_22 rfl ?_
  refine N_iast (i := 1) eX3_init_24 rfl ?_
  refine L_dup eX3_init_25 ?_
  refine V_iconst eX3_init_26 ?_
  refine L_bipush eX3_init_27 rfl ?_
  refine N_iast (i := 1) eX3_init_29 rfl ?_
  refine L_dup eX3_init_30 ?_
  refine V_iconst eX3_init_31 ?_
  refine V_iconst eX3_init_32 ?_
  refine N_iast (i := 1) eX3_init_33 rfl ?_
  refine L_dup eX3_init_34 ?_
  refine V_iconst eX3_init_35 ?_
  refine V_iconst eX3_init_36 ?_
  refine N_iast (i := 1) eX3_init_37 rfl ?_
  refine L_dup eX3_init_38 ?_
  refine V_iconst eX3_init_39 ?_
  refine V_iconst eX3_init_40 ?_
  refine N_iast (i := 1) eX3_init_41 rfl ?_
  refine L_dup eX3_init_42 ?_
  refine V_iconst eX3_init_43 ?_
  refine V_iconst eX3_init_44 ?_
  refine N_iast (i := 1) eX3_init_45 rfl ?_
  refine L_dup eX3_init_46 ?_
  refine L_bipush eX3_init_47 rfl ?_
  refine V_iconst eX3_init_49 ?_
  refine N_iast (i := 1) eX3_init_50 rfl ?_
  refine L_dup eX3_init_51 ?_
  refine L_bipush eX3_init_52 rfl ?_
  refine V_iconst eX3_init_54 ?_
  refine N_iast (i := 1) eX3_init_55 rfl ?_
  refine L_dup eX3_init_56 ?_
  refine L_bipush eX3_init_57 rfl ?_
  refine V_iconst eX3_init_59 ?_
  refine N_iast (i := 1) eX3_init_60 rfl ?_
  refine L_dup eX3_init_61 ?_
  refine L_bipush eX3_init_62 rfl ?_
  refine V_iconst eX3_init_64 ?_
  refine N_iast (i := 1) eX3_init_65 rfl ?_
  refine L_dup eX3_init_66 ?_
  refine L_bipush eX3_init_67 rfl ?_
  refine V_iconst eX3_init_69 ?_
  refine N_iast (i := 1) eX3_init_70 rfl ?_
  refine L_dup eX3_init_71 ?_
  refine L_bipush eX3_init_72 rfl ?_
  refine V_iconst eX3_init_74 ?_
  refine N_iast (i := 1) eX3_init_75 rfl ?_
  refine N_putF (i := 0) eX3_init_76 f_X3_18 rfl rfl rfl ?_
  refine L_aload_n eX3_init_79 rfl ?_
  refine L_bipush eX3_init_80 rfl ?_
  refine N_newI (n := 12) (m := 2) eX3_init_82 rfl (by omega) (by decide) ?_
  refine N_putF (i := 0) eX3_init_84 f_X3_22 rfl rfl rfl ?_
  refine L_aload_n eX3_init_87 rfl ?_
  refine L_bipush eX3_init_88 rfl ?_
  refine N_newI (n := 12) (m := 3) eX3_init_90 rfl (by omega) (by decide) ?_
  refine N_putF (i := 0) eX3_init_92 f_X3_25 rfl rfl rfl ?_
  exact V_return eX3_init_95 ⟨rfl, rfl⟩
def Y8 (b : Nat) : List aE := [.inr (8, up (up (up (up (fun k => dflt (tyX8 k)) 0 (vi 1)) 1 (vi 1)) 2 (.ref (b + 1))) 3 (.ref (b + 2))), .inl (0, 61, fun _ => 0), .inl (0, 61, fun _ => 0)]
theorem n_X8 {G : gT} {l : List aE} (hl : l.length ≤ 900) : Meets G mX8_init [.ref l.length] (lw (l ++ [.inr (8, fun k => dflt (tyX8 k))])) (fun r w => r = none ∧ w = lw (l ++ Y8 l.length)) := by
  refine L_ent [some (.ref l.length)] rfl ?_
  refine L_aload_n eX8_init_0 rfl ?_
  refine V_objInit (o := l.length) v_X8_3 oi_1 oi_2 eX8_init_1 ?_
  refine L_aload_n eX8_init_4 rfl ?_
  refine V_iconst eX8_init_5 ?_
  refine N_put (i := 0) eX8_init_6 f_X8_9 rfl rfl rfl ?_
  refine L_aload_n eX8_init_9 rfl ?_
  refine V_iconst eX8_init_10 ?_
  refine N_put (i := 0) eX8_init_11 f_X8_15 rfl rfl rfl ?_
  refine L_aload_n eX8_init_14 rfl ?_
  refine L_bipush eX8_init_15 rfl ?_
  refine N_newI (n := 61) (m := 1) eX8_init_17 rfl (by omega) (by decide) ?_
  refine N_putF (i := 0) eX8_init_19 f_X8_18 rfl rfl rfl ?_
  refine L_aload_n eX8_init_22 rfl ?_
  refine L_bipush eX8_init_23 rfl ?_
  refine N_newI (n := 61) (m := 2) eX8_init_25 rfl (by omega) (by decide) ?_
  refine N_putF (i := 0) eX8_init_27 f_X8_22 rfl rfl rfl ?_
  exact V_return eX8_init_30 ⟨rfl, rfl⟩
def Y7 (b : Nat) : List aE := [.inr (7, up (up (up (up (up (up (fun k => dflt (tyX7 k)) 0 (.ref (b + 1))) 1 (vi 0)) 2 (vi 0)) 3 (vi 0)) 4 (vi 0)) 5 (vi (-1))), .inl (0, 160, fun _ => 0)]
theorem n_X7 {G : gT} {l : List aE} (hl : l.length ≤ 900) : Meets G mX7_init [.ref l.length] (lw (l ++ [.inr (7, fun k => dflt (tyX7 k))])) (fun r w => r = none ∧ w = lw (l ++ Y7 l.length)) := by
  refine L_ent [some (.ref l.length)] rfl ?_
  refine L_aload_n eX7_init_0 rfl ?_
  refine V_objInit (o := l.length) v_X7_3 oi_1 oi_2 eX7_init_1 ?_
  refine L_aload_n eX7_init_4 rfl ?_
  refine L_sipush eX7_init_5 rfl ?_
  refine N_newI (n := 160) (m := 1) eX7_init_8 rfl (by omega) (by decide) ?_
  refine N_putF (i := 0) eX7_init_10 f_X7_9 rfl rfl rfl ?_
  refine L_aload_n eX7_init_13 rfl ?_
  refine V_iconst eX7_init_14 ?_
  refine N_put (i := 0) eX7_init_15 f_X7_15 rfl rfl rfl ?_
  refine L_aload_n eX7_init_18 rfl ?_
  refine V_iconst eX7_init_19 ?_
  refine N_put (i := 0) eX7_init_20 f_X7_19 rfl rfl rfl ?_
  refine L_aload_n eX7_init_23 rfl ?_
  refine V_iconst eX7_init_24 ?_
  refine N_put (i := 0) eX7_init_25 f_X7_22 rfl rfl rfl ?_
  refine L_aload_n eX7_init_28 rfl ?_
  refine V_iconst eX7_init_29 ?_
  refine N_put (i := 0) eX7_init_30 f_X7_25 rfl rfl rfl ?_
  refine L_aload_n eX7_init_33 rfl ?_
  refine V_iconst eX7_init_34 ?_
  refine N_put (i := 0) eX7_init_35 f_X7_28 rfl rfl rfl ?_
  exact V_return eX7_init_38 ⟨rfl, rfl⟩
def Y9 (b : Nat) : List aE := [.inr (9, up (up (up (up (up (up (up (up (up (up (fun k => dflt (tyX9 k)) 0 (.ref (b + 1))) 1 (.ref (b + 2))) 2 (.ref (b + 3))) 3 (vi 0)) 4 (vi 0)) 5 (.ref (b + 4))) 6 (.ref (b + 5))) 7 (.ref (b + 6))) 8 (vi 0)) 9 (vi 0)), .inl (0, 60, fun _ => 0), .inl (0, 60, fun _ => 0), .inl (0, 60, fun _ => 0), .inl (0, 3, fun _ => 0), .inl (0, 3, fun _ => 0), .inl (0, 3, fun _ => 0)]
theorem n_X9 {G : gT} {l : List aE} (hl : l.length ≤ 900) : Meets G mX9_init [.ref l.length] (lw (l ++ [.inr (9, fun k => dflt (tyX9 k))])) (fun r w => r = none ∧ w = lw (l ++ Y9 l.length)) := by
  refine L_ent [some (.ref l.length)] rfl ?_
  refine L_aload_n eX9_init_0 rfl ?_
  refine V_objInit (o := l.length) v_X9_3 oi_1 oi_2 eX9_init_1 ?_
  refine L_aload_n eX9_init_4 rfl ?_
  refine L_bipush eX9_init_5 rfl ?_
  refine N_newI (n := 60) (m := 1) eX9_init_7 rfl (by omega) (by decide) ?_
  refine N_putF (i := 0) eX9_init_9 f_X9_9 rfl rfl rfl ?_
  refine L_aload_n eX9_init_12 rfl ?_
  refine L_bipush eX9_init_13 rfl ?_
  refine N_newI (n := 60) (m := 2) eX9_init_15 rfl (by omega) (by decide) ?_
  refine N_putF (i := 0) eX9_init_17 f_X9_15 rfl rfl rfl ?_
  refine L_aload_n eX9_init_20 rfl ?_
  refine L_bipush eX9_init_21 rfl ?_
  refine N_newI (n := 60) (m := 3) eX9_init_23 rfl (by omega) (by decide) ?_
  refine N_putF (i := 0) eX9_init_25 f_X9_18 rfl rfl rfl ?_
  refine L_aload_n eX9_init_28 rfl ?_
  refine V_iconst eX9_init_29 ?_
  refine N_put (i := 0) eX9_init_30 f_X9_21 rfl rfl rfl ?_
  refine L_aload_n eX9_init_33 rfl ?_
  refine V_iconst eX9_init_34 ?_
  refine N_put (i := 0) eX9_init_35 f_X9_25 rfl rfl rfl ?_
  refine L_aload_n eX9_init_38 rfl ?_
  refine V_iconst eX9_init_39 ?_
  refine N_newI (n := 3) (m := 4) eX9_init_40 rfl (by omega) (by decide) ?_
  refine N_putF (i := 0) eX9_init_42 f_X9_28 rfl rfl rfl ?_
  refine L_aload_n eX9_init_45 rfl ?_
  refine V_iconst eX9_init_46 ?_
  refine N_newI (n := 3) (m := 5) eX9_init_47 rfl (by omega) (by decide) ?_
  refine N_putF (i := 0) eX9_init_49 f_X9_31 rfl rfl rfl ?_
  refine L_aload_n eX9_init_52 rfl ?_
  refine V_iconst eX9_init_53 ?_
  refine N_newI (n := 3) (m := 6) eX9_init_54 rfl (by omega) (by decide) ?_
  refine N_putF (i := 0) eX9_init_56 f_X9_34 rfl rfl rfl ?_
  refine L_aload_n eX9_init_59 rfl ?_
  refine V_iconst eX9_init_60 ?_
  refine N_put (i := 0) eX9_init_61 f_X9_37 rfl rfl rfl ?_
  refine L_aload_n eX9_init_64 rfl ?_
  refine V_iconst eX9_init_65 ?_
  refine N_put (i := 0) eX9_init_66 f_X9_40 rfl rfl rfl ?_
  exact V_return eX9_init_69 ⟨rfl, rfl⟩
def Y1 (b : Nat) : List aE := [.inr (1, up (up (up (up (up (up (up (up (fun k => dflt (tyX1 k)) 0 (vi 0)) 1 (vi 0)) 2 (vi 0)) 3 (vi 0)) 4 (.ref (b + 1))) 5 (.ref (b + 2))) 6 (.ref (b + 3))) 7 (.ref (b + 4))), .inl (0, 793, fun _ => 0), .inl (0, 793, fun _ => 0), .inl (0, 13, fun _ => 0), .inl (0, 13, fun _ => 0)]
theorem n_X1 {G : gT} {l : List aE} (hl : l.length ≤ 900) : Meets G mX1_init [.ref l.length] (lw (l ++ [.inr (1, fun k => dflt (tyX1 k))])) (fun r w => r = none ∧ w = lw (l ++ Y1 l.length)) := by
  refine L_ent [some (.ref l.length)] rfl ?_
  refine L_aload_n eX1_init_0 rfl ?_
  refine V_objInit (o := l.length) v_X1_3 oi_1 oi_2 eX1_init_1 ?_
  refine L_aload_n eX1_init_4 rfl ?_
  refine V_iconst eX1_init_5 ?_
  refine N_put (i := 0) eX1_init_6 f_X1_9 rfl rfl rfl ?_
  refine L_aload_n eX1_init_9 rfl ?_
  refine V_iconst eX1_init_10 ?_
  refine N_put (i := 0) eX1_init_11 f_X1_15 rfl rfl rfl ?_
  refine L_aload_n eX1_init_14 rfl ?_
  refine V_iconst eX1_init_15 ?_
  refine N_put (i := 0) eX1_init_16 f_X1_18 rfl rfl rfl ?_
  refine L_aload_n eX1_init_19 rfl ?_
  refine V_iconst eX1_init_20 ?_
  refine N_put (i := 0) eX1_init_21 f_X1_21 rfl rfl rfl ?_
  refine L_aload_n eX1_init_24 rfl ?_
  refine L_sipush eX1_init_25 rfl ?_
  refine N_newI (n := 793) (m := 1) eX1_init_28 rfl (by omega) (by decide) ?_
  refine N_putF (i := 0) eX1_init_30 f_X1_24 rfl rfl rfl ?_
  refine L_aload_n eX1_init_33 rfl ?_
  refine L_sipush eX1_init_34 rfl ?_
  refine N_newI (n := 793) (m := 2) eX1_init_37 rfl (by omega) (by decide) ?_
  refine N_putF (i := 0) eX1_init_39 f_X1_28 rfl rfl rfl ?_
  refine L_aload_n eX1_init_42 rfl ?_
  refine L_bipush eX1_init_43 rfl ?_
  refine N_newI (n := 13) (m := 3) eX1_init_45 rfl (by omega) (by decide) ?_
  refine N_putF (i := 0) eX1_init_47 f_X1_31 rfl rfl rfl ?_
  refine L_aload_n eX1_init_50 rfl ?_
  refine L_bipush eX1_init_51 rfl ?_
  refine N_newI (n := 13) (m := 4) eX1_init_53 rfl (by omega) (by decide) ?_
  refine N_putF (i := 0) eX1_init_55 f_X1_34 rfl rfl rfl ?_
  exact V_return eX1_init_58 ⟨rfl, rfl⟩
def Y2 (b : Nat) : List aE := [.inr (2, up (up (up (up (up (fun k => dflt (tyX2 k)) 0 (vi 0)) 1 (vi 0)) 2 (.ref (b + 1))) 3 (.ref (b + 2))) 4 (.ref (b + 3))), .inl (0, 6, fun _ => 0), .inl (0, 8, fun _ => 0), .inl (0, 256, fun _ => 0)]
theorem n_X2 {G : gT} {l : List aE} (hl : l.length ≤ 900) : Meets G mX2_init [.ref l.length] (lw (l ++ [.inr (2, fun k => dflt (tyX2 k))])) (fun r w => r = none ∧ w = lw (l ++ Y2 l.length)) := by
  refine L_ent [some (.ref l.length)] rfl ?_
  refine L_aload_n eX2_init_0 rfl ?_
  refine V_objInit (o := l.length) v_X2_3 oi_1 oi_2 eX2_init_1 ?_
  refine L_aload_n eX2_init_4 rfl ?_
  refine V_iconst eX2_init_5 ?_
  refine N_put (i := 0) eX2_init_6 f_X2_9 rfl rfl rfl ?_
  refine L_aload_n eX2_init_9 rfl ?_
  refine V_iconst eX2_init_10 ?_
  refine N_put (i := 0) eX2_init_11 f_X2_15 rfl rfl rfl ?_
  refine L_aload_n eX2_init_14 rfl ?_
  refine L_bipush eX2_init_15 rfl ?_
  refine N_newI (n := 6) (m := 1) eX2_init_17 rfl (by omega) (by decide) ?_
  refine N_putF (i := 0) eX2_init_19 f_X2_18 rfl rfl rfl ?_
  refine L_aload_n eX2_init_22 rfl ?_
  refine L_bipush eX2_init_23 rfl ?_
  refine N_newI (n := 8) (m := 2) eX2_init_25 rfl (by omega) (by decide) ?_
  refine N_putF (i := 0) eX2_init_27 f_X2_22 rfl rfl rfl ?_
  refine L_aload_n eX2_init_30 rfl ?_
  refine L_sipush eX2_init_31 rfl ?_
  refine N_newI (n := 256) (m := 3) eX2_init_34 rfl (by omega) (by decide) ?_
  refine N_putF (i := 0) eX2_init_36 f_X2_25 rfl rfl rfl ?_
  exact V_return eX2_init_39 ⟨rfl, rfl⟩
def Y0 (b : Nat) : List aE := [.inr (0, up (up (up (fun k => dflt (tyX0 k)) 0 (vi 0)) 1 (.ref (b + 1))) 2 (.ref (b + 2))), .inl (0, 60, fun _ => 0), .inl (0, 60, fun _ => 0)]
theorem n_X0 {G : gT} {l : List aE} (hl : l.length ≤ 900) : Meets G mX0_init [.ref l.length] (lw (l ++ [.inr (0, fun k => dflt (tyX0 k))])) (fun r w => r = none ∧ w = lw (l ++ Y0 l.length)) := by
  refine L_ent [some (.ref l.length)] rfl ?_
  refine L_aload_n eX0_init_0 rfl ?_
  refine V_objInit (o := l.length) v_X0_3 oi_1 oi_2 eX0_init_1 ?_
  refine L_aload_n eX0_init_4 rfl ?_
  refine V_iconst eX0_init_5 ?_
  refine N_put (i := 0) eX0_init_6 f_X0_9 rfl rfl rfl ?_
  refine L_aload_n eX0_init_9 rfl ?_
  refine L_bipush eX0_init_10 rfl ?_
  refine N_newI (n := 60) (m := 1) eX0_init_12 rfl (by omega) (by decide) ?_
  refine N_putF (i := 0) eX0_init_14 f_X0_15 rfl rfl rfl ?_
  refine L_aload_n eX0_init_17 rfl ?_
  refine L_bipush eX0_init_18 rfl ?_
  refine N_newI (n := 60) (m := 2) eX0_init_20 rfl (by omega) (by decide) ?_
  refine N_putF (i := 0) eX0_init_22 f_X0_19 rfl rfl rfl ?_
  exact V_return eX0_init_25 ⟨rfl, rfl⟩
def Y6 (b : Nat) : List aE := [.inr (6, up (up (up (up (fun k => dflt (tyX6 k)) 0 (.ref (b + 1))) 1 (.ref (b + 5))) 2 (.ref (b + 8))) 3 (vi 0))] ++ (Y3 (b + 1) ++ (Y8 (b + 5) ++ [.inl (0, 5, up (up (up (up (up (fun _ => 0) 0 2) 1 3) 2 3) 3 150) 4 5000)]))
theorem n_X6 {G : gT} {l : List aE} (hl : l.length ≤ 800) : Meets G mX6_init [.ref l.length] (lw (l ++ [.inr (6, fun k => dflt (tyX6 k))])) (fun r w => r = none ∧ w = lw (l ++ Y6 l.length)) := by
  refine L_ent [some (.ref l.length)] rfl ?_
  refine L_aload_n eX6_init_0 rfl ?_
  refine V_objInit (o := l.length) v_X6_3 oi_1 oi_2 eX6_init_1 ?_
  refine L_aload_n eX6_init_4 rfl ?_
  refine N_new (m := 1) eX6_init_5 okX3 c_X6_9 rfl (by omega) (by decide) (by decide) ?_
  refine L_dup eX6_init_8 ?_
  refine N_ctor (m := 1) (Y := Y3) eX6_init_9 (n_X3 (by rw [List.length_append]; show l.length + 1 ≤ 900; omega)) v_X6_11 rfl ?_
  refine N_putF (i := 0) eX6_init_12 f_X6_12 rfl rfl rfl ?_
  refine L_aload_n eX6_init_15 rfl ?_
  refine N_new (m := 5) eX6_init_16 okX8 c_X6_18 rfl (by omega) (by decide) (by decide) ?_
  refine L_dup eX6_init_19 ?_
  refine N_ctor (m := 5) (Y := Y8) eX6_init_20 (n_X8 (by rw [List.length_append]; show l.length + 5 ≤ 900; omega)) v_X6_20 rfl ?_
  refine N_putF (i := 0) eX6_init_23 f_X6_21 rfl rfl rfl ?_
  refine L_aload_n eX6_init_26 rfl ?_
  refine V_iconst eX6_init_27 ?_
  refine N_newI (n := 5) (m := 8) eX6_init_28 rfl (by omega) (by decide) ?_
  refine L_dup eX6_init_30 ?_
  refine V_iconst eX6_init_31 ?_
  refine V_iconst eX6_init_32 ?_
  refine N_iast (i := 8) eX6_init_33 rfl ?_
  refine L_dup eX6_init_34 ?_
  refine V_iconst eX6_init_35 ?_
  refine V_iconst eX6_init_36 ?_
  refine N_iast (i := 8) eX6_init_37 rfl ?_
  refine L_dup eX6_init_38 ?_
  refine V_iconst eX6_init_39 ?_
  refine V_iconst eX6_init_40 ?_
  refine N_iast (i := 8) eX6_init_41 rfl ?_
  refine L_dup eX6_init_42 ?_
  refine V_iconst eX6_init_43 ?_
  refine L_sipush eX6_init_44 rfl ?_
  refine N_iast (i := 8) eX6_init_47 rfl ?_
  refine L_dup eX6_init_48 ?_
  refine V_iconst eX6_init_49 ?_
  refine L_sipush eX6_init_50 rfl ?_
  refine N_iast (i := 8) eX6_init_53 rfl ?_
  refine N_putF (i := 0) eX6_init_54 f_X6_25 rfl rfl rfl ?_
  refine L_aload_n eX6_init_57 rfl ?_
  refine V_iconst eX6_init_58 ?_
  refine N_put (i := 0) eX6_init_59 f_X6_29 rfl rfl rfl ?_
  exact V_return eX6_init_62 ⟨rfl, rfl⟩
def Y4 (b : Nat) : List aE := [.inr (4, up (up (fun k => dflt (tyX4 k)) 0 (.ref (b + 1))) 1 (vi 0))] ++ Y3 (b + 1)
theorem n_X4 {G : gT} {l : List aE} (hl : l.length ≤ 800) : Meets G mX4_init [.ref l.length] (lw (l ++ [.inr (4, fun k => dflt (tyX4 k))])) (fun r w => r = none ∧ w = lw (l ++ Y4 l.length)) := by
  refine L_ent [some (.ref l.length)] rfl ?_
  refine L_aload_n eX4_init_0 rfl ?_
  refine V_objInit (o := l.length) v_X4_3 oi_1 oi_2 eX4_init_1 ?_
  refine L_aload_n eX4_init_4 rfl ?_
  refine N_new (m := 1) eX4_init_5 okX3 c_X4_9 rfl (by omega) (by decide) (by decide) ?_
  refine L_dup eX4_init_8 ?_
  refine N_ctor (m := 1) (Y := Y3) eX4_init_9 (n_X3 (by rw [List.length_append]; show l.length + 1 ≤ 900; omega)) v_X4_11 rfl ?_
  refine N_putF (i := 0) eX4_init_12 f_X4_12 rfl rfl rfl ?_
  refine L_aload_n eX4_init_15 rfl ?_
  refine V_iconst eX4_init_16 ?_
  refine N_put (i := 0) eX4_init_17 f_X4_18 rfl rfl rfl ?_
  exact V_return eX4_init_20 ⟨rfl, rfl⟩
def Y5 (b : Nat) : List aE := [.inr (5, up (up (up (up (up (fun k => dflt (tyX5 k)) 0 (vi (-1))) 1 (vi (-1))) 2 (.ref (b + 1))) 3 (.ref (b + 2))) 4 (.ref (b + 3))), .inl (0, 8, fun _ => 0), .inl (0, 8, fun _ => 0)] ++ Y3 (b + 3)
theorem n_X5 {G : gT} {l : List aE} (hl : l.length ≤ 800) : Meets G mX5_init [.ref l.length] (lw (l ++ [.inr (5, fun k => dflt (tyX5 k))])) (fun r w => r = none ∧ w = lw (l ++ Y5 l.length)) := by
  refine L_ent [some (.ref l.length)] rfl ?_
  refine L_aload_n eX5_init_0 rfl ?_
  refine V_objInit (o := l.length) v_X5_3 oi_1 oi_2 eX5_init_1 ?_
  refine L_aload_n eX5_init_4 rfl ?_
  refine V_iconst eX5_init_5 ?_
  refine N_put (i := 0) eX5_init_6 f_X5_9 rfl rfl rfl ?_
  refine L_aload_n eX5_init_9 rfl ?_
  refine V_iconst eX5_init_10 ?_
  refine N_put (i := 0) eX5_init_11 f_X5_15 rfl rfl rfl ?_
  refine L_aload_n eX5_init_14 rfl ?_
  refine L_bipush eX5_init_15 rfl ?_
  refine N_newI (n := 8) (m := 1) eX5_init_17 rfl (by omega) (by decide) ?_
  refine N_putF (i := 0) eX5_init_19 f_X5_18 rfl rfl rfl ?_
  refine L_aload_n eX5_init_22 rfl ?_
  refine L_bipush eX5_init_23 rfl ?_
  refine N_newI (n := 8) (m := 2) eX5_init_25 rfl (by omega) (by decide) ?_
  refine N_putF (i := 0) eX5_init_27 f_X5_22 rfl rfl rfl ?_
  refine L_aload_n eX5_init_30 rfl ?_
  refine N_new (m := 3) eX5_init_31 okX3 c_X5_25 rfl (by omega) (by decide) (by decide) ?_
  refine L_dup eX5_init_34 ?_
  refine N_ctor (m := 3) (Y := Y3) eX5_init_35 (n_X3 (by rw [List.length_append]; show l.length + 3 ≤ 900; omega)) v_X5_27 rfl ?_
  refine N_putF (i := 0) eX5_init_38 f_X5_28 rfl rfl rfl ?_
  exact V_return eX5_init_41 ⟨rfl, rfl⟩

