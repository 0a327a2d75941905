/-! THE CONSTRUCTORS: what they leave -/
def Y10 (b : Nat) : List aE := [.inr (10, up (up (up (up (up (up (up (up (up (up (up (up (up (up (up (up (up (up (fun k => dflt (tyX10 k)) 0 (.ref (b + 1))) 1 (.ref (b + 10))) 2 (.ref (b + 19))) 3 (.ref (b + 28))) 4 (.ref (b + 30))) 5 (.ref (b + 35))) 6 (.ref (b + 42))) 7 (.ref (b + 47))) 8 (.ref (b + 52))) 9 (.ref (b + 59))) 10 (.ref (b + 63))) 11 (vi 100)) 12 (vi 0)) 13 (vi 500)) 14 (vi 300)) 15 (vi 0)) 16 (vi (-1))) 17 (vi 0))] ++ (Y6 (b + 1) ++ (Y6 (b + 10) ++ (Y6 (b + 19) ++ (Y7 (b + 28) ++ (Y4 (b + 30) ++ (Y9 (b + 35) ++ (Y1 (b + 42) ++ (Y1 (b + 47) ++ (Y5 (b + 52) ++ (Y2 (b + 59) ++ Y0 (b + 63)))))))))))
theorem n_X10 {G : gT} {l : List aE} (hl : l.length ≤ 100) : Meets G mX10_init [.ref l.length] (lw (l ++ [.inr (10, fun k => dflt (tyX10 k))])) (fun r w => r = none ∧ w = lw (l ++ Y10 l.length)) := by
  refine L_ent [some (.ref l.length)] rfl ?_
  have hm : ([] : List aE).length = 0 := rfl
  refine L_aload_n eX10_init_0 rfl ?_
  refine V_objInit (o := l.length) v_X10_1 oi_1 oi_2 eX10_init_1 ?_
  refine L_aload_n eX10_init_4 rfl ?_
  refine M_new (m' := 1) eX10_init_5 okX6 c_X10_7 hm rfl (by omega) (by decide) (by decide) ?_
  refine L_dup eX10_init_8 ?_
  refine M_ctor (Y := Y6) (m' := 1) (m2 := 9) eX10_init_9 (n_X6 (by rw [List.length_append, List.length_cons, hm]; omega)) v_X10_9 hm rfl rfl rfl (fun hm => ?_)
  refine M_putF eX10_init_12 f_X10_10 rfl rfl ?_
  refine L_aload_n eX10_init_15 rfl ?_
  refine M_new (m' := 10) eX10_init_16 okX6 c_X10_7 hm rfl (by omega) (by decide) (by decide) ?_
  refine L_dup eX10_init_19 ?_
  refine M_ctor (Y := Y6) (m' := 10) (m2 := 18) eX10_init_20 (n_X6 (by rw [List.length_append, List.length_cons, hm]; omega)) v_X10_9 hm rfl rfl rfl (fun hm => ?_)
  refine M_putF eX10_init_23 f_X10_16 rfl rfl ?_
  refine L_aload_n eX10_init_26 rfl ?_
  refine M_new (m' := 19) eX10_init_27 okX6 c_X10_7 hm rfl (by omega) (by decide) (by decide) ?_
  refine L_dup eX10_init_30 ?_
  refine M_ctor (Y := Y6) (m' := 19) (m2 := 27) eX10_init_31 (n_X6 (by rw [List.length_append, List.length_cons, hm]; omega)) v_X10_9 hm rfl rfl rfl (fun hm => ?_)
  refine M_putF eX10_init_34 f_X10_19 rfl rfl ?_
  refine L_aload_n eX10_init_37 rfl ?_
  refine M_new (m' := 28) eX10_init_38 okX7 c_X10_22 hm rfl (by omega) (by decide) (by decide) ?_
  refine L_dup eX10_init_41 ?_
  refine M_ctor (Y := Y7) (m' := 28) (m2 := 29) eX10_init_42 (n_X7 (by rw [List.length_append, List.length_cons, hm]; omega)) v_X10_24 hm rfl rfl rfl (fun hm => ?_)
  refine M_putF eX10_init_45 f_X10_25 rfl rfl ?_
  refine L_aload_n eX10_init_48 rfl ?_
  refine M_new (m' := 30) eX10_init_49 okX4 c_X10_29 hm rfl (by omega) (by decide) (by decide) ?_
  refine L_dup eX10_init_52 ?_
  refine M_ctor (Y := Y4) (m' := 30) (m2 := 34) eX10_init_53 (n_X4 (by rw [List.length_append, List.length_cons, hm]; omega)) v_X10_31 hm rfl rfl rfl (fun hm => ?_)
  refine M_putF eX10_init_56 f_X10_32 rfl rfl ?_
  refine L_aload_n eX10_init_59 rfl ?_
  refine M_new (m' := 35) eX10_init_60 okX9 c_X10_36 hm rfl (by omega) (by decide) (by decide) ?_
  refine L_dup eX10_init_63 ?_
  refine M_ctor (Y := Y9) (m' := 35) (m2 := 41) eX10_init_64 (n_X9 (by rw [List.length_append, List.length_cons, hm]; omega)) v_X10_38 hm rfl rfl rfl (fun hm => ?_)
  refine M_putF eX10_init_67 f_X10_39 rfl rfl ?_
  refine L_aload_n eX10_init_70 rfl ?_
  refine M_new (m' := 42) eX10_init_71 okX1 c_X10_43 hm rfl (by omega) (by decide) (by decide) ?_
  refine L_dup eX10_init_74 ?_
  refine M_ctor (Y := Y1) (m' := 42) (m2 := 46) eX10_init_75 (n_X1 (by rw [List.length_append, List.length_cons, hm]; omega)) v_X10_45 hm rfl rfl rfl (fun hm => ?_)
  refine M_putF eX10_init_78 f_X10_46 rfl rfl ?_
  refine L_aload_n eX10_init_81 rfl ?_
  refine M_new (m' := 47) eX10_init_82 okX1 c_X10_43 hm rfl (by omega) (by decide) (by decide) ?_
  refine L_dup eX10_init_85 ?_
  refine M_ctor (Y := Y1) (m' := 47) (m2 := 51) eX10_init_86 (n_X1 (by rw [List.length_append, List.length_cons, hm]; omega)) v_X10_45 hm rfl rfl rfl (fun hm => ?_)
  refine M_putF eX10_init_89 f_X10_50 rfl rfl ?_
  refine L_aload_n eX10_init_92 rfl ?_
  refine M_new (m' := 52) eX10_init_93 okX5 c_X10_53 hm rfl (by omega) (by decide) (by decide) ?_
  refine L_dup eX10_init_96 ?_
  refine M_ctor (Y := Y5) (m' := 52) (m2 := 58) eX10_init_97 (n_X5 (by rw [List.length_append, List.length_cons, hm]; omega)) v_X10_55 hm rfl rfl rfl (fun hm => ?_)
  refine M_putF eX10_init_100 f_X10_56 rfl rfl ?_
  refine L_aload_n eX10_init_103 rfl ?_
  refine M_new (m' := 59) eX10_init_104 okX2 c_X10_60 hm rfl (by omega) (by decide) (by decide) ?_
  refine L_dup eX10_init_107 ?_
  refine M_ctor (Y := Y2) (m' := 59) (m2 := 62) eX10_init_108 (n_X2 (by rw [List.length_append, List.length_cons, hm]; omega)) v_X10_62 hm rfl rfl rfl (fun hm => ?_)
  refine M_putF eX10_init_111 f_X10_63 rfl rfl ?_
  refine L_aload_n eX10_init_114 rfl ?_
  refine M_new (m' := 63) eX10_init_115 okX0 c_X10_67 hm rfl (by omega) (by decide) (by decide) ?_
  refine L_dup eX10_init_118 ?_
  refine M_ctor (Y := Y0) (m' := 63) (m2 := 65) eX10_init_119 (n_X0 (by rw [List.length_append, List.length_cons, hm]; omega)) v_X10_69 hm rfl rfl rfl (fun hm => ?_)
  refine M_putF eX10_init_122 f_X10_70 rfl rfl ?_
  refine L_aload_n eX10_init_125 rfl ?_
  refine L_bipush eX10_init_126 rfl ?_
  refine M_put eX10_init_128 f_X10_74 rfl rfl ?_
  refine L_aload_n eX10_init_131 rfl ?_
  refine V_iconst eX10_init_132 ?_
  refine M_put eX10_init_133 f_X10_78 rfl rfl ?_
  refine L_aload_n eX10_init_136 rfl ?_
  refine L_sipush eX10_init_137 rfl ?_
  refine M_put eX10_init_140 f_X10_81 rfl rfl ?_
  refine L_aload_n eX10_init_143 rfl ?_
  refine L_sipush eX10_init_144 rfl ?_
  refine M_put eX10_init_147 f_X10_84 rfl rfl ?_
  refine L_aload_n eX10_init_150 rfl ?_
  refine V_iconst eX10_init_151 ?_
  refine M_put eX10_init_152 f_X10_87 rfl rfl ?_
  refine L_aload_n eX10_init_155 rfl ?_
  refine V_iconst eX10_init_156 ?_
  refine M_put eX10_init_157 f_X10_90 rfl rfl ?_
  refine L_aload_n eX10_init_160 rfl ?_
  refine V_iconst eX10_init_161 ?_
  refine M_put eX10_init_162 f_X10_93 rfl rfl ?_
  exact V_return eX10_init_165 ⟨rfl, rfl⟩

