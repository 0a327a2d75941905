theorem spn_b {s : rS} {n t k : Int} (hr : bR n t 60000000 s) (hk : 1 ≤ k ∧ k ≤ n) : ab 60000000 (s.1 (13 * t + k)) ∧ ab 60000000 (s.2 (13 * t + k)) ∧ ab 60000000 (s.1 (13 * t + k - 1)) ∧ ab 60000000 (s.2 (13 * t + k - 1)) ∧ (0 ≤ (s.1 (13 * t + k) - s.1 (13 * t + k - 1)) * (s.1 (13 * t + k) - s.1 (13 * t + k - 1)) + (s.2 (13 * t + k) - s.2 (13 * t + k - 1)) * (s.2 (13 * t + k) - s.2 (13 * t + k - 1)) ∧ (s.1 (13 * t + k) - s.1 (13 * t + k - 1)) * (s.1 (13 * t + k) - s.1 (13 * t + k - 1)) + (s.2 (13 * t + k) - s.2 (13 * t + k - 1)) * (s.2 (13 * t + k) - s.2 (13 * t + k - 1)) ≤ 28800000000000000) ∧ 0 ≤ spn s (13 * t + k) ∧ spn s (13 * t + k) < 170000000 := by
  have r1 := hr k (by omega) (by omega)
  have r2 := hr (k - 1) (by omega) (by omega)
  rw [show 13 * t + (k - 1) = 13 * t + k - 1 by omega] at r2
  have q1 := ab_sq (B := 120000000) (z := s.1 (13 * t + k) - s.1 (13 * t + k - 1)) (by unfold ab at *; omega)
  have q2 := ab_sq (B := 120000000) (z := s.2 (13 * t + k) - s.2 (13 * t + k - 1)) (by unfold ab at *; omega)
  refine ⟨r1.1, r1.2, r2.1, r2.2, ⟨by omega, by omega⟩, rt_nn _, ?_⟩
  unfold spn
  have := rt_le (n := (s.1 (13 * t + k) - s.1 (13 * t + k - 1)) * (s.1 (13 * t + k) - s.1 (13 * t + k - 1)) + (s.2 (13 * t + k) - s.2 (13 * t + k - 1)) * (s.2 (13 * t + k) - s.2 (13 * t + k - 1))) (by omega)
  exact sq_lt (by omega) (by omega)
section P32
variable {G : gT} {F : fT} {A : nT} {X Y : Int → Int}
theorem p_X11_bend {n k t : Int} (hp : plK n (A 67) (A 68)) (hn : n ≤ 12) (hk : 2 ≤ k ∧ k ≤ n) (ht : 1 ≤ t ∧ t ≤ 60) (hr : bR n t 60000000 (X, Y)) : Mu G mX11_bend [.ref 66, vi k, vi t] F (s2 A 83 X Y) none F (s2 A 83 (bE (bdF (A 67) (A 68)) t k (X, Y)).1 (bE (bdF (A 67) (A 68)) t k (X, Y)).2) := by
  have hb := bd_b hp (k := k) (by omega)
  have r0 := hr k (by omega) (by omega)
  have r1 := hr (k - 1) (by omega) (by omega)
  have r2 := hr (k - 2) (by omega) (by omega)
  rw [show 13 * t + (k - 1) = 13 * t + k - 1 by omega] at r1
  rw [show 13 * t + (k - 2) = 13 * t + k - 2 by omega] at r2
  simp only [] at r0 r1 r2
  have n1 := ab_mul (B := 240000000) (C := 500) (a := 2 * X (13 * t + k - 1) - X (13 * t + k - 2) - X (13 * t + k)) (by unfold ab at *; omega) hb.1 hb.2
  have n2 := ab_mul (B := 240000000) (C := 500) (a := 2 * Y (13 * t + k - 1) - Y (13 * t + k - 2) - Y (13 * t + k)) (by unfold ab at *; omega) hb.1 hb.2
  unfold ab at n1 n2
  refine L_ent [some (.ref 66), some (vi k), some (vi t), none] rfl ?_
  refine L_iload_n eX11_bend_0 rfl ?_
  refine L_iload_n eX11_bend_1 rfl ?_
  refine C_s1 p_X11_cell v_X11_284 eX11_bend_2 rfl ?_
  refine L_istore_n eX11_bend_5 (s_3 rfl rfl) ?_
  refine L_aload_n eX11_bend_6 rfl ?_
  refine L_getR (r := 84) eX11_bend_7 f_X11_65.g rfl rfl (by decide) ?_
  refine L_iload_n eX11_bend_10 rfl ?_
  refine L_dup2 eX11_bend_11 ?_
  refine Z_lald1 (f := 83) eX11_bend_12 rfl ?_
  refine L_ldc2 eX11_bend_13 k_X11_144 ?_
  refine L_aload_n eX11_bend_16 rfl ?_
  refine L_getR (r := 84) eX11_bend_17 f_X11_65.g rfl rfl (by decide) ?_
  refine L_iload_n eX11_bend_20 rfl ?_
  refine V_iconst eX11_bend_21 ?_
  refine V_isub eX11_bend_22 ?_
  refine Z_lald1 (f := 83) eX11_bend_23 rfl ?_
  refine V_lmul eX11_bend_24 ?_
  refine L_aload_n eX11_bend_25 rfl ?_
  refine L_getR (r := 84) eX11_bend_26 f_X11_65.g rfl rfl (by decide) ?_
  refine L_iload_n eX11_bend_29 rfl ?_
  refine V_iconst eX11_bend_30 ?_
  refine V_isub eX11_bend_31 ?_
  refine Z_lald1 (f := 83) eX11_bend_32 rfl ?_
  refine V_lsub eX11_bend_33 ?_
  refine L_aload_n eX11_bend_34 rfl ?_
  refine L_getR (r := 84) eX11_bend_35 f_X11_65.g rfl rfl (by decide) ?_
  refine L_iload_n eX11_bend_38 rfl ?_
  refine Z_lald1 (f := 83) eX11_bend_39 rfl ?_
  refine V_lsub eX11_bend_40 ?_
  refine L_aload_n eX11_bend_41 rfl ?_
  refine L_iload_n eX11_bend_42 rfl ?_
  refine C_v1 (p_X11_bendsOf2 hp hn (by omega)) v_X11_257 eX11_bend_43 rfl rfl ?_
  refine V_i2l eX11_bend_46 ?_
  refine V_lmul eX11_bend_47 ?_
  refine L_ldc2 eX11_bend_48 k_X11_292 ?_
  refine V_ldiv eX11_bend_51 ?_
  refine V_ladd eX11_bend_52 ?_
  refine Z_last1 (f := 83) eX11_bend_53 rfl ?_
  refine L_aload_n eX11_bend_54 rfl ?_
  refine L_getR (r := 85) eX11_bend_55 f_X11_69.g rfl rfl (by decide) ?_
  refine L_iload_n eX11_bend_58 rfl ?_
  refine L_dup2 eX11_bend_59 ?_
  refine Z_lald2 (f := 83) eX11_bend_60 rfl ?_
  refine L_ldc2 eX11_bend_61 k_X11_144 ?_
  refine L_aload_n eX11_bend_64 rfl ?_
  refine L_getR (r := 85) eX11_bend_65 f_X11_69.g rfl rfl (by decide) ?_
  refine L_iload_n eX11_bend_68 rfl ?_
  refine V_iconst eX11_bend_69 ?_
  refine V_isub eX11_bend_70 ?_
  refine Z_lald2 (f := 83) eX11_bend_71 rfl ?_
  refine V_lmul eX11_bend_72 ?_
  refine L_aload_n eX11_bend_73 rfl ?_
  refine L_getR (r := 85) eX11_bend_74 f_X11_69.g rfl rfl (by decide) ?_
  refine L_iload_n eX11_bend_77 rfl ?_
  refine V_iconst eX11_bend_78 ?_
  refine V_isub eX11_bend_79 ?_
  refine Z_lald2 (f := 83) eX11_bend_80 rfl ?_
  refine V_lsub eX11_bend_81 ?_
  refine L_aload_n eX11_bend_82 rfl ?_
  refine L_getR (r := 85) eX11_bend_83 f_X11_69.g rfl rfl (by decide) ?_
  refine L_iload_n eX11_bend_86 rfl ?_
  refine Z_lald2 (f := 83) eX11_bend_87 rfl ?_
  refine V_lsub eX11_bend_88 ?_
  refine L_aload_n eX11_bend_89 rfl ?_
  refine L_iload_n eX11_bend_90 rfl ?_
  refine C_v1 (p_X11_bendsOf2 hp hn (by omega)) v_X11_257 eX11_bend_91 rfl rfl ?_
  refine V_i2l eX11_bend_94 ?_
  refine V_lmul eX11_bend_95 ?_
  refine L_ldc2 eX11_bend_96 k_X11_292 ?_
  refine V_ldiv eX11_bend_99 ?_
  refine V_ladd eX11_bend_100 ?_
  refine Z_last2 (f := 83) eX11_bend_101 rfl ?_
  exact V_return eX11_bend_102 ⟨rfl, rfl⟩
theorem p_X11_pull {n k t : Int} (hp : plK n (A 67) (A 68)) (hn : n ≤ 12) (hk : 1 ≤ k ∧ k ≤ n) (ht : 1 ≤ t ∧ t ≤ 60) (hlen : 20 ≤ F 66 1 ∧ F 66 1 ≤ 200) (hr : bR n t 60000000 (X, Y)) : Mu G mX11_pull [.ref 66, vi k, vi t] F (s2 A 83 X Y) none F (s2 A 83 (pU (wtF (A 67) (A 68)) (F 66 1) t k (X, Y)).1 (pU (wtF (A 67) (A 68)) (F 66 1) t k (X, Y)).2) := by
  obtain ⟨b1, b2, b3, b4, b5, b6, b7⟩ := spn_b hr hk
  have hw := wt_b hp hk
  unfold pU
  simp only []
  generalize hd : spn (X, Y) (13 * t + k) = d at b6 b7
  unfold spn at hd
  simp only [] at hd b1 b2 b3 b4 b5
  refine L_ent [some (.ref 66), some (vi k), some (vi t), none, none, none, none, none, none, none, none, none, none, none, none, none, none, none] rfl ?_
  refine L_iload_n eX11_pull_0 rfl ?_
  refine L_iload_n eX11_pull_1 rfl ?_
  refine C_s1 p_X11_cell v_X11_284 eX11_pull_2 rfl ?_
  refine L_istore_n eX11_pull_5 (s_3 rfl rfl) ?_
  refine L_aload_n eX11_pull_6 rfl ?_
  refine L_getR (r := 84) eX11_pull_7 f_X11_65.g rfl rfl (by decide) ?_
  refine L_iload_n eX11_pull_10 rfl ?_
  refine Z_lald1 (f := 83) eX11_pull_11 rfl ?_
  refine L_aload_n eX11_pull_12 rfl ?_
  refine L_getR (r := 84) eX11_pull_13 f_X11_65.g rfl rfl (by decide) ?_
  refine L_iload_n eX11_pull_16 rfl ?_
  refine V_iconst eX11_pull_17 ?_
  refine V_isub eX11_pull_18 ?_
  refine Z_lald1 (f := 83) eX11_pull_19 rfl ?_
  refine V_lsub eX11_pull_20 ?_
  refine L_lstore eX11_pull_21 (t_4 rfl) ?_
  refine L_aload_n eX11_pull_23 rfl ?_
  refine L_getR (r := 85) eX11_pull_24 f_X11_69.g rfl rfl (by decide) ?_
  refine L_iload_n eX11_pull_27 rfl ?_
  refine Z_lald2 (f := 83) eX11_pull_28 rfl ?_
  refine L_aload_n eX11_pull_29 rfl ?_
  refine L_getR (r := 85) eX11_pull_30 f_X11_69.g rfl rfl (by decide) ?_
  refine L_iload_n eX11_pull_33 rfl ?_
  refine V_iconst eX11_pull_34 ?_
  refine V_isub eX11_pull_35 ?_
  refine Z_lald2 (f := 83) eX11_pull_36 rfl ?_
  refine V_lsub eX11_pull_37 ?_
  refine L_lstore eX11_pull_38 (t_6 rfl) ?_
  refine L_lload eX11_pull_40 rfl ?_
  refine L_lload eX11_pull_42 rfl ?_
  refine C_s1 (p_X11_span (by omega)) v_X11_288 eX11_pull_44 rfl ?_
  rw [hd]
  refine L_lstore eX11_pull_47 (t_8 rfl) ?_
  refine L_lload eX11_pull_49 rfl ?_
  refine L_aload_n eX11_pull_51 rfl ?_
  refine L_get eX11_pull_52 f_X11_124.g rfl rfl ?_
  refine V_i2l eX11_pull_55 ?_
  -- at 56: .lcmp
  have aa : ab 120000000 (X (13 * t + k) - X (13 * t + k - 1)) := by unfold ab at *; omega
  have bb : ab 120000000 (Y (13 * t + k) - Y (13 * t + k - 1)) := by unfold ab at *; omega
  generalize X (13 * t + k) - X (13 * t + k - 1) = a at aa
  generalize Y (13 * t + k) - Y (13 * t + k - 1) = b at bb
  refine V_lcmple eX11_pull_56 eX11_pull_57 (fun h => ?_) (fun h => ?_)
  · rw [if_neg (by omega)]
    exact V_return eX11_pull_224 ⟨rfl, rfl⟩
  · rw [if_pos (by omega)]
    have n1 := ab_mul (C := 170000000) aa (show 0 ≤ d - F 66 1 by omega) (by omega)
    have n2 := ab_mul (C := 170000000) bb (show 0 ≤ d - F 66 1 by omega) (by omega)
    refine L_lload eX11_pull_60 rfl ?_
    refine L_aload_n eX11_pull_62 rfl ?_
    refine L_get eX11_pull_63 f_X11_124.g rfl rfl ?_
    refine V_i2l eX11_pull_66 ?_
    refine V_lsub eX11_pull_67 ?_
    refine L_lstore eX11_pull_68 (t_10 rfl) ?_
    refine L_iload_n eX11_pull_70 rfl ?_
    refine V_iconst eX11_pull_71 ?_
    -- at 72: .if_icmp .ne 40
    refine V_icmpne eX11_pull_72 (fun h2 => ?_) (fun h2 => ?_)
    · rw [if_neg h2]
      have hw2 := wt_b hp (k := k - 1) (by omega)
      have hL := Int.mul_le_mul (show d ≤ 170000000 by omega) (show wtF (A 67) (A 68) (k - 1) + wtF (A 67) (A 68) k ≤ 160 by omega) (by omega) (by omega)
      have hL0 : 0 < d * (wtF (A 67) (A 68) (k - 1) + wtF (A 67) (A 68) k) := Int.mul_pos (by omega) (by omega)
      have m1 := ab_mul (C := 80) n1 (show 0 ≤ wtF (A 67) (A 68) (k - 1) by omega) (by omega)
      have m2 := ab_mul (C := 80) n2 (show 0 ≤ wtF (A 67) (A 68) (k - 1) by omega) (by omega)
      have m3 := ab_mul (C := 80) n1 (show 0 ≤ wtF (A 67) (A 68) k by omega) (by omega)
      have m4 := ab_mul (C := 80) n2 (show 0 ≤ wtF (A 67) (A 68) k by omega) (by omega)
      unfold ab at m1 m2 m3 m4
      refine L_aload_n eX11_pull_112 rfl ?_
      refine L_iload_n eX11_pull_113 rfl ?_
      refine V_iconst eX11_pull_114 ?_
      refine V_isub eX11_pull_115 ?_
      refine C_v1 (p_X11_weightOf2 hp hn (by omega)) v_X11_254 eX11_pull_116 rfl rfl ?_
      refine V_i2l eX11_pull_119 ?_
      refine L_lstore eX11_pull_120 (t_12 rfl) ?_
      refine L_aload_n eX11_pull_122 rfl ?_
      refine L_iload_n eX11_pull_123 rfl ?_
      refine C_v1 (p_X11_weightOf2 hp hn (by omega)) v_X11_254 eX11_pull_124 rfl rfl ?_
      refine V_i2l eX11_pull_127 ?_
      refine L_lstore eX11_pull_128 (t_14 rfl) ?_
      refine L_lload eX11_pull_130 rfl ?_
      refine L_lload eX11_pull_132 rfl ?_
      refine L_lload eX11_pull_134 rfl ?_
      refine V_ladd eX11_pull_136 ?_
      refine V_lmul eX11_pull_137 ?_
      refine L_lstore eX11_pull_138 (t_16 rfl) ?_
      refine L_aload_n eX11_pull_140 rfl ?_
      refine L_getR (r := 84) eX11_pull_141 f_X11_65.g rfl rfl (by decide) ?_
      refine L_iload_n eX11_pull_144 rfl ?_
      refine L_dup2 eX11_pull_145 ?_
      refine Z_lald1 (f := 83) eX11_pull_146 rfl ?_
      refine L_lload eX11_pull_147 rfl ?_
      refine L_lload eX11_pull_149 rfl ?_
      refine V_lmul eX11_pull_151 ?_
      refine L_lload eX11_pull_152 rfl ?_
      refine V_lmul eX11_pull_154 ?_
      refine L_lload eX11_pull_155 rfl ?_
      refine V_ldiv eX11_pull_157 ?_
      refine V_lsub eX11_pull_158 ?_
      refine Z_last1 (f := 83) eX11_pull_159 rfl ?_
      refine L_aload_n eX11_pull_160 rfl ?_
      refine L_getR (r := 85) eX11_pull_161 f_X11_69.g rfl rfl (by decide) ?_
      refine L_iload_n eX11_pull_164 rfl ?_
      refine L_dup2 eX11_pull_165 ?_
      refine Z_lald2 (f := 83) eX11_pull_166 rfl ?_
      refine L_lload eX11_pull_167 rfl ?_
      refine L_lload eX11_pull_169 rfl ?_
      refine V_lmul eX11_pull_171 ?_
      refine L_lload eX11_pull_172 rfl ?_
      refine V_lmul eX11_pull_174 ?_
      refine L_lload eX11_pull_175 rfl ?_
      refine V_ldiv eX11_pull_177 ?_
      refine V_lsub eX11_pull_178 ?_
      refine Z_last2 (f := 83) eX11_pull_179 rfl ?_
      refine L_aload_n eX11_pull_180 rfl ?_
      refine L_getR (r := 84) eX11_pull_181 f_X11_65.g rfl rfl (by decide) ?_
      refine L_iload_n eX11_pull_184 rfl ?_
      refine V_iconst eX11_pull_185 ?_
      refine V_isub eX11_pull_186 ?_
      refine L_dup2 eX11_pull_187 ?_
      refine Z_lald1 (f := 83) eX11_pull_188 rfl ?_
      refine L_lload eX11_pull_189 rfl ?_
      refine L_lload eX11_pull_191 rfl ?_
      refine V_lmul eX11_pull_193 ?_
      refine L_lload eX11_pull_194 rfl ?_
      refine V_lmul eX11_pull_196 ?_
      refine L_lload eX11_pull_197 rfl ?_
      refine V_ldiv eX11_pull_199 ?_
      refine V_ladd eX11_pull_200 ?_
      refine Z_last1 (f := 83) eX11_pull_201 rfl ?_
      refine L_aload_n eX11_pull_202 rfl ?_
      refine L_getR (r := 85) eX11_pull_203 f_X11_69.g rfl rfl (by decide) ?_
      refine L_iload_n eX11_pull_206 rfl ?_
      refine V_iconst eX11_pull_207 ?_
      refine V_isub eX11_pull_208 ?_
      refine L_dup2 eX11_pull_209 ?_
      refine Z_lald2 (f := 83) eX11_pull_210 rfl ?_
      refine L_lload eX11_pull_211 rfl ?_
      refine L_lload eX11_pull_213 rfl ?_
      refine V_lmul eX11_pull_215 ?_
      refine L_lload eX11_pull_216 rfl ?_
      refine V_lmul eX11_pull_218 ?_
      refine L_lload eX11_pull_219 rfl ?_
      refine V_ldiv eX11_pull_221 ?_
      refine V_ladd eX11_pull_222 ?_
      refine Z_last2 (f := 83) eX11_pull_223 rfl ?_
      -- at 224: .return_
      exact V_return eX11_pull_224 ⟨rfl, by rw [uI_ne (show 13 * t + k - 1 ≠ 13 * t + k by omega), uI_ne (show 13 * t + k - 1 ≠ 13 * t + k by omega)]⟩
    · rw [if_pos h2]
      unfold ab at n1 n2
      refine L_aload_n eX11_pull_75 rfl ?_
      refine L_getR (r := 84) eX11_pull_76 f_X11_65.g rfl rfl (by decide) ?_
      refine L_iload_n eX11_pull_79 rfl ?_
      refine L_dup2 eX11_pull_80 ?_
      refine Z_lald1 (f := 83) eX11_pull_81 rfl ?_
      refine L_lload eX11_pull_82 rfl ?_
      refine L_lload eX11_pull_84 rfl ?_
      refine V_lmul eX11_pull_86 ?_
      refine L_lload eX11_pull_87 rfl ?_
      refine V_ldiv eX11_pull_89 ?_
      refine V_lsub eX11_pull_90 ?_
      refine Z_last1 (f := 83) eX11_pull_91 rfl ?_
      refine L_aload_n eX11_pull_92 rfl ?_
      refine L_getR (r := 85) eX11_pull_93 f_X11_69.g rfl rfl (by decide) ?_
      refine L_iload_n eX11_pull_96 rfl ?_
      refine L_dup2 eX11_pull_97 ?_
      refine Z_lald2 (f := 83) eX11_pull_98 rfl ?_
      refine L_lload eX11_pull_99 rfl ?_
      refine L_lload eX11_pull_101 rfl ?_
      refine V_lmul eX11_pull_103 ?_
      refine L_lload eX11_pull_104 rfl ?_
      refine V_ldiv eX11_pull_106 ?_
      refine V_lsub eX11_pull_107 ?_
      refine Z_last2 (f := 83) eX11_pull_108 rfl ?_
      refine V_goto eX11_pull_109 ?_
      -- at 224: .return_
      exact V_return eX11_pull_224 ⟨rfl, rfl⟩
theorem p_X11_hold {n k t : Int} (hn : n ≤ 12) (hk : 1 ≤ k ∧ k ≤ n) (ht : 1 ≤ t ∧ t ≤ 60) (hlen : 20 ≤ F 66 1 ∧ F 66 1 ≤ 200) (hr : bR n t 60000000 (X, Y)) : Mu G mX11_hold [.ref 66, vi k, vi t] F (s2 A 83 X Y) none F (s2 A 83 (hO (F 66 1) t k (X, Y)).1 (hO (F 66 1) t k (X, Y)).2) := by
  obtain ⟨b1, b2, b3, b4, b5, b6, b7⟩ := spn_b hr hk
  unfold hO
  simp only []
  generalize hd : spn (X, Y) (13 * t + k) = d at b6 b7
  unfold spn at hd
  simp only [] at hd b1 b2 b3 b4 b5
  refine L_ent [some (.ref 66), some (vi k), some (vi t), none, none, none, none, none, none, none] rfl ?_
  refine L_iload_n eX11_hold_0 rfl ?_
  refine L_iload_n eX11_hold_1 rfl ?_
  refine C_s1 p_X11_cell v_X11_284 eX11_hold_2 rfl ?_
  refine L_istore_n eX11_hold_5 (s_3 rfl rfl) ?_
  refine L_aload_n eX11_hold_6 rfl ?_
  refine L_getR (r := 84) eX11_hold_7 f_X11_65.g rfl rfl (by decide) ?_
  refine L_iload_n eX11_hold_10 rfl ?_
  refine Z_lald1 (f := 83) eX11_hold_11 rfl ?_
  refine L_aload_n eX11_hold_12 rfl ?_
  refine L_getR (r := 84) eX11_hold_13 f_X11_65.g rfl rfl (by decide) ?_
  refine L_iload_n eX11_hold_16 rfl ?_
  refine V_iconst eX11_hold_17 ?_
  refine V_isub eX11_hold_18 ?_
  refine Z_lald1 (f := 83) eX11_hold_19 rfl ?_
  refine V_lsub eX11_hold_20 ?_
  refine L_lstore eX11_hold_21 (t_4 rfl) ?_
  refine L_aload_n eX11_hold_23 rfl ?_
  refine L_getR (r := 85) eX11_hold_24 f_X11_69.g rfl rfl (by decide) ?_
  refine L_iload_n eX11_hold_27 rfl ?_
  refine Z_lald2 (f := 83) eX11_hold_28 rfl ?_
  refine L_aload_n eX11_hold_29 rfl ?_
  refine L_getR (r := 85) eX11_hold_30 f_X11_69.g rfl rfl (by decide) ?_
  refine L_iload_n eX11_hold_33 rfl ?_
  refine V_iconst eX11_hold_34 ?_
  refine V_isub eX11_hold_35 ?_
  refine Z_lald2 (f := 83) eX11_hold_36 rfl ?_
  refine V_lsub eX11_hold_37 ?_
  refine L_lstore eX11_hold_38 (t_6 rfl) ?_
  refine L_lload eX11_hold_40 rfl ?_
  refine L_lload eX11_hold_42 rfl ?_
  refine C_s1 (p_X11_span (by omega)) v_X11_288 eX11_hold_44 rfl ?_
  rw [hd]
  refine L_lstore eX11_hold_47 (t_8 rfl) ?_
  refine L_lload eX11_hold_49 rfl ?_
  refine L_aload_n eX11_hold_51 rfl ?_
  refine L_get eX11_hold_52 f_X11_124.g rfl rfl ?_
  refine V_i2l eX11_hold_55 ?_
  -- at 56: .lcmp
  have aa : ab 120000000 (X (13 * t + k) - X (13 * t + k - 1)) := by unfold ab at *; omega
  have bb : ab 120000000 (Y (13 * t + k) - Y (13 * t + k - 1)) := by unfold ab at *; omega
  generalize X (13 * t + k) - X (13 * t + k - 1) = a at aa
  generalize Y (13 * t + k) - Y (13 * t + k - 1) = b at bb
  refine V_lcmple eX11_hold_56 eX11_hold_57 (fun h => ?_) (fun h => ?_)
  · rw [if_neg (by omega)]
    exact V_return eX11_hold_112 ⟨rfl, rfl⟩
  · rw [if_pos (by omega)]
    have n1 := ab_mul (C := 200) aa (show 0 ≤ F 66 1 by omega) (by omega)
    have n2 := ab_mul (C := 200) bb (show 0 ≤ F 66 1 by omega) (by omega)
    unfold ab at n1 n2
    refine L_aload_n eX11_hold_60 rfl ?_
    refine L_getR (r := 84) eX11_hold_61 f_X11_65.g rfl rfl (by decide) ?_
    refine L_iload_n eX11_hold_64 rfl ?_
    refine L_aload_n eX11_hold_65 rfl ?_
    refine L_getR (r := 84) eX11_hold_66 f_X11_65.g rfl rfl (by decide) ?_
    refine L_iload_n eX11_hold_69 rfl ?_
    refine V_iconst eX11_hold_70 ?_
    refine V_isub eX11_hold_71 ?_
    refine Z_lald1 (f := 83) eX11_hold_72 rfl ?_
    refine L_lload eX11_hold_73 rfl ?_
    refine L_aload_n eX11_hold_75 rfl ?_
    refine L_get eX11_hold_76 f_X11_124.g rfl rfl ?_
    refine V_i2l eX11_hold_79 ?_
    refine V_lmul eX11_hold_80 ?_
    refine L_lload eX11_hold_81 rfl ?_
    refine V_ldiv eX11_hold_83 ?_
    refine V_ladd eX11_hold_84 ?_
    refine Z_last1 (f := 83) eX11_hold_85 rfl ?_
    refine L_aload_n eX11_hold_86 rfl ?_
    refine L_getR (r := 85) eX11_hold_87 f_X11_69.g rfl rfl (by decide) ?_
    refine L_iload_n eX11_hold_90 rfl ?_
    refine L_aload_n eX11_hold_91 rfl ?_
    refine L_getR (r := 85) eX11_hold_92 f_X11_69.g rfl rfl (by decide) ?_
    refine L_iload_n eX11_hold_95 rfl ?_
    refine V_iconst eX11_hold_96 ?_
    refine V_isub eX11_hold_97 ?_
    refine Z_lald2 (f := 83) eX11_hold_98 rfl ?_
    refine L_lload eX11_hold_99 rfl ?_
    refine L_aload_n eX11_hold_101 rfl ?_
    refine L_get eX11_hold_102 f_X11_124.g rfl rfl ?_
    refine V_i2l eX11_hold_105 ?_
    refine V_lmul eX11_hold_106 ?_
    refine L_lload eX11_hold_107 rfl ?_
    refine V_ldiv eX11_hold_109 ?_
    refine V_ladd eX11_hold_110 ?_
    refine Z_last2 (f := 83) eX11_hold_111 rfl ?_
    -- at 112: .return_
    exact V_return eX11_hold_112 ⟨rfl, rfl⟩
end P32

