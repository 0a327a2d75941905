/-- WEIGHT and BENDS of JOINT k out of rows of STRANDS and STUFFS -/
def wtF (S T : Int → Int) (k : Int) : Int := S (k - 1) * hfT (T (k - 1))
def bdF (S T : Int → Int) (k : Int) : Int := min 500 (S (k - 1) * stT (T (k - 1)))
/-- a row of PIECES as a PLAIT has it -/
def plK (n : Int) (S T : Int → Int) : Prop := ∀ i, 0 ≤ i → i < n → (1 ≤ S i ∧ S i ≤ 16) ∧ 0 ≤ T i ∧ T i < 4
theorem wt_b {n k : Int} {S T : Int → Int} (h : plK n S T) (hk : 1 ≤ k ∧ k ≤ n) : 1 ≤ wtF S T k ∧ wtF S T k ≤ 80 := by
  obtain ⟨⟨h1, h2⟩, -⟩ := h (k - 1) (by omega) (by omega)
  have h3 := hf_b (T (k - 1))
  unfold wtF
  have a := Int.mul_le_mul h2 h3.2 (by omega) (by omega)
  have b := Int.mul_le_mul h1 h3.1 (by omega) (by omega)
  omega
theorem st_m {n k : Int} {S T : Int → Int} (h : plK n S T) (hk : 1 ≤ k ∧ k ≤ n) : 1 ≤ S (k - 1) * stT (T (k - 1)) ∧ S (k - 1) * stT (T (k - 1)) ≤ 576 := by
  obtain ⟨⟨h1, h2⟩, -⟩ := h (k - 1) (by omega) (by omega)
  have h3 := st_b (T (k - 1))
  have a := Int.mul_le_mul h2 h3.2 (by omega) (by omega)
  have b := Int.mul_le_mul h1 (show (1 : Int) ≤ stT (T (k - 1)) by omega) (by omega) (by omega)
  omega
theorem bd_b {n k : Int} {S T : Int → Int} (h : plK n S T) (hk : 1 ≤ k ∧ k ≤ n) : 0 ≤ bdF S T k ∧ bdF S T k ≤ 500 := by
  have := st_m h hk
  unfold bdF
  omega
theorem ab_mul {B C a m : Int} (ha : ab B a) (h0 : 0 ≤ m) (h1 : m ≤ C) : ab (B * C) (a * m) := by
  unfold ab at *
  have hB : 0 ≤ B := by omega
  rcases (show 0 ≤ a ∨ a ≤ 0 by omega) with h | h
  · have := Int.mul_le_mul ha.2 h1 h0 hB
    have := Int.mul_nonneg h h0
    omega
  · have h2 := Int.mul_le_mul (show -a ≤ B by omega) h1 h0 hB
    have h3 := Int.mul_nonneg (show 0 ≤ -a by omega) h0
    rw [Int.neg_mul] at h2 h3
    omega
section P31
variable {G : gT} {F : fT} {A : nT} {X Y : Int → Int}
theorem p_X11_weightOf {n k : Int} (hp : plK n (A 67) (A 68)) (hn : n ≤ 12) (hk : 1 ≤ k ∧ k ≤ n) : Pu G mX11_weightOf [.ref 66, vi k] F A (vi (wtF (A 67) (A 68) k)) := by
  have h1 := hp (k - 1) (by omega) (by omega)
  refine L_ent [some (.ref 66), some (vi k)] rfl ?_
  refine L_aload_n eX11_weightOf_0 rfl ?_
  refine L_getR (r := 67) eX11_weightOf_1 f_X11_7.g rfl rfl (by decide) ?_
  refine L_iload_n eX11_weightOf_4 rfl ?_
  refine V_iconst eX11_weightOf_5 ?_
  refine V_isub eX11_weightOf_6 ?_
  refine L_iald eX11_weightOf_7 rfl ?_
  refine L_aload_n eX11_weightOf_8 rfl ?_
  refine L_getR (r := 68) eX11_weightOf_9 f_X11_13.g rfl rfl (by decide) ?_
  refine L_iload_n eX11_weightOf_12 rfl ?_
  refine V_iconst eX11_weightOf_13 ?_
  refine V_isub eX11_weightOf_14 ?_
  refine L_iald eX11_weightOf_15 rfl ?_
  refine C_s1 (p_X11_heft (by omega)) v_X11_247 eX11_weightOf_16 rfl ?_
  refine V_imul eX11_weightOf_19 ?_
  exact V_ireturn eX11_weightOf_20 ⟨rfl, rfl⟩
theorem p_X11_bendsOf {n k : Int} (hp : plK n (A 67) (A 68)) (hn : n ≤ 12) (hk : 1 ≤ k ∧ k ≤ n) : Pu G mX11_bendsOf [.ref 66, vi k] F A (vi (bdF (A 67) (A 68) k)) := by
  have h1 := hp (k - 1) (by omega) (by omega)
  have h2 := st_m hp hk
  refine L_ent [some (.ref 66), some (vi k), none] rfl ?_
  refine L_aload_n eX11_bendsOf_0 rfl ?_
  refine L_getR (r := 67) eX11_bendsOf_1 f_X11_7.g rfl rfl (by decide) ?_
  refine L_iload_n eX11_bendsOf_4 rfl ?_
  refine V_iconst eX11_bendsOf_5 ?_
  refine V_isub eX11_bendsOf_6 ?_
  refine L_iald eX11_bendsOf_7 rfl ?_
  refine L_aload_n eX11_bendsOf_8 rfl ?_
  refine L_getR (r := 68) eX11_bendsOf_9 f_X11_13.g rfl rfl (by decide) ?_
  refine L_iload_n eX11_bendsOf_12 rfl ?_
  refine V_iconst eX11_bendsOf_13 ?_
  refine V_isub eX11_bendsOf_14 ?_
  refine L_iald eX11_bendsOf_15 rfl ?_
  refine C_s1 (p_X11_stiff (by omega)) v_X11_251 eX11_bendsOf_16 rfl ?_
  refine V_imul eX11_bendsOf_19 ?_
  refine L_istore_n eX11_bendsOf_20 (s_2 rfl rfl) ?_
  refine L_iload_n eX11_bendsOf_21 rfl ?_
  refine L_sipush eX11_bendsOf_22 rfl ?_
  refine V_icmple eX11_bendsOf_25 (fun h25 => ?_) (fun h25 => ?_)
  · refine L_iload_n eX11_bendsOf_34 rfl ?_
    exact V_ireturn eX11_bendsOf_35 ⟨by congr 2; unfold bdF; omega, rfl⟩
  · refine L_sipush eX11_bendsOf_28 rfl ?_
    refine V_goto eX11_bendsOf_31 ?_
    exact V_ireturn eX11_bendsOf_35 ⟨by congr 2; unfold bdF; omega, rfl⟩
/-- the same beside the two rows of places -/
theorem p_X11_weightOf2 {n k : Int} (hp : plK n (A 67) (A 68)) (hn : n ≤ 12) (hk : 1 ≤ k ∧ k ≤ n) : Pu G mX11_weightOf [.ref 66, vi k] F (s2 A 83 X Y) (vi (wtF (A 67) (A 68) k)) := by
  have := p_X11_weightOf (G := G) (F := F) (A := s2 A 83 X Y) (n := n) (k := k) (by rw [s2_o (by decide), s2_o (by decide)]; exact hp) hn hk
  rw [s2_o (by decide), s2_o (by decide)] at this
  exact this
theorem p_X11_bendsOf2 {n k : Int} (hp : plK n (A 67) (A 68)) (hn : n ≤ 12) (hk : 1 ≤ k ∧ k ≤ n) : Pu G mX11_bendsOf [.ref 66, vi k] F (s2 A 83 X Y) (vi (bdF (A 67) (A 68) k)) := by
  have := p_X11_bendsOf (G := G) (F := F) (A := s2 A 83 X Y) (n := n) (k := k) (by rw [s2_o (by decide), s2_o (by decide)]; exact hp) hn hk
  rw [s2_o (by decide), s2_o (by decide)] at this
  exact this
/-- LAWS in their bounds -/
def lwK (L : Int → Int) : Prop := (0 ≤ L 0 ∧ L 0 ≤ 50) ∧ (0 ≤ L 1 ∧ L 1 ≤ 50) ∧ (1 ≤ L 2 ∧ L 2 ≤ 8) ∧ (10 ≤ L 3 ∧ L 3 ≤ 2000) ∧ 1 ≤ L 4 ∧ L 4 ≤ 30000
theorem p_X11_goOn {n k t : Int} (hp : plK n (A 67) (A 68)) (hl : lwK (A 72)) (hn : n ≤ 12) (hk : 1 ≤ k ∧ k ≤ n) (ht : 1 ≤ t ∧ t ≤ 60) (hb : bO n t (X, Y)) : Mu G mX11_goOn [.ref 66, vi k, vi t] F (s2 A 83 X Y) none F (s2 A 83 (gO (wtF (A 67) (A 68)) (A 72 0) (A 72 1) t k (X, Y)).1 (gO (wtF (A 67) (A 68)) (A 72 0) (A 72 1) t k (X, Y)).2) := by
  obtain ⟨hl0, hl1, -⟩ := hl
  have hw := wt_b hp hk
  obtain ⟨hu, hv, hx, hy⟩ := gO_uv hb ht (k := k) (by omega)
  simp only [] at hu hv hx hy
  have REST : ∀ u v : Int, u = (if t = 1 then 0 else X (13 * (t - 1) + k) - X (13 * (t - 1) + k - 13)) → v = (if t = 1 then 0 else Y (13 * (t - 1) + k) - Y (13 * (t - 1) + k - 13)) → V G mX11_goOn (fun r w => r = none ∧ w = sw F (s2 A 83 (gO (wtF (A 67) (A 68)) (A 72 0) (A 72 1) t k (X, Y)).1 (gO (wtF (A 67) (A 68)) (A 72 0) (A 72 1) t k (X, Y)).2)) 0 0 77 [some (.ref 66), some (vi k), some (vi t), some (vi (13 * t + k)), some (vi (13 * (t - 1) + k)), some (vl u), none, some (vl v), none, none, none, none, none] [] (sw F (s2 A 83 X Y)) := by
    intro u v eu ev
    unfold gO
    simp only []
    rw [← eu, ← ev]
    rw [← eu] at hu
    rw [← ev] at hv
    have su := ab_sq hu
    have sv := ab_sq hv
    have hr := rt_nn (u * u + v * v)
    have hr2 : rt (u * u + v * v) < 400000 := by
      have := rt_le (n := u * u + v * v) (by omega)
      exact sq_lt (by omega) (by omega)
    have hm := ab_mul (B := 50) (C := 400000) (a := A 72 0) (m := rt (u * u + v * v)) ⟨by omega, by omega⟩ hr (by omega)
    have hm0 := Int.mul_nonneg hl0.1 hr
    unfold ab at hm hx hy
    refine L_lload eX11_goOn_77 rfl ?_
    refine L_lload eX11_goOn_79 rfl ?_
    refine C_s1 (p_X11_span (by omega)) v_X11_288 eX11_goOn_81 rfl ?_
    refine L_lstore eX11_goOn_84 (t_9 rfl) ?_
    refine L_ldc2 eX11_goOn_86 k_X11_292 ?_
    refine L_aload_n eX11_goOn_89 rfl ?_
    refine L_iload_n eX11_goOn_90 rfl ?_
    refine C_v1 (p_X11_weightOf2 hp hn (by omega)) v_X11_254 eX11_goOn_91 rfl rfl ?_
    refine V_i2l eX11_goOn_94 ?_
    refine V_lmul eX11_goOn_95 ?_
    refine L_lstore eX11_goOn_96 (t_11 rfl) ?_
    refine L_aload_n eX11_goOn_98 rfl ?_
    refine L_getR (r := 84) eX11_goOn_99 f_X11_65.g rfl rfl (by decide) ?_
    refine L_iload_n eX11_goOn_102 rfl ?_
    refine L_aload_n eX11_goOn_103 rfl ?_
    refine L_getR (r := 84) eX11_goOn_104 f_X11_65.g rfl rfl (by decide) ?_
    refine L_iload eX11_goOn_107 rfl ?_
    refine Z_lald1 (f := 83) eX11_goOn_109 rfl ?_
    refine Z_last1 (f := 83) eX11_goOn_110 rfl ?_
    refine L_aload_n eX11_goOn_111 rfl ?_
    refine L_getR (r := 85) eX11_goOn_112 f_X11_69.g rfl rfl (by decide) ?_
    refine L_iload_n eX11_goOn_115 rfl ?_
    refine L_aload_n eX11_goOn_116 rfl ?_
    refine L_getR (r := 85) eX11_goOn_117 f_X11_69.g rfl rfl (by decide) ?_
    refine L_iload eX11_goOn_120 rfl ?_
    refine Z_lald2 (f := 83) eX11_goOn_122 rfl ?_
    refine Z_last2 (f := 83) eX11_goOn_123 rfl ?_
    refine L_aload_n eX11_goOn_124 rfl ?_
    refine L_getR (r := 72) eX11_goOn_125 f_X11_25.g rfl rfl (by decide) ?_
    refine V_iconst eX11_goOn_128 ?_
    refine Z_ialdo eX11_goOn_129 rfl (by decide) ?_
    refine V_i2l eX11_goOn_130 ?_
    refine L_lload eX11_goOn_131 rfl ?_
    refine V_lmul eX11_goOn_133 ?_
    refine L_lload eX11_goOn_134 rfl ?_
    -- at 136: .lcmp
    refine V_lcmpge eX11_goOn_136 eX11_goOn_137 (fun h => ?_) (fun h => ?_)
    · rw [if_neg (by omega), if_neg (by omega)]
      refine L_aload_n eX11_goOn_196 rfl ?_
      refine L_getR (r := 85) eX11_goOn_197 f_X11_69.g rfl rfl (by decide) ?_
      refine L_iload_n eX11_goOn_200 rfl ?_
      refine L_dup2 eX11_goOn_201 ?_
      refine Z_lald2 (f := 83) eX11_goOn_202 rfl ?_
      refine L_aload_n eX11_goOn_203 rfl ?_
      refine L_getR (r := 72) eX11_goOn_204 f_X11_25.g rfl rfl (by decide) ?_
      refine V_iconst eX11_goOn_207 ?_
      refine Z_ialdo eX11_goOn_208 rfl (by decide) ?_
      refine V_i2l eX11_goOn_209 ?_
      refine V_lsub eX11_goOn_210 ?_
      refine Z_last2 (f := 83) eX11_goOn_211 rfl ?_
      -- at 212: .return_
      exact V_return eX11_goOn_212 ⟨rfl, by simp only [uI_uI, uI_eq, Int.add_zero]⟩
    · rw [if_pos (by omega), if_pos (by omega)]
      have n1 := ab_mul (C := 80000) hu (show 0 ≤ 1000 * wtF (A 67) (A 68) k - A 72 0 * rt (u * u + v * v) by omega) (by omega)
      have n2 := ab_mul (C := 80000) hv (show 0 ≤ 1000 * wtF (A 67) (A 68) k - A 72 0 * rt (u * u + v * v) by omega) (by omega)
      unfold ab at n1 n2
      refine L_aload_n eX11_goOn_140 rfl ?_
      refine L_getR (r := 84) eX11_goOn_141 f_X11_65.g rfl rfl (by decide) ?_
      refine L_iload_n eX11_goOn_144 rfl ?_
      refine L_dup2 eX11_goOn_145 ?_
      refine Z_lald1 (f := 83) eX11_goOn_146 rfl ?_
      refine L_lload eX11_goOn_147 rfl ?_
      refine L_lload eX11_goOn_149 rfl ?_
      refine L_aload_n eX11_goOn_151 rfl ?_
      refine L_getR (r := 72) eX11_goOn_152 f_X11_25.g rfl rfl (by decide) ?_
      refine V_iconst eX11_goOn_155 ?_
      refine Z_ialdo eX11_goOn_156 rfl (by decide) ?_
      refine V_i2l eX11_goOn_157 ?_
      refine L_lload eX11_goOn_158 rfl ?_
      refine V_lmul eX11_goOn_160 ?_
      refine V_lsub eX11_goOn_161 ?_
      refine V_lmul eX11_goOn_162 ?_
      refine L_lload eX11_goOn_163 rfl ?_
      refine V_ldiv eX11_goOn_165 ?_
      refine V_ladd eX11_goOn_166 ?_
      refine Z_last1 (f := 83) eX11_goOn_167 rfl ?_
      refine L_aload_n eX11_goOn_168 rfl ?_
      refine L_getR (r := 85) eX11_goOn_169 f_X11_69.g rfl rfl (by decide) ?_
      refine L_iload_n eX11_goOn_172 rfl ?_
      refine L_dup2 eX11_goOn_173 ?_
      refine Z_lald2 (f := 83) eX11_goOn_174 rfl ?_
      refine L_lload eX11_goOn_175 rfl ?_
      refine L_lload eX11_goOn_177 rfl ?_
      refine L_aload_n eX11_goOn_179 rfl ?_
      refine L_getR (r := 72) eX11_goOn_180 f_X11_25.g rfl rfl (by decide) ?_
      refine V_iconst eX11_goOn_183 ?_
      refine Z_ialdo eX11_goOn_184 rfl (by decide) ?_
      refine V_i2l eX11_goOn_185 ?_
      refine L_lload eX11_goOn_186 rfl ?_
      refine V_lmul eX11_goOn_188 ?_
      refine V_lsub eX11_goOn_189 ?_
      refine V_lmul eX11_goOn_190 ?_
      refine L_lload eX11_goOn_191 rfl ?_
      refine V_ldiv eX11_goOn_193 ?_
      refine V_ladd eX11_goOn_194 ?_
      refine Z_last2 (f := 83) eX11_goOn_195 rfl ?_
      refine L_aload_n eX11_goOn_196 rfl ?_
      refine L_getR (r := 85) eX11_goOn_197 f_X11_69.g rfl rfl (by decide) ?_
      refine L_iload_n eX11_goOn_200 rfl ?_
      refine L_dup2 eX11_goOn_201 ?_
      refine Z_lald2 (f := 83) eX11_goOn_202 rfl ?_
      refine L_aload_n eX11_goOn_203 rfl ?_
      refine L_getR (r := 72) eX11_goOn_204 f_X11_25.g rfl rfl (by decide) ?_
      refine V_iconst eX11_goOn_207 ?_
      refine Z_ialdo eX11_goOn_208 rfl (by decide) ?_
      refine V_i2l eX11_goOn_209 ?_
      refine V_lsub eX11_goOn_210 ?_
      refine Z_last2 (f := 83) eX11_goOn_211 rfl ?_
      -- at 212: .return_
      exact V_return eX11_goOn_212 ⟨rfl, by simp only [uI_uI, uI_eq]⟩
  refine L_ent [some (.ref 66), some (vi k), some (vi t), none, none, none, none, none, none, none, none, none, none] rfl ?_
  refine L_iload_n eX11_goOn_0 rfl ?_
  refine L_iload_n eX11_goOn_1 rfl ?_
  refine C_s1 p_X11_cell v_X11_284 eX11_goOn_2 rfl ?_
  refine L_istore_n eX11_goOn_5 (s_3 rfl rfl) ?_
  refine L_iload_n eX11_goOn_6 rfl ?_
  refine L_iload_n eX11_goOn_7 rfl ?_
  refine V_iconst eX11_goOn_8 ?_
  refine V_isub eX11_goOn_9 ?_
  refine C_s1 p_X11_cell v_X11_284 eX11_goOn_10 rfl ?_
  refine L_istore eX11_goOn_13 (s_4 rfl rfl) ?_
  refine L_iload_n eX11_goOn_15 rfl ?_
  refine V_iconst eX11_goOn_16 ?_
  -- at 17: .if_icmp .ne 7
  refine V_icmpne eX11_goOn_17 (fun h1 => ?_) (fun h1 => ?_)
  · refine L_aload_n eX11_goOn_24 rfl ?_
    refine L_getR (r := 84) eX11_goOn_25 f_X11_65.g rfl rfl (by decide) ?_
    refine L_iload eX11_goOn_28 rfl ?_
    refine Z_lald1 (f := 83) eX11_goOn_30 rfl ?_
    refine L_aload_n eX11_goOn_31 rfl ?_
    refine L_getR (r := 84) eX11_goOn_32 f_X11_65.g rfl rfl (by decide) ?_
    refine L_iload_n eX11_goOn_35 rfl ?_
    refine L_iload_n eX11_goOn_36 rfl ?_
    refine V_iconst eX11_goOn_37 ?_
    refine V_isub eX11_goOn_38 ?_
    refine C_s1 p_X11_cell v_X11_284 eX11_goOn_39 rfl ?_
    refine Z_lald1 (f := 83) eX11_goOn_42 rfl ?_
    refine V_lsub eX11_goOn_43 ?_
    refine L_lstore eX11_goOn_44 (t_5 rfl) ?_
    refine L_iload_n eX11_goOn_46 rfl ?_
    refine V_iconst eX11_goOn_47 ?_
    -- at 48: .if_icmp .ne 7
    refine V_icmpne eX11_goOn_48 (fun h2 => ?_) (fun h2 => ?_)
    · refine L_aload_n eX11_goOn_55 rfl ?_
      refine L_getR (r := 85) eX11_goOn_56 f_X11_69.g rfl rfl (by decide) ?_
      refine L_iload eX11_goOn_59 rfl ?_
      refine Z_lald2 (f := 83) eX11_goOn_61 rfl ?_
      refine L_aload_n eX11_goOn_62 rfl ?_
      refine L_getR (r := 85) eX11_goOn_63 f_X11_69.g rfl rfl (by decide) ?_
      refine L_iload_n eX11_goOn_66 rfl ?_
      refine L_iload_n eX11_goOn_67 rfl ?_
      refine V_iconst eX11_goOn_68 ?_
      refine V_isub eX11_goOn_69 ?_
      refine C_s1 p_X11_cell v_X11_284 eX11_goOn_70 rfl ?_
      refine Z_lald2 (f := 83) eX11_goOn_73 rfl ?_
      refine V_lsub eX11_goOn_74 ?_
      refine L_lstore eX11_goOn_75 (t_7 rfl) ?_
      exact REST _ _ (by rw [if_neg h1, show 13 * (t - 1) + k - 13 = 13 * (t - 2) + k by omega]) (by rw [if_neg h1, show 13 * (t - 1) + k - 13 = 13 * (t - 2) + k by omega])
    · omega
  · refine L_lconst0 eX11_goOn_20 ?_
    refine V_goto eX11_goOn_21 ?_
    refine L_lstore eX11_goOn_44 (t_5 rfl) ?_
    refine L_iload_n eX11_goOn_46 rfl ?_
    refine V_iconst eX11_goOn_47 ?_
    -- at 48: .if_icmp .ne 7
    refine V_icmpne eX11_goOn_48 (fun h2 => ?_) (fun h2 => ?_)
    · omega
    · refine L_lconst0 eX11_goOn_51 ?_
      refine V_goto eX11_goOn_52 ?_
      refine L_lstore eX11_goOn_75 (t_7 rfl) ?_
      exact REST _ _ (by rw [if_pos h1]) (by rw [if_pos h1])
end P31

