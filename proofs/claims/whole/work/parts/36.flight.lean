section P36
variable {G : gT} {F : fT} {A : nT} {X Y : Int → Int} {f : Nat}
theorem p_X1_rest (hf : isFl f) {n : Nat} (h0 : F f 0 = n) (hn : n ≤ 12) : Mu G mX1_rest [.ref f] F (s2 A f X Y) none F (s2 A f (rsS n (F f 3) (X, Y)).1 (rsS n (F f 3) (X, Y)).2) := by
  refine L_ent [some (.ref f), none] rfl ?_
  generalize hQ : (fun (r' : Option Value) (w : wT) => r' = none ∧ w = sw F (s2 A f (rsS n (F f 3) (X, Y)).1 (rsS n (F f 3) (X, Y)).2)) = Q
  refine V_iconst eX1_rest_0 ?_
  refine L_istore_n eX1_rest_1 (s_1 rfl rfl) ?_
  have REST : ∀ (r j : Nat) (k : Int), n + 1 < r + j → j ≤ n + 1 → k = j → V G mX1_rest Q 0 0 2 [some (.ref f), some (vi k)] [] (sw F (s2 A f (it (fun j s => (uI s.1 j (j * F f 3), uI s.2 j 0)) j (X, Y)).1 (it (fun j s => (uI s.1 j (j * F f 3), uI s.2 j 0)) j (X, Y)).2)) := by
    intro r
    induction r with
    | zero => intro j k e1 e2; omega
    | succ r ih =>
      intro j k e1 e2 ek
      refine L_iload_n eX1_rest_2 rfl ?_
      refine L_aload_n eX1_rest_3 rfl ?_
      refine L_get eX1_rest_4 f_X1_9.g hf.k (hf.i (by decide)) ?_
      -- at 7: .if_icmp .gt 28
      refine V_icmpgt eX1_rest_7 (fun h4 => ?_) (fun h4 => ?_)
      · have ej : j = n + 1 := by omega
        subst ej
        exact V_return eX1_rest_35 (by rw [← hQ]; exact ⟨rfl, rfl⟩)
      · subst ek
        refine L_aload_n eX1_rest_10 rfl ?_
        refine L_getR eX1_rest_11 f_X1_24.g hf.k hf.r4 (by omega) ?_
        refine L_iload_n eX1_rest_14 rfl ?_
        refine L_iload_n eX1_rest_15 rfl ?_
        refine L_aload_n eX1_rest_16 rfl ?_
        refine L_get eX1_rest_17 f_X1_21.g hf.k (hf.i (by decide)) ?_
        refine V_imul eX1_rest_20 ?_
        refine Z_iast1 (f := f) eX1_rest_21 hf.k1 ?_
        refine L_aload_n eX1_rest_22 rfl ?_
        refine L_getR eX1_rest_23 f_X1_28.g hf.k hf.r5 (by omega) ?_
        refine L_iload_n eX1_rest_26 rfl ?_
        refine V_iconst eX1_rest_27 ?_
        refine Z_iast2 (f := f) eX1_rest_28 hf.k2 ?_
        refine L_iinc eX1_rest_29 rfl (s_1 rfl rfl) ?_
        refine V_goto eX1_rest_32 ?_
        exact ih (j + 1) _ (by omega) (by omega) (by omega)
  exact REST (n + 2) 0 0 (by omega) (by omega) (by omega)
theorem p_X1_lengthIfStretched (hf : isFl f) {a b : Int} (hlen : 20 ≤ F f 3 ∧ F f 3 ≤ 200) (h : 0 ≤ a * a + b * b ∧ a * a + b * b ≤ 28800000000000000) : Pu G mX1_lengthIfStretched [.ref f, vl a, vl b] F A (vl (if F f 3 < rt (a * a + b * b) then rt (a * a + b * b) else 0)) := by
  refine L_ent [some (.ref f), some (vl a), none, some (vl b), none, none, none, none, none] rfl ?_
  have q1 := sq_le (a := F f 3 + 1) (b := 201) (by omega) (by omega)
  have q2 := sq_le (a := 0) (b := F f 3 + 1) (by omega) (by omega)
  have hge := rt_ge (n := a * a + b * b) (r := F f 3 + 1) h.1 (by omega)
  refine L_lload_n eX1_lengthIfStretched_0 rfl ?_
  refine L_lload_n eX1_lengthIfStretched_1 rfl ?_
  refine V_lmul eX1_lengthIfStretched_2 ?_
  refine L_lload_n eX1_lengthIfStretched_3 rfl ?_
  refine L_lload_n eX1_lengthIfStretched_4 rfl ?_
  refine V_lmul eX1_lengthIfStretched_5 ?_
  refine V_ladd eX1_lengthIfStretched_6 ?_
  refine L_lstore eX1_lengthIfStretched_7 (t_5 rfl) ?_
  refine L_aload_n eX1_lengthIfStretched_9 rfl ?_
  refine L_get eX1_lengthIfStretched_10 f_X1_21.g hf.k (hf.i (by decide)) ?_
  refine V_i2l eX1_lengthIfStretched_13 ?_
  refine L_lconst1 eX1_lengthIfStretched_14 ?_
  refine V_ladd eX1_lengthIfStretched_15 ?_
  refine L_lstore eX1_lengthIfStretched_16 (t_7 rfl) ?_
  refine L_lload eX1_lengthIfStretched_18 rfl ?_
  refine L_lload eX1_lengthIfStretched_20 rfl ?_
  refine L_lload eX1_lengthIfStretched_22 rfl ?_
  refine V_lmul eX1_lengthIfStretched_24 ?_
  -- at 25: .lcmp
  refine V_lcmpge eX1_lengthIfStretched_25 eX1_lengthIfStretched_26 (fun h1 => ?_) (fun h1 => ?_)
  · refine L_lload eX1_lengthIfStretched_33 rfl ?_
    refine C_n1 (p_X10_root (by omega)) v_X1_81 eX1_lengthIfStretched_35 rfl ?_
    -- at 38: .lreturn
    exact V_lreturn eX1_lengthIfStretched_38 ⟨by rw [if_pos (by have := hge.mpr h1; omega)], rfl⟩
  · refine L_lconst0 eX1_lengthIfStretched_29 ?_
    refine V_goto eX1_lengthIfStretched_30 ?_
    -- at 38: .lreturn
    exact V_lreturn eX1_lengthIfStretched_38 ⟨by rw [if_neg (fun h2 => h1 (hge.mp (by omega)))], rfl⟩
theorem p_X1_goOn (hf : isFl f) {n : Nat} {t air fall : Int} (h0 : F f 0 = n) (hn : 1 ≤ n ∧ n ≤ 12) (ht : 1 ≤ t ∧ t ≤ 60) (hw : ∀ k : Int, 1 ≤ k → k ≤ n → 1 ≤ A (f + 3) k ∧ A (f + 3) k ≤ 80) (ha : 0 ≤ air ∧ air ≤ 50) (hfa : 0 ≤ fall ∧ fall ≤ 50) (hb : bO n t (X, Y)) (hr : bR n t 400000 (X, Y)) : Mu G mX1_goOn [.ref f, vi (13 * t), vi air, vi fall] F (s2 A f X Y) none F (s2 A f (gS (A (f + 3)) air fall t n (X, Y)).1 (gS (A (f + 3)) air fall t n (X, Y)).2) := by
  have gb := g_b (wt := A (f + 3)) (air := air) (fall := fall) hb hr ⟨rfl, rfl⟩ ht hn.2 (fun k h1 h2 => (hw k h1 h2).1) ha.1 hfa
  refine L_ent [some (.ref f), some (vi (13 * t)), some (vi air), some (vi fall), none, none, none, none, none, none, none, none, none, none, none, none] rfl ?_
  generalize hQ : (fun (r' : Option Value) (w : wT) => r' = none ∧ w = sw F (s2 A f (gS (A (f + 3)) air fall t n (X, Y)).1 (gS (A (f + 3)) air fall t n (X, Y)).2)) = Q
  refine L_iload_n eX1_goOn_0 rfl ?_
  refine L_bipush eX1_goOn_1 rfl ?_
  refine V_isub eX1_goOn_3 ?_
  refine L_istore eX1_goOn_4 (s_4 rfl rfl) ?_
  refine V_iconst eX1_goOn_6 ?_
  refine L_iload eX1_goOn_7 rfl ?_
  refine L_bipush eX1_goOn_9 rfl ?_
  refine V_isub eX1_goOn_11 ?_
  refine V_mmax v_X1_73 eX1_goOn_12 ?_
  refine L_istore eX1_goOn_15 (s_5 rfl rfl) ?_
  refine V_iconst eX1_goOn_17 ?_
  refine L_istore eX1_goOn_18 (s_6 rfl rfl) ?_
  have LOOP : ∀ (r j : Nat) (k : Int) (x7 x8 x9 x10 x11 x12 x13 x14 x15 : Option Value), n < r + j → j ≤ n → k = j + 1 → V G mX1_goOn Q 0 0 20 [some (.ref f), some (vi (13 * t)), some (vi air), some (vi fall), some (vi (13 * t - 13)), some (vi (max 0 (13 * t - 13 - 13))), some (vi k), x7, x8, x9, x10, x11, x12, x13, x14, x15] [] (sw F (s2 A f (it (fun j => gO (A (f + 3)) air fall t (j + 1)) j (X, Y)).1 (it (fun j => gO (A (f + 3)) air fall t (j + 1)) j (X, Y)).2)) := by
    intro r
    induction r with
    | zero => intro j k x7 x8 x9 x10 x11 x12 x13 x14 x15 e1 e2; omega
    | succ r ih =>
      intro j k x7 x8 x9 x10 x11 x12 x13 x14 x15 e1 e2 ek
      obtain ⟨g1, g2, -⟩ := gb j e2
      have hnext := fun (s : rS) (hs : s = it (fun j => gO (A (f + 3)) air fall t (j + 1)) j (X, Y)) (x7 x8 x9 x10 x11 x12 x13 x14 x15 : Option Value) (hj : j + 1 ≤ n) => (show V G mX1_goOn Q 0 0 20 [some (.ref f), some (vi (13 * t)), some (vi air), some (vi fall), some (vi (13 * t - 13)), some (vi (max 0 (13 * t - 13 - 13))), some (vi (k + 1)), x7, x8, x9, x10, x11, x12, x13, x14, x15] [] (sw F (s2 A f (gO (A (f + 3)) air fall t k s).1 (gO (A (f + 3)) air fall t k s).2)) from by rw [ek, hs]; exact ih (j + 1) _ x7 x8 x9 x10 x11 x12 x13 x14 x15 (by omega) hj (by omega))
      have hfin : j = n → it (fun j => gO (A (f + 3)) air fall t (j + 1)) j (X, Y) = gS (A (f + 3)) air fall t n (X, Y) := fun e => by rw [e]; rfl
      generalize it (fun j => gO (A (f + 3)) air fall t (j + 1)) j (X, Y) = s at g1 g2 hnext hfin
      obtain ⟨S, T⟩ := s
      have hnext := hnext (S, T) rfl
      dsimp only
      refine L_iload eX1_goOn_20 rfl ?_
      refine L_aload_n eX1_goOn_22 rfl ?_
      refine L_get eX1_goOn_23 f_X1_9.g hf.k (hf.i (by decide)) ?_
      -- at 26: .if_icmp .gt 192
      refine V_icmpgt eX1_goOn_26 (fun h1 => ?_) (fun h1 => ?_)
      · exact V_return eX1_goOn_218 (by rw [← hQ, ← hfin (by omega)]; exact ⟨rfl, rfl⟩)
      · have hnext := fun x7 x8 x9 x10 x11 x12 x13 x14 x15 => hnext x7 x8 x9 x10 x11 x12 x13 x14 x15 (by omega)
        have hk : 1 ≤ k ∧ k ≤ n := by omega
        have hwk := hw k hk.1 hk.2
        obtain ⟨hu, hv, hx, hy⟩ := gO_uv g1 ht (k := k) (by omega)
        simp only [] at hu hv hx hy
        unfold gO at hnext
        simp only [] at hnext
        have eb : 13 * t - 13 + k = 13 * (t - 1) + k := by omega
        have hm : ab 130000 (S (max 0 (13 * t - 13 - 13) + k)) ∧ ab 130000 (T (max 0 (13 * t - 13 - 13) + k)) := g1 (max 0 (13 * t - 13 - 13) + k) (by omega) (by omega) (by omega)
        unfold ab at hx hy hm
        refine L_aload_n eX1_goOn_29 rfl ?_
        refine L_getR eX1_goOn_30 f_X1_24.g hf.k hf.r4 (by omega) ?_
        refine L_iload eX1_goOn_33 rfl ?_
        refine L_iload eX1_goOn_35 rfl ?_
        refine V_iadd eX1_goOn_37 ?_
        refine Z_iald1 (f := f) eX1_goOn_38 hf.k1 ?_
        rw [eb]
        refine L_aload_n eX1_goOn_39 rfl ?_
        refine L_getR eX1_goOn_40 f_X1_24.g hf.k hf.r4 (by omega) ?_
        refine L_iload eX1_goOn_43 rfl ?_
        refine L_iload eX1_goOn_45 rfl ?_
        refine V_iadd eX1_goOn_47 ?_
        refine Z_iald1 (f := f) eX1_goOn_48 hf.k1 ?_
        refine V_isub eX1_goOn_49 ?_
        refine V_i2l eX1_goOn_50 ?_
        refine V.genl (fun u eu => ?_)
        refine L_lstore eX1_goOn_51 (t_7 rfl) ?_
        refine L_aload_n eX1_goOn_53 rfl ?_
        refine L_getR eX1_goOn_54 f_X1_28.g hf.k hf.r5 (by omega) ?_
        refine L_iload eX1_goOn_57 rfl ?_
        refine L_iload eX1_goOn_59 rfl ?_
        refine V_iadd eX1_goOn_61 ?_
        refine Z_iald2 (f := f) eX1_goOn_62 hf.k2 ?_
        rw [eb]
        refine L_aload_n eX1_goOn_63 rfl ?_
        refine L_getR eX1_goOn_64 f_X1_28.g hf.k hf.r5 (by omega) ?_
        refine L_iload eX1_goOn_67 rfl ?_
        refine L_iload eX1_goOn_69 rfl ?_
        refine V_iadd eX1_goOn_71 ?_
        refine Z_iald2 (f := f) eX1_goOn_72 hf.k2 ?_
        refine V_isub eX1_goOn_73 ?_
        refine V_i2l eX1_goOn_74 ?_
        refine V.genl (fun v ev => ?_)
        have eu2 : u = (if t = 1 then 0 else S (13 * (t - 1) + k) - S (13 * (t - 1) + k - 13)) := by
          rw [eu]
          by_cases e : t = 1
          · rw [if_pos e, show max 0 (13 * t - 13 - 13) + k = 13 * (t - 1) + k by omega]
            omega
          · rw [if_neg e, show max 0 (13 * t - 13 - 13) + k = 13 * (t - 1) + k - 13 by omega]
        have ev2 : v = (if t = 1 then 0 else T (13 * (t - 1) + k) - T (13 * (t - 1) + k - 13)) := by
          rw [ev]
          by_cases e : t = 1
          · rw [if_pos e, show max 0 (13 * t - 13 - 13) + k = 13 * (t - 1) + k by omega]
            omega
          · rw [if_neg e, show max 0 (13 * t - 13 - 13) + k = 13 * (t - 1) + k - 13 by omega]
        rw [← eu2] at hu
        rw [← ev2] at hv
        rw [← eu2, ← ev2] at hnext
        have su := ab_sq hu
        have sv := ab_sq hv
        have hr := rt_nn (u * u + v * v)
        have hr2 : rt (u * u + v * v) < 400000 := by
          have := rt_le (n := u * u + v * v) (by omega)
          exact sq_lt (by omega) (by omega)
        have hmu := ab_mul (B := 50) (C := 400000) (a := air) (m := rt (u * u + v * v)) ⟨by omega, by omega⟩ hr (by omega)
        have hm0 := Int.mul_nonneg ha.1 hr
        unfold ab at hmu
        refine L_lstore eX1_goOn_75 (t_9 rfl) ?_
        refine L_ldc2 eX1_goOn_77 k_X1_79 ?_
        refine L_aload_n eX1_goOn_80 rfl ?_
        refine L_getR eX1_goOn_81 f_X1_31.g hf.k hf.r6 (by omega) ?_
        refine L_iload eX1_goOn_84 rfl ?_
        refine Z_ialdo eX1_goOn_86 hf.k3 (by omega) ?_
        refine V_i2l eX1_goOn_87 ?_
        refine V_lmul eX1_goOn_88 ?_
        refine L_lstore eX1_goOn_89 (t_11 rfl) ?_
        refine L_lload eX1_goOn_91 rfl ?_
        refine L_iload_n eX1_goOn_93 rfl ?_
        refine V_i2l eX1_goOn_94 ?_
        refine L_lload eX1_goOn_95 rfl ?_
        refine L_lload eX1_goOn_97 rfl ?_
        refine V_lmul eX1_goOn_99 ?_
        refine L_lload eX1_goOn_100 rfl ?_
        refine L_lload eX1_goOn_102 rfl ?_
        refine V_lmul eX1_goOn_104 ?_
        refine V_ladd eX1_goOn_105 ?_
        refine C_n1 (p_X10_root (by omega)) v_X1_81 eX1_goOn_106 rfl ?_
        refine V_lmul eX1_goOn_109 ?_
        refine V_lsub eX1_goOn_110 ?_
        refine L_lstore eX1_goOn_111 (t_13 rfl) ?_
        refine L_lload eX1_goOn_113 rfl ?_
        refine L_lconst0 eX1_goOn_115 ?_
        -- at 116: .lcmp
        refine V_lcmple eX1_goOn_116 eX1_goOn_117 (fun h2 => ?_) (fun h2 => ?_)
        · rw [if_neg (by omega), if_neg (by omega)] at hnext
          refine V_iconst eX1_goOn_131 ?_
          refine L_istore eX1_goOn_132 (s_15 rfl rfl) ?_
          refine L_aload_n eX1_goOn_134 rfl ?_
          refine L_getR eX1_goOn_135 f_X1_24.g hf.k hf.r4 (by omega) ?_
          refine L_iload_n eX1_goOn_138 rfl ?_
          refine L_iload eX1_goOn_139 rfl ?_
          refine V_iadd eX1_goOn_141 ?_
          refine L_aload_n eX1_goOn_142 rfl ?_
          refine L_getR eX1_goOn_143 f_X1_24.g hf.k hf.r4 (by omega) ?_
          refine L_iload eX1_goOn_146 rfl ?_
          refine L_iload eX1_goOn_148 rfl ?_
          refine V_iadd eX1_goOn_150 ?_
          refine Z_iald1 (f := f) eX1_goOn_151 hf.k1 ?_
          refine L_iload eX1_goOn_152 rfl ?_
          -- at 154: .ifCond .eq 15
          refine V_ifeq eX1_goOn_154 (fun h3 => ?_) (fun h3 => ?_)
          · refine V_iconst eX1_goOn_169 ?_
            refine V_iadd eX1_goOn_170 ?_
            refine Z_iast1 (f := f) eX1_goOn_171 hf.k1 ?_
            refine L_aload_n eX1_goOn_172 rfl ?_
            refine L_getR eX1_goOn_173 f_X1_28.g hf.k hf.r5 (by omega) ?_
            refine L_iload_n eX1_goOn_176 rfl ?_
            refine L_iload eX1_goOn_177 rfl ?_
            refine V_iadd eX1_goOn_179 ?_
            refine L_aload_n eX1_goOn_180 rfl ?_
            refine L_getR eX1_goOn_181 f_X1_28.g hf.k hf.r5 (by omega) ?_
            refine L_iload eX1_goOn_184 rfl ?_
            refine L_iload eX1_goOn_186 rfl ?_
            refine V_iadd eX1_goOn_188 ?_
            refine Z_iald2 (f := f) eX1_goOn_189 hf.k2 ?_
            rw [eb]
            refine L_iload eX1_goOn_190 rfl ?_
            -- at 192: .ifCond .eq 15
            refine V_ifeq eX1_goOn_192 (fun h4 => ?_) (fun h4 => ?_)
            · refine V_iconst eX1_goOn_207 ?_
              refine V_iadd eX1_goOn_208 ?_
              refine L_iload_n eX1_goOn_209 rfl ?_
              refine V_isub eX1_goOn_210 ?_
              refine Z_iast2 (f := f) eX1_goOn_211 hf.k2 ?_
              refine L_iinc eX1_goOn_212 rfl (s_6 rfl rfl) ?_
              refine V_goto eX1_goOn_215 ?_
              exact hnext _ _ _ _ _ _ _ _ _
            · omega
          · omega
        · refine L_lload eX1_goOn_120 rfl ?_
          refine L_lconst0 eX1_goOn_122 ?_
          -- at 123: .lcmp
          refine V_lcmple eX1_goOn_123 eX1_goOn_124 (fun h5 => ?_) (fun h5 => ?_)
          · omega
          · rw [if_pos (by omega), if_pos (by omega)] at hnext
            have n1 := ab_mul (C := 80000) hu (show 0 ≤ 1000 * A (f + 3) k - air * rt (u * u + v * v) by omega) (by omega)
            have n2 := ab_mul (C := 80000) hv (show 0 ≤ 1000 * A (f + 3) k - air * rt (u * u + v * v) by omega) (by omega)
            unfold ab at n1 n2
            refine V_iconst eX1_goOn_127 ?_
            refine V_goto eX1_goOn_128 ?_
            refine L_istore eX1_goOn_132 (s_15 rfl rfl) ?_
            refine L_aload_n eX1_goOn_134 rfl ?_
            refine L_getR eX1_goOn_135 f_X1_24.g hf.k hf.r4 (by omega) ?_
            refine L_iload_n eX1_goOn_138 rfl ?_
            refine L_iload eX1_goOn_139 rfl ?_
            refine V_iadd eX1_goOn_141 ?_
            refine L_aload_n eX1_goOn_142 rfl ?_
            refine L_getR eX1_goOn_143 f_X1_24.g hf.k hf.r4 (by omega) ?_
            refine L_iload eX1_goOn_146 rfl ?_
            refine L_iload eX1_goOn_148 rfl ?_
            refine V_iadd eX1_goOn_150 ?_
            refine Z_iald1 (f := f) eX1_goOn_151 hf.k1 ?_
            refine L_iload eX1_goOn_152 rfl ?_
            -- at 154: .ifCond .eq 15
            refine V_ifeq eX1_goOn_154 (fun h3 => ?_) (fun h3 => ?_)
            · omega
            · refine L_lload eX1_goOn_157 rfl ?_
              refine L_lload eX1_goOn_159 rfl ?_
              refine V_lmul eX1_goOn_161 ?_
              refine L_lload eX1_goOn_162 rfl ?_
              refine V_ldiv eX1_goOn_164 ?_
              refine V_l2i eX1_goOn_165 ?_
              refine V_goto eX1_goOn_166 ?_
              refine V_iadd eX1_goOn_170 ?_
              refine Z_iast1 (f := f) eX1_goOn_171 hf.k1 ?_
              refine L_aload_n eX1_goOn_172 rfl ?_
              refine L_getR eX1_goOn_173 f_X1_28.g hf.k hf.r5 (by omega) ?_
              refine L_iload_n eX1_goOn_176 rfl ?_
              refine L_iload eX1_goOn_177 rfl ?_
              refine V_iadd eX1_goOn_179 ?_
              refine L_aload_n eX1_goOn_180 rfl ?_
              refine L_getR eX1_goOn_181 f_X1_28.g hf.k hf.r5 (by omega) ?_
              refine L_iload eX1_goOn_184 rfl ?_
              refine L_iload eX1_goOn_186 rfl ?_
              refine V_iadd eX1_goOn_188 ?_
              refine Z_iald2 (f := f) eX1_goOn_189 hf.k2 ?_
              rw [eb]
              refine L_iload eX1_goOn_190 rfl ?_
              -- at 192: .ifCond .eq 15
              refine V_ifeq eX1_goOn_192 (fun h4 => ?_) (fun h4 => ?_)
              · omega
              · refine L_lload eX1_goOn_195 rfl ?_
                refine L_lload eX1_goOn_197 rfl ?_
                refine V_lmul eX1_goOn_199 ?_
                refine L_lload eX1_goOn_200 rfl ?_
                refine V_ldiv eX1_goOn_202 ?_
                refine V_l2i eX1_goOn_203 ?_
                refine V_goto eX1_goOn_204 ?_
                refine V_iadd eX1_goOn_208 ?_
                refine L_iload_n eX1_goOn_209 rfl ?_
                refine V_isub eX1_goOn_210 ?_
                refine Z_iast2 (f := f) eX1_goOn_211 hf.k2 ?_
                refine L_iinc eX1_goOn_212 rfl (s_6 rfl rfl) ?_
                refine V_goto eX1_goOn_215 ?_
                exact hnext _ _ _ _ _ _ _ _ _
  exact LOOP (n + 1) 0 1 _ _ _ _ _ _ _ _ _ (by omega) (by omega) (by omega)
theorem p_X1_bend (hf : isFl f) {n : Nat} {t : Int} (h0 : F f 0 = n) (hn : 1 ≤ n ∧ n ≤ 12) (ht : 1 ≤ t ∧ t ≤ 60) (hd : ∀ k : Int, 1 ≤ k → k ≤ n → 0 ≤ A (f + 4) k ∧ A (f + 4) k ≤ 500) (hb : bO n t (X, Y)) (hr : bR n t 400000 (X, Y)) : Mu G mX1_bend [.ref f, vi (13 * t)] F (s2 A f X Y) none F (s2 A f (bS (A (f + 4)) t n (X, Y)).1 (bS (A (f + 4)) t n (X, Y)).2) := by
  have bb := b_b (bd := A (f + 4)) hb hr ⟨rfl, rfl⟩ hn.2 hd
  refine L_ent [some (.ref f), some (vi (13 * t)), none, none, none, none, none] rfl ?_
  generalize hQ : (fun (r' : Option Value) (w : wT) => r' = none ∧ w = sw F (s2 A f (bS (A (f + 4)) t n (X, Y)).1 (bS (A (f + 4)) t n (X, Y)).2)) = Q
  refine L_iload_n eX1_bend_0 rfl ?_
  refine V_iconst eX1_bend_1 ?_
  refine V_iadd eX1_bend_2 ?_
  refine L_istore_n eX1_bend_3 (s_2 rfl rfl) ?_
  have LOOP : ∀ (r j : Nat) (c : Int) (x3 x4 x5 x6 : Option Value), n < r + j + 1 → j + 1 ≤ n → c = 13 * t + (j + 2) → V G mX1_bend Q 0 0 4 [some (.ref f), some (vi (13 * t)), some (vi c), x3, x4, x5, x6] [] (sw F (s2 A f (it (fun j => bE (A (f + 4)) t (j + 2)) j (X, Y)).1 (it (fun j => bE (A (f + 4)) t (j + 2)) j (X, Y)).2)) := by
    intro r
    induction r with
    | zero => intro j c x3 x4 x5 x6 e1 e2; omega
    | succ r ih =>
      intro j c x3 x4 x5 x6 e1 e2 ec
      have g2 := b_R hn (bb j (by omega)).2.1
      have hnext := fun (s : rS) (hs : s = it (fun j => bE (A (f + 4)) t (j + 2)) j (X, Y)) (x3 x4 x5 x6 : Option Value) (hj : j + 2 ≤ n) => (show V G mX1_bend Q 0 0 4 [some (.ref f), some (vi (13 * t)), some (vi (c + 1)), x3, x4, x5, x6] [] (sw F (s2 A f (bE (A (f + 4)) t ((j : Int) + 2) s).1 (bE (A (f + 4)) t ((j : Int) + 2) s).2)) from by rw [hs]; exact ih (j + 1) _ x3 x4 x5 x6 (by omega) hj (by omega))
      have hfin : j = n - 1 → it (fun j => bE (A (f + 4)) t (j + 2)) j (X, Y) = bS (A (f + 4)) t n (X, Y) := fun e => by rw [e]; rfl
      generalize it (fun j => bE (A (f + 4)) t (j + 2)) j (X, Y) = s at g2 hnext hfin
      obtain ⟨S, T⟩ := s
      have hnext := hnext (S, T) rfl
      dsimp only
      refine L_iload_n eX1_bend_4 rfl ?_
      refine L_iload_n eX1_bend_5 rfl ?_
      refine L_aload_n eX1_bend_6 rfl ?_
      refine L_get eX1_bend_7 f_X1_9.g hf.k (hf.i (by decide)) ?_
      refine V_iadd eX1_bend_10 ?_
      -- at 11: .if_icmp .gt 125
      refine V_icmpgt eX1_bend_11 (fun h1 => ?_) (fun h1 => ?_)
      · exact V_return eX1_bend_136 (by rw [← hQ, ← hfin (by omega)]; exact ⟨rfl, rfl⟩)
      · have hnext := fun x3 x4 x5 x6 => hnext x3 x4 x5 x6 (by omega)
        have hdk := hd ((j : Int) + 2) (by omega) (by omega)
        have r0 := g2 ((j : Int) + 2) (by omega) (by omega)
        have r1 := g2 ((j : Int) + 1) (by omega) (by omega)
        have r2 := g2 (j : Int) (by omega) (by omega)
        rw [show 13 * t + ((j : Int) + 2) = c by omega] at r0
        rw [show 13 * t + ((j : Int) + 1) = c - 1 by omega] at r1
        rw [show 13 * t + (j : Int) = c - 2 by omega] at r2
        simp only [] at r0 r1 r2
        unfold bE at hnext
        simp only [] at hnext
        rw [show 13 * t + ((j : Int) + 2) = c by omega] at hnext
        have ek : c - 13 * t = (j : Int) + 2 := by omega
        have n1 := ab_mul (B := 240000000) (C := 500) (a := 2 * S (c - 1) - S (c - 2) - S c) (by unfold ab at *; omega) hdk.1 hdk.2
        have n2 := ab_mul (B := 240000000) (C := 500) (a := 2 * T (c - 1) - T (c - 2) - T c) (by unfold ab at *; omega) hdk.1 hdk.2
        unfold ab at n1 n2 r0 r1 r2
        refine L_ldc2 eX1_bend_14 k_X1_85 ?_
        refine L_aload_n eX1_bend_17 rfl ?_
        refine L_getR eX1_bend_18 f_X1_24.g hf.k hf.r4 (by omega) ?_
        refine L_iload_n eX1_bend_21 rfl ?_
        refine V_iconst eX1_bend_22 ?_
        refine V_isub eX1_bend_23 ?_
        refine Z_iald1 (f := f) eX1_bend_24 hf.k1 ?_
        refine V_i2l eX1_bend_25 ?_
        refine V_lmul eX1_bend_26 ?_
        refine L_aload_n eX1_bend_27 rfl ?_
        refine L_getR eX1_bend_28 f_X1_24.g hf.k hf.r4 (by omega) ?_
        refine L_iload_n eX1_bend_31 rfl ?_
        refine V_iconst eX1_bend_32 ?_
        refine V_isub eX1_bend_33 ?_
        refine Z_iald1 (f := f) eX1_bend_34 hf.k1 ?_
        refine V_i2l eX1_bend_35 ?_
        refine V_lsub eX1_bend_36 ?_
        refine L_aload_n eX1_bend_37 rfl ?_
        refine L_getR eX1_bend_38 f_X1_24.g hf.k hf.r4 (by omega) ?_
        refine L_iload_n eX1_bend_41 rfl ?_
        refine Z_iald1 (f := f) eX1_bend_42 hf.k1 ?_
        refine V_i2l eX1_bend_43 ?_
        refine V_lsub eX1_bend_44 ?_
        refine V.genl (fun a ea => ?_)
        refine L_lstore_n eX1_bend_45 (t_3 rfl) ?_
        refine L_ldc2 eX1_bend_46 k_X1_85 ?_
        refine L_aload_n eX1_bend_49 rfl ?_
        refine L_getR eX1_bend_50 f_X1_28.g hf.k hf.r5 (by omega) ?_
        refine L_iload_n eX1_bend_53 rfl ?_
        refine V_iconst eX1_bend_54 ?_
        refine V_isub eX1_bend_55 ?_
        refine Z_iald2 (f := f) eX1_bend_56 hf.k2 ?_
        refine V_i2l eX1_bend_57 ?_
        refine V_lmul eX1_bend_58 ?_
        refine L_aload_n eX1_bend_59 rfl ?_
        refine L_getR eX1_bend_60 f_X1_28.g hf.k hf.r5 (by omega) ?_
        refine L_iload_n eX1_bend_63 rfl ?_
        refine V_iconst eX1_bend_64 ?_
        refine V_isub eX1_bend_65 ?_
        refine Z_iald2 (f := f) eX1_bend_66 hf.k2 ?_
        refine V_i2l eX1_bend_67 ?_
        refine V_lsub eX1_bend_68 ?_
        refine L_aload_n eX1_bend_69 rfl ?_
        refine L_getR eX1_bend_70 f_X1_28.g hf.k hf.r5 (by omega) ?_
        refine L_iload_n eX1_bend_73 rfl ?_
        refine Z_iald2 (f := f) eX1_bend_74 hf.k2 ?_
        refine V_i2l eX1_bend_75 ?_
        refine V_lsub eX1_bend_76 ?_
        refine V.genl (fun b eb => ?_)
        rw [← ea] at n1 hnext
        rw [← eb] at n2 hnext
        refine L_lstore eX1_bend_77 (t_5 rfl) ?_
        refine L_aload_n eX1_bend_79 rfl ?_
        refine L_getR eX1_bend_80 f_X1_24.g hf.k hf.r4 (by omega) ?_
        refine L_iload_n eX1_bend_83 rfl ?_
        refine L_dup2 eX1_bend_84 ?_
        refine Z_iald1 (f := f) eX1_bend_85 hf.k1 ?_
        refine L_lload_n eX1_bend_86 rfl ?_
        refine L_aload_n eX1_bend_87 rfl ?_
        refine L_getR eX1_bend_88 f_X1_34.g hf.k hf.r7 (by omega) ?_
        refine L_iload_n eX1_bend_91 rfl ?_
        refine L_iload_n eX1_bend_92 rfl ?_
        refine V_isub eX1_bend_93 ?_
        refine Z_ialdo eX1_bend_94 hf.k4 (by omega) ?_
        rw [ek]
        refine V_i2l eX1_bend_95 ?_
        refine V_lmul eX1_bend_96 ?_
        refine L_ldc2 eX1_bend_97 k_X1_79 ?_
        refine V_ldiv eX1_bend_100 ?_
        refine V_l2i eX1_bend_101 ?_
        refine V_iadd eX1_bend_102 ?_
        refine Z_iast1 (f := f) eX1_bend_103 hf.k1 ?_
        refine L_aload_n eX1_bend_104 rfl ?_
        refine L_getR eX1_bend_105 f_X1_28.g hf.k hf.r5 (by omega) ?_
        refine L_iload_n eX1_bend_108 rfl ?_
        refine L_dup2 eX1_bend_109 ?_
        refine Z_iald2 (f := f) eX1_bend_110 hf.k2 ?_
        refine L_lload eX1_bend_111 rfl ?_
        refine L_aload_n eX1_bend_113 rfl ?_
        refine L_getR eX1_bend_114 f_X1_34.g hf.k hf.r7 (by omega) ?_
        refine L_iload_n eX1_bend_117 rfl ?_
        refine L_iload_n eX1_bend_118 rfl ?_
        refine V_isub eX1_bend_119 ?_
        refine Z_ialdo eX1_bend_120 hf.k4 (by omega) ?_
        rw [ek]
        refine V_i2l eX1_bend_121 ?_
        refine V_lmul eX1_bend_122 ?_
        refine L_ldc2 eX1_bend_123 k_X1_79 ?_
        refine V_ldiv eX1_bend_126 ?_
        refine V_l2i eX1_bend_127 ?_
        refine V_iadd eX1_bend_128 ?_
        refine Z_iast2 (f := f) eX1_bend_129 hf.k2 ?_
        refine L_iinc eX1_bend_130 rfl (s_2 rfl rfl) ?_
        refine V_goto eX1_bend_133 ?_
        exact hnext _ _ _ _
  exact LOOP n 0 (13 * t + 2) _ _ _ _ (by omega) (by omega) (by omega)
theorem p_X1_pullBoth (hf : isFl f) {n : Nat} {t k a b d : Int} (hn : n ≤ 12) (hk : 2 ≤ k ∧ k ≤ n) (ht : 1 ≤ t ∧ t ≤ 60) (hw : ∀ k : Int, 1 ≤ k → k ≤ n → 1 ≤ A (f + 3) k ∧ A (f + 3) k ≤ 80) (hlen : 20 ≤ F f 3 ∧ F f 3 ≤ 200) (hd : F f 3 < d ∧ d < 170000000) (ha : ab 120000000 a) (hb : ab 120000000 b) (hr : bR n t 60000000 (X, Y)) : Mu G mX1_pullBoth [.ref f, vi (13 * t + k), vi k, vl d, vl a, vl b] F (s2 A f X Y) none F (s2 A f (uI (uI X (13 * t + k) (X (13 * t + k) - (a * (d - F f 3) * A (f + 3) (k - 1)).tdiv (d * (A (f + 3) (k - 1) + A (f + 3) k)))) (13 * t + k - 1) (X (13 * t + k - 1) + (a * (d - F f 3) * A (f + 3) k).tdiv (d * (A (f + 3) (k - 1) + A (f + 3) k)))) (uI (uI Y (13 * t + k) (Y (13 * t + k) - (b * (d - F f 3) * A (f + 3) (k - 1)).tdiv (d * (A (f + 3) (k - 1) + A (f + 3) k)))) (13 * t + k - 1) (Y (13 * t + k - 1) + (b * (d - F f 3) * A (f + 3) k).tdiv (d * (A (f + 3) (k - 1) + A (f + 3) k))))) := by
  have w1 := hw k (by omega) (by omega)
  have w2 := hw (k - 1) (by omega) (by omega)
  have n1 := ab_mul (C := 170000000) ha (show 0 ≤ d - F f 3 by omega) (by omega)
  have n2 := ab_mul (C := 170000000) hb (show 0 ≤ d - F f 3 by omega) (by omega)
  have hL := Int.mul_le_mul (show d ≤ 170000000 by omega) (show A (f + 3) (k - 1) + A (f + 3) k ≤ 160 by omega) (by omega) (by omega)
  have hL0 : 0 < d * (A (f + 3) (k - 1) + A (f + 3) k) := Int.mul_pos (by omega) (by omega)
  have m1 := ab_mul (C := 80) n1 (show 0 ≤ A (f + 3) (k - 1) by omega) (by omega)
  have m2 := ab_mul (C := 80) n2 (show 0 ≤ A (f + 3) (k - 1) by omega) (by omega)
  have m3 := ab_mul (C := 80) n1 (show 0 ≤ A (f + 3) k by omega) (by omega)
  have m4 := ab_mul (C := 80) n2 (show 0 ≤ A (f + 3) k by omega) (by omega)
  unfold ab at m1 m2 m3 m4
  refine L_ent [some (.ref f), some (vi (13 * t + k)), some (vi k), some (vl d), none, some (vl a), none, some (vl b), none, none, none, none, none, none, none, none, none] rfl ?_
  refine L_lload_n eX1_pullBoth_0 rfl ?_
  refine L_aload_n eX1_pullBoth_1 rfl ?_
  refine L_get eX1_pullBoth_2 f_X1_21.g hf.k (hf.i (by decide)) ?_
  refine V_i2l eX1_pullBoth_5 ?_
  refine V_lsub eX1_pullBoth_6 ?_
  refine L_lstore eX1_pullBoth_7 (t_9 rfl) ?_
  refine L_aload_n eX1_pullBoth_9 rfl ?_
  refine L_getR eX1_pullBoth_10 f_X1_31.g hf.k hf.r6 (by omega) ?_
  refine L_iload_n eX1_pullBoth_13 rfl ?_
  refine V_iconst eX1_pullBoth_14 ?_
  refine V_isub eX1_pullBoth_15 ?_
  refine Z_ialdo eX1_pullBoth_16 hf.k3 (by omega) ?_
  refine V_i2l eX1_pullBoth_17 ?_
  refine L_lstore eX1_pullBoth_18 (t_11 rfl) ?_
  refine L_aload_n eX1_pullBoth_20 rfl ?_
  refine L_getR eX1_pullBoth_21 f_X1_31.g hf.k hf.r6 (by omega) ?_
  refine L_iload_n eX1_pullBoth_24 rfl ?_
  refine Z_ialdo eX1_pullBoth_25 hf.k3 (by omega) ?_
  refine V_i2l eX1_pullBoth_26 ?_
  refine L_lstore eX1_pullBoth_27 (t_13 rfl) ?_
  refine L_lload_n eX1_pullBoth_29 rfl ?_
  refine L_lload eX1_pullBoth_30 rfl ?_
  refine L_lload eX1_pullBoth_32 rfl ?_
  refine V_ladd eX1_pullBoth_34 ?_
  refine V_lmul eX1_pullBoth_35 ?_
  refine L_lstore eX1_pullBoth_36 (t_15 rfl) ?_
  refine L_lload eX1_pullBoth_38 rfl ?_
  refine L_lconst0 eX1_pullBoth_40 ?_
  -- at 41: .lcmp
  refine V_lcmpgt eX1_pullBoth_41 eX1_pullBoth_42 (fun h => ?_) (fun h => ?_)
  · refine L_aload_n eX1_pullBoth_46 rfl ?_
    refine L_getR eX1_pullBoth_47 f_X1_24.g hf.k hf.r4 (by omega) ?_
    refine L_iload_n eX1_pullBoth_50 rfl ?_
    refine L_dup2 eX1_pullBoth_51 ?_
    refine Z_iald1 (f := f) eX1_pullBoth_52 hf.k1 ?_
    refine L_lload eX1_pullBoth_53 rfl ?_
    refine L_lload eX1_pullBoth_55 rfl ?_
    refine V_lmul eX1_pullBoth_57 ?_
    refine L_lload eX1_pullBoth_58 rfl ?_
    refine V_lmul eX1_pullBoth_60 ?_
    refine L_lload eX1_pullBoth_61 rfl ?_
    refine V_ldiv eX1_pullBoth_63 ?_
    refine V_l2i eX1_pullBoth_64 ?_
    refine V_isub eX1_pullBoth_65 ?_
    refine Z_iast1 (f := f) eX1_pullBoth_66 hf.k1 ?_
    refine L_aload_n eX1_pullBoth_67 rfl ?_
    refine L_getR eX1_pullBoth_68 f_X1_28.g hf.k hf.r5 (by omega) ?_
    refine L_iload_n eX1_pullBoth_71 rfl ?_
    refine L_dup2 eX1_pullBoth_72 ?_
    refine Z_iald2 (f := f) eX1_pullBoth_73 hf.k2 ?_
    refine L_lload eX1_pullBoth_74 rfl ?_
    refine L_lload eX1_pullBoth_76 rfl ?_
    refine V_lmul eX1_pullBoth_78 ?_
    refine L_lload eX1_pullBoth_79 rfl ?_
    refine V_lmul eX1_pullBoth_81 ?_
    refine L_lload eX1_pullBoth_82 rfl ?_
    refine V_ldiv eX1_pullBoth_84 ?_
    refine V_l2i eX1_pullBoth_85 ?_
    refine V_isub eX1_pullBoth_86 ?_
    refine Z_iast2 (f := f) eX1_pullBoth_87 hf.k2 ?_
    refine L_aload_n eX1_pullBoth_88 rfl ?_
    refine L_getR eX1_pullBoth_89 f_X1_24.g hf.k hf.r4 (by omega) ?_
    refine L_iload_n eX1_pullBoth_92 rfl ?_
    refine V_iconst eX1_pullBoth_93 ?_
    refine V_isub eX1_pullBoth_94 ?_
    refine L_dup2 eX1_pullBoth_95 ?_
    refine Z_iald1 (f := f) eX1_pullBoth_96 hf.k1 ?_
    refine L_lload eX1_pullBoth_97 rfl ?_
    refine L_lload eX1_pullBoth_99 rfl ?_
    refine V_lmul eX1_pullBoth_101 ?_
    refine L_lload eX1_pullBoth_102 rfl ?_
    refine V_lmul eX1_pullBoth_104 ?_
    refine L_lload eX1_pullBoth_105 rfl ?_
    refine V_ldiv eX1_pullBoth_107 ?_
    refine V_l2i eX1_pullBoth_108 ?_
    refine V_iadd eX1_pullBoth_109 ?_
    refine Z_iast1 (f := f) eX1_pullBoth_110 hf.k1 ?_
    refine L_aload_n eX1_pullBoth_111 rfl ?_
    refine L_getR eX1_pullBoth_112 f_X1_28.g hf.k hf.r5 (by omega) ?_
    refine L_iload_n eX1_pullBoth_115 rfl ?_
    refine V_iconst eX1_pullBoth_116 ?_
    refine V_isub eX1_pullBoth_117 ?_
    refine L_dup2 eX1_pullBoth_118 ?_
    refine Z_iald2 (f := f) eX1_pullBoth_119 hf.k2 ?_
    refine L_lload eX1_pullBoth_120 rfl ?_
    refine L_lload eX1_pullBoth_122 rfl ?_
    refine V_lmul eX1_pullBoth_124 ?_
    refine L_lload eX1_pullBoth_125 rfl ?_
    refine V_lmul eX1_pullBoth_127 ?_
    refine L_lload eX1_pullBoth_128 rfl ?_
    refine V_ldiv eX1_pullBoth_130 ?_
    refine V_l2i eX1_pullBoth_131 ?_
    refine V_iadd eX1_pullBoth_132 ?_
    refine Z_iast2 (f := f) eX1_pullBoth_133 hf.k2 ?_
    -- at 134: .return_
    exact V_return eX1_pullBoth_134 ⟨rfl, by rw [uI_ne (show 13 * t + k - 1 ≠ 13 * t + k by omega), uI_ne (show 13 * t + k - 1 ≠ 13 * t + k by omega)]⟩
  · omega
theorem p_X1_shorten (hf : isFl f) {n : Nat} {t hx hy : Int} (h0 : F f 0 = n) (hn : 1 ≤ n ∧ n ≤ 12) (ht : 1 ≤ t ∧ t ≤ 60) (hlen : 20 ≤ F f 3 ∧ F f 3 ≤ 200) (hb : bO n t (X, Y)) (hr : bR n t 60000000 (X, Y)) (he : hE t hx hy (X, Y)) (h1 : ab 119880 hx) (h2 : ab 119880 hy) : Mu G mX1_shorten [.ref f, vi (13 * t)] F (s2 A f X Y) none F (s2 A f (hS (F f 3) t n (X, Y)).1 (hS (F f 3) t n (X, Y)).2) := by
  have hbb := h_b (len := F f 3) hb hr he h1 h2 hn.2 (by omega)
  refine L_ent [some (.ref f), some (vi (13 * t)), none, none, none, none, none, none, none] rfl ?_
  generalize hQ : (fun (r' : Option Value) (w : wT) => r' = none ∧ w = sw F (s2 A f (hS (F f 3) t n (X, Y)).1 (hS (F f 3) t n (X, Y)).2)) = Q
  refine L_iload_n eX1_shorten_0 rfl ?_
  refine V_iconst eX1_shorten_1 ?_
  refine V_iadd eX1_shorten_2 ?_
  refine L_istore_n eX1_shorten_3 (s_2 rfl rfl) ?_
  have LOOP : ∀ (r j : Nat) (c : Int) (x3 x4 x5 x6 x7 x8 : Option Value), n < r + j → j ≤ n → c = 13 * t + (j + 1) → V G mX1_shorten Q 0 0 4 [some (.ref f), some (vi (13 * t)), some (vi c), x3, x4, x5, x6, x7, x8] [] (sw F (s2 A f (it (fun j => hO (F f 3) t (j + 1)) j (X, Y)).1 (it (fun j => hO (F f 3) t (j + 1)) j (X, Y)).2)) := by
    intro r
    induction r with
    | zero => intro j c x3 x4 x5 x6 x7 x8 e1 e2; omega
    | succ r ih =>
      intro j c x3 x4 x5 x6 x7 x8 e1 e2 ec
      have g2 := (hbb j e2).2.2
      have hnext := fun (s : rS) (hs : s = it (fun j => hO (F f 3) t (j + 1)) j (X, Y)) (x3 x4 x5 x6 x7 x8 : Option Value) (hj : j + 1 ≤ n) => (show V G mX1_shorten Q 0 0 4 [some (.ref f), some (vi (13 * t)), some (vi (c + 1)), x3, x4, x5, x6, x7, x8] [] (sw F (s2 A f (hO (F f 3) t ((j : Int) + 1) s).1 (hO (F f 3) t ((j : Int) + 1) s).2)) from by rw [hs]; exact ih (j + 1) _ x3 x4 x5 x6 x7 x8 (by omega) hj (by omega))
      have hfin : j = n → it (fun j => hO (F f 3) t (j + 1)) j (X, Y) = hS (F f 3) t n (X, Y) := fun e => by rw [e]; rfl
      generalize it (fun j => hO (F f 3) t (j + 1)) j (X, Y) = s at g2 hnext hfin
      obtain ⟨S, T⟩ := s
      have hnext := hnext (S, T) rfl
      dsimp only
      refine L_iload_n eX1_shorten_4 rfl ?_
      refine L_iload_n eX1_shorten_5 rfl ?_
      refine L_aload_n eX1_shorten_6 rfl ?_
      refine L_get eX1_shorten_7 f_X1_9.g hf.k (hf.i (by decide)) ?_
      refine V_iadd eX1_shorten_10 ?_
      -- at 11: .if_icmp .gt 113
      refine V_icmpgt eX1_shorten_11 (fun h3 => ?_) (fun h3 => ?_)
      · exact V_return eX1_shorten_124 (by rw [← hQ, ← hfin (by omega)]; exact ⟨rfl, rfl⟩)
      · have hnext := fun x3 x4 x5 x6 x7 x8 => hnext x3 x4 x5 x6 x7 x8 (by omega)
        obtain ⟨b1, b2, b3, b4, b5, b6, b7⟩ := spn_b g2 (k := (j : Int) + 1) (by omega)
        unfold hO at hnext
        simp only [] at hnext
        rw [show 13 * t + ((j : Int) + 1) = c by omega] at hnext b1 b2 b3 b4 b5 b6 b7
        generalize hd : spn (S, T) c = d at b6 b7 hnext
        unfold spn at hd
        simp only [] at hd b1 b2 b3 b4 b5
        have aa : ab 120000000 (S c - S (c - 1)) := by unfold ab at *; omega
        have bb : ab 120000000 (T c - T (c - 1)) := by unfold ab at *; omega
        have sa := aa
        have sb := bb
        unfold ab at sa sb
        refine L_aload_n eX1_shorten_14 rfl ?_
        refine L_getR eX1_shorten_15 f_X1_24.g hf.k hf.r4 (by omega) ?_
        refine L_iload_n eX1_shorten_18 rfl ?_
        refine Z_iald1 (f := f) eX1_shorten_19 hf.k1 ?_
        refine L_aload_n eX1_shorten_20 rfl ?_
        refine L_getR eX1_shorten_21 f_X1_24.g hf.k hf.r4 (by omega) ?_
        refine L_iload_n eX1_shorten_24 rfl ?_
        refine V_iconst eX1_shorten_25 ?_
        refine V_isub eX1_shorten_26 ?_
        refine Z_iald1 (f := f) eX1_shorten_27 hf.k1 ?_
        refine V_isub eX1_shorten_28 ?_
        refine V_i2l eX1_shorten_29 ?_
        generalize ea : S c - S (c - 1) = a at *
        refine L_lstore_n eX1_shorten_30 (t_3 rfl) ?_
        refine L_aload_n eX1_shorten_31 rfl ?_
        refine L_getR eX1_shorten_32 f_X1_28.g hf.k hf.r5 (by omega) ?_
        refine L_iload_n eX1_shorten_35 rfl ?_
        refine Z_iald2 (f := f) eX1_shorten_36 hf.k2 ?_
        refine L_aload_n eX1_shorten_37 rfl ?_
        refine L_getR eX1_shorten_38 f_X1_28.g hf.k hf.r5 (by omega) ?_
        refine L_iload_n eX1_shorten_41 rfl ?_
        refine V_iconst eX1_shorten_42 ?_
        refine V_isub eX1_shorten_43 ?_
        refine Z_iald2 (f := f) eX1_shorten_44 hf.k2 ?_
        refine V_isub eX1_shorten_45 ?_
        refine V_i2l eX1_shorten_46 ?_
        generalize eb : T c - T (c - 1) = b at *
        refine L_lstore eX1_shorten_47 (t_5 rfl) ?_
        refine L_aload_n eX1_shorten_49 rfl ?_
        refine L_lload_n eX1_shorten_50 rfl ?_
        refine L_lload eX1_shorten_51 rfl ?_
        refine C_v1 (p_X1_lengthIfStretched hf hlen b5) v_X1_87 eX1_shorten_53 hf.k rfl ?_
        rw [hd]
        by_cases hc : F f 3 < d
        · rw [if_pos hc] at hnext ⊢
          have n1 := ab_mul (C := 200) aa (show 0 ≤ F f 3 by omega) (by omega)
          have n2 := ab_mul (C := 200) bb (show 0 ≤ F f 3 by omega) (by omega)
          unfold ab at n1 n2
          refine L_lstore eX1_shorten_56 (t_7 rfl) ?_
          refine L_lload eX1_shorten_58 rfl ?_
          refine L_lconst0 eX1_shorten_60 ?_
          -- at 61: .lcmp
          refine V_lcmple eX1_shorten_61 eX1_shorten_62 (fun h4 => ?_) (fun h4 => ?_)
          · omega
          · refine L_aload_n eX1_shorten_65 rfl ?_
            refine L_getR eX1_shorten_66 f_X1_24.g hf.k hf.r4 (by omega) ?_
            refine L_iload_n eX1_shorten_69 rfl ?_
            refine L_aload_n eX1_shorten_70 rfl ?_
            refine L_getR eX1_shorten_71 f_X1_24.g hf.k hf.r4 (by omega) ?_
            refine L_iload_n eX1_shorten_74 rfl ?_
            refine V_iconst eX1_shorten_75 ?_
            refine V_isub eX1_shorten_76 ?_
            refine Z_iald1 (f := f) eX1_shorten_77 hf.k1 ?_
            refine L_lload_n eX1_shorten_78 rfl ?_
            refine L_aload_n eX1_shorten_79 rfl ?_
            refine L_get eX1_shorten_80 f_X1_21.g hf.k (hf.i (by decide)) ?_
            refine V_i2l eX1_shorten_83 ?_
            refine V_lmul eX1_shorten_84 ?_
            refine L_lload eX1_shorten_85 rfl ?_
            refine V_ldiv eX1_shorten_87 ?_
            refine V_l2i eX1_shorten_88 ?_
            refine V_iadd eX1_shorten_89 ?_
            refine Z_iast1 (f := f) eX1_shorten_90 hf.k1 ?_
            refine L_aload_n eX1_shorten_91 rfl ?_
            refine L_getR eX1_shorten_92 f_X1_28.g hf.k hf.r5 (by omega) ?_
            refine L_iload_n eX1_shorten_95 rfl ?_
            refine L_aload_n eX1_shorten_96 rfl ?_
            refine L_getR eX1_shorten_97 f_X1_28.g hf.k hf.r5 (by omega) ?_
            refine L_iload_n eX1_shorten_100 rfl ?_
            refine V_iconst eX1_shorten_101 ?_
            refine V_isub eX1_shorten_102 ?_
            refine Z_iald2 (f := f) eX1_shorten_103 hf.k2 ?_
            refine L_lload eX1_shorten_104 rfl ?_
            refine L_aload_n eX1_shorten_106 rfl ?_
            refine L_get eX1_shorten_107 f_X1_21.g hf.k (hf.i (by decide)) ?_
            refine V_i2l eX1_shorten_110 ?_
            refine V_lmul eX1_shorten_111 ?_
            refine L_lload eX1_shorten_112 rfl ?_
            refine V_ldiv eX1_shorten_114 ?_
            refine V_l2i eX1_shorten_115 ?_
            refine V_iadd eX1_shorten_116 ?_
            refine Z_iast2 (f := f) eX1_shorten_117 hf.k2 ?_
            refine L_iinc eX1_shorten_118 rfl (s_2 rfl rfl) ?_
            refine V_goto eX1_shorten_121 ?_
            exact hnext _ _ _ _ _ _
        · rw [if_neg hc] at hnext ⊢
          refine L_lstore eX1_shorten_56 (t_7 rfl) ?_
          refine L_lload eX1_shorten_58 rfl ?_
          refine L_lconst0 eX1_shorten_60 ?_
          -- at 61: .lcmp
          refine V_lcmple eX1_shorten_61 eX1_shorten_62 (fun h4 => ?_) (fun h4 => ?_)
          · refine L_iinc eX1_shorten_118 rfl (s_2 rfl rfl) ?_
            refine V_goto eX1_shorten_121 ?_
            exact hnext _ _ _ _ _ _
          · omega
  exact LOOP (n + 1) 0 (13 * t + 1) _ _ _ _ _ _ (by omega) (by omega) (by omega)
end P36

