section P83
variable {F : fT} {A : nT}
theorem pw_rhythm (h : Iv F A) {d g e c : Int} (hd : i32 d) (hg : i32 g) (he : i32 e) (hc : i32 c) : Pw mX10_rhythm mX11_rhythm [vi d, vi g, vi e, vi c] F A := by
  unfold i32 at hd hg he hc
  by_cases h1 : (-5000 ≤ d ∧ d ≤ 5000) ∧ (10 ≤ g ∧ g ≤ 200) ∧ (-60 ≤ e ∧ e ≤ 60) ∧ (0 ≤ c ∧ c ≤ 9999)
  · obtain ⟨n, T, en, eT, hn, hT⟩ := iv_nat h
    have had : ab 5000 d := h1.1
    obtain ⟨F1, A1, hC, i1, k1, ef, ag1, ec1⟩ := throw_g h en eT hn
    obtain ⟨F2, A2, hF, i2, k2, eg, ag2, ec2, e42, e43, e44, -⟩ := fly_g h i1 k1 en eT hn hT (g := g) h1.2.1
    have hL2 : ∀ (G : gT) (o : Int), 0 ≤ o ∧ o ≤ 30 → Pu G mX1_leastFarOfTwo [.ref 42, .ref 47, vi d, vi o] F2 A2 (vi (clH F A n T d o g)) := fun G o ho => by
      have := p_X1_leastFarOfTwo (G := G) (F := F2) (A := A2) (f := 42) (g := 47) (n := n) (T := T) (d := d) (o := o) (Or.inl rfl) (Or.inr rfl) i2.b1 i2.b2 (by rw [e42]; exact ef.1) (by rw [e42]; exact ef.2.1) eg.1 eg.2.1 hn.2 hT.2 had ho
      rw [show A2 (42 + 1) = A2 43 from rfl, show A2 (42 + 2) = A2 44 from rfl, show A2 (47 + 1) = A2 48 from rfl, show A2 (47 + 2) = A2 49 from rfl, cl_c (F := F) (A := A) (g := g) (by rw [e43, e44]; exact ag1) ag2 hn.2] at this
      exact this
    have hcb : ∀ o : Int, 0 ≤ clH F A n T d o g ∧ clH F A n T d o g ≤ 1000000000 := fun o => (cl_m (o := o) ag1 ag2 hn.2 i1.b1 i2.b2 had hT.2).2
    have hF1 := fun (G : gT) => p_X1_firstCrackTick (G := G) (F := F2) (A := A2) (f := 42) (n := n) (T := T) (Or.inl rfl) i2.b1 (by rw [e42]; exact ef.2.2) (by rw [e42]; exact ef.1) (by rw [e42]; exact ef.2.1) hn.2 hT.2
    have hF2 := fun (G : gT) => p_X1_firstCrackTick (G := G) (F := F2) (A := A2) (f := 47) (n := n) (T := T) (Or.inr rfl) i2.b2 eg.2.2 eg.1 eg.2.1 hn.2 hT.2
    rw [show A2 (42 + 1) = A2 43 from rfl, show A2 (42 + 2) = A2 44 from rfl, e42, e43, e44, ec1] at hF1
    rw [show A2 (47 + 1) = A2 48 from rfl, show A2 (47 + 2) = A2 49 from rfl, ec2] at hF2
    have hb1 := ftR_b (L := crH F A n T (F 0 11)) crH_mem (by omega)
    have hb2 := ftR_b (L := crH F A n T g) crH_mem (by omega)
    obtain ⟨ff, eff⟩ : ∃ ff, ftR (crH F A n T (F 0 11)) = ff := ⟨_, rfl⟩
    obtain ⟨sc, esc⟩ : ∃ sc, ftR (crH F A n T g) = sc := ⟨_, rfl⟩
    rw [eff] at hF1 hb1
    rw [esc] at hF2 hb2
    have hcbo := hcb (ff + e - sc)
    obtain ⟨res, hr1, hr2, hr3, hr4⟩ : ∃ res : Int, ((ff = -1 ∨ sc = -1) → res = -1) ∧ (ff ≠ -1 → sc ≠ -1 → ¬ (0 ≤ ff + e - sc ∧ ff + e - sc ≤ 30) → res = -1) ∧ (ff ≠ -1 → sc ≠ -1 → (0 ≤ ff + e - sc ∧ ff + e - sc ≤ 30) → c ≤ clH F A n T d (ff + e - sc) g → res = ff + e - sc) ∧ (ff ≠ -1 → sc ≠ -1 → (0 ≤ ff + e - sc ∧ ff + e - sc ≤ 30) → clH F A n T d (ff + e - sc) g < c → res = -1) := by
      by_cases a1 : ff ≠ -1 ∧ sc ≠ -1 ∧ (0 ≤ ff + e - sc ∧ ff + e - sc ≤ 30) ∧ c ≤ clH F A n T d (ff + e - sc) g
      · exact ⟨ff + e - sc, by omega, by omega, by omega, by omega⟩
      · exact ⟨-1, by omega, by omega, by omega, by omega⟩
    intro G
    refine ⟨_, (?_ : Mu G mX10_rhythm [.ref 0, vi d, vi g, vi e, vi c] F A (some (vi res)) F2 A2), ?_⟩
    · refine L_ent [some (.ref 0), some (vi d), some (vi g), some (vi e), some (vi c), none, none, none, none] rfl ?_
      refine L_iload_n eX10_rhythm_0 rfl ?_
      refine V_iconst eX10_rhythm_1 ?_
      refine C_s1 (p_X10_isPlace (by omega) (by omega)) v_X10_248 eX10_rhythm_2 rfl ?_
      refine V_ifeqB eX10_rhythm_5 (fun h5 => ?_) (fun h5 => ?_)
      · (exfalso; omega)
      · refine L_iload_n eX10_rhythm_8 rfl ?_
        refine C_s1 (p_X10_isGiven (by omega)) v_X10_169 eX10_rhythm_9 rfl ?_
        refine V_ifeqB eX10_rhythm_12 (fun h12 => ?_) (fun h12 => ?_)
        · (exfalso; omega)
        · refine L_iload_n eX10_rhythm_15 rfl ?_
          refine L_bipush eX10_rhythm_16 rfl ?_
          refine V_icmplt eX10_rhythm_18 (fun h18 => ?_) (fun h18 => ?_)
          · (exfalso; omega)
          · refine L_iload_n eX10_rhythm_21 rfl ?_
            refine L_bipush eX10_rhythm_22 rfl ?_
            refine V_icmple eX10_rhythm_24 (fun h24 => ?_) (fun h24 => ?_)
            · refine L_iload eX10_rhythm_31 rfl ?_
              refine V_iflt eX10_rhythm_33 (fun h33 => ?_) (fun h33 => ?_)
              · (exfalso; omega)
              · refine L_iload eX10_rhythm_36 rfl ?_
                refine L_sipush eX10_rhythm_38 rfl ?_
                refine V_icmple eX10_rhythm_41 (fun h41 => ?_) (fun h41 => ?_)
                · refine L_aload_n eX10_rhythm_48 rfl ?_
                  refine C_v1 (hC G) v_X10_195 eX10_rhythm_49 rfl rfl ?_
                  refine L_astore eX10_rhythm_52 (s_5 rfl rfl) ?_
                  refine L_aload_n eX10_rhythm_54 rfl ?_
                  refine L_getR (r := 47) eX10_rhythm_55 f_X10_50.g rfl rfl (by decide) ?_
                  refine L_aload_n eX10_rhythm_58 rfl ?_
                  refine L_getR (r := 1) eX10_rhythm_59 f_X10_10.g rfl rfl (by decide) ?_
                  refine L_getR (r := 2) eX10_rhythm_62 f_X10_112 rfl rfl (by decide) ?_
                  refine L_aload_n eX10_rhythm_65 rfl ?_
                  refine L_getR (r := 1) eX10_rhythm_66 f_X10_10.g rfl rfl (by decide) ?_
                  refine L_getR (r := 6) eX10_rhythm_69 f_X10_130 rfl rfl (by decide) ?_
                  refine L_aload_n eX10_rhythm_72 rfl ?_
                  refine L_getR (r := 1) eX10_rhythm_73 f_X10_10.g rfl rfl (by decide) ?_
                  refine L_getR (r := 9) eX10_rhythm_76 f_X10_166 rfl rfl (by decide) ?_
                  refine L_iload_n eX10_rhythm_79 rfl ?_
                  refine C_v0 (hF G) v_X10_255 eX10_rhythm_80 rfl rfl ?_
                  refine L_aload eX10_rhythm_83 rfl ?_
                  refine C_v1 (hF1 G) v_X10_235 eX10_rhythm_85 rfl rfl ?_
                  refine L_istore eX10_rhythm_88 (s_6 rfl rfl) ?_
                  refine L_aload_n eX10_rhythm_90 rfl ?_
                  refine L_getR (r := 47) eX10_rhythm_91 f_X10_50.g rfl rfl (by decide) ?_
                  refine C_v1 (hF2 G) v_X10_235 eX10_rhythm_94 rfl rfl ?_
                  refine L_istore eX10_rhythm_97 (s_7 rfl rfl) ?_
                  refine L_iload eX10_rhythm_99 rfl ?_
                  refine V_iconst eX10_rhythm_101 ?_
                  refine V_icmpeq eX10_rhythm_102 (fun h102 => ?_) (fun h102 => ?_)
                  · refine V_iconst eX10_rhythm_111 ?_
                    exact V_ireturn eX10_rhythm_112 ((by first | (exfalso; omega) | exact ⟨congrArg (fun z => some (vi z)) (by omega), rfl⟩))
                  · refine L_iload eX10_rhythm_105 rfl ?_
                    refine V_iconst eX10_rhythm_107 ?_
                    refine V_icmpne eX10_rhythm_108 (fun h108 => ?_) (fun h108 => ?_)
                    · refine L_iload eX10_rhythm_113 rfl ?_
                      refine L_iload_n eX10_rhythm_115 rfl ?_
                      refine V_iadd eX10_rhythm_116 ?_
                      refine L_iload eX10_rhythm_117 rfl ?_
                      refine V_isub eX10_rhythm_119 ?_
                      refine L_istore eX10_rhythm_120 (s_8 rfl rfl) ?_
                      refine L_iload eX10_rhythm_122 rfl ?_
                      refine V_iflt eX10_rhythm_124 (fun h124 => ?_) (fun h124 => ?_)
                      · refine V_iconst eX10_rhythm_134 ?_
                        exact V_ireturn eX10_rhythm_135 ((by first | (exfalso; omega) | exact ⟨congrArg (fun z => some (vi z)) (by omega), rfl⟩))
                      · refine L_iload eX10_rhythm_127 rfl ?_
                        refine L_bipush eX10_rhythm_129 rfl ?_
                        refine V_icmple eX10_rhythm_131 (fun h131 => ?_) (fun h131 => ?_)
                        · refine L_aload eX10_rhythm_136 rfl ?_
                          refine L_aload_n eX10_rhythm_138 rfl ?_
                          refine L_getR (r := 47) eX10_rhythm_139 f_X10_50.g rfl rfl (by decide) ?_
                          refine L_iload_n eX10_rhythm_142 rfl ?_
                          refine L_iload eX10_rhythm_143 rfl ?_
                          refine C_v1 (hL2 G _ (by omega)) v_X10_287 eX10_rhythm_145 rfl rfl ?_
                          refine L_iload eX10_rhythm_148 rfl ?_
                          refine V_icmplt eX10_rhythm_150 (fun h150 => ?_) (fun h150 => ?_)
                          · refine V_iconst eX10_rhythm_158 ?_
                            exact V_ireturn eX10_rhythm_159 ((by first | (exfalso; omega) | exact ⟨congrArg (fun z => some (vi z)) (by omega), rfl⟩))
                          · refine L_iload eX10_rhythm_153 rfl ?_
                            refine V_goto eX10_rhythm_155 ?_
                            exact V_ireturn eX10_rhythm_159 ((by first | (exfalso; omega) | exact ⟨congrArg (fun z => some (vi z)) (by omega), rfl⟩))
                        · refine V_iconst eX10_rhythm_134 ?_
                          exact V_ireturn eX10_rhythm_135 ((by first | (exfalso; omega) | exact ⟨congrArg (fun z => some (vi z)) (by omega), rfl⟩))
                    · refine V_iconst eX10_rhythm_111 ?_
                      exact V_ireturn eX10_rhythm_112 ((by first | (exfalso; omega) | exact ⟨congrArg (fun z => some (vi z)) (by omega), rfl⟩))
                · (exfalso; omega)
            · (exfalso; omega)
    · intro r w e1
      refine ⟨_, F2, A2, e1.1, e1.2, ty_v, (fun r w => ∃ F1 A1, r = some (vi res) ∧ w = sw F1 A1 ∧ Iv F1 A1), ?_, fun r' w' e' => e'⟩
      refine L_ent [some (.ref 66), some (vi d), some (vi g), some (vi e), some (vi c), none, none] rfl ?_
      generalize hQ : (fun (r : Option Value) (w : wT) => ∃ F1 A1, r = some (vi res) ∧ w = sw F1 A1 ∧ Iv F1 A1) = Q
      obtain ⟨F3, A3, hM, i3, k3, -, f0, f5, ag3⟩ := toss_g h i2 k2 en eT (g := g) h1.2.1
      obtain ⟨F4, A4, hK, i4, k4, -, e41, e86, -⟩ := crack_h h i3 k3 f0 f5 hn hT ag3
      rw [esc] at e86
      have hlen : (crH F A n T g).length ≤ 12 * T := ckL_len hn.2 T
      have hlen1 : (crH F A n T (F 0 11)).length ≤ 12 * T := ckL_len hn.2 T
      have fin : ∀ (z : Int), z = sc → V G mX11_rhythm Q 0 0 67 [some (.ref 66), some (vi d), some (vi g), some (vi e), some (vi c), some (vi z), none] [] (sw F4 A4) := fun z ez => by
        subst ez
        refine L_aload_n eX11_rhythm_67 rfl ?_
        refine L_iload_n eX11_rhythm_68 rfl ?_
        refine L_iload_n eX11_rhythm_69 rfl ?_
        refine C_vq (m_tossBoth h i4 k4 en eT hn hT had h1.2.1 G) v_X11_394 eX11_rhythm_70 rfl rfl (fun r' w' e' => ?_)
        obtain ⟨F5, A5, X2, Y2, er, ew, tb⟩ := e'
        subst er ew
        obtain ⟨F6, A6, hK2, i6, k6, k56, f41, f86, s84, s85, s91, s92⟩ := crack_h h tb.iv tb.k tb.f0 tb.f5 hn hT tb.ag
        rw [eff] at f86
        have hcl : ∀ o : Int, 0 ≤ o ∧ o ≤ 30 → Pu G mX11_closeBy [.ref 66, vi o] F6 A6 (vi (clH F A n T d o g)) := fun o ho => by
          have hcl := p_X11_closeBy (G := G) (F := F6) (A := A6) (n := n) (T := T) (d := d) (o := o) i6.b3 tb.b (by rw [s91, s92]; exact tb.o) (by rw [k56.1 66 0 rfl]; exact tb.f0) (by rw [k56.1 66 5 rfl]; exact tb.f5) hn.2 hT.2 had ho
          rw [s84, s85, (cl_m tb.ag tb.ag2 hn.2 tb.iv.b3 tb.b had hT.2).1] at hcl
          exact hcl
        refine L_aload_n eX11_rhythm_73 rfl ?_
        refine C_v0 (hK2 G) v_X11_334 eX11_rhythm_74 rfl rfl ?_
        have fi : ∀ x : Int, x = res → Q (some (vi x)) (sw F6 A6) := fun x ex => by
          subst ex
          rw [← hQ]
          exact ⟨F6, A6, rfl, rfl, i6⟩
        by_cases cf : 0 < (crH F A n T (F 0 11)).length
        · have f862 := f86 cf
          rw [← f862] at hr1 hr2 hr3 hr4 hb1 hcbo
          rw [show A6 86 0 + e - z = e + A6 86 0 - z by omega] at hr2 hr3 hr4 hcbo
          refine L_iload eX11_rhythm_77 rfl ?_
          refine V_iflt eX11_rhythm_79 (fun h79 => ?_) (fun h79 => ?_)
          · refine V_iconst eX11_rhythm_89 ?_
            exact V_ireturn eX11_rhythm_90 ((by first | (exfalso; omega) | exact fi _ (by omega)))
          · refine L_aload_n eX11_rhythm_82 rfl ?_
            refine L_get eX11_rhythm_83 f_X11_326.g rfl rfl ?_
            refine V_ifne eX11_rhythm_86 (fun h86 => ?_) (fun h86 => ?_)
            · refine L_iload_n eX11_rhythm_91 rfl ?_
              refine L_aload_n eX11_rhythm_92 rfl ?_
              refine L_getR (r := 86) eX11_rhythm_93 f_X11_75.g rfl rfl (by decide) ?_
              refine V_iconst eX11_rhythm_96 ?_
              refine L_iald eX11_rhythm_97 rfl ?_
              refine V_iadd eX11_rhythm_98 ?_
              refine L_iload eX11_rhythm_99 rfl ?_
              refine V_isub eX11_rhythm_101 ?_
              refine L_istore eX11_rhythm_102 (s_6 rfl rfl) ?_
              refine L_iload eX11_rhythm_104 rfl ?_
              refine V_i2l eX11_rhythm_106 ?_
              refine L_lconst0 eX11_rhythm_107 ?_
              refine L_ldc2 eX11_rhythm_108 k_X11_392 ?_
              refine C_s1 (p_X11_in (by omega) (by omega) (by omega)) v_X11_152 eX11_rhythm_111 rfl ?_
              refine V_ifeqB eX11_rhythm_114 (fun h114 => ?_) (fun h114 => ?_)
              · refine V_iconst eX11_rhythm_133 ?_
                exact V_ireturn eX11_rhythm_134 ((by first | (exfalso; omega) | exact fi _ (by omega)))
              · refine L_aload_n eX11_rhythm_117 rfl ?_
                refine L_iload eX11_rhythm_118 rfl ?_
                refine C_v1 (hcl _ (by omega)) v_X11_397 eX11_rhythm_120 rfl rfl ?_
                refine L_iload eX11_rhythm_123 rfl ?_
                refine V_icmplt eX11_rhythm_125 (fun h125 => ?_) (fun h125 => ?_)
                · refine V_iconst eX11_rhythm_133 ?_
                  exact V_ireturn eX11_rhythm_134 ((by first | (exfalso; omega) | exact fi _ (by omega)))
                · refine L_iload eX11_rhythm_128 rfl ?_
                  refine V_goto eX11_rhythm_130 ?_
                  exact V_ireturn eX11_rhythm_134 ((by first | (exfalso; omega) | exact fi _ (by omega)))
            · refine V_iconst eX11_rhythm_89 ?_
              exact V_ireturn eX11_rhythm_90 ((by first | (exfalso; omega) | exact fi _ (by omega)))
        · refine L_iload eX11_rhythm_77 rfl ?_
          refine V_iflt eX11_rhythm_79 (fun h79 => ?_) (fun h79 => ?_)
          · refine V_iconst eX11_rhythm_89 ?_
            exact V_ireturn eX11_rhythm_90 ((by first | (exfalso; omega) | exact fi _ (by omega)))
          · refine L_aload_n eX11_rhythm_82 rfl ?_
            refine L_get eX11_rhythm_83 f_X11_326.g rfl rfl ?_
            refine V_ifne eX11_rhythm_86 (fun h86 => ?_) (fun h86 => ?_)
            · (exfalso; omega)
            · refine V_iconst eX11_rhythm_89 ?_
              exact V_ireturn eX11_rhythm_90 ((by first | (exfalso; omega) | exact fi _ (by omega)))
      have go : V G mX11_rhythm Q 0 0 39 [some (.ref 66), some (vi d), some (vi g), some (vi e), some (vi c), none, none] [] (sw F2 A2) := by
        refine L_aload_n eX11_rhythm_39 rfl ?_
        refine L_iload_n eX11_rhythm_40 rfl ?_
        refine C_v0 (hM G) v_X11_311 eX11_rhythm_41 rfl rfl ?_
        refine L_aload_n eX11_rhythm_44 rfl ?_
        refine C_v0 (hK G) v_X11_334 eX11_rhythm_45 rfl rfl ?_
        refine L_aload_n eX11_rhythm_48 rfl ?_
        refine L_get eX11_rhythm_49 f_X11_326.g rfl rfl ?_
        refine V_ifle eX11_rhythm_52 (fun h2 => ?_) (fun h2 => ?_)
        · refine V_iconst eX11_rhythm_64 ?_
          refine L_istore eX11_rhythm_65 (s_5 rfl rfl) ?_
          exact fin _ (by omega)
        · refine L_aload_n eX11_rhythm_55 rfl ?_
          refine L_getR (r := 86) eX11_rhythm_56 f_X11_75.g rfl rfl (by decide) ?_
          refine V_iconst eX11_rhythm_59 ?_
          refine L_iald eX11_rhythm_60 rfl ?_
          refine V_goto eX11_rhythm_61 ?_
          refine L_istore eX11_rhythm_65 (s_5 rfl rfl) ?_
          exact fin _ (e86 (by omega))
      refine L_iload_n eX11_rhythm_0 rfl ?_
      refine L_iload_n eX11_rhythm_1 rfl ?_
      refine C_s1 (p_X11_isTwo (by omega) (by omega)) v_X11_389 eX11_rhythm_2 rfl ?_
      refine V_ifeqB eX11_rhythm_5 (fun h5 => ?_) (fun h5 => ?_)
      · (exfalso; omega)
      · refine L_iload_n eX11_rhythm_8 rfl ?_
        refine V_i2l eX11_rhythm_9 ?_
        refine L_ldc2 eX11_rhythm_10 k_X11_400 ?_
        refine L_ldc2 eX11_rhythm_13 k_X11_402 ?_
        refine C_s1 (p_X11_in (by omega) (by omega) (by omega)) v_X11_152 eX11_rhythm_16 rfl ?_
        refine V_ifeqB eX11_rhythm_19 (fun h19 => ?_) (fun h19 => ?_)
        · (exfalso; omega)
        · refine L_iload eX11_rhythm_22 rfl ?_
          refine V_i2l eX11_rhythm_24 ?_
          refine L_lconst0 eX11_rhythm_25 ?_
          refine L_ldc2 eX11_rhythm_26 k_X11_385 ?_
          refine C_s1 (p_X11_in (by omega) (by omega) (by omega)) v_X11_152 eX11_rhythm_29 rfl ?_
          refine V_ifneB eX11_rhythm_32 (fun h32 => ?_) (fun h32 => ?_)
          · exact go
          · (exfalso; omega)
  · refine Pr.w ⟨vi (-1002), F, A, F, A, fun G => ?_, fun G => ?_, h, ty_v⟩
    · refine L_ent [some (.ref 0), some (vi d), some (vi g), some (vi e), some (vi c), none, none, none, none] rfl ?_
      refine L_iload_n eX10_rhythm_0 rfl ?_
      refine V_iconst eX10_rhythm_1 ?_
      refine C_s1 (p_X10_isPlace (by omega) (by omega)) v_X10_248 eX10_rhythm_2 rfl ?_
      refine V_ifeqB eX10_rhythm_5 (fun h5 => ?_) (fun h5 => ?_)
      · refine L_sipush eX10_rhythm_27 rfl ?_
        exact V_ireturn eX10_rhythm_30 ((by first | (exfalso; omega) | exact ⟨rfl, rfl⟩))
      · refine L_iload_n eX10_rhythm_8 rfl ?_
        refine C_s1 (p_X10_isGiven (by omega)) v_X10_169 eX10_rhythm_9 rfl ?_
        refine V_ifeqB eX10_rhythm_12 (fun h12 => ?_) (fun h12 => ?_)
        · refine L_sipush eX10_rhythm_27 rfl ?_
          exact V_ireturn eX10_rhythm_30 ((by first | (exfalso; omega) | exact ⟨rfl, rfl⟩))
        · refine L_iload_n eX10_rhythm_15 rfl ?_
          refine L_bipush eX10_rhythm_16 rfl ?_
          refine V_icmplt eX10_rhythm_18 (fun h18 => ?_) (fun h18 => ?_)
          · refine L_sipush eX10_rhythm_27 rfl ?_
            exact V_ireturn eX10_rhythm_30 ((by first | (exfalso; omega) | exact ⟨rfl, rfl⟩))
          · refine L_iload_n eX10_rhythm_21 rfl ?_
            refine L_bipush eX10_rhythm_22 rfl ?_
            refine V_icmple eX10_rhythm_24 (fun h24 => ?_) (fun h24 => ?_)
            · refine L_iload eX10_rhythm_31 rfl ?_
              refine V_iflt eX10_rhythm_33 (fun h33 => ?_) (fun h33 => ?_)
              · refine L_sipush eX10_rhythm_44 rfl ?_
                exact V_ireturn eX10_rhythm_47 ((by first | (exfalso; omega) | exact ⟨rfl, rfl⟩))
              · refine L_iload eX10_rhythm_36 rfl ?_
                refine L_sipush eX10_rhythm_38 rfl ?_
                refine V_icmple eX10_rhythm_41 (fun h41 => ?_) (fun h41 => ?_)
                · (exfalso; omega)
                · refine L_sipush eX10_rhythm_44 rfl ?_
                  exact V_ireturn eX10_rhythm_47 ((by first | (exfalso; omega) | exact ⟨rfl, rfl⟩))
            · refine L_sipush eX10_rhythm_27 rfl ?_
              exact V_ireturn eX10_rhythm_30 ((by first | (exfalso; omega) | exact ⟨rfl, rfl⟩))
    · refine L_ent [some (.ref 66), some (vi d), some (vi g), some (vi e), some (vi c), none, none] rfl ?_
      refine L_iload_n eX11_rhythm_0 rfl ?_
      refine L_iload_n eX11_rhythm_1 rfl ?_
      refine C_s1 (p_X11_isTwo (by omega) (by omega)) v_X11_389 eX11_rhythm_2 rfl ?_
      refine V_ifeqB eX11_rhythm_5 (fun h5 => ?_) (fun h5 => ?_)
      · refine L_sipush eX11_rhythm_35 rfl ?_
        exact V_ireturn eX11_rhythm_38 ((by first | (exfalso; omega) | exact ⟨rfl, rfl⟩))
      · refine L_iload_n eX11_rhythm_8 rfl ?_
        refine V_i2l eX11_rhythm_9 ?_
        refine L_ldc2 eX11_rhythm_10 k_X11_400 ?_
        refine L_ldc2 eX11_rhythm_13 k_X11_402 ?_
        refine C_s1 (p_X11_in (by omega) (by omega) (by omega)) v_X11_152 eX11_rhythm_16 rfl ?_
        refine V_ifeqB eX11_rhythm_19 (fun h19 => ?_) (fun h19 => ?_)
        · refine L_sipush eX11_rhythm_35 rfl ?_
          exact V_ireturn eX11_rhythm_38 ((by first | (exfalso; omega) | exact ⟨rfl, rfl⟩))
        · refine L_iload eX11_rhythm_22 rfl ?_
          refine V_i2l eX11_rhythm_24 ?_
          refine L_lconst0 eX11_rhythm_25 ?_
          refine L_ldc2 eX11_rhythm_26 k_X11_385 ?_
          refine C_s1 (p_X11_in (by omega) (by omega) (by omega)) v_X11_152 eX11_rhythm_29 rfl ?_
          refine V_ifneB eX11_rhythm_32 (fun h32 => ?_) (fun h32 => ?_)
          · (exfalso; omega)
          · refine L_sipush eX11_rhythm_35 rfl ?_
            exact V_ireturn eX11_rhythm_38 ((by first | (exfalso; omega) | exact ⟨rfl, rfl⟩))
end P83

