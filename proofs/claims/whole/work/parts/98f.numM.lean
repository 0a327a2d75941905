section P98f
variable {F : fT} {A : nT} {n a f lo hi : Int} {j : Nat}
theorem m_takeNumber_f {s : Int} (hb : 0 ≤ F 66 20 ∧ F 66 20 ≤ 9) (hf : F 66 20 ≠ 0) : ∀ G : gT, Mu G mX11_takeNumber [.ref 66, vi lo, vi hi, vi s] F A (some (vi 0)) F A := by
  intro G
  refine L_ent [some (.ref 66), some (vi lo), some (vi hi), some (vi s), none, none, none, none, none, none] rfl ?_
  refine L_aload_n eX11_takeNumber_0 rfl ?_
  refine L_get eX11_takeNumber_1 f_X11_164.g rfl rfl ?_
  -- at 4: .ifCond .le 5
  refine V_ifle eX11_takeNumber_4 (fun h2 => ?_) (fun h2 => ?_)
  · omega
  · refine V_iconst eX11_takeNumber_7 ?_
    -- at 8: .ireturn
    exact V_ireturn eX11_takeNumber_8 ⟨rfl, rfl⟩
theorem m_takeNumber {s : Int} {sg : Bool} (hs : s = 0 ∧ sg = false ∨ s = 1 ∧ sg = true) (hT : txT n (A 73)) (hn : F 66 16 = n) (ha : F 66 17 = a) (hab : 0 ≤ a ∧ a ≤ n) (hk : F 66 20 = 0) (hlo : -1000 ≤ lo ∧ lo ≤ 1000) (hhi : -1000 ≤ hi ∧ hi ≤ 1000) : ∃ F1 v, (∀ G : gT, Mu G mX11_takeNumber [.ref 66, vi lo, vi hi, vi s] F A (some (vi v)) F1 A) ∧ fr66 F F1 ∧ (0 ≤ F1 66 17 ∧ F1 66 17 ≤ n) ∧ F1 66 18 = skp (A 73) n a ∧ (-9999 ≤ v ∧ v ≤ 9999) ∧ nmK (nmR (A 73) n sg lo hi a) v (F1 66 17) (F1 66 20) (F1 66 21) (F 66 21) := by
  have hn1 := hT.1
  have hq := skp_m (A := A) hab
  have hHr := fun (G : gT) => p_X11_here (G := G) (F := F) hT hn ha hab
  generalize eq : skp (A 73) n a = q at *
  have hc := chA_b (q := q) hT (by omega)
  obtain ⟨f, ef⟩ : ∃ f, nmF (A 73) n sg q = f := ⟨_, rfl⟩
  have hf : f = q ∧ ¬ (s = 1 ∧ chA (A 73) n q = 45) ∨ f = q + 1 ∧ (s = 1 ∧ chA (A 73) n q = 45) := by
    rw [← ef]
    unfold nmF
    by_cases c : sg = true ∧ chA (A 73) n q = 45
    · rw [if_pos c]
      refine Or.inr ⟨rfl, ?_, c.2⟩
      rcases hs with x | x
      · rw [x.2] at c; exact absurd c.1 (by decide)
      · exact x.1
    · rw [if_neg c]
      refine Or.inl ⟨rfl, fun w => c ⟨?_, w.2⟩⟩
      rcases hs with x | x
      · omega
      · exact x.2
  have hfn : f ≤ n := by
    rcases hf with x | x
    · omega
    · have := hc.2.2 (by omega); omega
  have he : f ≤ drn (A 73) n f ∧ drn (A 73) n f ≤ n := rn_ge hfn
  have hst : ¬ (drn (A 73) n f < n ∧ isDg (A 73 (drn (A 73) n f)) = true) := rn_stop hfn
  have hdg := dg_in (T := A 73) (n := n) (f := f) (by omega)
  have hdv := fun (k : Nat) (hk : (k : Int) ≤ drn (A 73) n f - f) => dvl_b (T := A 73) (p := f) k (fun i x y => hdg i x (by omega))
  have hdr : ∀ p : Int, f ≤ p → p < drn (A 73) n f → isDg (A 73 p) = true := fun p x y => rn_in (P := isDg) (T := A 73) (n := n) (n - f).toNat f (by omega) p x y
  obtain ⟨F1, eF1⟩ : ∃ F1, F1 = uF (uF F 66 17 q) 66 18 q := ⟨_, rfl⟩
  have w16 : F1 66 16 = n := by rw [eF1, uF_ne (by decide), uF_ne (by decide)]; exact hn
  have w17 : F1 66 17 = q := by rw [eF1, uF_ne (by decide), uF_eq]
  have w18 : F1 66 18 = q := by rw [eF1, uF_eq]
  have w20 : F1 66 20 = 0 := by rw [eF1, uF_ne (by decide), uF_ne (by decide)]; exact hk
  have w21 : F1 66 21 = F 66 21 := by rw [eF1, uF_ne (by decide), uF_ne (by decide)]
  have wf : fr66 F F1 := fun o k x => by rw [eF1, uF_ne (by omega), uF_ne (by omega)]
  have g17 : uF F 66 17 q 66 17 = q := uF_eq
  -- until the figures
  have beg : ∀ (G : gT) (Q : Option Value → wT → Prop), V G mX11_takeNumber Q 0 0 53 [some (.ref 66), some (vi lo), some (vi hi), some (vi s), some (vi (chA (A 73) n q)), some (vi (f - q)), some (vi f), none, none, none] [] (sw F1 A) → V G mX11_takeNumber Q 0 0 0 [some (.ref 66), some (vi lo), some (vi hi), some (vi s), none, none, none, none, none, none] [] (sw F A) := fun G Q hv => by
    have one : ∀ z : Int, z = f - q → V G mX11_takeNumber Q 0 0 39 [some (.ref 66), some (vi lo), some (vi hi), some (vi s), some (vi (chA (A 73) n q)), none, none, none, none, none] [vi z] (sw F1 A) := fun z ez => by
      refine L_istore eX11_takeNumber_39 (s_5 rfl rfl) ?_
      refine L_aload_n eX11_takeNumber_41 rfl ?_
      refine L_get eX11_takeNumber_42 f_X11_161.g rfl rfl ?_
      rw [w17]
      refine L_iload eX11_takeNumber_45 rfl ?_
      refine C_s1 (p_X11_oneI (by omega)) v_X11_181 eX11_takeNumber_47 rfl ?_
      refine V_iadd eX11_takeNumber_50 ?_
      refine L_istore eX11_takeNumber_51 (s_6 rfl rfl) ?_
      rw [ez, show q + (f - q) = f by omega]
      exact hv
    refine L_aload_n eX11_takeNumber_0 rfl ?_
    refine L_get eX11_takeNumber_1 f_X11_164.g rfl rfl ?_
    -- at 4: .ifCond .le 5
    refine V_ifle eX11_takeNumber_4 (fun x1 => ?_) (fun x1 => ?_)
    · refine L_aload_n eX11_takeNumber_9 rfl ?_
      refine C_v1 (hHr G) v_X11_167 eX11_takeNumber_10 rfl rfl ?_
      refine L_istore eX11_takeNumber_13 (s_4 rfl rfl) ?_
      refine L_aload_n eX11_takeNumber_15 rfl ?_
      refine L_aload_n eX11_takeNumber_16 rfl ?_
      refine L_get eX11_takeNumber_17 f_X11_161.g rfl rfl ?_
      rw [g17]
      refine L_put eX11_takeNumber_20 f_X11_171 rfl rfl ?_
      rw [← eF1]
      refine L_iload_n eX11_takeNumber_23 rfl ?_
      -- at 24: .ifCond .eq 14
      refine V_ifeq eX11_takeNumber_24 (fun x2 => ?_) (fun x2 => ?_)
      · refine V_iconst eX11_takeNumber_38 ?_
        exact one 0 (by omega)
      · refine L_iload eX11_takeNumber_27 rfl ?_
        refine L_bipush eX11_takeNumber_29 rfl ?_
        -- at 31: .if_icmp .ne 7
        refine V_icmpne eX11_takeNumber_31 (fun x3 => ?_) (fun x3 => ?_)
        · refine V_iconst eX11_takeNumber_38 ?_
          exact one 0 (by omega)
        · refine V_iconst eX11_takeNumber_34 ?_
          refine V_goto eX11_takeNumber_35 ?_
          exact one 1 (by omega)
    · omega
  by_cases c0 : drn (A 73) n f = f
  · -- no figure
    refine ⟨uF (uF F1 66 20 1) 66 21 f, 0, fun G => ?_, wf.tr (fun o k x => by rw [uF_ne (by omega), uF_ne (by omega)]), by rw [uF_ne (by decide), uF_ne (by decide), w17]; omega, by rw [uF_ne (by decide), uF_ne (by decide)]; exact w18, by omega, ?_⟩
    · refine L_ent [some (.ref 66), some (vi lo), some (vi hi), some (vi s), none, none, none, none, none, none] rfl ?_
      refine beg G _ ?_
      rw [c0] at hst
      have fin : V G mX11_takeNumber (fun r' w => r' = some (vi 0) ∧ w = sw (uF (uF F1 66 20 1) 66 21 f) A) 0 0 86 [some (.ref 66), some (vi lo), some (vi hi), some (vi s), some (vi (chA (A 73) n q)), some (vi (f - q)), some (vi f), none, none, none] [] (sw F1 A) := by
        refine V_iconst eX11_takeNumber_86 ?_
        refine L_istore eX11_takeNumber_87 (s_7 rfl rfl) ?_
        refine L_aload_n eX11_takeNumber_89 rfl ?_
        refine L_iload eX11_takeNumber_90 rfl ?_
        refine V_iconst eX11_takeNumber_92 ?_
        refine L_iload eX11_takeNumber_93 rfl ?_
        refine C_v1 (p_X11_want_bad w20 (by omega)) v_X11_189 eX11_takeNumber_95 rfl rfl ?_
        refine V_ifne eX11_takeNumber_98 (fun x => ?_) (fun x => ?_)
        · omega
        · refine V_iconst eX11_takeNumber_101 ?_
          -- at 102: .ireturn
          exact V_ireturn eX11_takeNumber_102 ⟨rfl, rfl⟩
      refine L_iload eX11_takeNumber_53 rfl ?_
      refine L_aload_n eX11_takeNumber_55 rfl ?_
      refine L_get eX11_takeNumber_56 f_X11_156.g rfl rfl ?_
      -- at 59: .if_icmp .ge 27
      refine V_icmpge eX11_takeNumber_59 (fun x1 => ?_) (fun x1 => ?_)
      · exact fin
      · have hb := hT.2 f (by omega) (by omega)
        refine L_aload_n eX11_takeNumber_62 rfl ?_
        refine L_getR (r := 73) eX11_takeNumber_63 f_X11_28.g rfl rfl (by decide) ?_
        refine L_iload eX11_takeNumber_66 rfl ?_
        refine L_iald eX11_takeNumber_68 rfl ?_
        refine V_i2l eX11_takeNumber_69 ?_
        refine L_ldc2 eX11_takeNumber_70 k_X11_185 ?_
        refine L_ldc2 eX11_takeNumber_73 k_X11_187 ?_
        refine C_s1 (p_X11_in (by omega) (by omega) (by omega)) v_X11_152 eX11_takeNumber_76 rfl ?_
        -- at 79: .ifCond .eq 7
        refine V_ifeqB eX11_takeNumber_79 (fun x2 => ?_) (fun x2 => ?_)
        · exact fin
        · exact absurd ⟨by omega, isDg_i.mpr x2⟩ hst
    · unfold nmR
      rw [eq, ef]
      unfold nmG
      rw [if_pos c0]
      exact Or.inr ⟨(show (1 : Int) ≤ 1 by decide), (show (1 : Int) ≤ 2 by decide), by rw [uF_ne (by decide), uF_eq], by rw [uF_eq]⟩
  · generalize eE : drn (A 73) n f = e at *
    have hd0 := isDg_i.mp (hdr f (by omega) (by omega))
    have hb0 := hT.2 f (by omega) (by omega)
    -- the value
    obtain ⟨v, hvb, hv3, hV⟩ : ∃ v : Int, (0 ≤ v ∧ v ≤ 9999) ∧ (e - f ≤ 3 → v = dvl (A 73) f (e - f).toNat) ∧ ∀ (G : gT) (Q : Option Value → wT → Prop), V G mX11_takeNumber Q 0 0 191 [some (.ref 66), some (vi lo), some (vi hi), some (vi s), some (vi (chA (A 73) n q)), some (vi (f - q)), some (vi f), some (vi 1), some (vi v), none] [] (sw (uF F1 66 17 e) A) → V G mX11_takeNumber Q 0 0 53 [some (.ref 66), some (vi lo), some (vi hi), some (vi s), some (vi (chA (A 73) n q)), some (vi (f - q)), some (vi f), none, none, none] [] (sw F1 A) := by
      have LP : ∀ (r : Nat) (p : Int) (v : Int), p + r = e → f ≤ p → (0 ≤ v ∧ v ≤ 9999) → (p - f ≤ 3 → v = dvl (A 73) f (p - f).toNat) → ∃ v' : Int, (0 ≤ v' ∧ v' ≤ 9999) ∧ (e - f ≤ 3 → v' = dvl (A 73) f (e - f).toNat) ∧ ∀ (G : gT) (Q : Option Value → wT → Prop), V G mX11_takeNumber Q 0 0 191 [some (.ref 66), some (vi lo), some (vi hi), some (vi s), some (vi (chA (A 73) n q)), some (vi (f - q)), some (vi f), some (vi 1), some (vi v'), none] [] (sw (uF F1 66 17 e) A) → V G mX11_takeNumber Q 0 0 112 [some (.ref 66), some (vi lo), some (vi hi), some (vi s), some (vi (chA (A 73) n q)), some (vi (f - q)), some (vi f), some (vi 1), some (vi v), none] [] (sw (uF F1 66 17 p) A) := by
        intro r
        induction r with
        | zero =>
          intro p v e1 e2 e3 e4
          have ep : p = e := by omega
          subst ep
          refine ⟨v, e3, e4, fun G Q hv => ?_⟩
          have g2 : uF F1 66 17 p 66 17 = p := uF_eq
          have g1 : uF F1 66 17 p 66 16 = n := by rw [uF_ne (by decide)]; exact w16
          refine L_aload_n eX11_takeNumber_112 rfl ?_
          refine L_get eX11_takeNumber_113 f_X11_161.g rfl rfl ?_
          refine L_aload_n eX11_takeNumber_116 rfl ?_
          refine L_get eX11_takeNumber_117 f_X11_156.g rfl rfl ?_
          -- at 120: .if_icmp .ge 71
          refine V_icmpge eX11_takeNumber_120 (fun x1 => ?_) (fun x1 => ?_)
          · exact hv
          · have hb := hT.2 p (by omega) (by omega)
            refine L_aload_n eX11_takeNumber_123 rfl ?_
            refine L_getR (r := 73) eX11_takeNumber_124 f_X11_28.g rfl rfl (by decide) ?_
            refine L_aload_n eX11_takeNumber_127 rfl ?_
            refine L_get eX11_takeNumber_128 f_X11_161.g rfl rfl ?_
            rw [g2]
            refine L_iald eX11_takeNumber_131 rfl ?_
            refine V_i2l eX11_takeNumber_132 ?_
            refine L_ldc2 eX11_takeNumber_133 k_X11_185 ?_
            refine L_ldc2 eX11_takeNumber_136 k_X11_187 ?_
            refine C_s1 (p_X11_in (by omega) (by omega) (by omega)) v_X11_152 eX11_takeNumber_139 rfl ?_
            -- at 142: .ifCond .eq 49
            refine V_ifeqB eX11_takeNumber_142 (fun x2 => ?_) (fun x2 => ?_)
            · exact hv
            · exact absurd ⟨by omega, isDg_i.mpr x2⟩ hst
        | succ r ih =>
          intro p v e1 e2 e3 e4
          have hb := hT.2 p (by omega) (by omega)
          have hd := isDg_i.mp (hdr p e2 (by omega))
          have g2 : uF F1 66 17 p 66 17 = p := uF_eq
          have g1 : uF F1 66 17 p 66 16 = n := by rw [uF_ne (by decide)]; exact w16
          obtain ⟨v2, ev2, hv2, h23⟩ : ∃ v2 : Int, (v2 = if v ≤ 999 then 10 * v + A 73 p - 48 else v) ∧ (0 ≤ v2 ∧ v2 ≤ 9999) ∧ (p + 1 - f ≤ 3 → v2 = dvl (A 73) f (p + 1 - f).toNat) := by
            refine ⟨_, rfl, ?_, fun w => ?_⟩
            · by_cases c : v ≤ 999
              · rw [if_pos c]; omega
              · rw [if_neg c]; omega
            · have hvv := e4 (by omega)
              have hdb := (hdv (p - f).toNat (by omega)).2.1 (by omega)
              rw [if_pos (by omega), show (p + 1 - f).toNat = (p - f).toNat + 1 by omega, dvl, ← hvv, show f + (((p - f).toNat : Nat) : Int) = p by omega]
              omega
          obtain ⟨v', q1, q2, q3⟩ := ih (p + 1) v2 (by omega) (by omega) hv2 h23
          refine ⟨v', q1, q2, fun G Q hv => ?_⟩
          have nx : V G mX11_takeNumber Q 0 0 178 [some (.ref 66), some (vi lo), some (vi hi), some (vi s), some (vi (chA (A 73) n q)), some (vi (f - q)), some (vi f), some (vi 1), some (vi v2), none] [] (sw (uF F1 66 17 p) A) := by
            refine L_aload_n eX11_takeNumber_178 rfl ?_
            refine L_dup eX11_takeNumber_179 ?_
            refine L_get eX11_takeNumber_180 f_X11_161.g rfl rfl ?_
            refine V_iconst eX11_takeNumber_183 ?_
            refine V_iadd eX11_takeNumber_184 ?_
            refine L_put eX11_takeNumber_185 f_X11_161 rfl rfl ?_
            refine V_goto eX11_takeNumber_188 ?_
            rw [uF_eq, uF_uF]
            exact q3 G Q hv
          refine L_aload_n eX11_takeNumber_112 rfl ?_
          refine L_get eX11_takeNumber_113 f_X11_161.g rfl rfl ?_
          refine L_aload_n eX11_takeNumber_116 rfl ?_
          refine L_get eX11_takeNumber_117 f_X11_156.g rfl rfl ?_
          -- at 120: .if_icmp .ge 71
          refine V_icmpge eX11_takeNumber_120 (fun x1 => ?_) (fun x1 => ?_)
          · omega
          · refine L_aload_n eX11_takeNumber_123 rfl ?_
            refine L_getR (r := 73) eX11_takeNumber_124 f_X11_28.g rfl rfl (by decide) ?_
            refine L_aload_n eX11_takeNumber_127 rfl ?_
            refine L_get eX11_takeNumber_128 f_X11_161.g rfl rfl ?_
            rw [g2]
            refine L_iald eX11_takeNumber_131 rfl ?_
            refine V_i2l eX11_takeNumber_132 ?_
            refine L_ldc2 eX11_takeNumber_133 k_X11_185 ?_
            refine L_ldc2 eX11_takeNumber_136 k_X11_187 ?_
            refine C_s1 (p_X11_in (by omega) (by omega) (by omega)) v_X11_152 eX11_takeNumber_139 rfl ?_
            -- at 142: .ifCond .eq 49
            refine V_ifeqB eX11_takeNumber_142 (fun x2 => ?_) (fun x2 => ?_)
            · omega
            · refine L_iload eX11_takeNumber_145 rfl ?_
              refine L_sipush eX11_takeNumber_147 rfl ?_
              -- at 150: .if_icmp .le 8
              refine V_icmple eX11_takeNumber_150 (fun x3 => ?_) (fun x3 => ?_)
              · rw [if_pos x3] at ev2
                refine L_bipush eX11_takeNumber_158 rfl ?_
                refine L_iload eX11_takeNumber_160 rfl ?_
                refine V_imul eX11_takeNumber_162 ?_
                refine L_aload_n eX11_takeNumber_163 rfl ?_
                refine L_getR (r := 73) eX11_takeNumber_164 f_X11_28.g rfl rfl (by decide) ?_
                refine L_aload_n eX11_takeNumber_167 rfl ?_
                refine L_get eX11_takeNumber_168 f_X11_161.g rfl rfl ?_
                rw [g2]
                refine L_iald eX11_takeNumber_171 rfl ?_
                refine V_iadd eX11_takeNumber_172 ?_
                refine L_bipush eX11_takeNumber_173 rfl ?_
                refine V_isub eX11_takeNumber_175 ?_
                refine L_istore eX11_takeNumber_176 (s_8 rfl rfl) ?_
                rw [← ev2]
                exact nx
              · rw [if_neg x3] at ev2
                refine L_iload eX11_takeNumber_153 rfl ?_
                refine V_goto eX11_takeNumber_155 ?_
                refine L_istore eX11_takeNumber_176 (s_8 rfl rfl) ?_
                rw [← ev2]
                exact nx
      obtain ⟨v, q1, q2, q3⟩ := LP (e - f).toNat f 0 (by omega) (by omega) (by omega) (fun _ => by rw [show (f - f).toNat = 0 by omega]; rfl)
      refine ⟨v, q1, q2, fun G Q hv => ?_⟩
      refine L_iload eX11_takeNumber_53 rfl ?_
      refine L_aload_n eX11_takeNumber_55 rfl ?_
      refine L_get eX11_takeNumber_56 f_X11_156.g rfl rfl ?_
      -- at 59: .if_icmp .ge 27
      refine V_icmpge eX11_takeNumber_59 (fun x1 => ?_) (fun x1 => ?_)
      · omega
      · refine L_aload_n eX11_takeNumber_62 rfl ?_
        refine L_getR (r := 73) eX11_takeNumber_63 f_X11_28.g rfl rfl (by decide) ?_
        refine L_iload eX11_takeNumber_66 rfl ?_
        refine L_iald eX11_takeNumber_68 rfl ?_
        refine V_i2l eX11_takeNumber_69 ?_
        refine L_ldc2 eX11_takeNumber_70 k_X11_185 ?_
        refine L_ldc2 eX11_takeNumber_73 k_X11_187 ?_
        refine C_s1 (p_X11_in (by omega) (by omega) (by omega)) v_X11_152 eX11_takeNumber_76 rfl ?_
        -- at 79: .ifCond .eq 7
        refine V_ifeqB eX11_takeNumber_79 (fun x2 => ?_) (fun x2 => ?_)
        · omega
        · refine V_iconst eX11_takeNumber_82 ?_
          refine V_goto eX11_takeNumber_83 ?_
          refine L_istore eX11_takeNumber_87 (s_7 rfl rfl) ?_
          refine L_aload_n eX11_takeNumber_89 rfl ?_
          refine L_iload eX11_takeNumber_90 rfl ?_
          refine V_iconst eX11_takeNumber_92 ?_
          refine L_iload eX11_takeNumber_93 rfl ?_
          refine C_v1 (p_X11_want_ok (by omega)) v_X11_189 eX11_takeNumber_95 rfl rfl ?_
          rw [if_pos w20]
          refine V_ifne eX11_takeNumber_98 (fun x => ?_) (fun x => ?_)
          · refine L_aload_n eX11_takeNumber_103 rfl ?_
            refine L_iload eX11_takeNumber_104 rfl ?_
            refine L_put eX11_takeNumber_106 f_X11_161 rfl rfl ?_
            refine V_iconst eX11_takeNumber_109 ?_
            refine L_istore eX11_takeNumber_110 (s_8 rfl rfl) ?_
            exact q3 G Q hv
          · omega
    -- the end
    obtain ⟨z, ez⟩ : ∃ z : Int, z = if f = q then v else 0 - v := ⟨_, rfl⟩
    have hzb : -9999 ≤ z ∧ z ≤ 9999 := by
      rw [ez]
      by_cases c : f = q
      · rw [if_pos c]; omega
      · rw [if_neg c]; omega
    have k16 : uF F1 66 17 e 66 17 = e := uF_eq
    have k18 : uF F1 66 17 e 66 18 = q := by rw [uF_ne (by decide)]; exact w18
    have k20 : uF F1 66 17 e 66 20 = 0 := by rw [uF_ne (by decide)]; exact w20
    have k21 : uF F1 66 17 e 66 21 = F 66 21 := by rw [uF_ne (by decide)]; exact w21
    have kf : fr66 F (uF F1 66 17 e) := wf.tr (fun o k x => uF_ne (by omega))
    have sgn : ∀ (G : gT) (Q : Option Value → wT → Prop), V G mX11_takeNumber Q 0 0 207 [some (.ref 66), some (vi lo), some (vi hi), some (vi s), some (vi (chA (A 73) n q)), some (vi (f - q)), some (vi f), some (vi 1), some (vi z), none] [] (sw (uF F1 66 17 e) A) → V G mX11_takeNumber Q 0 0 191 [some (.ref 66), some (vi lo), some (vi hi), some (vi s), some (vi (chA (A 73) n q)), some (vi (f - q)), some (vi f), some (vi 1), some (vi v), none] [] (sw (uF F1 66 17 e) A) := fun G Q hv => by
      refine L_iload eX11_takeNumber_191 rfl ?_
      -- at 193: .ifCond .eq 10
      refine V_ifeq eX11_takeNumber_193 (fun x1 => ?_) (fun x1 => ?_)
      · rw [if_pos (by omega)] at ez
        refine L_iload eX11_takeNumber_203 rfl ?_
        refine L_istore eX11_takeNumber_205 (s_8 rfl rfl) ?_
        rw [← ez]
        exact hv
      · rw [if_neg (by omega)] at ez
        refine V_iconst eX11_takeNumber_196 ?_
        refine L_iload eX11_takeNumber_197 rfl ?_
        refine V_isub eX11_takeNumber_199 ?_
        refine V_goto eX11_takeNumber_200 ?_
        refine L_istore eX11_takeNumber_205 (s_8 rfl rfl) ?_
        rw [← ez]
        exact hv
    have eVz : e - f ≤ 3 → nmV (A 73) n q f = z := fun w => by
      unfold nmV
      rw [eE, ← hv3 w, ez]
      by_cases c : f = q
      · rw [if_pos c, if_pos c]
      · rw [if_neg c, if_neg c]; omega
    by_cases c1 : e - f ≤ 3 ∧ lo ≤ z ∧ z ≤ hi
    · refine ⟨uF F1 66 17 e, z, fun G => ?_, kf, by rw [k16]; omega, k18, hzb, ?_⟩
      · refine L_ent [some (.ref 66), some (vi lo), some (vi hi), some (vi s), none, none, none, none, none, none] rfl ?_
        refine beg G _ (hV G _ (sgn G _ ?_))
        refine L_aload_n eX11_takeNumber_207 rfl ?_
        refine L_aload_n eX11_takeNumber_208 rfl ?_
        refine L_get eX11_takeNumber_209 f_X11_161.g rfl rfl ?_
        refine L_iload eX11_takeNumber_212 rfl ?_
        refine V_isub eX11_takeNumber_214 ?_
        refine V_iconst eX11_takeNumber_215 ?_
        refine V_icmpge eX11_takeNumber_216 (fun h216 => ?_) (fun h216 => ?_)
        · (exfalso; omega)
        · refine L_iload eX11_takeNumber_219 rfl ?_
          refine V_i2l eX11_takeNumber_221 ?_
          refine L_iload_n eX11_takeNumber_222 rfl ?_
          refine V_i2l eX11_takeNumber_223 ?_
          refine L_iload_n eX11_takeNumber_224 rfl ?_
          refine V_i2l eX11_takeNumber_225 ?_
          refine C_s1 (p_X11_in (by omega) (by omega) (by omega)) v_X11_152 eX11_takeNumber_226 rfl ?_
          refine V_ifeqB eX11_takeNumber_229 (fun h229 => ?_) (fun h229 => ?_)
          · (exfalso; omega)
          · refine V_iconst eX11_takeNumber_232 ?_
            refine V_goto eX11_takeNumber_233 ?_
            refine V_iconst eX11_takeNumber_237 ?_
            refine L_aload_n eX11_takeNumber_238 rfl ?_
            refine L_get eX11_takeNumber_239 f_X11_171.g rfl rfl ?_
            refine C_v1 (p_X11_want_ok (by omega)) v_X11_189 eX11_takeNumber_242 rfl rfl ?_
            refine L_istore eX11_takeNumber_245 (s_9 rfl rfl) ?_
            refine L_iload eX11_takeNumber_247 rfl ?_
            exact V_ireturn eX11_takeNumber_249 ((by first | (exfalso; omega) | exact ⟨rfl, rfl⟩))
      · unfold nmR
        rw [eq, ef]
        unfold nmG
        rw [eE, if_neg c0, eVz c1.1, if_neg (by omega)]
        exact Or.inl ⟨rfl, rfl, k16, k20, k21⟩
    · refine ⟨uF (uF (uF F1 66 17 e) 66 20 2) 66 21 q, z, fun G => ?_, kf.tr (fun o k x => by rw [uF_ne (by omega), uF_ne (by omega)]), by rw [uF_ne (by decide), uF_ne (by decide), k16]; omega, by rw [uF_ne (by decide), uF_ne (by decide)]; exact k18, hzb, ?_⟩
      · refine L_ent [some (.ref 66), some (vi lo), some (vi hi), some (vi s), none, none, none, none, none, none] rfl ?_
        refine beg G _ (hV G _ (sgn G _ ?_))
        refine L_aload_n eX11_takeNumber_207 rfl ?_
        refine L_aload_n eX11_takeNumber_208 rfl ?_
        refine L_get eX11_takeNumber_209 f_X11_161.g rfl rfl ?_
        refine L_iload eX11_takeNumber_212 rfl ?_
        refine V_isub eX11_takeNumber_214 ?_
        refine V_iconst eX11_takeNumber_215 ?_
        refine V_icmpge eX11_takeNumber_216 (fun h216 => ?_) (fun h216 => ?_)
        · refine V_iconst eX11_takeNumber_236 ?_
          refine V_iconst eX11_takeNumber_237 ?_
          refine L_aload_n eX11_takeNumber_238 rfl ?_
          refine L_get eX11_takeNumber_239 f_X11_171.g rfl rfl ?_
          rw [k18]; refine C_v1 (p_X11_want_bad k20 (by omega)) v_X11_189 eX11_takeNumber_242 rfl rfl ?_
          refine L_istore eX11_takeNumber_245 (s_9 rfl rfl) ?_
          refine L_iload eX11_takeNumber_247 rfl ?_
          exact V_ireturn eX11_takeNumber_249 ((by first | (exfalso; omega) | exact ⟨rfl, rfl⟩))
        · refine L_iload eX11_takeNumber_219 rfl ?_
          refine V_i2l eX11_takeNumber_221 ?_
          refine L_iload_n eX11_takeNumber_222 rfl ?_
          refine V_i2l eX11_takeNumber_223 ?_
          refine L_iload_n eX11_takeNumber_224 rfl ?_
          refine V_i2l eX11_takeNumber_225 ?_
          refine C_s1 (p_X11_in (by omega) (by omega) (by omega)) v_X11_152 eX11_takeNumber_226 rfl ?_
          refine V_ifeqB eX11_takeNumber_229 (fun h229 => ?_) (fun h229 => ?_)
          · refine V_iconst eX11_takeNumber_236 ?_
            refine V_iconst eX11_takeNumber_237 ?_
            refine L_aload_n eX11_takeNumber_238 rfl ?_
            refine L_get eX11_takeNumber_239 f_X11_171.g rfl rfl ?_
            rw [k18]; refine C_v1 (p_X11_want_bad k20 (by omega)) v_X11_189 eX11_takeNumber_242 rfl rfl ?_
            refine L_istore eX11_takeNumber_245 (s_9 rfl rfl) ?_
            refine L_iload eX11_takeNumber_247 rfl ?_
            exact V_ireturn eX11_takeNumber_249 ((by first | (exfalso; omega) | exact ⟨rfl, rfl⟩))
          · (exfalso; omega)
      · unfold nmR
        rw [eq, ef]
        unfold nmG
        rw [eE, if_neg c0]
        have hbad : 3 < e - f ∨ nmV (A 73) n q f < lo ∨ hi < nmV (A 73) n q f := by
          by_cases w : 3 < e - f
          · exact Or.inl w
          · have := eVz (by omega)
            omega
        rw [if_pos hbad]
        exact Or.inr ⟨(show (1 : Int) ≤ 2 by decide), (show (2 : Int) ≤ 2 by decide), by rw [uF_ne (by decide), uF_eq], by rw [uF_eq]⟩
end P98f

