/-! THE TEXT: numbers on both sides, the reference's words and signs -/
def fr66 (F F1 : fT) : Prop := ∀ o k, (o ≠ 66 ∨ k < 17 ∨ 21 < k) → F1 o k = F o k
theorem fr66.tr {F F1 F2 : fT} (h : fr66 F F1) (h2 : fr66 F1 F2) : fr66 F F2 := fun o k e => (h2 o k e).trans (h o k e)
section P98d
variable {F : fT} {A : nT} {n a f lo hi : Int} {j : Nat}
theorem dg_in {T : Int → Int} (hf : 0 ≤ f ∧ f ≤ n) : ∀ i : Int, 0 ≤ i → i < drn T n f - f → 48 ≤ T (f + i) ∧ T (f + i) ≤ 57 := fun i x y => by
  have := rn_in (P := isDg) (T := T) (n := n) (n - f).toNat f (by omega) (f + i) (by omega) (by unfold drn at y; omega)
  rw [isDg_i] at this
  exact this
theorem c_figs (hT : txT n (A 29)) (hn : F 28 1 = n) (hf2 : F 28 2 = f) (hf : 0 ≤ f ∧ f ≤ n) (hk : F 28 4 = 0) (hlo : -1000 ≤ lo ∧ lo ≤ 1000) (hhi : -1000 ≤ hi ∧ hi ≤ 1000) : ∃ F1, (∀ G : gT, Mu G mX7_readFigures [.ref 28, vi lo, vi hi] F A (some (vi (dvl (A 29) f (min (drn (A 29) n f - f).toNat 3)))) F1 A) ∧ fr28 F F1 ∧ F1 28 2 = drn (A 29) n f ∧ F1 28 3 = F 28 3 ∧ ((drn (A 29) n f = f ∧ F1 28 4 = 1 ∧ F1 28 5 = f) ∨ (drn (A 29) n f ≠ f ∧ (3 < drn (A 29) n f - f ∨ dvl (A 29) f (min (drn (A 29) n f - f).toNat 3) < lo ∨ hi < dvl (A 29) f (min (drn (A 29) n f - f).toNat 3)) ∧ F1 28 4 = 2 ∧ F1 28 5 = F 28 3) ∨ (drn (A 29) n f ≠ f ∧ ¬ (3 < drn (A 29) n f - f ∨ dvl (A 29) f (min (drn (A 29) n f - f).toNat 3) < lo ∨ hi < dvl (A 29) f (min (drn (A 29) n f - f).toNat 3)) ∧ F1 28 4 = 0 ∧ F1 28 5 = F 28 5)) := by
  have hn1 := hT.1
  have he : f ≤ drn (A 29) n f ∧ drn (A 29) n f ≤ n := rn_ge hf.2
  have hst : ¬ (drn (A 29) n f < n ∧ isDg (A 29 (drn (A 29) n f)) = true) := rn_stop hf.2
  have hdg := dg_in (T := A 29) hf
  have hdv := fun (k : Nat) (hk : (k : Int) ≤ drn (A 29) n f - f) => dvl_b (T := A 29) (p := f) k (fun i x y => hdg i x (by omega))
  have hdr : ∀ p : Int, f ≤ p → p < drn (A 29) n f → isDg (A 29 p) = true := fun p x y => rn_in (P := isDg) (T := A 29) (n := n) (n - f).toNat f (by omega) p x y
  generalize drn (A 29) n f = e at *
  have hv := hdv (min (e - f).toNat 3) (by omega)
  have hv3 := hv.2.1 (by omega)
  -- the figures
  have LOOP : ∀ (G : gT) (Q : Option Value → wT → Prop), V G mX7_readFigures Q 0 0 77 [some (.ref 28), some (vi lo), some (vi hi), some (vi f), some (vi (dvl (A 29) f (min (e - f).toNat 3)))] [] (sw (uF F 28 2 e) A) → ∀ (r : Nat) (p : Int), p + r = e → f ≤ p → V G mX7_readFigures Q 0 0 8 [some (.ref 28), some (vi lo), some (vi hi), some (vi f), some (vi (dvl (A 29) f (min (p - f).toNat 3)))] [] (sw (uF F 28 2 p) A) := by
    intro G Q fin r
    induction r with
    | zero =>
      intro p e1 e2
      have ep : p = e := by omega
      subst ep
      have g2 : uF F 28 2 p 28 2 = p := uF_eq
      have g1 : uF F 28 2 p 28 1 = n := by rw [uF_ne (by decide)]; exact hn
      refine L_aload_n eX7_readFigures_8 rfl ?_
      refine L_get eX7_readFigures_9 f_X7_19.g rfl rfl ?_
      refine L_aload_n eX7_readFigures_12 rfl ?_
      refine L_get eX7_readFigures_13 f_X7_15.g rfl rfl ?_
      -- at 16: .if_icmp .ge 61
      refine V_icmpge eX7_readFigures_16 (fun h2 => ?_) (fun h2 => ?_)
      · exact fin
      · have hb := hT.2 p (by omega) (by omega)
        refine L_aload_n eX7_readFigures_19 rfl ?_
        refine L_getR (r := 29) eX7_readFigures_20 f_X7_9.g rfl rfl (by decide) ?_
        refine L_aload_n eX7_readFigures_23 rfl ?_
        refine L_get eX7_readFigures_24 f_X7_19.g rfl rfl ?_
        rw [g2]
        refine L_iald eX7_readFigures_27 rfl ?_
        refine C_s1 (p_X7_isFigure hb) v_X7_70 eX7_readFigures_28 rfl ?_
        refine V_ifeqB eX7_readFigures_31 (fun h3 => ?_) (fun h3 => ?_)
        · exact fin
        · exact absurd ⟨by omega, h3⟩ hst
    | succ r ih =>
      intro p e1 e2
      have g2 : uF F 28 2 p 28 2 = p := uF_eq
      have g1 : uF F 28 2 p 28 1 = n := by rw [uF_ne (by decide)]; exact hn
      have hb := hT.2 p (by omega) (by omega)
      have hd := hdr p e2 (by omega)
      have hd2 := isDg_i.mp hd
      have hvp := hdv (min (p - f).toNat 3) (by omega)
      have hvp3 := hvp.2.1 (by omega)
      have nx : ∀ z : Int, z = dvl (A 29) f (min (p + 1 - f).toNat 3) → V G mX7_readFigures Q 0 0 64 [some (.ref 28), some (vi lo), some (vi hi), some (vi f), some (vi z)] [] (sw (uF F 28 2 p) A) := by
        intro z ez
        subst ez
        refine L_aload_n eX7_readFigures_64 rfl ?_
        refine L_dup eX7_readFigures_65 ?_
        refine L_get eX7_readFigures_66 f_X7_19.g rfl rfl ?_
        refine V_iconst eX7_readFigures_69 ?_
        refine V_iadd eX7_readFigures_70 ?_
        refine L_put eX7_readFigures_71 f_X7_19 rfl rfl ?_
        refine V_goto eX7_readFigures_74 ?_
        rw [uF_eq, uF_uF]
        exact ih (p + 1) (by omega) (by omega)
      refine L_aload_n eX7_readFigures_8 rfl ?_
      refine L_get eX7_readFigures_9 f_X7_19.g rfl rfl ?_
      refine L_aload_n eX7_readFigures_12 rfl ?_
      refine L_get eX7_readFigures_13 f_X7_15.g rfl rfl ?_
      -- at 16: .if_icmp .ge 61
      refine V_icmpge eX7_readFigures_16 (fun h2 => ?_) (fun h2 => ?_)
      · omega
      · refine L_aload_n eX7_readFigures_19 rfl ?_
        refine L_getR (r := 29) eX7_readFigures_20 f_X7_9.g rfl rfl (by decide) ?_
        refine L_aload_n eX7_readFigures_23 rfl ?_
        refine L_get eX7_readFigures_24 f_X7_19.g rfl rfl ?_
        rw [g2]
        refine L_iald eX7_readFigures_27 rfl ?_
        refine C_s1 (p_X7_isFigure hb) v_X7_70 eX7_readFigures_28 rfl ?_
        refine V_ifeqB eX7_readFigures_31 (fun h3 => ?_) (fun h3 => ?_)
        · exact absurd hd h3
        · refine L_aload_n eX7_readFigures_34 rfl ?_
          refine L_get eX7_readFigures_35 f_X7_19.g rfl rfl ?_
          refine L_iload_n eX7_readFigures_38 rfl ?_
          refine V_isub eX7_readFigures_39 ?_
          refine V_iconst eX7_readFigures_40 ?_
          -- at 41: .if_icmp .ge 23
          refine V_icmpge eX7_readFigures_41 (fun h4 => ?_) (fun h4 => ?_)
          · refine nx _ ?_
            rw [show min (p + 1 - f).toNat 3 = min (p - f).toNat 3 by omega]
          · refine L_iload eX7_readFigures_44 rfl ?_
            refine L_bipush eX7_readFigures_46 rfl ?_
            refine V_imul eX7_readFigures_48 ?_
            refine L_aload_n eX7_readFigures_49 rfl ?_
            refine L_getR (r := 29) eX7_readFigures_50 f_X7_9.g rfl rfl (by decide) ?_
            refine L_aload_n eX7_readFigures_53 rfl ?_
            refine L_get eX7_readFigures_54 f_X7_19.g rfl rfl ?_
            rw [g2]
            refine L_iald eX7_readFigures_57 rfl ?_
            refine V_iadd eX7_readFigures_58 ?_
            refine L_bipush eX7_readFigures_59 rfl ?_
            refine V_isub eX7_readFigures_61 ?_
            refine L_istore eX7_readFigures_62 (s_4 rfl rfl) ?_
            refine nx _ ?_
            rw [show min (p + 1 - f).toNat 3 = (p - f).toNat + 1 by omega, show min (p - f).toNat 3 = (p - f).toNat by omega, dvl, show f + (((p - f).toNat : Nat) : Int) = p by omega]
  have beg : ∀ (G : gT) (Q : Option Value → wT → Prop), V G mX7_readFigures Q 0 0 77 [some (.ref 28), some (vi lo), some (vi hi), some (vi f), some (vi (dvl (A 29) f (min (e - f).toNat 3)))] [] (sw (uF F 28 2 e) A) → V G mX7_readFigures Q 0 0 0 [some (.ref 28), some (vi lo), some (vi hi), none, none] [] (sw F A) := fun G Q fin => by
    refine L_aload_n eX7_readFigures_0 rfl ?_
    refine L_get eX7_readFigures_1 f_X7_19.g rfl rfl ?_
    rw [hf2]
    refine L_istore_n eX7_readFigures_4 (s_3 rfl rfl) ?_
    refine V_iconst eX7_readFigures_5 ?_
    refine L_istore eX7_readFigures_6 (s_4 rfl rfl) ?_
    have := LOOP G Q fin (e - f).toNat f (by omega) (by omega)
    rw [show min (f - f).toNat 3 = 0 by omega] at this
    rw [show uF F 28 2 f = F by rw [← hf2, uF_self]] at this
    exact this
  have g2 : uF F 28 2 e 28 2 = e := uF_eq
  have g3 : uF F 28 2 e 28 3 = F 28 3 := uF_ne (by decide)
  have g4 : uF F 28 2 e 28 4 = 0 := by rw [uF_ne (by decide)]; exact hk
  have g5 : uF F 28 2 e 28 5 = F 28 5 := uF_ne (by decide)
  have gf : fr28 F (uF F 28 2 e) := fun o k q => uF_ne (by omega)
  by_cases c1 : e = f
  · refine ⟨uF (uF (uF F 28 2 e) 28 4 1) 28 5 e, fun G => ?_, gf.tr (fun o k q => by rw [uF_ne (by omega), uF_ne (by omega)]), ?_, ?_, Or.inl ⟨c1, ?_, ?_⟩⟩
    · refine L_ent [some (.ref 28), some (vi lo), some (vi hi), none, none] rfl ?_
      refine beg G _ ?_
      refine L_aload_n eX7_readFigures_77 rfl ?_
      refine L_get eX7_readFigures_78 f_X7_19.g rfl rfl ?_
      refine L_iload_n eX7_readFigures_81 rfl ?_
      -- at 82: .if_icmp .ne 15
      refine V_icmpne eX7_readFigures_82 (fun h2 => ?_) (fun h2 => ?_)
      · omega
      · refine L_aload_n eX7_readFigures_85 rfl ?_
        refine V_iconst eX7_readFigures_86 ?_
        refine L_aload_n eX7_readFigures_87 rfl ?_
        refine L_get eX7_readFigures_88 f_X7_19.g rfl rfl ?_
        rw [g2]
        refine C_v0 (p_X7_blame g4) v_X7_45 eX7_readFigures_91 rfl rfl ?_
        refine V_goto eX7_readFigures_94 ?_
        refine L_iload eX7_readFigures_128 rfl ?_
        exact V_ireturn eX7_readFigures_130 ⟨rfl, rfl⟩
    · rw [uF_ne (by decide), uF_ne (by decide)]; exact g2
    · rw [uF_ne (by decide), uF_ne (by decide)]; exact g3
    · rw [uF_ne (by decide), uF_eq]
    · rw [uF_eq]; exact c1
  · by_cases c2 : 3 < e - f ∨ dvl (A 29) f (min (e - f).toNat 3) < lo ∨ hi < dvl (A 29) f (min (e - f).toNat 3)
    · refine ⟨uF (uF (uF F 28 2 e) 28 4 2) 28 5 (F 28 3), fun G => ?_, gf.tr (fun o k q => by rw [uF_ne (by omega), uF_ne (by omega)]), ?_, ?_, Or.inr (Or.inl ⟨c1, c2, ?_, ?_⟩)⟩
      · refine L_ent [some (.ref 28), some (vi lo), some (vi hi), none, none] rfl ?_
        refine beg G _ ?_
        generalize dvl (A 29) f (min (e - f).toNat 3) = v at *
        have bl : V G mX7_readFigures (fun r' w => r' = some (vi v) ∧ w = sw (uF (uF (uF F 28 2 e) 28 4 2) 28 5 (F 28 3)) A) 0 0 119 [some (.ref 28), some (vi lo), some (vi hi), some (vi f), some (vi v)] [] (sw (uF F 28 2 e) A) := by
          refine L_aload_n eX7_readFigures_119 rfl ?_
          refine V_iconst eX7_readFigures_120 ?_
          refine L_aload_n eX7_readFigures_121 rfl ?_
          refine L_get eX7_readFigures_122 f_X7_22.g rfl rfl ?_
          rw [g3]
          refine C_v0 (p_X7_blame g4) v_X7_45 eX7_readFigures_125 rfl rfl ?_
          refine L_iload eX7_readFigures_128 rfl ?_
          exact V_ireturn eX7_readFigures_130 ⟨rfl, rfl⟩
        refine L_aload_n eX7_readFigures_77 rfl ?_
        refine L_get eX7_readFigures_78 f_X7_19.g rfl rfl ?_
        refine L_iload_n eX7_readFigures_81 rfl ?_
        refine V_icmpne eX7_readFigures_82 (fun h82 => ?_) (fun h82 => ?_)
        · refine L_aload_n eX7_readFigures_97 rfl ?_
          refine L_get eX7_readFigures_98 f_X7_19.g rfl rfl ?_
          refine L_iload_n eX7_readFigures_101 rfl ?_
          refine V_isub eX7_readFigures_102 ?_
          refine V_iconst eX7_readFigures_103 ?_
          refine V_icmpgt eX7_readFigures_104 (fun h104 => ?_) (fun h104 => ?_)
          · exact bl
          · refine L_iload eX7_readFigures_107 rfl ?_
            refine L_iload_n eX7_readFigures_109 rfl ?_
            refine V_icmplt eX7_readFigures_110 (fun h110 => ?_) (fun h110 => ?_)
            · exact bl
            · refine L_iload eX7_readFigures_113 rfl ?_
              refine L_iload_n eX7_readFigures_115 rfl ?_
              refine V_icmple eX7_readFigures_116 (fun h116 => ?_) (fun h116 => ?_)
              · (exfalso; omega)
              · exact bl
        · (exfalso; omega)
      · rw [uF_ne (by decide), uF_ne (by decide)]; exact g2
      · rw [uF_ne (by decide), uF_ne (by decide)]; exact g3
      · rw [uF_ne (by decide), uF_eq]
      · rw [uF_eq]
    · refine ⟨uF F 28 2 e, fun G => ?_, gf, g2, g3, Or.inr (Or.inr ⟨c1, c2, g4, g5⟩)⟩
      refine L_ent [some (.ref 28), some (vi lo), some (vi hi), none, none] rfl ?_
      refine beg G _ ?_
      generalize dvl (A 29) f (min (e - f).toNat 3) = v at *
      refine L_aload_n eX7_readFigures_77 rfl ?_
      refine L_get eX7_readFigures_78 f_X7_19.g rfl rfl ?_
      refine L_iload_n eX7_readFigures_81 rfl ?_
      refine V_icmpne eX7_readFigures_82 (fun h82 => ?_) (fun h82 => ?_)
      · refine L_aload_n eX7_readFigures_97 rfl ?_
        refine L_get eX7_readFigures_98 f_X7_19.g rfl rfl ?_
        refine L_iload_n eX7_readFigures_101 rfl ?_
        refine V_isub eX7_readFigures_102 ?_
        refine V_iconst eX7_readFigures_103 ?_
        refine V_icmpgt eX7_readFigures_104 (fun h104 => ?_) (fun h104 => ?_)
        · (exfalso; omega)
        · refine L_iload eX7_readFigures_107 rfl ?_
          refine L_iload_n eX7_readFigures_109 rfl ?_
          refine V_icmplt eX7_readFigures_110 (fun h110 => ?_) (fun h110 => ?_)
          · (exfalso; omega)
          · refine L_iload eX7_readFigures_113 rfl ?_
            refine L_iload_n eX7_readFigures_115 rfl ?_
            refine V_icmple eX7_readFigures_116 (fun h116 => ?_) (fun h116 => ?_)
            · refine L_iload eX7_readFigures_128 rfl ?_
              exact V_ireturn eX7_readFigures_130 ((by first | (exfalso; omega) | exact ⟨rfl, rfl⟩))
            · (exfalso; omega)
      · (exfalso; omega)
/-- what a reading of a NUMBER leaves -/
def nmK (R : Int × Int × Int × Int) (v at' fk fp fp0 : Int) : Prop := (R.1 = 0 ∧ v = R.2.2.1 ∧ at' = R.2.2.2 ∧ fk = 0 ∧ fp = fp0) ∨ (1 ≤ R.1 ∧ R.1 ≤ 2 ∧ fk = R.1 ∧ fp = R.2.1)
theorem c_needNumber (hT : txT n (A 29)) (hn : F 28 1 = n) (ha : F 28 2 = a) (hab : 0 ≤ a ∧ a ≤ n) (hk : F 28 4 = 0) (hlo : -1000 ≤ lo ∧ lo ≤ 1000) (hhi : -1000 ≤ hi ∧ hi ≤ 1000) : ∃ F1 v, (∀ G : gT, Mu G mX7_needNumber [.ref 28, vi lo, vi hi] F A (some (vi v)) F1 A) ∧ fr28 F F1 ∧ (0 ≤ F1 28 2 ∧ F1 28 2 ≤ n) ∧ F1 28 3 = skp (A 29) n a ∧ (0 ≤ v ∧ v ≤ 999) ∧ nmK (nmR (A 29) n false lo hi a) v (F1 28 2) (F1 28 4) (F1 28 5) (F 28 5) := by
  have hn1 := hT.1
  have hq := skp_b hT hab
  have hNx := fun (G : gT) => p_X7_next (G := G) (F := F) hT hn ha hab
  generalize eq : skp (A 29) n a = q at *
  have h1 : uF (uF F 28 2 q) 28 3 q 28 1 = n := by rw [uF_ne (by decide), uF_ne (by decide)]; exact hn
  have h2 : uF (uF F 28 2 q) 28 3 q 28 2 = q := by rw [uF_ne (by decide), uF_eq]
  have h4 : uF (uF F 28 2 q) 28 3 q 28 4 = 0 := by rw [uF_ne (by decide), uF_ne (by decide)]; exact hk
  have h5 : uF (uF F 28 2 q) 28 3 q 28 5 = F 28 5 := by rw [uF_ne (by decide), uF_ne (by decide)]
  obtain ⟨F1, hM, k1, e2, e3, alt⟩ := c_figs (F := uF (uF F 28 2 q) 28 3 q) (lo := lo) (hi := hi) hT h1 h2 (by omega) h4 hlo hhi
  have he : q ≤ drn (A 29) n q ∧ drn (A 29) n q ≤ n := rn_ge hq.2
  have hdv := dvl_b (T := A 29) (p := q) (min (drn (A 29) n q - q).toNat 3) (fun i x y => dg_in (T := A 29) (n := n) (f := q) (by omega) i x (by omega))
  refine ⟨F1, _, fun G => ?_, (fun o k w => by rw [k1 o k w, uF_ne (by omega), uF_ne (by omega)]), by rw [e2]; omega, by rw [e3, uF_eq], ⟨hdv.1, hdv.2.1 (by omega)⟩, ?_⟩
  · refine L_ent [some (.ref 28), some (vi lo), some (vi hi)] rfl ?_
    refine L_aload_n eX7_needNumber_0 rfl ?_
    refine C_v1 (p_X7_isFine (by omega)) v_X7_37 eX7_needNumber_1 rfl rfl ?_
    refine V_ifneB eX7_needNumber_4 (fun g2 => ?_) (fun g2 => ?_)
    · refine L_aload_n eX7_needNumber_9 rfl ?_
      refine C_v1 (hNx G) v_X7_33 eX7_needNumber_10 rfl rfl ?_
      refine L_pop eX7_needNumber_13 ?_
      refine L_aload_n eX7_needNumber_14 rfl ?_
      refine L_aload_n eX7_needNumber_15 rfl ?_
      refine L_get eX7_needNumber_16 f_X7_19.g rfl rfl ?_
      rw [uF_eq]
      refine L_put eX7_needNumber_19 f_X7_22 rfl rfl ?_
      refine L_aload_n eX7_needNumber_22 rfl ?_
      refine L_iload_n eX7_needNumber_23 rfl ?_
      refine L_iload_n eX7_needNumber_24 rfl ?_
      refine C_v1 (hM G) v_X7_66 eX7_needNumber_25 rfl rfl ?_
      exact V_ireturn eX7_needNumber_28 ⟨rfl, rfl⟩
    · exact absurd hk g2
  · have hF : nmF (A 29) n false q = q := if_neg (fun w => absurd w.1 (by decide))
    have hV : nmV (A 29) n q q = dvl (A 29) q (drn (A 29) n q - q).toNat := if_pos rfl
    unfold nmR
    rw [eq, hF, hV]
    unfold nmG
    rcases alt with ⟨c1, c2, c3⟩ | ⟨c1, c2, c3, c4⟩ | ⟨c1, c2, c3, c4⟩
    · rw [if_pos c1]
      exact Or.inr ⟨(show (1 : Int) ≤ 1 by decide), (show (1 : Int) ≤ 2 by decide), c2, c3⟩
    · rw [if_neg c1]
      rw [uF_eq] at c4
      by_cases c5 : 3 < drn (A 29) n q - q
      · rw [if_pos (Or.inl c5)]
        exact Or.inr ⟨(show (1 : Int) ≤ 2 by decide), (show (2 : Int) ≤ 2 by decide), c3, c4⟩
      · rw [show min (drn (A 29) n q - q).toNat 3 = (drn (A 29) n q - q).toNat by omega] at c2
        rw [if_pos c2]
        exact Or.inr ⟨(show (1 : Int) ≤ 2 by decide), (show (2 : Int) ≤ 2 by decide), c3, c4⟩
    · rw [if_neg c1]
      rw [show min (drn (A 29) n q - q).toNat 3 = (drn (A 29) n q - q).toNat by omega] at c2 ⊢
      rw [if_neg c2]
      exact Or.inl ⟨rfl, rfl, e2, c3, c4.trans h5⟩
theorem c_needNumber_f (hb : 0 ≤ F 28 4 ∧ F 28 4 ≤ 9) (hf : F 28 4 ≠ 0) : ∀ G : gT, Mu G mX7_needNumber [.ref 28, vi lo, vi hi] F A (some (vi 0)) F A := by
  intro G
  refine L_ent [some (.ref 28), some (vi lo), some (vi hi)] rfl ?_
  refine L_aload_n eX7_needNumber_0 rfl ?_
  refine C_v1 (p_X7_isFine hb) v_X7_37 eX7_needNumber_1 rfl rfl ?_
  refine V_ifneB eX7_needNumber_4 (fun h2 => ?_) (fun h2 => ?_)
  · exact absurd h2 hf
  · refine V_iconst eX7_needNumber_7 ?_
    -- at 8: .ireturn
    exact V_ireturn eX7_needNumber_8 ⟨rfl, rfl⟩
theorem c_needMove_f (hb : 0 ≤ F 28 4 ∧ F 28 4 ≤ 9) (hf : F 28 4 ≠ 0) : ∀ G : gT, Mu G mX7_needMove [.ref 28] F A (some (vi 0)) F A := by
  intro G
  refine L_ent [some (.ref 28), none, none] rfl ?_
  refine L_aload_n eX7_needMove_0 rfl ?_
  refine C_v1 (p_X7_isFine hb) v_X7_37 eX7_needMove_1 rfl rfl ?_
  refine V_ifneB eX7_needMove_4 (fun h2 => ?_) (fun h2 => ?_)
  · exact absurd h2 hf
  · refine V_iconst eX7_needMove_7 ?_
    -- at 8: .ireturn
    exact V_ireturn eX7_needMove_8 ⟨rfl, rfl⟩
theorem chA_b {T : Int → Int} {q : Int} (hT : txT n T) (hq : 0 ≤ q) : -1 ≤ chA T n q ∧ chA T n q ≤ 255 ∧ (chA T n q ≠ -1 → q < n) := by
  unfold chA
  by_cases c : q < n
  · rw [if_pos c]
    have := hT.2 q hq c
    omega
  · rw [if_neg c]; omega
theorem c_needMove (hT : txT n (A 29)) (hn : F 28 1 = n) (ha : F 28 2 = a) (hab : 0 ≤ a ∧ a ≤ n) (hk : F 28 4 = 0) : ∃ F1 v, (∀ G : gT, Mu G mX7_needMove [.ref 28] F A (some (vi v)) F1 A) ∧ fr28 F F1 ∧ (0 ≤ F1 28 2 ∧ F1 28 2 ≤ n) ∧ (-999 ≤ v ∧ v ≤ 999) ∧ nmK (nmR (A 29) n true (-999) 999 a) v (F1 28 2) (F1 28 4) (F1 28 5) (F 28 5) := by
  have hn1 := hT.1
  have hq := skp_b hT hab
  have hNx := fun (G : gT) => p_X7_next (G := G) (F := F) hT hn ha hab
  generalize eq : skp (A 29) n a = q at *
  have hc := chA_b (q := q) hT (by omega)
  obtain ⟨f, ef⟩ : ∃ f, nmF (A 29) n true q = f := ⟨_, rfl⟩
  have hf : f = q ∧ chA (A 29) n q ≠ 45 ∨ f = q + 1 ∧ chA (A 29) n q = 45 := by
    rw [← ef]
    unfold nmF
    by_cases c : chA (A 29) n q = 45
    · rw [if_pos ⟨rfl, c⟩]; exact Or.inr ⟨rfl, c⟩
    · rw [if_neg (fun w => c w.2)]; exact Or.inl ⟨rfl, c⟩
  have h1 : uF (uF F 28 2 f) 28 3 q 28 1 = n := by rw [uF_ne (by decide), uF_ne (by decide)]; exact hn
  have h2 : uF (uF F 28 2 f) 28 3 q 28 2 = f := by rw [uF_ne (by decide), uF_eq]
  have h4 : uF (uF F 28 2 f) 28 3 q 28 4 = 0 := by rw [uF_ne (by decide), uF_ne (by decide)]; exact hk
  have h5 : uF (uF F 28 2 f) 28 3 q 28 5 = F 28 5 := by rw [uF_ne (by decide), uF_ne (by decide)]
  obtain ⟨F1, hM, k1, e2, e3, alt⟩ := c_figs (F := uF (uF F 28 2 f) 28 3 q) (lo := 0) (hi := 999) hT h1 h2 (by omega) h4 (by omega) (by omega)
  have he : f ≤ drn (A 29) n f ∧ drn (A 29) n f ≤ n := rn_ge (by omega)
  have hdv := dvl_b (T := A 29) (p := f) (min (drn (A 29) n f - f).toNat 3) (fun i x y => dg_in (T := A 29) (n := n) (f := f) (by omega) i x (by omega))
  have hd3 := hdv.2.1 (by omega)
  refine ⟨F1, if f = q then dvl (A 29) f (min (drn (A 29) n f - f).toNat 3) else -dvl (A 29) f (min (drn (A 29) n f - f).toNat 3), fun G => ?_, (fun o k w => by rw [k1 o k w, uF_ne (by omega), uF_ne (by omega)]), by rw [e2]; omega, ?_, ?_⟩
  · have sw2 : uF (uF (uF F 28 2 q) 28 3 q) 28 2 (q + 1) = uF (uF F 28 2 (q + 1)) 28 3 q := by
      funext o k
      simp only [uF]
      by_cases w : o = 28 ∧ k = 2
      · rw [if_pos w, if_neg (by omega), if_pos w]
      · rw [if_neg w]
        by_cases w2 : o = 28 ∧ k = 3
        · rw [if_pos w2, if_pos w2]
        · rw [if_neg w2, if_neg w2, if_neg w, if_neg w]
    have g2 : uF F 28 2 q 28 2 = q := uF_eq
    have g3 : uF (uF F 28 2 q) 28 3 q 28 2 = q := by rw [uF_ne (by decide), uF_eq]
    refine L_ent [some (.ref 28), none, none] rfl ?_
    refine L_aload_n eX7_needMove_0 rfl ?_
    refine C_v1 (p_X7_isFine (by omega)) v_X7_37 eX7_needMove_1 rfl rfl ?_
    refine V_ifneB eX7_needMove_4 (fun w1 => ?_) (fun w1 => ?_)
    · refine L_aload_n eX7_needMove_9 rfl ?_
      refine C_v1 (hNx G) v_X7_33 eX7_needMove_10 rfl rfl ?_
      refine L_bipush eX7_needMove_13 rfl ?_
      -- at 15: .if_icmp .ne 7
      refine V_icmpne eX7_needMove_15 (fun w2 => ?_) (fun w2 => ?_)
      · have e1 : f = q := by omega
        subst e1
        rw [if_pos rfl]
        refine V_iconst eX7_needMove_22 ?_
        refine L_istore_n eX7_needMove_23 (s_1 rfl rfl) ?_
        refine L_aload_n eX7_needMove_24 rfl ?_
        refine L_aload_n eX7_needMove_25 rfl ?_
        refine L_get eX7_needMove_26 f_X7_19.g rfl rfl ?_
        rw [g2]
        refine L_put eX7_needMove_29 f_X7_22 rfl rfl ?_
        refine L_iload_n eX7_needMove_32 rfl ?_
        -- at 33: .ifCond .eq 13
        refine V_ifeq eX7_needMove_33 (fun w3 => ?_) (fun w3 => ?_)
        · refine L_aload_n eX7_needMove_46 rfl ?_
          refine V_iconst eX7_needMove_47 ?_
          refine L_sipush eX7_needMove_48 rfl ?_
          refine C_v1 (hM G) v_X7_66 eX7_needMove_51 rfl rfl ?_
          refine L_istore_n eX7_needMove_54 (s_2 rfl rfl) ?_
          refine L_iload_n eX7_needMove_55 rfl ?_
          -- at 56: .ifCond .eq 8
          refine V_ifeq eX7_needMove_56 (fun w4 => ?_) (fun w4 => ?_)
          · refine L_iload_n eX7_needMove_64 rfl ?_
            -- at 65: .ireturn
            exact V_ireturn eX7_needMove_65 ⟨rfl, rfl⟩
          · omega
        · omega
      · have e1 : f = q + 1 := by omega
        subst e1
        rw [if_neg (by omega)]
        refine V_iconst eX7_needMove_18 ?_
        refine V_goto eX7_needMove_19 ?_
        refine L_istore_n eX7_needMove_23 (s_1 rfl rfl) ?_
        refine L_aload_n eX7_needMove_24 rfl ?_
        refine L_aload_n eX7_needMove_25 rfl ?_
        refine L_get eX7_needMove_26 f_X7_19.g rfl rfl ?_
        rw [g2]
        refine L_put eX7_needMove_29 f_X7_22 rfl rfl ?_
        refine L_iload_n eX7_needMove_32 rfl ?_
        -- at 33: .ifCond .eq 13
        refine V_ifeq eX7_needMove_33 (fun w3 => ?_) (fun w3 => ?_)
        · omega
        · refine L_aload_n eX7_needMove_36 rfl ?_
          refine L_dup eX7_needMove_37 ?_
          refine L_get eX7_needMove_38 f_X7_19.g rfl rfl ?_
          refine V_iconst eX7_needMove_41 ?_
          refine V_iadd eX7_needMove_42 ?_
          refine L_put eX7_needMove_43 f_X7_19 rfl rfl ?_
          rw [g3, sw2]
          refine L_aload_n eX7_needMove_46 rfl ?_
          refine V_iconst eX7_needMove_47 ?_
          refine L_sipush eX7_needMove_48 rfl ?_
          refine C_v1 (hM G) v_X7_66 eX7_needMove_51 rfl rfl ?_
          refine L_istore_n eX7_needMove_54 (s_2 rfl rfl) ?_
          refine L_iload_n eX7_needMove_55 rfl ?_
          -- at 56: .ifCond .eq 8
          refine V_ifeq eX7_needMove_56 (fun w4 => ?_) (fun w4 => ?_)
          · omega
          · refine L_iload_n eX7_needMove_59 rfl ?_
            refine V_ineg eX7_needMove_60 ?_
            refine V_goto eX7_needMove_61 ?_
            exact V_ireturn eX7_needMove_65 ⟨rfl, rfl⟩
    · exact absurd hk w1
  · by_cases w : f = q
    · rw [if_pos w]; omega
    · rw [if_neg w]; omega
  · unfold nmR
    rw [eq, ef]
    unfold nmG
    rcases alt with ⟨c1, c2, c3⟩ | ⟨c1, c2, c3, c4⟩ | ⟨c1, c2, c3, c4⟩
    · rw [if_pos c1]
      exact Or.inr ⟨(show (1 : Int) ≤ 1 by decide), (show (1 : Int) ≤ 2 by decide), c2, c3⟩
    · rw [if_neg c1]
      rw [uF_eq] at c4
      rw [if_pos (Or.inl (by omega))]
      exact Or.inr ⟨(show (1 : Int) ≤ 2 by decide), (show (2 : Int) ≤ 2 by decide), c3, c4⟩
    · rw [if_neg c1]
      have c5 : ¬ 3 < drn (A 29) n f - f := fun w => c2 (Or.inl w)
      have eV : nmV (A 29) n q f = if f = q then dvl (A 29) f (min (drn (A 29) n f - f).toNat 3) else -dvl (A 29) f (min (drn (A 29) n f - f).toNat 3) := by
        unfold nmV
        rw [show min (drn (A 29) n f - f).toNat 3 = (drn (A 29) n f - f).toNat by omega]
      have hvb : -999 ≤ nmV (A 29) n q f ∧ nmV (A 29) n q f ≤ 999 := by
        rw [eV]
        by_cases w : f = q
        · rw [if_pos w]; omega
        · rw [if_neg w]; omega
      rw [if_neg (by omega), ← eV]
      exact Or.inl ⟨rfl, rfl, e2, c3, c4.trans h5⟩
end P98d

