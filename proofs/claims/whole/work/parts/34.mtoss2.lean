/-- the reference's numbers are in their bounds -/
def mOK (F : fT) (A : nT) : Prop := (1 ≤ F 66 0 ∧ F 66 0 ≤ 12) ∧ (20 ≤ F 66 1 ∧ F 66 1 ≤ 200) ∧ (1 ≤ F 66 5 ∧ F 66 5 ≤ 60) ∧ plK (F 66 0) (A 67) (A 68) ∧ lwK (A 72) ∧ (∀ t : Int, 0 ≤ t → t ≤ F 66 5 → ab 59940 (A 70 t) ∧ ab 59940 (A 71 t)) ∧ bA (A 84, A 85) ∧ -1 ≤ F 66 40 ∧ F 66 40 ≤ 200
theorem mOK.w {F : fT} {A : nT} (h : mOK F A) : okW (wtF (A 67) (A 68)) (bdF (A 67) (A 68)) (F 66 1) (A 72 0) (A 72 1) (F 66 0).toNat := by
  obtain ⟨hn, hlen, hT, hp, hl, -⟩ := h
  obtain ⟨hl0, hl1, -⟩ := hl
  exact ⟨by omega, fun k h1 h2 => (wt_b hp (k := k) (by omega)).1, fun k h1 h2 => bd_b hp (k := k) (by omega), by omega, hl0.1, hl1⟩
/-- the reference's THROW with GIVEN g from rows s -/
def mTs (F : fT) (A : nT) (g : Int) (s : rS) : rS := tsS (wtF (A 67) (A 68)) (bdF (A 67) (A 68)) (F 66 1) (A 72 0) (A 72 1) (F 66 0).toNat (A 72 2).toNat (A 70) (A 71) g (F 66 5).toNat s
section P34
variable {G : gT} {F : fT} {A : nT}
theorem p_X11_toss_hit {g : Int} (h0 : F 66 40 = g) (hg : 10 ≤ g ∧ g ≤ 200) : Mu G mX11_toss [.ref 66, vi g] F A none F A := by
  refine L_ent [some (.ref 66), some (vi g), none, none, none] rfl ?_
  refine L_aload_n eX11_toss_0 rfl ?_
  refine L_get eX11_toss_1 f_X11_72.g rfl rfl ?_
  refine L_iload_n eX11_toss_4 rfl ?_
  -- at 5: .if_icmp .ne 4
  refine V_icmpne eX11_toss_5 (fun h => ?_) (fun h => ?_)
  · omega
  · exact V_return eX11_toss_8 ⟨rfl, rfl⟩
theorem p_X11_toss_miss {g : Int} (hne : F 66 40 ≠ g) (hg : 10 ≤ g ∧ g ≤ 200) (hm : mOK F A) : Mu G mX11_toss [.ref 66, vi g] F A none (uF F 66 40 g) (s2 A 83 (mTs F A g (A 84, A 85)).1 (mTs F A g (A 84, A 85)).2) := by
  have hW := hm.w
  have hWn := hW.1
  have hm2 := hm
  obtain ⟨hn, hlen, hT, hp, hl, hwy, hbA, htos⟩ := hm
  have hlk := hl
  obtain ⟨hl0, hl1, hl2, -⟩ := hl
  refine L_ent [some (.ref 66), some (vi g), none, none, none] rfl ?_
  generalize hQ : (fun (r' : Option Value) (w : wT) => r' = none ∧ w = sw (uF F 66 40 g) (s2 A 83 (mTs F A g (A 84, A 85)).1 (mTs F A g (A 84, A 85)).2)) = Q
  refine L_aload_n eX11_toss_0 rfl ?_
  refine L_get eX11_toss_1 f_X11_72.g rfl rfl ?_
  refine L_iload_n eX11_toss_4 rfl ?_
  -- at 5: .if_icmp .ne 4
  refine V_icmpne eX11_toss_5 (fun h => ?_) (fun h => ?_)
  · refine L_aload_n eX11_toss_9 rfl ?_
    refine L_iload_n eX11_toss_10 rfl ?_
    refine L_put eX11_toss_11 f_X11_72 rfl rfl ?_
    refine V_iconst eX11_toss_14 ?_
    refine L_istore_n eX11_toss_15 (s_2 rfl rfl) ?_
    have f0 : uF F 66 40 g 66 0 = F 66 0 := uF_ne (by decide)
    have f1 : uF F 66 40 g 66 1 = F 66 1 := uF_ne (by decide)
    have f5 : uF F 66 40 g 66 5 = F 66 5 := uF_ne (by decide)
    refine V.eqw (w' := sw (uF F 66 40 g) (s2 A 83 (A 84) (A 85))) (by rw [show s2 A 83 (A 84) (A 85) = A from s2_self]) ?_
    generalize uF F 66 40 g = F1 at hQ f0 f1 f5
    generalize hN : (F 66 0).toNat = N at hW hWn
    generalize hNT : (F 66 5).toNat = NT
    generalize hR : (A 72 2).toNat = R
    have hNi : F 66 0 = N := by omega
    have hp2 : plK (N : Int) (A 67) (A 68) := by rw [← hNi]; exact hp
    have TICK : ∀ (r j : Nat) (t : Int) (x3 x4 : Option Value), NT < r + j → j ≤ NT → t = j + 1 → V G mX11_toss Q 0 0 52 [some (.ref 66), some (vi g), some (vi t), x3, x4] [] (sw F1 (s2 A 83 (it (fun j => tkS (wtF (A 67) (A 68)) (bdF (A 67) (A 68)) (F 66 1) (A 72 0) (A 72 1) N R ((A 70 (j + 1) * g).tdiv 100) ((A 71 (j + 1) * g).tdiv 100) (j + 1)) j (rsS N (F 66 1) (A 84, A 85))).1 (it (fun j => tkS (wtF (A 67) (A 68)) (bdF (A 67) (A 68)) (F 66 1) (A 72 0) (A 72 1) N R ((A 70 (j + 1) * g).tdiv 100) ((A 71 (j + 1) * g).tdiv 100) (j + 1)) j (rsS N (F 66 1) (A 84, A 85))).2)) := by
      intro r
      induction r with
      | zero => intro j t x3 x4 h1 h2; omega
      | succ r ih =>
        intro j t x3 x4 h1 h2 ht
        have hS := ts_b (R := R) hW hbA (T := NT) (by omega) hg (fun t a b => hwy t (by omega) (by omega)) j h2
        have hnext := fun (s : rS) (hs : s = it (fun j => tkS (wtF (A 67) (A 68)) (bdF (A 67) (A 68)) (F 66 1) (A 72 0) (A 72 1) N R ((A 70 (j + 1) * g).tdiv 100) ((A 71 (j + 1) * g).tdiv 100) (j + 1)) j (rsS N (F 66 1) (A 84, A 85))) (x3 x4 : Option Value) (hj : j + 1 ≤ NT) => (show V G mX11_toss Q 0 0 52 [some (.ref 66), some (vi g), some (vi (t + 1)), x3, x4] [] (sw F1 (s2 A 83 (tkS (wtF (A 67) (A 68)) (bdF (A 67) (A 68)) (F 66 1) (A 72 0) (A 72 1) N R ((A 70 t * g).tdiv 100) ((A 71 t * g).tdiv 100) t s).1 (tkS (wtF (A 67) (A 68)) (bdF (A 67) (A 68)) (F 66 1) (A 72 0) (A 72 1) N R ((A 70 t * g).tdiv 100) ((A 71 t * g).tdiv 100) t s).2)) from by rw [ht, hs]; exact ih (j + 1) _ x3 x4 (by omega) hj (by omega))
        have hfin : j = NT → it (fun j => tkS (wtF (A 67) (A 68)) (bdF (A 67) (A 68)) (F 66 1) (A 72 0) (A 72 1) N R ((A 70 (j + 1) * g).tdiv 100) ((A 71 (j + 1) * g).tdiv 100) (j + 1)) j (rsS N (F 66 1) (A 84, A 85)) = mTs F A g (A 84, A 85) := by
          intro e
          unfold mTs tsS
          rw [hN, hNT, hR, e]
        generalize it (fun j => tkS (wtF (A 67) (A 68)) (bdF (A 67) (A 68)) (F 66 1) (A 72 0) (A 72 1) N R ((A 70 (j + 1) * g).tdiv 100) ((A 71 (j + 1) * g).tdiv 100) (j + 1)) j (rsS N (F 66 1) (A 84, A 85)) = s at hS hnext hfin
        have hnext := hnext s rfl
        refine L_iload_n eX11_toss_52 rfl ?_
        refine L_aload_n eX11_toss_53 rfl ?_
        refine L_get eX11_toss_54 f_X11_127.g rfl rfl ?_
        -- at 57: .if_icmp .gt 162
        refine V_icmpgt eX11_toss_57 (fun h3 => ?_) (fun h3 => ?_)
        · rw [hfin (by omega)]
          exact V_return eX11_toss_219 (by rw [← hQ]; exact ⟨rfl, rfl⟩)
        · have wy := hwy t (by omega) (by omega)
          obtain ⟨ux, ux1, ux2⟩ := hand_b wy.1 hg
          obtain ⟨uy, uy1, uy2⟩ := hand_b wy.2 hg
          have vx := ux
          have vy := uy
          unfold ab at vx vy
          refine L_aload_n eX11_toss_60 rfl ?_
          refine L_getR (r := 84) eX11_toss_61 f_X11_65.g rfl rfl (by decide) ?_
          refine V_iconst eX11_toss_64 ?_
          refine L_iload_n eX11_toss_65 rfl ?_
          refine C_s1 p_X11_cell v_X11_284 eX11_toss_66 rfl ?_
          refine L_aload_n eX11_toss_69 rfl ?_
          refine L_getR (r := 70) eX11_toss_70 f_X11_19.g rfl rfl (by decide) ?_
          refine L_iload_n eX11_toss_73 rfl ?_
          refine Z_ialdo eX11_toss_74 rfl (by decide) ?_
          refine L_iload_n eX11_toss_75 rfl ?_
          refine V_imul eX11_toss_76 ?_
          refine L_bipush eX11_toss_77 rfl ?_
          refine V_idiv eX11_toss_79 ?_
          refine V_i2l eX11_toss_80 ?_
          refine Z_last1 (f := 83) eX11_toss_81 rfl ?_
          refine L_aload_n eX11_toss_82 rfl ?_
          refine L_getR (r := 85) eX11_toss_83 f_X11_69.g rfl rfl (by decide) ?_
          refine V_iconst eX11_toss_86 ?_
          refine L_iload_n eX11_toss_87 rfl ?_
          refine C_s1 p_X11_cell v_X11_284 eX11_toss_88 rfl ?_
          refine L_aload_n eX11_toss_91 rfl ?_
          refine L_getR (r := 71) eX11_toss_92 f_X11_22.g rfl rfl (by decide) ?_
          refine L_iload_n eX11_toss_95 rfl ?_
          refine Z_ialdo eX11_toss_96 rfl (by decide) ?_
          refine L_iload_n eX11_toss_97 rfl ?_
          refine V_imul eX11_toss_98 ?_
          refine L_bipush eX11_toss_99 rfl ?_
          refine V_idiv eX11_toss_101 ?_
          refine V_i2l eX11_toss_102 ?_
          refine Z_last2 (f := 83) eX11_toss_103 rfl ?_
          refine V_iconst eX11_toss_104 ?_
          refine L_istore_n eX11_toss_105 (s_3 rfl rfl) ?_
          simp only [Int.add_zero]
          have ht2 : 1 ≤ t ∧ t ≤ 60 := by omega
          obtain ⟨a1, a2, a3⟩ := hd_b (n := N) hS ht2 (by omega) ux uy
          have gb := g_b (wt := wtF (A 67) (A 68)) (air := A 72 0) (fall := A 72 1) a1 a2 a3 ht2 (by omega) hW.2.1 hl0.1 hl1
          obtain ⟨b1, b2, b3⟩ := gb N (Nat.le_refl _)
          have bb := b_b (bd := bdF (A 67) (A 68)) b1 b2 b3 (by omega) hW.2.2.1
          obtain ⟨c1, c2, c3⟩ := bb (N - 1) (Nat.le_refl _)
          have c2 := b_R hWn c2
          have rb := rd_b (wt := wtF (A 67) (A 68)) c1 c2 c3 (by omega) hW.2.2.2.1.1 hW.2.1
          obtain ⟨d1, d2, d3⟩ := rb R
          have hb := h_b d1 d2 d3 ux uy (by omega) hW.2.2.2.1
          have H4 : ∀ (r i : Nat) (k : Int) (x4 : Option Value), N < r + i → i ≤ N → k = i + 1 → V G mX11_toss Q 0 0 193 [some (.ref 66), some (vi g), some (vi t), some (vi k), x4] [] (sw F1 (s2 A 83 (it (fun j => hO (F 66 1) t (j + 1)) i (rdS (wtF (A 67) (A 68)) (F 66 1) t N R (bS (bdF (A 67) (A 68)) t N (gS (wtF (A 67) (A 68)) (A 72 0) (A 72 1) t N (hdS ((A 70 t * g).tdiv 100) ((A 71 t * g).tdiv 100) t s))))).1 (it (fun j => hO (F 66 1) t (j + 1)) i (rdS (wtF (A 67) (A 68)) (F 66 1) t N R (bS (bdF (A 67) (A 68)) t N (gS (wtF (A 67) (A 68)) (A 72 0) (A 72 1) t N (hdS ((A 70 t * g).tdiv 100) ((A 71 t * g).tdiv 100) t s))))).2)) := by
            intro r
            induction r with
            | zero => intro i k x4 e1 e2; omega
            | succ r ihr =>
              intro i k x4 e1 e2 ek
              have hb1 := hb i e2
              refine L_iload_n eX11_toss_193 rfl ?_
              refine L_aload_n eX11_toss_194 rfl ?_
              refine L_get eX11_toss_195 f_X11_121.g rfl rfl ?_
              -- at 198: .if_icmp .gt 15
              refine V_icmpgt eX11_toss_198 (fun h4 => ?_) (fun h4 => ?_)
              · have ei : i = N := by omega
                subst ei
                refine L_iinc eX11_toss_213 rfl (s_2 rfl rfl) ?_
                refine V_goto eX11_toss_216 ?_
                exact hnext _ _ (by omega)
              · refine L_aload_n eX11_toss_201 rfl ?_
                refine L_iload_n eX11_toss_202 rfl ?_
                refine L_iload_n eX11_toss_203 rfl ?_
                refine C_v0 (p_X11_hold (n := N) (by omega) (by omega) ht2 (by omega) hb1.2.2) v_X11_304 eX11_toss_204 rfl rfl ?_
                rw [f1, ek]
                refine L_iinc eX11_toss_207 rfl (s_3 rfl rfl) ?_
                refine V_goto eX11_toss_210 ?_
                exact ihr (i + 1) _ x4 (by omega) (by omega) (by omega)
          have H3 : ∀ (r i : Nat) (q : Int) (x4 : Option Value), R < r + i → i ≤ R → q = i → V G mX11_toss Q 0 0 150 [some (.ref 66), some (vi g), some (vi t), some (vi q), x4] [] (sw F1 (s2 A 83 (it (fun _ => pS (wtF (A 67) (A 68)) (F 66 1) t N) i (bS (bdF (A 67) (A 68)) t N (gS (wtF (A 67) (A 68)) (A 72 0) (A 72 1) t N (hdS ((A 70 t * g).tdiv 100) ((A 71 t * g).tdiv 100) t s)))).1 (it (fun _ => pS (wtF (A 67) (A 68)) (F 66 1) t N) i (bS (bdF (A 67) (A 68)) t N (gS (wtF (A 67) (A 68)) (A 72 0) (A 72 1) t N (hdS ((A 70 t * g).tdiv 100) ((A 71 t * g).tdiv 100) t s)))).2)) := by
            intro r
            induction r with
            | zero => intro i q x4 e1 e2; omega
            | succ r ihr =>
              intro i q x4 e1 e2 eq
              obtain ⟨p1, p2, p3⟩ := rb i
              have pb := p_b (wt := wtF (A 67) (A 68)) p1 p2 p3 (by omega) hW.2.2.2.1.1 hW.2.1
              have hnx := fun (x4 : Option Value) (hi : i + 1 ≤ R) => ihr (i + 1) (q + 1) x4 (by omega) hi (by omega)
              have hH4 := fun (x4 : Option Value) => H4 (N + 1) 0 1 x4 (by omega) (by omega) (by omega)
              refine L_iload_n eX11_toss_150 rfl ?_
              refine L_aload_n eX11_toss_151 rfl ?_
              refine L_getR (r := 72) eX11_toss_152 f_X11_25.g rfl rfl (by decide) ?_
              refine V_iconst eX11_toss_155 ?_
              refine Z_ialdo eX11_toss_156 rfl (by decide) ?_
              -- at 157: .if_icmp .ge 34
              refine V_icmpge eX11_toss_157 (fun h4 => ?_) (fun h4 => ?_)
              · have ei : i = R := by omega
                subst ei
                refine V_iconst eX11_toss_191 ?_
                refine L_istore_n eX11_toss_192 (s_3 rfl rfl) ?_
                exact hH4 _
              · have H3b : ∀ (r m : Nat) (k : Int), N < r + m → m ≤ N → k = m + 1 → V G mX11_toss Q 0 0 163 [some (.ref 66), some (vi g), some (vi t), some (vi q), some (vi k)] [] (sw F1 (s2 A 83 (it (fun j => pU (wtF (A 67) (A 68)) (F 66 1) t (j + 1)) m (it (fun _ => pS (wtF (A 67) (A 68)) (F 66 1) t N) i (bS (bdF (A 67) (A 68)) t N (gS (wtF (A 67) (A 68)) (A 72 0) (A 72 1) t N (hdS ((A 70 t * g).tdiv 100) ((A 71 t * g).tdiv 100) t s))))).1 (it (fun j => pU (wtF (A 67) (A 68)) (F 66 1) t (j + 1)) m (it (fun _ => pS (wtF (A 67) (A 68)) (F 66 1) t N) i (bS (bdF (A 67) (A 68)) t N (gS (wtF (A 67) (A 68)) (A 72 0) (A 72 1) t N (hdS ((A 70 t * g).tdiv 100) ((A 71 t * g).tdiv 100) t s))))).2)) := by
                  intro r
                  induction r with
                  | zero => intro m k e1 e2; omega
                  | succ r ihr2 =>
                    intro m k g1 g2 gk
                    have pb1 := pb m g2
                    refine L_iload eX11_toss_163 rfl ?_
                    refine L_aload_n eX11_toss_165 rfl ?_
                    refine L_get eX11_toss_166 f_X11_121.g rfl rfl ?_
                    -- at 169: .if_icmp .gt 16
                    refine V_icmpgt eX11_toss_169 (fun h5 => ?_) (fun h5 => ?_)
                    · have em : m = N := by omega
                      subst em
                      refine L_iinc eX11_toss_185 rfl (s_3 rfl rfl) ?_
                      refine V_goto eX11_toss_188 ?_
                      exact hnx _ (by omega)
                    · refine L_aload_n eX11_toss_172 rfl ?_
                      refine L_iload eX11_toss_173 rfl ?_
                      refine L_iload_n eX11_toss_175 rfl ?_
                      refine C_v0 (p_X11_pull (n := N) hp2 (by omega) (by omega) ht2 (by omega) pb1.2.1) v_X11_301 eX11_toss_176 rfl rfl ?_
                      rw [f1, gk]
                      refine L_iinc eX11_toss_179 rfl (s_4 rfl rfl) ?_
                      refine V_goto eX11_toss_182 ?_
                      exact ihr2 (m + 1) _ (by omega) (by omega) (by omega)
                refine V_iconst eX11_toss_160 ?_
                refine L_istore eX11_toss_161 (s_4 rfl rfl) ?_
                exact H3b (N + 1) 0 1 (by omega) (by omega) (by omega)
          have H2 : ∀ (r i : Nat) (k : Int) (x4 : Option Value), N < r + i + 1 → i + 1 ≤ N → k = i + 2 → V G mX11_toss Q 0 0 128 [some (.ref 66), some (vi g), some (vi t), some (vi k), x4] [] (sw F1 (s2 A 83 (it (fun j => bE (bdF (A 67) (A 68)) t (j + 2)) i (gS (wtF (A 67) (A 68)) (A 72 0) (A 72 1) t N (hdS ((A 70 t * g).tdiv 100) ((A 71 t * g).tdiv 100) t s))).1 (it (fun j => bE (bdF (A 67) (A 68)) t (j + 2)) i (gS (wtF (A 67) (A 68)) (A 72 0) (A 72 1) t N (hdS ((A 70 t * g).tdiv 100) ((A 71 t * g).tdiv 100) t s))).2)) := by
            intro r
            induction r with
            | zero => intro i k x4 e1 e2; omega
            | succ r ihr =>
              intro i k x4 e1 e2 ek
              have bb1 := b_R hWn (bb i (by omega)).2.1
              refine L_iload_n eX11_toss_128 rfl ?_
              refine L_aload_n eX11_toss_129 rfl ?_
              refine L_get eX11_toss_130 f_X11_121.g rfl rfl ?_
              -- at 133: .if_icmp .gt 15
              refine V_icmpgt eX11_toss_133 (fun h4 => ?_) (fun h4 => ?_)
              · have ei : i = N - 1 := by omega
                subst ei
                refine V_iconst eX11_toss_148 ?_
                refine L_istore_n eX11_toss_149 (s_3 rfl rfl) ?_
                exact H3 (R + 1) 0 0 _ (by omega) (by omega) (by omega)
              · refine L_aload_n eX11_toss_136 rfl ?_
                refine L_iload_n eX11_toss_137 rfl ?_
                refine L_iload_n eX11_toss_138 rfl ?_
                refine C_v0 (p_X11_bend (n := N) hp2 (by omega) (by omega) ht2 bb1) v_X11_298 eX11_toss_139 rfl rfl ?_
                rw [ek]
                refine L_iinc eX11_toss_142 rfl (s_3 rfl rfl) ?_
                refine V_goto eX11_toss_145 ?_
                exact ihr (i + 1) _ x4 (by omega) (by omega) (by omega)
          have H1 : ∀ (r i : Nat) (k : Int) (x4 : Option Value), N < r + i → i ≤ N → k = i + 1 → V G mX11_toss Q 0 0 106 [some (.ref 66), some (vi g), some (vi t), some (vi k), x4] [] (sw F1 (s2 A 83 (it (fun j => gO (wtF (A 67) (A 68)) (A 72 0) (A 72 1) t (j + 1)) i (hdS ((A 70 t * g).tdiv 100) ((A 71 t * g).tdiv 100) t s)).1 (it (fun j => gO (wtF (A 67) (A 68)) (A 72 0) (A 72 1) t (j + 1)) i (hdS ((A 70 t * g).tdiv 100) ((A 71 t * g).tdiv 100) t s)).2)) := by
            intro r
            induction r with
            | zero => intro i k x4 e1 e2; omega
            | succ r ihr =>
              intro i k x4 e1 e2 ek
              have gb1 := gb i e2
              refine L_iload_n eX11_toss_106 rfl ?_
              refine L_aload_n eX11_toss_107 rfl ?_
              refine L_get eX11_toss_108 f_X11_121.g rfl rfl ?_
              -- at 111: .if_icmp .gt 15
              refine V_icmpgt eX11_toss_111 (fun h4 => ?_) (fun h4 => ?_)
              · have ei : i = N := by omega
                subst ei
                refine V_iconst eX11_toss_126 ?_
                refine L_istore_n eX11_toss_127 (s_3 rfl rfl) ?_
                exact H2 i 0 2 _ (by omega) (by omega) (by omega)
              · refine L_aload_n eX11_toss_114 rfl ?_
                refine L_iload_n eX11_toss_115 rfl ?_
                refine L_iload_n eX11_toss_116 rfl ?_
                refine C_v0 (p_X11_goOn (n := N) hp2 hlk (by omega) (by omega) ht2 gb1.1) v_X11_294 eX11_toss_117 rfl rfl ?_
                rw [ek]
                refine L_iinc eX11_toss_120 rfl (s_3 rfl rfl) ?_
                refine V_goto eX11_toss_123 ?_
                exact ihr (i + 1) _ x4 (by omega) (by omega) (by omega)
          exact H1 (N + 1) 0 1 _ (by omega) (by omega) (by omega)
    have REST : ∀ (r j : Nat) (k : Int), N + 1 < r + j → j ≤ N + 1 → k = j → V G mX11_toss Q 0 0 16 [some (.ref 66), some (vi g), some (vi k), none, none] [] (sw F1 (s2 A 83 (it (fun j s => (uI s.1 j (j * F 66 1), uI s.2 j 0)) j (A 84, A 85)).1 (it (fun j s => (uI s.1 j (j * F 66 1), uI s.2 j 0)) j (A 84, A 85)).2)) := by
      intro r
      induction r with
      | zero => intro j k e1 e2; omega
      | succ r ih =>
        intro j k e1 e2 ek
        have m1 := Int.mul_le_mul (show (j : Int) ≤ 13 by omega) hlen.2 (by omega) (by omega)
        have m2 := Int.mul_nonneg (show (0 : Int) ≤ j by omega) (show 0 ≤ F 66 1 by omega)
        refine L_iload_n eX11_toss_16 rfl ?_
        refine L_aload_n eX11_toss_17 rfl ?_
        refine L_get eX11_toss_18 f_X11_121.g rfl rfl ?_
        -- at 21: .if_icmp .gt 29
        refine V_icmpgt eX11_toss_21 (fun h4 => ?_) (fun h4 => ?_)
        · have ej : j = N + 1 := by omega
          subst ej
          refine V_iconst eX11_toss_50 ?_
          refine L_istore_n eX11_toss_51 (s_2 rfl rfl) ?_
          exact TICK (NT + 1) 0 1 _ _ (by omega) (by omega) (by omega)
        · subst ek
          refine L_aload_n eX11_toss_24 rfl ?_
          refine L_getR (r := 84) eX11_toss_25 f_X11_65.g rfl rfl (by decide) ?_
          refine L_iload_n eX11_toss_28 rfl ?_
          refine L_iload_n eX11_toss_29 rfl ?_
          refine L_aload_n eX11_toss_30 rfl ?_
          refine L_get eX11_toss_31 f_X11_124.g rfl rfl ?_
          rw [f1]
          refine V_imul eX11_toss_34 ?_
          refine V_i2l eX11_toss_35 ?_
          refine Z_last1 (f := 83) eX11_toss_36 rfl ?_
          refine L_aload_n eX11_toss_37 rfl ?_
          refine L_getR (r := 85) eX11_toss_38 f_X11_69.g rfl rfl (by decide) ?_
          refine L_iload_n eX11_toss_41 rfl ?_
          refine L_lconst0 eX11_toss_42 ?_
          refine Z_last2 (f := 83) eX11_toss_43 rfl ?_
          refine L_iinc eX11_toss_44 rfl (s_2 rfl rfl) ?_
          refine V_goto eX11_toss_47 ?_
          exact ih (j + 1) _ (by omega) (by omega) (by omega)
    exact REST (N + 2) 0 0 (by omega) (by omega) (by omega)
  · omega
end P34

