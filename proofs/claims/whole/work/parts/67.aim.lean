section R67
variable {F : fT} {A : nT}
theorem ntS_c {g g' : Int → Int} {a : Int} {M : Nat} (h : ∀ t : Int, a ≤ t → t < a + M → g t = g' t) : ∀ j : Nat, j ≤ M → ntS g a j = ntS g' a j := by
  intro j
  induction j with
  | zero => intro _; rfl
  | succ j ih =>
    intro hj
    have e := ih (by omega)
    have b := ntS_b (g := g') (a := a) j
    show (if g (a + j) < g (ntS g a j) then a + j else ntS g a j) = (if g' (a + j) < g' (ntS g' a j) then a + j else ntS g' a j)
    rw [e, h (a + j) (by omega) (by omega), h (ntS g' a j) (by omega) (by omega)]
theorem pr_aim (h : Iv F A) {x y a b w : Int} (hx : i32 x) (hy : i32 y) (ha : i32 a) (hb : i32 b) (hw : i32 w) : Pr mX10_aim mX11_aim [vi x, vi y, vi a, vi b, vi w] F A := by
  unfold i32 at hx hy ha hb hw
  obtain ⟨n, T, en, eT, hn, hT⟩ := iv_nat h
  have e0 := h.s.n
  have e5 := h.s.T
  by_cases h1 : ((-5000 ≤ x ∧ x ≤ 5000) ∧ (-5000 ≤ y ∧ y ≤ 5000)) ∧ (0 ≤ a ∧ a ≤ b ∧ b ≤ F 6 0) ∧ (0 ≤ w ∧ w ≤ 1)
  · obtain ⟨F1, A1, F2, A2, hC, hM, i1, i2, fk, k1, k2, ag⟩ := iv_both h
    unfold inN at ag
    rw [en, eT] at ag
    have hax : ab 5000 x := by unfold ab; omega
    have hay : ab 5000 y := by unfold ab; omega
    have f0 := k1.1 66 0 rfl
    have f5 := k1.1 66 5 rfl
    have g0 := k2.1 66 0 rfl
    have en1 : F1 42 0 = n := by rw [fk.n, k1.1 2 0 rfl]; exact en
    have hN := ntS_b (g := fun t => rt (qP (A1 (42 + 1)) (A1 (42 + 2)) x y n t)) (a := a) (b - a + 1).toNat
    have ec := ntS_c (g := fun t => rt (qP (A1 (42 + 1)) (A1 (42 + 2)) x y n t)) (g' := fun t => rt (qP (A2 84) (A2 85) x y n t)) (a := a) (M := (b - a + 1).toNat) (fun t c d => by show rt _ = rt _; rw [qP_c ag hn.2 (by omega) (by omega)]) (b - a + 1).toNat (Nat.le_refl _)
    refine ⟨vi (if w = 0 then rt (qP (A1 (42 + 1)) (A1 (42 + 2)) x y n (ntS (fun t => rt (qP (A1 (42 + 1)) (A1 (42 + 2)) x y n t)) a (b - a + 1).toNat)) else ntS (fun t => rt (qP (A1 (42 + 1)) (A1 (42 + 2)) x y n t)) a (b - a + 1).toNat), F1, A1, F2, A2, fun G => ?_, fun G => ?_, i2, ty_v⟩
    · refine L_ent [some (.ref 0), some (vi x), some (vi y), some (vi a), some (vi b), some (vi w), none, none] rfl ?_
      refine L_iload_n eX10_aim_0 rfl ?_
      refine L_iload_n eX10_aim_1 rfl ?_
      refine C_s1 (p_X10_isPlace (by omega) (by omega)) v_X10_248 eX10_aim_2 rfl ?_
      refine V_ifeqB eX10_aim_5 (fun h5 => ?_) (fun h5 => ?_)
      · refine L_sipush eX10_aim_44 rfl ?_
        exact V_ireturn eX10_aim_47 ((by first | (exfalso; omega) | (refine ⟨?_, rfl⟩; first | (rw [if_pos (by omega), en1]; done) | (rw [if_neg (by omega)]; done))))
      · refine L_iload_n eX10_aim_8 rfl ?_
        refine V_iflt eX10_aim_9 (fun h9 => ?_) (fun h9 => ?_)
        · refine L_sipush eX10_aim_44 rfl ?_
          exact V_ireturn eX10_aim_47 ((by first | (exfalso; omega) | (refine ⟨?_, rfl⟩; first | (rw [if_pos (by omega), en1]; done) | (rw [if_neg (by omega)]; done))))
        · refine L_iload_n eX10_aim_12 rfl ?_
          refine L_iload eX10_aim_13 rfl ?_
          refine V_icmpgt eX10_aim_15 (fun h15 => ?_) (fun h15 => ?_)
          · refine L_sipush eX10_aim_44 rfl ?_
            exact V_ireturn eX10_aim_47 ((by first | (exfalso; omega) | (refine ⟨?_, rfl⟩; first | (rw [if_pos (by omega), en1]; done) | (rw [if_neg (by omega)]; done))))
          · refine L_iload eX10_aim_18 rfl ?_
            refine L_aload_n eX10_aim_20 rfl ?_
            refine L_getR (r := 1) eX10_aim_21 f_X10_10.g rfl rfl (by decide) ?_
            refine L_getR (r := 6) eX10_aim_24 f_X10_130 rfl rfl (by decide) ?_
            refine L_get eX10_aim_27 f_X10_138.g rfl rfl ?_
            refine V_icmpgt eX10_aim_30 (fun h30 => ?_) (fun h30 => ?_)
            · refine L_sipush eX10_aim_44 rfl ?_
              exact V_ireturn eX10_aim_47 ((by first | (exfalso; omega) | (refine ⟨?_, rfl⟩; first | (rw [if_pos (by omega), en1]; done) | (rw [if_neg (by omega)]; done))))
            · refine L_iload eX10_aim_33 rfl ?_
              refine V_iflt eX10_aim_35 (fun h35 => ?_) (fun h35 => ?_)
              · refine L_sipush eX10_aim_44 rfl ?_
                exact V_ireturn eX10_aim_47 ((by first | (exfalso; omega) | (refine ⟨?_, rfl⟩; first | (rw [if_pos (by omega), en1]; done) | (rw [if_neg (by omega)]; done))))
              · refine L_iload eX10_aim_38 rfl ?_
                refine V_iconst eX10_aim_40 ?_
                refine V_icmple eX10_aim_41 (fun h41 => ?_) (fun h41 => ?_)
                · refine L_aload_n eX10_aim_48 rfl ?_
                  refine C_v1 (hC G) v_X10_195 eX10_aim_49 rfl rfl ?_
                  refine L_astore eX10_aim_52 (s_6 rfl rfl) ?_
                  refine L_aload eX10_aim_54 rfl ?_
                  refine L_iload_n eX10_aim_56 rfl ?_
                  refine L_iload_n eX10_aim_57 rfl ?_
                  refine L_iload_n eX10_aim_58 rfl ?_
                  refine L_iload eX10_aim_59 rfl ?_
                  refine C_v1 (p_X1_nearestTick (Or.inl rfl) i1.b1 (n := n) (T := T) (by rw [fk.n, k1.1 2 0 rfl]; exact en) hn.2 hT.2 hax hay (by omega) (by omega)) v_X10_272 eX10_aim_61 rfl rfl ?_
                  refine L_istore eX10_aim_64 (s_7 rfl rfl) ?_
                  refine L_iload eX10_aim_66 rfl ?_
                  refine V_ifne eX10_aim_68 (fun h68 => ?_) (fun h68 => ?_)
                  · refine L_iload eX10_aim_88 rfl ?_
                    exact V_ireturn eX10_aim_90 ((by first | (exfalso; omega) | (refine ⟨?_, rfl⟩; first | (rw [if_pos (by omega), en1]; done) | (rw [if_neg (by omega)]; done))))
                  · refine L_aload eX10_aim_71 rfl ?_
                    refine L_aload eX10_aim_73 rfl ?_
                    refine L_get eX10_aim_75 f_X10_276.g rfl rfl ?_
                    refine L_iload eX10_aim_78 rfl ?_
                    refine L_iload_n eX10_aim_80 rfl ?_
                    refine L_iload_n eX10_aim_81 rfl ?_
                    refine C_v1 (p_X1_farOf (Or.inl rfl) i1.b1 (by omega) (by omega) hax hay) v_X10_279 eX10_aim_82 rfl rfl ?_
                    refine V_goto eX10_aim_85 ?_
                    exact V_ireturn eX10_aim_90 ((by first | (exfalso; omega) | (refine ⟨?_, rfl⟩; first | (rw [if_pos (by omega), en1]; done) | (rw [if_neg (by omega)]; done))))
                · refine L_sipush eX10_aim_44 rfl ?_
                  exact V_ireturn eX10_aim_47 ((by first | (exfalso; omega) | (refine ⟨?_, rfl⟩; first | (rw [if_pos (by omega), en1]; done) | (rw [if_neg (by omega)]; done))))
    · rw [ec] at hN ⊢
      have hq := qP_b i2.b3 hax hay (k := n) (t := ntS (fun t => rt (qP (A2 84) (A2 85) x y n t)) a (b - a + 1).toNat) (by omega) (by omega)
      have hq2 := hq.2.2.2.2
      rw [qP_c ag hn.2 (by omega) (by omega)]
      refine L_ent [some (.ref 66), some (vi x), some (vi y), some (vi a), some (vi b), some (vi w), none, none] rfl ?_
      generalize hQ : (fun (r' : Option Value) (w' : wT) => r' = some (vi (if w = 0 then rt (qP (A2 84) (A2 85) x y n (ntS (fun t => rt (qP (A2 84) (A2 85) x y n t)) a (b - a + 1).toNat)) else ntS (fun t => rt (qP (A2 84) (A2 85) x y n t)) a (b - a + 1).toNat)) ∧ w' = sw F2 A2) = Q
      generalize hM2 : (b - a + 1).toNat = M at hQ hN hq2
      have g0n : F2 66 0 = n := by omega
      have LOOP : ∀ (r j : Nat) (t : Int), M < r + j → j ≤ M → t = a + j → V G mX11_aim Q 0 0 67 [some (.ref 66), some (vi x), some (vi y), some (vi a), some (vi b), some (vi w), some (vi (ntS (fun t => rt (qP (A2 84) (A2 85) x y n t)) a j)), some (vi t)] [] (sw F2 A2) := by
        intro r
        induction r with
        | zero => intro j t e1 e2; omega
        | succ r ih =>
          intro j t e1 e2 et
          have hnb := ntS_b (g := fun t => rt (qP (A2 84) (A2 85) x y n t)) (a := a) j
          refine L_iload eX11_aim_67 rfl ?_
          refine L_iload eX11_aim_69 rfl ?_
          -- at 71: .if_icmp .gt 46
          refine V_icmpgt eX11_aim_71 (fun h2 => ?_) (fun h2 => ?_)
          · have e : j = M := by omega
            subst e
            refine L_iload eX11_aim_117 rfl ?_
            -- at 119: .ifCond .ne 19
            refine V_ifne eX11_aim_119 (fun h3 => ?_) (fun h3 => ?_)
            · refine L_iload eX11_aim_138 rfl ?_
              -- at 140: .ireturn
              exact V_ireturn eX11_aim_140 (by rw [← hQ, if_neg (by omega)]; exact ⟨rfl, rfl⟩)
            · refine L_aload_n eX11_aim_122 rfl ?_
              refine L_aload_n eX11_aim_123 rfl ?_
              refine L_get eX11_aim_124 f_X11_121.g rfl rfl ?_
              rw [g0n]
              refine L_iload eX11_aim_127 rfl ?_
              refine L_iload_n eX11_aim_129 rfl ?_
              refine L_iload_n eX11_aim_130 rfl ?_
              refine C_v1 (p_X11_farFrom i2.b3 (by omega) (by omega) hax hay) v_X11_378 eX11_aim_131 rfl rfl ?_
              refine V_l2i eX11_aim_134 ?_
              refine V_goto eX11_aim_135 ?_
              -- at 140: .ireturn
              exact V_ireturn eX11_aim_140 (by rw [← hQ, if_pos (by omega)]; exact ⟨rfl, rfl⟩)
          · have hs : ntS (fun t => rt (qP (A2 84) (A2 85) x y n t)) a (j + 1) = if rt (qP (A2 84) (A2 85) x y n t) < rt (qP (A2 84) (A2 85) x y n (ntS (fun t => rt (qP (A2 84) (A2 85) x y n t)) a j)) then t else ntS (fun t => rt (qP (A2 84) (A2 85) x y n t)) a j := by rw [et]; rfl
            have hnx := ih (j + 1) (t + 1) (by omega) (by omega) (by omega)
            rw [hs] at hnx
            generalize ntS (fun t => rt (qP (A2 84) (A2 85) x y n t)) a j = cur at hnx hnb
            have b1 := qP_b i2.b3 hax hay (k := n) (t := t) (by omega) (by omega)
            have b2 := qP_b i2.b3 hax hay (k := n) (t := cur) (by omega) (by omega)
            have b3 := b1.2.2.2.2
            have b4 := b2.2.2.2.2
            refine L_aload_n eX11_aim_74 rfl ?_
            refine L_aload_n eX11_aim_75 rfl ?_
            refine L_get eX11_aim_76 f_X11_121.g rfl rfl ?_
            rw [g0n]
            refine L_iload eX11_aim_79 rfl ?_
            refine L_iload_n eX11_aim_81 rfl ?_
            refine L_iload_n eX11_aim_82 rfl ?_
            refine C_v1 (p_X11_farFrom i2.b3 (by omega) (by omega) hax hay) v_X11_378 eX11_aim_83 rfl rfl ?_
            refine L_aload_n eX11_aim_86 rfl ?_
            refine L_aload_n eX11_aim_87 rfl ?_
            refine L_get eX11_aim_88 f_X11_121.g rfl rfl ?_
            rw [g0n]
            refine L_iload eX11_aim_91 rfl ?_
            refine L_iload_n eX11_aim_93 rfl ?_
            refine L_iload_n eX11_aim_94 rfl ?_
            refine C_v1 (p_X11_farFrom i2.b3 (by omega) (by omega) hax hay) v_X11_378 eX11_aim_95 rfl rfl ?_
            -- at 98: .lcmp
            refine V_lcmpge eX11_aim_98 eX11_aim_99 (fun h3 => ?_) (fun h3 => ?_)
            · rw [if_neg (by omega)] at hnx
              refine L_iload eX11_aim_107 rfl ?_
              refine L_istore eX11_aim_109 (s_6 rfl rfl) ?_
              refine L_iinc eX11_aim_111 rfl (s_7 rfl rfl) ?_
              refine V_goto eX11_aim_114 ?_
              exact hnx
            · rw [if_pos (by omega)] at hnx
              refine L_iload eX11_aim_102 rfl ?_
              refine V_goto eX11_aim_104 ?_
              refine L_istore eX11_aim_109 (s_6 rfl rfl) ?_
              refine L_iinc eX11_aim_111 rfl (s_7 rfl rfl) ?_
              refine V_goto eX11_aim_114 ?_
              exact hnx
      have LP : V G mX11_aim Q 0 0 61 [some (.ref 66), some (vi x), some (vi y), some (vi a), some (vi b), some (vi w), none, none] [] (sw F2 A2) := by
        refine L_iload_n eX11_aim_61 rfl ?_
        refine L_istore eX11_aim_62 (s_6 rfl rfl) ?_
        refine L_iload_n eX11_aim_64 rfl ?_
        refine L_istore eX11_aim_65 (s_7 rfl rfl) ?_
        exact LOOP (M + 1) 0 a (by omega) (by omega) (by omega)
      refine L_iload_n eX11_aim_0 rfl ?_
      refine L_iload_n eX11_aim_1 rfl ?_
      refine C_s1 (p_X11_isPlace (by omega) (by omega)) v_X11_363 eX11_aim_2 rfl ?_
      refine V_ifeqB eX11_aim_5 (fun h5 => ?_) (fun h5 => ?_)
      · refine L_sipush eX11_aim_49 rfl ?_
        exact V_ireturn eX11_aim_52 ((by first | (exfalso; omega) | (rw [← hQ]; exact ⟨rfl, rfl⟩)))
      · refine L_iload_n eX11_aim_8 rfl ?_
        refine V_i2l eX11_aim_9 ?_
        refine L_lconst0 eX11_aim_10 ?_
        refine L_aload_n eX11_aim_11 rfl ?_
        refine L_get eX11_aim_12 f_X11_127.g rfl rfl ?_
        refine V_i2l eX11_aim_15 ?_
        refine C_s1 (p_X11_in (by omega) (by omega) (by omega)) v_X11_152 eX11_aim_16 rfl ?_
        refine V_ifeqB eX11_aim_19 (fun h19 => ?_) (fun h19 => ?_)
        · refine L_sipush eX11_aim_49 rfl ?_
          exact V_ireturn eX11_aim_52 ((by first | (exfalso; omega) | (rw [← hQ]; exact ⟨rfl, rfl⟩)))
        · refine L_iload eX11_aim_22 rfl ?_
          refine V_i2l eX11_aim_24 ?_
          refine L_iload_n eX11_aim_25 rfl ?_
          refine V_i2l eX11_aim_26 ?_
          refine L_aload_n eX11_aim_27 rfl ?_
          refine L_get eX11_aim_28 f_X11_127.g rfl rfl ?_
          refine V_i2l eX11_aim_31 ?_
          refine C_s1 (p_X11_in (by omega) (by omega) (by omega)) v_X11_152 eX11_aim_32 rfl ?_
          refine V_ifeqB eX11_aim_35 (fun h35 => ?_) (fun h35 => ?_)
          · refine L_sipush eX11_aim_49 rfl ?_
            exact V_ireturn eX11_aim_52 ((by first | (exfalso; omega) | (rw [← hQ]; exact ⟨rfl, rfl⟩)))
          · refine L_iload eX11_aim_38 rfl ?_
            refine V_i2l eX11_aim_40 ?_
            refine L_lconst0 eX11_aim_41 ?_
            refine L_lconst1 eX11_aim_42 ?_
            refine C_s1 (p_X11_in (by omega) (by omega) (by omega)) v_X11_152 eX11_aim_43 rfl ?_
            refine V_ifneB eX11_aim_46 (fun h46 => ?_) (fun h46 => ?_)
            · refine L_aload_n eX11_aim_53 rfl ?_
              refine L_aload_n eX11_aim_54 rfl ?_
              refine L_get eX11_aim_55 f_X11_133.g rfl rfl ?_
              refine C_v0 (hM G) v_X11_311 eX11_aim_58 rfl rfl ?_
              exact LP
            · refine L_sipush eX11_aim_49 rfl ?_
              exact V_ireturn eX11_aim_52 ((by first | (exfalso; omega) | (rw [← hQ]; exact ⟨rfl, rfl⟩)))
  · refine ⟨vi (-1002), F, A, F, A, fun G => ?_, fun G => ?_, h, ty_v⟩
    · refine L_ent [some (.ref 0), some (vi x), some (vi y), some (vi a), some (vi b), some (vi w), none, none] rfl ?_
      refine L_iload_n eX10_aim_0 rfl ?_
      refine L_iload_n eX10_aim_1 rfl ?_
      refine C_s1 (p_X10_isPlace (by omega) (by omega)) v_X10_248 eX10_aim_2 rfl ?_
      refine V_ifeqB eX10_aim_5 (fun h5 => ?_) (fun h5 => ?_)
      · refine L_sipush eX10_aim_44 rfl ?_
        exact V_ireturn eX10_aim_47 ((by first | (exfalso; omega) | exact ⟨rfl, rfl⟩))
      · refine L_iload_n eX10_aim_8 rfl ?_
        refine V_iflt eX10_aim_9 (fun h9 => ?_) (fun h9 => ?_)
        · refine L_sipush eX10_aim_44 rfl ?_
          exact V_ireturn eX10_aim_47 ((by first | (exfalso; omega) | exact ⟨rfl, rfl⟩))
        · refine L_iload_n eX10_aim_12 rfl ?_
          refine L_iload eX10_aim_13 rfl ?_
          refine V_icmpgt eX10_aim_15 (fun h15 => ?_) (fun h15 => ?_)
          · refine L_sipush eX10_aim_44 rfl ?_
            exact V_ireturn eX10_aim_47 ((by first | (exfalso; omega) | exact ⟨rfl, rfl⟩))
          · refine L_iload eX10_aim_18 rfl ?_
            refine L_aload_n eX10_aim_20 rfl ?_
            refine L_getR (r := 1) eX10_aim_21 f_X10_10.g rfl rfl (by decide) ?_
            refine L_getR (r := 6) eX10_aim_24 f_X10_130 rfl rfl (by decide) ?_
            refine L_get eX10_aim_27 f_X10_138.g rfl rfl ?_
            refine V_icmpgt eX10_aim_30 (fun h30 => ?_) (fun h30 => ?_)
            · refine L_sipush eX10_aim_44 rfl ?_
              exact V_ireturn eX10_aim_47 ((by first | (exfalso; omega) | exact ⟨rfl, rfl⟩))
            · refine L_iload eX10_aim_33 rfl ?_
              refine V_iflt eX10_aim_35 (fun h35 => ?_) (fun h35 => ?_)
              · refine L_sipush eX10_aim_44 rfl ?_
                exact V_ireturn eX10_aim_47 ((by first | (exfalso; omega) | exact ⟨rfl, rfl⟩))
              · refine L_iload eX10_aim_38 rfl ?_
                refine V_iconst eX10_aim_40 ?_
                refine V_icmple eX10_aim_41 (fun h41 => ?_) (fun h41 => ?_)
                · (exfalso; omega)
                · refine L_sipush eX10_aim_44 rfl ?_
                  exact V_ireturn eX10_aim_47 ((by first | (exfalso; omega) | exact ⟨rfl, rfl⟩))
    · refine L_ent [some (.ref 66), some (vi x), some (vi y), some (vi a), some (vi b), some (vi w), none, none] rfl ?_
      refine L_iload_n eX11_aim_0 rfl ?_
      refine L_iload_n eX11_aim_1 rfl ?_
      refine C_s1 (p_X11_isPlace (by omega) (by omega)) v_X11_363 eX11_aim_2 rfl ?_
      refine V_ifeqB eX11_aim_5 (fun h5 => ?_) (fun h5 => ?_)
      · refine L_sipush eX11_aim_49 rfl ?_
        exact V_ireturn eX11_aim_52 ((by first | (exfalso; omega) | exact ⟨rfl, rfl⟩))
      · refine L_iload_n eX11_aim_8 rfl ?_
        refine V_i2l eX11_aim_9 ?_
        refine L_lconst0 eX11_aim_10 ?_
        refine L_aload_n eX11_aim_11 rfl ?_
        refine L_get eX11_aim_12 f_X11_127.g rfl rfl ?_
        refine V_i2l eX11_aim_15 ?_
        refine C_s1 (p_X11_in (by omega) (by omega) (by omega)) v_X11_152 eX11_aim_16 rfl ?_
        refine V_ifeqB eX11_aim_19 (fun h19 => ?_) (fun h19 => ?_)
        · refine L_sipush eX11_aim_49 rfl ?_
          exact V_ireturn eX11_aim_52 ((by first | (exfalso; omega) | exact ⟨rfl, rfl⟩))
        · refine L_iload eX11_aim_22 rfl ?_
          refine V_i2l eX11_aim_24 ?_
          refine L_iload_n eX11_aim_25 rfl ?_
          refine V_i2l eX11_aim_26 ?_
          refine L_aload_n eX11_aim_27 rfl ?_
          refine L_get eX11_aim_28 f_X11_127.g rfl rfl ?_
          refine V_i2l eX11_aim_31 ?_
          refine C_s1 (p_X11_in (by omega) (by omega) (by omega)) v_X11_152 eX11_aim_32 rfl ?_
          refine V_ifeqB eX11_aim_35 (fun h35 => ?_) (fun h35 => ?_)
          · refine L_sipush eX11_aim_49 rfl ?_
            exact V_ireturn eX11_aim_52 ((by first | (exfalso; omega) | exact ⟨rfl, rfl⟩))
          · refine L_iload eX11_aim_38 rfl ?_
            refine V_i2l eX11_aim_40 ?_
            refine L_lconst0 eX11_aim_41 ?_
            refine L_lconst1 eX11_aim_42 ?_
            refine C_s1 (p_X11_in (by omega) (by omega) (by omega)) v_X11_152 eX11_aim_43 rfl ?_
            refine V_ifneB eX11_aim_46 (fun h46 => ?_) (fun h46 => ?_)
            · (exfalso; omega)
            · refine L_sipush eX11_aim_49 rfl ?_
              exact V_ireturn eX11_aim_52 ((by first | (exfalso; omega) | exact ⟨rfl, rfl⟩))
end R67

