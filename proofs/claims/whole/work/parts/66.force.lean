section R66
variable {F : fT} {A : nT}
theorem sI_c {f f' : Nat → Int} : ∀ m : Nat, (∀ j, j < m → f j = f' j) → sI f m = sI f' m := by
  intro m
  induction m with
  | zero => intro _; rfl
  | succ m ih =>
    intro h
    show sI f m + f m = sI f' m + f' m
    rw [ih (fun j hj => h j (by omega)), h m (by omega)]
/-- WEIGHTS are the same on both sides -/
theorem wt_same {F1 F2 : fT} {A1 A2 : nT} (fk : flK F1 A1) (i2 : Iv F2 A2) (k2 : kp F1 A1 F2 A2) {k : Int} (h1 : 1 ≤ k) (h2 : k ≤ F1 2 0) : A1 45 k = wtF (A2 67) (A2 68) k := by
  have e := k2.1 2 0 rfl
  rw [fk.wt k h1 h2]
  unfold wtF
  rw [i2.s.str _ (by omega) (by omega), i2.s.stf _ (by omega) (by omega), k2.2 3 rfl, k2.2 4 rfl]
theorem pr_force (h : Iv F A) {k t : Int} (hk : i32 k) (ht : i32 t) : Pr mX10_force mX11_force [vi k, vi t] F A := by
  unfold i32 at hk ht
  obtain ⟨n, T, en, eT, hn, hT⟩ := iv_nat h
  have hpieces : 1 ≤ F 2 0 ∧ F 2 0 ≤ 12 := h.ok.n
  have hticks : 1 ≤ F 6 0 ∧ F 6 0 ≤ 60 := h.ok.T
  have e0 := h.s.n
  have e5 := h.s.T
  by_cases h1 : (k = -1 ∨ 1 ≤ k ∧ k ≤ F 2 0) ∧ (1 ≤ t ∧ t ≤ F 6 0)
  · obtain ⟨F1, A1, F2, A2, hC, hM, i1, i2, fk, k1, k2, ag⟩ := iv_both h
    unfold inN at ag
    rw [en, eT] at ag
    have f0 := k1.1 66 0 rfl
    have f5 := k1.1 66 5 rfl
    have g0 := k2.1 66 0 rfl
    have c0 := k1.1 2 0 rfl
    have hpl2 : plK (n : Int) (A2 67) (A2 68) := by
      have := i2.m.2.2.2.1
      rw [show F2 66 0 = (n : Int) by omega] at this
      exact this
    have ws : ∀ k : Int, 1 ≤ k → k ≤ n → A1 45 k = wtF (A2 67) (A2 68) k := fun k a b => wt_same fk i2 k2 a (by omega)
    have hw45 : ∀ k : Int, 1 ≤ k → k ≤ n → 1 ≤ A1 45 k ∧ A1 45 k ≤ 80 := fun k a b => by
      rw [ws k a b]
      exact wt_b hpl2 ⟨a, b⟩
    by_cases hk1 : k = -1
    · have ec : sI (fun j => A1 45 (j + 1) * mv (A1 43) (A1 44) (j + 1) t) n = sI (fun j => wtF (A2 67) (A2 68) (j + 1) * mv (A2 84) (A2 85) (j + 1) t) n := sI_c n (fun j hj => by rw [ws _ (by omega) (by omega), mv_c ag hn.2 (by omega) (by omega)])
      refine ⟨vl (sI (fun j => A1 45 (j + 1) * mv (A1 43) (A1 44) (j + 1) t) n), F1, A1, F2, A2, fun G => ?_, fun G => ?_, i2, ty_l⟩
      · refine L_ent [some (.ref 0), some (vi k), some (vi t), none, none] rfl ?_
        refine L_aload_n eX10_force_0 rfl ?_
        refine L_iload_n eX10_force_1 rfl ?_
        refine C_v1 (p_X10_isJoint (by omega) hpieces) v_X10_189 eX10_force_2 rfl rfl ?_
        refine V_ifeqB eX10_force_5 (fun h5 => ?_) (fun h5 => ?_)
        · refine V_iconst eX10_force_16 ?_
          refine L_istore_n eX10_force_17 (s_3 rfl rfl) ?_
          refine L_iload_n eX10_force_18 rfl ?_
          refine V_iconst eX10_force_19 ?_
          refine V_icmpeq eX10_force_20 (fun h20 => ?_) (fun h20 => ?_)
          · refine L_aload_n eX10_force_27 rfl ?_
            refine L_iload_n eX10_force_28 rfl ?_
            refine C_v1 (p_X10_isTick (by omega) hticks) v_X10_192 eX10_force_29 rfl rfl ?_
            refine V_ifeqB eX10_force_32 (fun h32 => ?_) (fun h32 => ?_)
            · refine L_ldc2 eX10_force_39 k_X10_209 ?_
              exact V_lreturn eX10_force_42 ((by first | (exfalso; omega) | exact ⟨rfl, rfl⟩))
            · refine L_iload_n eX10_force_35 rfl ?_
              refine V_ifne eX10_force_36 (fun h36 => ?_) (fun h36 => ?_)
              · refine L_aload_n eX10_force_43 rfl ?_
                refine C_v1 (hC G) v_X10_195 eX10_force_44 rfl rfl ?_
                refine L_astore eX10_force_47 (s_4 rfl rfl) ?_
                refine L_iload_n eX10_force_49 rfl ?_
                refine V_iconst eX10_force_50 ?_
                refine V_icmpne eX10_force_51 (fun h51 => ?_) (fun h51 => ?_)
                · (exfalso; omega)
                · refine L_aload eX10_force_54 rfl ?_
                  refine L_iload_n eX10_force_56 rfl ?_
                  refine C_v1 (p_X1_forceOfAll (Or.inl rfl) i1.b1 (n := n) (by rw [fk.n, k1.1 2 0 rfl]; exact en) hn.2 (by omega) hw45) v_X10_211 eX10_force_57 rfl rfl ?_
                  refine V_goto eX10_force_60 ?_
                  exact V_lreturn eX10_force_70 ((by first | (exfalso; omega) | exact ⟨rfl, rfl⟩))
              · refine L_ldc2 eX10_force_39 k_X10_209 ?_
                exact V_lreturn eX10_force_42 ((by first | (exfalso; omega) | exact ⟨rfl, rfl⟩))
          · refine L_iload_n eX10_force_23 rfl ?_
            refine V_ifeq eX10_force_24 (fun h24 => ?_) (fun h24 => ?_)
            · refine L_ldc2 eX10_force_39 k_X10_209 ?_
              exact V_lreturn eX10_force_42 ((by first | (exfalso; omega) | exact ⟨rfl, rfl⟩))
            · refine L_aload_n eX10_force_27 rfl ?_
              refine L_iload_n eX10_force_28 rfl ?_
              refine C_v1 (p_X10_isTick (by omega) hticks) v_X10_192 eX10_force_29 rfl rfl ?_
              refine V_ifeqB eX10_force_32 (fun h32 => ?_) (fun h32 => ?_)
              · refine L_ldc2 eX10_force_39 k_X10_209 ?_
                exact V_lreturn eX10_force_42 ((by first | (exfalso; omega) | exact ⟨rfl, rfl⟩))
              · refine L_iload_n eX10_force_35 rfl ?_
                refine V_ifne eX10_force_36 (fun h36 => ?_) (fun h36 => ?_)
                · refine L_aload_n eX10_force_43 rfl ?_
                  refine C_v1 (hC G) v_X10_195 eX10_force_44 rfl rfl ?_
                  refine L_astore eX10_force_47 (s_4 rfl rfl) ?_
                  refine L_iload_n eX10_force_49 rfl ?_
                  refine V_iconst eX10_force_50 ?_
                  refine V_icmpne eX10_force_51 (fun h51 => ?_) (fun h51 => ?_)
                  · (exfalso; omega)
                  · refine L_aload eX10_force_54 rfl ?_
                    refine L_iload_n eX10_force_56 rfl ?_
                    refine C_v1 (p_X1_forceOfAll (Or.inl rfl) i1.b1 (n := n) (by rw [fk.n, k1.1 2 0 rfl]; exact en) hn.2 (by omega) hw45) v_X10_211 eX10_force_57 rfl rfl ?_
                    refine V_goto eX10_force_60 ?_
                    exact V_lreturn eX10_force_70 ((by first | (exfalso; omega) | exact ⟨rfl, rfl⟩))
                · refine L_ldc2 eX10_force_39 k_X10_209 ?_
                  exact V_lreturn eX10_force_42 ((by first | (exfalso; omega) | exact ⟨rfl, rfl⟩))
        · refine L_iload_n eX10_force_8 rfl ?_
          refine V_ifle eX10_force_9 (fun h9 => ?_) (fun h9 => ?_)
          · refine V_iconst eX10_force_16 ?_
            refine L_istore_n eX10_force_17 (s_3 rfl rfl) ?_
            refine L_iload_n eX10_force_18 rfl ?_
            refine V_iconst eX10_force_19 ?_
            refine V_icmpeq eX10_force_20 (fun h20 => ?_) (fun h20 => ?_)
            · refine L_aload_n eX10_force_27 rfl ?_
              refine L_iload_n eX10_force_28 rfl ?_
              refine C_v1 (p_X10_isTick (by omega) hticks) v_X10_192 eX10_force_29 rfl rfl ?_
              refine V_ifeqB eX10_force_32 (fun h32 => ?_) (fun h32 => ?_)
              · refine L_ldc2 eX10_force_39 k_X10_209 ?_
                exact V_lreturn eX10_force_42 ((by first | (exfalso; omega) | exact ⟨rfl, rfl⟩))
              · refine L_iload_n eX10_force_35 rfl ?_
                refine V_ifne eX10_force_36 (fun h36 => ?_) (fun h36 => ?_)
                · refine L_aload_n eX10_force_43 rfl ?_
                  refine C_v1 (hC G) v_X10_195 eX10_force_44 rfl rfl ?_
                  refine L_astore eX10_force_47 (s_4 rfl rfl) ?_
                  refine L_iload_n eX10_force_49 rfl ?_
                  refine V_iconst eX10_force_50 ?_
                  refine V_icmpne eX10_force_51 (fun h51 => ?_) (fun h51 => ?_)
                  · (exfalso; omega)
                  · refine L_aload eX10_force_54 rfl ?_
                    refine L_iload_n eX10_force_56 rfl ?_
                    refine C_v1 (p_X1_forceOfAll (Or.inl rfl) i1.b1 (n := n) (by rw [fk.n, k1.1 2 0 rfl]; exact en) hn.2 (by omega) hw45) v_X10_211 eX10_force_57 rfl rfl ?_
                    refine V_goto eX10_force_60 ?_
                    exact V_lreturn eX10_force_70 ((by first | (exfalso; omega) | exact ⟨rfl, rfl⟩))
                · refine L_ldc2 eX10_force_39 k_X10_209 ?_
                  exact V_lreturn eX10_force_42 ((by first | (exfalso; omega) | exact ⟨rfl, rfl⟩))
            · refine L_iload_n eX10_force_23 rfl ?_
              refine V_ifeq eX10_force_24 (fun h24 => ?_) (fun h24 => ?_)
              · refine L_ldc2 eX10_force_39 k_X10_209 ?_
                exact V_lreturn eX10_force_42 ((by first | (exfalso; omega) | exact ⟨rfl, rfl⟩))
              · refine L_aload_n eX10_force_27 rfl ?_
                refine L_iload_n eX10_force_28 rfl ?_
                refine C_v1 (p_X10_isTick (by omega) hticks) v_X10_192 eX10_force_29 rfl rfl ?_
                refine V_ifeqB eX10_force_32 (fun h32 => ?_) (fun h32 => ?_)
                · refine L_ldc2 eX10_force_39 k_X10_209 ?_
                  exact V_lreturn eX10_force_42 ((by first | (exfalso; omega) | exact ⟨rfl, rfl⟩))
                · refine L_iload_n eX10_force_35 rfl ?_
                  refine V_ifne eX10_force_36 (fun h36 => ?_) (fun h36 => ?_)
                  · refine L_aload_n eX10_force_43 rfl ?_
                    refine C_v1 (hC G) v_X10_195 eX10_force_44 rfl rfl ?_
                    refine L_astore eX10_force_47 (s_4 rfl rfl) ?_
                    refine L_iload_n eX10_force_49 rfl ?_
                    refine V_iconst eX10_force_50 ?_
                    refine V_icmpne eX10_force_51 (fun h51 => ?_) (fun h51 => ?_)
                    · (exfalso; omega)
                    · refine L_aload eX10_force_54 rfl ?_
                      refine L_iload_n eX10_force_56 rfl ?_
                      refine C_v1 (p_X1_forceOfAll (Or.inl rfl) i1.b1 (n := n) (by rw [fk.n, k1.1 2 0 rfl]; exact en) hn.2 (by omega) hw45) v_X10_211 eX10_force_57 rfl rfl ?_
                      refine V_goto eX10_force_60 ?_
                      exact V_lreturn eX10_force_70 ((by first | (exfalso; omega) | exact ⟨rfl, rfl⟩))
                  · refine L_ldc2 eX10_force_39 k_X10_209 ?_
                    exact V_lreturn eX10_force_42 ((by first | (exfalso; omega) | exact ⟨rfl, rfl⟩))
          · refine V_iconst eX10_force_12 ?_
            refine V_goto eX10_force_13 ?_
            refine L_istore_n eX10_force_17 (s_3 rfl rfl) ?_
            refine L_iload_n eX10_force_18 rfl ?_
            refine V_iconst eX10_force_19 ?_
            refine V_icmpeq eX10_force_20 (fun h20 => ?_) (fun h20 => ?_)
            · refine L_aload_n eX10_force_27 rfl ?_
              refine L_iload_n eX10_force_28 rfl ?_
              refine C_v1 (p_X10_isTick (by omega) hticks) v_X10_192 eX10_force_29 rfl rfl ?_
              refine V_ifeqB eX10_force_32 (fun h32 => ?_) (fun h32 => ?_)
              · refine L_ldc2 eX10_force_39 k_X10_209 ?_
                exact V_lreturn eX10_force_42 ((by first | (exfalso; omega) | exact ⟨rfl, rfl⟩))
              · refine L_iload_n eX10_force_35 rfl ?_
                refine V_ifne eX10_force_36 (fun h36 => ?_) (fun h36 => ?_)
                · refine L_aload_n eX10_force_43 rfl ?_
                  refine C_v1 (hC G) v_X10_195 eX10_force_44 rfl rfl ?_
                  refine L_astore eX10_force_47 (s_4 rfl rfl) ?_
                  refine L_iload_n eX10_force_49 rfl ?_
                  refine V_iconst eX10_force_50 ?_
                  refine V_icmpne eX10_force_51 (fun h51 => ?_) (fun h51 => ?_)
                  · (exfalso; omega)
                  · refine L_aload eX10_force_54 rfl ?_
                    refine L_iload_n eX10_force_56 rfl ?_
                    refine C_v1 (p_X1_forceOfAll (Or.inl rfl) i1.b1 (n := n) (by rw [fk.n, k1.1 2 0 rfl]; exact en) hn.2 (by omega) hw45) v_X10_211 eX10_force_57 rfl rfl ?_
                    refine V_goto eX10_force_60 ?_
                    exact V_lreturn eX10_force_70 ((by first | (exfalso; omega) | exact ⟨rfl, rfl⟩))
                · refine L_ldc2 eX10_force_39 k_X10_209 ?_
                  exact V_lreturn eX10_force_42 ((by first | (exfalso; omega) | exact ⟨rfl, rfl⟩))
            · refine L_iload_n eX10_force_23 rfl ?_
              refine V_ifeq eX10_force_24 (fun h24 => ?_) (fun h24 => ?_)
              · refine L_ldc2 eX10_force_39 k_X10_209 ?_
                exact V_lreturn eX10_force_42 ((by first | (exfalso; omega) | exact ⟨rfl, rfl⟩))
              · refine L_aload_n eX10_force_27 rfl ?_
                refine L_iload_n eX10_force_28 rfl ?_
                refine C_v1 (p_X10_isTick (by omega) hticks) v_X10_192 eX10_force_29 rfl rfl ?_
                refine V_ifeqB eX10_force_32 (fun h32 => ?_) (fun h32 => ?_)
                · refine L_ldc2 eX10_force_39 k_X10_209 ?_
                  exact V_lreturn eX10_force_42 ((by first | (exfalso; omega) | exact ⟨rfl, rfl⟩))
                · refine L_iload_n eX10_force_35 rfl ?_
                  refine V_ifne eX10_force_36 (fun h36 => ?_) (fun h36 => ?_)
                  · refine L_aload_n eX10_force_43 rfl ?_
                    refine C_v1 (hC G) v_X10_195 eX10_force_44 rfl rfl ?_
                    refine L_astore eX10_force_47 (s_4 rfl rfl) ?_
                    refine L_iload_n eX10_force_49 rfl ?_
                    refine V_iconst eX10_force_50 ?_
                    refine V_icmpne eX10_force_51 (fun h51 => ?_) (fun h51 => ?_)
                    · (exfalso; omega)
                    · refine L_aload eX10_force_54 rfl ?_
                      refine L_iload_n eX10_force_56 rfl ?_
                      refine C_v1 (p_X1_forceOfAll (Or.inl rfl) i1.b1 (n := n) (by rw [fk.n, k1.1 2 0 rfl]; exact en) hn.2 (by omega) hw45) v_X10_211 eX10_force_57 rfl rfl ?_
                      refine V_goto eX10_force_60 ?_
                      exact V_lreturn eX10_force_70 ((by first | (exfalso; omega) | exact ⟨rfl, rfl⟩))
                  · refine L_ldc2 eX10_force_39 k_X10_209 ?_
                    exact V_lreturn eX10_force_42 ((by first | (exfalso; omega) | exact ⟨rfl, rfl⟩))
      · rw [ec]
        refine L_ent [some (.ref 66), some (vi k), some (vi t), none, none, none] rfl ?_
        generalize hQ : (fun (r' : Option Value) (w : wT) => r' = some (vl (sI (fun j => wtF (A2 67) (A2 68) (j + 1) * mv (A2 84) (A2 85) (j + 1) t) n)) ∧ w = sw F2 A2) = Q
        have LOOP : ∀ (r j : Nat) (i : Int), n < r + j → j ≤ n → i = j + 1 → V G mX11_force Q 0 0 62 [some (.ref 66), some (vi k), some (vi t), some (vl (sI (fun j => wtF (A2 67) (A2 68) (j + 1) * mv (A2 84) (A2 85) (j + 1) t) j)), none, some (vi i)] [] (sw F2 A2) := by
          intro r
          induction r with
          | zero => intro j i e1 e2; omega
          | succ r ih =>
            intro j i e1 e2 ei
            refine L_iload eX11_force_62 rfl ?_
            refine L_aload_n eX11_force_64 rfl ?_
            refine L_get eX11_force_65 f_X11_121.g rfl rfl ?_
            -- at 68: .if_icmp .gt 19
            refine V_icmpgt eX11_force_68 (fun h2 => ?_) (fun h2 => ?_)
            · have e : j = n := by omega
              subst e
              refine L_lload_n eX11_force_87 rfl ?_
              -- at 88: .lreturn
              exact V_lreturn eX11_force_88 (by rw [← hQ]; exact ⟨rfl, rfl⟩)
            · subst ei
              refine L_lload_n eX11_force_71 rfl ?_
              refine L_aload_n eX11_force_72 rfl ?_
              refine L_iload eX11_force_73 rfl ?_
              refine L_iload_n eX11_force_75 rfl ?_
              refine C_v1 (p_X11_forceOf (n := n) hpl2 (by omega) (by omega) (by omega)) v_X11_320 eX11_force_76 rfl rfl ?_
              refine V_ladd eX11_force_79 ?_
              refine L_lstore_n eX11_force_80 (t_3 rfl) ?_
              refine L_iinc eX11_force_81 rfl (s_5 rfl rfl) ?_
              refine V_goto eX11_force_84 ?_
              exact ih (j + 1) _ (by omega) (by omega) (by omega)
        have LP : V G mX11_force Q 0 0 57 [some (.ref 66), some (vi k), some (vi t), none, none, none] [] (sw F2 A2) := by
          refine L_lconst0 eX11_force_57 ?_
          refine L_lstore_n eX11_force_58 (t_3 rfl) ?_
          refine V_iconst eX11_force_59 ?_
          refine L_istore eX11_force_60 (s_5 rfl rfl) ?_
          exact LOOP (n + 1) 0 1 (by omega) (by omega) (by omega)
        refine L_iload_n eX11_force_0 rfl ?_
        refine V_iconst eX11_force_1 ?_
        refine V_icmpeq eX11_force_2 (fun h2 => ?_) (fun h2 => ?_)
        · refine L_iload_n eX11_force_19 rfl ?_
          refine V_i2l eX11_force_20 ?_
          refine L_lconst1 eX11_force_21 ?_
          refine L_aload_n eX11_force_22 rfl ?_
          refine L_get eX11_force_23 f_X11_127.g rfl rfl ?_
          refine V_i2l eX11_force_26 ?_
          refine C_s1 (p_X11_in (by omega) (by omega) (by omega)) v_X11_152 eX11_force_27 rfl ?_
          refine V_ifneB eX11_force_30 (fun h30 => ?_) (fun h30 => ?_)
          · refine L_aload_n eX11_force_37 rfl ?_
            refine L_aload_n eX11_force_38 rfl ?_
            refine L_get eX11_force_39 f_X11_133.g rfl rfl ?_
            refine C_v0 (hM G) v_X11_311 eX11_force_42 rfl rfl ?_
            refine L_iload_n eX11_force_45 rfl ?_
            refine V_iconst eX11_force_46 ?_
            refine V_icmpeq eX11_force_47 (fun h47 => ?_) (fun h47 => ?_)
            · exact LP
            · (exfalso; omega)
          · refine L_ldc2 eX11_force_33 k_X11_318 ?_
            exact V_lreturn eX11_force_36 ((by first | (exfalso; omega) | (rw [← hQ]; exact ⟨rfl, rfl⟩)))
        · refine L_iload_n eX11_force_5 rfl ?_
          refine V_i2l eX11_force_6 ?_
          refine L_lconst1 eX11_force_7 ?_
          refine L_aload_n eX11_force_8 rfl ?_
          refine L_get eX11_force_9 f_X11_121.g rfl rfl ?_
          refine V_i2l eX11_force_12 ?_
          refine C_s1 (p_X11_in (by omega) (by omega) (by omega)) v_X11_152 eX11_force_13 rfl ?_
          refine V_ifeqB eX11_force_16 (fun h16 => ?_) (fun h16 => ?_)
          · refine L_ldc2 eX11_force_33 k_X11_318 ?_
            exact V_lreturn eX11_force_36 ((by first | (exfalso; omega) | (rw [← hQ]; exact ⟨rfl, rfl⟩)))
          · refine L_iload_n eX11_force_19 rfl ?_
            refine V_i2l eX11_force_20 ?_
            refine L_lconst1 eX11_force_21 ?_
            refine L_aload_n eX11_force_22 rfl ?_
            refine L_get eX11_force_23 f_X11_127.g rfl rfl ?_
            refine V_i2l eX11_force_26 ?_
            refine C_s1 (p_X11_in (by omega) (by omega) (by omega)) v_X11_152 eX11_force_27 rfl ?_
            refine V_ifneB eX11_force_30 (fun h30 => ?_) (fun h30 => ?_)
            · refine L_aload_n eX11_force_37 rfl ?_
              refine L_aload_n eX11_force_38 rfl ?_
              refine L_get eX11_force_39 f_X11_133.g rfl rfl ?_
              refine C_v0 (hM G) v_X11_311 eX11_force_42 rfl rfl ?_
              refine L_iload_n eX11_force_45 rfl ?_
              refine V_iconst eX11_force_46 ?_
              refine V_icmpeq eX11_force_47 (fun h47 => ?_) (fun h47 => ?_)
              · exact LP
              · (exfalso; omega)
            · refine L_ldc2 eX11_force_33 k_X11_318 ?_
              exact V_lreturn eX11_force_36 ((by first | (exfalso; omega) | (rw [← hQ]; exact ⟨rfl, rfl⟩)))
    · have ec : A1 45 k * mv (A1 43) (A1 44) k t = wtF (A2 67) (A2 68) k * mv (A2 84) (A2 85) k t := by rw [ws _ (by omega) (by omega), mv_c ag hn.2 (by omega) (by omega)]
      refine ⟨vl (A1 45 k * mv (A1 43) (A1 44) k t), F1, A1, F2, A2, fun G => ?_, fun G => ?_, i2, ty_l⟩
      · refine L_ent [some (.ref 0), some (vi k), some (vi t), none, none] rfl ?_
        refine L_aload_n eX10_force_0 rfl ?_
        refine L_iload_n eX10_force_1 rfl ?_
        refine C_v1 (p_X10_isJoint (by omega) hpieces) v_X10_189 eX10_force_2 rfl rfl ?_
        refine V_ifeqB eX10_force_5 (fun h5 => ?_) (fun h5 => ?_)
        · refine V_iconst eX10_force_16 ?_
          refine L_istore_n eX10_force_17 (s_3 rfl rfl) ?_
          refine L_iload_n eX10_force_18 rfl ?_
          refine V_iconst eX10_force_19 ?_
          refine V_icmpeq eX10_force_20 (fun h20 => ?_) (fun h20 => ?_)
          · refine L_aload_n eX10_force_27 rfl ?_
            refine L_iload_n eX10_force_28 rfl ?_
            refine C_v1 (p_X10_isTick (by omega) hticks) v_X10_192 eX10_force_29 rfl rfl ?_
            refine V_ifeqB eX10_force_32 (fun h32 => ?_) (fun h32 => ?_)
            · refine L_ldc2 eX10_force_39 k_X10_209 ?_
              exact V_lreturn eX10_force_42 ((by first | (exfalso; omega) | exact ⟨rfl, rfl⟩))
            · refine L_iload_n eX10_force_35 rfl ?_
              refine V_ifne eX10_force_36 (fun h36 => ?_) (fun h36 => ?_)
              · refine L_aload_n eX10_force_43 rfl ?_
                refine C_v1 (hC G) v_X10_195 eX10_force_44 rfl rfl ?_
                refine L_astore eX10_force_47 (s_4 rfl rfl) ?_
                refine L_iload_n eX10_force_49 rfl ?_
                refine V_iconst eX10_force_50 ?_
                refine V_icmpne eX10_force_51 (fun h51 => ?_) (fun h51 => ?_)
                · refine L_aload eX10_force_63 rfl ?_
                  refine L_iload_n eX10_force_65 rfl ?_
                  refine L_iload_n eX10_force_66 rfl ?_
                  refine C_v1 (p_X1_forceOf (Or.inl rfl) i1.b1 (by omega) (by omega) (hw45 _ (by omega) (by omega))) v_X10_215 eX10_force_67 rfl rfl ?_
                  exact V_lreturn eX10_force_70 ((by first | (exfalso; omega) | exact ⟨rfl, rfl⟩))
                · (exfalso; omega)
              · refine L_ldc2 eX10_force_39 k_X10_209 ?_
                exact V_lreturn eX10_force_42 ((by first | (exfalso; omega) | exact ⟨rfl, rfl⟩))
          · refine L_iload_n eX10_force_23 rfl ?_
            refine V_ifeq eX10_force_24 (fun h24 => ?_) (fun h24 => ?_)
            · refine L_ldc2 eX10_force_39 k_X10_209 ?_
              exact V_lreturn eX10_force_42 ((by first | (exfalso; omega) | exact ⟨rfl, rfl⟩))
            · refine L_aload_n eX10_force_27 rfl ?_
              refine L_iload_n eX10_force_28 rfl ?_
              refine C_v1 (p_X10_isTick (by omega) hticks) v_X10_192 eX10_force_29 rfl rfl ?_
              refine V_ifeqB eX10_force_32 (fun h32 => ?_) (fun h32 => ?_)
              · refine L_ldc2 eX10_force_39 k_X10_209 ?_
                exact V_lreturn eX10_force_42 ((by first | (exfalso; omega) | exact ⟨rfl, rfl⟩))
              · refine L_iload_n eX10_force_35 rfl ?_
                refine V_ifne eX10_force_36 (fun h36 => ?_) (fun h36 => ?_)
                · refine L_aload_n eX10_force_43 rfl ?_
                  refine C_v1 (hC G) v_X10_195 eX10_force_44 rfl rfl ?_
                  refine L_astore eX10_force_47 (s_4 rfl rfl) ?_
                  refine L_iload_n eX10_force_49 rfl ?_
                  refine V_iconst eX10_force_50 ?_
                  refine V_icmpne eX10_force_51 (fun h51 => ?_) (fun h51 => ?_)
                  · refine L_aload eX10_force_63 rfl ?_
                    refine L_iload_n eX10_force_65 rfl ?_
                    refine L_iload_n eX10_force_66 rfl ?_
                    refine C_v1 (p_X1_forceOf (Or.inl rfl) i1.b1 (by omega) (by omega) (hw45 _ (by omega) (by omega))) v_X10_215 eX10_force_67 rfl rfl ?_
                    exact V_lreturn eX10_force_70 ((by first | (exfalso; omega) | exact ⟨rfl, rfl⟩))
                  · (exfalso; omega)
                · refine L_ldc2 eX10_force_39 k_X10_209 ?_
                  exact V_lreturn eX10_force_42 ((by first | (exfalso; omega) | exact ⟨rfl, rfl⟩))
        · refine L_iload_n eX10_force_8 rfl ?_
          refine V_ifle eX10_force_9 (fun h9 => ?_) (fun h9 => ?_)
          · refine V_iconst eX10_force_16 ?_
            refine L_istore_n eX10_force_17 (s_3 rfl rfl) ?_
            refine L_iload_n eX10_force_18 rfl ?_
            refine V_iconst eX10_force_19 ?_
            refine V_icmpeq eX10_force_20 (fun h20 => ?_) (fun h20 => ?_)
            · refine L_aload_n eX10_force_27 rfl ?_
              refine L_iload_n eX10_force_28 rfl ?_
              refine C_v1 (p_X10_isTick (by omega) hticks) v_X10_192 eX10_force_29 rfl rfl ?_
              refine V_ifeqB eX10_force_32 (fun h32 => ?_) (fun h32 => ?_)
              · refine L_ldc2 eX10_force_39 k_X10_209 ?_
                exact V_lreturn eX10_force_42 ((by first | (exfalso; omega) | exact ⟨rfl, rfl⟩))
              · refine L_iload_n eX10_force_35 rfl ?_
                refine V_ifne eX10_force_36 (fun h36 => ?_) (fun h36 => ?_)
                · refine L_aload_n eX10_force_43 rfl ?_
                  refine C_v1 (hC G) v_X10_195 eX10_force_44 rfl rfl ?_
                  refine L_astore eX10_force_47 (s_4 rfl rfl) ?_
                  refine L_iload_n eX10_force_49 rfl ?_
                  refine V_iconst eX10_force_50 ?_
                  refine V_icmpne eX10_force_51 (fun h51 => ?_) (fun h51 => ?_)
                  · refine L_aload eX10_force_63 rfl ?_
                    refine L_iload_n eX10_force_65 rfl ?_
                    refine L_iload_n eX10_force_66 rfl ?_
                    refine C_v1 (p_X1_forceOf (Or.inl rfl) i1.b1 (by omega) (by omega) (hw45 _ (by omega) (by omega))) v_X10_215 eX10_force_67 rfl rfl ?_
                    exact V_lreturn eX10_force_70 ((by first | (exfalso; omega) | exact ⟨rfl, rfl⟩))
                  · (exfalso; omega)
                · refine L_ldc2 eX10_force_39 k_X10_209 ?_
                  exact V_lreturn eX10_force_42 ((by first | (exfalso; omega) | exact ⟨rfl, rfl⟩))
            · refine L_iload_n eX10_force_23 rfl ?_
              refine V_ifeq eX10_force_24 (fun h24 => ?_) (fun h24 => ?_)
              · refine L_ldc2 eX10_force_39 k_X10_209 ?_
                exact V_lreturn eX10_force_42 ((by first | (exfalso; omega) | exact ⟨rfl, rfl⟩))
              · refine L_aload_n eX10_force_27 rfl ?_
                refine L_iload_n eX10_force_28 rfl ?_
                refine C_v1 (p_X10_isTick (by omega) hticks) v_X10_192 eX10_force_29 rfl rfl ?_
                refine V_ifeqB eX10_force_32 (fun h32 => ?_) (fun h32 => ?_)
                · refine L_ldc2 eX10_force_39 k_X10_209 ?_
                  exact V_lreturn eX10_force_42 ((by first | (exfalso; omega) | exact ⟨rfl, rfl⟩))
                · refine L_iload_n eX10_force_35 rfl ?_
                  refine V_ifne eX10_force_36 (fun h36 => ?_) (fun h36 => ?_)
                  · refine L_aload_n eX10_force_43 rfl ?_
                    refine C_v1 (hC G) v_X10_195 eX10_force_44 rfl rfl ?_
                    refine L_astore eX10_force_47 (s_4 rfl rfl) ?_
                    refine L_iload_n eX10_force_49 rfl ?_
                    refine V_iconst eX10_force_50 ?_
                    refine V_icmpne eX10_force_51 (fun h51 => ?_) (fun h51 => ?_)
                    · refine L_aload eX10_force_63 rfl ?_
                      refine L_iload_n eX10_force_65 rfl ?_
                      refine L_iload_n eX10_force_66 rfl ?_
                      refine C_v1 (p_X1_forceOf (Or.inl rfl) i1.b1 (by omega) (by omega) (hw45 _ (by omega) (by omega))) v_X10_215 eX10_force_67 rfl rfl ?_
                      exact V_lreturn eX10_force_70 ((by first | (exfalso; omega) | exact ⟨rfl, rfl⟩))
                    · (exfalso; omega)
                  · refine L_ldc2 eX10_force_39 k_X10_209 ?_
                    exact V_lreturn eX10_force_42 ((by first | (exfalso; omega) | exact ⟨rfl, rfl⟩))
          · refine V_iconst eX10_force_12 ?_
            refine V_goto eX10_force_13 ?_
            refine L_istore_n eX10_force_17 (s_3 rfl rfl) ?_
            refine L_iload_n eX10_force_18 rfl ?_
            refine V_iconst eX10_force_19 ?_
            refine V_icmpeq eX10_force_20 (fun h20 => ?_) (fun h20 => ?_)
            · refine L_aload_n eX10_force_27 rfl ?_
              refine L_iload_n eX10_force_28 rfl ?_
              refine C_v1 (p_X10_isTick (by omega) hticks) v_X10_192 eX10_force_29 rfl rfl ?_
              refine V_ifeqB eX10_force_32 (fun h32 => ?_) (fun h32 => ?_)
              · refine L_ldc2 eX10_force_39 k_X10_209 ?_
                exact V_lreturn eX10_force_42 ((by first | (exfalso; omega) | exact ⟨rfl, rfl⟩))
              · refine L_iload_n eX10_force_35 rfl ?_
                refine V_ifne eX10_force_36 (fun h36 => ?_) (fun h36 => ?_)
                · refine L_aload_n eX10_force_43 rfl ?_
                  refine C_v1 (hC G) v_X10_195 eX10_force_44 rfl rfl ?_
                  refine L_astore eX10_force_47 (s_4 rfl rfl) ?_
                  refine L_iload_n eX10_force_49 rfl ?_
                  refine V_iconst eX10_force_50 ?_
                  refine V_icmpne eX10_force_51 (fun h51 => ?_) (fun h51 => ?_)
                  · refine L_aload eX10_force_63 rfl ?_
                    refine L_iload_n eX10_force_65 rfl ?_
                    refine L_iload_n eX10_force_66 rfl ?_
                    refine C_v1 (p_X1_forceOf (Or.inl rfl) i1.b1 (by omega) (by omega) (hw45 _ (by omega) (by omega))) v_X10_215 eX10_force_67 rfl rfl ?_
                    exact V_lreturn eX10_force_70 ((by first | (exfalso; omega) | exact ⟨rfl, rfl⟩))
                  · (exfalso; omega)
                · refine L_ldc2 eX10_force_39 k_X10_209 ?_
                  exact V_lreturn eX10_force_42 ((by first | (exfalso; omega) | exact ⟨rfl, rfl⟩))
            · refine L_iload_n eX10_force_23 rfl ?_
              refine V_ifeq eX10_force_24 (fun h24 => ?_) (fun h24 => ?_)
              · refine L_ldc2 eX10_force_39 k_X10_209 ?_
                exact V_lreturn eX10_force_42 ((by first | (exfalso; omega) | exact ⟨rfl, rfl⟩))
              · refine L_aload_n eX10_force_27 rfl ?_
                refine L_iload_n eX10_force_28 rfl ?_
                refine C_v1 (p_X10_isTick (by omega) hticks) v_X10_192 eX10_force_29 rfl rfl ?_
                refine V_ifeqB eX10_force_32 (fun h32 => ?_) (fun h32 => ?_)
                · refine L_ldc2 eX10_force_39 k_X10_209 ?_
                  exact V_lreturn eX10_force_42 ((by first | (exfalso; omega) | exact ⟨rfl, rfl⟩))
                · refine L_iload_n eX10_force_35 rfl ?_
                  refine V_ifne eX10_force_36 (fun h36 => ?_) (fun h36 => ?_)
                  · refine L_aload_n eX10_force_43 rfl ?_
                    refine C_v1 (hC G) v_X10_195 eX10_force_44 rfl rfl ?_
                    refine L_astore eX10_force_47 (s_4 rfl rfl) ?_
                    refine L_iload_n eX10_force_49 rfl ?_
                    refine V_iconst eX10_force_50 ?_
                    refine V_icmpne eX10_force_51 (fun h51 => ?_) (fun h51 => ?_)
                    · refine L_aload eX10_force_63 rfl ?_
                      refine L_iload_n eX10_force_65 rfl ?_
                      refine L_iload_n eX10_force_66 rfl ?_
                      refine C_v1 (p_X1_forceOf (Or.inl rfl) i1.b1 (by omega) (by omega) (hw45 _ (by omega) (by omega))) v_X10_215 eX10_force_67 rfl rfl ?_
                      exact V_lreturn eX10_force_70 ((by first | (exfalso; omega) | exact ⟨rfl, rfl⟩))
                    · (exfalso; omega)
                  · refine L_ldc2 eX10_force_39 k_X10_209 ?_
                    exact V_lreturn eX10_force_42 ((by first | (exfalso; omega) | exact ⟨rfl, rfl⟩))
      · rw [ec]
        refine L_ent [some (.ref 66), some (vi k), some (vi t), none, none, none] rfl ?_
        refine L_iload_n eX11_force_0 rfl ?_
        refine V_iconst eX11_force_1 ?_
        refine V_icmpeq eX11_force_2 (fun h2 => ?_) (fun h2 => ?_)
        · refine L_iload_n eX11_force_19 rfl ?_
          refine V_i2l eX11_force_20 ?_
          refine L_lconst1 eX11_force_21 ?_
          refine L_aload_n eX11_force_22 rfl ?_
          refine L_get eX11_force_23 f_X11_127.g rfl rfl ?_
          refine V_i2l eX11_force_26 ?_
          refine C_s1 (p_X11_in (by omega) (by omega) (by omega)) v_X11_152 eX11_force_27 rfl ?_
          refine V_ifneB eX11_force_30 (fun h30 => ?_) (fun h30 => ?_)
          · refine L_aload_n eX11_force_37 rfl ?_
            refine L_aload_n eX11_force_38 rfl ?_
            refine L_get eX11_force_39 f_X11_133.g rfl rfl ?_
            refine C_v0 (hM G) v_X11_311 eX11_force_42 rfl rfl ?_
            refine L_iload_n eX11_force_45 rfl ?_
            refine V_iconst eX11_force_46 ?_
            refine V_icmpeq eX11_force_47 (fun h47 => ?_) (fun h47 => ?_)
            · (exfalso; omega)
            · refine L_aload_n eX11_force_50 rfl ?_
              refine L_iload_n eX11_force_51 rfl ?_
              refine L_iload_n eX11_force_52 rfl ?_
              refine C_v1 (p_X11_forceOf (n := n) hpl2 (by omega) (by omega) (by omega)) v_X11_320 eX11_force_53 rfl rfl ?_
              exact V_lreturn eX11_force_56 ((by first | (exfalso; omega) | exact ⟨rfl, rfl⟩))
          · refine L_ldc2 eX11_force_33 k_X11_318 ?_
            exact V_lreturn eX11_force_36 ((by first | (exfalso; omega) | exact ⟨rfl, rfl⟩))
        · refine L_iload_n eX11_force_5 rfl ?_
          refine V_i2l eX11_force_6 ?_
          refine L_lconst1 eX11_force_7 ?_
          refine L_aload_n eX11_force_8 rfl ?_
          refine L_get eX11_force_9 f_X11_121.g rfl rfl ?_
          refine V_i2l eX11_force_12 ?_
          refine C_s1 (p_X11_in (by omega) (by omega) (by omega)) v_X11_152 eX11_force_13 rfl ?_
          refine V_ifeqB eX11_force_16 (fun h16 => ?_) (fun h16 => ?_)
          · refine L_ldc2 eX11_force_33 k_X11_318 ?_
            exact V_lreturn eX11_force_36 ((by first | (exfalso; omega) | exact ⟨rfl, rfl⟩))
          · refine L_iload_n eX11_force_19 rfl ?_
            refine V_i2l eX11_force_20 ?_
            refine L_lconst1 eX11_force_21 ?_
            refine L_aload_n eX11_force_22 rfl ?_
            refine L_get eX11_force_23 f_X11_127.g rfl rfl ?_
            refine V_i2l eX11_force_26 ?_
            refine C_s1 (p_X11_in (by omega) (by omega) (by omega)) v_X11_152 eX11_force_27 rfl ?_
            refine V_ifneB eX11_force_30 (fun h30 => ?_) (fun h30 => ?_)
            · refine L_aload_n eX11_force_37 rfl ?_
              refine L_aload_n eX11_force_38 rfl ?_
              refine L_get eX11_force_39 f_X11_133.g rfl rfl ?_
              refine C_v0 (hM G) v_X11_311 eX11_force_42 rfl rfl ?_
              refine L_iload_n eX11_force_45 rfl ?_
              refine V_iconst eX11_force_46 ?_
              refine V_icmpeq eX11_force_47 (fun h47 => ?_) (fun h47 => ?_)
              · (exfalso; omega)
              · refine L_aload_n eX11_force_50 rfl ?_
                refine L_iload_n eX11_force_51 rfl ?_
                refine L_iload_n eX11_force_52 rfl ?_
                refine C_v1 (p_X11_forceOf (n := n) hpl2 (by omega) (by omega) (by omega)) v_X11_320 eX11_force_53 rfl rfl ?_
                exact V_lreturn eX11_force_56 ((by first | (exfalso; omega) | exact ⟨rfl, rfl⟩))
            · refine L_ldc2 eX11_force_33 k_X11_318 ?_
              exact V_lreturn eX11_force_36 ((by first | (exfalso; omega) | exact ⟨rfl, rfl⟩))
  · refine ⟨vl (-1001), F, A, F, A, fun G => ?_, fun G => ?_, h, ty_l⟩
    · refine L_ent [some (.ref 0), some (vi k), some (vi t), none, none] rfl ?_
      refine L_aload_n eX10_force_0 rfl ?_
      refine L_iload_n eX10_force_1 rfl ?_
      refine C_v1 (p_X10_isJoint (by omega) hpieces) v_X10_189 eX10_force_2 rfl rfl ?_
      refine V_ifeqB eX10_force_5 (fun h5 => ?_) (fun h5 => ?_)
      · refine V_iconst eX10_force_16 ?_
        refine L_istore_n eX10_force_17 (s_3 rfl rfl) ?_
        refine L_iload_n eX10_force_18 rfl ?_
        refine V_iconst eX10_force_19 ?_
        refine V_icmpeq eX10_force_20 (fun h20 => ?_) (fun h20 => ?_)
        · refine L_aload_n eX10_force_27 rfl ?_
          refine L_iload_n eX10_force_28 rfl ?_
          refine C_v1 (p_X10_isTick (by omega) hticks) v_X10_192 eX10_force_29 rfl rfl ?_
          refine V_ifeqB eX10_force_32 (fun h32 => ?_) (fun h32 => ?_)
          · refine L_ldc2 eX10_force_39 k_X10_209 ?_
            exact V_lreturn eX10_force_42 ((by first | (exfalso; omega) | exact ⟨rfl, rfl⟩))
          · refine L_iload_n eX10_force_35 rfl ?_
            refine V_ifne eX10_force_36 (fun h36 => ?_) (fun h36 => ?_)
            · (exfalso; omega)
            · refine L_ldc2 eX10_force_39 k_X10_209 ?_
              exact V_lreturn eX10_force_42 ((by first | (exfalso; omega) | exact ⟨rfl, rfl⟩))
        · refine L_iload_n eX10_force_23 rfl ?_
          refine V_ifeq eX10_force_24 (fun h24 => ?_) (fun h24 => ?_)
          · refine L_ldc2 eX10_force_39 k_X10_209 ?_
            exact V_lreturn eX10_force_42 ((by first | (exfalso; omega) | exact ⟨rfl, rfl⟩))
          · refine L_aload_n eX10_force_27 rfl ?_
            refine L_iload_n eX10_force_28 rfl ?_
            refine C_v1 (p_X10_isTick (by omega) hticks) v_X10_192 eX10_force_29 rfl rfl ?_
            refine V_ifeqB eX10_force_32 (fun h32 => ?_) (fun h32 => ?_)
            · refine L_ldc2 eX10_force_39 k_X10_209 ?_
              exact V_lreturn eX10_force_42 ((by first | (exfalso; omega) | exact ⟨rfl, rfl⟩))
            · refine L_iload_n eX10_force_35 rfl ?_
              refine V_ifne eX10_force_36 (fun h36 => ?_) (fun h36 => ?_)
              · (exfalso; omega)
              · refine L_ldc2 eX10_force_39 k_X10_209 ?_
                exact V_lreturn eX10_force_42 ((by first | (exfalso; omega) | exact ⟨rfl, rfl⟩))
      · refine L_iload_n eX10_force_8 rfl ?_
        refine V_ifle eX10_force_9 (fun h9 => ?_) (fun h9 => ?_)
        · refine V_iconst eX10_force_16 ?_
          refine L_istore_n eX10_force_17 (s_3 rfl rfl) ?_
          refine L_iload_n eX10_force_18 rfl ?_
          refine V_iconst eX10_force_19 ?_
          refine V_icmpeq eX10_force_20 (fun h20 => ?_) (fun h20 => ?_)
          · refine L_aload_n eX10_force_27 rfl ?_
            refine L_iload_n eX10_force_28 rfl ?_
            refine C_v1 (p_X10_isTick (by omega) hticks) v_X10_192 eX10_force_29 rfl rfl ?_
            refine V_ifeqB eX10_force_32 (fun h32 => ?_) (fun h32 => ?_)
            · refine L_ldc2 eX10_force_39 k_X10_209 ?_
              exact V_lreturn eX10_force_42 ((by first | (exfalso; omega) | exact ⟨rfl, rfl⟩))
            · refine L_iload_n eX10_force_35 rfl ?_
              refine V_ifne eX10_force_36 (fun h36 => ?_) (fun h36 => ?_)
              · (exfalso; omega)
              · refine L_ldc2 eX10_force_39 k_X10_209 ?_
                exact V_lreturn eX10_force_42 ((by first | (exfalso; omega) | exact ⟨rfl, rfl⟩))
          · refine L_iload_n eX10_force_23 rfl ?_
            refine V_ifeq eX10_force_24 (fun h24 => ?_) (fun h24 => ?_)
            · refine L_ldc2 eX10_force_39 k_X10_209 ?_
              exact V_lreturn eX10_force_42 ((by first | (exfalso; omega) | exact ⟨rfl, rfl⟩))
            · refine L_aload_n eX10_force_27 rfl ?_
              refine L_iload_n eX10_force_28 rfl ?_
              refine C_v1 (p_X10_isTick (by omega) hticks) v_X10_192 eX10_force_29 rfl rfl ?_
              refine V_ifeqB eX10_force_32 (fun h32 => ?_) (fun h32 => ?_)
              · refine L_ldc2 eX10_force_39 k_X10_209 ?_
                exact V_lreturn eX10_force_42 ((by first | (exfalso; omega) | exact ⟨rfl, rfl⟩))
              · refine L_iload_n eX10_force_35 rfl ?_
                refine V_ifne eX10_force_36 (fun h36 => ?_) (fun h36 => ?_)
                · (exfalso; omega)
                · refine L_ldc2 eX10_force_39 k_X10_209 ?_
                  exact V_lreturn eX10_force_42 ((by first | (exfalso; omega) | exact ⟨rfl, rfl⟩))
        · refine V_iconst eX10_force_12 ?_
          refine V_goto eX10_force_13 ?_
          refine L_istore_n eX10_force_17 (s_3 rfl rfl) ?_
          refine L_iload_n eX10_force_18 rfl ?_
          refine V_iconst eX10_force_19 ?_
          refine V_icmpeq eX10_force_20 (fun h20 => ?_) (fun h20 => ?_)
          · refine L_aload_n eX10_force_27 rfl ?_
            refine L_iload_n eX10_force_28 rfl ?_
            refine C_v1 (p_X10_isTick (by omega) hticks) v_X10_192 eX10_force_29 rfl rfl ?_
            refine V_ifeqB eX10_force_32 (fun h32 => ?_) (fun h32 => ?_)
            · refine L_ldc2 eX10_force_39 k_X10_209 ?_
              exact V_lreturn eX10_force_42 ((by first | (exfalso; omega) | exact ⟨rfl, rfl⟩))
            · refine L_iload_n eX10_force_35 rfl ?_
              refine V_ifne eX10_force_36 (fun h36 => ?_) (fun h36 => ?_)
              · (exfalso; omega)
              · refine L_ldc2 eX10_force_39 k_X10_209 ?_
                exact V_lreturn eX10_force_42 ((by first | (exfalso; omega) | exact ⟨rfl, rfl⟩))
          · refine L_iload_n eX10_force_23 rfl ?_
            refine V_ifeq eX10_force_24 (fun h24 => ?_) (fun h24 => ?_)
            · refine L_ldc2 eX10_force_39 k_X10_209 ?_
              exact V_lreturn eX10_force_42 ((by first | (exfalso; omega) | exact ⟨rfl, rfl⟩))
            · refine L_aload_n eX10_force_27 rfl ?_
              refine L_iload_n eX10_force_28 rfl ?_
              refine C_v1 (p_X10_isTick (by omega) hticks) v_X10_192 eX10_force_29 rfl rfl ?_
              refine V_ifeqB eX10_force_32 (fun h32 => ?_) (fun h32 => ?_)
              · refine L_ldc2 eX10_force_39 k_X10_209 ?_
                exact V_lreturn eX10_force_42 ((by first | (exfalso; omega) | exact ⟨rfl, rfl⟩))
              · refine L_iload_n eX10_force_35 rfl ?_
                refine V_ifne eX10_force_36 (fun h36 => ?_) (fun h36 => ?_)
                · (exfalso; omega)
                · refine L_ldc2 eX10_force_39 k_X10_209 ?_
                  exact V_lreturn eX10_force_42 ((by first | (exfalso; omega) | exact ⟨rfl, rfl⟩))
    · refine L_ent [some (.ref 66), some (vi k), some (vi t), none, none, none] rfl ?_
      refine L_iload_n eX11_force_0 rfl ?_
      refine V_iconst eX11_force_1 ?_
      refine V_icmpeq eX11_force_2 (fun h2 => ?_) (fun h2 => ?_)
      · refine L_iload_n eX11_force_19 rfl ?_
        refine V_i2l eX11_force_20 ?_
        refine L_lconst1 eX11_force_21 ?_
        refine L_aload_n eX11_force_22 rfl ?_
        refine L_get eX11_force_23 f_X11_127.g rfl rfl ?_
        refine V_i2l eX11_force_26 ?_
        refine C_s1 (p_X11_in (by omega) (by omega) (by omega)) v_X11_152 eX11_force_27 rfl ?_
        refine V_ifneB eX11_force_30 (fun h30 => ?_) (fun h30 => ?_)
        · (exfalso; omega)
        · refine L_ldc2 eX11_force_33 k_X11_318 ?_
          exact V_lreturn eX11_force_36 ((by first | (exfalso; omega) | exact ⟨rfl, rfl⟩))
      · refine L_iload_n eX11_force_5 rfl ?_
        refine V_i2l eX11_force_6 ?_
        refine L_lconst1 eX11_force_7 ?_
        refine L_aload_n eX11_force_8 rfl ?_
        refine L_get eX11_force_9 f_X11_121.g rfl rfl ?_
        refine V_i2l eX11_force_12 ?_
        refine C_s1 (p_X11_in (by omega) (by omega) (by omega)) v_X11_152 eX11_force_13 rfl ?_
        refine V_ifeqB eX11_force_16 (fun h16 => ?_) (fun h16 => ?_)
        · refine L_ldc2 eX11_force_33 k_X11_318 ?_
          exact V_lreturn eX11_force_36 ((by first | (exfalso; omega) | exact ⟨rfl, rfl⟩))
        · refine L_iload_n eX11_force_19 rfl ?_
          refine V_i2l eX11_force_20 ?_
          refine L_lconst1 eX11_force_21 ?_
          refine L_aload_n eX11_force_22 rfl ?_
          refine L_get eX11_force_23 f_X11_127.g rfl rfl ?_
          refine V_i2l eX11_force_26 ?_
          refine C_s1 (p_X11_in (by omega) (by omega) (by omega)) v_X11_152 eX11_force_27 rfl ?_
          refine V_ifneB eX11_force_30 (fun h30 => ?_) (fun h30 => ?_)
          · (exfalso; omega)
          · refine L_ldc2 eX11_force_33 k_X11_318 ?_
            exact V_lreturn eX11_force_36 ((by first | (exfalso; omega) | exact ⟨rfl, rfl⟩))
end R66

