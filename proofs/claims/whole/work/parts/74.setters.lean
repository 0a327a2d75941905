section R74
variable {F : fT} {A : nT}
theorem pr_put (h : Iv F A) {w x y : Int} (hw : i32 w) (hx : i32 x) (hy : i32 y) : Pr mX10_put mX11_put [vi w, vi x, vi y] F A := by
  unfold i32 at hw hx hy
  by_cases h1 : (0 ≤ w ∧ w ≤ 1) ∧ (-5000 ≤ x ∧ x ≤ 5000) ∧ (-5000 ≤ y ∧ y ≤ 5000)
  · have hax : ab 5000 x := h1.2.1
    have hay : ab 5000 y := h1.2.2
    by_cases h2 : w = 0
    · subst h2
      refine ⟨vi 1, uF (uF F 0 12 x) 0 13 y, A, uF (uF (uF (uF (uF (uF F 0 12 x) 0 13 y) 66 11 x) 66 12 y) 66 13 (uF (uF (uF (uF F 0 12 x) 0 13 y) 66 11 x) 66 12 y 66 13)) 66 14 (uF (uF (uF (uF (uF F 0 12 x) 0 13 y) 66 11 x) 66 12 y) 66 13 (uF (uF (uF (uF F 0 12 x) 0 13 y) 66 11 x) 66 12 y 66 13) 66 14), A, fun G => ?_, fun G => ?_, ?_, ty_v⟩
      · refine L_ent [some (.ref 0), some (vi 0), some (vi x), some (vi y)] rfl ?_
        refine L_iload_n eX10_put_0 rfl ?_
        refine V_iflt eX10_put_1 (fun h1 => ?_) (fun h1 => ?_)
        · refine L_sipush eX10_put_17 rfl ?_
          exact V_ireturn eX10_put_20 ((by first | (exfalso; omega) | exact ⟨rfl, rfl⟩))
        · refine L_iload_n eX10_put_4 rfl ?_
          refine V_iconst eX10_put_5 ?_
          refine V_icmpgt eX10_put_6 (fun h6 => ?_) (fun h6 => ?_)
          · refine L_sipush eX10_put_17 rfl ?_
            exact V_ireturn eX10_put_20 ((by first | (exfalso; omega) | exact ⟨rfl, rfl⟩))
          · refine L_iload_n eX10_put_9 rfl ?_
            refine L_iload_n eX10_put_10 rfl ?_
            refine C_s1 (p_X10_isPlace (by omega) (by omega)) v_X10_248 eX10_put_11 rfl ?_
            refine V_ifneB eX10_put_14 (fun h14 => ?_) (fun h14 => ?_)
            · refine L_iload_n eX10_put_21 rfl ?_
              refine V_ifne eX10_put_22 (fun h22 => ?_) (fun h22 => ?_)
              · refine L_aload_n eX10_put_38 rfl ?_
                refine L_iload_n eX10_put_39 rfl ?_
                refine L_put eX10_put_40 f_X10_84 rfl rfl ?_
                refine L_aload_n eX10_put_43 rfl ?_
                refine L_iload_n eX10_put_44 rfl ?_
                refine L_put eX10_put_45 f_X10_87 rfl rfl ?_
                refine V_iconst eX10_put_48 ?_
                exact V_ireturn eX10_put_49 ((by first | (exfalso; omega) | exact ⟨rfl, rfl⟩))
              · refine L_aload_n eX10_put_25 rfl ?_
                refine L_iload_n eX10_put_26 rfl ?_
                refine L_put eX10_put_27 f_X10_78 rfl rfl ?_
                refine L_aload_n eX10_put_30 rfl ?_
                refine L_iload_n eX10_put_31 rfl ?_
                refine L_put eX10_put_32 f_X10_81 rfl rfl ?_
                refine V_goto eX10_put_35 ?_
                refine V_iconst eX10_put_48 ?_
                exact V_ireturn eX10_put_49 ((by first | (exfalso; omega) | exact ⟨rfl, rfl⟩))
            · refine L_sipush eX10_put_17 rfl ?_
              exact V_ireturn eX10_put_20 ((by first | (exfalso; omega) | exact ⟨rfl, rfl⟩))
      · refine L_ent [some (.ref 66), some (vi 0), some (vi x), some (vi y)] rfl ?_
        refine L_iload_n eX11_put_0 rfl ?_
        refine V_i2l eX11_put_1 ?_
        refine L_lconst0 eX11_put_2 ?_
        refine L_lconst1 eX11_put_3 ?_
        refine C_s1 (p_X11_in (by omega) (by omega) (by omega)) v_X11_152 eX11_put_4 rfl ?_
        refine V_ifeqB eX11_put_7 (fun h7 => ?_) (fun h7 => ?_)
        · refine L_sipush eX11_put_18 rfl ?_
          exact V_ireturn eX11_put_21 ((by first | (exfalso; omega) | exact ⟨rfl, rfl⟩))
        · refine L_iload_n eX11_put_10 rfl ?_
          refine L_iload_n eX11_put_11 rfl ?_
          refine C_s1 (p_X11_isPlace (by omega) (by omega)) v_X11_363 eX11_put_12 rfl ?_
          refine V_ifneB eX11_put_15 (fun h15 => ?_) (fun h15 => ?_)
          · refine L_aload_n eX11_put_22 rfl ?_
            refine L_iload_n eX11_put_23 rfl ?_
            refine V_ifne eX11_put_24 (fun h24 => ?_) (fun h24 => ?_)
            · refine L_aload_n eX11_put_31 rfl ?_
              refine L_get eX11_put_32 f_X11_329.g rfl rfl ?_
              refine L_put eX11_put_35 f_X11_329 rfl rfl ?_
              refine L_aload_n eX11_put_38 rfl ?_
              refine L_iload_n eX11_put_39 rfl ?_
              refine V_ifne eX11_put_40 (fun h40 => ?_) (fun h40 => ?_)
              · refine L_aload_n eX11_put_47 rfl ?_
                refine L_get eX11_put_48 f_X11_136.g rfl rfl ?_
                refine L_put eX11_put_51 f_X11_136 rfl rfl ?_
                refine L_aload_n eX11_put_54 rfl ?_
                refine L_iload_n eX11_put_55 rfl ?_
                refine V_iconst eX11_put_56 ?_
                refine V_icmpne eX11_put_57 (fun h57 => ?_) (fun h57 => ?_)
                · refine L_aload_n eX11_put_64 rfl ?_
                  refine L_get eX11_put_65 f_X11_139.g rfl rfl ?_
                  refine L_put eX11_put_68 f_X11_139 rfl rfl ?_
                  refine L_aload_n eX11_put_71 rfl ?_
                  refine L_iload_n eX11_put_72 rfl ?_
                  refine V_iconst eX11_put_73 ?_
                  refine V_icmpne eX11_put_74 (fun h74 => ?_) (fun h74 => ?_)
                  · refine L_aload_n eX11_put_81 rfl ?_
                    refine L_get eX11_put_82 f_X11_343.g rfl rfl ?_
                    refine L_put eX11_put_85 f_X11_343 rfl rfl ?_
                    refine V_iconst eX11_put_88 ?_
                    exact V_ireturn eX11_put_89 ((by first | (exfalso; omega) | exact ⟨rfl, rfl⟩))
                  · refine L_iload_n eX11_put_77 rfl ?_
                    refine V_goto eX11_put_78 ?_
                    refine L_put eX11_put_85 f_X11_343 rfl rfl ?_
                    refine V_iconst eX11_put_88 ?_
                    exact V_ireturn eX11_put_89 ((by first | (exfalso; omega) | exact ⟨rfl, rfl⟩))
                · refine L_iload_n eX11_put_60 rfl ?_
                  refine V_goto eX11_put_61 ?_
                  refine L_put eX11_put_68 f_X11_139 rfl rfl ?_
                  refine L_aload_n eX11_put_71 rfl ?_
                  refine L_iload_n eX11_put_72 rfl ?_
                  refine V_iconst eX11_put_73 ?_
                  refine V_icmpne eX11_put_74 (fun h74 => ?_) (fun h74 => ?_)
                  · refine L_aload_n eX11_put_81 rfl ?_
                    refine L_get eX11_put_82 f_X11_343.g rfl rfl ?_
                    refine L_put eX11_put_85 f_X11_343 rfl rfl ?_
                    refine V_iconst eX11_put_88 ?_
                    exact V_ireturn eX11_put_89 ((by first | (exfalso; omega) | exact ⟨rfl, rfl⟩))
                  · refine L_iload_n eX11_put_77 rfl ?_
                    refine V_goto eX11_put_78 ?_
                    refine L_put eX11_put_85 f_X11_343 rfl rfl ?_
                    refine V_iconst eX11_put_88 ?_
                    exact V_ireturn eX11_put_89 ((by first | (exfalso; omega) | exact ⟨rfl, rfl⟩))
              · refine L_iload_n eX11_put_43 rfl ?_
                refine V_goto eX11_put_44 ?_
                refine L_put eX11_put_51 f_X11_136 rfl rfl ?_
                refine L_aload_n eX11_put_54 rfl ?_
                refine L_iload_n eX11_put_55 rfl ?_
                refine V_iconst eX11_put_56 ?_
                refine V_icmpne eX11_put_57 (fun h57 => ?_) (fun h57 => ?_)
                · refine L_aload_n eX11_put_64 rfl ?_
                  refine L_get eX11_put_65 f_X11_139.g rfl rfl ?_
                  refine L_put eX11_put_68 f_X11_139 rfl rfl ?_
                  refine L_aload_n eX11_put_71 rfl ?_
                  refine L_iload_n eX11_put_72 rfl ?_
                  refine V_iconst eX11_put_73 ?_
                  refine V_icmpne eX11_put_74 (fun h74 => ?_) (fun h74 => ?_)
                  · refine L_aload_n eX11_put_81 rfl ?_
                    refine L_get eX11_put_82 f_X11_343.g rfl rfl ?_
                    refine L_put eX11_put_85 f_X11_343 rfl rfl ?_
                    refine V_iconst eX11_put_88 ?_
                    exact V_ireturn eX11_put_89 ((by first | (exfalso; omega) | exact ⟨rfl, rfl⟩))
                  · refine L_iload_n eX11_put_77 rfl ?_
                    refine V_goto eX11_put_78 ?_
                    refine L_put eX11_put_85 f_X11_343 rfl rfl ?_
                    refine V_iconst eX11_put_88 ?_
                    exact V_ireturn eX11_put_89 ((by first | (exfalso; omega) | exact ⟨rfl, rfl⟩))
                · refine L_iload_n eX11_put_60 rfl ?_
                  refine V_goto eX11_put_61 ?_
                  refine L_put eX11_put_68 f_X11_139 rfl rfl ?_
                  refine L_aload_n eX11_put_71 rfl ?_
                  refine L_iload_n eX11_put_72 rfl ?_
                  refine V_iconst eX11_put_73 ?_
                  refine V_icmpne eX11_put_74 (fun h74 => ?_) (fun h74 => ?_)
                  · refine L_aload_n eX11_put_81 rfl ?_
                    refine L_get eX11_put_82 f_X11_343.g rfl rfl ?_
                    refine L_put eX11_put_85 f_X11_343 rfl rfl ?_
                    refine V_iconst eX11_put_88 ?_
                    exact V_ireturn eX11_put_89 ((by first | (exfalso; omega) | exact ⟨rfl, rfl⟩))
                  · refine L_iload_n eX11_put_77 rfl ?_
                    refine V_goto eX11_put_78 ?_
                    refine L_put eX11_put_85 f_X11_343 rfl rfl ?_
                    refine V_iconst eX11_put_88 ?_
                    exact V_ireturn eX11_put_89 ((by first | (exfalso; omega) | exact ⟨rfl, rfl⟩))
            · refine L_iload_n eX11_put_27 rfl ?_
              refine V_goto eX11_put_28 ?_
              refine L_put eX11_put_35 f_X11_329 rfl rfl ?_
              refine L_aload_n eX11_put_38 rfl ?_
              refine L_iload_n eX11_put_39 rfl ?_
              refine V_ifne eX11_put_40 (fun h40 => ?_) (fun h40 => ?_)
              · refine L_aload_n eX11_put_47 rfl ?_
                refine L_get eX11_put_48 f_X11_136.g rfl rfl ?_
                refine L_put eX11_put_51 f_X11_136 rfl rfl ?_
                refine L_aload_n eX11_put_54 rfl ?_
                refine L_iload_n eX11_put_55 rfl ?_
                refine V_iconst eX11_put_56 ?_
                refine V_icmpne eX11_put_57 (fun h57 => ?_) (fun h57 => ?_)
                · refine L_aload_n eX11_put_64 rfl ?_
                  refine L_get eX11_put_65 f_X11_139.g rfl rfl ?_
                  refine L_put eX11_put_68 f_X11_139 rfl rfl ?_
                  refine L_aload_n eX11_put_71 rfl ?_
                  refine L_iload_n eX11_put_72 rfl ?_
                  refine V_iconst eX11_put_73 ?_
                  refine V_icmpne eX11_put_74 (fun h74 => ?_) (fun h74 => ?_)
                  · refine L_aload_n eX11_put_81 rfl ?_
                    refine L_get eX11_put_82 f_X11_343.g rfl rfl ?_
                    refine L_put eX11_put_85 f_X11_343 rfl rfl ?_
                    refine V_iconst eX11_put_88 ?_
                    exact V_ireturn eX11_put_89 ((by first | (exfalso; omega) | exact ⟨rfl, rfl⟩))
                  · refine L_iload_n eX11_put_77 rfl ?_
                    refine V_goto eX11_put_78 ?_
                    refine L_put eX11_put_85 f_X11_343 rfl rfl ?_
                    refine V_iconst eX11_put_88 ?_
                    exact V_ireturn eX11_put_89 ((by first | (exfalso; omega) | exact ⟨rfl, rfl⟩))
                · refine L_iload_n eX11_put_60 rfl ?_
                  refine V_goto eX11_put_61 ?_
                  refine L_put eX11_put_68 f_X11_139 rfl rfl ?_
                  refine L_aload_n eX11_put_71 rfl ?_
                  refine L_iload_n eX11_put_72 rfl ?_
                  refine V_iconst eX11_put_73 ?_
                  refine V_icmpne eX11_put_74 (fun h74 => ?_) (fun h74 => ?_)
                  · refine L_aload_n eX11_put_81 rfl ?_
                    refine L_get eX11_put_82 f_X11_343.g rfl rfl ?_
                    refine L_put eX11_put_85 f_X11_343 rfl rfl ?_
                    refine V_iconst eX11_put_88 ?_
                    exact V_ireturn eX11_put_89 ((by first | (exfalso; omega) | exact ⟨rfl, rfl⟩))
                  · refine L_iload_n eX11_put_77 rfl ?_
                    refine V_goto eX11_put_78 ?_
                    refine L_put eX11_put_85 f_X11_343 rfl rfl ?_
                    refine V_iconst eX11_put_88 ?_
                    exact V_ireturn eX11_put_89 ((by first | (exfalso; omega) | exact ⟨rfl, rfl⟩))
              · refine L_iload_n eX11_put_43 rfl ?_
                refine V_goto eX11_put_44 ?_
                refine L_put eX11_put_51 f_X11_136 rfl rfl ?_
                refine L_aload_n eX11_put_54 rfl ?_
                refine L_iload_n eX11_put_55 rfl ?_
                refine V_iconst eX11_put_56 ?_
                refine V_icmpne eX11_put_57 (fun h57 => ?_) (fun h57 => ?_)
                · refine L_aload_n eX11_put_64 rfl ?_
                  refine L_get eX11_put_65 f_X11_139.g rfl rfl ?_
                  refine L_put eX11_put_68 f_X11_139 rfl rfl ?_
                  refine L_aload_n eX11_put_71 rfl ?_
                  refine L_iload_n eX11_put_72 rfl ?_
                  refine V_iconst eX11_put_73 ?_
                  refine V_icmpne eX11_put_74 (fun h74 => ?_) (fun h74 => ?_)
                  · refine L_aload_n eX11_put_81 rfl ?_
                    refine L_get eX11_put_82 f_X11_343.g rfl rfl ?_
                    refine L_put eX11_put_85 f_X11_343 rfl rfl ?_
                    refine V_iconst eX11_put_88 ?_
                    exact V_ireturn eX11_put_89 ((by first | (exfalso; omega) | exact ⟨rfl, rfl⟩))
                  · refine L_iload_n eX11_put_77 rfl ?_
                    refine V_goto eX11_put_78 ?_
                    refine L_put eX11_put_85 f_X11_343 rfl rfl ?_
                    refine V_iconst eX11_put_88 ?_
                    exact V_ireturn eX11_put_89 ((by first | (exfalso; omega) | exact ⟨rfl, rfl⟩))
                · refine L_iload_n eX11_put_60 rfl ?_
                  refine V_goto eX11_put_61 ?_
                  refine L_put eX11_put_68 f_X11_139 rfl rfl ?_
                  refine L_aload_n eX11_put_71 rfl ?_
                  refine L_iload_n eX11_put_72 rfl ?_
                  refine V_iconst eX11_put_73 ?_
                  refine V_icmpne eX11_put_74 (fun h74 => ?_) (fun h74 => ?_)
                  · refine L_aload_n eX11_put_81 rfl ?_
                    refine L_get eX11_put_82 f_X11_343.g rfl rfl ?_
                    refine L_put eX11_put_85 f_X11_343 rfl rfl ?_
                    refine V_iconst eX11_put_88 ?_
                    exact V_ireturn eX11_put_89 ((by first | (exfalso; omega) | exact ⟨rfl, rfl⟩))
                  · refine L_iload_n eX11_put_77 rfl ?_
                    refine V_goto eX11_put_78 ?_
                    refine L_put eX11_put_85 f_X11_343 rfl rfl ?_
                    refine V_iconst eX11_put_88 ?_
                    exact V_ireturn eX11_put_89 ((by first | (exfalso; omega) | exact ⟨rfl, rfl⟩))
          · refine L_sipush eX11_put_18 rfl ?_
            exact V_ireturn eX11_put_21 ((by first | (exfalso; omega) | exact ⟨rfl, rfl⟩))
      · rw [uF_self, uF_self]
        refine h.fr ⟨fun o k e => ?_, fun o e => rfl⟩ ?_ ?_ ?_ ?_ ?_ ?_ ?_ ?_ ?_ ?_ ?_
        · have := kRF_in e
          rw [uF_ne (by omega), uF_ne (by omega), uF_ne (by omega), uF_ne (by omega)]
        · simpa [uF] using And.intro hax hay
        · simpa [uF] using h.post
        · simpa [uF] using h.tx
        · simpa [uF] using h.txb
        · simpa [uF] using h.fa
        · simpa [uF] using h.hn
        · simpa [uF] using h.hd
        · simpa [uF] using h.cn
        · simpa [uF] using h.ct
        · simpa [uF] using h.fn
        · simpa [uF] using h.fi
    · have h3 : w = 1 := by omega
      subst h3
      refine ⟨vi 1, uF (uF F 0 14 x) 0 15 y, A, uF (uF (uF (uF (uF (uF F 0 14 x) 0 15 y) 66 11 (uF (uF F 0 14 x) 0 15 y 66 11)) 66 12 (uF (uF (uF F 0 14 x) 0 15 y) 66 11 (uF (uF F 0 14 x) 0 15 y 66 11) 66 12)) 66 13 x) 66 14 y, A, fun G => ?_, fun G => ?_, ?_, ty_v⟩
      · refine L_ent [some (.ref 0), some (vi 1), some (vi x), some (vi y)] rfl ?_
        refine L_iload_n eX10_put_0 rfl ?_
        refine V_iflt eX10_put_1 (fun h1 => ?_) (fun h1 => ?_)
        · refine L_sipush eX10_put_17 rfl ?_
          exact V_ireturn eX10_put_20 ((by first | (exfalso; omega) | exact ⟨rfl, rfl⟩))
        · refine L_iload_n eX10_put_4 rfl ?_
          refine V_iconst eX10_put_5 ?_
          refine V_icmpgt eX10_put_6 (fun h6 => ?_) (fun h6 => ?_)
          · refine L_sipush eX10_put_17 rfl ?_
            exact V_ireturn eX10_put_20 ((by first | (exfalso; omega) | exact ⟨rfl, rfl⟩))
          · refine L_iload_n eX10_put_9 rfl ?_
            refine L_iload_n eX10_put_10 rfl ?_
            refine C_s1 (p_X10_isPlace (by omega) (by omega)) v_X10_248 eX10_put_11 rfl ?_
            refine V_ifneB eX10_put_14 (fun h14 => ?_) (fun h14 => ?_)
            · refine L_iload_n eX10_put_21 rfl ?_
              refine V_ifne eX10_put_22 (fun h22 => ?_) (fun h22 => ?_)
              · refine L_aload_n eX10_put_38 rfl ?_
                refine L_iload_n eX10_put_39 rfl ?_
                refine L_put eX10_put_40 f_X10_84 rfl rfl ?_
                refine L_aload_n eX10_put_43 rfl ?_
                refine L_iload_n eX10_put_44 rfl ?_
                refine L_put eX10_put_45 f_X10_87 rfl rfl ?_
                refine V_iconst eX10_put_48 ?_
                exact V_ireturn eX10_put_49 ((by first | (exfalso; omega) | exact ⟨rfl, rfl⟩))
              · refine L_aload_n eX10_put_25 rfl ?_
                refine L_iload_n eX10_put_26 rfl ?_
                refine L_put eX10_put_27 f_X10_78 rfl rfl ?_
                refine L_aload_n eX10_put_30 rfl ?_
                refine L_iload_n eX10_put_31 rfl ?_
                refine L_put eX10_put_32 f_X10_81 rfl rfl ?_
                refine V_goto eX10_put_35 ?_
                refine V_iconst eX10_put_48 ?_
                exact V_ireturn eX10_put_49 ((by first | (exfalso; omega) | exact ⟨rfl, rfl⟩))
            · refine L_sipush eX10_put_17 rfl ?_
              exact V_ireturn eX10_put_20 ((by first | (exfalso; omega) | exact ⟨rfl, rfl⟩))
      · refine L_ent [some (.ref 66), some (vi 1), some (vi x), some (vi y)] rfl ?_
        refine L_iload_n eX11_put_0 rfl ?_
        refine V_i2l eX11_put_1 ?_
        refine L_lconst0 eX11_put_2 ?_
        refine L_lconst1 eX11_put_3 ?_
        refine C_s1 (p_X11_in (by omega) (by omega) (by omega)) v_X11_152 eX11_put_4 rfl ?_
        refine V_ifeqB eX11_put_7 (fun h7 => ?_) (fun h7 => ?_)
        · refine L_sipush eX11_put_18 rfl ?_
          exact V_ireturn eX11_put_21 ((by first | (exfalso; omega) | exact ⟨rfl, rfl⟩))
        · refine L_iload_n eX11_put_10 rfl ?_
          refine L_iload_n eX11_put_11 rfl ?_
          refine C_s1 (p_X11_isPlace (by omega) (by omega)) v_X11_363 eX11_put_12 rfl ?_
          refine V_ifneB eX11_put_15 (fun h15 => ?_) (fun h15 => ?_)
          · refine L_aload_n eX11_put_22 rfl ?_
            refine L_iload_n eX11_put_23 rfl ?_
            refine V_ifne eX11_put_24 (fun h24 => ?_) (fun h24 => ?_)
            · refine L_aload_n eX11_put_31 rfl ?_
              refine L_get eX11_put_32 f_X11_329.g rfl rfl ?_
              refine L_put eX11_put_35 f_X11_329 rfl rfl ?_
              refine L_aload_n eX11_put_38 rfl ?_
              refine L_iload_n eX11_put_39 rfl ?_
              refine V_ifne eX11_put_40 (fun h40 => ?_) (fun h40 => ?_)
              · refine L_aload_n eX11_put_47 rfl ?_
                refine L_get eX11_put_48 f_X11_136.g rfl rfl ?_
                refine L_put eX11_put_51 f_X11_136 rfl rfl ?_
                refine L_aload_n eX11_put_54 rfl ?_
                refine L_iload_n eX11_put_55 rfl ?_
                refine V_iconst eX11_put_56 ?_
                refine V_icmpne eX11_put_57 (fun h57 => ?_) (fun h57 => ?_)
                · refine L_aload_n eX11_put_64 rfl ?_
                  refine L_get eX11_put_65 f_X11_139.g rfl rfl ?_
                  refine L_put eX11_put_68 f_X11_139 rfl rfl ?_
                  refine L_aload_n eX11_put_71 rfl ?_
                  refine L_iload_n eX11_put_72 rfl ?_
                  refine V_iconst eX11_put_73 ?_
                  refine V_icmpne eX11_put_74 (fun h74 => ?_) (fun h74 => ?_)
                  · refine L_aload_n eX11_put_81 rfl ?_
                    refine L_get eX11_put_82 f_X11_343.g rfl rfl ?_
                    refine L_put eX11_put_85 f_X11_343 rfl rfl ?_
                    refine V_iconst eX11_put_88 ?_
                    exact V_ireturn eX11_put_89 ((by first | (exfalso; omega) | exact ⟨rfl, rfl⟩))
                  · refine L_iload_n eX11_put_77 rfl ?_
                    refine V_goto eX11_put_78 ?_
                    refine L_put eX11_put_85 f_X11_343 rfl rfl ?_
                    refine V_iconst eX11_put_88 ?_
                    exact V_ireturn eX11_put_89 ((by first | (exfalso; omega) | exact ⟨rfl, rfl⟩))
                · refine L_iload_n eX11_put_60 rfl ?_
                  refine V_goto eX11_put_61 ?_
                  refine L_put eX11_put_68 f_X11_139 rfl rfl ?_
                  refine L_aload_n eX11_put_71 rfl ?_
                  refine L_iload_n eX11_put_72 rfl ?_
                  refine V_iconst eX11_put_73 ?_
                  refine V_icmpne eX11_put_74 (fun h74 => ?_) (fun h74 => ?_)
                  · refine L_aload_n eX11_put_81 rfl ?_
                    refine L_get eX11_put_82 f_X11_343.g rfl rfl ?_
                    refine L_put eX11_put_85 f_X11_343 rfl rfl ?_
                    refine V_iconst eX11_put_88 ?_
                    exact V_ireturn eX11_put_89 ((by first | (exfalso; omega) | exact ⟨rfl, rfl⟩))
                  · refine L_iload_n eX11_put_77 rfl ?_
                    refine V_goto eX11_put_78 ?_
                    refine L_put eX11_put_85 f_X11_343 rfl rfl ?_
                    refine V_iconst eX11_put_88 ?_
                    exact V_ireturn eX11_put_89 ((by first | (exfalso; omega) | exact ⟨rfl, rfl⟩))
              · refine L_iload_n eX11_put_43 rfl ?_
                refine V_goto eX11_put_44 ?_
                refine L_put eX11_put_51 f_X11_136 rfl rfl ?_
                refine L_aload_n eX11_put_54 rfl ?_
                refine L_iload_n eX11_put_55 rfl ?_
                refine V_iconst eX11_put_56 ?_
                refine V_icmpne eX11_put_57 (fun h57 => ?_) (fun h57 => ?_)
                · refine L_aload_n eX11_put_64 rfl ?_
                  refine L_get eX11_put_65 f_X11_139.g rfl rfl ?_
                  refine L_put eX11_put_68 f_X11_139 rfl rfl ?_
                  refine L_aload_n eX11_put_71 rfl ?_
                  refine L_iload_n eX11_put_72 rfl ?_
                  refine V_iconst eX11_put_73 ?_
                  refine V_icmpne eX11_put_74 (fun h74 => ?_) (fun h74 => ?_)
                  · refine L_aload_n eX11_put_81 rfl ?_
                    refine L_get eX11_put_82 f_X11_343.g rfl rfl ?_
                    refine L_put eX11_put_85 f_X11_343 rfl rfl ?_
                    refine V_iconst eX11_put_88 ?_
                    exact V_ireturn eX11_put_89 ((by first | (exfalso; omega) | exact ⟨rfl, rfl⟩))
                  · refine L_iload_n eX11_put_77 rfl ?_
                    refine V_goto eX11_put_78 ?_
                    refine L_put eX11_put_85 f_X11_343 rfl rfl ?_
                    refine V_iconst eX11_put_88 ?_
                    exact V_ireturn eX11_put_89 ((by first | (exfalso; omega) | exact ⟨rfl, rfl⟩))
                · refine L_iload_n eX11_put_60 rfl ?_
                  refine V_goto eX11_put_61 ?_
                  refine L_put eX11_put_68 f_X11_139 rfl rfl ?_
                  refine L_aload_n eX11_put_71 rfl ?_
                  refine L_iload_n eX11_put_72 rfl ?_
                  refine V_iconst eX11_put_73 ?_
                  refine V_icmpne eX11_put_74 (fun h74 => ?_) (fun h74 => ?_)
                  · refine L_aload_n eX11_put_81 rfl ?_
                    refine L_get eX11_put_82 f_X11_343.g rfl rfl ?_
                    refine L_put eX11_put_85 f_X11_343 rfl rfl ?_
                    refine V_iconst eX11_put_88 ?_
                    exact V_ireturn eX11_put_89 ((by first | (exfalso; omega) | exact ⟨rfl, rfl⟩))
                  · refine L_iload_n eX11_put_77 rfl ?_
                    refine V_goto eX11_put_78 ?_
                    refine L_put eX11_put_85 f_X11_343 rfl rfl ?_
                    refine V_iconst eX11_put_88 ?_
                    exact V_ireturn eX11_put_89 ((by first | (exfalso; omega) | exact ⟨rfl, rfl⟩))
            · refine L_iload_n eX11_put_27 rfl ?_
              refine V_goto eX11_put_28 ?_
              refine L_put eX11_put_35 f_X11_329 rfl rfl ?_
              refine L_aload_n eX11_put_38 rfl ?_
              refine L_iload_n eX11_put_39 rfl ?_
              refine V_ifne eX11_put_40 (fun h40 => ?_) (fun h40 => ?_)
              · refine L_aload_n eX11_put_47 rfl ?_
                refine L_get eX11_put_48 f_X11_136.g rfl rfl ?_
                refine L_put eX11_put_51 f_X11_136 rfl rfl ?_
                refine L_aload_n eX11_put_54 rfl ?_
                refine L_iload_n eX11_put_55 rfl ?_
                refine V_iconst eX11_put_56 ?_
                refine V_icmpne eX11_put_57 (fun h57 => ?_) (fun h57 => ?_)
                · refine L_aload_n eX11_put_64 rfl ?_
                  refine L_get eX11_put_65 f_X11_139.g rfl rfl ?_
                  refine L_put eX11_put_68 f_X11_139 rfl rfl ?_
                  refine L_aload_n eX11_put_71 rfl ?_
                  refine L_iload_n eX11_put_72 rfl ?_
                  refine V_iconst eX11_put_73 ?_
                  refine V_icmpne eX11_put_74 (fun h74 => ?_) (fun h74 => ?_)
                  · refine L_aload_n eX11_put_81 rfl ?_
                    refine L_get eX11_put_82 f_X11_343.g rfl rfl ?_
                    refine L_put eX11_put_85 f_X11_343 rfl rfl ?_
                    refine V_iconst eX11_put_88 ?_
                    exact V_ireturn eX11_put_89 ((by first | (exfalso; omega) | exact ⟨rfl, rfl⟩))
                  · refine L_iload_n eX11_put_77 rfl ?_
                    refine V_goto eX11_put_78 ?_
                    refine L_put eX11_put_85 f_X11_343 rfl rfl ?_
                    refine V_iconst eX11_put_88 ?_
                    exact V_ireturn eX11_put_89 ((by first | (exfalso; omega) | exact ⟨rfl, rfl⟩))
                · refine L_iload_n eX11_put_60 rfl ?_
                  refine V_goto eX11_put_61 ?_
                  refine L_put eX11_put_68 f_X11_139 rfl rfl ?_
                  refine L_aload_n eX11_put_71 rfl ?_
                  refine L_iload_n eX11_put_72 rfl ?_
                  refine V_iconst eX11_put_73 ?_
                  refine V_icmpne eX11_put_74 (fun h74 => ?_) (fun h74 => ?_)
                  · refine L_aload_n eX11_put_81 rfl ?_
                    refine L_get eX11_put_82 f_X11_343.g rfl rfl ?_
                    refine L_put eX11_put_85 f_X11_343 rfl rfl ?_
                    refine V_iconst eX11_put_88 ?_
                    exact V_ireturn eX11_put_89 ((by first | (exfalso; omega) | exact ⟨rfl, rfl⟩))
                  · refine L_iload_n eX11_put_77 rfl ?_
                    refine V_goto eX11_put_78 ?_
                    refine L_put eX11_put_85 f_X11_343 rfl rfl ?_
                    refine V_iconst eX11_put_88 ?_
                    exact V_ireturn eX11_put_89 ((by first | (exfalso; omega) | exact ⟨rfl, rfl⟩))
              · refine L_iload_n eX11_put_43 rfl ?_
                refine V_goto eX11_put_44 ?_
                refine L_put eX11_put_51 f_X11_136 rfl rfl ?_
                refine L_aload_n eX11_put_54 rfl ?_
                refine L_iload_n eX11_put_55 rfl ?_
                refine V_iconst eX11_put_56 ?_
                refine V_icmpne eX11_put_57 (fun h57 => ?_) (fun h57 => ?_)
                · refine L_aload_n eX11_put_64 rfl ?_
                  refine L_get eX11_put_65 f_X11_139.g rfl rfl ?_
                  refine L_put eX11_put_68 f_X11_139 rfl rfl ?_
                  refine L_aload_n eX11_put_71 rfl ?_
                  refine L_iload_n eX11_put_72 rfl ?_
                  refine V_iconst eX11_put_73 ?_
                  refine V_icmpne eX11_put_74 (fun h74 => ?_) (fun h74 => ?_)
                  · refine L_aload_n eX11_put_81 rfl ?_
                    refine L_get eX11_put_82 f_X11_343.g rfl rfl ?_
                    refine L_put eX11_put_85 f_X11_343 rfl rfl ?_
                    refine V_iconst eX11_put_88 ?_
                    exact V_ireturn eX11_put_89 ((by first | (exfalso; omega) | exact ⟨rfl, rfl⟩))
                  · refine L_iload_n eX11_put_77 rfl ?_
                    refine V_goto eX11_put_78 ?_
                    refine L_put eX11_put_85 f_X11_343 rfl rfl ?_
                    refine V_iconst eX11_put_88 ?_
                    exact V_ireturn eX11_put_89 ((by first | (exfalso; omega) | exact ⟨rfl, rfl⟩))
                · refine L_iload_n eX11_put_60 rfl ?_
                  refine V_goto eX11_put_61 ?_
                  refine L_put eX11_put_68 f_X11_139 rfl rfl ?_
                  refine L_aload_n eX11_put_71 rfl ?_
                  refine L_iload_n eX11_put_72 rfl ?_
                  refine V_iconst eX11_put_73 ?_
                  refine V_icmpne eX11_put_74 (fun h74 => ?_) (fun h74 => ?_)
                  · refine L_aload_n eX11_put_81 rfl ?_
                    refine L_get eX11_put_82 f_X11_343.g rfl rfl ?_
                    refine L_put eX11_put_85 f_X11_343 rfl rfl ?_
                    refine V_iconst eX11_put_88 ?_
                    exact V_ireturn eX11_put_89 ((by first | (exfalso; omega) | exact ⟨rfl, rfl⟩))
                  · refine L_iload_n eX11_put_77 rfl ?_
                    refine V_goto eX11_put_78 ?_
                    refine L_put eX11_put_85 f_X11_343 rfl rfl ?_
                    refine V_iconst eX11_put_88 ?_
                    exact V_ireturn eX11_put_89 ((by first | (exfalso; omega) | exact ⟨rfl, rfl⟩))
          · refine L_sipush eX11_put_18 rfl ?_
            exact V_ireturn eX11_put_21 ((by first | (exfalso; omega) | exact ⟨rfl, rfl⟩))
      · rw [uF_self, uF_self]
        refine h.fr ⟨fun o k e => ?_, fun o e => rfl⟩ ?_ ?_ ?_ ?_ ?_ ?_ ?_ ?_ ?_ ?_ ?_
        · have := kRF_in e
          rw [uF_ne (by omega), uF_ne (by omega), uF_ne (by omega), uF_ne (by omega)]
        · simpa [uF] using h.ear
        · simpa [uF] using And.intro hax hay
        · simpa [uF] using h.tx
        · simpa [uF] using h.txb
        · simpa [uF] using h.fa
        · simpa [uF] using h.hn
        · simpa [uF] using h.hd
        · simpa [uF] using h.cn
        · simpa [uF] using h.ct
        · simpa [uF] using h.fn
        · simpa [uF] using h.fi
  · refine ⟨vi (-1002), F, A, F, A, fun G => ?_, fun G => ?_, h, ty_v⟩
    · refine L_ent [some (.ref 0), some (vi w), some (vi x), some (vi y)] rfl ?_
      refine L_iload_n eX10_put_0 rfl ?_
      refine V_iflt eX10_put_1 (fun h1 => ?_) (fun h1 => ?_)
      · refine L_sipush eX10_put_17 rfl ?_
        exact V_ireturn eX10_put_20 ((by first | (exfalso; omega) | exact ⟨rfl, rfl⟩))
      · refine L_iload_n eX10_put_4 rfl ?_
        refine V_iconst eX10_put_5 ?_
        refine V_icmpgt eX10_put_6 (fun h6 => ?_) (fun h6 => ?_)
        · refine L_sipush eX10_put_17 rfl ?_
          exact V_ireturn eX10_put_20 ((by first | (exfalso; omega) | exact ⟨rfl, rfl⟩))
        · refine L_iload_n eX10_put_9 rfl ?_
          refine L_iload_n eX10_put_10 rfl ?_
          refine C_s1 (p_X10_isPlace (by omega) (by omega)) v_X10_248 eX10_put_11 rfl ?_
          refine V_ifneB eX10_put_14 (fun h14 => ?_) (fun h14 => ?_)
          · (exfalso; omega)
          · refine L_sipush eX10_put_17 rfl ?_
            exact V_ireturn eX10_put_20 ((by first | (exfalso; omega) | exact ⟨rfl, rfl⟩))
    · refine L_ent [some (.ref 66), some (vi w), some (vi x), some (vi y)] rfl ?_
      refine L_iload_n eX11_put_0 rfl ?_
      refine V_i2l eX11_put_1 ?_
      refine L_lconst0 eX11_put_2 ?_
      refine L_lconst1 eX11_put_3 ?_
      refine C_s1 (p_X11_in (by omega) (by omega) (by omega)) v_X11_152 eX11_put_4 rfl ?_
      refine V_ifeqB eX11_put_7 (fun h7 => ?_) (fun h7 => ?_)
      · refine L_sipush eX11_put_18 rfl ?_
        exact V_ireturn eX11_put_21 ((by first | (exfalso; omega) | exact ⟨rfl, rfl⟩))
      · refine L_iload_n eX11_put_10 rfl ?_
        refine L_iload_n eX11_put_11 rfl ?_
        refine C_s1 (p_X11_isPlace (by omega) (by omega)) v_X11_363 eX11_put_12 rfl ?_
        refine V_ifneB eX11_put_15 (fun h15 => ?_) (fun h15 => ?_)
        · (exfalso; omega)
        · refine L_sipush eX11_put_18 rfl ?_
          exact V_ireturn eX11_put_21 ((by first | (exfalso; omega) | exact ⟨rfl, rfl⟩))
theorem pr_clear (h : Iv F A) : Pr mX10_clear mX11_clear [] F A := by
  refine ⟨vi (F 59 0 + F 59 1), uF (uF F 59 0 0) 59 1 0, A, uF (uF (uF (uF F 59 0 0) 59 1 0) 66 49 0) 66 50 0, A, fun G => ?_, fun G => ?_, ?_, ty_v⟩
  · refine L_ent [some (.ref 0), none] rfl ?_
    refine L_aload_n eX10_clear_0 rfl ?_
    refine L_getR (r := 59) eX10_clear_1 f_X10_63.g rfl rfl (by decide) ?_
    refine L_get eX10_clear_4 f_X10_182.g rfl rfl ?_
    refine L_aload_n eX10_clear_7 rfl ?_
    refine L_getR (r := 59) eX10_clear_8 f_X10_63.g rfl rfl (by decide) ?_
    refine L_get eX10_clear_11 f_X10_185.g rfl rfl ?_
    refine V_iadd eX10_clear_14 ?_
    refine L_istore_n eX10_clear_15 (s_1 rfl rfl) ?_
    refine L_aload_n eX10_clear_16 rfl ?_
    refine L_getR (r := 59) eX10_clear_17 f_X10_63.g rfl rfl (by decide) ?_
    refine V_iconst eX10_clear_20 ?_
    refine L_put eX10_clear_21 f_X10_182 rfl rfl ?_
    refine L_aload_n eX10_clear_24 rfl ?_
    refine L_getR (r := 59) eX10_clear_25 f_X10_63.g rfl rfl (by decide) ?_
    refine V_iconst eX10_clear_28 ?_
    refine L_put eX10_clear_29 f_X10_185 rfl rfl ?_
    refine L_iload_n eX10_clear_32 rfl ?_
    exact V_ireturn eX10_clear_33 ((by first | (exfalso; omega) | exact ⟨rfl, rfl⟩))
  · rw [show F 59 0 + F 59 1 = uF (uF F 59 0 0) 59 1 0 66 49 + uF (uF F 59 0 0) 59 1 0 66 50 by simp [uF, h.hn.1, h.cn.1]]
    refine L_ent [some (.ref 66), none] rfl ?_
    refine L_aload_n eX11_clear_0 rfl ?_
    refine L_get eX11_clear_1 f_X11_275.g rfl rfl ?_
    refine L_aload_n eX11_clear_4 rfl ?_
    refine L_get eX11_clear_5 f_X11_278.g rfl rfl ?_
    refine V_iadd eX11_clear_8 ?_
    refine L_istore_n eX11_clear_9 (s_1 rfl rfl) ?_
    refine L_aload_n eX11_clear_10 rfl ?_
    refine V_iconst eX11_clear_11 ?_
    refine L_put eX11_clear_12 f_X11_275 rfl rfl ?_
    refine L_aload_n eX11_clear_15 rfl ?_
    refine V_iconst eX11_clear_16 ?_
    refine L_put eX11_clear_17 f_X11_278 rfl rfl ?_
    refine L_iload_n eX11_clear_20 rfl ?_
    exact V_ireturn eX11_clear_21 ((by first | (exfalso; omega) | exact ⟨rfl, rfl⟩))
  · refine h.fr ⟨fun o k e => ?_, fun o e => rfl⟩ ?_ ?_ ?_ ?_ ?_ ?_ ?_ ?_ ?_ ?_ ?_
    · have := kRF_in e
      rw [uF_ne (by omega), uF_ne (by omega), uF_ne (by omega), uF_ne (by omega)]
    · simpa [uF] using h.ear
    · simpa [uF] using h.post
    · simpa [uF] using h.tx
    · simpa [uF] using h.txb
    · simpa [uF] using h.fa
    · simp [uF]
    · intro i a b
      simp [uF] at b
      omega
    · simp [uF]
    · intro i a b
      simp [uF] at b
      omega
    · simpa [uF] using h.fn
    · simpa [uF] using h.fi
theorem pr_blank (h : Iv F A) : Pr mX10_blank mX11_blank [] F A := by
  refine ⟨vi (F 63 0), uF F 63 0 0, A, uF (uF F 63 0 0) 66 55 0, A, fun G => ?_, fun G => ?_, ?_, ty_v⟩
  · refine L_ent [some (.ref 0), none] rfl ?_
    refine L_aload_n eX10_blank_0 rfl ?_
    refine L_getR (r := 63) eX10_blank_1 f_X10_70.g rfl rfl (by decide) ?_
    refine L_get eX10_blank_4 f_X10_188.g rfl rfl ?_
    refine L_istore_n eX10_blank_7 (s_1 rfl rfl) ?_
    refine L_aload_n eX10_blank_8 rfl ?_
    refine L_getR (r := 63) eX10_blank_9 f_X10_70.g rfl rfl (by decide) ?_
    refine V_iconst eX10_blank_12 ?_
    refine L_put eX10_blank_13 f_X10_188 rfl rfl ?_
    refine L_iload_n eX10_blank_16 rfl ?_
    exact V_ireturn eX10_blank_17 ((by first | (exfalso; omega) | exact ⟨rfl, rfl⟩))
  · rw [show F 63 0 = uF F 63 0 0 66 55 by simp [uF, h.fn.1]]
    refine L_ent [some (.ref 66), none] rfl ?_
    refine L_aload_n eX11_blank_0 rfl ?_
    refine L_get eX11_blank_1 f_X11_281.g rfl rfl ?_
    refine L_istore_n eX11_blank_4 (s_1 rfl rfl) ?_
    refine L_aload_n eX11_blank_5 rfl ?_
    refine V_iconst eX11_blank_6 ?_
    refine L_put eX11_blank_7 f_X11_281 rfl rfl ?_
    refine L_iload_n eX11_blank_10 rfl ?_
    exact V_ireturn eX11_blank_11 ((by first | (exfalso; omega) | exact ⟨rfl, rfl⟩))
  · refine h.fr ⟨fun o k e => ?_, fun o e => rfl⟩ ?_ ?_ ?_ ?_ ?_ ?_ ?_ ?_ ?_ ?_ ?_
    · have := kRF_in e
      rw [uF_ne (by omega), uF_ne (by omega)]
    · simpa [uF] using h.ear
    · simpa [uF] using h.post
    · simpa [uF] using h.tx
    · simpa [uF] using h.txb
    · simpa [uF] using h.fa
    · simpa [uF] using h.hn
    · simpa [uF] using h.hd
    · simpa [uF] using h.cn
    · simpa [uF] using h.ct
    · simp [uF]
    · intro i a b
      simp [uF] at b
      omega
theorem p_X0_append_full {G : gT} {x y : Int} (h : F 63 0 = 60) : Pu G mX0_append [.ref 63, vi x, vi y] F A (vi (-1004)) := by
  refine L_ent [some (.ref 63), some (vi x), some (vi y)] rfl ?_
  refine L_aload_n eX0_append_0 rfl ?_
  refine L_get eX0_append_1 f_X0_9.g rfl rfl ?_
  refine L_bipush eX0_append_4 rfl ?_
  refine V_icmplt eX0_append_6 (fun h6 => ?_) (fun h6 => ?_)
  · (exfalso; omega)
  · refine L_sipush eX0_append_9 rfl ?_
    exact V_ireturn eX0_append_12 ((by first | (exfalso; omega) | exact ⟨rfl, rfl⟩))
theorem p_X0_append {G : gT} {x y : Int} (h : 0 ≤ F 63 0 ∧ F 63 0 < 60) : Mu G mX0_append [.ref 63, vi x, vi y] F A (some (vi (F 63 0 + 1))) (uF F 63 0 (F 63 0 + 1)) (s2 A 63 (uI (A 64) (F 63 0) x) (uI (A 65) (F 63 0) y)) := by
  refine L_ent [some (.ref 63), some (vi x), some (vi y)] rfl ?_
  refine L_aload_n eX0_append_0 rfl ?_
  refine L_get eX0_append_1 f_X0_9.g rfl rfl ?_
  refine L_bipush eX0_append_4 rfl ?_
  -- at 6: .if_icmp .lt 7
  refine V_icmplt eX0_append_6 (fun h2 => ?_) (fun h2 => ?_)
  · refine L_aload_n eX0_append_13 rfl ?_
    refine L_getR (r := 64) eX0_append_14 f_X0_15.g rfl rfl (by decide) ?_
    refine L_aload_n eX0_append_17 rfl ?_
    refine L_get eX0_append_18 f_X0_9.g rfl rfl ?_
    refine L_iload_n eX0_append_21 rfl ?_
    refine L_iast eX0_append_22 rfl ?_
    refine L_aload_n eX0_append_23 rfl ?_
    refine L_getR (r := 65) eX0_append_24 f_X0_19.g rfl rfl (by decide) ?_
    refine L_aload_n eX0_append_27 rfl ?_
    refine L_get eX0_append_28 f_X0_9.g rfl rfl ?_
    refine L_iload_n eX0_append_31 rfl ?_
    refine L_iast eX0_append_32 rfl ?_
    refine L_aload_n eX0_append_33 rfl ?_
    refine L_dup eX0_append_34 ?_
    refine L_get eX0_append_35 f_X0_9.g rfl rfl ?_
    refine V_iconst eX0_append_38 ?_
    refine V_iadd eX0_append_39 ?_
    refine L_put eX0_append_40 f_X0_9 rfl rfl ?_
    refine L_aload_n eX0_append_43 rfl ?_
    refine L_get eX0_append_44 f_X0_9.g rfl rfl ?_
    exact V_ireturn eX0_append_47 ⟨by rw [uF_eq], by unfold s2; rw [sA_ne (by decide)]⟩
  · omega
theorem p_X2_addHide_full {G : gT} {x : Int} (h : F 59 0 = 6) : Pu G mX2_addHide [.ref 59, vi x] F A (vi (-1004)) := by
  refine L_ent [some (.ref 59), some (vi x)] rfl ?_
  refine L_aload_n eX2_addHide_0 rfl ?_
  refine L_get eX2_addHide_1 f_X2_9.g rfl rfl ?_
  refine L_bipush eX2_addHide_4 rfl ?_
  refine V_icmplt eX2_addHide_6 (fun h6 => ?_) (fun h6 => ?_)
  · (exfalso; omega)
  · refine L_sipush eX2_addHide_9 rfl ?_
    exact V_ireturn eX2_addHide_12 ((by first | (exfalso; omega) | exact ⟨rfl, rfl⟩))
theorem p_X2_addHide {G : gT} {x : Int} (h : 0 ≤ F 59 0 ∧ F 59 0 < 6) : Mu G mX2_addHide [.ref 59, vi x] F A (some (vi (F 59 0 + 1))) (uF F 59 0 (F 59 0 + 1)) (sA A 60 (uI (A 60) (F 59 0) x)) := by
  refine L_ent [some (.ref 59), some (vi x)] rfl ?_
  refine L_aload_n eX2_addHide_0 rfl ?_
  refine L_get eX2_addHide_1 f_X2_9.g rfl rfl ?_
  refine L_bipush eX2_addHide_4 rfl ?_
  -- at 6: .if_icmp .lt 7
  refine V_icmplt eX2_addHide_6 (fun h2 => ?_) (fun h2 => ?_)
  · refine L_aload_n eX2_addHide_13 rfl ?_
    refine L_getR (r := 60) eX2_addHide_14 f_X2_18.g rfl rfl (by decide) ?_
    refine L_aload_n eX2_addHide_17 rfl ?_
    refine L_get eX2_addHide_18 f_X2_9.g rfl rfl ?_
    refine L_iload_n eX2_addHide_21 rfl ?_
    refine L_iast eX2_addHide_22 rfl ?_
    refine L_aload_n eX2_addHide_23 rfl ?_
    refine L_dup eX2_addHide_24 ?_
    refine L_get eX2_addHide_25 f_X2_9.g rfl rfl ?_
    refine V_iconst eX2_addHide_28 ?_
    refine V_iadd eX2_addHide_29 ?_
    refine L_put eX2_addHide_30 f_X2_9 rfl rfl ?_
    refine L_aload_n eX2_addHide_33 rfl ?_
    refine L_get eX2_addHide_34 f_X2_9.g rfl rfl ?_
    exact V_ireturn eX2_addHide_37 ⟨by rw [uF_eq], rfl⟩
  · omega
theorem p_X2_addCut_full {G : gT} {x : Int} (h : F 59 1 = 8) : Pu G mX2_addCut [.ref 59, vi x] F A (vi (-1004)) := by
  refine L_ent [some (.ref 59), some (vi x)] rfl ?_
  refine L_aload_n eX2_addCut_0 rfl ?_
  refine L_get eX2_addCut_1 f_X2_15.g rfl rfl ?_
  refine L_bipush eX2_addCut_4 rfl ?_
  refine V_icmplt eX2_addCut_6 (fun h6 => ?_) (fun h6 => ?_)
  · (exfalso; omega)
  · refine L_sipush eX2_addCut_9 rfl ?_
    exact V_ireturn eX2_addCut_12 ((by first | (exfalso; omega) | exact ⟨rfl, rfl⟩))
theorem p_X2_addCut {G : gT} {x : Int} (h : 0 ≤ F 59 1 ∧ F 59 1 < 8) : Mu G mX2_addCut [.ref 59, vi x] F A (some (vi (F 59 1 + 1))) (uF F 59 1 (F 59 1 + 1)) (sA A 61 (uI (A 61) (F 59 1) x)) := by
  refine L_ent [some (.ref 59), some (vi x)] rfl ?_
  refine L_aload_n eX2_addCut_0 rfl ?_
  refine L_get eX2_addCut_1 f_X2_15.g rfl rfl ?_
  refine L_bipush eX2_addCut_4 rfl ?_
  -- at 6: .if_icmp .lt 7
  refine V_icmplt eX2_addCut_6 (fun h2 => ?_) (fun h2 => ?_)
  · refine L_aload_n eX2_addCut_13 rfl ?_
    refine L_getR (r := 61) eX2_addCut_14 f_X2_22.g rfl rfl (by decide) ?_
    refine L_aload_n eX2_addCut_17 rfl ?_
    refine L_get eX2_addCut_18 f_X2_15.g rfl rfl ?_
    refine L_iload_n eX2_addCut_21 rfl ?_
    refine L_iast eX2_addCut_22 rfl ?_
    refine L_aload_n eX2_addCut_23 rfl ?_
    refine L_dup eX2_addCut_24 ?_
    refine L_get eX2_addCut_25 f_X2_15.g rfl rfl ?_
    refine V_iconst eX2_addCut_28 ?_
    refine V_iadd eX2_addCut_29 ?_
    refine L_put eX2_addCut_30 f_X2_15 rfl rfl ?_
    refine L_aload_n eX2_addCut_33 rfl ?_
    refine L_get eX2_addCut_34 f_X2_15.g rfl rfl ?_
    exact V_ireturn eX2_addCut_37 ⟨by rw [uF_eq], rfl⟩
  · omega
theorem pr_film (h : Iv F A) {x y : Int} (hx : i32 x) (hy : i32 y) : Pr mX10_film mX11_film [vi x, vi y] F A := by
  unfold i32 at hx hy
  have hfn := h.fn
  by_cases h1 : (-9999 ≤ x ∧ x ≤ 9999) ∧ (-9999 ≤ y ∧ y ≤ 9999)
  · by_cases h2 : F 63 0 = 60
    · refine ⟨vi (-1004), F, A, F, A, fun G => ?_, fun G => ?_, h, ty_v⟩
      · refine L_ent [some (.ref 0), some (vi x), some (vi y)] rfl ?_
        refine L_iload_n eX10_film_0 rfl ?_
        refine L_sipush eX10_film_1 rfl ?_
        refine C_s1 (p_X10_isWithin (by omega) (by omega)) v_X10_303 eX10_film_4 rfl ?_
        refine V_ifeqB eX10_film_7 (fun h7 => ?_) (fun h7 => ?_)
        · refine L_sipush eX10_film_20 rfl ?_
          exact V_ireturn eX10_film_23 ((by first | (exfalso; omega) | exact ⟨rfl, rfl⟩))
        · refine L_iload_n eX10_film_10 rfl ?_
          refine L_sipush eX10_film_11 rfl ?_
          refine C_s1 (p_X10_isWithin (by omega) (by omega)) v_X10_303 eX10_film_14 rfl ?_
          refine V_ifneB eX10_film_17 (fun h17 => ?_) (fun h17 => ?_)
          · refine L_aload_n eX10_film_24 rfl ?_
            refine L_getR (r := 63) eX10_film_25 f_X10_70.g rfl rfl (by decide) ?_
            refine L_iload_n eX10_film_28 rfl ?_
            refine L_iload_n eX10_film_29 rfl ?_
            refine C_v1 (p_X0_append_full h2) v_X10_306 eX10_film_30 rfl rfl ?_
            exact V_ireturn eX10_film_33 ((by first | (exfalso; omega) | exact ⟨rfl, rfl⟩))
          · refine L_sipush eX10_film_20 rfl ?_
            exact V_ireturn eX10_film_23 ((by first | (exfalso; omega) | exact ⟨rfl, rfl⟩))
      · refine L_ent [some (.ref 66), some (vi x), some (vi y)] rfl ?_
        refine L_iload_n eX11_film_0 rfl ?_
        refine V_i2l eX11_film_1 ?_
        refine L_ldc2 eX11_film_2 k_X11_425 ?_
        refine L_ldc2 eX11_film_5 k_X11_385 ?_
        refine C_s1 (p_X11_in (by omega) (by omega) (by omega)) v_X11_152 eX11_film_8 rfl ?_
        refine V_ifeqB eX11_film_11 (fun h11 => ?_) (fun h11 => ?_)
        · refine L_sipush eX11_film_28 rfl ?_
          exact V_ireturn eX11_film_31 ((by first | (exfalso; omega) | exact ⟨rfl, rfl⟩))
        · refine L_iload_n eX11_film_14 rfl ?_
          refine V_i2l eX11_film_15 ?_
          refine L_ldc2 eX11_film_16 k_X11_425 ?_
          refine L_ldc2 eX11_film_19 k_X11_385 ?_
          refine C_s1 (p_X11_in (by omega) (by omega) (by omega)) v_X11_152 eX11_film_22 rfl ?_
          refine V_ifneB eX11_film_25 (fun h25 => ?_) (fun h25 => ?_)
          · refine L_aload_n eX11_film_32 rfl ?_
            refine L_get eX11_film_33 f_X11_281.g rfl rfl ?_
            refine L_bipush eX11_film_36 rfl ?_
            refine V_icmpne eX11_film_38 (fun h38 => ?_) (fun h38 => ?_)
            · (exfalso; omega)
            · refine L_sipush eX11_film_41 rfl ?_
              exact V_ireturn eX11_film_44 ((by first | (exfalso; omega) | exact ⟨rfl, rfl⟩))
          · refine L_sipush eX11_film_28 rfl ?_
            exact V_ireturn eX11_film_31 ((by first | (exfalso; omega) | exact ⟨rfl, rfl⟩))
    · have e55 : uF F 63 0 (F 63 0 + 1) 66 55 = F 63 0 := by rw [uF_ne (by decide)]; exact hfn.1
      have hax : ab 9999 x := h1.1
      have hay : ab 9999 y := h1.2
      refine ⟨vi (F 63 0 + 1), uF F 63 0 (F 63 0 + 1), s2 A 63 (uI (A 64) (F 63 0) x) (uI (A 65) (F 63 0) y), uF (uF F 63 0 (F 63 0 + 1)) 66 55 (F 63 0 + 1), s2 (s2 A 63 (uI (A 64) (F 63 0) x) (uI (A 65) (F 63 0) y)) 96 (uI (A 97) (F 63 0) x) (uI (A 98) (F 63 0) y), fun G => ?_, fun G => ?_, ?_, ty_v⟩
      · refine L_ent [some (.ref 0), some (vi x), some (vi y)] rfl ?_
        refine L_iload_n eX10_film_0 rfl ?_
        refine L_sipush eX10_film_1 rfl ?_
        refine C_s1 (p_X10_isWithin (by omega) (by omega)) v_X10_303 eX10_film_4 rfl ?_
        refine V_ifeqB eX10_film_7 (fun h7 => ?_) (fun h7 => ?_)
        · refine L_sipush eX10_film_20 rfl ?_
          exact V_ireturn eX10_film_23 ((by first | (exfalso; omega) | exact ⟨rfl, rfl⟩))
        · refine L_iload_n eX10_film_10 rfl ?_
          refine L_sipush eX10_film_11 rfl ?_
          refine C_s1 (p_X10_isWithin (by omega) (by omega)) v_X10_303 eX10_film_14 rfl ?_
          refine V_ifneB eX10_film_17 (fun h17 => ?_) (fun h17 => ?_)
          · refine L_aload_n eX10_film_24 rfl ?_
            refine L_getR (r := 63) eX10_film_25 f_X10_70.g rfl rfl (by decide) ?_
            refine L_iload_n eX10_film_28 rfl ?_
            refine L_iload_n eX10_film_29 rfl ?_
            refine C_v1 (p_X0_append (by omega)) v_X10_306 eX10_film_30 rfl rfl ?_
            exact V_ireturn eX10_film_33 ((by first | (exfalso; omega) | exact ⟨rfl, rfl⟩))
          · refine L_sipush eX10_film_20 rfl ?_
            exact V_ireturn eX10_film_23 ((by first | (exfalso; omega) | exact ⟨rfl, rfl⟩))
      · refine L_ent [some (.ref 66), some (vi x), some (vi y)] rfl ?_
        have h97 : s2 A 63 (uI (A 64) (F 63 0) x) (uI (A 65) (F 63 0) y) 97 = A 97 := s2_o (by decide)
        have h98 : s2 A 63 (uI (A 64) (F 63 0) x) (uI (A 65) (F 63 0) y) 98 = A 98 := s2_o (by decide)
        generalize hA1 : s2 A 63 (uI (A 64) (F 63 0) x) (uI (A 65) (F 63 0) y) = A1 at *
        generalize hF1 : uF F 63 0 (F 63 0 + 1) = F1 at *
        generalize F 63 0 = z at *
        refine L_iload_n eX11_film_0 rfl ?_
        refine V_i2l eX11_film_1 ?_
        refine L_ldc2 eX11_film_2 k_X11_425 ?_
        refine L_ldc2 eX11_film_5 k_X11_385 ?_
        refine C_s1 (p_X11_in (by omega) (by omega) (by omega)) v_X11_152 eX11_film_8 rfl ?_
        refine V_ifeqB eX11_film_11 (fun h11 => ?_) (fun h11 => ?_)
        · (exfalso; omega)
        · refine L_iload_n eX11_film_14 rfl ?_
          refine V_i2l eX11_film_15 ?_
          refine L_ldc2 eX11_film_16 k_X11_425 ?_
          refine L_ldc2 eX11_film_19 k_X11_385 ?_
          refine C_s1 (p_X11_in (by omega) (by omega) (by omega)) v_X11_152 eX11_film_22 rfl ?_
          refine V_ifneB eX11_film_25 (fun h25 => ?_) (fun h25 => ?_)
          · refine L_aload_n eX11_film_32 rfl ?_
            refine L_get eX11_film_33 f_X11_281.g rfl rfl ?_
            refine L_bipush eX11_film_36 rfl ?_
            refine V_icmpne eX11_film_38 (fun h38 => ?_) (fun h38 => ?_)
            · refine L_aload_n eX11_film_45 rfl ?_
              refine L_getR (r := 97) eX11_film_46 f_X11_109.g rfl rfl (by decide) ?_
              refine L_aload_n eX11_film_49 rfl ?_
              refine L_get eX11_film_50 f_X11_281.g rfl rfl ?_
              refine L_iload_n eX11_film_53 rfl ?_
              refine L_iast eX11_film_54 rfl ?_
              refine L_aload_n eX11_film_55 rfl ?_
              refine L_getR (r := 98) eX11_film_56 f_X11_112.g rfl rfl (by decide) ?_
              refine L_aload_n eX11_film_59 rfl ?_
              refine L_get eX11_film_60 f_X11_281.g rfl rfl ?_
              refine L_iload_n eX11_film_63 rfl ?_
              refine L_iast eX11_film_64 rfl ?_
              refine L_aload_n eX11_film_65 rfl ?_
              refine L_dup eX11_film_66 ?_
              refine L_get eX11_film_67 f_X11_281.g rfl rfl ?_
              refine V_iconst eX11_film_70 ?_
              refine V_iadd eX11_film_71 ?_
              refine L_put eX11_film_72 f_X11_281 rfl rfl ?_
              refine L_aload_n eX11_film_75 rfl ?_
              refine L_get eX11_film_76 f_X11_281.g rfl rfl ?_
              exact V_ireturn eX11_film_79 ((by rw [uF_eq, e55]; refine ⟨rfl, ?_⟩; unfold s2; rw [sA_ne (by decide), h97, h98]))
            · (exfalso; omega)
          · (exfalso; omega)
      · refine h.fr ⟨fun o k e => ?_, fun o e => ?_⟩ ?_ ?_ ?_ ?_ ?_ ?_ ?_ ?_ ?_ ?_ ?_
        · have := kRF_in e
          rw [uF_ne (by omega), uF_ne (by omega)]
        · have := kRA_in e
          rw [s2_o (by omega), s2_o (by omega)]
        · simpa [uF] using h.ear
        · simpa [uF] using h.post
        · simpa [uF] using h.tx
        · simpa [uF, s2, sA] using h.txb
        · simpa [uF] using h.fa
        · simpa [uF] using h.hn
        · simpa [uF, s2, sA] using h.hd
        · simpa [uF] using h.cn
        · simpa [uF, s2, sA] using h.ct
        · simp [uF]
          omega
        · intro i a b
          simp only [uF, s2, sA, uI]
          simp [uF] at b ⊢
          by_cases c : i = F 63 0
          · rw [c]; rw [uI_eq, uI_eq, uI_eq, uI_eq]
            exact ⟨rfl, rfl, hax, hay⟩
          · simp only [uI_ne c]
            exact h.fi i a (by omega)
  · refine ⟨vi (-1002), F, A, F, A, fun G => ?_, fun G => ?_, h, ty_v⟩
    · refine L_ent [some (.ref 0), some (vi x), some (vi y)] rfl ?_
      refine L_iload_n eX10_film_0 rfl ?_
      refine L_sipush eX10_film_1 rfl ?_
      refine C_s1 (p_X10_isWithin (by omega) (by omega)) v_X10_303 eX10_film_4 rfl ?_
      refine V_ifeqB eX10_film_7 (fun h7 => ?_) (fun h7 => ?_)
      · refine L_sipush eX10_film_20 rfl ?_
        exact V_ireturn eX10_film_23 ((by first | (exfalso; omega) | exact ⟨rfl, rfl⟩))
      · refine L_iload_n eX10_film_10 rfl ?_
        refine L_sipush eX10_film_11 rfl ?_
        refine C_s1 (p_X10_isWithin (by omega) (by omega)) v_X10_303 eX10_film_14 rfl ?_
        refine V_ifneB eX10_film_17 (fun h17 => ?_) (fun h17 => ?_)
        · (exfalso; omega)
        · refine L_sipush eX10_film_20 rfl ?_
          exact V_ireturn eX10_film_23 ((by first | (exfalso; omega) | exact ⟨rfl, rfl⟩))
    · refine L_ent [some (.ref 66), some (vi x), some (vi y)] rfl ?_
      refine L_iload_n eX11_film_0 rfl ?_
      refine V_i2l eX11_film_1 ?_
      refine L_ldc2 eX11_film_2 k_X11_425 ?_
      refine L_ldc2 eX11_film_5 k_X11_385 ?_
      refine C_s1 (p_X11_in (by omega) (by omega) (by omega)) v_X11_152 eX11_film_8 rfl ?_
      refine V_ifeqB eX11_film_11 (fun h11 => ?_) (fun h11 => ?_)
      · refine L_sipush eX11_film_28 rfl ?_
        exact V_ireturn eX11_film_31 ((by first | (exfalso; omega) | exact ⟨rfl, rfl⟩))
      · refine L_iload_n eX11_film_14 rfl ?_
        refine V_i2l eX11_film_15 ?_
        refine L_ldc2 eX11_film_16 k_X11_425 ?_
        refine L_ldc2 eX11_film_19 k_X11_385 ?_
        refine C_s1 (p_X11_in (by omega) (by omega) (by omega)) v_X11_152 eX11_film_22 rfl ?_
        refine V_ifneB eX11_film_25 (fun h25 => ?_) (fun h25 => ?_)
        · (exfalso; omega)
        · refine L_sipush eX11_film_28 rfl ?_
          exact V_ireturn eX11_film_31 ((by first | (exfalso; omega) | exact ⟨rfl, rfl⟩))
theorem pr_lay (h : Iv F A) {w x : Int} (hw : i32 w) (hx : i32 x) : Pr mX10_lay mX11_lay [vi w, vi x] F A := by
  unfold i32 at hw hx
  have hhn := h.hn
  have hcn := h.cn
  by_cases h1 : (0 ≤ w ∧ w ≤ 1) ∧ (1 ≤ x ∧ x ≤ 999)
  · by_cases h0 : w = 0
    · subst h0
      by_cases h2 : F 59 0 = 6
      · refine ⟨vi (-1004), F, A, F, A, fun G => ?_, fun G => ?_, h, ty_v⟩
        · refine L_ent [some (.ref 0), some (vi 0), some (vi x)] rfl ?_
          refine L_iload_n eX10_lay_0 rfl ?_
          refine V_iflt eX10_lay_1 (fun h1 => ?_) (fun h1 => ?_)
          · refine L_sipush eX10_lay_21 rfl ?_
            exact V_ireturn eX10_lay_24 ((by first | (exfalso; omega) | exact ⟨rfl, rfl⟩))
          · refine L_iload_n eX10_lay_4 rfl ?_
            refine V_iconst eX10_lay_5 ?_
            refine V_icmpgt eX10_lay_6 (fun h6 => ?_) (fun h6 => ?_)
            · refine L_sipush eX10_lay_21 rfl ?_
              exact V_ireturn eX10_lay_24 ((by first | (exfalso; omega) | exact ⟨rfl, rfl⟩))
            · refine L_iload_n eX10_lay_9 rfl ?_
              refine V_iconst eX10_lay_10 ?_
              refine V_icmplt eX10_lay_11 (fun h11 => ?_) (fun h11 => ?_)
              · refine L_sipush eX10_lay_21 rfl ?_
                exact V_ireturn eX10_lay_24 ((by first | (exfalso; omega) | exact ⟨rfl, rfl⟩))
              · refine L_iload_n eX10_lay_14 rfl ?_
                refine L_sipush eX10_lay_15 rfl ?_
                refine V_icmple eX10_lay_18 (fun h18 => ?_) (fun h18 => ?_)
                · refine L_iload_n eX10_lay_25 rfl ?_
                  refine V_ifne eX10_lay_26 (fun h26 => ?_) (fun h26 => ?_)
                  · (exfalso; omega)
                  · refine L_aload_n eX10_lay_29 rfl ?_
                    refine L_getR (r := 59) eX10_lay_30 f_X10_63.g rfl rfl (by decide) ?_
                    refine L_iload_n eX10_lay_33 rfl ?_
                    refine C_v1 (p_X2_addHide_full h2) v_X10_294 eX10_lay_34 rfl rfl ?_
                    refine V_goto eX10_lay_37 ?_
                    exact V_ireturn eX10_lay_48 ((by first | (exfalso; omega) | exact ⟨rfl, rfl⟩))
                · refine L_sipush eX10_lay_21 rfl ?_
                  exact V_ireturn eX10_lay_24 ((by first | (exfalso; omega) | exact ⟨rfl, rfl⟩))
        · refine L_ent [some (.ref 66), some (vi 0), some (vi x)] rfl ?_
          refine L_iload_n eX11_lay_0 rfl ?_
          refine V_i2l eX11_lay_1 ?_
          refine L_lconst0 eX11_lay_2 ?_
          refine L_lconst1 eX11_lay_3 ?_
          refine C_s1 (p_X11_in (by omega) (by omega) (by omega)) v_X11_152 eX11_lay_4 rfl ?_
          refine V_ifeqB eX11_lay_7 (fun h7 => ?_) (fun h7 => ?_)
          · refine L_sipush eX11_lay_22 rfl ?_
            exact V_ireturn eX11_lay_25 ((by first | (exfalso; omega) | exact ⟨rfl, rfl⟩))
          · refine L_iload_n eX11_lay_10 rfl ?_
            refine V_i2l eX11_lay_11 ?_
            refine L_lconst1 eX11_lay_12 ?_
            refine L_ldc2 eX11_lay_13 k_X11_414 ?_
            refine C_s1 (p_X11_in (by omega) (by omega) (by omega)) v_X11_152 eX11_lay_16 rfl ?_
            refine V_ifneB eX11_lay_19 (fun h19 => ?_) (fun h19 => ?_)
            · refine L_iload_n eX11_lay_26 rfl ?_
              refine V_ifne eX11_lay_27 (fun h27 => ?_) (fun h27 => ?_)
              · refine L_aload_n eX11_lay_42 rfl ?_
                refine L_get eX11_lay_43 f_X11_278.g rfl rfl ?_
                refine L_bipush eX11_lay_46 rfl ?_
                refine V_icmpne eX11_lay_48 (fun h48 => ?_) (fun h48 => ?_)
                · (exfalso; omega)
                · refine L_sipush eX11_lay_51 rfl ?_
                  exact V_ireturn eX11_lay_54 ((by first | (exfalso; omega) | exact ⟨rfl, rfl⟩))
              · refine L_aload_n eX11_lay_30 rfl ?_
                refine L_get eX11_lay_31 f_X11_275.g rfl rfl ?_
                refine L_bipush eX11_lay_34 rfl ?_
                refine V_icmpne eX11_lay_36 (fun h36 => ?_) (fun h36 => ?_)
                · (exfalso; omega)
                · refine V_goto eX11_lay_39 ?_
                  refine L_sipush eX11_lay_51 rfl ?_
                  exact V_ireturn eX11_lay_54 ((by first | (exfalso; omega) | exact ⟨rfl, rfl⟩))
            · refine L_sipush eX11_lay_22 rfl ?_
              exact V_ireturn eX11_lay_25 ((by first | (exfalso; omega) | exact ⟨rfl, rfl⟩))
      · have e49 : uF F 59 0 (F 59 0 + 1) 66 49 = F 59 0 := by rw [uF_ne (by decide)]; exact hhn.1
        refine ⟨vi (F 59 0 + 1), uF F 59 0 (F 59 0 + 1), sA A 60 (uI (A 60) (F 59 0) x), uF (uF F 59 0 (F 59 0 + 1)) 66 49 (F 59 0 + 1), sA (sA A 60 (uI (A 60) (F 59 0) x)) 93 (uI (A 93) (F 59 0) x), fun G => ?_, fun G => ?_, ?_, ty_v⟩
        · refine L_ent [some (.ref 0), some (vi 0), some (vi x)] rfl ?_
          refine L_iload_n eX10_lay_0 rfl ?_
          refine V_iflt eX10_lay_1 (fun h1 => ?_) (fun h1 => ?_)
          · refine L_sipush eX10_lay_21 rfl ?_
            exact V_ireturn eX10_lay_24 ((by first | (exfalso; omega) | exact ⟨rfl, rfl⟩))
          · refine L_iload_n eX10_lay_4 rfl ?_
            refine V_iconst eX10_lay_5 ?_
            refine V_icmpgt eX10_lay_6 (fun h6 => ?_) (fun h6 => ?_)
            · refine L_sipush eX10_lay_21 rfl ?_
              exact V_ireturn eX10_lay_24 ((by first | (exfalso; omega) | exact ⟨rfl, rfl⟩))
            · refine L_iload_n eX10_lay_9 rfl ?_
              refine V_iconst eX10_lay_10 ?_
              refine V_icmplt eX10_lay_11 (fun h11 => ?_) (fun h11 => ?_)
              · refine L_sipush eX10_lay_21 rfl ?_
                exact V_ireturn eX10_lay_24 ((by first | (exfalso; omega) | exact ⟨rfl, rfl⟩))
              · refine L_iload_n eX10_lay_14 rfl ?_
                refine L_sipush eX10_lay_15 rfl ?_
                refine V_icmple eX10_lay_18 (fun h18 => ?_) (fun h18 => ?_)
                · refine L_iload_n eX10_lay_25 rfl ?_
                  refine V_ifne eX10_lay_26 (fun h26 => ?_) (fun h26 => ?_)
                  · (exfalso; omega)
                  · refine L_aload_n eX10_lay_29 rfl ?_
                    refine L_getR (r := 59) eX10_lay_30 f_X10_63.g rfl rfl (by decide) ?_
                    refine L_iload_n eX10_lay_33 rfl ?_
                    refine C_v1 (p_X2_addHide (by omega)) v_X10_294 eX10_lay_34 rfl rfl ?_
                    refine V_goto eX10_lay_37 ?_
                    exact V_ireturn eX10_lay_48 ((by first | (exfalso; omega) | exact ⟨rfl, rfl⟩))
                · refine L_sipush eX10_lay_21 rfl ?_
                  exact V_ireturn eX10_lay_24 ((by first | (exfalso; omega) | exact ⟨rfl, rfl⟩))
        · refine L_ent [some (.ref 66), some (vi 0), some (vi x)] rfl ?_
          have h93 : sA A 60 (uI (A 60) (F 59 0) x) 93 = A 93 := sA_ne (by decide)
          generalize hA1 : sA A 60 (uI (A 60) (F 59 0) x) = A1 at *
          generalize hF1 : uF F 59 0 (F 59 0 + 1) = F1 at *
          generalize F 59 0 = z at *
          refine L_iload_n eX11_lay_0 rfl ?_
          refine V_i2l eX11_lay_1 ?_
          refine L_lconst0 eX11_lay_2 ?_
          refine L_lconst1 eX11_lay_3 ?_
          refine C_s1 (p_X11_in (by omega) (by omega) (by omega)) v_X11_152 eX11_lay_4 rfl ?_
          refine V_ifeqB eX11_lay_7 (fun h7 => ?_) (fun h7 => ?_)
          · (exfalso; omega)
          · refine L_iload_n eX11_lay_10 rfl ?_
            refine V_i2l eX11_lay_11 ?_
            refine L_lconst1 eX11_lay_12 ?_
            refine L_ldc2 eX11_lay_13 k_X11_414 ?_
            refine C_s1 (p_X11_in (by omega) (by omega) (by omega)) v_X11_152 eX11_lay_16 rfl ?_
            refine V_ifneB eX11_lay_19 (fun h19 => ?_) (fun h19 => ?_)
            · refine L_iload_n eX11_lay_26 rfl ?_
              refine V_ifne eX11_lay_27 (fun h27 => ?_) (fun h27 => ?_)
              · (exfalso; omega)
              · refine L_aload_n eX11_lay_30 rfl ?_
                refine L_get eX11_lay_31 f_X11_275.g rfl rfl ?_
                refine L_bipush eX11_lay_34 rfl ?_
                refine V_icmpne eX11_lay_36 (fun h36 => ?_) (fun h36 => ?_)
                · refine L_iload_n eX11_lay_55 rfl ?_
                  refine V_ifne eX11_lay_56 (fun h56 => ?_) (fun h56 => ?_)
                  · (exfalso; omega)
                  · refine L_aload_n eX11_lay_59 rfl ?_
                    refine L_getR (r := 93) eX11_lay_60 f_X11_96.g rfl rfl (by decide) ?_
                    refine L_aload_n eX11_lay_63 rfl ?_
                    refine L_get eX11_lay_64 f_X11_275.g rfl rfl ?_
                    refine L_iload_n eX11_lay_67 rfl ?_
                    refine L_iast eX11_lay_68 rfl ?_
                    refine L_aload_n eX11_lay_69 rfl ?_
                    refine L_dup eX11_lay_70 ?_
                    refine L_get eX11_lay_71 f_X11_275.g rfl rfl ?_
                    refine V_iconst eX11_lay_74 ?_
                    refine V_iadd eX11_lay_75 ?_
                    refine L_put eX11_lay_76 f_X11_275 rfl rfl ?_
                    refine L_aload_n eX11_lay_79 rfl ?_
                    refine L_get eX11_lay_80 f_X11_275.g rfl rfl ?_
                    exact V_ireturn eX11_lay_83 ((by rw [uF_eq, e49]; refine ⟨rfl, ?_⟩; rw [h93]))
                · refine V_goto eX11_lay_39 ?_
                  (exfalso; omega)
            · (exfalso; omega)
        · refine h.fr ⟨fun o k e => ?_, fun o e => ?_⟩ ?_ ?_ ?_ ?_ ?_ ?_ ?_ ?_ ?_ ?_ ?_
          · have := kRF_in e
            rw [uF_ne (by omega), uF_ne (by omega)]
          · have := kRA_in e
            rw [sA_ne (by omega), sA_ne (by omega)]
          · simpa [uF] using h.ear
          · simpa [uF] using h.post
          · simpa [uF] using h.tx
          · simpa [uF, sA] using h.txb
          · simpa [uF] using h.fa
          · simp [uF]
            omega
          · intro i a b
            simp only [uF, sA, uI]
            simp [uF] at b ⊢
            by_cases c : i = F 59 0
            · rw [c]; rw [uI_eq, uI_eq]
              exact ⟨rfl, h1.2⟩
            · simp only [uI_ne c]
              exact h.hd i a (by omega)
          · simpa [uF] using h.cn
          · simpa [uF, sA] using h.ct
          · simpa [uF] using h.fn
          · simpa [uF, sA] using h.fi
    · have h01 : w = 1 := by omega
      subst h01
      by_cases h2 : F 59 1 = 8
      · refine ⟨vi (-1004), F, A, F, A, fun G => ?_, fun G => ?_, h, ty_v⟩
        · refine L_ent [some (.ref 0), some (vi 1), some (vi x)] rfl ?_
          refine L_iload_n eX10_lay_0 rfl ?_
          refine V_iflt eX10_lay_1 (fun h1 => ?_) (fun h1 => ?_)
          · refine L_sipush eX10_lay_21 rfl ?_
            exact V_ireturn eX10_lay_24 ((by first | (exfalso; omega) | exact ⟨rfl, rfl⟩))
          · refine L_iload_n eX10_lay_4 rfl ?_
            refine V_iconst eX10_lay_5 ?_
            refine V_icmpgt eX10_lay_6 (fun h6 => ?_) (fun h6 => ?_)
            · refine L_sipush eX10_lay_21 rfl ?_
              exact V_ireturn eX10_lay_24 ((by first | (exfalso; omega) | exact ⟨rfl, rfl⟩))
            · refine L_iload_n eX10_lay_9 rfl ?_
              refine V_iconst eX10_lay_10 ?_
              refine V_icmplt eX10_lay_11 (fun h11 => ?_) (fun h11 => ?_)
              · refine L_sipush eX10_lay_21 rfl ?_
                exact V_ireturn eX10_lay_24 ((by first | (exfalso; omega) | exact ⟨rfl, rfl⟩))
              · refine L_iload_n eX10_lay_14 rfl ?_
                refine L_sipush eX10_lay_15 rfl ?_
                refine V_icmple eX10_lay_18 (fun h18 => ?_) (fun h18 => ?_)
                · refine L_iload_n eX10_lay_25 rfl ?_
                  refine V_ifne eX10_lay_26 (fun h26 => ?_) (fun h26 => ?_)
                  · refine L_aload_n eX10_lay_40 rfl ?_
                    refine L_getR (r := 59) eX10_lay_41 f_X10_63.g rfl rfl (by decide) ?_
                    refine L_iload_n eX10_lay_44 rfl ?_
                    refine C_v1 (p_X2_addCut_full h2) v_X10_297 eX10_lay_45 rfl rfl ?_
                    exact V_ireturn eX10_lay_48 ((by first | (exfalso; omega) | exact ⟨rfl, rfl⟩))
                  · (exfalso; omega)
                · refine L_sipush eX10_lay_21 rfl ?_
                  exact V_ireturn eX10_lay_24 ((by first | (exfalso; omega) | exact ⟨rfl, rfl⟩))
        · refine L_ent [some (.ref 66), some (vi 1), some (vi x)] rfl ?_
          refine L_iload_n eX11_lay_0 rfl ?_
          refine V_i2l eX11_lay_1 ?_
          refine L_lconst0 eX11_lay_2 ?_
          refine L_lconst1 eX11_lay_3 ?_
          refine C_s1 (p_X11_in (by omega) (by omega) (by omega)) v_X11_152 eX11_lay_4 rfl ?_
          refine V_ifeqB eX11_lay_7 (fun h7 => ?_) (fun h7 => ?_)
          · refine L_sipush eX11_lay_22 rfl ?_
            exact V_ireturn eX11_lay_25 ((by first | (exfalso; omega) | exact ⟨rfl, rfl⟩))
          · refine L_iload_n eX11_lay_10 rfl ?_
            refine V_i2l eX11_lay_11 ?_
            refine L_lconst1 eX11_lay_12 ?_
            refine L_ldc2 eX11_lay_13 k_X11_414 ?_
            refine C_s1 (p_X11_in (by omega) (by omega) (by omega)) v_X11_152 eX11_lay_16 rfl ?_
            refine V_ifneB eX11_lay_19 (fun h19 => ?_) (fun h19 => ?_)
            · refine L_iload_n eX11_lay_26 rfl ?_
              refine V_ifne eX11_lay_27 (fun h27 => ?_) (fun h27 => ?_)
              · refine L_aload_n eX11_lay_42 rfl ?_
                refine L_get eX11_lay_43 f_X11_278.g rfl rfl ?_
                refine L_bipush eX11_lay_46 rfl ?_
                refine V_icmpne eX11_lay_48 (fun h48 => ?_) (fun h48 => ?_)
                · (exfalso; omega)
                · refine L_sipush eX11_lay_51 rfl ?_
                  exact V_ireturn eX11_lay_54 ((by first | (exfalso; omega) | exact ⟨rfl, rfl⟩))
              · refine L_aload_n eX11_lay_30 rfl ?_
                refine L_get eX11_lay_31 f_X11_275.g rfl rfl ?_
                refine L_bipush eX11_lay_34 rfl ?_
                refine V_icmpne eX11_lay_36 (fun h36 => ?_) (fun h36 => ?_)
                · (exfalso; omega)
                · refine V_goto eX11_lay_39 ?_
                  refine L_sipush eX11_lay_51 rfl ?_
                  exact V_ireturn eX11_lay_54 ((by first | (exfalso; omega) | exact ⟨rfl, rfl⟩))
            · refine L_sipush eX11_lay_22 rfl ?_
              exact V_ireturn eX11_lay_25 ((by first | (exfalso; omega) | exact ⟨rfl, rfl⟩))
      · have e50 : uF F 59 1 (F 59 1 + 1) 66 50 = F 59 1 := by rw [uF_ne (by decide)]; exact hcn.1
        refine ⟨vi (F 59 1 + 1), uF F 59 1 (F 59 1 + 1), sA A 61 (uI (A 61) (F 59 1) x), uF (uF F 59 1 (F 59 1 + 1)) 66 50 (F 59 1 + 1), sA (sA A 61 (uI (A 61) (F 59 1) x)) 94 (uI (A 94) (F 59 1) x), fun G => ?_, fun G => ?_, ?_, ty_v⟩
        · refine L_ent [some (.ref 0), some (vi 1), some (vi x)] rfl ?_
          refine L_iload_n eX10_lay_0 rfl ?_
          refine V_iflt eX10_lay_1 (fun h1 => ?_) (fun h1 => ?_)
          · refine L_sipush eX10_lay_21 rfl ?_
            exact V_ireturn eX10_lay_24 ((by first | (exfalso; omega) | exact ⟨rfl, rfl⟩))
          · refine L_iload_n eX10_lay_4 rfl ?_
            refine V_iconst eX10_lay_5 ?_
            refine V_icmpgt eX10_lay_6 (fun h6 => ?_) (fun h6 => ?_)
            · refine L_sipush eX10_lay_21 rfl ?_
              exact V_ireturn eX10_lay_24 ((by first | (exfalso; omega) | exact ⟨rfl, rfl⟩))
            · refine L_iload_n eX10_lay_9 rfl ?_
              refine V_iconst eX10_lay_10 ?_
              refine V_icmplt eX10_lay_11 (fun h11 => ?_) (fun h11 => ?_)
              · refine L_sipush eX10_lay_21 rfl ?_
                exact V_ireturn eX10_lay_24 ((by first | (exfalso; omega) | exact ⟨rfl, rfl⟩))
              · refine L_iload_n eX10_lay_14 rfl ?_
                refine L_sipush eX10_lay_15 rfl ?_
                refine V_icmple eX10_lay_18 (fun h18 => ?_) (fun h18 => ?_)
                · refine L_iload_n eX10_lay_25 rfl ?_
                  refine V_ifne eX10_lay_26 (fun h26 => ?_) (fun h26 => ?_)
                  · refine L_aload_n eX10_lay_40 rfl ?_
                    refine L_getR (r := 59) eX10_lay_41 f_X10_63.g rfl rfl (by decide) ?_
                    refine L_iload_n eX10_lay_44 rfl ?_
                    refine C_v1 (p_X2_addCut (by omega)) v_X10_297 eX10_lay_45 rfl rfl ?_
                    exact V_ireturn eX10_lay_48 ((by first | (exfalso; omega) | exact ⟨rfl, rfl⟩))
                  · (exfalso; omega)
                · refine L_sipush eX10_lay_21 rfl ?_
                  exact V_ireturn eX10_lay_24 ((by first | (exfalso; omega) | exact ⟨rfl, rfl⟩))
        · refine L_ent [some (.ref 66), some (vi 1), some (vi x)] rfl ?_
          have h94 : sA A 61 (uI (A 61) (F 59 1) x) 94 = A 94 := sA_ne (by decide)
          generalize hA1 : sA A 61 (uI (A 61) (F 59 1) x) = A1 at *
          generalize hF1 : uF F 59 1 (F 59 1 + 1) = F1 at *
          generalize F 59 1 = z at *
          refine L_iload_n eX11_lay_0 rfl ?_
          refine V_i2l eX11_lay_1 ?_
          refine L_lconst0 eX11_lay_2 ?_
          refine L_lconst1 eX11_lay_3 ?_
          refine C_s1 (p_X11_in (by omega) (by omega) (by omega)) v_X11_152 eX11_lay_4 rfl ?_
          refine V_ifeqB eX11_lay_7 (fun h7 => ?_) (fun h7 => ?_)
          · (exfalso; omega)
          · refine L_iload_n eX11_lay_10 rfl ?_
            refine V_i2l eX11_lay_11 ?_
            refine L_lconst1 eX11_lay_12 ?_
            refine L_ldc2 eX11_lay_13 k_X11_414 ?_
            refine C_s1 (p_X11_in (by omega) (by omega) (by omega)) v_X11_152 eX11_lay_16 rfl ?_
            refine V_ifneB eX11_lay_19 (fun h19 => ?_) (fun h19 => ?_)
            · refine L_iload_n eX11_lay_26 rfl ?_
              refine V_ifne eX11_lay_27 (fun h27 => ?_) (fun h27 => ?_)
              · refine L_aload_n eX11_lay_42 rfl ?_
                refine L_get eX11_lay_43 f_X11_278.g rfl rfl ?_
                refine L_bipush eX11_lay_46 rfl ?_
                refine V_icmpne eX11_lay_48 (fun h48 => ?_) (fun h48 => ?_)
                · refine L_iload_n eX11_lay_55 rfl ?_
                  refine V_ifne eX11_lay_56 (fun h56 => ?_) (fun h56 => ?_)
                  · refine L_aload_n eX11_lay_84 rfl ?_
                    refine L_getR (r := 94) eX11_lay_85 f_X11_99.g rfl rfl (by decide) ?_
                    refine L_aload_n eX11_lay_88 rfl ?_
                    refine L_get eX11_lay_89 f_X11_278.g rfl rfl ?_
                    refine L_iload_n eX11_lay_92 rfl ?_
                    refine L_iast eX11_lay_93 rfl ?_
                    refine L_aload_n eX11_lay_94 rfl ?_
                    refine L_dup eX11_lay_95 ?_
                    refine L_get eX11_lay_96 f_X11_278.g rfl rfl ?_
                    refine V_iconst eX11_lay_99 ?_
                    refine V_iadd eX11_lay_100 ?_
                    refine L_put eX11_lay_101 f_X11_278 rfl rfl ?_
                    refine L_aload_n eX11_lay_104 rfl ?_
                    refine L_get eX11_lay_105 f_X11_278.g rfl rfl ?_
                    exact V_ireturn eX11_lay_108 ((by rw [uF_eq, e50]; refine ⟨rfl, ?_⟩; rw [h94]))
                  · (exfalso; omega)
                · (exfalso; omega)
              · (exfalso; omega)
            · (exfalso; omega)
        · refine h.fr ⟨fun o k e => ?_, fun o e => ?_⟩ ?_ ?_ ?_ ?_ ?_ ?_ ?_ ?_ ?_ ?_ ?_
          · have := kRF_in e
            rw [uF_ne (by omega), uF_ne (by omega)]
          · have := kRA_in e
            rw [sA_ne (by omega), sA_ne (by omega)]
          · simpa [uF] using h.ear
          · simpa [uF] using h.post
          · simpa [uF] using h.tx
          · simpa [uF, sA] using h.txb
          · simpa [uF] using h.fa
          · simpa [uF] using h.hn
          · simpa [uF, sA] using h.hd
          · simp [uF]
            omega
          · intro i a b
            simp only [uF, sA, uI]
            simp [uF] at b ⊢
            by_cases c : i = F 59 1
            · rw [c]; rw [uI_eq, uI_eq]
              exact ⟨rfl, h1.2⟩
            · simp only [uI_ne c]
              exact h.ct i a (by omega)
          · simpa [uF] using h.fn
          · simpa [uF, sA] using h.fi
  · refine ⟨vi (-1002), F, A, F, A, fun G => ?_, fun G => ?_, h, ty_v⟩
    · refine L_ent [some (.ref 0), some (vi w), some (vi x)] rfl ?_
      refine L_iload_n eX10_lay_0 rfl ?_
      refine V_iflt eX10_lay_1 (fun h1 => ?_) (fun h1 => ?_)
      · refine L_sipush eX10_lay_21 rfl ?_
        exact V_ireturn eX10_lay_24 ((by first | (exfalso; omega) | exact ⟨rfl, rfl⟩))
      · refine L_iload_n eX10_lay_4 rfl ?_
        refine V_iconst eX10_lay_5 ?_
        refine V_icmpgt eX10_lay_6 (fun h6 => ?_) (fun h6 => ?_)
        · refine L_sipush eX10_lay_21 rfl ?_
          exact V_ireturn eX10_lay_24 ((by first | (exfalso; omega) | exact ⟨rfl, rfl⟩))
        · refine L_iload_n eX10_lay_9 rfl ?_
          refine V_iconst eX10_lay_10 ?_
          refine V_icmplt eX10_lay_11 (fun h11 => ?_) (fun h11 => ?_)
          · refine L_sipush eX10_lay_21 rfl ?_
            exact V_ireturn eX10_lay_24 ((by first | (exfalso; omega) | exact ⟨rfl, rfl⟩))
          · refine L_iload_n eX10_lay_14 rfl ?_
            refine L_sipush eX10_lay_15 rfl ?_
            refine V_icmple eX10_lay_18 (fun h18 => ?_) (fun h18 => ?_)
            · (exfalso; omega)
            · refine L_sipush eX10_lay_21 rfl ?_
              exact V_ireturn eX10_lay_24 ((by first | (exfalso; omega) | exact ⟨rfl, rfl⟩))
    · refine L_ent [some (.ref 66), some (vi w), some (vi x)] rfl ?_
      refine L_iload_n eX11_lay_0 rfl ?_
      refine V_i2l eX11_lay_1 ?_
      refine L_lconst0 eX11_lay_2 ?_
      refine L_lconst1 eX11_lay_3 ?_
      refine C_s1 (p_X11_in (by omega) (by omega) (by omega)) v_X11_152 eX11_lay_4 rfl ?_
      refine V_ifeqB eX11_lay_7 (fun h7 => ?_) (fun h7 => ?_)
      · refine L_sipush eX11_lay_22 rfl ?_
        exact V_ireturn eX11_lay_25 ((by first | (exfalso; omega) | exact ⟨rfl, rfl⟩))
      · refine L_iload_n eX11_lay_10 rfl ?_
        refine V_i2l eX11_lay_11 ?_
        refine L_lconst1 eX11_lay_12 ?_
        refine L_ldc2 eX11_lay_13 k_X11_414 ?_
        refine C_s1 (p_X11_in (by omega) (by omega) (by omega)) v_X11_152 eX11_lay_16 rfl ?_
        refine V_ifneB eX11_lay_19 (fun h19 => ?_) (fun h19 => ?_)
        · (exfalso; omega)
        · refine L_sipush eX11_lay_22 rfl ?_
          exact V_ireturn eX11_lay_25 ((by first | (exfalso; omega) | exact ⟨rfl, rfl⟩))
end R74

