section R71
variable {F : fT} {A : nT}
theorem pr_give (h : Iv F A) {v : Int} (hv : i32 v) : Pr mX10_give mX11_give [vi v] F A := by
  unfold i32 at hv
  by_cases h1 : 10 ≤ v ∧ v ≤ 200
  · refine ⟨vi (F 0 11), uF (uF (uF F 0 11 v) 0 17 0) 52 0 (-1), A, uF (uF (uF (uF F 0 11 v) 0 17 0) 52 0 (-1)) 66 10 v, A, fun G => ?_, fun G => ?_, ?_, ty_v⟩
    · refine L_ent [some (.ref 0), some (vi v), none] rfl ?_
      refine L_iload_n eX10_give_0 rfl ?_
      refine C_s1 (p_X10_isGiven (by omega)) v_X10_169 eX10_give_1 rfl ?_
      refine V_ifneB eX10_give_4 (fun h4 => ?_) (fun h4 => ?_)
      · refine L_aload_n eX10_give_11 rfl ?_
        refine L_get eX10_give_12 f_X10_74.g rfl rfl ?_
        refine L_istore_n eX10_give_15 (s_2 rfl rfl) ?_
        refine L_aload_n eX10_give_16 rfl ?_
        refine L_iload_n eX10_give_17 rfl ?_
        refine L_put eX10_give_18 f_X10_74 rfl rfl ?_
        refine L_aload_n eX10_give_21 rfl ?_
        refine C_v0 p_X10_setChanged v_X10_123 eX10_give_22 rfl rfl ?_
        refine L_iload_n eX10_give_25 rfl ?_
        exact V_ireturn eX10_give_26 ((by first | (exfalso; omega) | exact ⟨rfl, rfl⟩))
      · refine L_sipush eX10_give_7 rfl ?_
        exact V_ireturn eX10_give_10 ((by first | (exfalso; omega) | exact ⟨rfl, rfl⟩))
    · rw [show F 0 11 = uF (uF (uF F 0 11 v) 0 17 0) 52 0 (-1) 66 10 by simp [uF]; exact h.giv.1.symm]
      refine L_ent [some (.ref 66), some (vi v), none] rfl ?_
      refine L_iload_n eX11_give_0 rfl ?_
      refine V_i2l eX11_give_1 ?_
      refine L_ldc2 eX11_give_2 k_X11_268 ?_
      refine L_ldc2 eX11_give_5 k_X11_270 ?_
      refine C_s1 (p_X11_in (by omega) (by omega) (by omega)) v_X11_152 eX11_give_8 rfl ?_
      refine V_ifneB eX11_give_11 (fun h11 => ?_) (fun h11 => ?_)
      · refine L_aload_n eX11_give_18 rfl ?_
        refine L_get eX11_give_19 f_X11_133.g rfl rfl ?_
        refine L_istore_n eX11_give_22 (s_2 rfl rfl) ?_
        refine L_aload_n eX11_give_23 rfl ?_
        refine L_iload_n eX11_give_24 rfl ?_
        refine L_put eX11_give_25 f_X11_133 rfl rfl ?_
        refine L_iload_n eX11_give_28 rfl ?_
        exact V_ireturn eX11_give_29 ((by first | (exfalso; omega) | exact ⟨rfl, rfl⟩))
      · refine L_sipush eX11_give_14 rfl ?_
        exact V_ireturn eX11_give_17 ((by first | (exfalso; omega) | exact ⟨rfl, rfl⟩))
    · have hk : kq F A (uF (uF (uF (uF F 0 11 v) 0 17 0) 52 0 (-1)) 66 10 v) A := by
        refine ⟨fun o k e => ?_, fun o e => rfl⟩
        have := kG_in e
        rw [uF_ne (by omega), uF_ne (by omega), uF_ne (by omega), uF_ne (by omega)]
      refine Iv.mk (hk.Qs h.ok) (hk.Qe h.s) ?_ ?_ ?_ ?_ ?_ ?_ ?_ ?_ ?_ ?_ ?_ ?_ (hk.im0 h.i0) (hk.im1 h.i1) ?_ ?_ ?_ h.b1 h.b2 h.b3
      · simpa [uF] using h1
      · simpa [uF] using h.ear
      · simpa [uF] using h.post
      · simpa [uF] using h.tx
      · simpa [uF] using h.txb
      · simpa [uF] using h.fa
      · simpa [uF] using h.hn
      · simpa [uF] using h.hd
      · simpa [uF] using h.cn
      · simpa [uF] using h.ct
      · simpa [uF] using h.fn
      · simpa [uF] using h.fi
      · exact Or.inl (by simp [uF])
      · exact hk.Qk h.ts (by simp [uF]) rfl rfl
      · exact Or.inl (by simp [uF])
  · refine ⟨vi (-1002), F, A, F, A, fun G => ?_, fun G => ?_, h, ty_v⟩
    · refine L_ent [some (.ref 0), some (vi v), none] rfl ?_
      refine L_iload_n eX10_give_0 rfl ?_
      refine C_s1 (p_X10_isGiven (by omega)) v_X10_169 eX10_give_1 rfl ?_
      refine V_ifneB eX10_give_4 (fun h4 => ?_) (fun h4 => ?_)
      · (exfalso; omega)
      · refine L_sipush eX10_give_7 rfl ?_
        exact V_ireturn eX10_give_10 ((by first | (exfalso; omega) | exact ⟨rfl, rfl⟩))
    · refine L_ent [some (.ref 66), some (vi v), none] rfl ?_
      refine L_iload_n eX11_give_0 rfl ?_
      refine V_i2l eX11_give_1 ?_
      refine L_ldc2 eX11_give_2 k_X11_268 ?_
      refine L_ldc2 eX11_give_5 k_X11_270 ?_
      refine C_s1 (p_X11_in (by omega) (by omega) (by omega)) v_X11_152 eX11_give_8 rfl ?_
      refine V_ifneB eX11_give_11 (fun h11 => ?_) (fun h11 => ?_)
      · (exfalso; omega)
      · refine L_sipush eX11_give_14 rfl ?_
        exact V_ireturn eX11_give_17 ((by first | (exfalso; omega) | exact ⟨rfl, rfl⟩))
end R71

