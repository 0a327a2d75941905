/-! pairs: the class's answer is the reference's, and what holds between two calls holds again -/
/-- the answer is an int, or a long where the method says so -/
def tyV (t : Option FieldType) (v : Value) : Prop := match t with
  | some .long => ∃ z, v = vl z
  | _ => ∃ z, v = vi z
def tyB (t : Option FieldType) : Bool := match t with
  | some .long => false
  | _ => true
theorem ty_v {t : Option FieldType} {z : Int} (h : tyB t = true := by rfl) : tyV t (vi z) := by
  unfold tyV
  split
  · exact absurd h (by decide)
  · exact ⟨z, rfl⟩
theorem ty_l {z : Int} : tyV (some .long) (vl z) := ⟨z, rfl⟩
def Pr (mC mM : mT) (args : List Value) (F : fT) (A : nT) : Prop := ∃ r F1 A1 F2 A2, (∀ G : gT, Mu G mC (.ref 0 :: args) F A (some r) F1 A1) ∧ (∀ G : gT, Mu G mM (.ref 66 :: args) F1 A1 (some r) F2 A2) ∧ Iv F2 A2 ∧ tyV (mRt mC) r
def i32 (z : Int) : Prop := -2147483648 ≤ z ∧ z < 2147483648
section P63
variable {F : fT} {A : nT}
theorem iv_both (h : Iv F A) : ∃ F1 A1 F2 A2, (∀ G : gT, Mu G mX10_theThrow [.ref 0] F A (some (.ref 42)) F1 A1) ∧ (∀ G : gT, Mu G mX11_toss [.ref 66, vi (F1 66 10)] F1 A1 none F2 A2) ∧ Iv F1 A1 ∧ Iv F2 A2 ∧ flK F1 A1 ∧ kp F A F1 A1 ∧ kp F1 A1 F2 A2 ∧ agP (inN F) (A1 43, A1 44) (A2 84, A2 85) := by
  obtain ⟨F1, A1, hC, i1, k1, fk⟩ := iv_theThrow h
  obtain ⟨F2, A2, hM, i2, k2, e2, ag⟩ := iv_toss i1 (g := F1 66 10) (by rw [i1.giv.1]; exact i1.giv.2)
  refine ⟨F1, A1, F2, A2, hC, hM, i1, i2, fk, k1, k2, ?_⟩
  intro i hi
  have a1 := fk.ag i (by rw [k1.Qn]; exact hi)
  have a2 := ag i (by rw [k2.Qn, k1.Qn]; exact hi)
  rw [k2.Qt, i1.giv.1] at a2
  exact ⟨a1.1.trans a2.1.symm, a1.2.trans a2.2.symm⟩
theorem inN_at {k t : Int} (h : Iv F A) (hk : 0 ≤ k ∧ k ≤ F 2 0) (ht : 0 ≤ t ∧ t ≤ F 6 0) : inN F (13 * t + k) := by
  have hn : 1 ≤ F 2 0 ∧ F 2 0 ≤ 12 := h.ok.n
  unfold inN inI
  omega
theorem pr_joint (h : Iv F A) {k t w : Int} (hk : i32 k) (ht : i32 t) (hw : i32 w) : Pr mX10_joint mX11_joint [vi k, vi t, vi w] F A := by
  unfold i32 at hk ht hw
  have hpieces2 : 1 ≤ F 2 0 ∧ F 2 0 ≤ 12 := h.ok.n
  have hticks : 1 ≤ F 6 0 ∧ F 6 0 ≤ 60 := h.ok.T
  have e0 := h.s.n
  have e5 := h.s.T
  by_cases h1 : (0 ≤ k ∧ k ≤ F 2 0) ∧ (0 ≤ t ∧ t ≤ F 6 0)
  · by_cases h2 : 0 ≤ w ∧ w ≤ 1
    · obtain ⟨F1, A1, F2, A2, hC, hM, i1, i2, fk, k1, k2, ag⟩ := iv_both h
      have a := ag _ (inN_at h h1.1 h1.2)
      have b := i2.b3 (13 * t + k) (by omega) (by omega)
      simp only [] at a b
      unfold ab at b
      refine ⟨vi (if w = 0 then A1 43 (13 * t + k) else A1 44 (13 * t + k)), F1, A1, F2, A2, fun G => ?_, fun G => ?_, i2, ty_v⟩
      · have hpieces := hpieces2
        refine L_ent [some (.ref 0), some (vi k), some (vi t), some (vi w), none] rfl ?_
        refine L_aload_n eX10_joint_0 rfl ?_
        refine L_iload_n eX10_joint_1 rfl ?_
        refine C_v1 (p_X10_isJoint (by omega) hpieces) v_X10_189 eX10_joint_2 rfl rfl ?_
        refine V_ifeqB eX10_joint_5 (fun h5 => ?_) (fun h5 => ?_)
        · refine L_sipush eX10_joint_16 rfl ?_
          exact V_ireturn eX10_joint_19 ((by first | (exfalso; omega) | (refine ⟨?_, rfl⟩; first | (rw [if_pos (by omega)]; done) | (rw [if_neg (by omega)]; done))))
        · refine L_aload_n eX10_joint_8 rfl ?_
          refine L_iload_n eX10_joint_9 rfl ?_
          refine C_v1 (p_X10_isTick (by omega) hticks) v_X10_192 eX10_joint_10 rfl rfl ?_
          refine V_ifneB eX10_joint_13 (fun h13 => ?_) (fun h13 => ?_)
          · refine L_iload_n eX10_joint_20 rfl ?_
            refine V_iflt eX10_joint_21 (fun h21 => ?_) (fun h21 => ?_)
            · refine L_sipush eX10_joint_29 rfl ?_
              exact V_ireturn eX10_joint_32 ((by first | (exfalso; omega) | (refine ⟨?_, rfl⟩; first | (rw [if_pos (by omega)]; done) | (rw [if_neg (by omega)]; done))))
            · refine L_iload_n eX10_joint_24 rfl ?_
              refine V_iconst eX10_joint_25 ?_
              refine V_icmple eX10_joint_26 (fun h26 => ?_) (fun h26 => ?_)
              · refine L_aload_n eX10_joint_33 rfl ?_
                refine C_v1 (hC G) v_X10_195 eX10_joint_34 rfl rfl ?_
                refine L_astore eX10_joint_37 (s_4 rfl rfl) ?_
                refine L_iload_n eX10_joint_39 rfl ?_
                refine V_ifne eX10_joint_40 (fun h40 => ?_) (fun h40 => ?_)
                · refine L_aload eX10_joint_53 rfl ?_
                  refine L_iload_n eX10_joint_55 rfl ?_
                  refine L_iload_n eX10_joint_56 rfl ?_
                  refine C_v1 (p_X1_yOf (Or.inl rfl) (by omega) (by omega)) v_X10_203 eX10_joint_57 rfl rfl ?_
                  exact V_ireturn eX10_joint_60 ((by first | (exfalso; omega) | (refine ⟨?_, rfl⟩; first | (rw [if_pos (by omega)]; done) | (rw [if_neg (by omega)]; done))))
                · refine L_aload eX10_joint_43 rfl ?_
                  refine L_iload_n eX10_joint_45 rfl ?_
                  refine L_iload_n eX10_joint_46 rfl ?_
                  refine C_v1 (p_X1_xOf (Or.inl rfl) (by omega) (by omega)) v_X10_199 eX10_joint_47 rfl rfl ?_
                  refine V_goto eX10_joint_50 ?_
                  exact V_ireturn eX10_joint_60 ((by first | (exfalso; omega) | (refine ⟨?_, rfl⟩; first | (rw [if_pos (by omega)]; done) | (rw [if_neg (by omega)]; done))))
              · refine L_sipush eX10_joint_29 rfl ?_
                exact V_ireturn eX10_joint_32 ((by first | (exfalso; omega) | (refine ⟨?_, rfl⟩; first | (rw [if_pos (by omega)]; done) | (rw [if_neg (by omega)]; done))))
          · refine L_sipush eX10_joint_16 rfl ?_
            exact V_ireturn eX10_joint_19 ((by first | (exfalso; omega) | (refine ⟨?_, rfl⟩; first | (rw [if_pos (by omega)]; done) | (rw [if_neg (by omega)]; done))))
      · have f0 := k1.1 66 0 rfl
        have f5 := k1.1 66 5 rfl
        have hpieces : 1 ≤ F1 66 0 ∧ F1 66 0 ≤ 12 := by omega
        rw [a.1, a.2]
        refine L_ent [some (.ref 66), some (vi k), some (vi t), some (vi w)] rfl ?_
        refine L_aload_n eX11_joint_0 rfl ?_
        refine L_iload_n eX11_joint_1 rfl ?_
        refine C_v1 (p_X11_noJoint (by omega) hpieces) v_X11_307 eX11_joint_2 rfl rfl ?_
        refine V_ifneB eX11_joint_5 (fun h5 => ?_) (fun h5 => ?_)
        · refine L_sipush eX11_joint_22 rfl ?_
          exact V_ireturn eX11_joint_25 ((by first | (exfalso; omega) | (refine ⟨?_, rfl⟩; first | (rw [if_pos (by omega)]; done) | (rw [if_neg (by omega)]; done))))
        · refine L_iload_n eX11_joint_8 rfl ?_
          refine V_i2l eX11_joint_9 ?_
          refine L_lconst0 eX11_joint_10 ?_
          refine L_aload_n eX11_joint_11 rfl ?_
          refine L_get eX11_joint_12 f_X11_127.g rfl rfl ?_
          refine V_i2l eX11_joint_15 ?_
          refine C_s1 (p_X11_in (by omega) (by omega) (by omega)) v_X11_152 eX11_joint_16 rfl ?_
          refine V_ifneB eX11_joint_19 (fun h19 => ?_) (fun h19 => ?_)
          · refine L_iload_n eX11_joint_26 rfl ?_
            refine V_i2l eX11_joint_27 ?_
            refine L_lconst0 eX11_joint_28 ?_
            refine L_lconst1 eX11_joint_29 ?_
            refine C_s1 (p_X11_in (by omega) (by omega) (by omega)) v_X11_152 eX11_joint_30 rfl ?_
            refine V_ifneB eX11_joint_33 (fun h33 => ?_) (fun h33 => ?_)
            · refine L_aload_n eX11_joint_40 rfl ?_
              refine L_aload_n eX11_joint_41 rfl ?_
              refine L_get eX11_joint_42 f_X11_133.g rfl rfl ?_
              refine C_v0 (hM G) v_X11_311 eX11_joint_45 rfl rfl ?_
              refine L_iload_n eX11_joint_48 rfl ?_
              refine V_ifne eX11_joint_49 (fun h49 => ?_) (fun h49 => ?_)
              · refine L_aload_n eX11_joint_65 rfl ?_
                refine L_getR (r := 85) eX11_joint_66 f_X11_69.g rfl rfl (by decide) ?_
                refine L_iload_n eX11_joint_69 rfl ?_
                refine L_iload_n eX11_joint_70 rfl ?_
                refine C_s1 p_X11_cell v_X11_284 eX11_joint_71 rfl ?_
                refine L_lald eX11_joint_74 rfl ?_
                refine V_l2i eX11_joint_75 ?_
                exact V_ireturn eX11_joint_76 ((by first | (exfalso; omega) | (refine ⟨?_, rfl⟩; first | (rw [if_pos (by omega)]; done) | (rw [if_neg (by omega)]; done))))
              · refine L_aload_n eX11_joint_52 rfl ?_
                refine L_getR (r := 84) eX11_joint_53 f_X11_65.g rfl rfl (by decide) ?_
                refine L_iload_n eX11_joint_56 rfl ?_
                refine L_iload_n eX11_joint_57 rfl ?_
                refine C_s1 p_X11_cell v_X11_284 eX11_joint_58 rfl ?_
                refine L_lald eX11_joint_61 rfl ?_
                refine V_goto eX11_joint_62 ?_
                refine V_l2i eX11_joint_75 ?_
                exact V_ireturn eX11_joint_76 ((by first | (exfalso; omega) | (refine ⟨?_, rfl⟩; first | (rw [if_pos (by omega)]; done) | (rw [if_neg (by omega)]; done))))
            · refine L_sipush eX11_joint_36 rfl ?_
              exact V_ireturn eX11_joint_39 ((by first | (exfalso; omega) | (refine ⟨?_, rfl⟩; first | (rw [if_pos (by omega)]; done) | (rw [if_neg (by omega)]; done))))
          · refine L_sipush eX11_joint_22 rfl ?_
            exact V_ireturn eX11_joint_25 ((by first | (exfalso; omega) | (refine ⟨?_, rfl⟩; first | (rw [if_pos (by omega)]; done) | (rw [if_neg (by omega)]; done))))
    · refine ⟨vi (-1002), F, A, F, A, fun G => ?_, fun G => ?_, h, ty_v⟩
      · have hpieces := hpieces2
        refine L_ent [some (.ref 0), some (vi k), some (vi t), some (vi w), none] rfl ?_
        refine L_aload_n eX10_joint_0 rfl ?_
        refine L_iload_n eX10_joint_1 rfl ?_
        refine C_v1 (p_X10_isJoint (by omega) hpieces) v_X10_189 eX10_joint_2 rfl rfl ?_
        refine V_ifeqB eX10_joint_5 (fun h5 => ?_) (fun h5 => ?_)
        · refine L_sipush eX10_joint_16 rfl ?_
          exact V_ireturn eX10_joint_19 ((by first | (exfalso; omega) | exact ⟨rfl, rfl⟩))
        · refine L_aload_n eX10_joint_8 rfl ?_
          refine L_iload_n eX10_joint_9 rfl ?_
          refine C_v1 (p_X10_isTick (by omega) hticks) v_X10_192 eX10_joint_10 rfl rfl ?_
          refine V_ifneB eX10_joint_13 (fun h13 => ?_) (fun h13 => ?_)
          · refine L_iload_n eX10_joint_20 rfl ?_
            refine V_iflt eX10_joint_21 (fun h21 => ?_) (fun h21 => ?_)
            · refine L_sipush eX10_joint_29 rfl ?_
              exact V_ireturn eX10_joint_32 ((by first | (exfalso; omega) | exact ⟨rfl, rfl⟩))
            · refine L_iload_n eX10_joint_24 rfl ?_
              refine V_iconst eX10_joint_25 ?_
              refine V_icmple eX10_joint_26 (fun h26 => ?_) (fun h26 => ?_)
              · (exfalso; omega)
              · refine L_sipush eX10_joint_29 rfl ?_
                exact V_ireturn eX10_joint_32 ((by first | (exfalso; omega) | exact ⟨rfl, rfl⟩))
          · refine L_sipush eX10_joint_16 rfl ?_
            exact V_ireturn eX10_joint_19 ((by first | (exfalso; omega) | exact ⟨rfl, rfl⟩))
      · have hpieces : 1 ≤ F 66 0 ∧ F 66 0 ≤ 12 := by omega
        refine L_ent [some (.ref 66), some (vi k), some (vi t), some (vi w)] rfl ?_
        refine L_aload_n eX11_joint_0 rfl ?_
        refine L_iload_n eX11_joint_1 rfl ?_
        refine C_v1 (p_X11_noJoint (by omega) hpieces) v_X11_307 eX11_joint_2 rfl rfl ?_
        refine V_ifneB eX11_joint_5 (fun h5 => ?_) (fun h5 => ?_)
        · refine L_sipush eX11_joint_22 rfl ?_
          exact V_ireturn eX11_joint_25 ((by first | (exfalso; omega) | exact ⟨rfl, rfl⟩))
        · refine L_iload_n eX11_joint_8 rfl ?_
          refine V_i2l eX11_joint_9 ?_
          refine L_lconst0 eX11_joint_10 ?_
          refine L_aload_n eX11_joint_11 rfl ?_
          refine L_get eX11_joint_12 f_X11_127.g rfl rfl ?_
          refine V_i2l eX11_joint_15 ?_
          refine C_s1 (p_X11_in (by omega) (by omega) (by omega)) v_X11_152 eX11_joint_16 rfl ?_
          refine V_ifneB eX11_joint_19 (fun h19 => ?_) (fun h19 => ?_)
          · refine L_iload_n eX11_joint_26 rfl ?_
            refine V_i2l eX11_joint_27 ?_
            refine L_lconst0 eX11_joint_28 ?_
            refine L_lconst1 eX11_joint_29 ?_
            refine C_s1 (p_X11_in (by omega) (by omega) (by omega)) v_X11_152 eX11_joint_30 rfl ?_
            refine V_ifneB eX11_joint_33 (fun h33 => ?_) (fun h33 => ?_)
            · (exfalso; omega)
            · refine L_sipush eX11_joint_36 rfl ?_
              exact V_ireturn eX11_joint_39 ((by first | (exfalso; omega) | exact ⟨rfl, rfl⟩))
          · refine L_sipush eX11_joint_22 rfl ?_
            exact V_ireturn eX11_joint_25 ((by first | (exfalso; omega) | exact ⟨rfl, rfl⟩))
  · refine ⟨vi (-1001), F, A, F, A, fun G => ?_, fun G => ?_, h, ty_v⟩
    · have hpieces := hpieces2
      refine L_ent [some (.ref 0), some (vi k), some (vi t), some (vi w), none] rfl ?_
      refine L_aload_n eX10_joint_0 rfl ?_
      refine L_iload_n eX10_joint_1 rfl ?_
      refine C_v1 (p_X10_isJoint (by omega) hpieces) v_X10_189 eX10_joint_2 rfl rfl ?_
      refine V_ifeqB eX10_joint_5 (fun h5 => ?_) (fun h5 => ?_)
      · refine L_sipush eX10_joint_16 rfl ?_
        exact V_ireturn eX10_joint_19 ((by first | (exfalso; omega) | exact ⟨rfl, rfl⟩))
      · refine L_aload_n eX10_joint_8 rfl ?_
        refine L_iload_n eX10_joint_9 rfl ?_
        refine C_v1 (p_X10_isTick (by omega) hticks) v_X10_192 eX10_joint_10 rfl rfl ?_
        refine V_ifneB eX10_joint_13 (fun h13 => ?_) (fun h13 => ?_)
        · (exfalso; omega)
        · refine L_sipush eX10_joint_16 rfl ?_
          exact V_ireturn eX10_joint_19 ((by first | (exfalso; omega) | exact ⟨rfl, rfl⟩))
    · have hpieces : 1 ≤ F 66 0 ∧ F 66 0 ≤ 12 := by omega
      refine L_ent [some (.ref 66), some (vi k), some (vi t), some (vi w)] rfl ?_
      refine L_aload_n eX11_joint_0 rfl ?_
      refine L_iload_n eX11_joint_1 rfl ?_
      refine C_v1 (p_X11_noJoint (by omega) hpieces) v_X11_307 eX11_joint_2 rfl rfl ?_
      refine V_ifneB eX11_joint_5 (fun h5 => ?_) (fun h5 => ?_)
      · refine L_sipush eX11_joint_22 rfl ?_
        exact V_ireturn eX11_joint_25 ((by first | (exfalso; omega) | exact ⟨rfl, rfl⟩))
      · refine L_iload_n eX11_joint_8 rfl ?_
        refine V_i2l eX11_joint_9 ?_
        refine L_lconst0 eX11_joint_10 ?_
        refine L_aload_n eX11_joint_11 rfl ?_
        refine L_get eX11_joint_12 f_X11_127.g rfl rfl ?_
        refine V_i2l eX11_joint_15 ?_
        refine C_s1 (p_X11_in (by omega) (by omega) (by omega)) v_X11_152 eX11_joint_16 rfl ?_
        refine V_ifneB eX11_joint_19 (fun h19 => ?_) (fun h19 => ?_)
        · (exfalso; omega)
        · refine L_sipush eX11_joint_22 rfl ?_
          exact V_ireturn eX11_joint_25 ((by first | (exfalso; omega) | exact ⟨rfl, rfl⟩))
end P63

