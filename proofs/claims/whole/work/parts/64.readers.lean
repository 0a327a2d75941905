/-! readers of rows that are alike where they count answer alike -/
section P64
variable {X Y X' Y' : Int → Int} {n T : Nat}
theorem ag_at {k t : Int} (h : agP (inI n T n) (X, Y) (X', Y')) (hn : n ≤ 12) (hk : 0 ≤ k ∧ k ≤ n) (ht : 0 ≤ t ∧ t ≤ T) : X (13 * t + k) = X' (13 * t + k) ∧ Y (13 * t + k) = Y' (13 * t + k) := h _ (by unfold inI; omega)
theorem mv_c {k t : Int} (h : agP (inI n T n) (X, Y) (X', Y')) (hn : n ≤ 12) (hk : 0 ≤ k ∧ k ≤ n) (ht : 1 ≤ t ∧ t ≤ T) : mv X Y k t = mv X' Y' k t := by
  have a := ag_at h hn hk (t := t) (by omega)
  have b := ag_at h hn hk (t := t - 1) (by omega)
  unfold mv
  rw [a.1, a.2, b.1, b.2]
theorem qP_c {x y k t : Int} (h : agP (inI n T n) (X, Y) (X', Y')) (hn : n ≤ 12) (hk : 0 ≤ k ∧ k ≤ n) (ht : 0 ≤ t ∧ t ≤ T) : qP X Y x y k t = qP X' Y' x y k t := by
  have a := ag_at h hn hk ht
  unfold qP
  rw [a.1, a.2]
theorem lpS_c {t : Int} (h : agP (inI n T n) (X, Y) (X', Y')) (hn : n ≤ 12) (ht : 0 ≤ t ∧ t ≤ T) : ∀ j : Nat, j + 1 ≤ n → lpS X Y t j = lpS X' Y' t j := by
  intro j
  induction j with
  | zero => intro _; rfl
  | succ j ih =>
    intro hj
    have e : dot X Y t ((j : Int) + 1) = dot X' Y' t ((j : Int) + 1) := by
      have a := ag_at h hn (k := (j : Int) + 1) (by omega) ht
      have b := ag_at h hn (k := (j : Int) + 1 - 1) (by omega) ht
      have c := ag_at h hn (k := (j : Int) + 1 + 1) (by omega) ht
      rw [show 13 * t + ((j : Int) + 1 - 1) = 13 * t + ((j : Int) + 1) - 1 by omega] at b
      rw [show 13 * t + ((j : Int) + 1 + 1) = 13 * t + ((j : Int) + 1) + 1 by omega] at c
      unfold dot
      rw [a.1, a.2, b.1, b.2, c.1, c.2]
    have e2 := ih (by omega)
    show (if dot X Y t ((j : Int) + 1) < (lpS X Y t j).1 then (dot X Y t ((j : Int) + 1), (j : Int) + 1) else lpS X Y t j) = (if dot X' Y' t ((j : Int) + 1) < (lpS X' Y' t j).1 then (dot X' Y' t ((j : Int) + 1), (j : Int) + 1) else lpS X' Y' t j)
    rw [e, e2]
theorem lpO_c {t : Int} (h : agP (inI n T n) (X, Y) (X', Y')) (hn : 1 ≤ n ∧ n ≤ 12) (ht : 0 ≤ t ∧ t ≤ T) : lpO X Y n t = lpO X' Y' n t := by
  unfold lpO
  rw [lpS_c h hn.2 ht (n - 1) (by omega)]
theorem tuS_c {x y : Int} (h : agP (inI n T n) (X, Y) (X', Y')) (hn : n ≤ 12) : ∀ j : Nat, j ≤ T + 1 → tuS X Y x y n j = tuS X' Y' x y n j := by
  intro j
  induction j with
  | zero => intro _; rfl
  | succ j ih =>
    intro hj
    have a := ag_at h hn (k := n) (t := j) (by omega) (by omega)
    rw [tuS, tuS, ih (by omega), a.1, a.2]
end P64
section R64
variable {F : fT} {A : nT}
/-- the rows of both THROWS, with numbers for PIECES and TICKS -/
theorem iv_nat (h : Iv F A) : ∃ n T : Nat, F 2 0 = n ∧ F 6 0 = T ∧ (1 ≤ n ∧ n ≤ 12) ∧ (1 ≤ T ∧ T ≤ 60) := by
  have hn : 1 ≤ F 2 0 ∧ F 2 0 ≤ 12 := h.ok.n
  have hT : 1 ≤ F 6 0 ∧ F 6 0 ≤ 60 := h.ok.T
  exact ⟨(F 2 0).toNat, (F 6 0).toNat, by omega, by omega, by omega, by omega⟩
theorem pr_fault (h : Iv F A) : Pr mX10_fault mX11_fault [] F A := by
  refine ⟨vi (F 0 16), F, A, F, A, fun G => ?_, fun G => ?_, h, ty_v⟩
  · refine L_ent [some (.ref 0)] rfl ?_
    refine L_aload_n eX10_fault_0 rfl ?_
    refine L_get eX10_fault_1 f_X10_90.g rfl rfl ?_
    exact V_ireturn eX10_fault_4 ⟨rfl, rfl⟩
  · rw [← h.fa]
    refine L_ent [some (.ref 66)] rfl ?_
    refine L_aload_n eX11_fault_0 rfl ?_
    refine L_get eX11_fault_1 f_X11_31.g rfl rfl ?_
    exact V_ireturn eX11_fault_4 ⟨rfl, rfl⟩
theorem pr_speed (h : Iv F A) {k t : Int} (hk : i32 k) (ht : i32 t) : Pr mX10_speed mX11_speed [vi k, vi t] F A := by
  unfold i32 at hk ht
  obtain ⟨n, T, en, eT, hn, hT⟩ := iv_nat h
  have hpieces2 : 1 ≤ F 2 0 ∧ F 2 0 ≤ 12 := h.ok.n
  have hticks : 1 ≤ F 6 0 ∧ F 6 0 ≤ 60 := h.ok.T
  have e0 := h.s.n
  have e5 := h.s.T
  by_cases h1 : (0 ≤ k ∧ k ≤ F 2 0) ∧ (1 ≤ t ∧ t ≤ F 6 0)
  · obtain ⟨F1, A1, F2, A2, hC, hM, i1, i2, fk, k1, k2, ag⟩ := iv_both h
    unfold inN at ag
    rw [en, eT] at ag
    have hm := mv_b i1.b1 (k := k) (t := t) (by omega) (by omega)
    have hm2 := hm.2.2.2.2
    have ec := mv_c ag hn.2 (k := k) (t := t) (by omega) (by omega)
    refine ⟨vi (rt (mv (A1 43) (A1 44) k t)), F1, A1, F2, A2, fun G => ?_, fun G => ?_, i2, ty_v⟩
    · have hpieces := hpieces2
      refine L_ent [some (.ref 0), some (vi k), some (vi t)] rfl ?_
      refine L_aload_n eX10_speed_0 rfl ?_
      refine L_iload_n eX10_speed_1 rfl ?_
      refine C_v1 (p_X10_isJoint (by omega) hpieces) v_X10_189 eX10_speed_2 rfl rfl ?_
      refine V_ifeqB eX10_speed_5 (fun h5 => ?_) (fun h5 => ?_)
      · refine L_sipush eX10_speed_20 rfl ?_
        exact V_ireturn eX10_speed_23 ((by first | (exfalso; omega) | exact ⟨rfl, rfl⟩))
      · refine L_aload_n eX10_speed_8 rfl ?_
        refine L_iload_n eX10_speed_9 rfl ?_
        refine C_v1 (p_X10_isTick (by omega) hticks) v_X10_192 eX10_speed_10 rfl rfl ?_
        refine V_ifeqB eX10_speed_13 (fun h13 => ?_) (fun h13 => ?_)
        · refine L_sipush eX10_speed_20 rfl ?_
          exact V_ireturn eX10_speed_23 ((by first | (exfalso; omega) | exact ⟨rfl, rfl⟩))
        · refine L_iload_n eX10_speed_16 rfl ?_
          refine V_ifne eX10_speed_17 (fun h17 => ?_) (fun h17 => ?_)
          · refine L_aload_n eX10_speed_24 rfl ?_
            refine C_v1 (hC G) v_X10_195 eX10_speed_25 rfl rfl ?_
            refine L_iload_n eX10_speed_28 rfl ?_
            refine L_iload_n eX10_speed_29 rfl ?_
            refine C_v1 (p_X1_speedOf (Or.inl rfl) i1.b1 (by omega) (by omega)) v_X10_206 eX10_speed_30 rfl rfl ?_
            exact V_ireturn eX10_speed_33 ((by first | (exfalso; omega) | exact ⟨rfl, rfl⟩))
          · refine L_sipush eX10_speed_20 rfl ?_
            exact V_ireturn eX10_speed_23 ((by first | (exfalso; omega) | exact ⟨rfl, rfl⟩))
    · have f0 := k1.1 66 0 rfl
      have f5 := k1.1 66 5 rfl
      have hpieces : 1 ≤ F1 66 0 ∧ F1 66 0 ≤ 12 := by omega
      rw [ec] at hm2 ⊢
      refine L_ent [some (.ref 66), some (vi k), some (vi t)] rfl ?_
      refine L_aload_n eX11_speed_0 rfl ?_
      refine L_iload_n eX11_speed_1 rfl ?_
      refine C_v1 (p_X11_noJoint (by omega) hpieces) v_X11_307 eX11_speed_2 rfl rfl ?_
      refine V_ifneB eX11_speed_5 (fun h5 => ?_) (fun h5 => ?_)
      · refine L_sipush eX11_speed_22 rfl ?_
        exact V_ireturn eX11_speed_25 ((by first | (exfalso; omega) | exact ⟨rfl, rfl⟩))
      · refine L_iload_n eX11_speed_8 rfl ?_
        refine V_i2l eX11_speed_9 ?_
        refine L_lconst1 eX11_speed_10 ?_
        refine L_aload_n eX11_speed_11 rfl ?_
        refine L_get eX11_speed_12 f_X11_127.g rfl rfl ?_
        refine V_i2l eX11_speed_15 ?_
        refine C_s1 (p_X11_in (by omega) (by omega) (by omega)) v_X11_152 eX11_speed_16 rfl ?_
        refine V_ifneB eX11_speed_19 (fun h19 => ?_) (fun h19 => ?_)
        · refine L_aload_n eX11_speed_26 rfl ?_
          refine L_aload_n eX11_speed_27 rfl ?_
          refine L_get eX11_speed_28 f_X11_133.g rfl rfl ?_
          refine C_v0 (hM G) v_X11_311 eX11_speed_31 rfl rfl ?_
          refine L_aload_n eX11_speed_34 rfl ?_
          refine L_iload_n eX11_speed_35 rfl ?_
          refine L_iload_n eX11_speed_36 rfl ?_
          refine C_v1 (p_X11_speedOf i2.b3 (by omega) (by omega)) v_X11_314 eX11_speed_37 rfl rfl ?_
          refine V_l2i eX11_speed_40 ?_
          exact V_ireturn eX11_speed_41 ((by first | (exfalso; omega) | exact ⟨rfl, rfl⟩))
        · refine L_sipush eX11_speed_22 rfl ?_
          exact V_ireturn eX11_speed_25 ((by first | (exfalso; omega) | exact ⟨rfl, rfl⟩))
  · refine ⟨vi (-1001), F, A, F, A, fun G => ?_, fun G => ?_, h, ty_v⟩
    · have hpieces := hpieces2
      refine L_ent [some (.ref 0), some (vi k), some (vi t)] rfl ?_
      refine L_aload_n eX10_speed_0 rfl ?_
      refine L_iload_n eX10_speed_1 rfl ?_
      refine C_v1 (p_X10_isJoint (by omega) hpieces) v_X10_189 eX10_speed_2 rfl rfl ?_
      refine V_ifeqB eX10_speed_5 (fun h5 => ?_) (fun h5 => ?_)
      · refine L_sipush eX10_speed_20 rfl ?_
        exact V_ireturn eX10_speed_23 ((by first | (exfalso; omega) | exact ⟨rfl, rfl⟩))
      · refine L_aload_n eX10_speed_8 rfl ?_
        refine L_iload_n eX10_speed_9 rfl ?_
        refine C_v1 (p_X10_isTick (by omega) hticks) v_X10_192 eX10_speed_10 rfl rfl ?_
        refine V_ifeqB eX10_speed_13 (fun h13 => ?_) (fun h13 => ?_)
        · refine L_sipush eX10_speed_20 rfl ?_
          exact V_ireturn eX10_speed_23 ((by first | (exfalso; omega) | exact ⟨rfl, rfl⟩))
        · refine L_iload_n eX10_speed_16 rfl ?_
          refine V_ifne eX10_speed_17 (fun h17 => ?_) (fun h17 => ?_)
          · (exfalso; omega)
          · refine L_sipush eX10_speed_20 rfl ?_
            exact V_ireturn eX10_speed_23 ((by first | (exfalso; omega) | exact ⟨rfl, rfl⟩))
    · have hpieces : 1 ≤ F 66 0 ∧ F 66 0 ≤ 12 := by omega
      refine L_ent [some (.ref 66), some (vi k), some (vi t)] rfl ?_
      refine L_aload_n eX11_speed_0 rfl ?_
      refine L_iload_n eX11_speed_1 rfl ?_
      refine C_v1 (p_X11_noJoint (by omega) hpieces) v_X11_307 eX11_speed_2 rfl rfl ?_
      refine V_ifneB eX11_speed_5 (fun h5 => ?_) (fun h5 => ?_)
      · refine L_sipush eX11_speed_22 rfl ?_
        exact V_ireturn eX11_speed_25 ((by first | (exfalso; omega) | exact ⟨rfl, rfl⟩))
      · refine L_iload_n eX11_speed_8 rfl ?_
        refine V_i2l eX11_speed_9 ?_
        refine L_lconst1 eX11_speed_10 ?_
        refine L_aload_n eX11_speed_11 rfl ?_
        refine L_get eX11_speed_12 f_X11_127.g rfl rfl ?_
        refine V_i2l eX11_speed_15 ?_
        refine C_s1 (p_X11_in (by omega) (by omega) (by omega)) v_X11_152 eX11_speed_16 rfl ?_
        refine V_ifneB eX11_speed_19 (fun h19 => ?_) (fun h19 => ?_)
        · (exfalso; omega)
        · refine L_sipush eX11_speed_22 rfl ?_
          exact V_ireturn eX11_speed_25 ((by first | (exfalso; omega) | exact ⟨rfl, rfl⟩))
theorem pr_loop (h : Iv F A) {t : Int} (ht : i32 t) : Pr mX10_loop mX11_loop [vi t] F A := by
  unfold i32 at ht
  obtain ⟨n, T, en, eT, hn, hT⟩ := iv_nat h
  have hticks : 1 ≤ F 6 0 ∧ F 6 0 ≤ 60 := h.ok.T
  have e0 := h.s.n
  have e5 := h.s.T
  by_cases h1 : 0 ≤ t ∧ t ≤ F 6 0
  · obtain ⟨F1, A1, F2, A2, hC, hM, i1, i2, fk, k1, k2, ag⟩ := iv_both h
    unfold inN at ag
    rw [en, eT] at ag
    have ec := lpO_c ag hn (t := t) (by omega)
    refine ⟨vi (lpO (A1 43) (A1 44) n t), F1, A1, F2, A2, fun G => ?_, fun G => ?_, i2, ty_v⟩
    · refine L_ent [some (.ref 0), some (vi t)] rfl ?_
      refine L_aload_n eX10_loop_0 rfl ?_
      refine L_iload_n eX10_loop_1 rfl ?_
      refine C_v1 (p_X10_isTick (by omega) hticks) v_X10_192 eX10_loop_2 rfl rfl ?_
      refine V_ifneB eX10_loop_5 (fun h5 => ?_) (fun h5 => ?_)
      · refine L_aload_n eX10_loop_12 rfl ?_
        refine C_v1 (hC G) v_X10_195 eX10_loop_13 rfl rfl ?_
        refine L_iload_n eX10_loop_16 rfl ?_
        refine C_v1 (p_X1_loopOf (Or.inl rfl) i1.b1 (n := n) (by rw [fk.n, k1.1 2 0 rfl]; exact en) hn (by omega)) v_X10_219 eX10_loop_17 rfl rfl ?_
        exact V_ireturn eX10_loop_20 ((by first | (exfalso; omega) | exact ⟨rfl, rfl⟩))
      · refine L_sipush eX10_loop_8 rfl ?_
        exact V_ireturn eX10_loop_11 ((by first | (exfalso; omega) | exact ⟨rfl, rfl⟩))
    · have f5 := k1.1 66 5 rfl
      rw [ec]
      refine L_ent [some (.ref 66), some (vi t)] rfl ?_
      refine L_iload_n eX11_loop_0 rfl ?_
      refine V_i2l eX11_loop_1 ?_
      refine L_lconst0 eX11_loop_2 ?_
      refine L_aload_n eX11_loop_3 rfl ?_
      refine L_get eX11_loop_4 f_X11_127.g rfl rfl ?_
      refine V_i2l eX11_loop_7 ?_
      refine C_s1 (p_X11_in (by omega) (by omega) (by omega)) v_X11_152 eX11_loop_8 rfl ?_
      refine V_ifneB eX11_loop_11 (fun h11 => ?_) (fun h11 => ?_)
      · refine L_aload_n eX11_loop_18 rfl ?_
        refine L_aload_n eX11_loop_19 rfl ?_
        refine L_get eX11_loop_20 f_X11_133.g rfl rfl ?_
        refine C_v0 (hM G) v_X11_311 eX11_loop_23 rfl rfl ?_
        refine L_aload_n eX11_loop_26 rfl ?_
        refine L_iload_n eX11_loop_27 rfl ?_
        refine C_v1 (p_X11_loopOf i2.b3 (n := n) (by rw [k2.1 66 0 rfl, k1.1 66 0 rfl, e0]; exact en) hn (by omega)) v_X11_323 eX11_loop_28 rfl rfl ?_
        exact V_ireturn eX11_loop_31 ((by first | (exfalso; omega) | exact ⟨rfl, rfl⟩))
      · refine L_sipush eX11_loop_14 rfl ?_
        exact V_ireturn eX11_loop_17 ((by first | (exfalso; omega) | exact ⟨rfl, rfl⟩))
  · refine ⟨vi (-1001), F, A, F, A, fun G => ?_, fun G => ?_, h, ty_v⟩
    · refine L_ent [some (.ref 0), some (vi t)] rfl ?_
      refine L_aload_n eX10_loop_0 rfl ?_
      refine L_iload_n eX10_loop_1 rfl ?_
      refine C_v1 (p_X10_isTick (by omega) hticks) v_X10_192 eX10_loop_2 rfl rfl ?_
      refine V_ifneB eX10_loop_5 (fun h5 => ?_) (fun h5 => ?_)
      · (exfalso; omega)
      · refine L_sipush eX10_loop_8 rfl ?_
        exact V_ireturn eX10_loop_11 ((by first | (exfalso; omega) | exact ⟨rfl, rfl⟩))
    · refine L_ent [some (.ref 66), some (vi t)] rfl ?_
      refine L_iload_n eX11_loop_0 rfl ?_
      refine V_i2l eX11_loop_1 ?_
      refine L_lconst0 eX11_loop_2 ?_
      refine L_aload_n eX11_loop_3 rfl ?_
      refine L_get eX11_loop_4 f_X11_127.g rfl rfl ?_
      refine V_i2l eX11_loop_7 ?_
      refine C_s1 (p_X11_in (by omega) (by omega) (by omega)) v_X11_152 eX11_loop_8 rfl ?_
      refine V_ifneB eX11_loop_11 (fun h11 => ?_) (fun h11 => ?_)
      · (exfalso; omega)
      · refine L_sipush eX11_loop_14 rfl ?_
        exact V_ireturn eX11_loop_17 ((by first | (exfalso; omega) | exact ⟨rfl, rfl⟩))
theorem pr_turns (h : Iv F A) : Pr mX10_turns mX11_turns [] F A := by
  obtain ⟨n, T, en, eT, hn, hT⟩ := iv_nat h
  have e0 := h.s.n
  have e5 := h.s.T
  obtain ⟨F1, A1, F2, A2, hC, hM, i1, i2, fk, k1, k2, ag⟩ := iv_both h
  unfold inN at ag
  rw [en, eT] at ag
  have ec := tuS_c (x := F1 0 14) (y := F1 0 15) ag hn.2 (T + 1) (Nat.le_refl _)
  refine ⟨vi (100 + (tuS (A1 43) (A1 44) (F1 0 14) (F1 0 15) n (T + 1)).1), F1, A1, F2, A2, fun G => ?_, fun G => ?_, i2, ty_v⟩
  · refine L_ent [some (.ref 0)] rfl ?_
    refine L_bipush eX10_turns_0 rfl ?_
    refine L_aload_n eX10_turns_2 rfl ?_
    refine C_v1 (hC G) v_X10_195 eX10_turns_3 rfl rfl ?_
    refine L_aload_n eX10_turns_6 rfl ?_
    refine L_get eX10_turns_7 f_X10_84.g rfl rfl ?_
    refine L_aload_n eX10_turns_10 rfl ?_
    refine L_get eX10_turns_11 f_X10_87.g rfl rfl ?_
    refine C_v1 (p_X1_turnsAbout (Or.inl rfl) i1.b1 (n := n) (T := T) (by rw [fk.n, k1.1 2 0 rfl]; exact en) (by rw [fk.T, k1.1 6 0 rfl]; exact eT) hn.2 hT.2 i1.post.2.2.1 i1.post.2.2.2) v_X10_232 eX10_turns_14 rfl rfl ?_
    refine V_iadd eX10_turns_17 ?_
    exact V_ireturn eX10_turns_18 ⟨rfl, rfl⟩
  · rw [ec, ← i1.post.1, ← i1.post.2.1, ← k2.1 66 13 rfl, ← k2.1 66 14 rfl]
    refine L_ent [some (.ref 66)] rfl ?_
    refine L_aload_n eX11_turns_0 rfl ?_
    refine L_aload_n eX11_turns_1 rfl ?_
    refine L_get eX11_turns_2 f_X11_133.g rfl rfl ?_
    refine C_v0 (hM G) v_X11_311 eX11_turns_5 rfl rfl ?_
    refine L_bipush eX11_turns_8 rfl ?_
    refine L_aload_n eX11_turns_10 rfl ?_
    refine C_v1 (p_X11_turnsOf i2.b3 (n := n) (T := T) (by rw [k2.1 66 0 rfl, k1.1 66 0 rfl, e0]; exact en) (by rw [k2.1 66 5 rfl, k1.1 66 5 rfl, e5]; exact eT) hn.2 hT.2 (by rw [i2.post.1]; exact i2.post.2.2.1) (by rw [i2.post.2.1]; exact i2.post.2.2.2)) v_X11_350 eX11_turns_11 rfl rfl ?_
    refine V_iadd eX11_turns_14 ?_
    exact V_ireturn eX11_turns_15 ⟨rfl, rfl⟩
end R64

