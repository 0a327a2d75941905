section P65
variable {v v' : Int → Int → Int} {n : Nat} {f f' : Nat → Int} {a c : Int}
theorem mnF_c : ∀ m : Nat, (∀ j, j < m → f j = f' j) → mnF f a m = mnF f' a m := by
  intro m
  induction m with
  | zero => intro _; rfl
  | succ m ih =>
    intro h
    show min (mnF f a m) (f m) = min (mnF f' a m) (f' m)
    rw [ih (fun j hj => h j (by omega)), h m (by omega)]
theorem gN_c {T : Nat} (h : ∀ k t : Int, 0 ≤ k → k ≤ n → 0 ≤ t → t < T → v k t = v' k t) : ∀ j : Nat, j ≤ T → gN v n a j = gN v' n a j := by
  intro j
  induction j with
  | zero => intro _; rfl
  | succ j ih =>
    intro hj
    show mnF (fun i => v i j) (gN v n a j) (n + 1) = mnF (fun i => v' i j) (gN v' n a j) (n + 1)
    rw [ih (by omega)]
    exact mnF_c _ (fun i hi => h _ _ (by omega) (by omega) (by omega) (by omega))
theorem mnF_in : ∀ m : Nat, mnF f (min c a) m = min c (mnF f a m) := by
  intro m
  induction m with
  | zero => rfl
  | succ m ih =>
    show min (mnF f (min c a) m) (f m) = min c (min (mnF f a m) (f m))
    rw [ih]
    omega
theorem gN_in : ∀ j : Nat, gN v n (min c a) j = min c (gN v n a j) := by
  intro j
  induction j with
  | zero => rfl
  | succ j ih =>
    show mnF (fun i => v i j) (gN v n (min c a) j) (n + 1) = min c (mnF (fun i => v i j) (gN v n a j) (n + 1))
    rw [ih, mnF_in]
theorem gN_00 {T : Nat} (h : v 0 0 ≤ a) : gN v n a (T + 1) = gN v n (v 0 0) (T + 1) := by
  have h1 := gN_mono (v := v) (n := n) (a := a) (i := 1) (j := T + 1) (by omega)
  have h2 : gN v n a 1 ≤ v ((0 : Nat) : Int) ((0 : Nat) : Int) := mnF_le (f := fun i => v i ((0 : Nat) : Int)) (i := 0) (by omega)
  have h3 : gN v n a (T + 1) ≤ v 0 0 := Int.le_trans h1 h2
  have h4 := gN_in (v := v) (n := n) (a := a) (c := v 0 0) (T + 1)
  rw [Int.min_eq_left h, Int.min_eq_right h3] at h4
  exact h4.symm
theorem qP_nn {X Y : Int → Int} {x y k t : Int} : 0 ≤ qP X Y x y k t := by
  have sq : ∀ z : Int, 0 ≤ z * z := fun z => by
    rcases Int.le_total 0 z with h | h
    · exact Int.mul_nonneg h h
    · exact Int.mul_nonneg_of_nonpos_of_nonpos h h
  have h1 := sq (X (13 * t + k) - x)
  have h2 := sq (Y (13 * t + k) - y)
  unfold qP
  omega
end P65
section R65
variable {F : fT} {A : nT}
theorem pr_alone (h : Iv F A) {x y : Int} (hx : i32 x) (hy : i32 y) : Pr mX10_alone mX11_alone [vi x, vi y] F A := by
  unfold i32 at hx hy
  obtain ⟨n, T, en, eT, hn, hT⟩ := iv_nat h
  have e0 := h.s.n
  have e5 := h.s.T
  by_cases h1 : (-5000 ≤ x ∧ x ≤ 5000) ∧ (-5000 ≤ y ∧ y ≤ 5000)
  · obtain ⟨F1, A1, F2, A2, hC, hM, i1, i2, fk, k1, k2, ag⟩ := iv_both h
    unfold inN at ag
    rw [en, eT] at ag
    have hax : ab 5000 x := by unfold ab; omega
    have hay : ab 5000 y := by unfold ab; omega
    have q0 := qP_b i1.b1 hax hay (k := 0) (t := 0) (by omega) (by omega)
    have e1 := gN_c (v := qP (A1 43) (A1 44) x y) (v' := qP (A2 84) (A2 85) x y) (n := n) (a := 9223372036854775807) (T := T + 1) (fun k t a b c d => qP_c ag hn.2 ⟨a, b⟩ (by omega)) (T + 1) (Nat.le_refl _)
    have q00 := qP_c (x := x) (y := y) ag hn.2 (k := 0) (t := 0) (by omega) (by omega)
    have e2 := gN_00 (v := qP (A2 84) (A2 85) x y) (n := n) (a := 9223372036854775807) (T := T) (by rw [← q00]; omega)
    have e3 := (rt_gN (v := qP (A2 84) (A2 85) x y) (n := n) (a := qP (A2 84) (A2 85) x y 0 0) qP_nn (fun k t => qP_nn) (T + 1)).2
    have e4 : rt (gN (qP (A1 43) (A1 44) x y) n 9223372036854775807 (T + 1)) = gN (fun k t => rt (qP (A2 84) (A2 85) x y k t)) n (rt (qP (A2 84) (A2 85) x y 0 0)) (T + 1) := by rw [e1, e2, e3]
    have bb := gN_le0 (v := fun k t => rt (qP (A2 84) (A2 85) x y k t)) (n := n) (a := rt (qP (A2 84) (A2 85) x y 0 0)) (T + 1)
    have b0 : 0 ≤ gN (fun k t => rt (qP (A2 84) (A2 85) x y k t)) n (rt (qP (A2 84) (A2 85) x y 0 0)) (T + 1) := by rw [← e4]; exact rt_nn _
    rw [q00] at q0
    have q1 := q0.2.2.2.2
    refine ⟨vi (rt (gN (qP (A1 43) (A1 44) x y) n 9223372036854775807 (T + 1))), F1, A1, F2, A2, fun G => ?_, fun G => ?_, i2, ty_v⟩
    · refine L_ent [some (.ref 0), some (vi x), some (vi y)] rfl ?_
      refine L_iload_n eX10_alone_0 rfl ?_
      refine L_iload_n eX10_alone_1 rfl ?_
      refine C_s1 (p_X10_isPlace (by omega) (by omega)) v_X10_248 eX10_alone_2 rfl ?_
      refine V_ifneB eX10_alone_5 (fun h5 => ?_) (fun h5 => ?_)
      · refine L_aload_n eX10_alone_12 rfl ?_
        refine C_v1 (hC G) v_X10_195 eX10_alone_13 rfl rfl ?_
        refine L_iload_n eX10_alone_16 rfl ?_
        refine L_iload_n eX10_alone_17 rfl ?_
        refine C_v1 (p_X1_leastFar (Or.inl rfl) i1.b1 (n := n) (T := T) (by rw [fk.n, k1.1 2 0 rfl]; exact en) (by rw [fk.T, k1.1 6 0 rfl]; exact eT) hn.2 hT.2 hax hay) v_X10_282 eX10_alone_18 rfl rfl ?_
        exact V_ireturn eX10_alone_21 ((by first | (exfalso; omega) | exact ⟨rfl, rfl⟩))
      · refine L_sipush eX10_alone_8 rfl ?_
        exact V_ireturn eX10_alone_11 ((by first | (exfalso; omega) | exact ⟨rfl, rfl⟩))
    · rw [e4]
      refine L_ent [some (.ref 66), some (vi x), some (vi y)] rfl ?_
      refine L_iload_n eX11_alone_0 rfl ?_
      refine L_iload_n eX11_alone_1 rfl ?_
      refine C_s1 (p_X11_isPlace (by omega) (by omega)) v_X11_363 eX11_alone_2 rfl ?_
      refine V_ifneB eX11_alone_5 (fun h5 => ?_) (fun h5 => ?_)
      · refine L_aload_n eX11_alone_12 rfl ?_
        refine L_aload_n eX11_alone_13 rfl ?_
        refine L_get eX11_alone_14 f_X11_133.g rfl rfl ?_
        refine C_v0 (hM G) v_X11_311 eX11_alone_17 rfl rfl ?_
        refine L_aload_n eX11_alone_20 rfl ?_
        refine L_iload_n eX11_alone_21 rfl ?_
        refine L_iload_n eX11_alone_22 rfl ?_
        refine C_v1 (p_X11_aloneBy i2.b3 (n := n) (T := T) (by rw [k2.1 66 0 rfl, k1.1 66 0 rfl, e0]; exact en) (by rw [k2.1 66 5 rfl, k1.1 66 5 rfl, e5]; exact eT) hn.2 hT.2 hax hay) v_X11_382 eX11_alone_23 rfl rfl ?_
        refine V_l2i eX11_alone_26 ?_
        exact V_ireturn eX11_alone_27 ((by first | (exfalso; omega) | exact ⟨rfl, rfl⟩))
      · refine L_sipush eX11_alone_8 rfl ?_
        exact V_ireturn eX11_alone_11 ((by first | (exfalso; omega) | exact ⟨rfl, rfl⟩))
  · refine ⟨vi (-1002), F, A, F, A, fun G => ?_, fun G => ?_, h, ty_v⟩
    · refine L_ent [some (.ref 0), some (vi x), some (vi y)] rfl ?_
      refine L_iload_n eX10_alone_0 rfl ?_
      refine L_iload_n eX10_alone_1 rfl ?_
      refine C_s1 (p_X10_isPlace (by omega) (by omega)) v_X10_248 eX10_alone_2 rfl ?_
      refine V_ifneB eX10_alone_5 (fun h5 => ?_) (fun h5 => ?_)
      · (exfalso; omega)
      · refine L_sipush eX10_alone_8 rfl ?_
        exact V_ireturn eX10_alone_11 ((by first | (exfalso; omega) | exact ⟨rfl, rfl⟩))
    · refine L_ent [some (.ref 66), some (vi x), some (vi y)] rfl ?_
      refine L_iload_n eX11_alone_0 rfl ?_
      refine L_iload_n eX11_alone_1 rfl ?_
      refine C_s1 (p_X11_isPlace (by omega) (by omega)) v_X11_363 eX11_alone_2 rfl ?_
      refine V_ifneB eX11_alone_5 (fun h5 => ?_) (fun h5 => ?_)
      · (exfalso; omega)
      · refine L_sipush eX11_alone_8 rfl ?_
        exact V_ireturn eX11_alone_11 ((by first | (exfalso; omega) | exact ⟨rfl, rfl⟩))
end R65

