/-! WAYS told in a text: both sides -/
section P99w
variable {F : fT} {A : nT}
def cwK (F1 : fT) (A1 : nT) (o : oT lwT) : Prop := match o with
  | .inl e => F1 28 4 = e.1 ∧ F1 28 5 = e.2 ∧ 1 ≤ e.1 ∧ e.1 ≤ 9
  | .inr S => F1 28 4 = 0 ∧ F1 28 5 = -1 ∧ wyK F1 A1 S []
theorem cw_of {F1 : fT} {A1 : nT} {n : Int} {o : oT (List opT)} (h : wyF F1 A1 n o) : cwK F1 A1 (woO n o) := by
  cases o with
  | inl e => exact h
  | inr O =>
    have h' : (60 < tsm (O.foldl smS ([], [])).1 → F1 28 4 = 4 ∧ F1 28 5 = n) ∧ (¬ 60 < tsm (O.foldl smS ([], [])).1 → F1 28 4 = 0 ∧ F1 28 5 = -1 ∧ wyK F1 A1 (O.foldl smS ([], [])).1 []) := h
    show cwK F1 A1 (if 60 < tsm (O.foldl smS ([], [])).1 then .inl (4, n) else .inr (O.foldl smS ([], [])).1)
    by_cases c : 60 < tsm (O.foldl smS ([], [])).1
    · rw [if_pos c]
      exact ⟨(h'.1 c).1, (h'.1 c).2, by show (1 : Int) ≤ 4 ∧ (4 : Int) ≤ 9; decide⟩
    · rw [if_neg c]
      exact h'.2 c
theorem pw_way (h : Iv F A) : Pw mX10_way mX11_way [] F A := by
  intro G
  have htx := h.tx
  have hT : txT (F 28 1) (A 29) := ⟨htx.2, fun i a b => (h.txb i a b).2⟩
  have hE : ∀ i : Int, 0 ≤ i → i < F 28 1 → A 29 i = A 73 i := fun i a b => (h.txb i a b).1.symm
  obtain ⟨n, en⟩ : ∃ n, F 28 1 = n := ⟨_, rfl⟩
  rw [en] at hT hE
  have hn1 := hT.1
  have hT' : txT n (A 73) := ⟨hT.1, fun i a b => by rw [← hE i a b]; exact hT.2 i a b⟩
  have ePl := wyO_c hT hE 161 0 true [] 0 (by omega) (by omega)
  have hk := h.ok
  have hs := h.s
  have hw0 : A 7 0 = 0 ∧ A 8 0 = 0 := hk.w0
  cases hO : woO n (wyO (A 29) n 161 0 true [] 0) with
  | inl e =>
    refine ⟨(fun r w => ∃ F1 A1, r = some (vi (-10 - e.1)) ∧ w = sw F1 A1 ∧ ((∀ o k, (o ≠ 28 ∨ k < 1 ∨ 5 < k) → o ≠ 35 → (o ≠ 0 ∨ k ≠ 16) → F1 o k = F o k) ∧ ∀ o, o < 36 ∨ 41 < o → A1 o = A o) ∧ F1 0 16 = e.2 ∧ F1 28 1 = 0 ∧ 1 ≤ e.1 ∧ e.1 ≤ 9), ?_, fun r w q => ?_⟩
    · refine L_ent [some (.ref 0), none] rfl ?_
      refine L_aload_n eX10_way_0 rfl ?_
      refine L_getR (r := 35) eX10_way_1 f_X10_39.g rfl rfl (by decide) ?_
      refine L_aload_n eX10_way_4 rfl ?_
      refine L_getR (r := 28) eX10_way_5 f_X10_25.g rfl rfl (by decide) ?_
      refine C_vq (c_readW (G := G) hT en) v_X10_129 eX10_way_8 rfl rfl (fun r' w' e' => ?_)
      obtain ⟨F1, A1, er, ew, fx, pk⟩ := e'
      subst er ew
      have pk := cw_of pk
      rw [hO] at pk
      obtain ⟨p1, p2, p3⟩ := pk
      refine L_aload_n eX10_way_11 rfl ?_
      refine C_v1 p_X10_endReading v_X10_108 eX10_way_12 rfl rfl ?_
      rw [p1, p2]
      refine L_istore_n eX10_way_15 (s_1 rfl rfl) ?_
      refine L_iload_n eX10_way_16 rfl ?_
      -- at 17: .ifCond .eq 8
      refine V_ifeq eX10_way_17 (fun h2 => ?_) (fun h2 => ?_)
      · omega
      · refine L_bipush eX10_way_20 rfl ?_
        refine L_iload_n eX10_way_22 rfl ?_
        refine V_isub eX10_way_23 ?_
        -- at 24: .ireturn
        exact V_ireturn eX10_way_24 ⟨_, _, rfl, rfl, ⟨fun o k x y z => by rw [uF_ne (by omega), uF_ne (by omega)]; exact fx.1 o k (by omega) y, fx.2⟩, by rw [uF_ne (by decide), uF_eq], uF_eq, p3⟩
    · obtain ⟨F1, A1, er, ew, ⟨ff, fa⟩, g16, g28, g9⟩ := q
      have n1 : F1 66 16 = n := by rw [ff 66 16 (by decide) (by decide) (by decide), htx.1]; exact en
      have a73 : A1 73 = A 73 := fa 73 (by decide)
      refine ⟨_, F1, A1, er, ew, ty_v, (fun r w => ∃ F2 A2, r = some (vi (-10 - e.1)) ∧ w = sw F2 A2 ∧ Iv F2 A2), ?_, fun r' w' e' => e'⟩
      refine L_ent [some (.ref 66), none] rfl ?_
      refine m_way1 (by rw [a73]; exact hT') n1 (fun F2 A2 x1 f2 pk => ?_)
      rw [a73, ← ePl, hO] at pk
      obtain ⟨p1, p2, p3⟩ := pk
      have m20 : uF F2 66 16 0 66 20 = e.1 := by rw [uF_ne (by decide)]; exact p1
      refine L_aload_n eX11_way_34 rfl ?_
      refine V_iconst eX11_way_35 ?_
      refine L_put eX11_way_36 f_X11_156 rfl rfl ?_
      refine L_aload_n eX11_way_39 rfl ?_
      refine L_get eX11_way_40 f_X11_164.g rfl rfl ?_
      -- at 43: .ifCond .le 11
      refine V_ifle eX11_way_43 (fun h2 => ?_) (fun h2 => ?_)
      · omega
      · refine L_bipush eX11_way_46 rfl ?_
        refine L_aload_n eX11_way_48 rfl ?_
        refine L_get eX11_way_49 f_X11_164.g rfl rfl ?_
        rw [m20]
        refine V_isub eX11_way_52 ?_
        -- at 53: .ireturn
        exact V_ireturn eX11_way_53 (by
          refine ⟨_, _, rfl, rfl, ?_⟩
          have gf : ∀ o k, (o ≠ 66 ∨ ((k < 16 ∨ 21 < k) ∧ k ≠ 27 ∧ k ≠ 36 ∧ k ≠ 37)) → uF F2 66 16 0 o k = F1 o k := fun o k x => by rw [uF_ne (by omega)]; exact f2.1 o k (by omega)
          have gg : ∀ o k, (o ≠ 66 ∨ ((k < 16 ∨ 21 < k) ∧ k ≠ 27 ∧ k ≠ 36 ∧ k ≠ 37)) → (o ≠ 28 ∨ k < 1 ∨ 5 < k) → o ≠ 35 → (o ≠ 0 ∨ k ≠ 16) → uF F2 66 16 0 o k = F o k := fun o k x y z u => by rw [gf o k x]; exact ff o k y z u
          have ga : ∀ o, (o < 36 ∨ 41 < o) → (o < 76 ∨ 83 < o) → A2 o = A o := fun o x y => by rw [f2.2 o y]; exact fa o x
          refine h.fr ⟨fun o k q => ?_, fun o q => ?_⟩ ?_ ?_ ?_ ?_ ?_ ?_ ?_ ?_ ?_ ?_ ?_
          · have := kRF_in q
            exact gg o k (by omega) (by omega) (by omega) (by omega)
          · have := kRA_in q
            exact ga o (by omega) (by omega)
          · rw [gg 66 11 (by decide) (by decide) (by decide) (by decide), gg 66 12 (by decide) (by decide) (by decide) (by decide), gg 0 12 (by decide) (by decide) (by decide) (by decide), gg 0 13 (by decide) (by decide) (by decide) (by decide)]; exact h.ear
          · rw [gg 66 13 (by decide) (by decide) (by decide) (by decide), gg 66 14 (by decide) (by decide) (by decide) (by decide), gg 0 14 (by decide) (by decide) (by decide) (by decide), gg 0 15 (by decide) (by decide) (by decide) (by decide)]; exact h.post
          · rw [gf 28 1 (by decide), g28, uF_eq]; omega
          · rw [gf 28 1 (by decide), g28]
            intro i x y
            omega
          · rw [uF_ne (by decide), p2, gf 0 16 (by decide), g16]
          · rw [gg 66 49 (by decide) (by decide) (by decide) (by decide), gg 59 0 (by decide) (by decide) (by decide) (by decide)]; exact h.hn
          · rw [gg 59 0 (by decide) (by decide) (by decide) (by decide), ga 93 (by decide) (by decide), ga 60 (by decide) (by decide)]; exact h.hd
          · rw [gg 66 50 (by decide) (by decide) (by decide) (by decide), gg 59 1 (by decide) (by decide) (by decide) (by decide)]; exact h.cn
          · rw [gg 59 1 (by decide) (by decide) (by decide) (by decide), ga 94 (by decide) (by decide), ga 61 (by decide) (by decide)]; exact h.ct
          · rw [gg 66 55 (by decide) (by decide) (by decide) (by decide), gg 63 0 (by decide) (by decide) (by decide) (by decide)]; exact h.fn
          · rw [gg 63 0 (by decide) (by decide) (by decide) (by decide), ga 97 (by decide) (by decide), ga 98 (by decide) (by decide), ga 64 (by decide) (by decide), ga 65 (by decide) (by decide)]; exact h.fi)
  | inr S =>
    obtain ⟨hSB, hS1, hS60⟩ := wo_ok hT hO
    have hSl := tsm_ge S hSB
    obtain ⟨P, eP⟩ : ∃ P, P = S.foldl ptS [(0, 0)] := ⟨_, rfl⟩
    have hPl : (P.length : Int) = 1 + tsm S := by rw [eP, pt_len S _ hSB]; rfl
    have hPb : psB 59940 P := by
      have := psB_all S [(0, 0)] 0 (by omega) (fun x hx => by rw [List.mem_singleton.mp hx]; show ab 0 0 ∧ ab 0 0; unfold ab; omega) hSB
      rw [← eP] at this
      intro x hx
      have := this x hx
      unfold ab at *
      omega
    have hP0 : P[0]? = some (0, 0) := by
      obtain ⟨Y, e⟩ := pt_pre S [(0, 0)]
      rw [eP, e]
      rfl
    refine ⟨(fun r w => ∃ F1 A1, r = some (vi (tsm S)) ∧ w = sw F1 A1 ∧ ((∀ o k, (o ≠ 28 ∨ k < 1 ∨ 5 < k) → o ≠ 35 → (o ≠ 0 ∨ k ≠ 16 ∧ k ≠ 17) → (o ≠ 6 ∨ 1 < k) → (o ≠ 52 ∨ k ≠ 0) → F1 o k = F o k) ∧ ∀ o, (o < 36 ∨ 41 < o) → (o < 7 ∨ 8 < o) → A1 o = A o) ∧ (F1 0 16 = -1 ∧ F1 28 1 = 0 ∧ F1 0 17 = 0 ∧ F1 52 0 = -1) ∧ (F1 6 0 = tsm S ∧ F1 6 1 = S.length) ∧ prK A1 7 8 P), ?_, fun r w q => ?_⟩
    · refine L_ent [some (.ref 0), none] rfl ?_
      refine L_aload_n eX10_way_0 rfl ?_
      refine L_getR (r := 35) eX10_way_1 f_X10_39.g rfl rfl (by decide) ?_
      refine L_aload_n eX10_way_4 rfl ?_
      refine L_getR (r := 28) eX10_way_5 f_X10_25.g rfl rfl (by decide) ?_
      refine C_vq (c_readW (G := G) hT en) v_X10_129 eX10_way_8 rfl rfl (fun r' w' e' => ?_)
      obtain ⟨F1, A1, er, ew, fx, pk⟩ := e'
      subst er ew
      have pk := cw_of pk
      rw [hO] at pk
      obtain ⟨p1, p2, p3⟩ := pk
      refine L_aload_n eX10_way_11 rfl ?_
      refine C_v1 p_X10_endReading v_X10_108 eX10_way_12 rfl rfl ?_
      rw [p1, p2]
      obtain ⟨F2, eF2⟩ : ∃ F2, F2 = uF (uF F1 0 16 (-1)) 28 1 0 := ⟨_, rfl⟩
      rw [← eF2]
      have g2 : ∀ o k, (o ≠ 28 ∨ k ≠ 1) → (o ≠ 0 ∨ k ≠ 16) → F2 o k = F1 o k := fun o k y z => by rw [eF2, uF_ne (by omega), uF_ne (by omega)]
      have K2 : wyK F2 A1 S [] := p3.fr (g2 35 3 (by decide) (by decide)) (g2 35 4 (by decide) (by decide)) (g2 35 8 (by decide) (by decide)) (fun _ _ _ => rfl)
      refine L_istore_n eX10_way_15 (s_1 rfl rfl) ?_
      refine L_iload_n eX10_way_16 rfl ?_
      -- at 17: .ifCond .eq 8
      refine V_ifeq eX10_way_17 (fun h2 => ?_) (fun h2 => ?_)
      rotate_left
      · omega
      refine L_aload_n eX10_way_25 rfl ?_
      refine L_getR (r := 35) eX10_way_26 f_X10_39.g rfl rfl (by decide) ?_
      refine L_aload_n eX10_way_29 rfl ?_
      refine L_getR (r := 1) eX10_way_30 f_X10_10.g rfl rfl (by decide) ?_
      refine L_getR (r := 6) eX10_way_33 f_X10_130 rfl rfl (by decide) ?_
      refine C_vq (c_layInto (G := G) K2 hSB hS60 (by rw [fx.2 7 (by decide), fx.2 8 (by decide)]; exact hw0)) v_X10_134 eX10_way_36 rfl rfl (fun r' w' e' => ?_)
      obtain ⟨F3, A3, er, ew, ff3, fa3, g60, g61, pr⟩ := e'
      subst er ew
      refine L_aload_n eX10_way_39 rfl ?_
      refine C_v0 p_X10_setChanged v_X10_123 eX10_way_40 rfl rfl ?_
      have e60 : uF (uF F3 0 17 0) 52 0 (-1) 6 0 = tsm S := by rw [uF_ne (by decide), uF_ne (by decide)]; exact g60
      refine L_aload_n eX10_way_43 rfl ?_
      refine L_getR (r := 1) eX10_way_44 f_X10_10.g rfl rfl (by decide) ?_
      refine L_getR (r := 6) eX10_way_47 f_X10_130 rfl rfl (by decide) ?_
      refine L_get eX10_way_50 f_X10_138.g rfl rfl ?_
      rw [e60]
      exact V_ireturn eX10_way_53 (by
        refine ⟨_, A3, rfl, rfl, ⟨fun o k a1 a2 a3 a4 a5 => ?_, fun o a1 a2 => ?_⟩, ⟨?_, ?_, ?_, ?_⟩, ⟨e60, ?_⟩, ?_⟩
        · rw [uF_ne (by omega), uF_ne (by omega), ff3 o k (by omega), g2 o k (by omega) (by omega)]
          exact fx.1 o k (by omega) a2
        · rw [fa3 o a2]
          exact fx.2 o a1
        · rw [uF_ne (by decide), uF_ne (by decide), ff3 0 16 (by decide), eF2, uF_ne (by decide), uF_eq]
        · rw [uF_ne (by decide), uF_ne (by decide), ff3 28 1 (by decide), eF2, uF_eq]
        · rw [uF_ne (by decide), uF_eq]
        · rw [uF_eq]
        · rw [uF_ne (by decide), uF_ne (by decide)]; exact g61
        · rw [eP]; exact pr)
    · obtain ⟨F1, A1, er, ew, ⟨ff, fa⟩, ⟨g16, g28, g17, g52⟩, ⟨g60, g61⟩, pr1⟩ := q
      have n1 : F1 66 16 = n := by rw [ff 66 16 (by decide) (by decide) (by decide) (by decide) (by decide), htx.1]; exact en
      have a73 : A1 73 = A 73 := fa 73 (by decide) (by decide)
      refine ⟨_, F1, A1, er, ew, ty_v, (fun r w => ∃ F2 A2, r = some (vi (tsm S)) ∧ w = sw F2 A2 ∧ Iv F2 A2), ?_, fun r' w' e' => e'⟩
      refine L_ent [some (.ref 66), none] rfl ?_
      refine m_way1 (by rw [a73]; exact hT') n1 (fun F2 A2 x1 f2 pk => ?_)
      rw [a73, ← ePl, hO] at pk
      obtain ⟨p1, p2, p3, p4, p5⟩ := pk
      rw [← eP] at p5
      generalize hQ : (fun (r : Option Value) (w : wT) => ∃ F2 A2, r = some (vi (tsm S)) ∧ w = sw F2 A2 ∧ Iv F2 A2) = Q
      have m20 : uF F2 66 16 0 66 20 = 0 := by rw [uF_ne (by decide)]; exact p1
      obtain ⟨F3, eF3⟩ : ∃ F3, F3 = uF (uF (uF (uF F2 66 16 0) 66 40 (-1)) 66 5 (tsm S)) 66 6 S.length := ⟨_, rfl⟩
      have h3 : ∀ o k, (o ≠ 66 ∨ k ≠ 16 ∧ k ≠ 40 ∧ k ≠ 5 ∧ k ≠ 6) → F3 o k = F2 o k := fun o k y => by rw [eF3, uF_ne (by omega), uF_ne (by omega), uF_ne (by omega), uF_ne (by omega)]
      have h35 : F3 66 5 = tsm S := by rw [eF3, uF_ne (by decide), uF_eq]
      have h36 : F3 66 6 = S.length := by rw [eF3, uF_eq]
      have h340 : F3 66 40 = -1 := by rw [eF3, uF_ne (by decide), uF_ne (by decide), uF_eq]
      have h316 : F3 66 16 = 0 := by rw [eF3, uF_ne (by decide), uF_ne (by decide), uF_ne (by decide), uF_eq]
      have LOOP : ∀ (r i : Nat) (A3 : nT), (i : Int) + r = tsm S + 1 → (∀ o, (o < 70 ∨ 71 < o) → A3 o = A2 o) → (∀ (k : Nat) (x : Int × Int), P[k]? = some x → k < i → A3 70 k = x.1 ∧ A3 71 k = x.2) → V G mX11_way Q 0 0 77 [some (.ref 66), some (vi (i : Int))] [] (sw F3 A3) := by
        intro r
        induction r with
        | zero =>
          intro i A3 e1 fa3 s3
          refine L_iload_n eX11_way_77 rfl ?_
          refine L_aload_n eX11_way_78 rfl ?_
          refine L_get eX11_way_79 f_X11_127.g rfl rfl ?_
          -- at 82: .if_icmp .gt 33
          refine V_icmpgt eX11_way_82 (fun h4 => ?_) (fun h4 => ?_)
          · refine L_aload_n eX11_way_115 rfl ?_
            refine L_get eX11_way_116 f_X11_127.g rfl rfl ?_
            rw [h35]
            exact V_ireturn eX11_way_119 (by
              rw [← hQ]
              refine ⟨F3, A3, rfl, rfl, ?_⟩
              have gf : ∀ o k, o ≠ 66 → F3 o k = F1 o k := fun o k a1 => by rw [h3 o k (by omega), f2.1 o k (by omega)]
              have gg : ∀ o k, (o ≠ 66 ∨ (k ≠ 40 ∧ k ≠ 5 ∧ k ≠ 6 ∧ (k < 16 ∨ 21 < k) ∧ k ≠ 27 ∧ k ≠ 36 ∧ k ≠ 37)) → (o ≠ 28 ∨ k < 1 ∨ 5 < k) → o ≠ 35 → (o ≠ 0 ∨ k ≠ 16 ∧ k ≠ 17) → (o ≠ 6 ∨ 1 < k) → (o ≠ 52 ∨ k ≠ 0) → F3 o k = F o k := fun o k a1 a2 a3 a4 a5 a6 => by rw [h3 o k (by omega), f2.1 o k (by omega)]; exact ff o k a2 a3 a4 a5 a6
              have ga1 : ∀ o, (o < 70 ∨ 71 < o) → (o < 76 ∨ 83 < o) → A3 o = A1 o := fun o a1 a2 => by rw [fa3 o a1]; exact f2.2 o a2
              have ga : ∀ o, (o < 70 ∨ 71 < o) → (o < 76 ∨ 83 < o) → (o < 36 ∨ 41 < o) → (o < 7 ∨ 8 < o) → A3 o = A o := fun o a1 a2 a3 a4 => by rw [ga1 o a1 a2]; exact fa o a3 a4
              have e6 : F3 6 0 = tsm S := by rw [gf 6 0 (by decide)]; exact g60
              have e2 : F3 2 0 = F 2 0 := gg 2 0 (by decide) (by decide) (by decide) (by decide) (by decide) (by decide)
              have e21 : F3 2 1 = F 2 1 := gg 2 1 (by decide) (by decide) (by decide) (by decide) (by decide) (by decide)
              have pos : ∀ i : Int, 0 ≤ i → i ≤ tsm S → ∃ x, P[i.toNat]? = some x ∧ A3 7 i = x.1 ∧ A3 8 i = x.2 ∧ A3 70 i = x.1 ∧ A3 71 i = x.2 := fun i a1 a2 => by
                obtain ⟨j, rfl⟩ : ∃ j : Nat, i = j := ⟨i.toNat, by omega⟩
                have hj : j < P.length := by omega
                have ej : P[j]? = some P[j] := List.getElem?_eq_getElem hj
                have q1 := pr1 j P[j] ej
                have q2 := s3 j P[j] ej (by omega)
                refine ⟨P[j], by rw [Int.toNat_natCast]; exact ej, ?_, ?_, q2.1, q2.2⟩
                · rw [ga1 7 (by decide) (by decide)]; exact q1.1
                · rw [ga1 8 (by decide) (by decide)]; exact q1.2
              refine h.fs ⟨fun o k q => ?_, fun o q => ?_⟩ ?_ ?_ ?_ ?_ ?_ ?_ h340 ?_
              · have := kSF_in q
                exact gg o k (by omega) (by omega) (by omega) (by omega) (by omega) (by omega)
              · have := kSA_in q
                exact ga o (by omega) (by omega) (by omega) (by omega)
              · refine sOK.mk ?_ ?_ ?_ ?_ ?_ ?_ ?_ ?_
                · rw [show F3 (1 + 1) 0 = F (1 + 1) 0 from e2]; exact hk.n
                · rw [show F3 (1 + 1) 1 = F (1 + 1) 1 from e21]; exact hk.len
                · rw [show F3 (1 + 5) 0 = tsm S from e6]; exact ⟨hS1, hS60⟩
                · rw [show F3 (1 + 1) 0 = F (1 + 1) 0 from e2, show (1 + 2 : Nat) = 3 from rfl, show (1 + 3 : Nat) = 4 from rfl, ga 3 (by decide) (by decide) (by decide) (by decide), ga 4 (by decide) (by decide) (by decide) (by decide)]; exact hk.pl
                · rw [show (1 + 8 : Nat) = 9 from rfl, ga 9 (by decide) (by decide) (by decide) (by decide)]; exact hk.lw
                · rw [show F3 (1 + 5) 0 = tsm S from e6]
                  intro t a1 a2
                  obtain ⟨x, q1, q2, q3, _⟩ := pos t a1 a2
                  rw [show (1 + 6 : Nat) = 7 from rfl, show (1 + 7 : Nat) = 8 from rfl, q2, q3]
                  exact hPb x (List.mem_of_getElem? q1)
                · obtain ⟨x, q1, q2, q3, _⟩ := pos 0 (by omega) (by omega)
                  rw [show (1 + 6 : Nat) = 7 from rfl, show (1 + 7 : Nat) = 8 from rfl, q2, q3]
                  have q1' : P[0]? = some x := q1
                  rw [hP0] at q1'
                  rw [← Option.some.inj q1']
                  exact ⟨rfl, rfl⟩
                · rw [show F3 (1 + 1) 0 = F (1 + 1) 0 from e2, show (1 + 4 : Nat) = 5 from rfl, ga 5 (by decide) (by decide) (by decide) (by decide)]; exact hk.wr
              · refine eqS.mk ?_ ?_ ?_ ?_ ?_ ?_ ?_ ?_ ?_ ?_
                · rw [gg 66 0 (by decide) (by decide) (by decide) (by decide) (by decide) (by decide), e2]; exact hs.n
                · rw [gg 66 1 (by decide) (by decide) (by decide) (by decide) (by decide) (by decide), e21]; exact hs.len
                · rw [h35, e6]
                · rw [h36, gf 6 1 (by decide), g61]
                · rw [e2, ga 67 (by decide) (by decide) (by decide) (by decide), ga 3 (by decide) (by decide) (by decide) (by decide)]; exact hs.str
                · rw [e2, ga 68 (by decide) (by decide) (by decide) (by decide), ga 4 (by decide) (by decide) (by decide) (by decide)]; exact hs.stf
                · rw [e2, ga 69 (by decide) (by decide) (by decide) (by decide), ga 5 (by decide) (by decide) (by decide) (by decide)]; exact hs.wr
                · rw [e6]
                  intro i a1 a2
                  obtain ⟨x, q1, q2, q3, q4, q5⟩ := pos i a1 (by omega)
                  rw [q4, q2]
                · rw [e6]
                  intro i a1 a2
                  obtain ⟨x, q1, q2, q3, q4, q5⟩ := pos i a1 (by omega)
                  rw [q5, q3]
                · rw [ga 72 (by decide) (by decide) (by decide) (by decide), ga 9 (by decide) (by decide) (by decide) (by decide)]; exact hs.lw
              · rw [h316, gf 28 1 (by decide), g28]; omega
              · rw [gf 28 1 (by decide), g28]
                intro i a1 a2
                omega
              · rw [h3 66 21 (by decide), p2, gf 0 16 (by decide), g16]
              · rw [gf 0 17 (by decide)]; exact g17
              · rw [gf 52 0 (by decide)]; exact g52)
          · omega
        | succ r ih =>
          intro i A3 e1 fa3 s3
          have hi : i < P.length := by omega
          have ps := p5 i P[i] (List.getElem?_eq_getElem hi)
          have r82 : A3 82 i = P[i].1 := by rw [fa3 82 (by decide)]; exact ps.1
          have r83 : A3 83 i = P[i].2 := by rw [fa3 83 (by decide)]; exact ps.2
          refine L_iload_n eX11_way_77 rfl ?_
          refine L_aload_n eX11_way_78 rfl ?_
          refine L_get eX11_way_79 f_X11_127.g rfl rfl ?_
          -- at 82: .if_icmp .gt 33
          refine V_icmpgt eX11_way_82 (fun h4 => ?_) (fun h4 => ?_)
          · omega
          · refine L_aload_n eX11_way_85 rfl ?_
            refine L_getR (r := 70) eX11_way_86 f_X11_19.g rfl rfl (by decide) ?_
            refine L_iload_n eX11_way_89 rfl ?_
            refine L_aload_n eX11_way_90 rfl ?_
            refine L_getR (r := 82) eX11_way_91 f_X11_59.g rfl rfl (by decide) ?_
            refine L_iload_n eX11_way_94 rfl ?_
            refine L_iald eX11_way_95 rfl ?_
            refine L_iast eX11_way_96 rfl ?_
            refine L_aload_n eX11_way_97 rfl ?_
            refine L_getR (r := 71) eX11_way_98 f_X11_22.g rfl rfl (by decide) ?_
            refine L_iload_n eX11_way_101 rfl ?_
            refine L_aload_n eX11_way_102 rfl ?_
            refine L_getR (r := 83) eX11_way_103 f_X11_62.g rfl rfl (by decide) ?_
            refine L_iload_n eX11_way_106 rfl ?_
            refine L_iald eX11_way_107 rfl ?_
            refine L_iast eX11_way_108 rfl ?_
            refine L_iinc eX11_way_109 rfl (s_1 rfl rfl) ?_
            refine V_goto eX11_way_112 ?_
            refine ih (i + 1) _ (by omega) (fun o a1 => by rw [sA_ne (by omega), sA_ne (by omega)]; exact fa3 o a1) (fun k x ex a2 => ?_)
            by_cases c : k = i
            · subst c
              rw [List.getElem?_eq_getElem hi] at ex
              rw [← Option.some.inj ex]
              simp [sA, r82, r83]
              rw [uI_eq, uI_eq]
              exact ⟨rfl, rfl⟩
            · have := s3 k x ex (by omega)
              have cne : (k : Int) ≠ i := by omega
              simp [sA]
              rw [uI_ne cne, uI_ne cne]
              exact this
      have k36 : uF (uF F2 66 16 0) 66 40 (-1) 66 36 = tsm S := by rw [uF_ne (by decide), uF_ne (by decide)]; exact p3
      have k37 : uF (uF (uF F2 66 16 0) 66 40 (-1)) 66 5 (tsm S) 66 37 = S.length := by rw [uF_ne (by decide), uF_ne (by decide), uF_ne (by decide)]; exact p4
      refine L_aload_n eX11_way_34 rfl ?_
      refine V_iconst eX11_way_35 ?_
      refine L_put eX11_way_36 f_X11_156 rfl rfl ?_
      refine L_aload_n eX11_way_39 rfl ?_
      refine L_get eX11_way_40 f_X11_164.g rfl rfl ?_
      -- at 43: .ifCond .le 11
      refine V_ifle eX11_way_43 (fun h2 => ?_) (fun h2 => ?_)
      · refine L_aload_n eX11_way_54 rfl ?_
        refine V_iconst eX11_way_55 ?_
        refine L_put eX11_way_56 f_X11_72 rfl rfl ?_
        refine L_aload_n eX11_way_59 rfl ?_
        refine L_aload_n eX11_way_60 rfl ?_
        refine L_get eX11_way_61 f_X11_234.g rfl rfl ?_
        rw [k36]
        refine L_put eX11_way_64 f_X11_127 rfl rfl ?_
        refine L_aload_n eX11_way_67 rfl ?_
        refine L_aload_n eX11_way_68 rfl ?_
        refine L_get eX11_way_69 f_X11_237.g rfl rfl ?_
        rw [k37]
        refine L_put eX11_way_72 f_X11_130 rfl rfl ?_
        refine V_iconst eX11_way_75 ?_
        refine L_istore_n eX11_way_76 (s_1 rfl rfl) ?_
        rw [← eF3]
        exact LOOP (tsm S + 1).toNat 0 A2 (by omega) (fun _ _ => rfl) (fun k x ex a2 => by omega)
      · omega
end P99w

