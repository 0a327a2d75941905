/-! the THROWS that are kept, under what holds between two calls -/
section P62
variable {F F' : fT} {A A' : nT}
theorem cTs_b {p : Nat} {g : Int} {s : rS} (h : cOK F A p) (hg : 10 ≤ g ∧ g ≤ 200) (hs : bA s) : bA (cTs F A p g s) := by
  have hT := h.2.2.1
  have hw := h.2.2.2.2.2
  have := ts_b (R := (A 9 2).toNat) (T := (F 6 0).toNat) (wx := A 7) (wy := A 8) h.w hs (by omega) hg (fun t a b => hw t (by omega) (by omega)) (F 6 0).toNat (Nat.le_refl _)
  exact this
theorem flA_o {f p o : Nat} {g : Int} (h : o ≠ f + 1 ∧ o ≠ f + 2 ∧ o ≠ f + 3 ∧ o ≠ f + 4) : flA F A f p g o = A o := by
  unfold flA
  rw [s2_o ⟨h.1, h.2.1⟩, s2_o ⟨h.2.2.1, h.2.2.2⟩]
theorem flA_1 {f p : Nat} {g : Int} : flA F A f p g (f + 1) = (cTs F A p g (A (f + 1), A (f + 2))).1 := by
  unfold flA
  rw [s2_1]
theorem flA_2 {f p : Nat} {g : Int} : flA F A f p g (f + 2) = (cTs F A p g (A (f + 1), A (f + 2))).2 := by
  unfold flA
  rw [s2_2]
theorem flA_3 {f p : Nat} {g : Int} : flA F A f p g (f + 3) = wI (A (f + 3)) (wtF (A (p + 1)) (A (p + 2))) (F p 0).toNat := by
  unfold flA
  rw [s2_o (by omega), show f + 3 = f + 2 + 1 from rfl, s2_1]
theorem kF_ne {o k : Nat} (h : kF o k = true) : (o ≠ 0 ∨ k ≠ 17) ∧ o ≠ 42 ∧ o ≠ 47 ∧ o ≠ 52 ∧ o ≠ 55 ∧ (o ≠ 66 ∨ k ≠ 40) ∧ (o ≠ 66 ∨ k ≠ 41) := by
  unfold kF at h
  simp at h
  omega
theorem kA_ne {o : Nat} (h : kA o = true) : o ≤ 42 ∨ 59 ≤ o ∧ o ≤ 83 ∨ 93 ≤ o ∧ o ≤ 94 ∨ 97 ≤ o := by
  unfold kA at h
  simp at h
  omega
theorem iv_toss (h : Iv F A) {g : Int} (hg : 10 ≤ g ∧ g ≤ 200) : ∃ F1 A1, (∀ G : gT, Mu G mX11_toss [.ref 66, vi g] F A none F1 A1) ∧ Iv F1 A1 ∧ kp F A F1 A1 ∧ F1 66 40 = g ∧ agP (inN F1) (A1 84, A1 85) (cTs F1 A1 2 g zr) := by
  by_cases he : F 66 40 = g
  · refine ⟨F, A, fun G => p_X11_toss_hit he hg, h, kp.rfl', he, ?_⟩
    rcases h.ts with e | ⟨-, e⟩
    · omega
    · rw [he] at e
      exact e
  · have hm := h.m
    have hkp : kp F A (uF F 66 40 g) (s2 A 83 (mTs F A g (A 84, A 85)).1 (mTs F A g (A 84, A 85)).2) := by
      refine ⟨fun o k e => ?_, fun o e => ?_⟩
      · have := kF_ne e
        exact uF_ne (by omega)
      · have := kA_ne e
        exact s2_o (by omega)
    have hag : agP (inN (uF F 66 40 g)) (s2 A 83 (mTs F A g (A 84, A 85)).1 (mTs F A g (A 84, A 85)).2 84, s2 A 83 (mTs F A g (A 84, A 85)).1 (mTs F A g (A 84, A 85)).2 85) (cTs (uF F 66 40 g) (s2 A 83 (mTs F A g (A 84, A 85)).1 (mTs F A g (A 84, A 85)).2) 2 g zr) := by
      rw [hkp.Qt, hkp.Qn, show s2 A 83 (mTs F A g (A 84, A 85)).1 (mTs F A g (A 84, A 85)).2 84 = (mTs F A g (A 84, A 85)).1 from s2_1, show s2 A 83 (mTs F A g (A 84, A 85)).1 (mTs F A g (A 84, A 85)).2 85 = (mTs F A g (A 84, A 85)).2 from s2_2, Iv.mc h.ok h.s]
      exact Iv.ag h.ok
    refine ⟨_, _, fun G => p_X11_toss_miss he hg hm, ?_, hkp, uF_eq, ?_⟩
    · refine hkp.Qv h ?_ ?_ ?_ ?_ ?_ ?_
      · rw [uF_ne (by decide)]
        refine h.fl.imp id (fun e => ⟨e.1, hkp.Qf e.2 (fun k => uF_ne (Or.inl (by decide))) (s2_o (by decide)) (s2_o (by decide)) (s2_o (by decide))⟩)
      · refine Or.inr ⟨by rw [uF_eq]; exact hg, ?_⟩
        rw [uF_eq]
        exact hag
      · exact hkp.Qr h.sr (uF_ne (by decide)) (uF_ne (by decide)) (s2_o (by decide))
      · rw [s2_o (by decide), s2_o (by decide)]
        exact h.b1
      · rw [s2_o (by decide), s2_o (by decide)]
        exact h.b2
      · rw [show s2 A 83 (mTs F A g (A 84, A 85)).1 (mTs F A g (A 84, A 85)).2 84 = (mTs F A g (A 84, A 85)).1 from s2_1, show s2 A 83 (mTs F A g (A 84, A 85)).1 (mTs F A g (A 84, A 85)).2 85 = (mTs F A g (A 84, A 85)).2 from s2_2, Iv.mc h.ok h.s]
        exact cTs_b h.ok.c hg h.b3
    · exact hag
theorem fly_kp {f : Nat} (hf : isFl f) {g a b c d : Int} : kp F A (flF F f a b c d) (flA F A f 2 g) := by
  have hf2 : f = 42 ∨ f = 47 := hf
  refine ⟨fun o k e => ?_, fun o e => ?_⟩
  · have := kF_ne e
    exact flF_o (by omega)
  · have := kA_ne e
    exact flA_o (by omega)
theorem iv_theThrow (h : Iv F A) : ∃ F1 A1, (∀ G : gT, Mu G mX10_theThrow [.ref 0] F A (some (.ref 42)) F1 A1) ∧ Iv F1 A1 ∧ kp F A F1 A1 ∧ flK F1 A1 := by
  rcases h.fl with e | ⟨e, hk⟩
  · have hok := h.ok
    have hn : 1 ≤ F 2 0 ∧ F 2 0 ≤ 12 := hok.n
    have hg := h.giv.2
    have k1 := fly_kp (F := F) (A := A) (f := 42) (Or.inl rfl) (g := F 0 11) (a := F 2 0) (b := F 6 0) (c := A 9 3) (d := F 2 1)
    have k2 : kp (flF F 42 (F 2 0) (F 6 0) (A 9 3) (F 2 1)) (flA F A 42 2 (F 0 11)) (uF (flF F 42 (F 2 0) (F 6 0) (A 9 3) (F 2 1)) 0 17 1) (flA F A 42 2 (F 0 11)) := by
      refine ⟨fun o k e => ?_, fun o e => rfl⟩
      have := kF_ne e
      exact uF_ne (by omega)
    have k3 := k1.tr k2
    have hfl : flK (uF (flF F 42 (F 2 0) (F 6 0) (A 9 3) (F 2 1)) 0 17 1) (flA F A 42 2 (F 0 11)) := by
      refine flK.mk ?_ ?_ ?_ ?_ ?_ ?_
      · rw [k3.1 2 0 rfl, uF_ne (by decide), flF_0]
      · rw [k3.1 6 0 rfl, uF_ne (by decide), flF_1]
      · rw [k3.2 9 rfl, uF_ne (by decide), flF_2]
      · rw [k3.1 2 1 rfl, uF_ne (by decide), flF_3]
      · intro k a b
        rw [k3.1 2 0 rfl] at b
        rw [k3.2 3 rfl, k3.2 4 rfl, show flA F A 42 2 (F 0 11) 45 = _ from flA_3]
        exact wI_in a (by omega)
      · rw [k3.Qt, k3.Qn, k3.1 0 11 rfl, show flA F A 42 2 (F 0 11) 43 = _ from flA_1, show flA F A 42 2 (F 0 11) 44 = _ from flA_2]
        exact Iv.ag hok
    refine ⟨_, _, fun G => ?_, k3.Qv h (Or.inr ⟨uF_eq, hfl⟩) ?_ ?_ ?_ ?_ ?_, k3, hfl⟩
    · refine L_ent [some (.ref 0)] rfl ?_
      refine L_aload_n eX10_theThrow_0 rfl ?_
      refine L_get eX10_theThrow_1 f_X10_93.g rfl rfl ?_
      -- at 4: .ifCond .ne 40
      refine V_ifne eX10_theThrow_4 (fun h2 => ?_) (fun h2 => ?_)
      · omega
      · refine L_aload_n eX10_theThrow_7 rfl ?_
        refine L_getR (r := 42) eX10_theThrow_8 f_X10_46.g rfl rfl (by decide) ?_
        refine L_aload_n eX10_theThrow_11 rfl ?_
        refine L_getR (r := 1) eX10_theThrow_12 f_X10_10.g rfl rfl (by decide) ?_
        refine L_getR (r := 2) eX10_theThrow_15 f_X10_112 rfl rfl (by decide) ?_
        refine L_aload_n eX10_theThrow_18 rfl ?_
        refine L_getR (r := 1) eX10_theThrow_19 f_X10_10.g rfl rfl (by decide) ?_
        refine L_getR (r := 6) eX10_theThrow_22 f_X10_130 rfl rfl (by decide) ?_
        refine L_aload_n eX10_theThrow_25 rfl ?_
        refine L_getR (r := 1) eX10_theThrow_26 f_X10_10.g rfl rfl (by decide) ?_
        refine L_getR (r := 9) eX10_theThrow_29 f_X10_166 rfl rfl (by decide) ?_
        refine L_aload_n eX10_theThrow_32 rfl ?_
        refine L_get eX10_theThrow_33 f_X10_74.g rfl rfl ?_
        refine C_v0 (p_X1_fly (Or.inl rfl) (Or.inl rfl) hg hok.c h.b1) v_X10_255 eX10_theThrow_36 rfl rfl ?_
        refine L_aload_n eX10_theThrow_39 rfl ?_
        refine V_iconst eX10_theThrow_40 ?_
        refine L_putZ eX10_theThrow_41 f_X10_93 rfl rfl ?_
        refine L_aload_n eX10_theThrow_44 rfl ?_
        refine L_getR (r := 42) eX10_theThrow_45 f_X10_46.g rfl rfl (by decide) ?_
        -- at 48: .areturn
        exact V_areturn (Or.inl ⟨_, rfl⟩) eX10_theThrow_48 ⟨rfl, rfl⟩
    · exact k3.Qk h.ts (by rw [uF_ne (by decide), flF_o (by decide)]) (flA_o (by decide)) (flA_o (by decide))
    · exact k3.Qr h.sr (by rw [uF_ne (by decide), flF_o (by decide)]) (by rw [uF_ne (by decide), flF_o (by decide)]) (flA_o (by decide))
    · rw [show flA F A 42 2 (F 0 11) 43 = _ from flA_1, show flA F A 42 2 (F 0 11) 44 = _ from flA_2]
      exact cTs_b hok.c hg h.b1
    · rw [flA_o (by decide), flA_o (by decide)]
      exact h.b2
    · rw [flA_o (by decide), flA_o (by decide)]
      exact h.b3
  · refine ⟨F, A, fun G => ?_, h, kp.rfl', hk⟩
    refine L_ent [some (.ref 0)] rfl ?_
    refine L_aload_n eX10_theThrow_0 rfl ?_
    refine L_get eX10_theThrow_1 f_X10_93.g rfl rfl ?_
    -- at 4: .ifCond .ne 40
    refine V_ifne eX10_theThrow_4 (fun h2 => ?_) (fun h2 => ?_)
    · refine L_aload_n eX10_theThrow_44 rfl ?_
      refine L_getR (r := 42) eX10_theThrow_45 f_X10_46.g rfl rfl (by decide) ?_
      -- at 48: .areturn
      exact V_areturn (Or.inl ⟨_, rfl⟩) eX10_theThrow_48 ⟨rfl, rfl⟩
    · omega
end P62

