section P87
variable {F F' : fT} {A A' : nT}
theorem ev_p {G : Nat → (Int → Int) → Int} {W : Nat → (Int → Int) → Int → Int} {n r : Nat} {w : Int → Int} (c : 0 < G n w) : evV G W n (r + 1) w = 1 ∧ evN G W n (r + 1) w = n - G n w ∧ evW G W n (r + 1) w = W n w := by
  rw [evV, evN, evW, if_pos c, if_pos c, if_pos c]
  exact ⟨rfl, rfl, rfl⟩
theorem ev_n {G : Nat → (Int → Int) → Int} {W : Nat → (Int → Int) → Int → Int} {n r : Nat} {w : Int → Int} (c : ¬ 0 < G n w) : evV G W n (r + 1) w = 1 + evV G W n r (W n w) ∧ evN G W n (r + 1) w = evN G W n r (W n w) ∧ evW G W n (r + 1) w = evW G W n r (W n w) := by
  rw [evV, evN, evW, if_neg c, if_neg c, if_neg c]
  exact ⟨rfl, rfl, rfl⟩
theorem c_ev {N : Int} (hN : 1 ≤ N ∧ N ≤ 40) {n : Nat} (hn : 1 ≤ n ∧ n ≤ 12) : ∀ (r : Nat) (d : Int) (F' : fT) (A' : nT), Cv F' A' → F' 2 0 = n → d + r = N + 1 → 1 ≤ d → ∃ F2 A2, (∀ (G : gT) (Q : Option Value → wT → Prop), Q (some (vi (d - 1 + evV (cGn F' A') (cWs F' A') n r (A' 5)))) (sw F2 A2) → V G mX10_evening Q 0 0 17 [some (.ref 0), some (vi N), some (vi d)] [] (sw F' A')) ∧ Cv F2 A2 ∧ F2 2 0 = evN (cGn F' A') (cWs F' A') n r (A' 5) ∧ A2 5 = evW (cGn F' A') (cWs F' A') n r (A' 5) ∧ (∀ o k, (o ≠ 0 ∨ k ≠ 17) → o ≠ 42 → (o ≠ 2 ∨ k ≠ 0) → (o ≠ 52 ∨ k ≠ 0) → F2 o k = F' o k) ∧ (∀ o, o ≠ 5 → o < 43 ∨ 46 < o → A2 o = A' o) ∧ ((evN (cGn F' A') (cWs F' A') n r (A' 5) = n ∧ F2 52 0 = F' 52 0 ∧ (0 < r ∨ F' 0 17 = 1 → F2 0 17 = 1)) ∨ (evN (cGn F' A') (cWs F' A') n r (A' 5) ≤ n ∧ 1 ≤ evN (cGn F' A') (cWs F' A') n r (A' 5) ∧ 0 < r ∧ evN (cGn F' A') (cWs F' A') n r (A' 5) ≠ n ∧ F2 52 0 = -1 ∧ F2 0 17 = 0)) := by
  intro r
  induction r with
  | zero =>
    intro d F' A' c e0 e1 e2
    refine ⟨F', A', fun G Q q => ?_, c, e0, rfl, fun _ _ _ _ _ _ => rfl, fun _ _ _ => rfl, Or.inl ⟨rfl, rfl, fun a => a.resolve_left (by omega)⟩⟩
    rw [show d - 1 + evV (cGn F' A') (cWs F' A') n 0 (A' 5) = N by show d - 1 + 0 = N; omega] at q
    refine L_iload_n eX10_evening_17 rfl ?_
    refine L_iload_n eX10_evening_18 rfl ?_
    -- at 19: .if_icmp .gt 18
    refine V_icmpgt eX10_evening_19 (fun h2 => ?_) (fun h2 => ?_)
    · refine L_iload_n eX10_evening_37 rfl ?_
      -- at 38: .ireturn
      exact V_ireturn eX10_evening_38 q
    · omega
  | succ r ih =>
    intro d F' A' c e0 e1 e2
    obtain ⟨F1, A1, hC, c1, f2, f5, ff, fa, g0, g1⟩ := c_really c e0 hn
    have hg : 0 ≤ cGn F' A' n (A' 5) ∧ cGn F' A' n (A' 5) ≤ ((n - 1 : Nat) : Int) := lwV_b (W := cWs F' A' n (A' 5)) (L := A' 9 4) (n := n) (n - 1) 1 (by omega)
    by_cases cc : 0 < cGn F' A' n (A' 5)
    · have ep := ev_p (W := cWs F' A') (r := r) cc
      have gg := g1 cc
      refine ⟨F1, A1, fun G Q q => ?_, c1, by rw [ep.2.1]; exact f2, by rw [ep.2.2]; exact f5, ff, fa, Or.inr ⟨by rw [ep.2.1]; omega, by rw [ep.2.1]; omega, by omega, by rw [ep.2.1]; omega, gg.1, gg.2⟩⟩
      rw [ep.1, show d - 1 + 1 = d by omega] at q
      refine L_iload_n eX10_evening_17 rfl ?_
      refine L_iload_n eX10_evening_18 rfl ?_
      -- at 19: .if_icmp .gt 18
      refine V_icmpgt eX10_evening_19 (fun h2 => ?_) (fun h2 => ?_)
      · omega
      · refine L_aload_n eX10_evening_22 rfl ?_
        refine C_v1 (hC G) v_X10_291 eX10_evening_23 rfl rfl ?_
        -- at 26: .ifCond .le 5
        refine V_ifle eX10_evening_26 (fun h3 => ?_) (fun h3 => ?_)
        · omega
        · refine L_iload_n eX10_evening_29 rfl ?_
          -- at 30: .ireturn
          exact V_ireturn eX10_evening_30 q
    · have ep := ev_n (W := cWs F' A') (r := r) cc
      have gg := g0 (by omega)
      have k1 := kG_c (F := F') (A := A') (F' := F1) (A' := A1) (ff 2 1 (by decide) (by decide) (by decide) (by decide)) (ff 6 0 (by decide) (by decide) (by decide) (by decide)) (ff 0 11 (by decide) (by decide) (by decide) (by decide)) fa
      obtain ⟨F2, A2, hV, c2, p2, p5, pf, pa, alt⟩ := ih (d + 1) F1 A1 c1 (by omega) (by omega) (by omega)
      rw [k1.1, k1.2, f5] at hV p2 p5 alt
      refine ⟨F2, A2, fun G Q q => ?_, c2, by rw [ep.2.1]; exact p2, by rw [ep.2.2]; exact p5, fun o k a b c d => (pf o k a b c d).trans (ff o k a b c d), fun o a b => (pa o a b).trans (fa o a b), ?_⟩
      · rw [ep.1] at q
        refine L_iload_n eX10_evening_17 rfl ?_
        refine L_iload_n eX10_evening_18 rfl ?_
        -- at 19: .if_icmp .gt 18
        refine V_icmpgt eX10_evening_19 (fun h2 => ?_) (fun h2 => ?_)
        · omega
        · refine L_aload_n eX10_evening_22 rfl ?_
          refine C_v1 (hC G) v_X10_291 eX10_evening_23 rfl rfl ?_
          -- at 26: .ifCond .le 5
          refine V_ifle eX10_evening_26 (fun h3 => ?_) (fun h3 => ?_)
          · refine L_iinc eX10_evening_31 rfl (s_2 rfl rfl) ?_
            refine V_goto eX10_evening_34 ?_
            refine hV G Q ?_
            rw [show d + 1 - 1 + evV (cGn F' A') (cWs F' A') n r (cWs F' A' n (A' 5)) = d - 1 + (1 + evV (cGn F' A') (cWs F' A') n r (cWs F' A' n (A' 5))) by omega]
            exact q
          · omega
      · rw [ep.2.1]
        rcases alt with ⟨a1, a2, a3⟩ | ⟨a1, a2, a3, a4, a5⟩
        · exact Or.inl ⟨a1, a2.trans gg.1, fun _ => a3 (Or.inr gg.2)⟩
        · exact Or.inr ⟨a1, a2, by omega, a4, a5⟩
theorem m_ev {N : Int} (hN : 1 ≤ N ∧ N ≤ 40) {n : Nat} (hn : 1 ≤ n ∧ n ≤ 12) : ∀ (r : Nat) (d : Int) (F' : fT) (A' : nT), Mv F' A' → F' 66 0 = n → d + r = N → 0 ≤ d → ∃ F2 A2, (∀ (G : gT) (Q : Option Value → wT → Prop), Q (some (vi (d + evV (mGn F' A') (mWr F' A') n r (A' 69)))) (sw F2 A2) → V G mX11_evening Q 0 0 20 [some (.ref 66), some (vi N), some (vi d), some (vi 1)] [] (sw F' A')) ∧ Mv F2 A2 ∧ F2 66 0 = evN (mGn F' A') (mWr F' A') n r (A' 69) ∧ A2 69 = evW (mGn F' A') (mWr F' A') n r (A' 69) ∧ (∀ o k, (o ≠ 66 ∨ k ≠ 40 ∧ k ≠ 0) → F2 o k = F' o k) ∧ (∀ o, o ≠ 69 → o ≠ 84 → o ≠ 85 → A2 o = A' o) ∧ (evN (mGn F' A') (mWr F' A') n r (A' 69) ≠ n → F2 66 40 = -1) := by
  intro r
  induction r with
  | zero =>
    intro d F' A' c e0 e1 e2
    refine ⟨F', A', fun G Q q => ?_, c, e0, rfl, fun _ _ _ => rfl, fun _ _ _ _ => rfl, fun a => absurd rfl a⟩
    rw [show d + evV (mGn F' A') (mWr F' A') n 0 (A' 69) = d by show d + 0 = d; omega] at q
    refine L_iload_n eX11_evening_20 rfl ?_
    -- at 21: .ifCond .eq 27
    refine V_ifeq eX11_evening_21 (fun h1 => ?_) (fun h1 => ?_)
    · omega
    · refine L_iload_n eX11_evening_24 rfl ?_
      refine L_iload_n eX11_evening_25 rfl ?_
      -- at 26: .if_icmp .ge 22
      refine V_icmpge eX11_evening_26 (fun h2 => ?_) (fun h2 => ?_)
      · refine L_iload_n eX11_evening_48 rfl ?_
        -- at 49: .ireturn
        exact V_ireturn eX11_evening_49 q
      · omega
  | succ r ih =>
    intro d F' A' c e0 e1 e2
    obtain ⟨F1, A1, hM, c1, f66, f69, ff, fa, g1⟩ := m_wear c e0
    have hg : 0 ≤ mGn F' A' n (A' 69) ∧ mGn F' A' n (A' 69) ≤ ((n - 1 : Nat) : Int) := lwV_b (W := mWr F' A' n (A' 69)) (L := A' 72 4) (n := n) (n - 1) 1 (by omega)
    by_cases cc : 0 < mGn F' A' n (A' 69)
    · have ep := ev_p (W := mWr F' A') (r := r) cc
      refine ⟨F1, A1, fun G Q q => ?_, c1, by rw [ep.2.1]; exact f66, by rw [ep.2.2]; exact f69, ff, fa, fun _ => g1 cc⟩
      rw [ep.1] at q
      refine L_iload_n eX11_evening_20 rfl ?_
      -- at 21: .ifCond .eq 27
      refine V_ifeq eX11_evening_21 (fun h1 => ?_) (fun h1 => ?_)
      · omega
      · refine L_iload_n eX11_evening_24 rfl ?_
        refine L_iload_n eX11_evening_25 rfl ?_
        -- at 26: .if_icmp .ge 22
        refine V_icmpge eX11_evening_26 (fun h2 => ?_) (fun h2 => ?_)
        · omega
        · refine L_aload_n eX11_evening_29 rfl ?_
          refine C_v1 (hM G) v_X11_409 eX11_evening_30 rfl rfl ?_
          -- at 33: .ifCond .ne 7
          refine V_ifne eX11_evening_33 (fun h3 => ?_) (fun h3 => ?_)
          · refine V_iconst eX11_evening_40 ?_
            refine L_istore_n eX11_evening_41 (s_3 rfl rfl) ?_
            refine L_iinc eX11_evening_42 rfl (s_2 rfl rfl) ?_
            refine V_goto eX11_evening_45 ?_
            refine L_iload_n eX11_evening_20 rfl ?_
            -- at 21: .ifCond .eq 27
            refine V_ifeq eX11_evening_21 (fun h4 => ?_) (fun h4 => ?_)
            · refine L_iload_n eX11_evening_48 rfl ?_
              -- at 49: .ireturn
              exact V_ireturn eX11_evening_49 q
            · omega
          · omega
    · have ep := ev_n (W := mWr F' A') (r := r) cc
      have k1 := mG_c (F := F') (A := A') (F' := F1) (A' := A1) (fun k a b => ff 66 k (by omega)) (fun o a b c d => fa o b c d)
      obtain ⟨F2, A2, hV, c2, p66, p69, pf, pa, alt⟩ := ih (d + 1) F1 A1 c1 (by omega) (by omega) (by omega)
      rw [k1.1, k1.2, f69] at hV p66 p69 alt
      refine ⟨F2, A2, fun G Q q => ?_, c2, by rw [ep.2.1]; exact p66, by rw [ep.2.2]; exact p69, fun o k a => (pf o k a).trans (ff o k a), fun o a b c => (pa o a b c).trans (fa o a b c), by rw [ep.2.1]; exact alt⟩
      rw [ep.1] at q
      refine L_iload_n eX11_evening_20 rfl ?_
      -- at 21: .ifCond .eq 27
      refine V_ifeq eX11_evening_21 (fun h1 => ?_) (fun h1 => ?_)
      · omega
      · refine L_iload_n eX11_evening_24 rfl ?_
        refine L_iload_n eX11_evening_25 rfl ?_
        -- at 26: .if_icmp .ge 22
        refine V_icmpge eX11_evening_26 (fun h2 => ?_) (fun h2 => ?_)
        · omega
        · refine L_aload_n eX11_evening_29 rfl ?_
          refine C_v1 (hM G) v_X11_409 eX11_evening_30 rfl rfl ?_
          -- at 33: .ifCond .ne 7
          refine V_ifne eX11_evening_33 (fun h3 => ?_) (fun h3 => ?_)
          · omega
          · refine V_iconst eX11_evening_36 ?_
            refine V_goto eX11_evening_37 ?_
            refine L_istore_n eX11_evening_41 (s_3 rfl rfl) ?_
            refine L_iinc eX11_evening_42 rfl (s_2 rfl rfl) ?_
            refine V_goto eX11_evening_45 ?_
            refine hV G Q ?_
            rw [show d + 1 + evV (mGn F' A') (mWr F' A') n r (mWr F' A' n (A' 69)) = d + (1 + evV (mGn F' A') (mWr F' A') n r (mWr F' A' n (A' 69))) by omega]
            exact q
theorem pr_evening (h : Iv F A) {N : Int} (hN : i32 N) : Pr mX10_evening mX11_evening [vi N] F A := by
  unfold i32 at hN
  by_cases h1 : 1 ≤ N ∧ N ≤ 40
  · obtain ⟨n, T, en, eT, hn, hT⟩ := iv_nat h
    obtain ⟨F1, A1, hC, c1, e2, e5, ff, fa, alt⟩ := c_ev h1 hn N.toNat 1 F A h.C en (by omega) (by omega)
    have m1 : Mv F1 A1 := h.M.fr (fun k => ff 66 k (by omega) (by omega) (by omega) (by omega)) (fun o a => fa o (by omega) (by omega))
    have en66 : F1 66 0 = n := by rw [ff 66 0 (by omega) (by omega) (by omega) (by omega), h.s.n]; exact en
    obtain ⟨F2, A2, hM, m2, e66, e69, ff2, fa2, g2⟩ := m_ev h1 hn N.toNat 0 F1 A1 m1 en66 (by omega) (by omega)
    have kk := mG_c (F := F) (A := A) (F' := F1) (A' := A1) (fun k _ _ => ff 66 k (by omega) (by omega) (by omega) (by omega)) (fun o a _ _ _ => fa o (by omega) (by omega))
    have a69 : A1 69 = A 69 := fa 69 (by decide) (by decide)
    rw [kk.1, kk.2, a69] at hM e66 g2 e69
    have hww : eqO (n : Int) (A 5) (A 69) := fun i a b => (h.s.wr i a (by omega)).symm
    have cm := ev_c (G := cGn F A) (G' := mGn F A) (W := cWs F A) (W' := mWr F A) (n := n) (wr_cm h en hn.1) N.toNat (A 5) (A 69) hww
    rw [← cm.1] at hM
    rw [← cm.2.1] at e66 g2
    refine ⟨vi (evV (cGn F A) (cWs F A) n N.toNat (A 5)), F1, A1, F2, A2, fun G => ?_, fun G => ?_, ?_, ty_v⟩
    · have go : V G mX10_evening (fun r' w => r' = some (vi (evV (cGn F A) (cWs F A) n N.toNat (A 5))) ∧ w = sw F1 A1) 0 0 15 [some (.ref 0), some (vi N), none] [] (sw F A) := by
        refine V_iconst eX10_evening_15 ?_
        refine L_istore_n eX10_evening_16 (s_2 rfl rfl) ?_
        exact hC G _ ⟨by rw [show (1 : Int) - 1 + evV (cGn F A) (cWs F A) n N.toNat (A 5) = evV (cGn F A) (cWs F A) n N.toNat (A 5) by omega], rfl⟩
      refine L_ent [some (.ref 0), some (vi N), none] rfl ?_
      refine L_iload_n eX10_evening_0 rfl ?_
      refine V_iconst eX10_evening_1 ?_
      refine V_icmplt eX10_evening_2 (fun h2 => ?_) (fun h2 => ?_)
      · (exfalso; omega)
      · refine L_iload_n eX10_evening_5 rfl ?_
        refine L_bipush eX10_evening_6 rfl ?_
        refine V_icmple eX10_evening_8 (fun h8 => ?_) (fun h8 => ?_)
        · exact go
        · (exfalso; omega)
    · have go : V G mX11_evening (fun r' w => r' = some (vi (evV (cGn F A) (cWs F A) n N.toNat (A 5))) ∧ w = sw F2 A2) 0 0 16 [some (.ref 66), some (vi N), none, none] [] (sw F1 A1) := by
        refine V_iconst eX11_evening_16 ?_
        refine L_istore_n eX11_evening_17 (s_2 rfl rfl) ?_
        refine V_iconst eX11_evening_18 ?_
        refine L_istore_n eX11_evening_19 (s_3 rfl rfl) ?_
        exact hM G _ ⟨by rw [Int.zero_add], rfl⟩
      refine L_ent [some (.ref 66), some (vi N), none, none] rfl ?_
      refine L_iload_n eX11_evening_0 rfl ?_
      refine V_i2l eX11_evening_1 ?_
      refine L_lconst1 eX11_evening_2 ?_
      refine L_ldc2 eX11_evening_3 k_X11_412 ?_
      refine C_s1 (p_X11_in (by omega) (by omega) (by omega)) v_X11_152 eX11_evening_6 rfl ?_
      refine V_ifneB eX11_evening_9 (fun h9 => ?_) (fun h9 => ?_)
      · exact go
      · (exfalso; omega)
    · have f2 : ∀ o k, o ≠ 66 → F2 o k = F1 o k := fun o k a => ff2 o k (by omega)
      have hle : evN (cGn F A) (cWs F A) n N.toNat (A 5) ≤ n := by omega
      refine iv_wear h (n' := evN (cGn F A) (cWs F A) n N.toNat (A 5)) (c1.fr (fun o k a => f2 o k (by omega)) (fun o a => fa2 o (by omega) (by omega) (by omega))) m2 (by rw [f2 2 0 (by decide)]; exact e2) e66 ?_ (fun o k a b c d e => ?_) (fun o a b c d e => ?_) ?_
      · rw [e69, fa2 5 (by decide) (by decide) (by decide), e5]
        exact fun i a b => (cm.2.2 i a (by omega)).symm
      · rw [ff2 o k e]; exact ff o k a b c d
      · rw [fa2 o c d e]; exact fa o a b
      · rw [f2 52 0 (by decide), f2 0 17 (by decide)]
        rcases alt with ⟨a1, a2, a3⟩ | ⟨a1, a2, a3, a4, a5⟩
        · have := a3 (Or.inl (by omega))
          left
          omega
        · have p2 := g2 a4
          right
          omega
  · refine ⟨vi (-1002), F, A, F, A, fun G => ?_, fun G => ?_, h, ty_v⟩
    · refine L_ent [some (.ref 0), some (vi N), none] rfl ?_
      refine L_iload_n eX10_evening_0 rfl ?_
      refine V_iconst eX10_evening_1 ?_
      refine V_icmplt eX10_evening_2 (fun h2 => ?_) (fun h2 => ?_)
      · refine L_sipush eX10_evening_11 rfl ?_
        exact V_ireturn eX10_evening_14 ((by first | (exfalso; omega) | exact ⟨rfl, rfl⟩))
      · refine L_iload_n eX10_evening_5 rfl ?_
        refine L_bipush eX10_evening_6 rfl ?_
        refine V_icmple eX10_evening_8 (fun h8 => ?_) (fun h8 => ?_)
        · (exfalso; omega)
        · refine L_sipush eX10_evening_11 rfl ?_
          exact V_ireturn eX10_evening_14 ((by first | (exfalso; omega) | exact ⟨rfl, rfl⟩))
    · refine L_ent [some (.ref 66), some (vi N), none, none] rfl ?_
      refine L_iload_n eX11_evening_0 rfl ?_
      refine V_i2l eX11_evening_1 ?_
      refine L_lconst1 eX11_evening_2 ?_
      refine L_ldc2 eX11_evening_3 k_X11_412 ?_
      refine C_s1 (p_X11_in (by omega) (by omega) (by omega)) v_X11_152 eX11_evening_6 rfl ?_
      refine V_ifneB eX11_evening_9 (fun h9 => ?_) (fun h9 => ?_)
      · (exfalso; omega)
      · refine L_sipush eX11_evening_12 rfl ?_
        exact V_ireturn eX11_evening_15 ((by first | (exfalso; omega) | exact ⟨rfl, rfl⟩))
end P87

