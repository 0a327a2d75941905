/-! WAYS told in a text: a word part, in the reference -/
section P99q
variable {F : fT} {A : nT} {O : List opT} {n a : Int}
theorem m_wordPart {G : gT} {Q : Option Value → wT → Prop} {deep : Nat} {needs : Bool} {z2 : Int} {x4 x5 : Option Value} (hd : deep ≤ 3) (hT : txT n (A 73)) (hn : F 66 16 = n) (ha : F 66 17 = a) (hab : 0 ≤ a ∧ a ≤ n) (hk : F 66 20 = 0) (h : opR F A O) (hl : O.length < 64) (nc : ¬ (needs = false ∧ 0 < deep ∧ chA (A 73) n (skp (A 73) n a) = 41)) (nx : ∀ (F1 : fT) (A1 : nT) (dp nd : Int) (x4 x5 : Option Value), frZ F F1 A A1 → mpK F F1 A1 O (ptO (A 73) n deep needs (skp (A 73) n a)) → (∀ x, ptO (A 73) n deep needs (skp (A 73) n a) = .inr x → dp = (dpO deep x.1 : Nat) ∧ nd = if x.1.1 = 2 then 1 else 0) → (0 ≤ dp ∧ dp ≤ 4) → (nd = 0 ∨ nd = 1) → V G mX11_takeWay Q 0 0 6 [some (.ref 66), some (vi dp), some (vi nd), some (vi 1), x4, x5] [] (sw F1 A1)) : V G mX11_takeWay Q 0 0 78 [some (.ref 66), some (vi deep), some (vi z2), some (vi 1), x4, x5] [] (sw F A) := by
  have hn1 := hT.1
  have hsk : a ≤ skp (A 73) n a ∧ skp (A 73) n a ≤ n := rn_ge hab.2
  obtain ⟨F1, hW, f1, g17, g18, g19, g20, g21⟩ := m_takeWord (F := F) hT hn ha hab
  obtain ⟨q, eq⟩ : ∃ q, q = skp (A 73) n a := ⟨_, rfl⟩
  rw [← eq] at nc nx hsk g17 g18 g19
  have hq : 0 ≤ q ∧ q ≤ n := by omega
  have hn2 : F1 66 16 = n := by rw [f1 66 16 (by decide)]; exact hn
  have k20 : F1 66 20 = 0 := by rw [g20]; exact hk
  have op1 : opR F1 A O := h.fr (f1 66 27 (by decide))
  have hI4 := m_isWord (F := F1) (j := 4) (q := q) (c0 := 103) (c1 := 111) (c2 := 0) (c3 := 0) (c4 := 0) (c5 := 0) (c6 := 0) hT hn2 g18 hq g19 (by decide) (fun k x y => by
    have y' : k < 2 := y
    rcases (show k = 0 ∨ k = 1 by omega) with e | e <;> subst e <;> decide +kernel)
  have hI5 := m_isWord (F := F1) (j := 5) (q := q) (c0 := 104) (c1 := 111) (c2 := 108) (c3 := 100) (c4 := 0) (c5 := 0) (c6 := 0) hT hn2 g18 hq g19 (by decide) (fun k x y => by
    have y' : k < 4 := y
    rcases (show k = 0 ∨ k = 1 ∨ k = 2 ∨ k = 3 by omega) with e | e | e | e <;> subst e <;> decide +kernel)
  have hI6 := m_isWord (F := F1) (j := 6) (q := q) (c0 := 116) (c1 := 105) (c2 := 109) (c3 := 101) (c4 := 115) (c5 := 0) (c6 := 0) hT hn2 g18 hq g19 (by decide) (fun k x y => by
    have y' : k < 5 := y
    rcases (show k = 0 ∨ k = 1 ∨ k = 2 ∨ k = 3 ∨ k = 4 by omega) with e | e | e | e | e <;> subst e <;> decide +kernel)
  have e2 : (sLn.getD 4 0 : Int) = 2 := rfl
  have e4 : (sLn.getD 5 0 : Int) = 4 := rfl
  have e5 : (sLn.getD 6 0 : Int) = 5 := rfl
  refine L_aload_n eX11_takeWay_78 rfl ?_
  refine C_v0 (hW G) v_X11_200 eX11_takeWay_79 rfl rfl ?_
  refine L_aload_n eX11_takeWay_82 rfl ?_
  refine L_get eX11_takeWay_83 f_X11_171.g rfl rfl ?_
  refine L_istore eX11_takeWay_86 (s_4 rfl rfl) ?_
  refine V_iconst eX11_takeWay_88 ?_
  refine L_istore_n eX11_takeWay_89 (s_2 rfl rfl) ?_
  refine L_aload_n eX11_takeWay_90 rfl ?_
  refine V_iconst eX11_takeWay_91 ?_
  refine L_bipush eX11_takeWay_92 rfl ?_
  refine L_bipush eX11_takeWay_94 rfl ?_
  refine V_iconst eX11_takeWay_96 ?_
  refine V_iconst eX11_takeWay_97 ?_
  refine V_iconst eX11_takeWay_98 ?_
  refine V_iconst eX11_takeWay_99 ?_
  refine V_iconst eX11_takeWay_100 ?_
  refine C_v1 (hI4 G) v_X11_203 eX11_takeWay_101 rfl rfl ?_
  by_cases w4 : wm (A 73) n 4 q
  · rw [if_pos w4]
    have hwl := wm_le (by decide) hq w4
    rw [e2] at hwl
    have ep : ptO (A 73) n deep needs q = bO' (goO (A 73) n (q + 2)) fun x => .inr ((0, x.1), x.2) := by
      unfold ptO
      rw [if_neg nc, if_pos w4]
    rw [w4.1, e2] at g17
    refine V_ifeq eX11_takeWay_104 (fun h2 => ?_) (fun h2 => ?_)
    · omega
    refine L_aload_n eX11_takeWay_107 rfl ?_
    refine C_vq (m_takeGo (G := G) hT hn2 g17 (by omega) k20 op1 hl) v_X11_231 eX11_takeWay_108 rfl rfl (fun r' w' e' => ?_)
    obtain ⟨F2, A2, er, ew, fr2, gk⟩ := e'
    subst er ew
    refine V_goto eX11_takeWay_111 ?_
    refine V_goto eX11_takeWay_238 ?_
    refine nx F2 A2 _ _ _ _ ((frZ.of f1).tr fr2) ?_ ?_ (by omega) (Or.inl rfl)
    · rw [ep]
      revert gk
      cases goO (A 73) n (q + 2) with
      | inl e => exact fun gk => gk
      | inr x => exact fun gk => ⟨gk.1, gk.2.1, by rw [gk.2.2.1]; exact g21, gk.2.2.2⟩
    · intro x ex
      rw [ep] at ex
      cases hg : goO (A 73) n (q + 2) with
      | inl e => rw [hg] at ex; exact absurd ex (by simp [bO'])
      | inr y =>
        rw [hg, bO_r] at ex
        rw [← Sum.inr.inj ex]
        exact ⟨rfl, rfl⟩
  rw [if_neg w4]
  refine V_ifeq eX11_takeWay_104 (fun h2 => ?_) (fun h2 => ?_)
  rotate_left
  · omega
  refine L_aload_n eX11_takeWay_114 rfl ?_
  refine V_iconst eX11_takeWay_115 ?_
  refine L_bipush eX11_takeWay_116 rfl ?_
  refine L_bipush eX11_takeWay_118 rfl ?_
  refine L_bipush eX11_takeWay_120 rfl ?_
  refine L_bipush eX11_takeWay_122 rfl ?_
  refine V_iconst eX11_takeWay_124 ?_
  refine V_iconst eX11_takeWay_125 ?_
  refine V_iconst eX11_takeWay_126 ?_
  refine C_v1 (hI5 G) v_X11_203 eX11_takeWay_127 rfl rfl ?_
  by_cases w5 : wm (A 73) n 5 q
  · rw [if_pos w5]
    have hwl := wm_le (by decide) hq w5
    rw [e4] at hwl
    have ep : ptO (A 73) n deep needs q = bO' (hoO (A 73) n (q + 4)) fun x => .inr ((1, 0, 0, x.1), x.2) := by
      unfold ptO
      rw [if_neg nc, if_neg w4, if_pos w5]
    rw [w5.1, e4] at g17
    refine V_ifeq eX11_takeWay_130 (fun h2 => ?_) (fun h2 => ?_)
    · omega
    refine m_hold hT hn2 g17 (by omega) k20 op1 hl (fun F2 A2 b fr2 gk => ?_)
    refine nx F2 A2 _ _ _ _ ((frZ.of f1).tr fr2) ?_ ?_ (by omega) (Or.inl rfl)
    · rw [ep]
      revert gk
      cases hoO (A 73) n (q + 4) with
      | inl e => exact fun gk => gk
      | inr x => exact fun gk => ⟨gk.1, gk.2.1, by rw [gk.2.2.1]; exact g21, gk.2.2.2⟩
    · intro x ex
      rw [ep] at ex
      cases hg : hoO (A 73) n (q + 4) with
      | inl e => rw [hg] at ex; exact absurd ex (by simp [bO'])
      | inr y =>
        rw [hg, bO_r] at ex
        rw [← Sum.inr.inj ex]
        exact ⟨rfl, rfl⟩
  rw [if_neg w5]
  refine V_ifeq eX11_takeWay_130 (fun h2 => ?_) (fun h2 => ?_)
  rotate_left
  · omega
  have fbad : ∀ (k : Int), (1 ≤ k ∧ k ≤ 9) → ptO (A 73) n deep needs q = .inl (k, q) → ∀ (x4 x5 : Option Value), V G mX11_takeWay Q 0 0 6 [some (.ref 66), some (vi deep), some (vi 0), some (vi 1), x4, x5] [] (sw (uF (uF F1 66 20 k) 66 21 q) A) := fun k kb ep x4 x5 => by
    refine nx _ A _ _ _ _ ((frZ.of f1).tr ⟨fun o k z => by rw [uF_ne (by omega), uF_ne (by omega)], fun _ _ => rfl⟩) ?_ ?_ (by omega) (Or.inl rfl)
    · rw [ep]
      exact ⟨by rw [uF_ne (by decide), uF_eq], uF_eq, kb⟩
    · intro x ex
      rw [ep] at ex
      exact absurd ex (by simp)
  refine L_aload_n eX11_takeWay_161 rfl ?_
  refine L_aload_n eX11_takeWay_162 rfl ?_
  refine V_iconst eX11_takeWay_163 ?_
  refine L_bipush eX11_takeWay_164 rfl ?_
  refine L_bipush eX11_takeWay_166 rfl ?_
  refine L_bipush eX11_takeWay_168 rfl ?_
  refine L_bipush eX11_takeWay_170 rfl ?_
  refine L_bipush eX11_takeWay_172 rfl ?_
  refine V_iconst eX11_takeWay_174 ?_
  refine V_iconst eX11_takeWay_175 ?_
  refine C_v1 (hI6 G) v_X11_203 eX11_takeWay_176 rfl rfl ?_
  by_cases w6 : wm (A 73) n 6 q
  rotate_left
  · rw [if_neg w6]
    refine V_iconst eX11_takeWay_179 ?_
    refine L_iload eX11_takeWay_180 rfl ?_
    rw [g18]
    refine C_v1 (p_X11_want_bad k20 (by omega)) v_X11_189 eX11_takeWay_182 rfl rfl ?_
    refine V_ifeq eX11_takeWay_185 (fun h2 => ?_) (fun h2 => ?_)
    · refine V_goto eX11_takeWay_238 ?_
      refine fbad 1 (by omega) ?_ _ _
      unfold ptO
      rw [if_neg nc, if_neg w4, if_neg w5, if_neg w6]
    · omega
  rw [if_pos w6]
  have hwl := wm_le (by decide) hq w6
  rw [e5] at hwl
  have ep : ptO (A 73) n deep needs q = if 3 ≤ deep then .inl (3, q) else bO' (tiO (A 73) n (q + 5)) fun x => .inr ((2, 0, 0, x.1), x.2) := by
    unfold ptO
    rw [if_neg nc, if_neg w4, if_neg w5, if_pos w6]
  rw [w6.1, e5] at g17
  refine V_iconst eX11_takeWay_179 ?_
  refine L_iload eX11_takeWay_180 rfl ?_
  refine C_v1 (p_X11_want_ok (by omega)) v_X11_189 eX11_takeWay_182 rfl rfl ?_
  rw [if_pos k20]
  refine V_ifeq eX11_takeWay_185 (fun h2 => ?_) (fun h2 => ?_)
  · omega
  refine L_aload_n eX11_takeWay_188 rfl ?_
  refine L_iload_n eX11_takeWay_189 rfl ?_
  refine V_iconst eX11_takeWay_190 ?_
  -- at 191: .if_icmp .ge 7
  refine V_icmpge eX11_takeWay_191 (fun h3 => ?_) (fun h3 => ?_)
  · refine V_iconst eX11_takeWay_198 ?_
    refine V_iconst eX11_takeWay_199 ?_
    refine L_iload eX11_takeWay_200 rfl ?_
    rw [g18]
    refine C_v1 (p_X11_want_bad k20 (by omega)) v_X11_189 eX11_takeWay_202 rfl rfl ?_
    refine V_ifeq eX11_takeWay_205 (fun h2 => ?_) (fun h2 => ?_)
    · refine V_goto eX11_takeWay_238 ?_
      exact fbad 3 (by omega) (by rw [ep, if_pos (by omega)]) _ _
    · omega
  rw [if_neg (by omega)] at ep
  refine V_iconst eX11_takeWay_194 ?_
  refine V_goto eX11_takeWay_195 ?_
  refine V_iconst eX11_takeWay_199 ?_
  refine L_iload eX11_takeWay_200 rfl ?_
  refine C_v1 (p_X11_want_ok (by omega)) v_X11_189 eX11_takeWay_202 rfl rfl ?_
  rw [if_pos k20]
  refine V_ifeq eX11_takeWay_205 (fun h2 => ?_) (fun h2 => ?_)
  · omega
  refine m_times hT hn2 g17 (by omega) k20 op1 hl (fun F2 A2 b fr2 gk => ?_)
  refine nx F2 A2 _ _ _ _ ((frZ.of f1).tr fr2) ?_ ?_ (by omega) (Or.inr rfl)
  · rw [ep]
    revert gk
    cases tiO (A 73) n (q + 5) with
    | inl e => exact fun gk => gk
    | inr x => exact fun gk => ⟨gk.1, gk.2.1, by rw [gk.2.2.1]; exact g21, gk.2.2.2⟩
  · intro x ex
    rw [ep] at ex
    cases hg : tiO (A 73) n (q + 5) with
    | inl e => rw [hg] at ex; exact absurd ex (by simp [bO'])
    | inr y =>
      rw [hg, bO_r] at ex
      rw [← Sum.inr.inj ex]
      exact ⟨rfl, rfl⟩
end P99q

