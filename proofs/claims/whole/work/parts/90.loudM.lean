/-! the LOUDEST PLAIT: the reference's side -/
def lmK (F : fT) (A : nT) (F' : fT) (A' : nT) (n : Nat) (st : Int × List Int) (l : List Int) : Prop := (∀ o k, (o ≠ 66 ∨ k ≠ 40) → F' o k = F o k) ∧ (∀ o, o ≠ 67 → (o < 84 ∨ 90 < o ∨ o = 86 ∨ o = 87) → A' o = A o) ∧ (bA (A' 84, A' 85)) ∧ (-1 ≤ F' 66 40 ∧ F' 66 40 ≤ 200) ∧ (∀ j : Int, j < 0 ∨ n ≤ j → A' 67 j = A 67 j) ∧ (eqO n (A' 88) (A 67)) ∧ (∀ j : Int, 0 ≤ j → j < n → 0 ≤ A' 89 j ∧ A' 89 j ≤ 4) ∧ (lS (A' 89) n 0 = l) ∧ (-1 ≤ st.1 ∧ st.1 < 400000) ∧ (st.1 ≠ -1 → ∀ j : Int, 0 ≤ j → j < n → (0 ≤ A' 90 j ∧ A' 90 j ≤ 4) ∧ ltT (A' 90 j) = stL st.2 j)
theorem lmK.kf {F : fT} {A : nT} {F' : fT} {A' : nT} {n : Nat} {st : Int × List Int} {l : List Int} (h : lmK F A F' A' n st l) : ∀ o k, (o ≠ 66 ∨ k ≠ 40) → F' o k = F o k := h.1
theorem lmK.ka {F : fT} {A : nT} {F' : fT} {A' : nT} {n : Nat} {st : Int × List Int} {l : List Int} (h : lmK F A F' A' n st l) : ∀ o, o ≠ 67 → (o < 84 ∨ 90 < o ∨ o = 86 ∨ o = 87) → A' o = A o := h.2.1
theorem lmK.b3 {F : fT} {A : nT} {F' : fT} {A' : nT} {n : Nat} {st : Int × List Int} {l : List Int} (h : lmK F A F' A' n st l) : bA (A' 84, A' 85) := h.2.2.1
theorem lmK.t40 {F : fT} {A : nT} {F' : fT} {A' : nT} {n : Nat} {st : Int × List Int} {l : List Int} (h : lmK F A F' A' n st l) : -1 ≤ F' 66 40 ∧ F' 66 40 ≤ 200 := h.2.2.2.1
theorem lmK.so {F : fT} {A : nT} {F' : fT} {A' : nT} {n : Nat} {st : Int × List Int} {l : List Int} (h : lmK F A F' A' n st l) : ∀ j : Int, j < 0 ∨ n ≤ j → A' 67 j = A 67 j := h.2.2.2.2.1
theorem lmK.hl {F : fT} {A : nT} {F' : fT} {A' : nT} {n : Nat} {st : Int × List Int} {l : List Int} (h : lmK F A F' A' n st l) : eqO n (A' 88) (A 67) := h.2.2.2.2.2.1
theorem lmK.rb {F : fT} {A : nT} {F' : fT} {A' : nT} {n : Nat} {st : Int × List Int} {l : List Int} (h : lmK F A F' A' n st l) : ∀ j : Int, 0 ≤ j → j < n → 0 ≤ A' 89 j ∧ A' 89 j ≤ 4 := h.2.2.2.2.2.2.1
theorem lmK.row {F : fT} {A : nT} {F' : fT} {A' : nT} {n : Nat} {st : Int × List Int} {l : List Int} (h : lmK F A F' A' n st l) : lS (A' 89) n 0 = l := h.2.2.2.2.2.2.2.1
theorem lmK.sb {F : fT} {A : nT} {F' : fT} {A' : nT} {n : Nat} {st : Int × List Int} {l : List Int} (h : lmK F A F' A' n st l) : -1 ≤ st.1 ∧ st.1 < 400000 := h.2.2.2.2.2.2.2.2.1
theorem lmK.be {F : fT} {A : nT} {F' : fT} {A' : nT} {n : Nat} {st : Int × List Int} {l : List Int} (h : lmK F A F' A' n st l) : st.1 ≠ -1 → ∀ j : Int, 0 ≤ j → j < n → (0 ≤ A' 90 j ∧ A' 90 j ≤ 4) ∧ ltT (A' 90 j) = stL st.2 j := h.2.2.2.2.2.2.2.2.2
theorem lmK.mk {F : fT} {A : nT} {F' : fT} {A' : nT} {n : Nat} {st : Int × List Int} {l : List Int} (qkf : ∀ o k, (o ≠ 66 ∨ k ≠ 40) → F' o k = F o k) (qka : ∀ o, o ≠ 67 → (o < 84 ∨ 90 < o ∨ o = 86 ∨ o = 87) → A' o = A o) (qb3 : bA (A' 84, A' 85)) (qt40 : -1 ≤ F' 66 40 ∧ F' 66 40 ≤ 200) (qso : ∀ j : Int, j < 0 ∨ n ≤ j → A' 67 j = A 67 j) (qhl : eqO n (A' 88) (A 67)) (qrb : ∀ j : Int, 0 ≤ j → j < n → 0 ≤ A' 89 j ∧ A' 89 j ≤ 4) (qrow : lS (A' 89) n 0 = l) (qsb : -1 ≤ st.1 ∧ st.1 < 400000) (qbe : st.1 ≠ -1 → ∀ j : Int, 0 ≤ j → j < n → (0 ≤ A' 90 j ∧ A' 90 j ≤ 4) ∧ ltT (A' 90 j) = stL st.2 j) : lmK F A F' A' n st l := ⟨qkf, qka, qb3, qt40, qso, qhl, qrb, qrow, qsb, qbe⟩
section P90
variable {F F' : fT} {A A' : nT} {n T : Nat} {s i : Int} {st : Int × List Int} {l : List Int}
theorem m_row (h : Iv F A) (en : F 2 0 = n) (eT : F 6 0 = T) (hn : 1 ≤ n ∧ n ≤ 8) (hT : 1 ≤ T ∧ T ≤ 60) (hs : 1 ≤ s ∧ s ≤ 96) (K : lmK F A F' A' n st l) : ∃ F2 A2, (∀ (G : gT) (Q : Option Value → wT → Prop) (x6 x7 x8 x9 : Option Value), (∀ (x6 : Int) (x7 x8 x9 : Option Value), V G mX11_loudest Q 0 0 193 [some (.ref 66), some (vi s), some (vi i), some (vl (loT F A s st l).1), none, some (vi 1), some (vi x6), x7, x8, x9] [] (sw F2 A2)) → V G mX11_loudest Q 0 0 76 [some (.ref 66), some (vi s), some (vi i), some (vl st.1), none, some (vi 1), x6, x7, x8, x9] [] (sw F' A')) ∧ lmK F A F2 A2 n (loT F A s st l) l := by
  have hs' := h.s
  have hpl : ∀ j : Int, 0 ≤ j → j < n → 0 ≤ A 68 j ∧ A 68 j < 4 := fun j a b => by
    have := h.m.2.2.2.1 j a (by rw [hs'.n, en]; exact b)
    exact this.2
  have f0 : F' 66 0 = n := by rw [K.kf 66 0 (by decide), hs'.n]; exact en
  obtain ⟨A1, eA1⟩ : ∃ A1, A1 = sA A' 67 (lyF (A' 89) (A' 67) n) := ⟨_, rfl⟩
  have a1 : ∀ o, o ≠ 67 → A1 o = A' o := fun o q => by rw [eA1]; exact sA_ne q
  have a67 : eqO n (A1 67) (stL l) := by
    intro j a b
    rw [eA1, sA_eq, ← K.row, stL_lS a b]
    exact if_pos ⟨a, b⟩
  have esm : sI (fun j => ltT (A' 89 j)) n = smL l := by
    rw [← K.row, smL_lS]
    exact sI_c n (fun j _ => by rw [Int.zero_add])
  have hsm : ∀ m : Nat, m ≤ n → 0 ≤ sI (fun j => ltT (A' 89 j)) m ∧ sI (fun j => ltT (A' 89 j)) m ≤ 12 * m := fun m _ => sI_b2 m (fun j _ => by have := ltT_b (A' 89 j); omega)
  have K1 : lmK F A F' A1 n st l := by
    refine lmK.mk K.kf (fun o p q => (a1 o p).trans (K.ka o p q)) ?_ K.t40 ?_ ?_ ?_ ?_ K.sb ?_
    · rw [a1 84 (by decide), a1 85 (by decide)]; exact K.b3
    · intro j q
      rw [eA1, sA_eq]
      show (if 0 ≤ j ∧ j < n then ltT (A' 89 j) else A' 67 j) = A 67 j
      rw [if_neg (by omega)]
      exact K.so j q
    · rw [a1 88 (by decide)]; exact K.hl
    · rw [a1 89 (by decide)]; exact K.rb
    · rw [a1 89 (by decide)]; exact K.row
    · rw [a1 90 (by decide)]; exact K.be
  -- the row is laid
  have lay : ∀ (G : gT) (Q : Option Value → wT → Prop) (x6 x7 x8 x9 : Option Value), (∀ (x7 x8 x9 : Option Value), V G mX11_loudest Q 0 0 126 [some (.ref 66), some (vi s), some (vi i), some (vl st.1), none, some (vi 1), some (vi (smL l)), x7, x8, x9] [] (sw F' A1)) → V G mX11_loudest Q 0 0 76 [some (.ref 66), some (vi s), some (vi i), some (vl st.1), none, some (vi 1), x6, x7, x8, x9] [] (sw F' A') := by
    intro G Q x6 x7 x8 x9 hv
    have LOOP : ∀ (r j : Nat) (k : Int) (x8 x9 : Option Value), n < r + j → j ≤ n → k = j → V G mX11_loudest Q 0 0 82 [some (.ref 66), some (vi s), some (vi i), some (vl st.1), none, some (vi 1), some (vi (sI (fun j => ltT (A' 89 j)) j)), some (vi k), x8, x9] [] (sw F' (sA A' 67 (lyF (A' 89) (A' 67) k))) := by
      intro r
      induction r with
      | zero => intro j k x8 x9 e1 e2; omega
      | succ r ih =>
        intro j k x8 x9 e1 e2 ek
        have e89 : sA A' 67 (lyF (A' 89) (A' 67) k) 89 = A' 89 := sA_ne (by decide)
        refine L_iload eX11_loudest_82 rfl ?_
        refine L_aload_n eX11_loudest_84 rfl ?_
        refine L_get eX11_loudest_85 f_X11_121.g rfl rfl ?_
        -- at 88: .if_icmp .ge 38
        refine V_icmpge eX11_loudest_88 (fun h2 => ?_) (fun h2 => ?_)
        · have e : k = n := by omega
          have e' : j = n := by omega
          subst e
          subst e'
          rw [← eA1, esm]
          exact hv _ _ _
        · have hr := K.rb k (by omega) (by omega)
          have hsj := hsm j e2
          have htb := ltT_b (A' 89 k)
          refine L_aload_n eX11_loudest_91 rfl ?_
          refine L_getR (r := 67) eX11_loudest_92 f_X11_7.g rfl rfl (by decide) ?_
          refine L_iload eX11_loudest_95 rfl ?_
          refine L_aload_n eX11_loudest_97 rfl ?_
          refine L_getR (r := 89) eX11_loudest_98 f_X11_84.g rfl rfl (by decide) ?_
          refine L_iload eX11_loudest_101 rfl ?_
          refine L_ialdE eX11_loudest_103 rfl e89 ?_
          refine C_s1 (p_X11_listed (by omega)) v_X11_371 eX11_loudest_104 rfl ?_
          refine L_iast eX11_loudest_107 rfl ?_
          rw [sA_sA, sA_eq, lyF_s (by omega)]
          refine L_iload eX11_loudest_108 rfl ?_
          refine L_aload_n eX11_loudest_110 rfl ?_
          refine L_getR (r := 67) eX11_loudest_111 f_X11_7.g rfl rfl (by decide) ?_
          refine L_iload eX11_loudest_114 rfl ?_
          refine L_ialdE eX11_loudest_116 rfl sA_eq ?_
          rw [show lyF (A' 89) (A' 67) (k + 1) k = ltT (A' 89 k) from if_pos (by omega)]
          refine V_iadd eX11_loudest_117 ?_
          refine L_istore eX11_loudest_118 (s_6 rfl rfl) ?_
          refine L_iinc eX11_loudest_120 rfl (s_7 rfl rfl) ?_
          refine V_goto eX11_loudest_123 ?_
          have := ih (j + 1) (k + 1) x8 x9 (by omega) (by omega) (by omega)
          rw [sI, ← ek] at this
          exact this
    refine V_iconst eX11_loudest_76 ?_
    refine L_istore eX11_loudest_77 (s_6 rfl rfl) ?_
    refine V_iconst eX11_loudest_79 ?_
    refine L_istore eX11_loudest_80 (s_7 rfl rfl) ?_
    have := LOOP (n + 1) 0 0 x8 x9 (by omega) (by omega) (by omega)
    rw [lyF_0, sA_self] at this
    exact this
  have hsn := hsm n (Nat.le_refl _)
  rw [esm] at hsn
  by_cases cs : smL l ≤ s
  · have hg := h.giv.2
    have hok : mOK (uF F' 66 40 (-1)) A1 := by
      have hm := h.m
      refine ⟨?_, ?_, ?_, ?_, ?_, ?_, K1.b3, ?_, ?_⟩
      · rw [uF_ne (by decide), f0]; omega
      · rw [uF_ne (by decide), K.kf 66 1 (by decide)]; exact hm.2.1
      · rw [uF_ne (by decide), K.kf 66 5 (by decide)]; exact hm.2.2.1
      · rw [uF_ne (by decide), f0]
        intro j a b
        rw [a67 j a b, K1.ka 68 (by decide) (by decide), ← K.row, stL_lS a b]
        have := ltT_b (A' 89 j)
        exact ⟨by omega, hpl j a b⟩
      · rw [K1.ka 72 (by decide) (by decide)]; exact hm.2.2.2.2.1
      · rw [uF_ne (by decide), K.kf 66 5 (by decide), K1.ka 70 (by decide) (by decide), K1.ka 71 (by decide) (by decide)]; exact hm.2.2.2.2.2.1
      · rw [uF_eq]; omega
      · rw [uF_eq]; omega
    have eg : uF F' 66 40 (-1) 66 10 = F 0 11 := by rw [uF_ne (by decide), K.kf 66 10 (by decide)]; exact h.giv.1
    have hTs := fun (G : gT) => p_X11_toss_miss (G := G) (F := uF F' 66 40 (-1)) (A := A1) (g := F 0 11) (by rw [uF_eq]; omega) hg hok
    rw [uF_uF] at hTs
    obtain ⟨A2, eA2⟩ : ∃ A2, A2 = s2 A1 83 (mTs (uF F' 66 40 (-1)) A1 (F 0 11) (A1 84, A1 85)).1 (mTs (uF F' 66 40 (-1)) A1 (F 0 11) (A1 84, A1 85)).2 := ⟨_, rfl⟩
    rw [← eA2] at hTs
    have a2 : ∀ o, o ≠ 84 → o ≠ 85 → A2 o = A1 o := fun o p q => by rw [eA2]; exact s2_o (by omega)
    have a84 : A2 84 = (mTs (uF F' 66 40 (-1)) A1 (F 0 11) (A1 84, A1 85)).1 := by rw [eA2]; exact s2_1
    have a85 : A2 85 = (mTs (uF F' 66 40 (-1)) A1 (F 0 11) (A1 84, A1 85)).2 := by rw [eA2]; exact s2_2
    have hT6 : 1 ≤ F 6 0 ∧ F 6 0 ≤ 60 := h.ok.T
    have ets : ∀ z, mTs (uF F' 66 40 (-1)) A1 (F 0 11) z = tsS (wtF (stL l) (A 4)) (bdF (stL l) (A 4)) (F 2 1) (A 9 0) (A 9 1) n (A 9 2).toNat (A 7) (A 8) (F 0 11) T z := fun z => by
      unfold mTs
      rw [uF_ne (by decide), uF_ne (by decide), uF_ne (by decide), f0, K.kf 66 1 (by decide), K.kf 66 5 (by decide), hs'.len, hs'.T, eT, K1.ka 72 (by decide) (by decide), K1.ka 70 (by decide) (by decide), K1.ka 71 (by decide) (by decide), hs'.lw 0 (by omega) (by omega), hs'.lw 1 (by omega) (by omega), hs'.lw 2 (by omega) (by omega), Int.toNat_natCast, Int.toNat_natCast]
      refine ts_cong ?_ ?_ (fun t a b => ⟨hs'.wx t (by omega) (by omega), hs'.wy t (by omega) (by omega)⟩)
      · intro k a b
        unfold wtF
        rw [a67 (k - 1) (by omega) (by omega), K1.ka 68 (by decide) (by decide), hs'.stf (k - 1) (by omega) (by omega)]
      · intro k a b
        unfold bdF
        rw [a67 (k - 1) (by omega) (by omega), K1.ka 68 (by decide) (by decide), hs'.stf (k - 1) (by omega) (by omega)]
    have etl : tsL F A l = tsS (wtF (stL l) (A 4)) (bdF (stL l) (A 4)) (F 2 1) (A 9 0) (A 9 1) n (A 9 2).toNat (A 7) (A 8) (F 0 11) T zr := by
      unfold tsL
      rw [en, eT, Int.toNat_natCast, Int.toNat_natCast]
    have ag : agP (inI n T n) (A2 84, A2 85) (tsL F A l) := by
      rw [a84, a85, ets, etl]
      exact ag_ts (by omega)
    have hb3 : bA (A2 84, A2 85) := by
      rw [a84, a85]
      exact mTs_b hok hg K1.b3
    have hGr := fun (G : gT) => p_X11_greatestSpeed (G := G) (F := uF F' 66 40 (F 0 11)) (A := A2) (n := n) (T := T) hb3 (by rw [uF_ne (by decide)]; exact f0) (by rw [uF_ne (by decide), K.kf 66 5 (by decide), hs'.T]; exact eT) (by omega) hT.2
    have esp : gM (fun k t => rt (mv (A2 84) (A2 85) k t)) n T = spL F A l := by
      have nn : ∀ k t : Int, 0 ≤ mv (A2 84) (A2 85) k t := fun k t => by
        have sq : ∀ z : Int, 0 ≤ z * z := fun z => by
          rcases Int.le_total 0 z with h | h
          · exact Int.mul_nonneg h h
          · exact Int.mul_nonneg_of_nonpos_of_nonpos h h
        unfold mv
        exact Int.add_nonneg (sq _) (sq _)
      rw [← (rt_gM (v := mv (A2 84) (A2 85)) (n := n) nn T).2]
      unfold spL
      rw [en, eT, Int.toNat_natCast, Int.toNat_natCast, gM_c (v := mv (A2 84) (A2 85)) (v' := mv (tsL F A l).1 (tsL F A l).2) (n := n) (T := T) (fun k t a b c d => mv_c (X' := (tsL F A l).1) (Y' := (tsL F A l).2) ag (by omega) (by omega) (by omega)) T (Nat.le_refl _)]
    have hspb : 0 ≤ spL F A l ∧ spL F A l < 400000 := by
      have h1 := gM_b (v := fun k t => rt (mv (A2 84) (A2 85) k t)) (n := n) (T := T) (B := 399999) (by omega) (fun k t a b c d => by have := (mv_b hb3 (k := k) (t := t) (by omega) (by omega)).2.2.2.2.2.2; omega) T (Nat.le_refl _)
      rw [esp] at h1
      omega
    rw [esp] at hGr
    have sb := K.sb
    have K2 : lmK F A (uF F' 66 40 (F 0 11)) A2 n st l := by
      refine lmK.mk (fun o k p => by rw [uF_ne (by omega)]; exact K.kf o k p) (fun o p q => (a2 o (by omega) (by omega)).trans (K1.ka o p q)) hb3 (by rw [uF_eq]; omega) ?_ ?_ ?_ ?_ K.sb ?_
      · rw [a2 67 (by decide) (by decide)]; exact K1.so
      · rw [a2 88 (by decide) (by decide)]; exact K1.hl
      · rw [a2 89 (by decide) (by decide)]; exact K1.rb
      · rw [a2 89 (by decide) (by decide)]; exact K1.row
      · rw [a2 90 (by decide) (by decide)]; exact K1.be
    by_cases cb : st.1 < spL F A l
    · have elo : loT F A s st l = (spL F A l, l) := if_pos ⟨cs, cb⟩
      refine ⟨uF F' 66 40 (F 0 11), sA A2 90 (fun j => if 0 ≤ j ∧ j < n then A2 89 j else A2 90 j), fun G Q x6 x7 x8 x9 hv => ?_, ?_⟩
      · refine lay G Q _ _ _ _ (fun x7 x8 x9 => ?_)
        rw [elo] at hv
        have CP : ∀ (r : Nat) (k : Int), k + r = n → 0 ≤ k → V G mX11_loudest Q 0 0 164 [some (.ref 66), some (vi s), some (vi i), some (vl (spL F A l)), none, some (vi 1), some (vi (smL l)), some (vl (spL F A l)), none, some (vi k)] [] (sw (uF F' 66 40 (F 0 11)) (sA A2 90 (fun j => if 0 ≤ j ∧ j < k then A2 89 j else A2 90 j))) := by
          have f02 : uF F' 66 40 (F 0 11) 66 0 = n := by rw [uF_ne (by decide)]; exact f0
          intro r
          induction r with
          | zero =>
            intro k e1 e2
            have e : k = n := by omega
            subst e
            refine L_iload eX11_loudest_164 rfl ?_
            refine L_aload_n eX11_loudest_166 rfl ?_
            refine L_get eX11_loudest_167 f_X11_121.g rfl rfl ?_
            -- at 170: .if_icmp .ge 23
            refine V_icmpge eX11_loudest_170 (fun h2 => ?_) (fun h2 => ?_)
            · exact hv _ _ _ _
            · omega
          | succ r ih =>
            intro k e1 e2
            have e89 : sA A2 90 (fun j => if 0 ≤ j ∧ j < k then A2 89 j else A2 90 j) 89 = A2 89 := sA_ne (by decide)
            refine L_iload eX11_loudest_164 rfl ?_
            refine L_aload_n eX11_loudest_166 rfl ?_
            refine L_get eX11_loudest_167 f_X11_121.g rfl rfl ?_
            -- at 170: .if_icmp .ge 23
            refine V_icmpge eX11_loudest_170 (fun h2 => ?_) (fun h2 => ?_)
            · omega
            · refine L_aload_n eX11_loudest_173 rfl ?_
              refine L_getR (r := 90) eX11_loudest_174 f_X11_87.g rfl rfl (by decide) ?_
              refine L_iload eX11_loudest_177 rfl ?_
              refine L_aload_n eX11_loudest_179 rfl ?_
              refine L_getR (r := 89) eX11_loudest_180 f_X11_84.g rfl rfl (by decide) ?_
              refine L_iload eX11_loudest_183 rfl ?_
              refine L_ialdE eX11_loudest_185 rfl e89 ?_
              refine L_iast eX11_loudest_186 rfl ?_
              refine L_iinc eX11_loudest_187 rfl (s_9 rfl rfl) ?_
              refine V_goto eX11_loudest_190 ?_
              rw [sA_sA, sA_eq, show uI (fun j => if 0 ≤ j ∧ j < k then A2 89 j else A2 90 j) k (A2 89 k) = (fun j => if 0 ≤ j ∧ j < k + 1 then A2 89 j else A2 90 j) by
                funext j
                simp only [uI]
                by_cases c : j = k
                · rw [if_pos c, if_pos (by omega), c]
                · rw [if_neg c]
                  by_cases d : 0 ≤ j ∧ j < k
                  · rw [if_pos d, if_pos (by omega)]
                  · rw [if_neg d, if_neg (by omega)]]
              exact ih _ (by omega) (by omega)
        have cp0 := CP n 0 (by omega) (by omega)
        rw [show (fun j => if 0 ≤ j ∧ j < (0 : Int) then A2 89 j else A2 90 j) = A2 90 by funext j; rw [if_neg (by omega)], sA_self] at cp0
        refine L_iload eX11_loudest_126 rfl ?_
        refine L_iload_n eX11_loudest_128 rfl ?_
        -- at 129: .if_icmp .gt 64
        refine V_icmpgt eX11_loudest_129 (fun h2 => ?_) (fun h2 => ?_)
        · omega
        · refine L_aload_n eX11_loudest_132 rfl ?_
          refine V_iconst eX11_loudest_133 ?_
          refine L_put eX11_loudest_134 f_X11_72 rfl rfl ?_
          refine L_aload_n eX11_loudest_137 rfl ?_
          refine L_aload_n eX11_loudest_138 rfl ?_
          refine L_get eX11_loudest_139 f_X11_133.g rfl rfl ?_
          rw [eg]
          refine C_v0 (hTs G) v_X11_311 eX11_loudest_142 rfl rfl ?_
          refine L_aload_n eX11_loudest_145 rfl ?_
          refine C_v1 (hGr G) v_X11_374 eX11_loudest_146 rfl rfl ?_
          refine L_lstore eX11_loudest_149 (t_7 rfl) ?_
          refine L_lload eX11_loudest_151 rfl ?_
          refine L_lload_n eX11_loudest_153 rfl ?_
          -- at 154: .lcmp
          refine V_lcmple eX11_loudest_154 eX11_loudest_155 (fun h3 => ?_) (fun h3 => ?_)
          · omega
          · refine L_lload eX11_loudest_158 rfl ?_
            refine L_lstore_n eX11_loudest_160 (t_3 rfl) ?_
            refine V_iconst eX11_loudest_161 ?_
            refine L_istore eX11_loudest_162 (s_9 rfl rfl) ?_
            exact cp0
      · refine lmK.mk K2.kf (fun o p q => by rw [sA_ne (by omega)]; exact K2.ka o p q) ?_ K2.t40 ?_ ?_ ?_ ?_ ?_ ?_
        · rw [sA_ne (by decide), sA_ne (by decide)]; exact hb3
        · rw [sA_ne (by decide)]; exact K2.so
        · rw [sA_ne (by decide)]; exact K2.hl
        · rw [sA_ne (by decide)]; exact K2.rb
        · rw [sA_ne (by decide)]; exact K2.row
        · rw [elo]
          show -1 ≤ spL F A l ∧ spL F A l < 400000
          omega
        · rw [elo, sA_eq]
          intro _ j a b
          show (0 ≤ (if 0 ≤ j ∧ j < n then A2 89 j else A2 90 j) ∧ (if 0 ≤ j ∧ j < n then A2 89 j else A2 90 j) ≤ 4) ∧ ltT (if 0 ≤ j ∧ j < n then A2 89 j else A2 90 j) = stL l j
          rw [if_pos ⟨a, b⟩, ← K2.row, stL_lS a b]
          exact ⟨K2.rb j a b, rfl⟩
    · have elo : loT F A s st l = st := if_neg (fun q => cb q.2)
      refine ⟨uF F' 66 40 (F 0 11), A2, fun G Q x6 x7 x8 x9 hv => ?_, by rw [elo]; exact K2⟩
      refine lay G Q _ _ _ _ (fun x7 x8 x9 => ?_)
      rw [elo] at hv
      refine L_iload eX11_loudest_126 rfl ?_
      refine L_iload_n eX11_loudest_128 rfl ?_
      -- at 129: .if_icmp .gt 64
      refine V_icmpgt eX11_loudest_129 (fun h2 => ?_) (fun h2 => ?_)
      · omega
      · refine L_aload_n eX11_loudest_132 rfl ?_
        refine V_iconst eX11_loudest_133 ?_
        refine L_put eX11_loudest_134 f_X11_72 rfl rfl ?_
        refine L_aload_n eX11_loudest_137 rfl ?_
        refine L_aload_n eX11_loudest_138 rfl ?_
        refine L_get eX11_loudest_139 f_X11_133.g rfl rfl ?_
        rw [eg]
        refine C_v0 (hTs G) v_X11_311 eX11_loudest_142 rfl rfl ?_
        refine L_aload_n eX11_loudest_145 rfl ?_
        refine C_v1 (hGr G) v_X11_374 eX11_loudest_146 rfl rfl ?_
        refine L_lstore eX11_loudest_149 (t_7 rfl) ?_
        refine L_lload eX11_loudest_151 rfl ?_
        refine L_lload_n eX11_loudest_153 rfl ?_
        -- at 154: .lcmp
        refine V_lcmple eX11_loudest_154 eX11_loudest_155 (fun h3 => ?_) (fun h3 => ?_)
        · exact hv _ _ _ _
        · omega
  · have elo : loT F A s st l = st := if_neg (fun q => cs q.1)
    refine ⟨F', A1, fun G Q x6 x7 x8 x9 hv => ?_, by rw [elo]; exact K1⟩
    refine lay G Q _ _ _ _ (fun x7 x8 x9 => ?_)
    rw [elo] at hv
    refine L_iload eX11_loudest_126 rfl ?_
    refine L_iload_n eX11_loudest_128 rfl ?_
    -- at 129: .if_icmp .gt 64
    refine V_icmpgt eX11_loudest_129 (fun h2 => ?_) (fun h2 => ?_)
    · exact hv _ _ _ _
    · omega
theorem row_key {R : Int → Int} : (∀ j : Int, 0 ≤ j → j < n → R j = 4) ∨ ∃ m : Int, 0 ≤ m ∧ m < n ∧ R m ≠ 4 ∧ ∀ j : Int, m < j → j < n → R j = 4 := by
  have key2 : ∀ r k : Nat, k + r = n → (∀ j : Int, k ≤ j → j < n → R j = 4) ∨ ∃ m : Int, k ≤ m ∧ m < n ∧ R m ≠ 4 ∧ ∀ j : Int, m < j → j < n → R j = 4 := by
    intro r
    induction r with
    | zero => intro k e; left; intro j a b; omega
    | succ r ih =>
      intro k e
      rcases ih (k + 1) (by omega) with q | ⟨m, a, b, c, d⟩
      · by_cases c : R k = 4
        · left
          intro j a b
          by_cases f : j = k
          · rw [f]; exact c
          · exact q j (by omega) b
        · exact Or.inr ⟨k, by omega, by omega, c, fun j a b => q j (by omega) b⟩
      · exact Or.inr ⟨m, by omega, b, c, d⟩
  exact key2 n 0 (by omega)
theorem m_next (f0 : F' 66 0 = n) (hn : 1 ≤ n ∧ n ≤ 8) (K : lmK F A F' A' n st l) : (nxR l = none ∧ ∀ (G : gT) (Q : Option Value → wT → Prop) (x6 : Int) (x7 x8 x9 : Option Value), (∀ (x7 x8 x9 : Option Value), V G mX11_loudest Q 0 0 71 [some (.ref 66), some (vi s), some (vi i), some (vl st.1), none, some (vi 0), some (vi x6), x7, x8, x9] [] (sw F' A')) → V G mX11_loudest Q 0 0 193 [some (.ref 66), some (vi s), some (vi i), some (vl st.1), none, some (vi 1), some (vi x6), x7, x8, x9] [] (sw F' A')) ∨ ∃ A2 l', nxR l = some l' ∧ lmK F A F' A2 n st l' ∧ ∀ (G : gT) (Q : Option Value → wT → Prop) (x6 : Int) (x7 x8 x9 : Option Value), (∀ (x7 x8 x9 : Option Value), V G mX11_loudest Q 0 0 71 [some (.ref 66), some (vi s), some (vi i), some (vl st.1), none, some (vi 1), some (vi x6), x7, x8, x9] [] (sw F' A2)) → V G mX11_loudest Q 0 0 193 [some (.ref 66), some (vi s), some (vi i), some (vl st.1), none, some (vi 1), some (vi x6), x7, x8, x9] [] (sw F' A') := by
  rcases row_key (n := n) (R := A' 89) with q | ⟨m, m0, mn, m4, mq⟩
  · left
    refine ⟨?_, fun G Q x6 x7 x8 x9 hv => ?_⟩
    · rw [← K.row]
      exact nx_none n 0 (fun j a b => q j a (by omega))
    · have LOOP : ∀ (r : Nat) (k : Int) (x8 x9 : Option Value), k + 1 = r → k < n → V G mX11_loudest Q 0 0 201 [some (.ref 66), some (vi s), some (vi i), some (vl st.1), none, some (vi 1), some (vi x6), some (vi k), x8, x9] [] (sw F' A') := by
        intro r
        induction r with
        | zero =>
          intro k x8 x9 e1 e2
          refine L_iload eX11_loudest_201 rfl ?_
          -- at 203: .ifCond .lt 20
          refine V_iflt eX11_loudest_203 (fun h2 => ?_) (fun h2 => ?_)
          · refine L_iload eX11_loudest_223 rfl ?_
            -- at 225: .ifCond .lt 7
            refine V_iflt eX11_loudest_225 (fun h3 => ?_) (fun h3 => ?_)
            · refine V_iconst eX11_loudest_232 ?_
              refine L_istore eX11_loudest_233 (s_5 rfl rfl) ?_
              refine L_iload eX11_loudest_235 rfl ?_
              -- at 237: .ifCond .eq 49
              refine V_ifeq eX11_loudest_237 (fun h4 => ?_) (fun h4 => ?_)
              · refine V_goto eX11_loudest_286 ?_
                exact hv _ _ _
              · omega
            · omega
          · omega
        | succ r ih =>
          intro k x8 x9 e1 e2
          have q4 := q k (by omega) (by omega)
          refine L_iload eX11_loudest_201 rfl ?_
          -- at 203: .ifCond .lt 20
          refine V_iflt eX11_loudest_203 (fun h2 => ?_) (fun h2 => ?_)
          · omega
          · refine L_aload_n eX11_loudest_206 rfl ?_
            refine L_getR (r := 89) eX11_loudest_207 f_X11_84.g rfl rfl (by decide) ?_
            refine L_iload eX11_loudest_210 rfl ?_
            refine L_iald eX11_loudest_212 rfl ?_
            refine V_iconst eX11_loudest_213 ?_
            -- at 214: .if_icmp .ne 9
            refine V_icmpne eX11_loudest_214 (fun h3 => ?_) (fun h3 => ?_)
            · omega
            · refine L_iinc eX11_loudest_217 rfl (s_7 rfl rfl) ?_
              refine V_goto eX11_loudest_220 ?_
              exact ih _ _ _ (by omega) (by omega)
      refine L_aload_n eX11_loudest_193 rfl ?_
      refine L_get eX11_loudest_194 f_X11_121.g rfl rfl ?_
      refine V_iconst eX11_loudest_197 ?_
      refine V_isub eX11_loudest_198 ?_
      refine L_istore eX11_loudest_199 (s_7 rfl rfl) ?_
      exact LOOP n _ _ _ (by omega) (by omega)
  · right
    have hm := K.rb m m0 mn
    obtain ⟨R2, eR2⟩ : ∃ R2 : Int → Int, R2 = fun i => if m ≤ i ∧ i < n then A' 89 m + 1 else A' 89 i := ⟨_, rfl⟩
    refine ⟨sA A' 89 R2, lS R2 n 0, ?_, ?_, fun G Q x6 x7 x8 x9 hv => ?_⟩
    · rw [← K.row]
      refine nx_some n 0 m m0 (by omega) m4 (fun j a b => mq j a (by omega)) (fun j a b => ?_) (fun j a b => ?_)
      · rw [eR2]
        exact if_neg (by omega)
      · rw [eR2]
        exact if_pos (by omega)
    · refine lmK.mk K.kf (fun o p q => by rw [sA_ne (by omega)]; exact K.ka o p q) ?_ K.t40 ?_ ?_ ?_ ?_ K.sb ?_
      · rw [sA_ne (by decide), sA_ne (by decide)]; exact K.b3
      · rw [sA_ne (by decide)]; exact K.so
      · rw [sA_ne (by decide)]; exact K.hl
      · rw [sA_eq, eR2]
        intro j a b
        show 0 ≤ (if m ≤ j ∧ j < n then A' 89 m + 1 else A' 89 j) ∧ (if m ≤ j ∧ j < n then A' 89 m + 1 else A' 89 j) ≤ 4
        by_cases c : m ≤ j ∧ j < n
        · rw [if_pos c]; omega
        · rw [if_neg c]
          exact K.rb j a b
      · rw [sA_eq]
      · rw [sA_ne (by decide)]; exact K.be
    · have FILL : ∀ (r : Nat) (j : Int) (x9 : Option Value), j + r = n → m < j → V G mX11_loudest Q 0 0 257 [some (.ref 66), some (vi s), some (vi i), some (vl st.1), none, some (vi 1), some (vi x6), some (vi m), some (vi j), x9] [] (sw F' (sA A' 89 (fun i => if m ≤ i ∧ i < j then A' 89 m + 1 else A' 89 i))) := by
        intro r
        induction r with
        | zero =>
          intro j x9 e1 e2
          have e : j = n := by omega
          subst e
          refine L_iload eX11_loudest_257 rfl ?_
          refine L_aload_n eX11_loudest_259 rfl ?_
          refine L_get eX11_loudest_260 f_X11_121.g rfl rfl ?_
          -- at 263: .if_icmp .ge 23
          refine V_icmpge eX11_loudest_263 (fun h2 => ?_) (fun h2 => ?_)
          · refine V_goto eX11_loudest_286 ?_
            rw [← eR2]
            exact hv _ _ _
          · omega
        | succ r ih =>
          intro j x9 e1 e2
          refine L_iload eX11_loudest_257 rfl ?_
          refine L_aload_n eX11_loudest_259 rfl ?_
          refine L_get eX11_loudest_260 f_X11_121.g rfl rfl ?_
          -- at 263: .if_icmp .ge 23
          refine V_icmpge eX11_loudest_263 (fun h2 => ?_) (fun h2 => ?_)
          · omega
          · refine L_aload_n eX11_loudest_266 rfl ?_
            refine L_getR (r := 89) eX11_loudest_267 f_X11_84.g rfl rfl (by decide) ?_
            refine L_iload eX11_loudest_270 rfl ?_
            refine L_aload_n eX11_loudest_272 rfl ?_
            refine L_getR (r := 89) eX11_loudest_273 f_X11_84.g rfl rfl (by decide) ?_
            refine L_iload eX11_loudest_276 rfl ?_
            refine L_ialdE eX11_loudest_278 rfl sA_eq ?_
            rw [if_pos (show m ≤ m ∧ m < j by omega)]
            refine L_iast eX11_loudest_279 rfl ?_
            refine L_iinc eX11_loudest_280 rfl (s_8 rfl rfl) ?_
            refine V_goto eX11_loudest_283 ?_
            rw [sA_sA, sA_eq, show uI (fun i => if m ≤ i ∧ i < j then A' 89 m + 1 else A' 89 i) j (A' 89 m + 1) = (fun i => if m ≤ i ∧ i < j + 1 then A' 89 m + 1 else A' 89 i) by
              funext i
              simp only [uI]
              by_cases c : i = j
              · rw [if_pos c, if_pos (by omega)]
              · rw [if_neg c]
                by_cases d : m ≤ i ∧ i < j
                · rw [if_pos d, if_pos (by omega)]
                · rw [if_neg d, if_neg (by omega)]]
            exact ih _ _ (by omega) (by omega)
      have fill0 := fun x9 => FILL (n - m - 1).toNat (m + 1) x9 (by omega) (by omega)
      rw [show (fun i => if m ≤ i ∧ i < m + 1 then A' 89 m + 1 else A' 89 i) = uI (A' 89) m (A' 89 m + 1) by
        funext i
        simp only [uI]
        by_cases c : i = m
        · rw [if_pos c, if_pos (by omega)]
        · rw [if_neg c, if_neg (by omega)]] at fill0
      have LOOP : ∀ (r : Nat) (k : Int) (x8 x9 : Option Value), k = m + r → k < n → V G mX11_loudest Q 0 0 201 [some (.ref 66), some (vi s), some (vi i), some (vl st.1), none, some (vi 1), some (vi x6), some (vi k), x8, x9] [] (sw F' A') := by
        intro r
        induction r with
        | zero =>
          intro k x8 x9 e1 e2
          have e : k = m := by omega
          subst e
          refine L_iload eX11_loudest_201 rfl ?_
          -- at 203: .ifCond .lt 20
          refine V_iflt eX11_loudest_203 (fun h2 => ?_) (fun h2 => ?_)
          · omega
          · refine L_aload_n eX11_loudest_206 rfl ?_
            refine L_getR (r := 89) eX11_loudest_207 f_X11_84.g rfl rfl (by decide) ?_
            refine L_iload eX11_loudest_210 rfl ?_
            refine L_iald eX11_loudest_212 rfl ?_
            refine V_iconst eX11_loudest_213 ?_
            -- at 214: .if_icmp .ne 9
            refine V_icmpne eX11_loudest_214 (fun h3 => ?_) (fun h3 => ?_)
            · refine L_iload eX11_loudest_223 rfl ?_
              -- at 225: .ifCond .lt 7
              refine V_iflt eX11_loudest_225 (fun h4 => ?_) (fun h4 => ?_)
              · omega
              · refine V_iconst eX11_loudest_228 ?_
                refine V_goto eX11_loudest_229 ?_
                refine L_istore eX11_loudest_233 (s_5 rfl rfl) ?_
                refine L_iload eX11_loudest_235 rfl ?_
                -- at 237: .ifCond .eq 49
                refine V_ifeq eX11_loudest_237 (fun h5 => ?_) (fun h5 => ?_)
                · omega
                · refine L_aload_n eX11_loudest_240 rfl ?_
                  refine L_getR (r := 89) eX11_loudest_241 f_X11_84.g rfl rfl (by decide) ?_
                  refine L_iload eX11_loudest_244 rfl ?_
                  refine L_dup2 eX11_loudest_246 ?_
                  refine L_iald eX11_loudest_247 rfl ?_
                  refine V_iconst eX11_loudest_248 ?_
                  refine V_iadd eX11_loudest_249 ?_
                  refine L_iast eX11_loudest_250 rfl ?_
                  refine L_iload eX11_loudest_251 rfl ?_
                  refine V_iconst eX11_loudest_253 ?_
                  refine V_iadd eX11_loudest_254 ?_
                  refine L_istore eX11_loudest_255 (s_8 rfl rfl) ?_
                  exact fill0 _
            · omega
        | succ r ih =>
          intro k x8 x9 e1 e2
          have q4 := mq k (by omega) (by omega)
          refine L_iload eX11_loudest_201 rfl ?_
          -- at 203: .ifCond .lt 20
          refine V_iflt eX11_loudest_203 (fun h2 => ?_) (fun h2 => ?_)
          · omega
          · refine L_aload_n eX11_loudest_206 rfl ?_
            refine L_getR (r := 89) eX11_loudest_207 f_X11_84.g rfl rfl (by decide) ?_
            refine L_iload eX11_loudest_210 rfl ?_
            refine L_iald eX11_loudest_212 rfl ?_
            refine V_iconst eX11_loudest_213 ?_
            -- at 214: .if_icmp .ne 9
            refine V_icmpne eX11_loudest_214 (fun h3 => ?_) (fun h3 => ?_)
            · omega
            · refine L_iinc eX11_loudest_217 rfl (s_7 rfl rfl) ?_
              refine V_goto eX11_loudest_220 ?_
              exact ih _ _ _ (by omega) (by omega)
      refine L_aload_n eX11_loudest_193 rfl ?_
      refine L_get eX11_loudest_194 f_X11_121.g rfl rfl ?_
      refine V_iconst eX11_loudest_197 ?_
      refine V_isub eX11_loudest_198 ?_
      refine L_istore eX11_loudest_199 (s_7 rfl rfl) ?_
      exact LOOP (n - 1 - m).toNat _ _ _ (by omega) (by omega)
end P90

