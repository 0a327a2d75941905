/-! WEAR: the reference's side alone -/
noncomputable def mWr (F : fT) (A : nT) (n : Nat) (W : Int → Int) : Int → Int := wstW (A 67) (A 68) (A 70) (A 71) (F 66 1) (A 72 0) (A 72 1) (A 72 2).toNat (F 66 10) (F 66 5).toNat n W
noncomputable def mGn (F : fT) (A : nT) (n : Nat) (W : Int → Int) : Int := wstG (A 67) (A 68) (A 70) (A 71) (F 66 1) (A 72 0) (A 72 1) (A 72 2).toNat (F 66 10) (F 66 5).toNat (A 72 4) n W
def Mv (F : fT) (A : nT) : Prop := (mOK F A) ∧ (10 ≤ F 66 10 ∧ F 66 10 ≤ 200) ∧ (∀ i : Int, 1 ≤ i → i < F 66 0 → 0 ≤ A 69 i ∧ A 69 i ≤ 30000) ∧ (F 66 40 = -1 ∨ (10 ≤ F 66 40 ∧ F 66 40 ≤ 200) ∧ agP (inI (F 66 0) (F 66 5) (F 66 0)) (A 84, A 85) (mTs F A (F 66 40) zr))
theorem Mv.ok {F : fT} {A : nT} (h : Mv F A) : mOK F A := h.1
theorem Mv.g {F : fT} {A : nT} (h : Mv F A) : 10 ≤ F 66 10 ∧ F 66 10 ≤ 200 := h.2.1
theorem Mv.wr {F : fT} {A : nT} (h : Mv F A) : ∀ i : Int, 1 ≤ i → i < F 66 0 → 0 ≤ A 69 i ∧ A 69 i ≤ 30000 := h.2.2.1
theorem Mv.ts {F : fT} {A : nT} (h : Mv F A) : F 66 40 = -1 ∨ (10 ≤ F 66 40 ∧ F 66 40 ≤ 200) ∧ agP (inI (F 66 0) (F 66 5) (F 66 0)) (A 84, A 85) (mTs F A (F 66 40) zr) := h.2.2.2
theorem Mv.mk {F : fT} {A : nT} (qok : mOK F A) (qg : 10 ≤ F 66 10 ∧ F 66 10 ≤ 200) (qwr : ∀ i : Int, 1 ≤ i → i < F 66 0 → 0 ≤ A 69 i ∧ A 69 i ≤ 30000) (qts : F 66 40 = -1 ∨ (10 ≤ F 66 40 ∧ F 66 40 ≤ 200) ∧ agP (inI (F 66 0) (F 66 5) (F 66 0)) (A 84, A 85) (mTs F A (F 66 40) zr)) : Mv F A := ⟨qok, qg, qwr, qts⟩
section P85
variable {F F' : fT} {A A' : nT}
theorem mTs_b {g : Int} {s : rS} (h : mOK F A) (hg : 10 ≤ g ∧ g ≤ 200) (hs : bA s) : bA (mTs F A g s) := by
  have hT := h.2.2.1
  have hw := h.2.2.2.2.2.1
  exact ts_b (R := (A 72 2).toNat) (T := (F 66 5).toNat) (wx := A 70) (wy := A 71) h.w hs (by omega) hg (fun t a b => hw t (by omega) (by omega)) (F 66 5).toNat (Nat.le_refl _)
theorem mTs_ag (h : mOK F A) {g : Int} {s s' : rS} : agP (inI (F 66 0) (F 66 5) (F 66 0)) (mTs F A g s) (mTs F A g s') := by
  have hn := h.1
  have hT := h.2.2.1
  have h := ag_ts (n := (F 66 0).toNat) (R := (A 72 2).toNat) (T := (F 66 5).toNat) (wt := wtF (A 67) (A 68)) (bd := bdF (A 67) (A 68)) (wx := A 70) (wy := A 71) (len := F 66 1) (air := A 72 0) (fall := A 72 1) (g := g) (s := s) (s' := s') (by omega)
  rw [show (((F 66 0).toNat : Nat) : Int) = F 66 0 by omega, show (((F 66 5).toNat : Nat) : Int) = F 66 5 by omega] at h
  exact h
theorem mv_toss (h : Mv F A) : ∃ F1 A1, (∀ G : gT, Mu G mX11_toss [.ref 66, vi (F 66 10)] F A none F1 A1) ∧ (∀ o k, (o ≠ 66 ∨ k ≠ 40) → F1 o k = F o k) ∧ (∀ o, o ≠ 84 → o ≠ 85 → A1 o = A o) ∧ F1 66 40 = F 66 10 ∧ bA (A1 84, A1 85) ∧ agP (inI (F 66 0) (F 66 5) (F 66 0)) (A1 84, A1 85) (mTs F A (F 66 10) zr) := by
  have hg := h.g
  have hm := h.ok
  by_cases he : F 66 40 = F 66 10
  · refine ⟨F, A, fun G => p_X11_toss_hit he hg, fun _ _ _ => rfl, fun _ _ _ => rfl, he, hm.2.2.2.2.2.2.1, ?_⟩
    rcases h.ts with e | ⟨-, e⟩
    · omega
    · rw [he] at e
      exact e
  · refine ⟨_, _, fun G => p_X11_toss_miss he hg hm, fun o k a => uF_ne a, fun o a b => s2_o (by omega), uF_eq, ?_, ?_⟩
    · rw [show s2 A 83 (mTs F A (F 66 10) (A 84, A 85)).1 (mTs F A (F 66 10) (A 84, A 85)).2 84 = (mTs F A (F 66 10) (A 84, A 85)).1 from s2_1, show s2 A 83 (mTs F A (F 66 10) (A 84, A 85)).1 (mTs F A (F 66 10) (A 84, A 85)).2 85 = (mTs F A (F 66 10) (A 84, A 85)).2 from s2_2]
      exact mTs_b hm hg hm.2.2.2.2.2.2.1
    · rw [show s2 A 83 (mTs F A (F 66 10) (A 84, A 85)).1 (mTs F A (F 66 10) (A 84, A 85)).2 84 = (mTs F A (F 66 10) (A 84, A 85)).1 from s2_1, show s2 A 83 (mTs F A (F 66 10) (A 84, A 85)).1 (mTs F A (F 66 10) (A 84, A 85)).2 85 = (mTs F A (F 66 10) (A 84, A 85)).2 from s2_2]
      exact mTs_ag hm
theorem mk_t (f1 : F' 66 1 = F 66 1) (f5 : F' 66 5 = F 66 5) (f0 : F' 66 0 = F 66 0) (a : ∀ o, 67 ≤ o → o ≤ 72 → o ≠ 69 → A' o = A o) {g : Int} {s : rS} : mTs F' A' g s = mTs F A g s := by
  unfold mTs
  rw [f1, f5, f0, a 67 (by decide) (by decide) (by decide), a 68 (by decide) (by decide) (by decide), a 70 (by decide) (by decide) (by decide), a 71 (by decide) (by decide) (by decide), a 72 (by decide) (by decide) (by decide)]
theorem m_wear (h : Mv F A) {n : Nat} (en : F 66 0 = n) : ∃ F2 A2, (∀ G : gT, Mu G mX11_wearOnce [.ref 66] F A (some (vi (mGn F A n (A 69)))) F2 A2) ∧ Mv F2 A2 ∧ F2 66 0 = n - mGn F A n (A 69) ∧ A2 69 = mWr F A n (A 69) ∧ (∀ o k, (o ≠ 66 ∨ k ≠ 40 ∧ k ≠ 0) → F2 o k = F o k) ∧ (∀ o, o ≠ 69 → o ≠ 84 → o ≠ 85 → A2 o = A o) ∧ (0 < mGn F A n (A 69) → F2 66 40 = -1) := by
  have hok := h.ok
  have hn : 1 ≤ n ∧ n ≤ 12 := by have := hok.1; omega
  have hTT := hok.2.2.1
  obtain ⟨T, eT⟩ : ∃ T : Nat, F 66 5 = T := ⟨(F 66 5).toNat, by omega⟩
  obtain ⟨F1, A1, hM, kf, ka, e40, hb1, ag⟩ := mv_toss h
  have hbz : bA (mTs F A (F 66 10) zr) := mTs_b hok h.g zr_b
  have ag1 : agP (inI n T n) (A1 84, A1 85) (mTs F A (F 66 10) zr) := by
    rw [en, eT] at ag
    exact ag
  have f0 : F1 66 0 = n := by rw [kf 66 0 (by decide)]; exact en
  have f5 : F1 66 5 = T := by rw [kf 66 5 (by decide)]; exact eT
  have hpl : plK n (A 67) (A 68) := by
    have := hok.2.2.2.1
    rw [en] at this
    exact this
  have eW : mWr F A n (A 69) = wrW (A 69) (wrG (mTs F A (F 66 10) zr) (A 68) T) n := by
    unfold mWr wstW mTs
    rw [en, eT]
    rfl
  have eG : mGn F A n (A 69) = lwV (mWr F A n (A 69)) (A 72 4) n (n - 1) 1 := rfl
  have hLs : 1 ≤ A 72 4 ∧ A 72 4 ≤ 30000 := hok.2.2.2.2.1.2.2.2.2
  have hwr : ∀ i : Int, 1 ≤ i → i < n → 0 ≤ mWr F A n (A 69) i ∧ mWr F A n (A 69) i ≤ 3000000 := fun i a b => by
    have h1 := h.wr i a (by omega)
    have h2 := (wrG_b (ST := A 68) (T := T) hbz (i := i) (by omega) (by omega)).2
    rw [eW]
    unfold wrW
    rw [if_pos (by omega)]
    omega
  have hgb := lwV_b (W := mWr F A n (A 69)) (L := A 72 4) (n := n) (n - 1) 1 (by omega)
  rw [← eG] at hgb
  have hglt := lwV_lt (W := mWr F A n (A 69)) (L := A 72 4) (n := n) (n - 1) 1 (by omega)
  rw [← eG] at hglt
  obtain ⟨t4, et4⟩ : ∃ t4 : Int, t4 = if 0 < mGn F A n (A 69) then -1 else F 66 10 := ⟨_, rfl⟩
  have hfa : ∀ o, o ≠ 69 → o ≠ 84 → o ≠ 85 → sA A1 69 (mWr F A n (A 69)) o = A o := fun o a b c => by rw [sA_ne a, ka o b c]
  refine ⟨uF (uF F1 66 0 (n - mGn F A n (A 69))) 66 40 t4, sA A1 69 (mWr F A n (A 69)), fun G => ?_, ?_, ?_, sA_eq, fun o k a => ?_, hfa, fun c => ?_⟩
  · refine L_ent [some (.ref 66), none, none, none, none, none] rfl ?_
    generalize hQ : (fun (r' : Option Value) (w : wT) => r' = some (vi (mGn F A n (A 69))) ∧ w = sw (uF (uF F1 66 0 (n - mGn F A n (A 69))) 66 40 t4) (sA A1 69 (mWr F A n (A 69)))) = Q
    have LOOP2 : ∀ (r q : Nat) (i : Int) (x3 x5 : Option Value), i = r → i + q + 1 = n → V G mX11_wearOnce Q 0 0 91 [some (.ref 66), some (vi (lwV (mWr F A n (A 69)) (A 72 4) n q (i + 1))), some (vi i), x3, none, x5] [] (sw F1 (sA A1 69 (mWr F A n (A 69)))) := by
      have e72 : sA A1 69 (mWr F A n (A 69)) 72 = A 72 := hfa 72 (by decide) (by decide) (by decide)
      intro r
      induction r with
      | zero =>
        intro q i x3 x5 ei eq
        have e0 : lwV (mWr F A n (A 69)) (A 72 4) n q (i + 1) = mGn F A n (A 69) := by
          rw [eG, show q = n - 1 by omega, show i + 1 = 1 by omega]
        rw [e0]
        have ee : uF F1 66 0 (F1 66 0 - mGn F A n (A 69)) = uF F1 66 0 (n - mGn F A n (A 69)) := by rw [f0]
        refine L_iload_n eX11_wearOnce_91 rfl ?_
        -- at 92: .ifCond .le 35
        refine V_ifle eX11_wearOnce_92 (fun h2 => ?_) (fun h2 => ?_)
        · refine L_aload_n eX11_wearOnce_127 rfl ?_
          refine L_dup eX11_wearOnce_128 ?_
          refine L_get eX11_wearOnce_129 f_X11_121.g rfl rfl ?_
          refine L_iload_n eX11_wearOnce_132 rfl ?_
          refine V_isub eX11_wearOnce_133 ?_
          refine L_put eX11_wearOnce_134 f_X11_121 rfl rfl ?_
          refine L_aload_n eX11_wearOnce_137 rfl ?_
          refine L_iload_n eX11_wearOnce_138 rfl ?_
          rw [ee]
          refine V_ifle eX11_wearOnce_139 (fun h3 => ?_) (fun h3 => ?_)
          · refine L_aload_n eX11_wearOnce_146 rfl ?_
            refine L_get eX11_wearOnce_147 f_X11_72.g rfl rfl ?_
            refine L_put eX11_wearOnce_150 f_X11_72 rfl rfl ?_
            refine L_iload_n eX11_wearOnce_153 rfl ?_
            exact V_ireturn eX11_wearOnce_154 (by rw [← hQ, et4, if_neg (by omega), uF_ne (by decide), e40]; exact ⟨rfl, rfl⟩)
          · refine V_iconst eX11_wearOnce_142 ?_
            refine V_goto eX11_wearOnce_143 ?_
            refine L_put eX11_wearOnce_150 f_X11_72 rfl rfl ?_
            refine L_iload_n eX11_wearOnce_153 rfl ?_
            exact V_ireturn eX11_wearOnce_154 (by rw [← hQ, et4, if_pos (by omega)]; exact ⟨rfl, rfl⟩)
        · omega
      | succ r ih =>
        intro q i x3 x5 ei eq
        have hwi := hwr i (by omega) (by omega)
        have e4 : lwV (mWr F A n (A 69)) (A 72 4) n (q + 1) i = if A 72 4 ≤ mWr F A n (A 69) i then n - i else lwV (mWr F A n (A 69)) (A 72 4) n q (i + 1) := rfl
        have ih2 := fun x3 x5 => ih (q + 1) (i + -1) x3 x5 (by omega) (by omega)
        rw [show i + -1 + 1 = i by omega, e4] at ih2
        refine L_iload_n eX11_wearOnce_91 rfl ?_
        -- at 92: .ifCond .le 35
        refine V_ifle eX11_wearOnce_92 (fun h2 => ?_) (fun h2 => ?_)
        · omega
        · refine L_aload_n eX11_wearOnce_95 rfl ?_
          refine L_getR (r := 69) eX11_wearOnce_96 f_X11_16.g rfl rfl (by decide) ?_
          refine L_iload_n eX11_wearOnce_99 rfl ?_
          refine L_ialdE eX11_wearOnce_100 rfl sA_eq ?_
          refine L_aload_n eX11_wearOnce_101 rfl ?_
          refine L_getR (r := 72) eX11_wearOnce_102 f_X11_25.g rfl rfl (by decide) ?_
          refine V_iconst eX11_wearOnce_105 ?_
          refine L_ialdE eX11_wearOnce_106 rfl e72 ?_
          refine V_icmplt eX11_wearOnce_107 (fun h3 => ?_) (fun h3 => ?_)
          · rw [if_neg (by omega)] at ih2
            refine L_iload_n eX11_wearOnce_119 rfl ?_
            refine L_istore_n eX11_wearOnce_120 (s_1 rfl rfl) ?_
            refine L_iinc eX11_wearOnce_121 rfl (s_2 rfl rfl) ?_
            refine V_goto eX11_wearOnce_124 ?_
            exact ih2 _ _
          · rw [if_pos (by omega)] at ih2
            refine L_aload_n eX11_wearOnce_110 rfl ?_
            refine L_get eX11_wearOnce_111 f_X11_121.g rfl rfl ?_
            refine L_iload_n eX11_wearOnce_114 rfl ?_
            refine V_isub eX11_wearOnce_115 ?_
            refine V_goto eX11_wearOnce_116 ?_
            rw [f0]
            refine L_istore_n eX11_wearOnce_120 (s_1 rfl rfl) ?_
            refine L_iinc eX11_wearOnce_121 rfl (s_2 rfl rfl) ?_
            refine V_goto eX11_wearOnce_124 ?_
            exact ih2 _ _
    have hA1 : A1 = sA A1 69 (wrW (A 69) (wrG (mTs F A (F 66 10) zr) (A 68) T) 0) := by
      rw [wrW_0, ← ka 69 (by decide) (by decide), sA_self]
    have LOOP : ∀ (r j : Nat) (i : Int) (x3 x5 : Option Value), n < r + j → j ≤ n → i = j → V G mX11_wearOnce Q 0 0 12 [some (.ref 66), some (vi 0), some (vi i), x3, none, x5] [] (sw F1 (sA A1 69 (wrW (A 69) (wrG (mTs F A (F 66 10) zr) (A 68) T) i))) := by
      intro r
      induction r with
      | zero => intro j i x3 x5 e1 e2; omega
      | succ r ih =>
        intro j i x3 x5 e1 e2 ei
        refine L_iload_n eX11_wearOnce_12 rfl ?_
        refine L_aload_n eX11_wearOnce_13 rfl ?_
        refine L_get eX11_wearOnce_14 f_X11_121.g rfl rfl ?_
        -- at 17: .if_icmp .ge 67
        refine V_icmpge eX11_wearOnce_17 (fun h2 => ?_) (fun h2 => ?_)
        · have e : i = n := by omega
          subst e
          rw [← eW]
          refine L_aload_n eX11_wearOnce_84 rfl ?_
          refine L_get eX11_wearOnce_85 f_X11_121.g rfl rfl ?_
          refine V_iconst eX11_wearOnce_88 ?_
          refine V_isub eX11_wearOnce_89 ?_
          refine L_istore_n eX11_wearOnce_90 (s_2 rfl rfl) ?_
          rw [f0]
          have := LOOP2 (n - 1) 0 ((n : Int) - 1) x3 x5 (by omega) (by omega)
          exact this
        · have hi : 0 ≤ i ∧ i < n := by omega
          obtain ⟨W, eWW⟩ : ∃ W, W = wrW (A 69) (wrG (mTs F A (F 66 10) zr) (A 68) T) i := ⟨_, rfl⟩
          have hb := wrG_b (ST := A 68) (T := T) hbz (i := i) (by omega) (by omega)
          have hpb := fun j (hj : j ≤ T) => path_b hbz (k := i + 1) (T := j) (by omega) (by omega)
          have hsi := (hpl i hi.1 hi.2).2
          have e68 : sA A1 69 W 68 = A 68 := by rw [sA_ne (by decide), ka 68 (by decide) (by decide)]
          have wii : W i = A 69 i := by rw [eWW]; exact if_neg (by omega)
          have nx : ∀ x5, V G mX11_wearOnce Q 0 0 52 [some (.ref 66), some (vi 0), some (vi i), some (vl (sI (fun j => rt (mv (mTs F A (F 66 10) zr).1 (mTs F A (F 66 10) zr).2 (i + 1) (j + 1))) T)), none, x5] [] (sw F1 (sA A1 69 W)) := by
            intro x5
            have hpT := hpb T (Nat.le_refl _)
            have hwT := wrT_b (A 68 i)
            refine L_aload_n eX11_wearOnce_52 rfl ?_
            refine L_getR (r := 69) eX11_wearOnce_53 f_X11_16.g rfl rfl (by decide) ?_
            refine L_iload_n eX11_wearOnce_56 rfl ?_
            refine L_dup2 eX11_wearOnce_57 ?_
            refine L_iald eX11_wearOnce_58 rfl ?_
            refine L_lload_n eX11_wearOnce_59 rfl ?_
            refine L_aload_n eX11_wearOnce_60 rfl ?_
            refine L_getR (r := 68) eX11_wearOnce_61 f_X11_13.g rfl rfl (by decide) ?_
            refine L_iload_n eX11_wearOnce_64 rfl ?_
            refine L_ialdE eX11_wearOnce_65 rfl e68 ?_
            refine C_s1 (p_X11_wears (by omega)) v_X11_404 eX11_wearOnce_66 rfl ?_
            refine V_i2l eX11_wearOnce_69 ?_
            refine V_lmul eX11_wearOnce_70 ?_
            refine L_ldc2 eX11_wearOnce_71 k_X11_407 ?_
            refine V_ldiv eX11_wearOnce_74 ?_
            refine V_l2i eX11_wearOnce_75 ?_
            refine V_iadd eX11_wearOnce_76 ?_
            refine L_iast eX11_wearOnce_77 rfl ?_
            refine L_iinc eX11_wearOnce_78 rfl (s_2 rfl rfl) ?_
            refine V_goto eX11_wearOnce_81 ?_
            simp only [sA_sA, sA_eq]
            rw [wii, show (sI (fun j => rt (mv (mTs F A (F 66 10) zr).1 (mTs F A (F 66 10) zr).2 (i + 1) (j + 1))) T * wrT (A 68 i)).tdiv 100 = wrG (mTs F A (F 66 10) zr) (A 68) T i from rfl, eWW, wrW_s hi.1]
            exact ih (j + 1) _ _ _ (by omega) (by omega) (by omega)
          have INN : ∀ (q m : Nat) (t : Int), T < q + m → m ≤ T → t = m + 1 → V G mX11_wearOnce Q 0 0 25 [some (.ref 66), some (vi 0), some (vi i), some (vl (sI (fun j => rt (mv (mTs F A (F 66 10) zr).1 (mTs F A (F 66 10) zr).2 (i + 1) (j + 1))) m)), none, some (vi t)] [] (sw F1 (sA A1 69 W)) := by
            intro q
            induction q with
            | zero => intro m t q1 q2; omega
            | succ q ihq =>
              intro m t q1 q2 et
              have hpm := hpb m q2
              refine L_iload eX11_wearOnce_25 rfl ?_
              refine L_aload_n eX11_wearOnce_27 rfl ?_
              refine L_get eX11_wearOnce_28 f_X11_127.g rfl rfl ?_
              -- at 31: .if_icmp .gt 21
              refine V_icmpgt eX11_wearOnce_31 (fun h3 => ?_) (fun h3 => ?_)
              · have e : m = T := by omega
                subst e
                exact nx _
              · subst et
                have hsp : Pu G mX11_speedOf [.ref 66, vi (i + 1), vi ((m : Int) + 1)] F1 (sA A1 69 W) (vl (rt (mv (mTs F A (F 66 10) zr).1 (mTs F A (F 66 10) zr).2 (i + 1) ((m : Int) + 1)))) := by
                  have := p_X11_speedOf (G := G) (F := F1) (A := sA A1 69 W) (k := i + 1) (t := (m : Int) + 1) (by rw [sA_ne (by decide), sA_ne (by decide)]; exact hb1) (by omega) (by omega)
                  rw [sA_ne (by decide), sA_ne (by decide), mv_c (X' := (mTs F A (F 66 10) zr).1) (Y' := (mTs F A (F 66 10) zr).2) ag1 hn.2 (by omega) (by omega)] at this
                  exact this
                refine L_lload_n eX11_wearOnce_34 rfl ?_
                refine L_aload_n eX11_wearOnce_35 rfl ?_
                refine L_iload_n eX11_wearOnce_36 rfl ?_
                refine V_iconst eX11_wearOnce_37 ?_
                refine V_iadd eX11_wearOnce_38 ?_
                refine L_iload eX11_wearOnce_39 rfl ?_
                refine C_v1 hsp v_X11_314 eX11_wearOnce_41 rfl rfl ?_
                refine V_ladd eX11_wearOnce_44 ?_
                refine L_lstore_n eX11_wearOnce_45 (t_3 rfl) ?_
                refine L_iinc eX11_wearOnce_46 rfl (s_5 rfl rfl) ?_
                refine V_goto eX11_wearOnce_49 ?_
                exact ihq (m + 1) _ (by omega) (by omega) (by omega)
          refine L_lconst0 eX11_wearOnce_20 ?_
          refine L_lstore_n eX11_wearOnce_21 (t_3 rfl) ?_
          refine V_iconst eX11_wearOnce_22 ?_
          refine L_istore eX11_wearOnce_23 (s_5 rfl rfl) ?_
          rw [← eWW]
          exact INN (T + 1) 0 1 (by omega) (by omega) (by omega)
    refine L_aload_n eX11_wearOnce_0 rfl ?_
    refine L_aload_n eX11_wearOnce_1 rfl ?_
    refine L_get eX11_wearOnce_2 f_X11_133.g rfl rfl ?_
    refine C_v0 (hM G) v_X11_311 eX11_wearOnce_5 rfl rfl ?_
    refine V_iconst eX11_wearOnce_8 ?_
    refine L_istore_n eX11_wearOnce_9 (s_1 rfl rfl) ?_
    refine V_iconst eX11_wearOnce_10 ?_
    refine L_istore_n eX11_wearOnce_11 (s_2 rfl rfl) ?_
    rw [hA1]
    exact LOOP (n + 1) 0 0 _ _ (by omega) (by omega) (by omega)
  · have g0 : uF (uF F1 66 0 (n - mGn F A n (A 69))) 66 40 t4 66 0 = n - mGn F A n (A 69) := by rw [uF_ne (by decide), uF_eq]
    have g1 : ∀ k, k ≠ 0 → k ≠ 40 → uF (uF F1 66 0 (n - mGn F A n (A 69))) 66 40 t4 66 k = F 66 k := fun k a b => by rw [uF_ne (by omega), uF_ne (by omega), kf 66 k (by omega)]
    have g40 : uF (uF F1 66 0 (n - mGn F A n (A 69))) 66 40 t4 66 40 = t4 := uF_eq
    have hg := h.g
    have ht4 : (0 < mGn F A n (A 69) ∧ t4 = -1) ∨ (mGn F A n (A 69) = 0 ∧ t4 = F 66 10) := by
      by_cases c : 0 < mGn F A n (A 69)
      · rw [if_pos c] at et4; omega
      · rw [if_neg c] at et4; omega
    have bb : bA (sA A1 69 (mWr F A n (A 69)) 84, sA A1 69 (mWr F A n (A 69)) 85) := by
      rw [sA_ne (by decide), sA_ne (by decide)]; exact hb1
    refine Mv.mk ⟨?_, ?_, ?_, ?_, ?_, ?_, bb, ?_, ?_⟩ ?_ ?_ ?_
    · rw [g0]; omega
    · rw [g1 1 (by decide) (by decide)]; exact hok.2.1
    · rw [g1 5 (by decide) (by decide)]; exact hok.2.2.1
    · rw [g0, hfa 67 (by decide) (by decide) (by decide), hfa 68 (by decide) (by decide) (by decide)]
      intro i a b
      exact hpl i a (by omega)
    · rw [hfa 72 (by decide) (by decide) (by decide)]; exact hok.2.2.2.2.1
    · rw [g1 5 (by decide) (by decide), hfa 70 (by decide) (by decide) (by decide), hfa 71 (by decide) (by decide) (by decide)]; exact hok.2.2.2.2.2.1
    · rw [g40]; omega
    · rw [g40]; omega
    · rw [g1 10 (by decide) (by decide)]; exact hg
    · intro i a b
      rw [g0] at b
      rw [sA_eq]
      have h1 := hwr i a (by omega)
      have h2 := hglt i a b
      omega
    · rw [g40]
      rcases ht4 with ⟨c, e⟩ | ⟨c, e⟩
      · exact Or.inl e
      · right
        refine ⟨by rw [e]; exact hg, ?_⟩
        rw [mk_t (F := F) (A := A) (g1 1 (by decide) (by decide)) (g1 5 (by decide) (by decide)) (by rw [g0, c, en]; omega) (fun o a b d => hfa o d (by omega) (by omega)), g0, g1 5 (by decide) (by decide), c, sA_ne (by decide), sA_ne (by decide), e, show (n : Int) - 0 = F 66 0 by omega]
        exact ag
  · rw [uF_ne (by decide), uF_eq]
  · rw [uF_ne (by omega), uF_ne (by omega), kf o k (by omega)]
  · rw [uF_eq, et4, if_pos c]
end P85

