/-! WEAR: one THROW that is really thrown, told of PIECES and their WEAR alone -/
def wrW (f g : Int → Int) (j : Int) : Int → Int := fun i => if 0 ≤ i ∧ i < j then f i + g i else f i
theorem wrW_0 {f g : Int → Int} : wrW f g 0 = f := by
  funext i
  unfold wrW
  rw [if_neg (by omega)]
theorem wrW_s {f g : Int → Int} {j : Int} (hj : 0 ≤ j) : uI (wrW f g j) j (f j + g j) = wrW f g (j + 1) := by
  funext i
  simp only [uI, wrW]
  by_cases c : i = j
  · rw [if_pos c, if_pos (by omega), c]
  · rw [if_neg c]
    by_cases d : 0 ≤ i ∧ i < j
    · rw [if_pos d, if_pos (by omega)]
    · rw [if_neg d, if_neg (by omega)]
/-- how much is lost: r PIECES from i on are looked at -/
def lwV (W : Int → Int) (L n : Int) : Nat → Int → Int
  | 0, _ => 0
  | r + 1, i => if L ≤ W i then n - i else lwV W L n r (i + 1)
noncomputable def wrG (s : rS) (ST : Int → Int) (T : Nat) (i : Int) : Int := (sI (fun j => rt (mv s.1 s.2 (i + 1) (j + 1))) T * wrT (ST i)).tdiv 100
noncomputable def wstW (S ST wx wy : Int → Int) (len air fall : Int) (R : Nat) (g : Int) (T : Nat) (n : Nat) (W : Int → Int) : Int → Int := wrW W (wrG (tsS (wtF S ST) (bdF S ST) len air fall n R wx wy g T zr) ST T) n
noncomputable def wstG (S ST wx wy : Int → Int) (len air fall : Int) (R : Nat) (g : Int) (T : Nat) (L : Int) (n : Nat) (W : Int → Int) : Int := lwV (wstW S ST wx wy len air fall R g T n W) L n (n - 1) 1
noncomputable def cWs (F : fT) (A : nT) (n : Nat) (W : Int → Int) : Int → Int := wstW (A 3) (A 4) (A 7) (A 8) (F 2 1) (A 9 0) (A 9 1) (A 9 2).toNat (F 0 11) (F 6 0).toNat n W
noncomputable def cGn (F : fT) (A : nT) (n : Nat) (W : Int → Int) : Int := wstG (A 3) (A 4) (A 7) (A 8) (F 2 1) (A 9 0) (A 9 1) (A 9 2).toNat (F 0 11) (F 6 0).toNat (A 9 4) n W
theorem lwV_b {W : Int → Int} {L n : Int} : ∀ (r : Nat) (i : Int), i + r = n → 0 ≤ lwV W L n r i ∧ lwV W L n r i ≤ r := by
  intro r
  induction r with
  | zero => intro i _; exact ⟨Int.le_refl _, Int.le_refl _⟩
  | succ r ih =>
    intro i h
    rw [lwV]
    by_cases c : L ≤ W i
    · rw [if_pos c]; omega
    · rw [if_neg c]
      have := ih (i + 1) (by omega)
      omega
theorem lwV_lt {W : Int → Int} {L n : Int} : ∀ (r : Nat) (i : Int), i + r = n → ∀ j, i ≤ j → j < n - lwV W L n r i → W j < L := by
  intro r
  induction r with
  | zero => intro i h j a b; rw [lwV] at b; omega
  | succ r ih =>
    intro i h j a b
    rw [lwV] at b
    by_cases c : L ≤ W i
    · rw [if_pos c] at b; omega
    · rw [if_neg c] at b
      by_cases e : j = i
      · subst e; omega
      · exact ih (i + 1) (by omega) j (by omega) b
theorem wrT_b (s : Int) : 2 ≤ wrT s ∧ wrT s ≤ 9 := by
  unfold wrT
  by_cases a : s = 0
  · rw [if_pos a]; omega
  · rw [if_neg a]
    by_cases b : s = 1
    · rw [if_pos b]; omega
    · rw [if_neg b]
      by_cases c : s = 2
      · rw [if_pos c]; omega
      · rw [if_neg c]; omega
theorem path_b {s : rS} {T : Nat} {k : Int} (h : bA s) (hk : 0 ≤ k ∧ k ≤ 12) (hT : T ≤ 60) : 0 ≤ sI (fun j => rt (mv s.1 s.2 k (j + 1))) T ∧ sI (fun j => rt (mv s.1 s.2 k (j + 1))) T ≤ 24000000 := by
  have := sI_b2 (f := fun j => rt (mv s.1 s.2 k ((j : Int) + 1))) (B := 400000) T (fun j hj => by
    have := (mv_b (X := s.1) (Y := s.2) h hk (t := (j : Int) + 1) (by omega)).2.2.2.2.2.2
    omega)
  omega
theorem wrG_b {s : rS} {ST : Int → Int} {T : Nat} {i : Int} (h : bA s) (hi : 0 ≤ i ∧ i < 12) (hT : T ≤ 60) : (0 ≤ sI (fun j => rt (mv s.1 s.2 (i + 1) (j + 1))) T * wrT (ST i) ∧ sI (fun j => rt (mv s.1 s.2 (i + 1) (j + 1))) T * wrT (ST i) ≤ 216000000) ∧ 0 ≤ wrG s ST T i ∧ wrG s ST T i ≤ 2160000 := by
  have a := path_b h (k := i + 1) (by omega) hT
  have b := wrT_b (ST i)
  have c : 0 ≤ sI (fun j => rt (mv s.1 s.2 (i + 1) (j + 1))) T * wrT (ST i) := Int.mul_nonneg a.1 (by omega)
  have d : sI (fun j => rt (mv s.1 s.2 (i + 1) (j + 1))) T * wrT (ST i) ≤ 24000000 * 9 := Int.mul_le_mul a.2 b.2 (by omega) (by omega)
  unfold wrG
  rw [Int.tdiv_eq_ediv_of_nonneg c]
  omega
/-- the class's side alone -/
def Cv (F : fT) (A : nT) : Prop := (sOK F A 1) ∧ (10 ≤ F 0 11 ∧ F 0 11 ≤ 200) ∧ (F 0 17 = 0 ∨ F 0 17 = 1 ∧ flK F A) ∧ (bA (A 43, A 44))
theorem Cv.ok {F : fT} {A : nT} (h : Cv F A) : sOK F A 1 := h.1
theorem Cv.g {F : fT} {A : nT} (h : Cv F A) : 10 ≤ F 0 11 ∧ F 0 11 ≤ 200 := h.2.1
theorem Cv.fl {F : fT} {A : nT} (h : Cv F A) : F 0 17 = 0 ∨ F 0 17 = 1 ∧ flK F A := h.2.2.1
theorem Cv.b {F : fT} {A : nT} (h : Cv F A) : bA (A 43, A 44) := h.2.2.2
theorem Cv.mk {F : fT} {A : nT} (qok : sOK F A 1) (qg : 10 ≤ F 0 11 ∧ F 0 11 ≤ 200) (qfl : F 0 17 = 0 ∨ F 0 17 = 1 ∧ flK F A) (qb : bA (A 43, A 44)) : Cv F A := ⟨qok, qg, qfl, qb⟩
def kc (F : fT) (A : nT) (F' : fT) (A' : nT) : Prop := (∀ o k, (o ≠ 0 ∨ k ≠ 17) → o ≠ 42 → F' o k = F o k) ∧ ∀ o, o < 43 ∨ 46 < o → A' o = A o
section P84
variable {F F' : fT} {A A' : nT}
theorem kc.p (h : kc F A F' A') : kp F A F' A' := by
  refine ⟨fun o k e => ?_, fun o e => ?_⟩
  · have := kF_ne e
    exact h.1 o k (by omega) (by omega)
  · have := kA_ne e
    exact h.2 o (by omega)
theorem cv_theThrow (h : Cv F A) : ∃ F1 A1, (∀ G : gT, Mu G mX10_theThrow [.ref 0] F A (some (.ref 42)) F1 A1) ∧ Cv F1 A1 ∧ kc F A F1 A1 ∧ flK F1 A1 ∧ F1 0 17 = 1 := by
  rcases h.fl with e | ⟨e, hk⟩
  · have hok := h.ok
    have hn : 1 ≤ F 2 0 ∧ F 2 0 ≤ 12 := hok.n
    have hg := h.g
    have k1 : kc F A (uF (flF F 42 (F 2 0) (F 6 0) (A 9 3) (F 2 1)) 0 17 1) (flA F A 42 2 (F 0 11)) := by
      refine ⟨fun o k a b => ?_, fun o a => flA_o (by omega)⟩
      rw [uF_ne (by omega), flF_o (by omega)]
    have k3 := k1.p
    have hfl : flK (uF (flF F 42 (F 2 0) (F 6 0) (A 9 3) (F 2 1)) 0 17 1) (flA F A 42 2 (F 0 11)) := by
      refine flK.mk ?_ ?_ ?_ ?_ ?_ ?_
      · rw [k3.1 2 0 rfl, uF_ne (by decide), flF_0]
      · rw [k3.1 6 0 rfl, uF_ne (by decide), flF_1]
      · rw [k3.2 9 rfl, uF_ne (by decide), flF_2]
      · rw [k3.1 2 1 rfl, uF_ne (by decide), flF_3]
      · intro k a b
        rw [k3.1 2 0 rfl] at b
        rw [k3.2 3 rfl, k3.2 4 rfl, show flA F A 42 2 (F 0 11) 45 = _ from flA_3]
        exact wI_in a (by omega)
      · rw [k3.Qt, k3.Qn, k3.1 0 11 rfl, show flA F A 42 2 (F 0 11) 43 = _ from flA_1, show flA F A 42 2 (F 0 11) 44 = _ from flA_2]
        exact Iv.ag hok
    refine ⟨_, _, fun G => ?_, Cv.mk (k3.Qs hok) (by rw [k3.1 0 11 rfl]; exact hg) (Or.inr ⟨uF_eq, hfl⟩) ?_, k1, hfl, uF_eq⟩
    · refine L_ent [some (.ref 0)] rfl ?_
      refine L_aload_n eX10_theThrow_0 rfl ?_
      refine L_get eX10_theThrow_1 f_X10_93.g rfl rfl ?_
      -- at 4: .ifCond .ne 40
      refine V_ifne eX10_theThrow_4 (fun h2 => ?_) (fun h2 => ?_)
      · omega
      · refine L_aload_n eX10_theThrow_7 rfl ?_
        refine L_getR (r := 42) eX10_theThrow_8 f_X10_46.g rfl rfl (by decide) ?_
        refine L_aload_n eX10_theThrow_11 rfl ?_
        refine L_getR (r := 1) eX10_theThrow_12 f_X10_10.g rfl rfl (by decide) ?_
        refine L_getR (r := 2) eX10_theThrow_15 f_X10_112 rfl rfl (by decide) ?_
        refine L_aload_n eX10_theThrow_18 rfl ?_
        refine L_getR (r := 1) eX10_theThrow_19 f_X10_10.g rfl rfl (by decide) ?_
        refine L_getR (r := 6) eX10_theThrow_22 f_X10_130 rfl rfl (by decide) ?_
        refine L_aload_n eX10_theThrow_25 rfl ?_
        refine L_getR (r := 1) eX10_theThrow_26 f_X10_10.g rfl rfl (by decide) ?_
        refine L_getR (r := 9) eX10_theThrow_29 f_X10_166 rfl rfl (by decide) ?_
        refine L_aload_n eX10_theThrow_32 rfl ?_
        refine L_get eX10_theThrow_33 f_X10_74.g rfl rfl ?_
        refine C_v0 (p_X1_fly (Or.inl rfl) (Or.inl rfl) hg hok.c h.b) v_X10_255 eX10_theThrow_36 rfl rfl ?_
        refine L_aload_n eX10_theThrow_39 rfl ?_
        refine V_iconst eX10_theThrow_40 ?_
        refine L_putZ eX10_theThrow_41 f_X10_93 rfl rfl ?_
        refine L_aload_n eX10_theThrow_44 rfl ?_
        refine L_getR (r := 42) eX10_theThrow_45 f_X10_46.g rfl rfl (by decide) ?_
        -- at 48: .areturn
        exact V_areturn (Or.inl ⟨_, rfl⟩) eX10_theThrow_48 ⟨rfl, rfl⟩
    · rw [show flA F A 42 2 (F 0 11) 43 = _ from flA_1, show flA F A 42 2 (F 0 11) 44 = _ from flA_2]
      exact cTs_b hok.c hg h.b
  · refine ⟨F, A, fun G => ?_, h, ⟨fun _ _ _ _ => rfl, fun _ _ => rfl⟩, hk, e⟩
    refine L_ent [some (.ref 0)] rfl ?_
    refine L_aload_n eX10_theThrow_0 rfl ?_
    refine L_get eX10_theThrow_1 f_X10_93.g rfl rfl ?_
    -- at 4: .ifCond .ne 40
    refine V_ifne eX10_theThrow_4 (fun h2 => ?_) (fun h2 => ?_)
    · refine L_aload_n eX10_theThrow_44 rfl ?_
      refine L_getR (r := 42) eX10_theThrow_45 f_X10_46.g rfl rfl (by decide) ?_
      -- at 48: .areturn
      exact V_areturn (Or.inl ⟨_, rfl⟩) eX10_theThrow_48 ⟨rfl, rfl⟩
    · omega
/-- a PIECE that is worn through, and what is behind it -/
theorem p_X3_loseWorn {G : gT} {L : Int} {n : Nat} (h0 : F 2 0 = n) (hn : 1 ≤ n ∧ n ≤ 12) (hL : 1 ≤ L ∧ L ≤ 30000) (hw : ∀ i : Int, 1 ≤ i → i < n → 0 ≤ A 5 i ∧ A 5 i ≤ 3000000) : Mu G mX3_loseWorn [.ref 2, vi L] F A (some (vi (lwV (A 5) L n (n - 1) 1))) (uF F 2 0 (n - lwV (A 5) L n (n - 1) 1)) A := by
  refine L_ent [some (.ref 2), some (vi L), none, none] rfl ?_
  generalize hQ : (fun (r' : Option Value) (w : wT) => r' = some (vi (lwV (A 5) L n (n - 1) 1)) ∧ w = sw (uF F 2 0 (n - lwV (A 5) L n (n - 1) 1)) A) = Q
  refine V_iconst eX3_loseWorn_0 ?_
  refine L_istore_n eX3_loseWorn_1 (s_2 rfl rfl) ?_
  have LOOP : ∀ (r : Nat) (i : Int), i + r = n → 1 ≤ i → lwV (A 5) L n r i = lwV (A 5) L n (n - 1) 1 → V G mX3_loseWorn Q 0 0 2 [some (.ref 2), some (vi L), some (vi i), none] [] (sw F A) := by
    intro r
    induction r with
    | zero =>
      intro i e1 e2 e3
      refine L_iload_n eX3_loseWorn_2 rfl ?_
      refine L_aload_n eX3_loseWorn_3 rfl ?_
      refine L_get eX3_loseWorn_4 f_X3_9.g rfl rfl ?_
      -- at 7: .if_icmp .ge 33
      refine V_icmpge eX3_loseWorn_7 (fun h2 => ?_) (fun h2 => ?_)
      · refine V_iconst eX3_loseWorn_40 ?_
        -- at 41: .ireturn
        exact V_ireturn eX3_loseWorn_41 (by rw [← hQ, ← e3]; refine ⟨rfl, ?_⟩; rw [show lwV (A 5) L n 0 i = 0 from rfl, show (n : Int) - 0 = F 2 0 by omega, uF_self])
      · omega
    | succ r ih =>
      intro i e1 e2 e3
      have hwi := hw i e2 (by omega)
      have e4 : lwV (A 5) L n (r + 1) i = if L ≤ A 5 i then n - i else lwV (A 5) L n r (i + 1) := rfl
      rw [e4] at e3
      refine L_iload_n eX3_loseWorn_2 rfl ?_
      refine L_aload_n eX3_loseWorn_3 rfl ?_
      refine L_get eX3_loseWorn_4 f_X3_9.g rfl rfl ?_
      -- at 7: .if_icmp .ge 33
      refine V_icmpge eX3_loseWorn_7 (fun h2 => ?_) (fun h2 => ?_)
      · omega
      · refine L_aload_n eX3_loseWorn_10 rfl ?_
        refine L_getR (r := 5) eX3_loseWorn_11 f_X3_25.g rfl rfl (by decide) ?_
        refine L_iload_n eX3_loseWorn_14 rfl ?_
        refine L_iald eX3_loseWorn_15 rfl ?_
        refine L_iload_n eX3_loseWorn_16 rfl ?_
        -- at 17: .if_icmp .lt 17
        refine V_icmplt eX3_loseWorn_17 (fun h3 => ?_) (fun h3 => ?_)
        · rw [if_neg (by omega)] at e3
          refine L_iinc eX3_loseWorn_34 rfl (s_2 rfl rfl) ?_
          refine V_goto eX3_loseWorn_37 ?_
          exact ih _ (by omega) (by omega) e3
        · rw [if_pos (by omega)] at e3
          refine L_aload_n eX3_loseWorn_20 rfl ?_
          refine L_get eX3_loseWorn_21 f_X3_9.g rfl rfl ?_
          refine L_iload_n eX3_loseWorn_24 rfl ?_
          refine V_isub eX3_loseWorn_25 ?_
          refine L_istore_n eX3_loseWorn_26 (s_3 rfl rfl) ?_
          refine L_aload_n eX3_loseWorn_27 rfl ?_
          refine L_iload_n eX3_loseWorn_28 rfl ?_
          refine L_put eX3_loseWorn_29 f_X3_9 rfl rfl ?_
          refine L_iload_n eX3_loseWorn_32 rfl ?_
          -- at 33: .ireturn
          exact V_ireturn eX3_loseWorn_33 (by rw [← hQ, ← e3, h0]; refine ⟨rfl, ?_⟩; rw [show (n : Int) - (n - i) = i by omega])
  exact LOOP (n - 1) 1 (by omega) (by omega) rfl
/-- WEAR alone has changed -/
theorem kw_t (a : ∀ o, o ≠ 5 → o ≠ 69 → A' o = A o) {g : Int} {s : rS} : cTs F A' 2 g s = cTs F A 2 g s := by
  show tsS (wtF (A' 3) (A' 4)) (bdF (A' 3) (A' 4)) (F 2 1) (A' 9 0) (A' 9 1) (F 2 0).toNat (A' 9 2).toNat (A' 7) (A' 8) g (F 6 0).toNat s = tsS (wtF (A 3) (A 4)) (bdF (A 3) (A 4)) (F 2 1) (A 9 0) (A 9 1) (F 2 0).toNat (A 9 2).toNat (A 7) (A 8) g (F 6 0).toNat s
  rw [a 3 (by decide) (by decide), a 4 (by decide) (by decide), a 7 (by decide) (by decide), a 8 (by decide) (by decide), a 9 (by decide) (by decide)]
theorem kw_fl (a : ∀ o, o ≠ 5 → o ≠ 69 → A' o = A o) (h : flK F A) : flK F A' := by
  unfold flK at *
  rw [kw_t a, a 3 (by decide) (by decide), a 4 (by decide) (by decide), a 9 (by decide) (by decide), a 43 (by decide) (by decide), a 44 (by decide) (by decide), a 45 (by decide) (by decide)]
  exact h
theorem c_really (h : Cv F A) {n : Nat} (en : F 2 0 = n) (hn : 1 ≤ n ∧ n ≤ 12) : ∃ F2 A2, (∀ G : gT, Mu G mX10_throwReally [.ref 0] F A (some (vi (cGn F A n (A 5)))) F2 A2) ∧ Cv F2 A2 ∧ F2 2 0 = n - cGn F A n (A 5) ∧ A2 5 = cWs F A n (A 5) ∧ (∀ o k, (o ≠ 0 ∨ k ≠ 17) → o ≠ 42 → (o ≠ 2 ∨ k ≠ 0) → (o ≠ 52 ∨ k ≠ 0) → F2 o k = F o k) ∧ (∀ o, o ≠ 5 → o < 43 ∨ 46 < o → A2 o = A o) ∧ (cGn F A n (A 5) = 0 → F2 52 0 = F 52 0 ∧ F2 0 17 = 1) ∧ (0 < cGn F A n (A 5) → F2 52 0 = -1 ∧ F2 0 17 = 0) := by
  obtain ⟨F1, A1, hC, c1, k1, fk, e17⟩ := cv_theThrow h
  have kp1 := k1.p
  have hT : 1 ≤ F 6 0 ∧ F 6 0 ≤ 60 := h.ok.T
  obtain ⟨T, eT⟩ : ∃ T : Nat, F 6 0 = T := ⟨(F 6 0).toNat, by omega⟩
  have hna := kp1.na en eT
  have ag : agP (inI n T n) (A1 43, A1 44) (cTs F A 2 (F 0 11) zr) := by
    have ag := fk.ag
    unfold inN at ag
    rw [hna.1, hna.2, kp1.Qt, kp1.1 0 11 rfl] at ag
    exact ag
  have hbz : bA (cTs F A 2 (F 0 11) zr) := cTs_b h.ok.c h.g zr_b
  have epath : ∀ k : Int, 1 ≤ k → k ≤ n → sI (fun j => rt (mv (A1 43) (A1 44) k (j + 1))) T = sI (fun j => rt (mv (cTs F A 2 (F 0 11) zr).1 (cTs F A 2 (F 0 11) zr).2 k (j + 1))) T := fun k a b => sI_c T (fun j hj => by rw [mv_c (X' := (cTs F A 2 (F 0 11) zr).1) (Y' := (cTs F A 2 (F 0 11) zr).2) ag hn.2 (by omega) (by omega)])
  have hst : ∀ i : Int, 0 ≤ i → i < n → 0 ≤ A 4 i ∧ A 4 i < 4 := fun i a b => (h.ok.pl i a (by rw [show F (1 + 1) 0 = (n : Int) from en]; exact b)).2
  have eW : cWs F A n (A 5) = wrW (A 5) (wrG (cTs F A 2 (F 0 11) zr) (A 4) T) n := by
    unfold cWs wstW cTs
    rw [en, eT]
    rfl
  have eG : cGn F A n (A 5) = lwV (cWs F A n (A 5)) (A 9 4) n (n - 1) 1 := rfl
  have hLs : 1 ≤ A 9 4 ∧ A 9 4 ≤ 30000 := h.ok.lw.2.2.2.2
  have hwr : ∀ i : Int, 1 ≤ i → i < n → 0 ≤ cWs F A n (A 5) i ∧ cWs F A n (A 5) i ≤ 3000000 := fun i a b => by
    have h1 := h.ok.wr i a (by rw [show F (1 + 1) 0 = (n : Int) from en]; exact b)
    have h2 := (wrG_b (ST := A 4) (T := T) hbz (i := i) (by omega) (by omega)).2
    rw [eW]
    unfold wrW
    rw [if_pos (by omega)]
    have h3 : 0 ≤ A 5 i ∧ A 5 i ≤ 30000 := h1
    omega
  have hgb := lwV_b (W := cWs F A n (A 5)) (L := A 9 4) (n := n) (n - 1) 1 (by omega)
  rw [← eG] at hgb
  have hglt := lwV_lt (W := cWs F A n (A 5)) (L := A 9 4) (n := n) (n - 1) 1 (by omega)
  rw [← eG] at hglt
  -- the wear is added
  have loop : ∀ (G : gT) (Q : Option Value → wT → Prop), (∀ x3 : Option Value, V G mX10_throwReally Q 0 0 59 [some (.ref 0), some (.ref 42), some (.ref 2), x3] [] (sw F1 (sA A1 5 (cWs F A n (A 5))))) → V G mX10_throwReally Q 0 0 15 [some (.ref 0), some (.ref 42), some (.ref 2), some (vi 0)] [] (sw F1 A1) := by
    intro G Q fin
    have hA1 : A1 = sA A1 5 (wrW (A 5) (wrG (cTs F A 2 (F 0 11) zr) (A 4) T) 0) := by
      rw [wrW_0, ← k1.2 5 (by omega), sA_self]
    have LOOP : ∀ (r j : Nat) (i : Int), n < r + j → j ≤ n → i = j → V G mX10_throwReally Q 0 0 15 [some (.ref 0), some (.ref 42), some (.ref 2), some (vi i)] [] (sw F1 (sA A1 5 (wrW (A 5) (wrG (cTs F A 2 (F 0 11) zr) (A 4) T) i))) := by
      intro r
      induction r with
      | zero => intro j i e1 e2; omega
      | succ r ih =>
        intro j i e1 e2 ei
        refine L_iload_n eX10_throwReally_15 rfl ?_
        refine L_aload_n eX10_throwReally_16 rfl ?_
        refine L_get eX10_throwReally_17 f_X10_126.g rfl rfl ?_
        -- at 20: .if_icmp .ge 39
        refine V_icmpge eX10_throwReally_20 (fun h2 => ?_) (fun h2 => ?_)
        · have e : i = n := by omega
          subst e
          rw [← eW]
          exact fin _
        · have hi : 0 ≤ i ∧ i < n := by omega
          have hPa : Pu G mX1_pathOf [.ref 42, vi (i + 1)] F1 (sA A1 5 (wrW (A 5) (wrG (cTs F A 2 (F 0 11) zr) (A 4) T) i)) (vi (sI (fun j => rt (mv (cTs F A 2 (F 0 11) zr).1 (cTs F A 2 (F 0 11) zr).2 (i + 1) (j + 1))) T)) := by
            have := p_X1_pathOf (G := G) (F := F1) (A := sA A1 5 (wrW (A 5) (wrG (cTs F A 2 (F 0 11) zr) (A 4) T) i)) (f := 42) (T := T) (k := i + 1) (Or.inl rfl) (by rw [sA_ne (by decide), sA_ne (by decide)]; exact c1.b) (by rw [fk.T]; exact hna.2) (by omega) (by omega)
            rw [sA_ne (by decide), sA_ne (by decide), show A1 (42 + 1) = A1 43 from rfl, show A1 (42 + 2) = A1 44 from rfl, epath (i + 1) (by omega) (by omega)] at this
            exact this
          have hsi := hst i hi.1 hi.2
          have e4 : sA A1 5 (wrW (A 5) (wrG (cTs F A 2 (F 0 11) zr) (A 4) T) i) 4 = A 4 := by rw [sA_ne (by decide), k1.2 4 (by omega)]
          have hb := wrG_b (ST := A 4) (T := T) hbz (i := i) (by omega) (by omega)
          have hpb := path_b hbz (k := i + 1) (T := T) (by omega) (by omega)
          refine L_aload_n eX10_throwReally_23 rfl ?_
          refine L_getR (r := 5) eX10_throwReally_24 f_X10_157 rfl rfl (by decide) ?_
          refine L_iload_n eX10_throwReally_27 rfl ?_
          refine L_dup2 eX10_throwReally_28 ?_
          refine L_iald eX10_throwReally_29 rfl ?_
          refine L_aload_n eX10_throwReally_30 rfl ?_
          refine L_iload_n eX10_throwReally_31 rfl ?_
          refine V_iconst eX10_throwReally_32 ?_
          refine V_iadd eX10_throwReally_33 ?_
          refine C_v1 hPa v_X10_337 eX10_throwReally_34 rfl rfl ?_
          refine L_gets (j := 2) eX10_throwReally_37 z_X10_340 ?_
          refine L_aload_n eX10_throwReally_40 rfl ?_
          refine L_getR (r := 4) eX10_throwReally_41 f_X10_147 rfl rfl (by decide) ?_
          refine L_iload_n eX10_throwReally_44 rfl ?_
          refine L_ialdE eX10_throwReally_45 rfl e4 ?_
          refine L_ialdS (j := 2) eX10_throwReally_46 (by decide) ?_ (by show 0 ≤ _ ∧ _ < ((4 : Nat) : Int); omega)
          rw [wr_tab hsi]
          refine V_imul eX10_throwReally_47 ?_
          refine L_bipush eX10_throwReally_48 rfl ?_
          refine V_idiv eX10_throwReally_50 ?_
          refine V_iadd eX10_throwReally_51 ?_
          refine L_iast eX10_throwReally_52 rfl ?_
          refine L_iinc eX10_throwReally_53 rfl (s_3 rfl rfl) ?_
          refine V_goto eX10_throwReally_56 ?_
          simp only [sA_sA, sA_eq]
          rw [show wrW (A 5) (wrG (cTs F A 2 (F 0 11) zr) (A 4) T) i i = A 5 i from if_neg (by omega), show (sI (fun j => rt (mv (cTs F A 2 (F 0 11) zr).1 (cTs F A 2 (F 0 11) zr).2 (i + 1) (j + 1))) T * wrT (A 4 i)).tdiv 100 = wrG (cTs F A 2 (F 0 11) zr) (A 4) T i from rfl, wrW_s hi.1]
          exact ih (j + 1) _ (by omega) (by omega) (by omega)
    rw [hA1]
    exact LOOP (n + 1) 0 0 (by omega) (by omega) (by omega)
  have hLo : ∀ G : gT, Mu G mX3_loseWorn [.ref 2, vi (A 9 4)] F1 (sA A1 5 (cWs F A n (A 5))) (some (vi (cGn F A n (A 5)))) (uF F1 2 0 (n - cGn F A n (A 5))) (sA A1 5 (cWs F A n (A 5))) := fun G => by
    have := p_X3_loseWorn (G := G) (F := F1) (A := sA A1 5 (cWs F A n (A 5))) (L := A 9 4) (n := n) hna.1 hn hLs (by rw [sA_eq]; exact hwr)
    rw [sA_eq] at this
    exact this
  have e9 : sA A1 5 (cWs F A n (A 5)) 9 = A 9 := by rw [sA_ne (by decide), k1.2 9 (by omega)]
  have hfa : ∀ o, o ≠ 5 → o < 43 ∨ 46 < o → sA A1 5 (cWs F A n (A 5)) o = A o := fun o a b => by rw [sA_ne a, k1.2 o b]
  have hok2 : ∀ F2 : fT, F2 2 0 = n - cGn F A n (A 5) → F2 2 1 = F 2 1 → F2 6 0 = F 6 0 → sOK F2 (sA A1 5 (cWs F A n (A 5))) 1 := fun F2 f0 f1 f2 => by
    have hk := h.ok
    have g0 : F2 (1 + 1) 0 = n - cGn F A n (A 5) := f0
    have en' : F (1 + 1) 0 = (n : Int) := en
    refine sOK.mk ?_ ?_ ?_ ?_ ?_ ?_ ?_ ?_
    · rw [g0]; omega
    · rw [show F2 (1 + 1) 1 = F 2 1 from f1]; exact hk.len
    · rw [show F2 (1 + 5) 0 = F 6 0 from f2]; exact hk.T
    · intro i a b
      rw [g0] at b
      rw [hfa (1 + 2) (by decide) (by decide), hfa (1 + 3) (by decide) (by decide)]
      exact hk.pl i a (by omega)
    · rw [hfa (1 + 8) (by decide) (by decide)]; exact hk.lw
    · intro i a b
      rw [show F2 (1 + 5) 0 = F 6 0 from f2] at b
      rw [hfa (1 + 6) (by decide) (by decide), hfa (1 + 7) (by decide) (by decide)]
      exact hk.wy i a b
    · rw [hfa (1 + 6) (by decide) (by decide), hfa (1 + 7) (by decide) (by decide)]; exact hk.w0
    · intro i a b
      rw [g0] at b
      rw [show (1 + 4 : Nat) = 5 from rfl, sA_eq]
      have h1 := hwr i a (by omega)
      have h2 := hglt i a b
      omega
  have hb2 : bA (sA A1 5 (cWs F A n (A 5)) 43, sA A1 5 (cWs F A n (A 5)) 44) := by
    rw [sA_ne (by decide), sA_ne (by decide)]
    exact c1.b
  by_cases cg : cGn F A n (A 5) = 0
  · have eF : uF F1 2 0 (n - cGn F A n (A 5)) = F1 := by rw [cg, show (n : Int) - 0 = F1 2 0 by omega, uF_self]
    rw [eF] at hLo
    refine ⟨F1, sA A1 5 (cWs F A n (A 5)), fun G => ?_, Cv.mk (hok2 F1 (by omega) (k1.1 2 1 (by decide) (by decide)) (k1.1 6 0 (by decide) (by decide))) (by rw [k1.1 0 11 (by decide) (by decide)]; exact h.g) (Or.inr ⟨e17, kw_fl (fun o a _ => sA_ne a) fk⟩) hb2, by omega, sA_eq, fun o k a b _ _ => k1.1 o k a b, hfa, fun _ => ⟨k1.1 52 0 (by decide) (by decide), e17⟩, fun c => by omega⟩
    refine L_ent [some (.ref 0), none, none, none] rfl ?_
    refine L_aload_n eX10_throwReally_0 rfl ?_
    refine C_v1 (hC G) v_X10_195 eX10_throwReally_1 rfl rfl ?_
    refine L_astore_n eX10_throwReally_4 (s_1 rfl rfl) ?_
    refine L_aload_n eX10_throwReally_5 rfl ?_
    refine L_getR (r := 1) eX10_throwReally_6 f_X10_10.g rfl rfl (by decide) ?_
    refine L_getR (r := 2) eX10_throwReally_9 f_X10_112 rfl rfl (by decide) ?_
    refine L_astore_n eX10_throwReally_12 (s_2 rfl rfl) ?_
    refine V_iconst eX10_throwReally_13 ?_
    refine L_istore_n eX10_throwReally_14 (s_3 rfl rfl) ?_
    refine loop G _ (fun x3 => ?_)
    refine L_aload_n eX10_throwReally_59 rfl ?_
    refine L_aload_n eX10_throwReally_60 rfl ?_
    refine L_getR (r := 1) eX10_throwReally_61 f_X10_10.g rfl rfl (by decide) ?_
    refine L_getR (r := 9) eX10_throwReally_64 f_X10_166 rfl rfl (by decide) ?_
    refine V_iconst eX10_throwReally_67 ?_
    refine L_ialdE eX10_throwReally_68 rfl e9 ?_
    refine C_v1 (hLo G) v_X10_343 eX10_throwReally_69 rfl rfl ?_
    refine L_istore_n eX10_throwReally_72 (s_3 rfl rfl) ?_
    refine L_iload_n eX10_throwReally_73 rfl ?_
    -- at 74: .ifCond .le 7
    refine V_ifle eX10_throwReally_74 (fun h2 => ?_) (fun h2 => ?_)
    · refine L_iload_n eX10_throwReally_81 rfl ?_
      -- at 82: .ireturn
      exact V_ireturn eX10_throwReally_82 ⟨rfl, rfl⟩
    · omega
  · have cg2 : 0 < cGn F A n (A 5) := by omega
    refine ⟨uF (uF (uF F1 2 0 (n - cGn F A n (A 5))) 0 17 0) 52 0 (-1), sA A1 5 (cWs F A n (A 5)), fun G => ?_, Cv.mk (hok2 _ ?_ ?_ ?_) ?_ (Or.inl ?_) hb2, ?_, sA_eq, fun o k a b c d => ?_, hfa, fun c => absurd c cg, fun _ => ⟨?_, ?_⟩⟩
    · refine L_ent [some (.ref 0), none, none, none] rfl ?_
      refine L_aload_n eX10_throwReally_0 rfl ?_
      refine C_v1 (hC G) v_X10_195 eX10_throwReally_1 rfl rfl ?_
      refine L_astore_n eX10_throwReally_4 (s_1 rfl rfl) ?_
      refine L_aload_n eX10_throwReally_5 rfl ?_
      refine L_getR (r := 1) eX10_throwReally_6 f_X10_10.g rfl rfl (by decide) ?_
      refine L_getR (r := 2) eX10_throwReally_9 f_X10_112 rfl rfl (by decide) ?_
      refine L_astore_n eX10_throwReally_12 (s_2 rfl rfl) ?_
      refine V_iconst eX10_throwReally_13 ?_
      refine L_istore_n eX10_throwReally_14 (s_3 rfl rfl) ?_
      refine loop G _ (fun x3 => ?_)
      refine L_aload_n eX10_throwReally_59 rfl ?_
      refine L_aload_n eX10_throwReally_60 rfl ?_
      refine L_getR (r := 1) eX10_throwReally_61 f_X10_10.g rfl rfl (by decide) ?_
      refine L_getR (r := 9) eX10_throwReally_64 f_X10_166 rfl rfl (by decide) ?_
      refine V_iconst eX10_throwReally_67 ?_
      refine L_ialdE eX10_throwReally_68 rfl e9 ?_
      refine C_v1 (hLo G) v_X10_343 eX10_throwReally_69 rfl rfl ?_
      refine L_istore_n eX10_throwReally_72 (s_3 rfl rfl) ?_
      refine L_iload_n eX10_throwReally_73 rfl ?_
      -- at 74: .ifCond .le 7
      refine V_ifle eX10_throwReally_74 (fun h2 => ?_) (fun h2 => ?_)
      · omega
      · refine L_aload_n eX10_throwReally_77 rfl ?_
        refine C_v0 p_X10_setChanged v_X10_123 eX10_throwReally_78 rfl rfl ?_
        refine L_iload_n eX10_throwReally_81 rfl ?_
        -- at 82: .ireturn
        exact V_ireturn eX10_throwReally_82 ⟨rfl, rfl⟩
    · rw [uF_ne (by decide), uF_ne (by decide), uF_eq]
    · rw [uF_ne (by decide), uF_ne (by decide), uF_ne (by decide)]; exact k1.1 2 1 (by decide) (by decide)
    · rw [uF_ne (by decide), uF_ne (by decide), uF_ne (by decide)]; exact k1.1 6 0 (by decide) (by decide)
    · rw [uF_ne (by decide), uF_ne (by decide), uF_ne (by decide), k1.1 0 11 (by decide) (by decide)]; exact h.g
    · rw [uF_ne (by decide), uF_eq]
    · rw [uF_ne (by decide), uF_ne (by decide), uF_eq]
    · rw [uF_ne (by omega), uF_ne (by omega), uF_ne (by omega)]; exact k1.1 o k a b
    · rw [uF_eq]
    · rw [uF_ne (by decide), uF_eq]
end P84

