section P38
variable {G : gT} {F : fT} {A : nT} {f p : Nat}
theorem p_X3_weightOf (hp : isPl p) {n k : Int} (hpl : plK n (A (p + 1)) (A (p + 2))) (hn : n ≤ 12) (hk : 1 ≤ k ∧ k ≤ n) : Pu G mX3_weightOf [.ref p, vi k] F A (vi (wtF (A (p + 1)) (A (p + 2)) k)) := by
  have h1 := hpl (k - 1) (by omega) (by omega)
  refine L_ent [some (.ref p), some (vi k)] rfl ?_
  refine L_aload_n eX3_weightOf_0 rfl ?_
  refine L_getR eX3_weightOf_1 f_X3_18.g hp.k hp.r2 (by omega) ?_
  refine L_iload_n eX3_weightOf_4 rfl ?_
  refine V_iconst eX3_weightOf_5 ?_
  refine V_isub eX3_weightOf_6 ?_
  refine L_iald eX3_weightOf_7 hp.k1 ?_
  refine L_getsN (j := 0) eX3_weightOf_8 z_X3_34 ?_
  refine L_aload_n eX3_weightOf_11 rfl ?_
  refine L_getR eX3_weightOf_12 f_X3_22.g hp.k hp.r3 (by omega) ?_
  refine L_iload_n eX3_weightOf_15 rfl ?_
  refine V_iconst eX3_weightOf_16 ?_
  refine V_isub eX3_weightOf_17 ?_
  refine L_iald eX3_weightOf_18 hp.k2 ?_
  refine L_ialdS (j := 0) eX3_weightOf_19 (by decide) ?_ (by show 0 ≤ _ ∧ _ < ((4 : Nat) : Int); omega)
  rw [hf_tab (by omega)]
  refine V_imul eX3_weightOf_20 ?_
  exact V_ireturn eX3_weightOf_21 ⟨rfl, rfl⟩
theorem p_X3_bendsOf (hp : isPl p) {n k : Int} (hpl : plK n (A (p + 1)) (A (p + 2))) (hn : n ≤ 12) (hk : 1 ≤ k ∧ k ≤ n) : Pu G mX3_bendsOf [.ref p, vi k] F A (vi (bdF (A (p + 1)) (A (p + 2)) k)) := by
  have h1 := hpl (k - 1) (by omega) (by omega)
  have h2 := st_m hpl hk
  refine L_ent [some (.ref p), some (vi k)] rfl ?_
  refine L_sipush eX3_bendsOf_0 rfl ?_
  refine L_aload_n eX3_bendsOf_3 rfl ?_
  refine L_getR eX3_bendsOf_4 f_X3_18.g hp.k hp.r2 (by omega) ?_
  refine L_iload_n eX3_bendsOf_7 rfl ?_
  refine V_iconst eX3_bendsOf_8 ?_
  refine V_isub eX3_bendsOf_9 ?_
  refine L_iald eX3_bendsOf_10 hp.k1 ?_
  refine L_getsN (j := 1) eX3_bendsOf_11 z_X3_37 ?_
  refine L_aload_n eX3_bendsOf_14 rfl ?_
  refine L_getR eX3_bendsOf_15 f_X3_22.g hp.k hp.r3 (by omega) ?_
  refine L_iload_n eX3_bendsOf_18 rfl ?_
  refine V_iconst eX3_bendsOf_19 ?_
  refine V_isub eX3_bendsOf_20 ?_
  refine L_iald eX3_bendsOf_21 hp.k2 ?_
  refine L_ialdS (j := 1) eX3_bendsOf_22 (by decide) ?_ (by show 0 ≤ _ ∧ _ < ((4 : Nat) : Int); omega)
  rw [st_tab (by omega)]
  refine V_imul eX3_bendsOf_23 ?_
  refine V_mmin v_X3_40 eX3_bendsOf_24 ?_
  exact V_ireturn eX3_bendsOf_27 ⟨rfl, rfl⟩
theorem apart {p f : Nat} (hp : isPl p) (hf : isFl f) : p ≠ f ∧ p + 1 ≠ f + 1 ∧ p + 1 ≠ f + 2 ∧ p + 1 ≠ f + 3 ∧ p + 1 ≠ f + 4 ∧ p + 2 ≠ f + 1 ∧ p + 2 ≠ f + 2 ∧ p + 2 ≠ f + 3 ∧ p + 2 ≠ f + 4 ∧ (9 ≠ f + 1 ∧ 9 ≠ f + 2 ∧ 9 ≠ f + 3 ∧ 9 ≠ f + 4 ∧ 7 ≠ f + 1 ∧ 7 ≠ f + 2 ∧ 7 ≠ f + 3 ∧ 7 ≠ f + 4 ∧ 8 ≠ f + 1 ∧ 8 ≠ f + 2 ∧ 8 ≠ f + 3 ∧ 8 ≠ f + 4 ∧ 6 ≠ f) := by
  unfold isPl at hp
  unfold isFl at hf
  omega
/-- a row laid over by v from 1 to n -/
def wI (w v : Int → Int) : Nat → Int → Int
  | 0 => w
  | n + 1 => uI (wI w v n) (n + 1) (v (n + 1))
theorem wI_in {w v : Int → Int} : ∀ {n : Nat} {k : Int}, 1 ≤ k → k ≤ n → wI w v n k = v k := by
  intro n
  induction n with
  | zero => intro k h1 h2; omega
  | succ n ih =>
    intro k h1 h2
    show uI _ _ _ k = _
    by_cases e : k = (n : Int) + 1
    · rw [e, uI_eq]
    · rw [uI_ne e]
      exact ih h1 (by omega)
/-- a Flight's fields as fly lays them -/
def flF (F : fT) (f : Nat) (pieces ticks pace len : Int) : fT := uF (uF (uF (uF F f 0 pieces) f 1 ticks) f 2 pace) f 3 len
theorem flF_0 {F : fT} {f : Nat} {a b c d : Int} : flF F f a b c d f 0 = a := by simp [flF, uF]
theorem flF_1 {F : fT} {f : Nat} {a b c d : Int} : flF F f a b c d f 1 = b := by simp [flF, uF]
theorem flF_2 {F : fT} {f : Nat} {a b c d : Int} : flF F f a b c d f 2 = c := by simp [flF, uF]
theorem flF_3 {F : fT} {f : Nat} {a b c d : Int} : flF F f a b c d f 3 = d := by simp [flF, uF]
theorem flF_o {F : fT} {f o k : Nat} {a b c d : Int} (h : o ≠ f) : flF F f a b c d o k = F o k := by simp [flF, uF, h]
/-- the class's THROW: PLAIT p, the WAY, the LAWS, GIVEN g, from rows s -/
def cTs (F : fT) (A : nT) (p : Nat) (g : Int) (s : rS) : rS := tsS (wtF (A (p + 1)) (A (p + 2))) (bdF (A (p + 1)) (A (p + 2))) (F p 1) (A 9 0) (A 9 1) (F p 0).toNat (A 9 2).toNat (A 7) (A 8) g (F 6 0).toNat s
/-- the rows of a Flight behind fly -/
def flA (F : fT) (A : nT) (f p : Nat) (g : Int) : nT := s2 (s2 A (f + 2) (wI (A (f + 3)) (wtF (A (p + 1)) (A (p + 2))) (F p 0).toNat) (wI (A (f + 4)) (bdF (A (p + 1)) (A (p + 2))) (F p 0).toNat)) f (cTs F A p g (A (f + 1), A (f + 2))).1 (cTs F A p g (A (f + 1), A (f + 2))).2
/-- what fly needs -/
def cOK (F : fT) (A : nT) (p : Nat) : Prop := (1 ≤ F p 0 ∧ F p 0 ≤ 12) ∧ (20 ≤ F p 1 ∧ F p 1 ≤ 200) ∧ (1 ≤ F 6 0 ∧ F 6 0 ≤ 60) ∧ plK (F p 0) (A (p + 1)) (A (p + 2)) ∧ lwK (A 9) ∧ ∀ t : Int, 0 ≤ t → t ≤ F 6 0 → ab 59940 (A 7 t) ∧ ab 59940 (A 8 t)
theorem cOK.w {F : fT} {A : nT} {p : Nat} (h : cOK F A p) : okW (wtF (A (p + 1)) (A (p + 2))) (bdF (A (p + 1)) (A (p + 2))) (F p 1) (A 9 0) (A 9 1) (F p 0).toNat := by
  obtain ⟨hn, hlen, hT, hp, hl, -⟩ := h
  obtain ⟨hl0, hl1, -⟩ := hl
  exact ⟨by omega, fun k h1 h2 => (wt_b hp (k := k) (by omega)).1, fun k h1 h2 => bd_b hp (k := k) (by omega), by omega, hl0.1, hl1⟩
theorem p_X1_fly (hf : isFl f) (hp : isPl p) {g : Int} (hg : 10 ≤ g ∧ g ≤ 200) (hc : cOK F A p) (hbA : bA (A (f + 1), A (f + 2))) : Mu G mX1_fly [.ref f, .ref p, .ref 6, .ref 9, vi g] F A none (flF F f (F p 0) (F 6 0) (A 9 3) (F p 1)) (flA F A f p g) := by
  have hap := apart hp hf
  have hW := hc.w
  have hWn := hW.1
  obtain ⟨hn, hlen, hT, hpl, hl, hwy⟩ := hc
  have hlk := hl
  obtain ⟨hl0, hl1, hl2, hl3, -⟩ := hl
  refine L_ent [some (.ref f), some (.ref p), some (.ref 6), some (.ref 9), some (vi g), none, none, none, none] rfl ?_
  generalize hQ : (fun (r' : Option Value) (w : wT) => r' = none ∧ w = sw (flF F f (F p 0) (F 6 0) (A 9 3) (F p 1)) (flA F A f p g)) = Q
  refine L_aload_n eX1_fly_0 rfl ?_
  refine L_aload_n eX1_fly_1 rfl ?_
  refine L_get eX1_fly_2 f_X1_37.g hp.k (hp.i (by decide)) ?_
  refine L_put eX1_fly_5 f_X1_9 hf.k (hf.i (by decide)) ?_
  refine L_aload_n eX1_fly_8 rfl ?_
  refine L_aload_n eX1_fly_9 rfl ?_
  refine L_getE (z := F 6 0) eX1_fly_10 f_X1_42.g rfl rfl (uF_ne (Or.inl (by omega))) ?_
  refine L_put eX1_fly_13 f_X1_15 hf.k (hf.i (by decide)) ?_
  refine L_aload_n eX1_fly_16 rfl ?_
  refine L_aload_n eX1_fly_17 rfl ?_
  refine V_iconst eX1_fly_18 ?_
  refine L_iald eX1_fly_19 rfl ?_
  refine L_put eX1_fly_20 f_X1_18 hf.k (hf.i (by decide)) ?_
  refine L_aload_n eX1_fly_23 rfl ?_
  refine L_aload_n eX1_fly_24 rfl ?_
  refine L_getE (z := F p 1) eX1_fly_25 f_X1_45.g hp.k (hp.i (by decide)) (by simp [uF, hap.1]) ?_
  refine L_put eX1_fly_28 f_X1_21 hf.k (hf.i (by decide)) ?_
  refine V_iconst eX1_fly_31 ?_
  refine L_istore eX1_fly_32 (s_5 rfl rfl) ?_
  have f0 := flF_0 (F := F) (f := f) (a := F p 0) (b := F 6 0) (c := A 9 3) (d := F p 1)
  have f1 := flF_1 (F := F) (f := f) (a := F p 0) (b := F 6 0) (c := A 9 3) (d := F p 1)
  have f3 := flF_3 (F := F) (f := f) (a := F p 0) (b := F 6 0) (c := A 9 3) (d := F p 1)
  change V G mX1_fly Q 0 0 34 _ _ (sw (flF F f (F p 0) (F 6 0) (A 9 3) (F p 1)) A)
  generalize hF1 : flF F f (F p 0) (F 6 0) (A 9 3) (F p 1) = F1 at hQ f0 f1 f3
  generalize hN : (F p 0).toNat = N at hW hWn
  generalize hNT : (F 6 0).toNat = NT
  generalize hR : (A 9 2).toNat = R
  generalize hwt : wtF (A (p + 1)) (A (p + 2)) = wt at hW
  generalize hbd : bdF (A (p + 1)) (A (p + 2)) = bd at hW
  have hNi : F p 0 = N := by omega
  have hpl2 : plK (N : Int) (A (p + 1)) (A (p + 2)) := by rw [← hNi]; exact hpl
  have hwb : ∀ k : Int, 1 ≤ k → k ≤ N → 1 ≤ wt k ∧ wt k ≤ 80 := fun k h1 h2 => by rw [← hwt]; exact wt_b hpl2 ⟨h1, h2⟩
  have hdb := hW.2.2.1
  have AFTER : ∀ A1 : nT, (∀ k : Int, 1 ≤ k → k ≤ N → A1 (f + 3) k = wt k) → (∀ k : Int, 1 ≤ k → k ≤ N → A1 (f + 4) k = bd k) → A1 9 = A 9 → A1 7 = A 7 → A1 8 = A 8 → A1 (f + 1) = A (f + 1) → A1 (f + 2) = A (f + 2) → (∀ w : wT, w = sw F1 (s2 A1 f (cTs F A p g (A (f + 1), A (f + 2))).1 (cTs F A p g (A (f + 1), A (f + 2))).2) → Q none w) → ∀ x5 x6 x7 x8 : Option Value, nc x5 = true → V G mX1_fly Q 0 0 75 [some (.ref f), some (.ref p), some (.ref 6), some (.ref 9), some (vi g), x5, x6, x7, x8] [] (sw F1 A1) := by
    intro A1 hA3 hA4 hA9 hA7 hA8 hA1 hA2 hfinal x5 x6 x7 x8 hx5
    have hw3 : ∀ k : Int, 1 ≤ k → k ≤ N → 1 ≤ A1 (f + 3) k ∧ A1 (f + 3) k ≤ 80 := fun k h1 h2 => by rw [hA3 k h1 h2]; exact hwb k h1 h2
    have hw4 : ∀ k : Int, 1 ≤ k → k ≤ N → 0 ≤ A1 (f + 4) k ∧ A1 (f + 4) k ≤ 500 := fun k h1 h2 => by rw [hA4 k h1 h2]; exact hdb k h1 h2
    have hW1 : okW (A1 (f + 3)) (A1 (f + 4)) (F1 f 3) (A 9 0) (A 9 1) N := ⟨hWn, fun k h1 h2 => (hw3 k h1 h2).1, hw4, by omega, hl0.1, hl1⟩
    have e90 : A1 9 0 = A 9 0 := by rw [hA9]
    have e91 : A1 9 1 = A 9 1 := by rw [hA9]
    have e92 : A1 9 2 = A 9 2 := by rw [hA9]
    refine V.eqw (w' := sw F1 (s2 A1 f (A (f + 1)) (A (f + 2)))) (by rw [← hA1, ← hA2, s2_self]) ?_
    have TICK : ∀ (r j : Nat) (t : Int) (x6 x7 x8 : Option Value), NT < r + j → j ≤ NT → t = j + 1 → V G mX1_fly Q 0 0 82 [some (.ref f), some (.ref p), some (.ref 6), some (.ref 9), some (vi g), some (vi t), x6, x7, x8] [] (sw F1 (s2 A1 f (it (fun j => tkS (A1 (f + 3)) (A1 (f + 4)) (F1 f 3) (A 9 0) (A 9 1) N R ((A 7 (j + 1) * g).tdiv 100) ((A 8 (j + 1) * g).tdiv 100) (j + 1)) j (rsS N (F1 f 3) (A (f + 1), A (f + 2)))).1 (it (fun j => tkS (A1 (f + 3)) (A1 (f + 4)) (F1 f 3) (A 9 0) (A 9 1) N R ((A 7 (j + 1) * g).tdiv 100) ((A 8 (j + 1) * g).tdiv 100) (j + 1)) j (rsS N (F1 f 3) (A (f + 1), A (f + 2)))).2)) := by
      intro r
      induction r with
      | zero => intro j t x6 x7 x8 h1 h2; omega
      | succ r ih =>
        intro j t x6 x7 x8 h1 h2 ht
        have hS := ts_b (R := R) hW1 hbA (T := NT) (by omega) hg (fun t a b => hwy t (by omega) (by omega)) j h2
        have hnext := fun (s : rS) (hs : s = it (fun j => tkS (A1 (f + 3)) (A1 (f + 4)) (F1 f 3) (A 9 0) (A 9 1) N R ((A 7 (j + 1) * g).tdiv 100) ((A 8 (j + 1) * g).tdiv 100) (j + 1)) j (rsS N (F1 f 3) (A (f + 1), A (f + 2)))) (x6 x7 x8 : Option Value) (hj : j + 1 ≤ NT) => (show V G mX1_fly Q 0 0 82 [some (.ref f), some (.ref p), some (.ref 6), some (.ref 9), some (vi g), some (vi (t + 1)), x6, x7, x8] [] (sw F1 (s2 A1 f (tkS (A1 (f + 3)) (A1 (f + 4)) (F1 f 3) (A 9 0) (A 9 1) N R ((A 7 t * g).tdiv 100) ((A 8 t * g).tdiv 100) t s).1 (tkS (A1 (f + 3)) (A1 (f + 4)) (F1 f 3) (A 9 0) (A 9 1) N R ((A 7 t * g).tdiv 100) ((A 8 t * g).tdiv 100) t s).2)) from by rw [ht, hs]; exact ih (j + 1) _ x6 x7 x8 (by omega) hj (by omega))
        have hfin : j = NT → it (fun j => tkS (A1 (f + 3)) (A1 (f + 4)) (F1 f 3) (A 9 0) (A 9 1) N R ((A 7 (j + 1) * g).tdiv 100) ((A 8 (j + 1) * g).tdiv 100) (j + 1)) j (rsS N (F1 f 3) (A (f + 1), A (f + 2))) = cTs F A p g (A (f + 1), A (f + 2)) := by
          intro e
          unfold cTs tsS
          rw [hN, hNT, hR, e, hwt, hbd, f3]
          exact it_cong NT _ (fun j s _ => tkS_wt hA3 hA4)
        generalize it (fun j => tkS (A1 (f + 3)) (A1 (f + 4)) (F1 f 3) (A 9 0) (A 9 1) N R ((A 7 (j + 1) * g).tdiv 100) ((A 8 (j + 1) * g).tdiv 100) (j + 1)) j (rsS N (F1 f 3) (A (f + 1), A (f + 2))) = s at hS hnext hfin
        have hnext := hnext s rfl
        refine L_iload eX1_fly_82 rfl ?_
        refine L_aload_n eX1_fly_84 rfl ?_
        refine L_get eX1_fly_85 f_X1_15.g hf.k (hf.i (by decide)) ?_
        -- at 88: .if_icmp .gt 113
        refine V_icmpgt eX1_fly_88 (fun h3 => ?_) (fun h3 => ?_)
        · rw [hfin (by omega)]
          exact V_return eX1_fly_201 (hfinal _ rfl)
        · have wy := hwy t (by omega) (by omega)
          obtain ⟨ux, ux1, ux2⟩ := hand_b wy.1 hg
          obtain ⟨uy, uy1, uy2⟩ := hand_b wy.2 hg
          have ht2 : 1 ≤ t ∧ t ≤ 60 := by omega
          refine L_iload eX1_fly_91 rfl ?_
          refine L_bipush eX1_fly_93 rfl ?_
          refine V_imul eX1_fly_95 ?_
          refine V.topi (Int.mul_comm t 13) ?_
          refine L_istore eX1_fly_96 (s_6 rfl rfl) ?_
          refine L_aload_n eX1_fly_98 rfl ?_
          refine L_getR eX1_fly_99 f_X1_24.g hf.k hf.r4 (by omega) ?_
          refine L_iload eX1_fly_102 rfl ?_
          refine L_aload_n eX1_fly_104 rfl ?_
          refine L_getR (r := 7) eX1_fly_105 f_X1_56 rfl rfl (by decide) ?_
          refine L_iload eX1_fly_108 rfl ?_
          refine Z_ialdo eX1_fly_110 rfl (by omega) ?_
          rw [hA7]
          refine L_iload eX1_fly_111 rfl ?_
          refine V_imul eX1_fly_113 ?_
          refine L_bipush eX1_fly_114 rfl ?_
          refine V_idiv eX1_fly_116 ?_
          refine Z_iast1 (f := f) eX1_fly_117 hf.k1 ?_
          refine L_aload_n eX1_fly_118 rfl ?_
          refine L_getR eX1_fly_119 f_X1_28.g hf.k hf.r5 (by omega) ?_
          refine L_iload eX1_fly_122 rfl ?_
          refine L_aload_n eX1_fly_124 rfl ?_
          refine L_getR (r := 8) eX1_fly_125 f_X1_57 rfl rfl (by decide) ?_
          refine L_iload eX1_fly_128 rfl ?_
          refine Z_ialdo eX1_fly_130 rfl (by omega) ?_
          rw [hA8]
          refine L_iload eX1_fly_131 rfl ?_
          refine V_imul eX1_fly_133 ?_
          refine L_bipush eX1_fly_134 rfl ?_
          refine V_idiv eX1_fly_136 ?_
          refine Z_iast2 (f := f) eX1_fly_137 hf.k2 ?_
          refine L_aload_n eX1_fly_138 rfl ?_
          refine L_iload eX1_fly_139 rfl ?_
          refine L_aload_n eX1_fly_141 rfl ?_
          refine V_iconst eX1_fly_142 ?_
          refine Z_ialdo eX1_fly_143 rfl (by omega) ?_
          refine L_aload_n eX1_fly_144 rfl ?_
          refine V_iconst eX1_fly_145 ?_
          refine Z_ialdo eX1_fly_146 rfl (by omega) ?_
          rw [e90, e91]
          obtain ⟨a1, a2, a3⟩ := hd_b (n := N) hS ht2 (by omega) ux uy
          obtain ⟨b1, b2, b3⟩ := g_b (wt := A1 (f + 3)) (air := A 9 0) (fall := A 9 1) a1 a2 a3 ht2 (by omega) hW1.2.1 hl0.1 hl1 N (Nat.le_refl _)
          obtain ⟨c1, c2, c3⟩ := b_b (bd := A1 (f + 4)) b1 b2 b3 (by omega) hw4 (N - 1) (Nat.le_refl _)
          have c2 := b_R hWn c2
          have rb := rd_b (wt := A1 (f + 3)) (len := F1 f 3) c1 c2 c3 (by omega) (by omega) hW1.2.1
          obtain ⟨d1, d2, d3⟩ := rb R
          refine C_v0 (p_X1_goOn hf (n := N) (by omega) hWn ht2 hw3 hl0 hl1 a1 a2) v_X1_58 eX1_fly_147 hf.k rfl ?_
          refine L_aload_n eX1_fly_150 rfl ?_
          refine L_iload eX1_fly_151 rfl ?_
          refine C_v0 (p_X1_bend hf (n := N) (by omega) hWn ht2 hw4 b1 b2) v_X1_62 eX1_fly_153 hf.k rfl ?_
          have EX : ∀ (i : Nat) (b q : Int), it (fun _ => pS (A1 (f + 3)) (F1 f 3) t N) i (bS (A1 (f + 4)) t N (gS (A1 (f + 3)) (A 9 0) (A 9 1) t N (hdS ((A 7 t * g).tdiv 100) ((A 8 t * g).tdiv 100) t s))) = rdS (A1 (f + 3)) (F1 f 3) t N R (bS (A1 (f + 4)) t N (gS (A1 (f + 3)) (A 9 0) (A 9 1) t N (hdS ((A 7 t * g).tdiv 100) ((A 8 t * g).tdiv 100) t s))) → V G mX1_fly Q 0 0 189 [some (.ref f), some (.ref p), some (.ref 6), some (.ref 9), some (vi g), some (vi t), some (vi (13 * t)), some (vi b), some (vi q)] [] (sw F1 (s2 A1 f (it (fun _ => pS (A1 (f + 3)) (F1 f 3) t N) i (bS (A1 (f + 4)) t N (gS (A1 (f + 3)) (A 9 0) (A 9 1) t N (hdS ((A 7 t * g).tdiv 100) ((A 8 t * g).tdiv 100) t s)))).1 (it (fun _ => pS (A1 (f + 3)) (F1 f 3) t N) i (bS (A1 (f + 4)) t N (gS (A1 (f + 3)) (A 9 0) (A 9 1) t N (hdS ((A 7 t * g).tdiv 100) ((A 8 t * g).tdiv 100) t s)))).2)) := by
            intro i b q e
            rw [e]
            refine L_aload_n eX1_fly_189 rfl ?_
            refine L_iload eX1_fly_190 rfl ?_
            refine C_v0 (p_X1_shorten hf (n := N) (by omega) hWn ht2 (by omega) d1 d2 d3 ux uy) v_X1_70 eX1_fly_192 hf.k rfl ?_
            refine L_iinc eX1_fly_195 rfl (s_5 rfl rfl) ?_
            refine V_goto eX1_fly_198 ?_
            exact hnext _ _ _ (by omega)
          have RL : ∀ (r i : Nat) (b q : Int), R < r + i → i ≤ R → q = i → (b = 1 ∨ b = 0 ∧ pS (A1 (f + 3)) (F1 f 3) t N (it (fun _ => pS (A1 (f + 3)) (F1 f 3) t N) i (bS (A1 (f + 4)) t N (gS (A1 (f + 3)) (A 9 0) (A 9 1) t N (hdS ((A 7 t * g).tdiv 100) ((A 8 t * g).tdiv 100) t s)))) = it (fun _ => pS (A1 (f + 3)) (F1 f 3) t N) i (bS (A1 (f + 4)) t N (gS (A1 (f + 3)) (A 9 0) (A 9 1) t N (hdS ((A 7 t * g).tdiv 100) ((A 8 t * g).tdiv 100) t s)))) → V G mX1_fly Q 0 0 162 [some (.ref f), some (.ref p), some (.ref 6), some (.ref 9), some (vi g), some (vi t), some (vi (13 * t)), some (vi b), some (vi q)] [] (sw F1 (s2 A1 f (it (fun _ => pS (A1 (f + 3)) (F1 f 3) t N) i (bS (A1 (f + 4)) t N (gS (A1 (f + 3)) (A 9 0) (A 9 1) t N (hdS ((A 7 t * g).tdiv 100) ((A 8 t * g).tdiv 100) t s)))).1 (it (fun _ => pS (A1 (f + 3)) (F1 f 3) t N) i (bS (A1 (f + 4)) t N (gS (A1 (f + 3)) (A 9 0) (A 9 1) t N (hdS ((A 7 t * g).tdiv 100) ((A 8 t * g).tdiv 100) t s)))).2)) := by
            intro r
            induction r with
            | zero => intro i b q g1 g2; omega
            | succ r ihr =>
              intro i b q g1 g2 gq gb
              obtain ⟨p1, p2, p3⟩ := rb i
              refine L_iload eX1_fly_162 rfl ?_
              refine L_aload_n eX1_fly_164 rfl ?_
              refine V_iconst eX1_fly_165 ?_
              refine Z_ialdo eX1_fly_166 rfl (by omega) ?_
              rw [e92]
              refine V_icmpge eX1_fly_167 (fun h4 => ?_) (fun h4 => ?_)
              · have ei : i = R := by omega
                subst ei
                exact EX i b q rfl
              · refine L_iload eX1_fly_170 rfl ?_
                -- at 172: .ifCond .eq 17
                refine V_ifeq eX1_fly_172 (fun h5 => ?_) (fun h5 => ?_)
                · refine EX i b q ?_
                  obtain ⟨-, e⟩ := gb.resolve_left (by omega)
                  unfold rdS
                  rw [show R = i + (R - i) by omega, it_add, it_fix e]
                · refine L_aload_n eX1_fly_175 rfl ?_
                  refine L_iload eX1_fly_176 rfl ?_
                  refine C_vq (p_X1_pull hf (n := N) (by omega) hWn ht2 hw3 (by omega) p1 p2) v_X1_66 eX1_fly_178 hf.k rfl (fun r w hq => ?_)
                  obtain ⟨rfl, b', rfl, hb'⟩ := hq
                  refine L_istore eX1_fly_181 (s_7 rfl rfl) ?_
                  refine L_iinc eX1_fly_183 rfl (s_8 rfl rfl) ?_
                  refine V_goto eX1_fly_186 ?_
                  refine ihr (i + 1) b' _ (by omega) (by omega) (by omega) ?_
                  rcases hb' with hb' | ⟨hb', e⟩
                  · exact Or.inl hb'
                  · refine Or.inr ⟨hb', ?_⟩
                    show pS (A1 (f + 3)) (F1 f 3) t N (pS (A1 (f + 3)) (F1 f 3) t N _) = pS (A1 (f + 3)) (F1 f 3) t N _
                    have e : pS (A1 (f + 3)) (F1 f 3) t N (it (fun _ => pS (A1 (f + 3)) (F1 f 3) t N) i (bS (A1 (f + 4)) t N (gS (A1 (f + 3)) (A 9 0) (A 9 1) t N (hdS ((A 7 t * g).tdiv 100) ((A 8 t * g).tdiv 100) t s)))) = it (fun _ => pS (A1 (f + 3)) (F1 f 3) t N) i (bS (A1 (f + 4)) t N (gS (A1 (f + 3)) (A 9 0) (A 9 1) t N (hdS ((A 7 t * g).tdiv 100) ((A 8 t * g).tdiv 100) t s))) := e
                    rw [e, e]
          refine V_iconst eX1_fly_156 ?_
          refine L_istore eX1_fly_157 (s_7 rfl rfl) ?_
          refine V_iconst eX1_fly_159 ?_
          refine L_istore eX1_fly_160 (s_8 rfl rfl) ?_
          exact RL (R + 1) 0 1 0 (by omega) (by omega) (by omega) (Or.inl rfl)
    refine L_aload_n eX1_fly_75 rfl ?_
    refine C_v0 (p_X1_rest hf (n := N) (by omega) (by omega)) v_X1_53 eX1_fly_76 hf.k rfl ?_
    refine V_iconst eX1_fly_79 ?_
    refine L_istore eX1_fly_80 (s_5 rfl rfl) ?_
    exact TICK (NT + 1) 0 1 _ _ _ (by omega) (by omega) (by omega)
  have WL : ∀ (r j : Nat) (k : Int), N < r + j → j ≤ N → k = j + 1 → V G mX1_fly Q 0 0 34 [some (.ref f), some (.ref p), some (.ref 6), some (.ref 9), some (vi g), some (vi k), none, none, none] [] (sw F1 (s2 A (f + 2) (wI (A (f + 3)) wt j) (wI (A (f + 4)) bd j))) := by
    intro r
    induction r with
    | zero => intro j k e1 e2; omega
    | succ r ih =>
      intro j k e1 e2 ek
      have q1 : ∀ X Y : Int → Int, s2 A (f + 2) X Y (p + 1) = A (p + 1) := fun X Y => s2_o (by omega)
      have q2 : ∀ X Y : Int → Int, s2 A (f + 2) X Y (p + 2) = A (p + 2) := fun X Y => s2_o (by omega)
      have mkw := fun (X Y : Int → Int) (h1 : 1 ≤ k ∧ k ≤ (N : Int)) => p_X3_weightOf (G := G) (F := F1) (A := s2 A (f + 2) X Y) hp (n := N) (k := k) (by rw [q1, q2]; exact hpl2) (by omega) h1
      have mkb := fun (X Y : Int → Int) (h1 : 1 ≤ k ∧ k ≤ (N : Int)) => p_X3_bendsOf (G := G) (F := F1) (A := s2 A (f + 2) X Y) hp (n := N) (k := k) (by rw [q1, q2]; exact hpl2) (by omega) h1
      simp only [q1, q2, hwt, hbd] at mkw mkb
      refine L_iload eX1_fly_34 rfl ?_
      refine L_aload_n eX1_fly_36 rfl ?_
      refine L_get eX1_fly_37 f_X1_9.g hf.k (hf.i (by decide)) ?_
      -- at 40: .if_icmp .gt 35
      refine V_icmpgt eX1_fly_40 (fun h4 => ?_) (fun h4 => ?_)
      · have ej : j = N := by omega
        subst ej
        refine AFTER _ (fun k h1 h2 => ?_) (fun k h1 h2 => ?_) (s2_o (by omega)) (s2_o (by omega)) (s2_o (by omega)) (s2_o (by omega)) (s2_o (by omega)) (fun w hw => ?_) _ _ _ _ rfl
        · rw [show f + 3 = f + 2 + 1 from rfl, s2_1]
          exact wI_in h1 h2
        · rw [show f + 4 = f + 2 + 2 from rfl, s2_2]
          exact wI_in h1 h2
        · rw [← hQ]
          refine ⟨rfl, ?_⟩
          rw [hw]
          unfold flA
          rw [hN, hwt, hbd]
      · refine L_aload_n eX1_fly_43 rfl ?_
        refine L_getR eX1_fly_44 f_X1_31.g hf.k hf.r6 (by omega) ?_
        refine L_iload eX1_fly_47 rfl ?_
        refine L_aload_n eX1_fly_49 rfl ?_
        refine L_iload eX1_fly_50 rfl ?_
        refine C_v1 (mkw _ _ (by omega)) v_X1_46 eX1_fly_52 hp.k rfl ?_
        refine Z_iast1 (f := f + 2) eX1_fly_55 hf.k3 ?_
        refine L_aload_n eX1_fly_56 rfl ?_
        refine L_getR eX1_fly_57 f_X1_34.g hf.k hf.r7 (by omega) ?_
        refine L_iload eX1_fly_60 rfl ?_
        refine L_aload_n eX1_fly_62 rfl ?_
        refine L_iload eX1_fly_63 rfl ?_
        refine C_v1 (mkb _ _ (by omega)) v_X1_50 eX1_fly_65 hp.k rfl ?_
        rw [ek]
        refine Z_iast2 (f := f + 2) eX1_fly_68 hf.k4 ?_
        refine L_iinc eX1_fly_69 rfl (s_5 rfl rfl) ?_
        refine V_goto eX1_fly_72 ?_
        exact ih (j + 1) _ (by omega) (by omega) (by omega)
  refine V.eqw (w' := sw F1 (s2 A (f + 2) (A (f + 3)) (A (f + 4)))) (by rw [show s2 A (f + 2) (A (f + 3)) (A (f + 4)) = A from s2_self]) ?_
  exact WL (N + 1) 0 1 (by omega) (by omega) (by omega)
end P38

