/-! what is behind the text doesn't matter -/
section P98l
variable {P : Int → Bool} {T T' : Int → Int} {n a q lo hi : Int} {sg : Bool} {j : Nat}
theorem rn_c (hE : ∀ i : Int, 0 ≤ i → i < n → T i = T' i) : ∀ (r : Nat) (p : Int), p + r = n → 0 ≤ p → rn P T n p = rn P T' n p := by
  intro r
  induction r with
  | zero => intro p e _; rw [rn_no (by omega), rn_no (by omega)]
  | succ r ih =>
    intro p e h
    have ep := hE p h (by omega)
    by_cases c : p < n ∧ P (T p) = true
    · rw [rn_go c, rn_go (T := T') (p := p) (by rw [← ep]; exact c)]
      exact ih (p + 1) (by omega) (by omega)
    · rw [rn_no c, rn_no (T := T') (p := p) (by rw [← ep]; exact c)]
theorem rn_cc (hE : ∀ i : Int, 0 ≤ i → i < n → T i = T' i) (h : 0 ≤ a ∧ a ≤ n) : rn P T n a = rn P T' n a := rn_c hE (n - a).toNat a (by omega) h.1
theorem chA_c (hE : ∀ i : Int, 0 ≤ i → i < n → T i = T' i) (h : 0 ≤ q) : chA T n q = chA T' n q := by
  unfold chA
  by_cases c : q < n
  · rw [if_pos c, if_pos c, hE q h c]
  · rw [if_neg c, if_neg c]
theorem dvl_c {p : Int} : ∀ k : Nat, (∀ i : Int, 0 ≤ i → i < k → T (p + i) = T' (p + i)) → dvl T p k = dvl T' p k := by
  intro k
  induction k with
  | zero => intro _; rfl
  | succ k ih =>
    intro h
    rw [dvl, dvl, ih (fun i x y => h i x (by omega)), h k (by omega) (by omega)]
theorem wm_c (hE : ∀ i : Int, 0 ≤ i → i < n → T i = T' i) (h : 0 ≤ q ∧ q ≤ n) : wm T n j q ↔ wm T' n j q := by
  have e : lrn T n q = lrn T' n q := rn_cc hE h
  have hb : q ≤ lrn T n q ∧ lrn T n q ≤ n := rn_ge h.2
  constructor
  · rintro ⟨x, y⟩
    refine ⟨by rw [← e]; exact x, fun k u v => ?_⟩
    rw [← hE (q + k) (by omega) (by omega)]
    exact y k u v
  · rintro ⟨x, y⟩
    refine ⟨by rw [e]; exact x, fun k u v => ?_⟩
    rw [hE (q + k) (by omega) (by omega)]
    exact y k u v
theorem nmR_c (hT : txT n T) (hE : ∀ i : Int, 0 ≤ i → i < n → T i = T' i) (h : 0 ≤ a ∧ a ≤ n) : nmR T n sg lo hi a = nmR T' n sg lo hi a := by
  have eq : skp T n a = skp T' n a := rn_cc hE h
  have hq : a ≤ skp T n a ∧ skp T n a ≤ n := rn_ge h.2
  unfold nmR
  rw [← eq]
  generalize skp T n a = q at *
  have ef : nmF T n sg q = nmF T' n sg q := by
    unfold nmF
    rw [chA_c hE (by omega)]
  have hf : q ≤ nmF T n sg q ∧ nmF T n sg q ≤ n := by
    have hc := chA_b (q := q) hT (by omega)
    unfold nmF
    by_cases w : sg = true ∧ chA T n q = 45
    · rw [if_pos w]
      have := hc.2.2 (by omega)
      omega
    · rw [if_neg w]; omega
  rw [← ef]
  generalize nmF T n sg q = f at *
  have ed : drn T n f = drn T' n f := rn_cc hE (by omega)
  have hd : f ≤ drn T n f ∧ drn T n f ≤ n := rn_ge hf.2
  have ev : nmV T n q f = nmV T' n q f := by
    unfold nmV
    rw [← ed, dvl_c (drn T n f - f).toNat (fun i x y => hE (f + i) (by omega) (by omega))]
  unfold nmG
  rw [← ed, ← ev]
theorem nmO_c (hT : txT n T) (hE : ∀ i : Int, 0 ≤ i → i < n → T i = T' i) (h : 0 ≤ a ∧ a ≤ n) : nmO T n sg lo hi a = nmO T' n sg lo hi a := by
  unfold nmO
  rw [nmR_c hT hE h]
theorem skp_c (hE : ∀ i : Int, 0 ≤ i → i < n → T i = T' i) (h : 0 ≤ a ∧ a ≤ n) : skp T n a = skp T' n a := rn_cc hE h
theorem wdO_c (hE : ∀ i : Int, 0 ≤ i → i < n → T i = T' i) (h : 0 ≤ a ∧ a ≤ n) : wdO T n j a = wdO T' n j a := by
  have hq : a ≤ skp T n a ∧ skp T n a ≤ n := rn_ge h.2
  have e := wm_c (j := j) (q := skp T n a) hE (by omega)
  unfold wdO
  rw [← skp_c hE h]
  by_cases w : wm T n j (skp T n a)
  · rw [if_pos w, if_pos (e.mp w)]
  · rw [if_neg w, if_neg (fun x => w (e.mpr x))]
theorem sgO_c {s : Int} (hE : ∀ i : Int, 0 ≤ i → i < n → T i = T' i) (h : 0 ≤ a ∧ a ≤ n) : sgO T n s a = sgO T' n s a := by
  have hq : a ≤ skp T n a ∧ skp T n a ≤ n := rn_ge h.2
  unfold sgO
  rw [← skp_c hE h, chA_c hE (by omega)]
theorem sfO_c (hT : txT n T) (hE : ∀ i : Int, 0 ≤ i → i < n → T i = T' i) (h : 0 ≤ a ∧ a ≤ n) : sfO T n a = sfO T' n a := by
  have hq : a ≤ skp T n a ∧ skp T n a ≤ n := rn_ge h.2
  have e := wm_c (j := 3) (q := skp T n a) hE (by omega)
  unfold sfO
  rw [← skp_c hE h]
  by_cases w : wm T n 3 (skp T n a)
  · have hw := ((wm_i (T := T) (n := n) (q := skp T n a) (j := 3) (by decide) (by omega)).mp w).1
    have e5 : (sLn.getD 3 0 : Int) = 5 := rfl
    rw [e5] at hw
    rw [if_pos w, if_pos (e.mp w), nmO_c hT hE (by omega)]
  · rw [if_neg w, if_neg (fun x => w (e.mpr x))]
theorem sf_ok {z : Int × Int} (hT : txT n T) (h : 0 ≤ a ∧ a ≤ n) (e : sfO T n a = .inr z) : a ≤ z.2 ∧ z.2 ≤ n := by
  have hq : a ≤ skp T n a ∧ skp T n a ≤ n := rn_ge h.2
  unfold sfO at e
  by_cases w : wm T n 3 (skp T n a)
  · have hw := ((wm_i (T := T) (n := n) (q := skp T n a) (j := 3) (by decide) (by omega)).mp w).1
    have e5 : (sLn.getD 3 0 : Int) = 5 := rfl
    rw [e5] at hw
    rw [if_pos w] at e
    have := nm_ok hT (by omega) (v := z.1) (e := z.2) e
    omega
  · rw [if_neg w] at e
    have := Sum.inr.inj e
    rw [← this]
    show a ≤ a ∧ a ≤ n
    omega
theorem pcO_c {L : List (Int × Int)} (hT : txT n T) (hE : ∀ i : Int, 0 ≤ i → i < n → T i = T' i) (h : 0 ≤ a ∧ a ≤ n) : pcO T n L a = pcO T' n L a := by
  unfold pcO
  rw [← nmO_c hT hE h, ← skp_c hE h]
  cases h1 : nmO T n false 1 12 a with
  | inl e => rfl
  | inr x =>
    have ok1 := nm_ok hT h (v := x.1) (e := x.2) h1
    show (if 12 < (L.length : Int) + x.1 then _ else _) = (if 12 < (L.length : Int) + x.1 then _ else _)
    by_cases c1 : 12 < (L.length : Int) + x.1
    · rw [if_pos c1, if_pos c1]
    · rw [if_neg c1, if_neg c1, ← wdO_c hE (show 0 ≤ x.2 ∧ x.2 ≤ n by omega)]
      by_cases w1 : wm T n 2 (skp T n x.2)
      · obtain ⟨ow, hw2, hw3⟩ := wd_ok (e := 0) (j := 2) (by decide) (show 0 ≤ x.2 ∧ x.2 ≤ n by omega) w1
        rw [ow]
        generalize skp T n x.2 + (sLn.getD 2 0 : Int) = a3 at *
        show bO' (nmO T n false 1 16 a3) _ = bO' (nmO T' n false 1 16 a3) _
        rw [← nmO_c hT hE (show 0 ≤ a3 ∧ a3 ≤ n by omega), ← skp_c hE (show 0 ≤ a3 ∧ a3 ≤ n by omega)]
        cases h3 : nmO T n false 1 16 a3 with
        | inl e => rfl
        | inr y =>
          have ok3 := nm_ok hT (by omega) (v := y.1) (e := y.2) h3
          show (if 0 < L.length ∧ lsS L < y.1 then _ else _) = (if 0 < L.length ∧ lsS L < y.1 then _ else _)
          by_cases c3 : 0 < L.length ∧ lsS L < y.1
          · rw [if_pos c3, if_pos c3]
          · rw [if_neg c3, if_neg c3, ← sfO_c hT hE (show 0 ≤ y.2 ∧ y.2 ≤ n by omega)]
            cases h4 : sfO T n y.2 with
            | inl e => rfl
            | inr z =>
              have ok4 := sf_ok hT (by omega) h4
              show bO' (sgO T n 59 z.2) _ = bO' (sgO T' n 59 z.2) _
              rw [sgO_c hE (by omega)]
      · rw [wd_no w1]
        rfl
theorem lnO_c {hl : Int} (hT : txT n T) (hE : ∀ i : Int, 0 ≤ i → i < n → T i = T' i) (h : 0 ≤ a ∧ a + 6 ≤ n) : lnO T n hl a = lnO T' n hl a := by
  unfold lnO
  by_cases c : hl = 1
  · rw [if_pos c, if_pos c]
  · rw [if_neg c, if_neg c, ← nmO_c hT hE (by omega)]
    cases h1 : nmO T n false 20 200 (a + 6) with
    | inl e => rfl
    | inr x =>
      have ok1 := nm_ok hT (by omega) (v := x.1) (e := x.2) h1
      show bO' (sgO T n 59 x.2) _ = bO' (sgO T' n 59 x.2) _
      rw [sgO_c hE (by omega)]
theorem clO_c {L : List (Int × Int)} {len hl : Int} (hT : txT n T) (hE : ∀ i : Int, 0 ≤ i → i < n → T i = T' i) (h : 0 ≤ q ∧ q ≤ n) : clO T n L len hl q = clO T' n L len hl q := by
  have e0 := wm_c (j := 0) hE h
  have e1 := wm_c (j := 1) hE h
  unfold clO
  by_cases w0 : wm T n 0 q
  · have hw := ((wm_i (T := T) (n := n) (q := q) (j := 0) (by decide) h).mp w0).1
    have e5 : (sLn.getD 0 0 : Int) = 5 := rfl
    rw [e5] at hw
    rw [if_pos w0, if_pos (e0.mp w0), pcO_c hT hE (by omega)]
  · rw [if_neg w0, if_neg (fun x => w0 (e0.mpr x))]
    by_cases w1 : wm T n 1 q
    · have hw := ((wm_i (T := T) (n := n) (q := q) (j := 1) (by decide) h).mp w1).1
      have e6 : (sLn.getD 1 0 : Int) = 6 := rfl
      rw [e6] at hw
      rw [if_pos w1, if_pos (e1.mp w1), lnO_c hT hE (by omega)]
    · rw [if_neg w1, if_neg (fun x => w1 (e1.mpr x))]
theorem bO_r {α β : Type} {x : α} {f : α → oT β} : bO' (.inr x) f = f x := rfl
theorem pc_ok {L : List (Int × Int)} {x : List (Int × Int) × Int} (hT : txT n T) (h : 0 ≤ a ∧ a ≤ n) (e : pcO T n L a = .inr x) : a ≤ x.2 ∧ x.2 ≤ n := by
  unfold pcO at e
  cases h1 : nmO T n false 1 12 a with
  | inl e' => rw [h1] at e; exact absurd e (by simp [bO'])
  | inr y =>
    rw [h1, bO_r] at e
    have ok1 := nm_ok hT h (v := y.1) (e := y.2) h1
    by_cases c1 : 12 < (L.length : Int) + y.1
    · rw [if_pos c1] at e; exact absurd e (by simp)
    · rw [if_neg c1] at e
      by_cases w1 : wm T n 2 (skp T n y.2)
      · obtain ⟨ow, hw2, hw3⟩ := wd_ok (e := 0) (j := 2) (by decide) (show 0 ≤ y.2 ∧ y.2 ≤ n by omega) w1
        rw [ow, bO_r] at e
        generalize skp T n y.2 + (sLn.getD 2 0 : Int) = a3 at *
        cases h3 : nmO T n false 1 16 a3 with
        | inl e' => rw [h3] at e; exact absurd e (by simp [bO'])
        | inr z =>
          rw [h3, bO_r] at e
          have ok3 := nm_ok hT (by omega) (v := z.1) (e := z.2) h3
          by_cases c3 : 0 < L.length ∧ lsS L < z.1
          · rw [if_pos c3] at e; exact absurd e (by simp)
          · rw [if_neg c3] at e
            cases h4 : sfO T n z.2 with
            | inl e' => rw [h4] at e; exact absurd e (by simp [bO'])
            | inr u =>
              rw [h4, bO_r] at e
              have ok4 := sf_ok hT (by omega) h4
              by_cases c4 : chA T n (skp T n u.2) = 59
              · obtain ⟨og, hg2, hg3⟩ := sg_ok (s := 59) (by omega) hT (show 0 ≤ u.2 ∧ u.2 ≤ n by omega) c4
                rw [og] at e
                have := Sum.inr.inj e
                rw [← this]
                show a ≤ skp T n u.2 + 1 ∧ skp T n u.2 + 1 ≤ n
                omega
              · rw [sg_no c4] at e
                exact absurd e (by simp [bO'])
      · rw [wd_no w1] at e
        exact absurd e (by simp [bO'])
theorem ln_ok {hl : Int} {x : Int × Int} (hT : txT n T) (h : 0 ≤ a ∧ a + 6 ≤ n) (e : lnO T n hl a = .inr x) : a ≤ x.2 ∧ x.2 ≤ n := by
  unfold lnO at e
  by_cases c : hl = 1
  · rw [if_pos c] at e; exact absurd e (by simp)
  · rw [if_neg c] at e
    cases h1 : nmO T n false 20 200 (a + 6) with
    | inl e' => rw [h1] at e; exact absurd e (by simp [bO'])
    | inr y =>
      rw [h1, bO_r] at e
      have ok1 := nm_ok hT (by omega) (v := y.1) (e := y.2) h1
      by_cases c4 : chA T n (skp T n y.2) = 59
      · obtain ⟨og, hg2, hg3⟩ := sg_ok (s := 59) (by omega) hT (show 0 ≤ y.2 ∧ y.2 ≤ n by omega) c4
        rw [og] at e
        have := Sum.inr.inj e
        rw [← this]
        show a ≤ skp T n y.2 + 1 ∧ skp T n y.2 + 1 ≤ n
        omega
      · rw [sg_no c4] at e
        exact absurd e (by simp [bO'])
theorem cl_ok {L : List (Int × Int)} {len hl : Int} {x : List (Int × Int) × Int × Int × Int} (hT : txT n T) (h : 0 ≤ q ∧ q ≤ n) (e : clO T n L len hl q = .inr x) : 0 ≤ x.2.2.2 ∧ x.2.2.2 ≤ n := by
  unfold clO at e
  by_cases w0 : wm T n 0 q
  · have hw := ((wm_i (T := T) (n := n) (q := q) (j := 0) (by decide) h).mp w0).1
    have e5 : (sLn.getD 0 0 : Int) = 5 := rfl
    rw [e5] at hw
    rw [if_pos w0] at e
    cases h1 : pcO T n L (q + 5) with
    | inl e' => rw [h1] at e; exact absurd e (by simp [bO'])
    | inr y =>
      rw [h1] at e
      have := pc_ok hT (by omega) h1
      have := Sum.inr.inj e
      rw [← this]
      show 0 ≤ y.2 ∧ y.2 ≤ n
      omega
  · rw [if_neg w0] at e
    by_cases w1 : wm T n 1 q
    · have hw := ((wm_i (T := T) (n := n) (q := q) (j := 1) (by decide) h).mp w1).1
      have e6 : (sLn.getD 1 0 : Int) = 6 := rfl
      rw [e6] at hw
      rw [if_pos w1] at e
      cases h1 : lnO T n hl q with
      | inl e' => rw [h1] at e; exact absurd e (by simp [bO'])
      | inr y =>
        rw [h1] at e
        have := ln_ok hT (by omega) h1
        have := Sum.inr.inj e
        rw [← this]
        show 0 ≤ y.2 ∧ y.2 ≤ n
        omega
    · rw [if_neg w1] at e
      exact absurd e (by simp)
theorem plO_c (hT : txT n T) (hE : ∀ i : Int, 0 ≤ i → i < n → T i = T' i) : ∀ (r : Nat) (L : List (Int × Int)) (len hl a : Int), 0 ≤ a ∧ a ≤ n → plO T n r L len hl a = plO T' n r L len hl a := by
  intro r
  induction r with
  | zero => intro L len hl a _; rfl
  | succ r ih =>
    intro L len hl a h
    have hq : a ≤ skp T n a ∧ skp T n a ≤ n := rn_ge h.2
    have es := skp_c hE h
    by_cases c : skp T n a < n
    · rw [plO_s c, plO_s (by rw [← es]; exact c), ← es, ← clO_c hT hE (by omega)]
      cases h1 : clO T n L len hl (skp T n a) with
      | inl e => rfl
      | inr x => exact ih _ _ _ _ (cl_ok hT (by omega) h1)
    · rw [plO_e c, plO_e (by rw [← es]; exact c)]
end P98l
section Q98l
variable {F : fT} {A : nT}
theorem p_X10_endReading {G : gT} : Mu G mX10_endReading [.ref 0] F A (some (vi (F 28 4))) (uF (uF F 0 16 (F 28 5)) 28 1 0) A := by
  refine L_ent [some (.ref 0)] rfl ?_
  refine L_aload_n eX10_endReading_0 rfl ?_
  refine L_aload_n eX10_endReading_1 rfl ?_
  refine L_getR (r := 28) eX10_endReading_2 f_X10_25.g rfl rfl (by decide) ?_
  refine L_get eX10_endReading_5 f_X10_318.g rfl rfl ?_
  refine L_put eX10_endReading_8 f_X10_90 rfl rfl ?_
  refine L_aload_n eX10_endReading_11 rfl ?_
  refine L_getR (r := 28) eX10_endReading_12 f_X10_25.g rfl rfl (by decide) ?_
  refine V_iconst eX10_endReading_15 ?_
  refine L_put eX10_endReading_16 f_X10_97 rfl rfl ?_
  refine L_aload_n eX10_endReading_19 rfl ?_
  refine L_getR (r := 28) eX10_endReading_20 f_X10_25.g rfl rfl (by decide) ?_
  refine L_get eX10_endReading_23 f_X10_319.g rfl rfl ?_
  exact V_ireturn eX10_endReading_26 ⟨by rw [uF_ne (by decide), uF_ne (by decide)], rfl⟩
theorem pw_plait (h : Iv F A) : Pw mX10_plait mX11_plait [] F A := by
  intro G
  have htx := h.tx
  have hT : txT (F 28 1) (A 29) := ⟨htx.2, fun i a b => (h.txb i a b).2⟩
  have hE : ∀ i : Int, 0 ≤ i → i < F 28 1 → A 29 i = A 73 i := fun i a b => (h.txb i a b).1.symm
  obtain ⟨n, en⟩ : ∃ n, F 28 1 = n := ⟨_, rfl⟩
  rw [en] at hT hE
  have hT' : txT n (A 73) := ⟨hT.1, fun i a b => by rw [← hE i a b]; exact hT.2 i a b⟩
  have ePl := plO_c hT hE 161 [] 50 0 0 (by have := hT.1; omega)
  cases hO : plO (A 29) n 161 [] 50 0 0 with
  | inl e =>
    refine ⟨(fun r w => ∃ F1 A1, r = some (vi (-10 - e.1)) ∧ w = sw F1 A1 ∧ ((∀ o k, (o ≠ 28 ∨ k < 1 ∨ 5 < k) → (o ≠ 31 ∨ 1 < k) → (o ≠ 30 ∨ k ≠ 1) → (o ≠ 0 ∨ k ≠ 16) → F1 o k = F o k) ∧ ∀ o, o < 32 ∨ 34 < o → A1 o = A o) ∧ F1 0 16 = e.2 ∧ F1 28 1 = 0 ∧ 1 ≤ e.1 ∧ e.1 ≤ 9), ?_, fun r w q => ?_⟩
    · refine L_ent [some (.ref 0), none] rfl ?_
      refine L_aload_n eX10_plait_0 rfl ?_
      refine L_getR (r := 30) eX10_plait_1 f_X10_32.g rfl rfl (by decide) ?_
      refine L_aload_n eX10_plait_4 rfl ?_
      refine L_getR (r := 28) eX10_plait_5 f_X10_25.g rfl rfl (by decide) ?_
      refine C_vq (c_read (G := G) hT en) v_X10_104 eX10_plait_8 rfl rfl (fun r' w' e' => ?_)
      obtain ⟨F1, A1, er, ew, fx, pk⟩ := e'
      subst er ew
      rw [hO] at pk
      obtain ⟨p1, p2, p3⟩ := pk
      refine L_aload_n eX10_plait_11 rfl ?_
      refine C_v1 p_X10_endReading v_X10_108 eX10_plait_12 rfl rfl ?_
      rw [p1, p2]
      refine L_istore_n eX10_plait_15 (s_1 rfl rfl) ?_
      refine L_iload_n eX10_plait_16 rfl ?_
      -- at 17: .ifCond .eq 8
      refine V_ifeq eX10_plait_17 (fun h2 => ?_) (fun h2 => ?_)
      · omega
      · refine L_bipush eX10_plait_20 rfl ?_
        refine L_iload_n eX10_plait_22 rfl ?_
        refine V_isub eX10_plait_23 ?_
        -- at 24: .ireturn
        exact V_ireturn eX10_plait_24 ⟨_, _, rfl, rfl, ⟨fun o k x y z u => by rw [uF_ne (by omega), uF_ne (by omega)]; exact fx.1 o k (by omega) y z, fx.2⟩, by rw [uF_ne (by decide), uF_eq], uF_eq, p3⟩
    · obtain ⟨F1, A1, er, ew, ⟨ff, fa⟩, g16, g28, g9⟩ := q
      have n1 : F1 66 16 = n := by rw [ff 66 16 (by decide) (by decide) (by decide) (by decide), htx.1]; exact en
      have a73 : A1 73 = A 73 := fa 73 (by decide)
      refine ⟨_, F1, A1, er, ew, ty_v, (fun r w => ∃ F2 A2, r = some (vi (-10 - e.1)) ∧ w = sw F2 A2 ∧ Iv F2 A2), ?_, fun r' w' e' => e'⟩
      refine L_ent [some (.ref 66), none, none] rfl ?_
      refine m_plait1 (by rw [a73]; exact hT') n1 (fun F2 A2 b f2 pk => ?_)
      rw [a73, ← ePl, hO] at pk
      obtain ⟨p1, p2, p3⟩ := pk
      have m20 : uF F2 66 16 0 66 20 = e.1 := by rw [uF_ne (by decide)]; exact p1
      refine L_aload_n eX11_plait_169 rfl ?_
      refine V_iconst eX11_plait_170 ?_
      refine L_put eX11_plait_171 f_X11_156 rfl rfl ?_
      refine L_aload_n eX11_plait_174 rfl ?_
      refine L_get eX11_plait_175 f_X11_164.g rfl rfl ?_
      -- at 178: .ifCond .le 11
      refine V_ifle eX11_plait_178 (fun h2 => ?_) (fun h2 => ?_)
      · omega
      · refine L_bipush eX11_plait_181 rfl ?_
        refine L_aload_n eX11_plait_183 rfl ?_
        refine L_get eX11_plait_184 f_X11_164.g rfl rfl ?_
        rw [m20]
        refine V_isub eX11_plait_187 ?_
        -- at 188: .ireturn
        exact V_ireturn eX11_plait_188 (by
          refine ⟨_, _, rfl, rfl, ?_⟩
          have gf : ∀ o k, (o ≠ 66 ∨ k < 16 ∨ 24 < k) → uF F2 66 16 0 o k = F1 o k := fun o k x => by rw [uF_ne (by omega)]; exact f2.1 o k (by omega)
          have gg : ∀ o k, (o ≠ 66 ∨ k < 16 ∨ 24 < k) → (o ≠ 28 ∨ k < 1 ∨ 5 < k) → (o ≠ 31 ∨ 1 < k) → (o ≠ 30 ∨ k ≠ 1) → (o ≠ 0 ∨ k ≠ 16) → uF F2 66 16 0 o k = F o k := fun o k x y z u v => by rw [gf o k x]; exact ff o k y z u v
          have ga : ∀ o, (o < 32 ∨ 34 < o) → (o < 74 ∨ 75 < o) → A2 o = A o := fun o x y => by rw [f2.2 o y]; exact fa o x
          refine h.fr ⟨fun o k q => ?_, fun o q => ?_⟩ ?_ ?_ ?_ ?_ ?_ ?_ ?_ ?_ ?_ ?_ ?_
          · have := kRF_in q
            exact gg o k (by omega) (by omega) (by omega) (by omega) (by omega)
          · have := kRA_in q
            exact ga o (by omega) (by omega)
          · rw [gg 66 11 (by decide) (by decide) (by decide) (by decide) (by decide), gg 66 12 (by decide) (by decide) (by decide) (by decide) (by decide), gg 0 12 (by decide) (by decide) (by decide) (by decide) (by decide), gg 0 13 (by decide) (by decide) (by decide) (by decide) (by decide)]; exact h.ear
          · rw [gg 66 13 (by decide) (by decide) (by decide) (by decide) (by decide), gg 66 14 (by decide) (by decide) (by decide) (by decide) (by decide), gg 0 14 (by decide) (by decide) (by decide) (by decide) (by decide), gg 0 15 (by decide) (by decide) (by decide) (by decide) (by decide)]; exact h.post
          · rw [gf 28 1 (by decide), g28, uF_eq]; omega
          · rw [gf 28 1 (by decide), g28]
            intro i x y
            omega
          · rw [uF_ne (by decide), p2, gf 0 16 (by decide), g16]
          · rw [gg 66 49 (by decide) (by decide) (by decide) (by decide) (by decide), gg 59 0 (by decide) (by decide) (by decide) (by decide) (by decide)]; exact h.hn
          · rw [gg 59 0 (by decide) (by decide) (by decide) (by decide) (by decide), ga 93 (by decide) (by decide), ga 60 (by decide) (by decide)]; exact h.hd
          · rw [gg 66 50 (by decide) (by decide) (by decide) (by decide) (by decide), gg 59 1 (by decide) (by decide) (by decide) (by decide) (by decide)]; exact h.cn
          · rw [gg 59 1 (by decide) (by decide) (by decide) (by decide) (by decide), ga 94 (by decide) (by decide), ga 61 (by decide) (by decide)]; exact h.ct
          · rw [gg 66 55 (by decide) (by decide) (by decide) (by decide) (by decide), gg 63 0 (by decide) (by decide) (by decide) (by decide) (by decide)]; exact h.fn
          · rw [gg 63 0 (by decide) (by decide) (by decide) (by decide) (by decide), ga 97 (by decide) (by decide), ga 98 (by decide) (by decide), ga 64 (by decide) (by decide), ga 65 (by decide) (by decide)]; exact h.fi)
  | inr x =>
    refine ⟨(fun r w => ∃ F1 A1, r = some (vi x.1.length) ∧ w = sw F1 A1 ∧ ((∀ o k, (o ≠ 28 ∨ k < 1 ∨ 5 < k) → (o ≠ 31 ∨ 1 < k) → (o ≠ 30 ∨ k ≠ 1) → (o ≠ 0 ∨ k ≠ 16 ∧ k ≠ 17) → (o ≠ 2 ∨ 1 < k) → (o ≠ 52 ∨ k ≠ 0) → F1 o k = F o k) ∧ ∀ o, (o < 32 ∨ 34 < o) → (o < 3 ∨ 5 < o) → A1 o = A o) ∧ (F1 0 16 = -1 ∧ F1 28 1 = 0 ∧ F1 0 17 = 0 ∧ F1 52 0 = -1) ∧ (F1 2 0 = x.1.length ∧ F1 2 1 = x.2) ∧ (∀ (i : Nat) (hi : i < x.1.length), A1 3 i = x.1[i].1 ∧ A1 4 i = x.1[i].2 ∧ A1 5 i = 0) ∧ (∀ (i : Nat) (hi : i < x.1.length), (1 ≤ x.1[i].1 ∧ x.1[i].1 ≤ 16) ∧ 0 ≤ x.1[i].2 ∧ x.1[i].2 < 4) ∧ (1 ≤ x.1.length ∧ x.1.length ≤ 12) ∧ 20 ≤ x.2 ∧ x.2 ≤ 200), ?_, fun r w q => ?_⟩
    · refine L_ent [some (.ref 0), none] rfl ?_
      refine L_aload_n eX10_plait_0 rfl ?_
      refine L_getR (r := 30) eX10_plait_1 f_X10_32.g rfl rfl (by decide) ?_
      refine L_aload_n eX10_plait_4 rfl ?_
      refine L_getR (r := 28) eX10_plait_5 f_X10_25.g rfl rfl (by decide) ?_
      refine C_vq (c_read (G := G) hT en) v_X10_104 eX10_plait_8 rfl rfl (fun r' w' e' => ?_)
      obtain ⟨F1, A1, er, ew, fx, pk⟩ := e'
      subst er ew
      rw [hO] at pk
      obtain ⟨p1, p2, p3, p4, p5, p6⟩ := pk
      have pn := p3.n
      have ple := p3.le
      refine L_aload_n eX10_plait_11 rfl ?_
      refine C_v1 p_X10_endReading v_X10_108 eX10_plait_12 rfl rfl ?_
      rw [p1, p2]
      obtain ⟨F2, eF2⟩ : ∃ F2, F2 = uF (uF F1 0 16 (-1)) 28 1 0 := ⟨_, rfl⟩
      rw [← eF2]
      have g2 : ∀ o k, (o ≠ 28 ∨ k ≠ 1) → (o ≠ 0 ∨ k ≠ 16) → F2 o k = F1 o k := fun o k y z => by rw [eF2, uF_ne (by omega), uF_ne (by omega)]
      have m31 : F2 31 0 = x.1.length := by rw [g2 31 0 (by decide) (by decide)]; exact pn
      have m311 : F2 31 1 = x.2 := by rw [g2 31 1 (by decide) (by decide)]; exact p4
      have hCp := p_X3_copyFrom (G := G) (F := F2) (A := A1) (p := 2) (q := 31) (Or.inl rfl) (by unfold isPl; omega) (by decide)
      rw [m31, m311] at hCp
      refine L_istore_n eX10_plait_15 (s_1 rfl rfl) ?_
      refine L_iload_n eX10_plait_16 rfl ?_
      -- at 17: .ifCond .eq 8
      refine V_ifeq eX10_plait_17 (fun h2 => ?_) (fun h2 => ?_)
      · refine L_aload_n eX10_plait_25 rfl ?_
        refine L_getR (r := 1) eX10_plait_26 f_X10_10.g rfl rfl (by decide) ?_
        refine L_getR (r := 2) eX10_plait_29 f_X10_112 rfl rfl (by decide) ?_
        refine L_aload_n eX10_plait_32 rfl ?_
        refine L_getR (r := 30) eX10_plait_33 f_X10_32.g rfl rfl (by decide) ?_
        refine L_getR (r := 31) eX10_plait_36 f_X10_116 rfl rfl (by decide) ?_
        refine C_v0 hCp v_X10_117 eX10_plait_39 rfl rfl ?_
        refine L_aload_n eX10_plait_42 rfl ?_
        refine C_v0 p_X10_setChanged v_X10_123 eX10_plait_43 rfl rfl ?_
        refine L_aload_n eX10_plait_46 rfl ?_
        refine L_getR (r := 1) eX10_plait_47 f_X10_10.g rfl rfl (by decide) ?_
        refine L_getR (r := 2) eX10_plait_50 f_X10_112 rfl rfl (by decide) ?_
        refine L_get eX10_plait_53 f_X10_126.g rfl rfl ?_
        have e20 : uF (uF (plF F2 2 x.1.length x.2) 0 17 0) 52 0 (-1) 2 0 = x.1.length := by
          unfold plF
          rw [uF_ne (by decide), uF_ne (by decide), uF_ne (by decide), uF_eq]
        rw [e20]
        exact V_ireturn eX10_plait_56 (by
          refine ⟨_, _, rfl, rfl, ⟨fun o k a1 a2 a3 a4 a5 a6 => ?_, fun o a1 a2 => ?_⟩, ⟨?_, ?_, ?_, ?_⟩, ⟨e20, ?_⟩, fun i hi => ?_, p3.b, ⟨by omega, ple⟩, p6⟩
          · unfold plF
            rw [uF_ne (by omega), uF_ne (by omega), uF_ne (by omega), uF_ne (by omega), g2 o k (by omega) (by omega)]
            exact fx.1 o k (by omega) a2 a3
          · unfold pcA
            rw [sA_ne (by omega), sA_ne (by omega), sA_ne (by omega)]
            exact fx.2 o a1
          · unfold plF
            rw [uF_ne (by decide), uF_ne (by decide), uF_ne (by decide), uF_ne (by decide), eF2, uF_ne (by decide), uF_eq]
          · unfold plF
            rw [uF_ne (by decide), uF_ne (by decide), uF_ne (by decide), uF_ne (by decide), eF2, uF_eq]
          · rw [uF_ne (by decide), uF_eq]
          · rw [uF_eq]
          · unfold plF
            rw [uF_ne (by decide), uF_ne (by decide), uF_eq]
          · have ps := p3.s i hi
            unfold pcA
            rw [sA_ne (by decide), sA_ne (by decide), show (3 : Nat) = 2 + 1 from rfl, sA_eq, sA_ne (by decide), show (4 : Nat) = 2 + 2 from rfl, sA_eq, show (5 : Nat) = 2 + 3 from rfl, sA_eq, cpI_o (n := 12) i (by omega) (by omega), cpI_o (n := 12) i (by omega) (by omega), cpI_o (n := 12) i (by omega) (by omega)]
            exact ps)
      · omega
    · obtain ⟨F1, A1, er, ew, ⟨ff, fa⟩, ⟨g16, g28, g17, g52⟩, ⟨g20, g21⟩, gs, gb, gn, gl⟩ := q
      have n1 : F1 66 16 = n := by rw [ff 66 16 (by decide) (by decide) (by decide) (by decide) (by decide) (by decide), htx.1]; exact en
      have a73 : A1 73 = A 73 := fa 73 (by decide) (by decide)
      refine ⟨_, F1, A1, er, ew, ty_v, (fun r w => ∃ F2 A2, r = some (vi x.1.length) ∧ w = sw F2 A2 ∧ Iv F2 A2), ?_, fun r' w' e' => e'⟩
      refine L_ent [some (.ref 66), none, none] rfl ?_
      refine m_plait1 (by rw [a73]; exact hT') n1 (fun F2 A2 b f2 pk => ?_)
      rw [a73, ← ePl, hO] at pk
      obtain ⟨p1, p2, p3, p4, p5, p6⟩ := pk
      have pn := p3.n
      generalize hQ : (fun (r : Option Value) (w : wT) => ∃ F2 A2, r = some (vi x.1.length) ∧ w = sw F2 A2 ∧ Iv F2 A2) = Q
      have m20 : uF F2 66 16 0 66 20 = 0 := by rw [uF_ne (by decide)]; exact p1
      obtain ⟨F3, eF3⟩ : ∃ F3, F3 = uF (uF (uF (uF F2 66 16 0) 66 40 (-1)) 66 0 x.1.length) 66 1 x.2 := ⟨_, rfl⟩
      have h3 : ∀ o k, (o ≠ 66 ∨ k ≠ 16 ∧ k ≠ 40 ∧ k ≠ 0 ∧ k ≠ 1) → F3 o k = F2 o k := fun o k y => by rw [eF3, uF_ne (by omega), uF_ne (by omega), uF_ne (by omega), uF_ne (by omega)]
      have h30 : F3 66 0 = x.1.length := by rw [eF3, uF_ne (by decide), uF_eq]
      have h31 : F3 66 1 = x.2 := by rw [eF3, uF_eq]
      have h340 : F3 66 40 = -1 := by rw [eF3, uF_ne (by decide), uF_ne (by decide), uF_eq]
      have h316 : F3 66 16 = 0 := by rw [eF3, uF_ne (by decide), uF_ne (by decide), uF_ne (by decide), uF_eq]
      have LOOP : ∀ (r i : Nat) (A3 : nT), i + r = x.1.length → (∀ o, (o < 67 ∨ 69 < o) → A3 o = A2 o) → (∀ (k : Nat) (hk : k < x.1.length), k < i → A3 67 k = x.1[k].1 ∧ A3 68 k = x.1[k].2 ∧ A3 69 k = 0) → V G mX11_plait Q 0 0 212 [some (.ref 66), some (vi b), some (vi (i : Int))] [] (sw F3 A3) := by
        intro r
        induction r with
        | zero =>
          intro i A3 e1 fa3 s3
          refine L_iload_n eX11_plait_212 rfl ?_
          refine L_aload_n eX11_plait_213 rfl ?_
          refine L_get eX11_plait_214 f_X11_121.g rfl rfl ?_
          -- at 217: .if_icmp .ge 40
          refine V_icmpge eX11_plait_217 (fun h4 => ?_) (fun h4 => ?_)
          · refine L_aload_n eX11_plait_257 rfl ?_
            refine L_get eX11_plait_258 f_X11_121.g rfl rfl ?_
            rw [h30]
            exact V_ireturn eX11_plait_261 (by
              rw [← hQ]
              refine ⟨F3, A3, rfl, rfl, ?_⟩
              have gg : ∀ o k, (o ≠ 66 ∨ (k ≠ 40 ∧ k ≠ 0 ∧ k ≠ 1 ∧ (k < 16 ∨ 24 < k))) → (o ≠ 28 ∨ k < 1 ∨ 5 < k) → (o ≠ 31 ∨ 1 < k) → (o ≠ 30 ∨ k ≠ 1) → (o ≠ 0 ∨ k ≠ 16 ∧ k ≠ 17) → (o ≠ 2 ∨ 1 < k) → (o ≠ 52 ∨ k ≠ 0) → F3 o k = F o k := fun o k a1 a2 a3 a4 a5 a6 a7 => by rw [h3 o k (by omega), f2.1 o k (by omega)]; exact ff o k a2 a3 a4 a5 a6 a7
              have gf : ∀ o k, o ≠ 66 → F3 o k = F1 o k := fun o k a1 => by rw [h3 o k (by omega), f2.1 o k (by omega)]
              have ga1 : ∀ o, (o < 67 ∨ 69 < o) → (o < 74 ∨ 75 < o) → A3 o = A1 o := fun o a1 a2 => by rw [fa3 o a1]; exact f2.2 o a2
              have ga : ∀ o, (o < 67 ∨ 69 < o) → (o < 74 ∨ 75 < o) → (o < 32 ∨ 34 < o) → (o < 3 ∨ 5 < o) → A3 o = A o := fun o a1 a2 a3 a4 => by rw [ga1 o a1 a2]; exact fa o a3 a4
              have hk := h.ok
              refine h.fs ⟨fun o k q => ?_, fun o q => ?_⟩ ?_ ?_ ?_ ?_ ?_ ?_ h340 ?_
              · have := kSF_in q
                exact gg o k (by omega) (by omega) (by omega) (by omega) (by omega) (by omega) (by omega)
              · have := kSA_in q
                exact ga o (by omega) (by omega) (by omega) (by omega)
              · have e2 : F3 (1 + 1) 0 = x.1.length := by rw [show (1 + 1 : Nat) = 2 from rfl, gf 2 0 (by decide)]; exact g20
                have e6 : F3 (1 + 5) 0 = F (1 + 5) 0 := gg 6 0 (by decide) (by decide) (by decide) (by decide) (by decide) (by decide) (by decide)
                refine sOK.mk ?_ ?_ ?_ ?_ ?_ ?_ ?_ ?_
                · rw [e2]; omega
                · rw [show (1 + 1 : Nat) = 2 from rfl, gf 2 1 (by decide), g21]; exact gl
                · rw [e6]; exact hk.T
                · rw [e2]
                  intro i a1 a2
                  obtain ⟨j, rfl⟩ : ∃ j : Nat, i = j := ⟨i.toNat, by omega⟩
                  have hj := gs j (by omega)
                  rw [show (1 + 2 : Nat) = 3 from rfl, show (1 + 3 : Nat) = 4 from rfl, ga1 3 (by decide) (by decide), ga1 4 (by decide) (by decide), hj.1, hj.2.1]
                  exact gb j (by omega)
                · rw [show (1 + 8 : Nat) = 9 from rfl, ga 9 (by decide) (by decide) (by decide) (by decide)]; exact hk.lw
                · rw [e6, show (1 + 6 : Nat) = 7 from rfl, show (1 + 7 : Nat) = 8 from rfl, ga 7 (by decide) (by decide) (by decide) (by decide), ga 8 (by decide) (by decide) (by decide) (by decide)]; exact hk.wy
                · rw [show (1 + 6 : Nat) = 7 from rfl, show (1 + 7 : Nat) = 8 from rfl, ga 7 (by decide) (by decide) (by decide) (by decide), ga 8 (by decide) (by decide) (by decide) (by decide)]; exact hk.w0
                · rw [e2]
                  intro i a1 a2
                  obtain ⟨j, rfl⟩ : ∃ j : Nat, i = j := ⟨i.toNat, by omega⟩
                  have hj := gs j (by omega)
                  rw [show (1 + 4 : Nat) = 5 from rfl, ga1 5 (by decide) (by decide), hj.2.2]
                  omega
              · have e2 : F3 2 0 = x.1.length := by rw [gf 2 0 (by decide)]; exact g20
                have e6 : F3 6 0 = F 6 0 := gg 6 0 (by decide) (by decide) (by decide) (by decide) (by decide) (by decide) (by decide)
                have hs := h.s
                refine eqS.mk ?_ ?_ ?_ ?_ ?_ ?_ ?_ ?_ ?_ ?_
                · rw [h30, e2]
                · rw [h31, gf 2 1 (by decide), g21]
                · rw [gg 66 5 (by decide) (by decide) (by decide) (by decide) (by decide) (by decide) (by decide), e6]; exact hs.T
                · rw [gg 66 6 (by decide) (by decide) (by decide) (by decide) (by decide) (by decide) (by decide), gg 6 1 (by decide) (by decide) (by decide) (by decide) (by decide) (by decide) (by decide)]; exact hs.cl
                · rw [e2]
                  intro i a1 a2
                  obtain ⟨j, rfl⟩ : ∃ j : Nat, i = j := ⟨i.toNat, by omega⟩
                  rw [(s3 j (by omega) (by omega)).1, ga1 3 (by decide) (by decide), (gs j (by omega)).1]
                · rw [e2]
                  intro i a1 a2
                  obtain ⟨j, rfl⟩ : ∃ j : Nat, i = j := ⟨i.toNat, by omega⟩
                  rw [(s3 j (by omega) (by omega)).2.1, ga1 4 (by decide) (by decide), (gs j (by omega)).2.1]
                · rw [e2]
                  intro i a1 a2
                  obtain ⟨j, rfl⟩ : ∃ j : Nat, i = j := ⟨i.toNat, by omega⟩
                  rw [(s3 j (by omega) (by omega)).2.2, ga1 5 (by decide) (by decide), (gs j (by omega)).2.2]
                · rw [e6, ga 70 (by decide) (by decide) (by decide) (by decide), ga 7 (by decide) (by decide) (by decide) (by decide)]; exact hs.wx
                · rw [e6, ga 71 (by decide) (by decide) (by decide) (by decide), ga 8 (by decide) (by decide) (by decide) (by decide)]; exact hs.wy
                · rw [ga 72 (by decide) (by decide) (by decide) (by decide), ga 9 (by decide) (by decide) (by decide) (by decide)]; exact hs.lw
              · rw [h316, gf 28 1 (by decide), g28]; omega
              · rw [gf 28 1 (by decide), g28]
                intro i a1 a2
                omega
              · rw [h3 66 21 (by decide), p2, gf 0 16 (by decide), g16]
              · rw [gf 0 17 (by decide)]; exact g17
              · rw [gf 52 0 (by decide)]; exact g52)
          · omega
        | succ r ih =>
          intro i A3 e1 fa3 s3
          have hi : i < x.1.length := by omega
          have ps := p3.s i hi
          have r74 : A3 74 i = x.1[i].1 := by rw [fa3 74 (by decide)]; exact ps.1
          have r75 : A3 75 i = x.1[i].2 := by rw [fa3 75 (by decide)]; exact ps.2
          refine L_iload_n eX11_plait_212 rfl ?_
          refine L_aload_n eX11_plait_213 rfl ?_
          refine L_get eX11_plait_214 f_X11_121.g rfl rfl ?_
          -- at 217: .if_icmp .ge 40
          refine V_icmpge eX11_plait_217 (fun h4 => ?_) (fun h4 => ?_)
          · omega
          · refine L_aload_n eX11_plait_220 rfl ?_
            refine L_getR (r := 67) eX11_plait_221 f_X11_7.g rfl rfl (by decide) ?_
            refine L_iload_n eX11_plait_224 rfl ?_
            refine L_aload_n eX11_plait_225 rfl ?_
            refine L_getR (r := 74) eX11_plait_226 f_X11_35.g rfl rfl (by decide) ?_
            refine L_iload_n eX11_plait_229 rfl ?_
            refine L_iald eX11_plait_230 rfl ?_
            refine L_iast eX11_plait_231 rfl ?_
            refine L_aload_n eX11_plait_232 rfl ?_
            refine L_getR (r := 68) eX11_plait_233 f_X11_13.g rfl rfl (by decide) ?_
            refine L_iload_n eX11_plait_236 rfl ?_
            refine L_aload_n eX11_plait_237 rfl ?_
            refine L_getR (r := 75) eX11_plait_238 f_X11_38.g rfl rfl (by decide) ?_
            refine L_iload_n eX11_plait_241 rfl ?_
            refine L_iald eX11_plait_242 rfl ?_
            refine L_iast eX11_plait_243 rfl ?_
            refine L_aload_n eX11_plait_244 rfl ?_
            refine L_getR (r := 69) eX11_plait_245 f_X11_16.g rfl rfl (by decide) ?_
            refine L_iload_n eX11_plait_248 rfl ?_
            refine V_iconst eX11_plait_249 ?_
            refine L_iast eX11_plait_250 rfl ?_
            refine L_iinc eX11_plait_251 rfl (s_2 rfl rfl) ?_
            refine V_goto eX11_plait_254 ?_
            refine ih (i + 1) _ (by omega) (fun o a1 => by rw [sA_ne (by omega), sA_ne (by omega), sA_ne (by omega)]; exact fa3 o a1) (fun k hk a2 => ?_)
            by_cases c : k = i
            · subst c
              simp [sA, r74, r75]
              rw [uI_eq, uI_eq, uI_eq]
              exact ⟨rfl, rfl, rfl⟩
            · have := s3 k hk (by omega)
              have cne : (k : Int) ≠ i := by omega
              simp [sA]
              rw [uI_ne cne, uI_ne cne, uI_ne cne]
              exact this
      have k22 : uF (uF F2 66 16 0) 66 40 (-1) 66 22 = x.1.length := by rw [uF_ne (by decide), uF_ne (by decide)]; exact pn
      have k23 : uF (uF (uF F2 66 16 0) 66 40 (-1)) 66 0 x.1.length 66 23 = x.2 := by rw [uF_ne (by decide), uF_ne (by decide), uF_ne (by decide)]; exact p4
      refine L_aload_n eX11_plait_169 rfl ?_
      refine V_iconst eX11_plait_170 ?_
      refine L_put eX11_plait_171 f_X11_156 rfl rfl ?_
      refine L_aload_n eX11_plait_174 rfl ?_
      refine L_get eX11_plait_175 f_X11_164.g rfl rfl ?_
      -- at 178: .ifCond .le 11
      refine V_ifle eX11_plait_178 (fun h2 => ?_) (fun h2 => ?_)
      · refine L_aload_n eX11_plait_189 rfl ?_
        refine V_iconst eX11_plait_190 ?_
        refine L_put eX11_plait_191 f_X11_72 rfl rfl ?_
        refine L_aload_n eX11_plait_194 rfl ?_
        refine L_aload_n eX11_plait_195 rfl ?_
        refine L_get eX11_plait_196 f_X11_197.g rfl rfl ?_
        rw [k22]
        refine L_put eX11_plait_199 f_X11_121 rfl rfl ?_
        refine L_aload_n eX11_plait_202 rfl ?_
        refine L_aload_n eX11_plait_203 rfl ?_
        refine L_get eX11_plait_204 f_X11_210.g rfl rfl ?_
        rw [k23]
        refine L_put eX11_plait_207 f_X11_124 rfl rfl ?_
        refine V_iconst eX11_plait_210 ?_
        refine L_istore_n eX11_plait_211 (s_2 rfl rfl) ?_
        rw [← eF3]
        exact LOOP x.1.length 0 A2 (by omega) (fun _ _ => rfl) (fun k hk a2 => by omega)
      · omega
end Q98l

