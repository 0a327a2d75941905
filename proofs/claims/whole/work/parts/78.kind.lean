/-! row 0 of a THROW is the rest: there is no LOOP in it -/
def loA (t : Int) (s s' : rS) : Prop := ∀ i, i < 13 * t → s'.1 i = s.1 i ∧ s'.2 i = s.2 i
section P78
variable {n R T : Nat} {wt bd wx wy : Int → Int} {len air fall g t k hx hy : Int} {s s' : rS}
theorem loA.set (h : loA t s s') {c x y : Int} (hc : 13 * t ≤ c) : loA t s (uI s'.1 c x, uI s'.2 c y) := by
  intro i hi
  simp only [uI]
  rw [if_neg (by omega), if_neg (by omega)]
  exact h i hi
theorem lo_gO (h : loA t s s') (hk : 0 ≤ k) : loA t s (gO wt air fall t k s') := h.set (by omega)
theorem lo_bE (h : loA t s s') (hk : 0 ≤ k) : loA t s (bE bd t k s') := h.set (by omega)
theorem lo_pU (h : loA t s s') (hk : 1 ≤ k) : loA t s (pU wt len t k s') := by
  unfold pU
  simp only []
  split
  · split
    · exact h.set (by omega)
    · exact (h.set (c := 13 * t + k) (by omega)).set (by omega)
  · exact h
theorem lo_hO (h : loA t s s') (hk : 0 ≤ k) : loA t s (hO len t k s') := by
  unfold hO
  simp only []
  split
  · exact h.set (by omega)
  · exact h
theorem lo_it {f : Nat → rS → rS} (hf : ∀ j s', loA t s s' → loA t s (f j s')) (h : loA t s s') : ∀ m : Nat, loA t s (it f m s') := by
  intro m
  induction m with
  | zero => exact h
  | succ m ih => exact hf m _ ih
theorem lo_tk : loA t s (tkS wt bd len air fall n R hx hy t s) := by
  unfold tkS hS rdS bS gS hdS
  refine lo_it (fun j s' h => lo_hO h (by omega)) ?_ n
  refine lo_it (fun j s' h => lo_it (fun j s' h => lo_pU h (by omega)) h n) ?_ R
  refine lo_it (fun j s' h => lo_bE h (by omega)) ?_ (n - 1)
  refine lo_it (fun j s' h => lo_gO h (by omega)) ?_ n
  exact loA.set (fun i _ => ⟨rfl, rfl⟩) (by omega)
theorem lo_ts : loA 1 (rsS n len s) (tsS wt bd len air fall n R wx wy g T s) := by
  unfold tsS
  generalize rsS n len s = s0
  induction T with
  | zero => exact fun i _ => ⟨rfl, rfl⟩
  | succ T ih =>
    intro i hi
    have a := lo_tk (n := n) (R := R) (wt := wt) (bd := bd) (len := len) (air := air) (fall := fall) (t := (T : Int) + 1) (hx := (wx (T + 1) * g).tdiv 100) (hy := (wy (T + 1) * g).tdiv 100) (s := it (fun j => tkS wt bd len air fall n R ((wx (j + 1) * g).tdiv 100) ((wy (j + 1) * g).tdiv 100) (j + 1)) T s0) i (by omega)
    have b := ih i hi
    exact ⟨a.1.trans b.1, a.2.trans b.2⟩
theorem rs_at : ∀ m : Nat, ∀ i : Int, 0 ≤ i → i < m → (it (fun j s => (uI s.1 j (j * len), uI s.2 j 0)) m s).1 i = i * len ∧ (it (fun j s => (uI s.1 j (j * len), uI s.2 j 0)) m s).2 i = 0 := by
  intro m
  induction m with
  | zero => intro i a b; omega
  | succ m ih =>
    intro i a b
    show uI (it (fun j s => (uI s.1 j (j * len), uI s.2 j 0)) m s).1 m (m * len) i = i * len ∧ uI (it (fun j s => (uI s.1 j (j * len), uI s.2 j 0)) m s).2 m 0 i = 0
    simp only [uI]
    by_cases c : i = m
    · rw [if_pos c, if_pos c, c]
      exact ⟨rfl, rfl⟩
    · rw [if_neg c, if_neg c]
      exact ih i a (by omega)
theorem ts_0 {i : Int} (hn : n ≤ 12) (h0 : 0 ≤ i) (h1 : i ≤ n) : (tsS wt bd len air fall n R wx wy g T s).1 i = i * len ∧ (tsS wt bd len air fall n R wx wy g T s).2 i = 0 := by
  have a := lo_ts (n := n) (R := R) (T := T) (wt := wt) (bd := bd) (wx := wx) (wy := wy) (len := len) (air := air) (fall := fall) (g := g) (s := s) i (by omega)
  have b := rs_at (len := len) (s := s) (n + 1) i h0 (by omega)
  exact ⟨a.1.trans b.1, a.2.trans b.2⟩
theorem lp_0 {X Y : Int → Int} (hl : 0 ≤ len) (h : ∀ i : Int, 0 ≤ i → i ≤ n → X i = i * len ∧ Y i = 0) : lpO X Y n 0 = -1 := by
  have key : ∀ j : Nat, j + 1 ≤ n → lpS X Y 0 j = (0, -1) := by
    intro j
    induction j with
    | zero => intro _; rfl
    | succ j ih =>
      intro hj
      have a := h ((j : Int) + 1) (by omega) (by omega)
      have b := h ((j : Int) + 1 - 1) (by omega) (by omega)
      have c := h ((j : Int) + 1 + 1) (by omega) (by omega)
      have d : dot X Y 0 ((j : Int) + 1) = len * len := by
        unfold dot
        rw [show (13 * 0 + ((j : Int) + 1)) = (j : Int) + 1 by omega, a.1, a.2, b.1, b.2, c.1, c.2]
        rw [← Int.sub_mul, ← Int.sub_mul, show (j : Int) + 1 - ((j : Int) + 1 - 1) = 1 by omega, show (j : Int) + 1 + 1 - ((j : Int) + 1) = 1 by omega]
        simp
      have e : 0 ≤ len * len := Int.mul_nonneg hl hl
      show (if dot X Y 0 ((j : Int) + 1) < (lpS X Y 0 j).1 then (dot X Y 0 ((j : Int) + 1), (j : Int) + 1) else lpS X Y 0 j) = (0, -1)
      rw [ih (by omega), d, if_neg (by show ¬ len * len < 0; omega)]
  unfold lpO
  by_cases c : n = 0
  · subst c
    rfl
  · rw [key (n - 1) (by omega)]
end P78
section R78
variable {F : fT} {A : nT}
theorem ltR_at {L : List (Int × Int)} (h : 0 < L.length) : ltR L = (L[L.length - 1]'(by omega)).1 := by
  unfold ltR
  rw [List.getLast?_eq_getElem?, List.getElem?_eq_getElem (by omega)]
theorem ftR_at {L : List (Int × Int)} (h : 0 < L.length) : ftR L = (L[0]'h).1 := by
  cases L with
  | nil => exact absurd h (by decide)
  | cons e r => rfl
theorem pr_kind (h : Iv F A) : Pr mX10_kind mX11_kind [] F A := by
  obtain ⟨n, T, en, eT, hn, hT⟩ := iv_nat h
  obtain ⟨F1, A1, F2, A2, F3, A3, L, hC, hM, hK, i1, i2, i3, fk, k1, k2, k3, ag, eL, e41, hr⟩ := iv_three h en eT hn hT
  have hmem : ∀ e, e ∈ L → (1 ≤ e.1 ∧ e.1 ≤ T) ∧ 1 ≤ e.2 ∧ e.2 ≤ n := fun e he => by rw [← eL] at he; exact ckL_mem he
  have hlen : L.length ≤ 12 * T := by rw [← eL]; exact ckL_len hn.2 T
  have hp : 10 ≤ F1 42 2 ∧ F1 42 2 ≤ 2000 := by rw [fk.pc]; exact i1.ok.lw.2.2.2.1
  have g0 : F1 42 0 = n := by rw [fk.n, k1.1 2 0 rfl]; exact en
  have g1 : F1 42 1 = T := by rw [fk.T, k1.1 6 0 rfl]; exact eT
  have f0 : F3 66 0 = n := by rw [k3.1 66 0 rfl, k2.1 66 0 rfl, k1.1 66 0 rfl, h.s.n]; exact en
  have f5 : F3 66 5 = T := by rw [k3.1 66 5 rfl, k2.1 66 5 rfl, k1.1 66 5 rfl, h.s.T]; exact eT
  have hl : 20 ≤ F1 42 3 ∧ F1 42 3 ≤ 200 := by rw [fk.len]; exact i1.ok.len
  have hl3 : 20 ≤ F3 66 1 ∧ F3 66 1 ≤ 200 := by rw [i3.s.len]; exact i3.ok.len
  have elen : F3 66 1 = F1 42 3 := by rw [fk.len, k3.1 66 1 rfl, k2.1 66 1 rfl, i1.s.len]
  have hft : 0 < L.length → ftR L = A3 86 0 ∧ ltR L = A3 86 (F3 66 41 - 1) ∧ (1 ≤ A3 86 0 ∧ A3 86 0 ≤ 60) ∧ 1 ≤ A3 86 (F3 66 41 - 1) ∧ A3 86 (F3 66 41 - 1) ≤ 60 := fun c => by
    have a := hr 0 c
    have b := hr (L.length - 1) (by omega)
    have ea := hmem (L[0]'c) (List.getElem_mem c)
    have eb := hmem (L[L.length - 1]'(by omega)) (List.getElem_mem _)
    rw [show ((L.length - 1 : Nat) : Int) = F3 66 41 - 1 by omega] at b
    rw [show ((0 : Nat) : Int) = 0 from rfl] at a
    rw [ftR_at c, ltR_at c, a.1, b.1]
    omega
  have hf0 : L.length = 0 → ftR L = -1 := fun c => by
    rw [List.length_eq_zero_iff.mp c]
    rfl
  have hTu := fun (G : gT) => p_X1_turnsAbout (G := G) (F := F1) (A := A1) (f := 42) (x := F1 0 14) (y := F1 0 15) (Or.inl rfl) i1.b1 g0 g1 hn.2 hT.2 i1.post.2.2.1 i1.post.2.2.2
  have hTu3 := fun (G : gT) => p_X11_turnsOf (G := G) (F := F3) (A := A3) i3.b3 f0 f5 hn.2 hT.2 (by rw [i3.post.1]; exact i3.post.2.2.1) (by rw [i3.post.2.1]; exact i3.post.2.2.2)
  have ep : F3 66 13 = F1 0 14 ∧ F3 66 14 = F1 0 15 := by
    rw [i3.post.1, i3.post.2.1, k3.1 0 14 rfl, k3.1 0 15 rfl, k2.1 0 14 rfl, k2.1 0 15 rfl]
    exact ⟨rfl, rfl⟩
  have htb := (tuS_b (X := A3 84) (Y := A3 85) (x := F1 0 14) (y := F1 0 15) (n := n) (T + 1)).1
  rw [show A1 (42 + 1) = A1 43 from rfl, show A1 (42 + 2) = A1 44 from rfl, tuS_c ag hn.2 (T + 1) (Nat.le_refl _)] at hTu
  rw [ep.1, ep.2] at hTu3
  generalize (tuS (A3 84) (A3 85) (F1 0 14) (F1 0 15) n (T + 1)).1 = tu at *
  subst eL
  have ag2 : ∀ k t : Int, 0 ≤ k → k ≤ n → 0 ≤ t → t ≤ T → A1 44 (13 * t + k) = A3 85 (13 * t + k) := fun k t a b c d => (ag_at ag hn.2 ⟨a, b⟩ ⟨c, d⟩).2
  have ioh : ohP (A1 44) (F1 42 3) n T ↔ ohP (A3 85) (F3 66 1) n T := by
    unfold ohP
    rw [elen]
    constructor
    · rintro ⟨j, hj, i, hi, e⟩
      refine ⟨j, hj, i, hi, ?_⟩
      rw [ag2 _ _ (by omega) (by omega) (by omega) (by omega)] at e
      have := ag2 0 ((j : Int) + 1) (by omega) (by omega) (by omega) (by omega)
      rw [Int.add_zero] at this
      rw [this] at e
      exact e
    · rintro ⟨j, hj, i, hi, e⟩
      refine ⟨j, hj, i, hi, ?_⟩
      rw [ag2 _ _ (by omega) (by omega) (by omega) (by omega)]
      have := ag2 0 ((j : Int) + 1) (by omega) (by omega) (by omega) (by omega)
      rw [Int.add_zero] at this
      rw [this]
      exact e
  have ihl : hlP (A1 43) (A1 44) n T ↔ hl0 (A3 84) (A3 85) n (T + 1) := by
    have r0 : lpO (A3 84) (A3 85) n 0 = -1 := by
      refine lp_0 (len := F1 42 3) (by omega) (fun i a b => ?_)
      have e1 := fk.ag i (by unfold inN inI; rw [k1.1 2 0 rfl, en, k1.1 6 0 rfl, eT]; omega)
      have e2 := ag_at ag hn.2 (k := i) (t := 0) ⟨a, b⟩ (by omega)
      rw [show 13 * 0 + i = i by omega] at e2
      have e3 := ts_0 (n := (F1 2 0).toNat) (R := (A1 9 2).toNat) (T := (F1 6 0).toNat) (wt := wtF (A1 (2 + 1)) (A1 (2 + 2))) (bd := bdF (A1 (2 + 1)) (A1 (2 + 2))) (wx := A1 7) (wy := A1 8) (len := F1 2 1) (air := A1 9 0) (fall := A1 9 1) (g := F1 0 11) (s := zr) (i := i) (by rw [k1.1 2 0 rfl, en]; omega) a (by rw [k1.1 2 0 rfl, en]; omega)
      rw [fk.len]
      exact ⟨e2.1.symm.trans (e1.1.trans e3.1), e2.2.symm.trans (e1.2.trans e3.2)⟩
    unfold hlP hl0
    constructor
    · rintro ⟨j, hj, e⟩
      refine ⟨j + 1, by omega, ?_⟩
      rw [lpO_c ag hn (by omega)] at e
      exact e
    · rintro ⟨j, hj, e⟩
      cases j with
      | zero => exact absurd r0 e
      | succ j =>
        refine ⟨j, by omega, ?_⟩
        rw [lpO_c ag hn (by omega)]
        exact e
  by_cases c1 : 4 ≤ tu ∨ tu ≤ -4
  · refine ⟨vi 5, F1, A1, F3, A3, fun G => ?_, fun G => ?_, i3, ty_v⟩
    · refine L_ent [some (.ref 0), none, none, none] rfl ?_
      refine L_aload_n eX10_kind_0 rfl ?_
      refine C_v1 (hC G) v_X10_195 eX10_kind_1 rfl rfl ?_
      refine L_astore_n eX10_kind_4 (s_1 rfl rfl) ?_
      refine L_aload_n eX10_kind_5 rfl ?_
      refine L_aload_n eX10_kind_6 rfl ?_
      refine L_get eX10_kind_7 f_X10_84.g rfl rfl ?_
      refine L_aload_n eX10_kind_10 rfl ?_
      refine L_get eX10_kind_11 f_X10_87.g rfl rfl ?_
      refine C_v1 (hTu G) v_X10_232 eX10_kind_14 rfl rfl ?_
      refine L_istore_n eX10_kind_17 (s_2 rfl rfl) ?_
      refine L_iload_n eX10_kind_18 rfl ?_
      refine V_iconst eX10_kind_19 ?_
      refine V_icmpge eX10_kind_20 (fun h20 => ?_) (fun h20 => ?_)
      · refine V_iconst eX10_kind_29 ?_
        exact V_ireturn eX10_kind_30 ((by first | (exfalso; omega) | exact ⟨rfl, rfl⟩))
      · refine L_iload_n eX10_kind_23 rfl ?_
        refine L_bipush eX10_kind_24 rfl ?_
        refine V_icmpgt eX10_kind_26 (fun h26 => ?_) (fun h26 => ?_)
        · (exfalso; omega)
        · refine V_iconst eX10_kind_29 ?_
          exact V_ireturn eX10_kind_30 ((by first | (exfalso; omega) | exact ⟨rfl, rfl⟩))
    · refine L_ent [some (.ref 66), none] rfl ?_
      refine L_aload_n eX11_kind_0 rfl ?_
      refine L_aload_n eX11_kind_1 rfl ?_
      refine L_get eX11_kind_2 f_X11_133.g rfl rfl ?_
      refine C_v0 (hM G) v_X11_311 eX11_kind_5 rfl rfl ?_
      refine L_aload_n eX11_kind_8 rfl ?_
      refine C_v0 (hK G) v_X11_334 eX11_kind_9 rfl rfl ?_
      refine L_aload_n eX11_kind_12 rfl ?_
      refine C_v1 (hTu3 G) v_X11_350 eX11_kind_13 rfl rfl ?_
      refine L_istore_n eX11_kind_16 (s_1 rfl rfl) ?_
      refine L_iload_n eX11_kind_17 rfl ?_
      refine V_iconst eX11_kind_18 ?_
      refine V_icmpge eX11_kind_19 (fun h19 => ?_) (fun h19 => ?_)
      · refine V_iconst eX11_kind_28 ?_
        exact V_ireturn eX11_kind_29 ((by first | (exfalso; omega) | exact ⟨rfl, rfl⟩))
      · refine L_iload_n eX11_kind_22 rfl ?_
        refine L_bipush eX11_kind_23 rfl ?_
        refine V_icmpgt eX11_kind_25 (fun h25 => ?_) (fun h25 => ?_)
        · (exfalso; omega)
        · refine V_iconst eX11_kind_28 ?_
          exact V_ireturn eX11_kind_29 ((by first | (exfalso; omega) | exact ⟨rfl, rfl⟩))
  · by_cases c2 : 0 < (ckL (A1 43) (A1 44) (F1 42 2) n T).length
    · have f1 := hft c2
      refine ⟨vi (if 3 ≤ A3 86 (F3 66 41 - 1) - A3 86 0 then 4 else 3), F1, A1, F3, A3, fun G => ?_, fun G => ?_, i3, ty_v⟩
      · have f2 : ftR (ckL (A1 (42 + 1)) (A1 (42 + 2)) (F1 42 2) n T) = A3 86 0 := f1.1
        have f3 : ltR (ckL (A1 (42 + 1)) (A1 (42 + 2)) (F1 42 2) n T) = A3 86 (F3 66 41 - 1) := f1.2.1
        refine L_ent [some (.ref 0), none, none, none] rfl ?_
        refine L_aload_n eX10_kind_0 rfl ?_
        refine C_v1 (hC G) v_X10_195 eX10_kind_1 rfl rfl ?_
        refine L_astore_n eX10_kind_4 (s_1 rfl rfl) ?_
        refine L_aload_n eX10_kind_5 rfl ?_
        refine L_aload_n eX10_kind_6 rfl ?_
        refine L_get eX10_kind_7 f_X10_84.g rfl rfl ?_
        refine L_aload_n eX10_kind_10 rfl ?_
        refine L_get eX10_kind_11 f_X10_87.g rfl rfl ?_
        refine C_v1 (hTu G) v_X10_232 eX10_kind_14 rfl rfl ?_
        refine L_istore_n eX10_kind_17 (s_2 rfl rfl) ?_
        refine L_iload_n eX10_kind_18 rfl ?_
        refine V_iconst eX10_kind_19 ?_
        refine V_icmpge eX10_kind_20 (fun h20 => ?_) (fun h20 => ?_)
        · (exfalso; omega)
        · refine L_iload_n eX10_kind_23 rfl ?_
          refine L_bipush eX10_kind_24 rfl ?_
          refine V_icmpgt eX10_kind_26 (fun h26 => ?_) (fun h26 => ?_)
          · refine L_aload_n eX10_kind_31 rfl ?_
            refine C_v1 (p_X1_firstCrackTick (Or.inl rfl) i1.b1 hp g0 g1 hn.2 hT.2) v_X10_235 eX10_kind_32 rfl rfl ?_
            refine L_istore_n eX10_kind_35 (s_3 rfl rfl) ?_
            refine L_iload_n eX10_kind_36 rfl ?_
            refine V_iconst eX10_kind_37 ?_
            refine V_icmpeq eX10_kind_38 (fun h38 => ?_) (fun h38 => ?_)
            · (exfalso; omega)
            · refine L_aload_n eX10_kind_41 rfl ?_
              refine C_v1 (p_X1_lastCrackTick (Or.inl rfl) i1.b1 hp g0 g1 hn.2 hT.2) v_X10_238 eX10_kind_42 rfl rfl ?_
              refine L_iload_n eX10_kind_45 rfl ?_
              refine V_isub eX10_kind_46 ?_
              refine V_iconst eX10_kind_47 ?_
              refine V_icmplt eX10_kind_48 (fun h48 => ?_) (fun h48 => ?_)
              · refine V_iconst eX10_kind_55 ?_
                exact V_ireturn eX10_kind_56 ((by first | (exfalso; omega) | (refine ⟨?_, rfl⟩; first | (rw [if_pos (by omega)]; done) | (rw [if_neg (by omega)]; done))))
              · refine V_iconst eX10_kind_51 ?_
                refine V_goto eX10_kind_52 ?_
                exact V_ireturn eX10_kind_56 ((by first | (exfalso; omega) | (refine ⟨?_, rfl⟩; first | (rw [if_pos (by omega)]; done) | (rw [if_neg (by omega)]; done))))
          · (exfalso; omega)
      · refine L_ent [some (.ref 66), none] rfl ?_
        refine L_aload_n eX11_kind_0 rfl ?_
        refine L_aload_n eX11_kind_1 rfl ?_
        refine L_get eX11_kind_2 f_X11_133.g rfl rfl ?_
        refine C_v0 (hM G) v_X11_311 eX11_kind_5 rfl rfl ?_
        refine L_aload_n eX11_kind_8 rfl ?_
        refine C_v0 (hK G) v_X11_334 eX11_kind_9 rfl rfl ?_
        refine L_aload_n eX11_kind_12 rfl ?_
        refine C_v1 (hTu3 G) v_X11_350 eX11_kind_13 rfl rfl ?_
        refine L_istore_n eX11_kind_16 (s_1 rfl rfl) ?_
        refine L_iload_n eX11_kind_17 rfl ?_
        refine V_iconst eX11_kind_18 ?_
        refine V_icmpge eX11_kind_19 (fun h19 => ?_) (fun h19 => ?_)
        · (exfalso; omega)
        · refine L_iload_n eX11_kind_22 rfl ?_
          refine L_bipush eX11_kind_23 rfl ?_
          refine V_icmpgt eX11_kind_25 (fun h25 => ?_) (fun h25 => ?_)
          · refine L_aload_n eX11_kind_30 rfl ?_
            refine L_get eX11_kind_31 f_X11_326.g rfl rfl ?_
            refine V_ifle eX11_kind_34 (fun h34 => ?_) (fun h34 => ?_)
            · (exfalso; omega)
            · refine L_aload_n eX11_kind_37 rfl ?_
              refine L_getR (r := 86) eX11_kind_38 f_X11_75.g rfl rfl (by decide) ?_
              refine L_aload_n eX11_kind_41 rfl ?_
              refine L_get eX11_kind_42 f_X11_326.g rfl rfl ?_
              refine V_iconst eX11_kind_45 ?_
              refine V_isub eX11_kind_46 ?_
              refine L_iald eX11_kind_47 rfl ?_
              refine L_aload_n eX11_kind_48 rfl ?_
              refine L_getR (r := 86) eX11_kind_49 f_X11_75.g rfl rfl (by decide) ?_
              refine V_iconst eX11_kind_52 ?_
              refine L_iald eX11_kind_53 rfl ?_
              refine V_isub eX11_kind_54 ?_
              refine V_iconst eX11_kind_55 ?_
              refine V_icmplt eX11_kind_56 (fun h56 => ?_) (fun h56 => ?_)
              · refine V_iconst eX11_kind_63 ?_
                exact V_ireturn eX11_kind_64 ((by first | (exfalso; omega) | (refine ⟨?_, rfl⟩; first | (rw [if_pos (by omega)]; done) | (rw [if_neg (by omega)]; done))))
              · refine V_iconst eX11_kind_59 ?_
                refine V_goto eX11_kind_60 ?_
                exact V_ireturn eX11_kind_64 ((by first | (exfalso; omega) | (refine ⟨?_, rfl⟩; first | (rw [if_pos (by omega)]; done) | (rw [if_neg (by omega)]; done))))
          · (exfalso; omega)
    · have f1 := hf0 (by omega)
      have f2 : ftR (ckL (A1 (42 + 1)) (A1 (42 + 2)) (F1 42 2) n T) = -1 := f1
      by_cases c3 : ohP (A1 44) (F1 42 3) n T
      · have d3 := ioh.mp c3
        refine ⟨vi 2, F1, A1, F3, A3, fun G => ?_, fun G => ?_, i3, ty_v⟩
        · refine L_ent [some (.ref 0), none, none, none] rfl ?_
          refine L_aload_n eX10_kind_0 rfl ?_
          refine C_v1 (hC G) v_X10_195 eX10_kind_1 rfl rfl ?_
          refine L_astore_n eX10_kind_4 (s_1 rfl rfl) ?_
          refine L_aload_n eX10_kind_5 rfl ?_
          refine L_aload_n eX10_kind_6 rfl ?_
          refine L_get eX10_kind_7 f_X10_84.g rfl rfl ?_
          refine L_aload_n eX10_kind_10 rfl ?_
          refine L_get eX10_kind_11 f_X10_87.g rfl rfl ?_
          refine C_v1 (hTu G) v_X10_232 eX10_kind_14 rfl rfl ?_
          refine L_istore_n eX10_kind_17 (s_2 rfl rfl) ?_
          refine L_iload_n eX10_kind_18 rfl ?_
          refine V_iconst eX10_kind_19 ?_
          refine V_icmpge eX10_kind_20 (fun h20 => ?_) (fun h20 => ?_)
          · (exfalso; omega)
          · refine L_iload_n eX10_kind_23 rfl ?_
            refine L_bipush eX10_kind_24 rfl ?_
            refine V_icmpgt eX10_kind_26 (fun h26 => ?_) (fun h26 => ?_)
            · refine L_aload_n eX10_kind_31 rfl ?_
              refine C_v1 (p_X1_firstCrackTick (Or.inl rfl) i1.b1 hp g0 g1 hn.2 hT.2) v_X10_235 eX10_kind_32 rfl rfl ?_
              refine L_istore_n eX10_kind_35 (s_3 rfl rfl) ?_
              refine L_iload_n eX10_kind_36 rfl ?_
              refine V_iconst eX10_kind_37 ?_
              refine V_icmpeq eX10_kind_38 (fun h38 => ?_) (fun h38 => ?_)
              · refine L_aload_n eX10_kind_57 rfl ?_
                refine C_v1 (p_X1_isOverhead (Or.inl rfl) i1.b1 hl g0 g1 hn hT.2) v_X10_241 eX10_kind_58 rfl rfl ?_
                refine V_ifeqB eX10_kind_61 (fun h61 => ?_) (fun h61 => ?_)
                · exact absurd c3 h61
                · refine V_iconst eX10_kind_64 ?_
                  exact V_ireturn eX10_kind_65 ((by first | (exfalso; omega) | exact ⟨rfl, rfl⟩))
              · (exfalso; omega)
            · (exfalso; omega)
        · refine L_ent [some (.ref 66), none] rfl ?_
          refine L_aload_n eX11_kind_0 rfl ?_
          refine L_aload_n eX11_kind_1 rfl ?_
          refine L_get eX11_kind_2 f_X11_133.g rfl rfl ?_
          refine C_v0 (hM G) v_X11_311 eX11_kind_5 rfl rfl ?_
          refine L_aload_n eX11_kind_8 rfl ?_
          refine C_v0 (hK G) v_X11_334 eX11_kind_9 rfl rfl ?_
          refine L_aload_n eX11_kind_12 rfl ?_
          refine C_v1 (hTu3 G) v_X11_350 eX11_kind_13 rfl rfl ?_
          refine L_istore_n eX11_kind_16 (s_1 rfl rfl) ?_
          refine L_iload_n eX11_kind_17 rfl ?_
          refine V_iconst eX11_kind_18 ?_
          refine V_icmpge eX11_kind_19 (fun h19 => ?_) (fun h19 => ?_)
          · (exfalso; omega)
          · refine L_iload_n eX11_kind_22 rfl ?_
            refine L_bipush eX11_kind_23 rfl ?_
            refine V_icmpgt eX11_kind_25 (fun h25 => ?_) (fun h25 => ?_)
            · refine L_aload_n eX11_kind_30 rfl ?_
              refine L_get eX11_kind_31 f_X11_326.g rfl rfl ?_
              refine V_ifle eX11_kind_34 (fun h34 => ?_) (fun h34 => ?_)
              · refine L_aload_n eX11_kind_65 rfl ?_
                refine C_v1 (p_X11_isOverhead i3.b3 hl3 f0 f5 hn hT.2) v_X11_353 eX11_kind_66 rfl rfl ?_
                refine V_ifeqB eX11_kind_69 (fun h69 => ?_) (fun h69 => ?_)
                · exact absurd d3 h69
                · refine V_iconst eX11_kind_72 ?_
                  refine V_goto eX11_kind_73 ?_
                  exact V_ireturn eX11_kind_83 ((by first | (exfalso; omega) | exact ⟨rfl, rfl⟩))
              · (exfalso; omega)
            · (exfalso; omega)
      · have d3 : ¬ ohP (A3 85) (F3 66 1) n T := fun e => c3 (ioh.mpr e)
        by_cases c4 : hlP (A1 43) (A1 44) n T
        · have d4 := ihl.mp c4
          refine ⟨vi 1, F1, A1, F3, A3, fun G => ?_, fun G => ?_, i3, ty_v⟩
          · refine L_ent [some (.ref 0), none, none, none] rfl ?_
            refine L_aload_n eX10_kind_0 rfl ?_
            refine C_v1 (hC G) v_X10_195 eX10_kind_1 rfl rfl ?_
            refine L_astore_n eX10_kind_4 (s_1 rfl rfl) ?_
            refine L_aload_n eX10_kind_5 rfl ?_
            refine L_aload_n eX10_kind_6 rfl ?_
            refine L_get eX10_kind_7 f_X10_84.g rfl rfl ?_
            refine L_aload_n eX10_kind_10 rfl ?_
            refine L_get eX10_kind_11 f_X10_87.g rfl rfl ?_
            refine C_v1 (hTu G) v_X10_232 eX10_kind_14 rfl rfl ?_
            refine L_istore_n eX10_kind_17 (s_2 rfl rfl) ?_
            refine L_iload_n eX10_kind_18 rfl ?_
            refine V_iconst eX10_kind_19 ?_
            refine V_icmpge eX10_kind_20 (fun h20 => ?_) (fun h20 => ?_)
            · (exfalso; omega)
            · refine L_iload_n eX10_kind_23 rfl ?_
              refine L_bipush eX10_kind_24 rfl ?_
              refine V_icmpgt eX10_kind_26 (fun h26 => ?_) (fun h26 => ?_)
              · refine L_aload_n eX10_kind_31 rfl ?_
                refine C_v1 (p_X1_firstCrackTick (Or.inl rfl) i1.b1 hp g0 g1 hn.2 hT.2) v_X10_235 eX10_kind_32 rfl rfl ?_
                refine L_istore_n eX10_kind_35 (s_3 rfl rfl) ?_
                refine L_iload_n eX10_kind_36 rfl ?_
                refine V_iconst eX10_kind_37 ?_
                refine V_icmpeq eX10_kind_38 (fun h38 => ?_) (fun h38 => ?_)
                · refine L_aload_n eX10_kind_57 rfl ?_
                  refine C_v1 (p_X1_isOverhead (Or.inl rfl) i1.b1 hl g0 g1 hn hT.2) v_X10_241 eX10_kind_58 rfl rfl ?_
                  refine V_ifeqB eX10_kind_61 (fun h61 => ?_) (fun h61 => ?_)
                  · refine L_aload_n eX10_kind_66 rfl ?_
                    refine C_v1 (p_X1_hasLoop (Or.inl rfl) i1.b1 g0 g1 hn hT.2) v_X10_245 eX10_kind_67 rfl rfl ?_
                    refine V_ifeqB eX10_kind_70 (fun h70 => ?_) (fun h70 => ?_)
                    · exact absurd c4 h70
                    · refine V_iconst eX10_kind_73 ?_
                      refine V_goto eX10_kind_74 ?_
                      exact V_ireturn eX10_kind_78 ((by first | (exfalso; omega) | exact ⟨rfl, rfl⟩))
                  · exact absurd h61 c3
                · (exfalso; omega)
              · (exfalso; omega)
          · refine L_ent [some (.ref 66), none] rfl ?_
            refine L_aload_n eX11_kind_0 rfl ?_
            refine L_aload_n eX11_kind_1 rfl ?_
            refine L_get eX11_kind_2 f_X11_133.g rfl rfl ?_
            refine C_v0 (hM G) v_X11_311 eX11_kind_5 rfl rfl ?_
            refine L_aload_n eX11_kind_8 rfl ?_
            refine C_v0 (hK G) v_X11_334 eX11_kind_9 rfl rfl ?_
            refine L_aload_n eX11_kind_12 rfl ?_
            refine C_v1 (hTu3 G) v_X11_350 eX11_kind_13 rfl rfl ?_
            refine L_istore_n eX11_kind_16 (s_1 rfl rfl) ?_
            refine L_iload_n eX11_kind_17 rfl ?_
            refine V_iconst eX11_kind_18 ?_
            refine V_icmpge eX11_kind_19 (fun h19 => ?_) (fun h19 => ?_)
            · (exfalso; omega)
            · refine L_iload_n eX11_kind_22 rfl ?_
              refine L_bipush eX11_kind_23 rfl ?_
              refine V_icmpgt eX11_kind_25 (fun h25 => ?_) (fun h25 => ?_)
              · refine L_aload_n eX11_kind_30 rfl ?_
                refine L_get eX11_kind_31 f_X11_326.g rfl rfl ?_
                refine V_ifle eX11_kind_34 (fun h34 => ?_) (fun h34 => ?_)
                · refine L_aload_n eX11_kind_65 rfl ?_
                  refine C_v1 (p_X11_isOverhead i3.b3 hl3 f0 f5 hn hT.2) v_X11_353 eX11_kind_66 rfl rfl ?_
                  refine V_ifeqB eX11_kind_69 (fun h69 => ?_) (fun h69 => ?_)
                  · refine L_aload_n eX11_kind_76 rfl ?_
                    refine C_v1 (p_X11_hasLoop i3.b3 f0 f5 hn hT.2) v_X11_356 eX11_kind_77 rfl rfl ?_
                    refine C_s1 p_X11_one v_X11_181 eX11_kind_80 rfl ?_
                    exact V_ireturn eX11_kind_83 ⟨by rw [if_pos d4], rfl⟩
                  · exact absurd h69 d3
                · (exfalso; omega)
              · (exfalso; omega)
        · have d4 : ¬ hl0 (A3 84) (A3 85) n (T + 1) := fun e => c4 (ihl.mpr e)
          refine ⟨vi 0, F1, A1, F3, A3, fun G => ?_, fun G => ?_, i3, ty_v⟩
          · refine L_ent [some (.ref 0), none, none, none] rfl ?_
            refine L_aload_n eX10_kind_0 rfl ?_
            refine C_v1 (hC G) v_X10_195 eX10_kind_1 rfl rfl ?_
            refine L_astore_n eX10_kind_4 (s_1 rfl rfl) ?_
            refine L_aload_n eX10_kind_5 rfl ?_
            refine L_aload_n eX10_kind_6 rfl ?_
            refine L_get eX10_kind_7 f_X10_84.g rfl rfl ?_
            refine L_aload_n eX10_kind_10 rfl ?_
            refine L_get eX10_kind_11 f_X10_87.g rfl rfl ?_
            refine C_v1 (hTu G) v_X10_232 eX10_kind_14 rfl rfl ?_
            refine L_istore_n eX10_kind_17 (s_2 rfl rfl) ?_
            refine L_iload_n eX10_kind_18 rfl ?_
            refine V_iconst eX10_kind_19 ?_
            refine V_icmpge eX10_kind_20 (fun h20 => ?_) (fun h20 => ?_)
            · (exfalso; omega)
            · refine L_iload_n eX10_kind_23 rfl ?_
              refine L_bipush eX10_kind_24 rfl ?_
              refine V_icmpgt eX10_kind_26 (fun h26 => ?_) (fun h26 => ?_)
              · refine L_aload_n eX10_kind_31 rfl ?_
                refine C_v1 (p_X1_firstCrackTick (Or.inl rfl) i1.b1 hp g0 g1 hn.2 hT.2) v_X10_235 eX10_kind_32 rfl rfl ?_
                refine L_istore_n eX10_kind_35 (s_3 rfl rfl) ?_
                refine L_iload_n eX10_kind_36 rfl ?_
                refine V_iconst eX10_kind_37 ?_
                refine V_icmpeq eX10_kind_38 (fun h38 => ?_) (fun h38 => ?_)
                · refine L_aload_n eX10_kind_57 rfl ?_
                  refine C_v1 (p_X1_isOverhead (Or.inl rfl) i1.b1 hl g0 g1 hn hT.2) v_X10_241 eX10_kind_58 rfl rfl ?_
                  refine V_ifeqB eX10_kind_61 (fun h61 => ?_) (fun h61 => ?_)
                  · refine L_aload_n eX10_kind_66 rfl ?_
                    refine C_v1 (p_X1_hasLoop (Or.inl rfl) i1.b1 g0 g1 hn hT.2) v_X10_245 eX10_kind_67 rfl rfl ?_
                    refine V_ifeqB eX10_kind_70 (fun h70 => ?_) (fun h70 => ?_)
                    · refine V_iconst eX10_kind_77 ?_
                      exact V_ireturn eX10_kind_78 ((by first | (exfalso; omega) | exact ⟨rfl, rfl⟩))
                    · exact absurd h70 c4
                  · exact absurd h61 c3
                · (exfalso; omega)
              · (exfalso; omega)
          · refine L_ent [some (.ref 66), none] rfl ?_
            refine L_aload_n eX11_kind_0 rfl ?_
            refine L_aload_n eX11_kind_1 rfl ?_
            refine L_get eX11_kind_2 f_X11_133.g rfl rfl ?_
            refine C_v0 (hM G) v_X11_311 eX11_kind_5 rfl rfl ?_
            refine L_aload_n eX11_kind_8 rfl ?_
            refine C_v0 (hK G) v_X11_334 eX11_kind_9 rfl rfl ?_
            refine L_aload_n eX11_kind_12 rfl ?_
            refine C_v1 (hTu3 G) v_X11_350 eX11_kind_13 rfl rfl ?_
            refine L_istore_n eX11_kind_16 (s_1 rfl rfl) ?_
            refine L_iload_n eX11_kind_17 rfl ?_
            refine V_iconst eX11_kind_18 ?_
            refine V_icmpge eX11_kind_19 (fun h19 => ?_) (fun h19 => ?_)
            · (exfalso; omega)
            · refine L_iload_n eX11_kind_22 rfl ?_
              refine L_bipush eX11_kind_23 rfl ?_
              refine V_icmpgt eX11_kind_25 (fun h25 => ?_) (fun h25 => ?_)
              · refine L_aload_n eX11_kind_30 rfl ?_
                refine L_get eX11_kind_31 f_X11_326.g rfl rfl ?_
                refine V_ifle eX11_kind_34 (fun h34 => ?_) (fun h34 => ?_)
                · refine L_aload_n eX11_kind_65 rfl ?_
                  refine C_v1 (p_X11_isOverhead i3.b3 hl3 f0 f5 hn hT.2) v_X11_353 eX11_kind_66 rfl rfl ?_
                  refine V_ifeqB eX11_kind_69 (fun h69 => ?_) (fun h69 => ?_)
                  · refine L_aload_n eX11_kind_76 rfl ?_
                    refine C_v1 (p_X11_hasLoop i3.b3 f0 f5 hn hT.2) v_X11_356 eX11_kind_77 rfl rfl ?_
                    refine C_s1 p_X11_one v_X11_181 eX11_kind_80 rfl ?_
                    exact V_ireturn eX11_kind_83 ⟨by rw [if_neg d4], rfl⟩
                  · exact absurd h69 d3
                · (exfalso; omega)
              · (exfalso; omega)
end R78

