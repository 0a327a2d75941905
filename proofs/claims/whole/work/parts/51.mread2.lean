/-! the reference's greatest and least, by ROOTS -/
theorem rt_max {a b : Int} (ha : 0 ≤ a) (hb : 0 ≤ b) : rt (max a b) = max (rt a) (rt b) := by
  by_cases h : a ≤ b
  · rw [Int.max_eq_right h, Int.max_eq_right (rt_mono ha h)]
  · rw [Int.max_eq_left (by omega), Int.max_eq_left (rt_mono hb (by omega))]
theorem rt_min {a b : Int} (ha : 0 ≤ a) (hb : 0 ≤ b) : rt (min a b) = min (rt a) (rt b) := by
  by_cases h : a ≤ b
  · rw [Int.min_eq_left h, Int.min_eq_left (rt_mono ha h)]
  · rw [Int.min_eq_right (by omega), Int.min_eq_right (rt_mono hb (by omega))]
theorem rt_mxF {f : Nat → Int} {a : Int} (ha : 0 ≤ a) : ∀ n : Nat, (∀ j, j < n → 0 ≤ f j) → 0 ≤ mxF f a n ∧ rt (mxF f a n) = mxF (fun j => rt (f j)) (rt a) n := by
  intro n
  induction n with
  | zero => intro _; exact ⟨ha, rfl⟩
  | succ n ih =>
    intro h
    have h1 := ih (fun j hj => h j (by omega))
    have h2 := h n (by omega)
    refine ⟨by show 0 ≤ max _ _; omega, ?_⟩
    show rt (max _ _) = max _ _
    rw [rt_max h1.1 h2, h1.2]
theorem rt_mnF {f : Nat → Int} {a : Int} (ha : 0 ≤ a) : ∀ n : Nat, (∀ j, j < n → 0 ≤ f j) → 0 ≤ mnF f a n ∧ rt (mnF f a n) = mnF (fun j => rt (f j)) (rt a) n := by
  intro n
  induction n with
  | zero => intro _; exact ⟨ha, rfl⟩
  | succ n ih =>
    intro h
    have h1 := ih (fun j hj => h j (by omega))
    have h2 := h n (by omega)
    refine ⟨by show 0 ≤ min _ _; omega, ?_⟩
    show rt (min _ _) = min _ _
    rw [rt_min h1.1 h2, h1.2]
theorem rt_0 : rt 0 = 0 := rt_eq (by omega) (by omega) (by omega) (by omega)
theorem rt_gM {v : Int → Int → Int} {n : Nat} (h : ∀ k t : Int, 0 ≤ v k t) : ∀ j : Nat, 0 ≤ gM v n j ∧ rt (gM v n j) = gM (fun k t => rt (v k t)) n j := by
  intro j
  induction j with
  | zero => exact ⟨by show (0 : Int) ≤ 0; omega, rt_0⟩
  | succ j ih =>
    have := rt_mxF (f := fun i => v (i + 1) (j + 1)) ih.1 n (fun i _ => h _ _)
    refine ⟨this.1, ?_⟩
    have e := this.2
    rw [ih.2] at e
    exact e
theorem rt_gN {v : Int → Int → Int} {n : Nat} {a : Int} (ha : 0 ≤ a) (h : ∀ k t : Int, 0 ≤ v k t) : ∀ j : Nat, 0 ≤ gN v n a j ∧ rt (gN v n a j) = gN (fun k t => rt (v k t)) n (rt a) j := by
  intro j
  induction j with
  | zero => exact ⟨ha, rfl⟩
  | succ j ih =>
    have := rt_mnF (f := fun i => v i j) ih.1 (n + 1) (fun i _ => h _ _)
    refine ⟨this.1, ?_⟩
    have e := this.2
    rw [ih.2] at e
    exact e
section P51
variable {G : gT} {F : fT} {A : nT}
theorem p_X11_farFrom {k t x y : Int} (hb : bA (A 84, A 85)) (hk : 0 ≤ k ∧ k ≤ 12) (ht : 0 ≤ t ∧ t ≤ 60) (hx : ab 5000 x) (hy : ab 5000 y) : Pu G mX11_farFrom [.ref 66, vi k, vi t, vi x, vi y] F A (vl (rt (qP (A 84) (A 85) x y k t))) := by
  have hq := qP_b hb hx hy hk ht
  unfold ab at hq hx hy
  have hq2 := hq.2.2
  unfold qP at hq2
  refine L_ent [some (.ref 66), some (vi k), some (vi t), some (vi x), some (vi y), none] rfl ?_
  refine L_iload_n eX11_farFrom_0 rfl ?_
  refine L_iload_n eX11_farFrom_1 rfl ?_
  refine C_s1 p_X11_cell v_X11_284 eX11_farFrom_2 rfl ?_
  refine L_istore eX11_farFrom_5 (s_5 rfl rfl) ?_
  refine L_aload_n eX11_farFrom_7 rfl ?_
  refine L_getR (r := 84) eX11_farFrom_8 f_X11_65.g rfl rfl (by decide) ?_
  refine L_iload eX11_farFrom_11 rfl ?_
  refine L_lald eX11_farFrom_13 rfl ?_
  refine L_iload_n eX11_farFrom_14 rfl ?_
  refine V_i2l eX11_farFrom_15 ?_
  refine V_lsub eX11_farFrom_16 ?_
  refine L_aload_n eX11_farFrom_17 rfl ?_
  refine L_getR (r := 85) eX11_farFrom_18 f_X11_69.g rfl rfl (by decide) ?_
  refine L_iload eX11_farFrom_21 rfl ?_
  refine L_lald eX11_farFrom_23 rfl ?_
  refine L_iload eX11_farFrom_24 rfl ?_
  refine V_i2l eX11_farFrom_26 ?_
  refine V_lsub eX11_farFrom_27 ?_
  refine C_s1 (p_X11_span (by omega)) v_X11_288 eX11_farFrom_28 rfl ?_
  exact V_lreturn eX11_farFrom_31 ⟨rfl, rfl⟩
theorem p_X11_greatestSpeed {n T : Nat} (hb : bA (A 84, A 85)) (h0 : F 66 0 = n) (h1 : F 66 5 = T) (hn : n ≤ 12) (hT : T ≤ 60) : Pu G mX11_greatestSpeed [.ref 66] F A (vl (gM (fun k t => rt (mv (A 84) (A 85) k t)) n T)) := by
  have hmv : ∀ k t : Int, 1 ≤ k → k ≤ n → 1 ≤ t → t ≤ T → 0 ≤ rt (mv (A 84) (A 85) k t) ∧ rt (mv (A 84) (A 85) k t) ≤ 400000 := fun k t a b c d => by
    have := mv_b hb (k := k) (t := t) (by omega) (by omega)
    have := this.2.2.2.2.2.2
    omega
  have hg := gM_b (v := fun k t => rt (mv (A 84) (A 85) k t)) (n := n) (T := T) (B := 400000) (by omega) hmv
  refine L_ent [some (.ref 66), none, none, none, none, none, none] rfl ?_
  generalize hQ : (fun (r' : Option Value) (w : wT) => r' = some (vl (gM (fun k t => rt (mv (A 84) (A 85) k t)) n T)) ∧ w = sw F A) = Q
  refine L_lconst0 eX11_greatestSpeed_0 ?_
  refine L_lstore_n eX11_greatestSpeed_1 (t_1 rfl) ?_
  refine V_iconst eX11_greatestSpeed_2 ?_
  refine L_istore_n eX11_greatestSpeed_3 (s_3 rfl rfl) ?_
  have LOOP : ∀ (r j : Nat) (t : Int) (x4 x5 : Option Value), T < r + j → j ≤ T → t = j + 1 → V G mX11_greatestSpeed Q 0 0 4 [some (.ref 66), some (vl (gM (fun k t => rt (mv (A 84) (A 85) k t)) n j)), none, some (vi t), x4, x5, none] [] (sw F A) := by
    intro r
    induction r with
    | zero => intro j t x4 x5 e1 e2; omega
    | succ r ih =>
      intro j t x4 x5 e1 e2 et
      refine L_iload_n eX11_greatestSpeed_4 rfl ?_
      refine L_aload_n eX11_greatestSpeed_5 rfl ?_
      refine L_get eX11_greatestSpeed_6 f_X11_127.g rfl rfl ?_
      -- at 9: .if_icmp .gt 50
      refine V_icmpgt eX11_greatestSpeed_9 (fun h2 => ?_) (fun h2 => ?_)
      · have e : j = T := by omega
        subst e
        refine L_lload_n eX11_greatestSpeed_59 rfl ?_
        -- at 60: .lreturn
        exact V_lreturn eX11_greatestSpeed_60 (by rw [← hQ]; exact ⟨rfl, rfl⟩)
      · subst et
        have IN : ∀ (r i : Nat) (k : Int) (x5 : Option Value), n < r + i → i ≤ n → k = i + 1 → V G mX11_greatestSpeed Q 0 0 15 [some (.ref 66), some (vl (mxF (fun i => rt (mv (A 84) (A 85) (i + 1) ((j : Int) + 1))) (gM (fun k t => rt (mv (A 84) (A 85) k t)) n j) i)), none, some (vi ((j : Int) + 1)), some (vi k), x5, none] [] (sw F A) := by
          intro r
          induction r with
          | zero => intro i k x5 e3 e4; omega
          | succ r ihr =>
            intro i k x5 e3 e4 ek
            have hm := mxF_b (f := fun i => rt (mv (A 84) (A 85) (i + 1) ((j : Int) + 1))) (hg j e2) i (fun a ha => hmv _ _ (by omega) (by omega) (by omega) (by omega))
            refine L_iload eX11_greatestSpeed_15 rfl ?_
            refine L_aload_n eX11_greatestSpeed_17 rfl ?_
            refine L_get eX11_greatestSpeed_18 f_X11_121.g rfl rfl ?_
            -- at 21: .if_icmp .gt 32
            refine V_icmpgt eX11_greatestSpeed_21 (fun h3 => ?_) (fun h3 => ?_)
            · have e : i = n := by omega
              subst e
              refine L_iinc eX11_greatestSpeed_53 rfl (s_3 rfl rfl) ?_
              refine V_goto eX11_greatestSpeed_56 ?_
              exact ih (j + 1) _ _ _ (by omega) (by omega) (by omega)
            · subst ek
              have hv := hmv ((i : Int) + 1) ((j : Int) + 1) (by omega) (by omega) (by omega) (by omega)
              have hnx := fun x5 => ihr (i + 1) ((i : Int) + 1 + 1) x5 (by omega) (by omega) (by omega)
              have hs : mxF (fun i => rt (mv (A 84) (A 85) (i + 1) ((j : Int) + 1))) (gM (fun k t => rt (mv (A 84) (A 85) k t)) n j) (i + 1) = max (mxF (fun i => rt (mv (A 84) (A 85) (i + 1) ((j : Int) + 1))) (gM (fun k t => rt (mv (A 84) (A 85) k t)) n j) i) (rt (mv (A 84) (A 85) ((i : Int) + 1) ((j : Int) + 1))) := rfl
              rw [hs] at hnx
              generalize mxF (fun i => rt (mv (A 84) (A 85) (i + 1) ((j : Int) + 1))) (gM (fun k t => rt (mv (A 84) (A 85) k t)) n j) i = m at hnx hm
              refine L_aload_n eX11_greatestSpeed_24 rfl ?_
              refine L_iload eX11_greatestSpeed_25 rfl ?_
              refine L_iload_n eX11_greatestSpeed_27 rfl ?_
              refine C_v1 (p_X11_speedOf hb (by omega) (by omega)) v_X11_314 eX11_greatestSpeed_28 rfl rfl ?_
              refine L_lstore eX11_greatestSpeed_31 (t_5 rfl) ?_
              refine L_lload eX11_greatestSpeed_33 rfl ?_
              refine L_lload_n eX11_greatestSpeed_35 rfl ?_
              -- at 36: .lcmp
              refine V_lcmple eX11_greatestSpeed_36 eX11_greatestSpeed_37 (fun h4 => ?_) (fun h4 => ?_)
              · rw [Int.max_eq_left (by omega)] at hnx
                refine L_lload_n eX11_greatestSpeed_45 rfl ?_
                refine L_lstore_n eX11_greatestSpeed_46 (t_1 rfl) ?_
                refine L_iinc eX11_greatestSpeed_47 rfl (s_4 rfl rfl) ?_
                refine V_goto eX11_greatestSpeed_50 ?_
                exact hnx _
              · rw [Int.max_eq_right (by omega)] at hnx
                refine L_lload eX11_greatestSpeed_40 rfl ?_
                refine V_goto eX11_greatestSpeed_42 ?_
                refine L_lstore_n eX11_greatestSpeed_46 (t_1 rfl) ?_
                refine L_iinc eX11_greatestSpeed_47 rfl (s_4 rfl rfl) ?_
                refine V_goto eX11_greatestSpeed_50 ?_
                exact hnx _
        refine V_iconst eX11_greatestSpeed_12 ?_
        refine L_istore eX11_greatestSpeed_13 (s_4 rfl rfl) ?_
        exact IN (n + 1) 0 1 _ (by omega) (by omega) (by omega)
  exact LOOP (T + 1) 0 1 _ _ (by omega) (by omega) (by omega)
theorem p_X11_aloneBy {n T : Nat} {x y : Int} (hb : bA (A 84, A 85)) (h0 : F 66 0 = n) (h1 : F 66 5 = T) (hn : n ≤ 12) (hT : T ≤ 60) (hx : ab 5000 x) (hy : ab 5000 y) : Pu G mX11_aloneBy [.ref 66, vi x, vi y] F A (vl (gN (fun k t => rt (qP (A 84) (A 85) x y k t)) n (rt (qP (A 84) (A 85) x y 0 0)) (T + 1))) := by
  have hmv : ∀ k t : Int, 0 ≤ k → k ≤ n → 0 ≤ t → t < ((T + 1 : Nat) : Int) → 0 ≤ rt (qP (A 84) (A 85) x y k t) ∧ rt (qP (A 84) (A 85) x y k t) ≤ 200000 := fun k t a b c d => by
    have := qP_b hb hx hy (k := k) (t := t) (by omega) (by omega)
    have := this.2.2.2.2
    omega
  have hg := gN_b (v := fun k t => rt (qP (A 84) (A 85) x y k t)) (n := n) (T := T + 1) (a := rt (qP (A 84) (A 85) x y 0 0)) (B := 200000) (hmv 0 0 (by omega) (by omega) (by omega) (by omega)) hmv
  refine L_ent [some (.ref 66), some (vi x), some (vi y), none, none, none, none, none, none] rfl ?_
  generalize hQ : (fun (r' : Option Value) (w : wT) => r' = some (vl (gN (fun k t => rt (qP (A 84) (A 85) x y k t)) n (rt (qP (A 84) (A 85) x y 0 0)) (T + 1))) ∧ w = sw F A) = Q
  refine L_aload_n eX11_aloneBy_0 rfl ?_
  refine V_iconst eX11_aloneBy_1 ?_
  refine V_iconst eX11_aloneBy_2 ?_
  refine L_iload_n eX11_aloneBy_3 rfl ?_
  refine L_iload_n eX11_aloneBy_4 rfl ?_
  refine C_v1 (p_X11_farFrom hb (by omega) (by omega) hx hy) v_X11_378 eX11_aloneBy_5 rfl rfl ?_
  generalize hZ : rt (qP (A 84) (A 85) x y 0 0) = z0 at hQ hg
  refine L_lstore_n eX11_aloneBy_8 (t_3 rfl) ?_
  refine V_iconst eX11_aloneBy_9 ?_
  refine L_istore eX11_aloneBy_10 (s_5 rfl rfl) ?_
  have LOOP : ∀ (r j : Nat) (t : Int) (x6 x7 : Option Value), T + 1 < r + j → j ≤ T + 1 → t = j → V G mX11_aloneBy Q 0 0 12 [some (.ref 66), some (vi x), some (vi y), some (vl (gN (fun k t => rt (qP (A 84) (A 85) x y k t)) n z0 j)), none, some (vi t), x6, x7, none] [] (sw F A) := by
    intro r
    induction r with
    | zero => intro j t x6 x7 e1 e2; omega
    | succ r ih =>
      intro j t x6 x7 e1 e2 et
      refine L_iload eX11_aloneBy_12 rfl ?_
      refine L_aload_n eX11_aloneBy_14 rfl ?_
      refine L_get eX11_aloneBy_15 f_X11_127.g rfl rfl ?_
      -- at 18: .if_icmp .gt 53
      refine V_icmpgt eX11_aloneBy_18 (fun h2 => ?_) (fun h2 => ?_)
      · have e : j = T + 1 := by omega
        subst e
        refine L_lload_n eX11_aloneBy_71 rfl ?_
        -- at 72: .lreturn
        exact V_lreturn eX11_aloneBy_72 (by rw [← hQ]; exact ⟨rfl, rfl⟩)
      · subst et
        have ih1 := fun x6 x7 => ih (j + 1) ((j : Int) + 1) x6 x7 (by omega) (by omega) (by omega)
        have hs1 : gN (fun k t => rt (qP (A 84) (A 85) x y k t)) n z0 (j + 1) = mnF (fun i => rt (qP (A 84) (A 85) x y i j)) (gN (fun k t => rt (qP (A 84) (A 85) x y k t)) n z0 j) (n + 1) := rfl
        rw [hs1] at ih1
        have hgj := hg j e2
        generalize gN (fun k t => rt (qP (A 84) (A 85) x y k t)) n z0 j = L0 at ih1 hgj
        have IN : ∀ (r i : Nat) (k : Int) (x7 : Option Value), n + 1 < r + i → i ≤ n + 1 → k = i → V G mX11_aloneBy Q 0 0 24 [some (.ref 66), some (vi x), some (vi y), some (vl (mnF (fun i => rt (qP (A 84) (A 85) x y i j)) L0 i)), none, some (vi (j : Int)), some (vi k), x7, none] [] (sw F A) := by
          intro r
          induction r with
          | zero => intro i k x7 e3 e4; omega
          | succ r ihr =>
            intro i k x7 e3 e4 ek
            have hm := mnF_b (f := fun i => rt (qP (A 84) (A 85) x y i j)) hgj i (fun a ha => hmv _ _ (by omega) (by omega) (by omega) (by omega))
            refine L_iload eX11_aloneBy_24 rfl ?_
            refine L_aload_n eX11_aloneBy_26 rfl ?_
            refine L_get eX11_aloneBy_27 f_X11_121.g rfl rfl ?_
            -- at 30: .if_icmp .gt 35
            refine V_icmpgt eX11_aloneBy_30 (fun h3 => ?_) (fun h3 => ?_)
            · have e : i = n + 1 := by omega
              subst e
              refine L_iinc eX11_aloneBy_65 rfl (s_5 rfl rfl) ?_
              refine V_goto eX11_aloneBy_68 ?_
              exact ih1 _ _
            · subst ek
              have hv := hmv (i : Int) (j : Int) (by omega) (by omega) (by omega) (by omega)
              have hnx := fun x7 => ihr (i + 1) ((i : Int) + 1) x7 (by omega) (by omega) (by omega)
              have hs : mnF (fun i => rt (qP (A 84) (A 85) x y i j)) L0 (i + 1) = min (mnF (fun i => rt (qP (A 84) (A 85) x y i j)) L0 i) (rt (qP (A 84) (A 85) x y i j)) := rfl
              rw [hs] at hnx
              generalize mnF (fun i => rt (qP (A 84) (A 85) x y i j)) L0 i = m at hnx hm
              refine L_aload_n eX11_aloneBy_33 rfl ?_
              refine L_iload eX11_aloneBy_34 rfl ?_
              refine L_iload eX11_aloneBy_36 rfl ?_
              refine L_iload_n eX11_aloneBy_38 rfl ?_
              refine L_iload_n eX11_aloneBy_39 rfl ?_
              refine C_v1 (p_X11_farFrom hb (by omega) (by omega) hx hy) v_X11_378 eX11_aloneBy_40 rfl rfl ?_
              refine L_lstore eX11_aloneBy_43 (t_7 rfl) ?_
              refine L_lload eX11_aloneBy_45 rfl ?_
              refine L_lload_n eX11_aloneBy_47 rfl ?_
              -- at 48: .lcmp
              refine V_lcmpge eX11_aloneBy_48 eX11_aloneBy_49 (fun h4 => ?_) (fun h4 => ?_)
              · rw [Int.min_eq_left (by omega)] at hnx
                refine L_lload_n eX11_aloneBy_57 rfl ?_
                refine L_lstore_n eX11_aloneBy_58 (t_3 rfl) ?_
                refine L_iinc eX11_aloneBy_59 rfl (s_6 rfl rfl) ?_
                refine V_goto eX11_aloneBy_62 ?_
                exact hnx _
              · rw [Int.min_eq_right (by omega)] at hnx
                refine L_lload eX11_aloneBy_52 rfl ?_
                refine V_goto eX11_aloneBy_54 ?_
                refine L_lstore_n eX11_aloneBy_58 (t_3 rfl) ?_
                refine L_iinc eX11_aloneBy_59 rfl (s_6 rfl rfl) ?_
                refine V_goto eX11_aloneBy_62 ?_
                exact hnx _
        refine V_iconst eX11_aloneBy_21 ?_
        refine L_istore eX11_aloneBy_22 (s_6 rfl rfl) ?_
        exact IN (n + 2) 0 0 _ (by omega) (by omega) (by omega)
  exact LOOP (T + 2) 0 0 _ _ (by omega) (by omega) (by omega)
theorem p_X11_farOf {z : Int} (hb : bA (A 84, A 85)) (hz : 0 ≤ z ∧ z < 720) (ht : 0 ≤ A 86 z ∧ A 86 z ≤ 60) (hk : 0 ≤ A 87 z ∧ A 87 z ≤ 12) (hx : ab 5000 (F 66 11)) (hy : ab 5000 (F 66 12)) : Pu G mX11_farOf [.ref 66, vi z] F A (vi (rt (qP (A 84) (A 85) (F 66 11) (F 66 12) (A 87 z) (A 86 z)))) := by
  have hq := qP_b hb hx hy hk ht
  unfold ab at hq hx hy
  have hq2 := hq.2.2
  unfold qP at hq2
  refine L_ent [some (.ref 66), some (vi z), none] rfl ?_
  refine L_aload_n eX11_farOf_0 rfl ?_
  refine L_getR (r := 87) eX11_farOf_1 f_X11_78.g rfl rfl (by decide) ?_
  refine L_iload_n eX11_farOf_4 rfl ?_
  refine L_iald eX11_farOf_5 rfl ?_
  refine L_aload_n eX11_farOf_6 rfl ?_
  refine L_getR (r := 86) eX11_farOf_7 f_X11_75.g rfl rfl (by decide) ?_
  refine L_iload_n eX11_farOf_10 rfl ?_
  refine L_iald eX11_farOf_11 rfl ?_
  refine C_s1 p_X11_cell v_X11_284 eX11_farOf_12 rfl ?_
  refine L_istore_n eX11_farOf_15 (s_2 rfl rfl) ?_
  refine L_aload_n eX11_farOf_16 rfl ?_
  refine L_getR (r := 84) eX11_farOf_17 f_X11_65.g rfl rfl (by decide) ?_
  refine L_iload_n eX11_farOf_20 rfl ?_
  refine L_lald eX11_farOf_21 rfl ?_
  refine L_aload_n eX11_farOf_22 rfl ?_
  refine L_get eX11_farOf_23 f_X11_329.g rfl rfl ?_
  refine V_i2l eX11_farOf_26 ?_
  refine V_lsub eX11_farOf_27 ?_
  refine L_aload_n eX11_farOf_28 rfl ?_
  refine L_getR (r := 85) eX11_farOf_29 f_X11_69.g rfl rfl (by decide) ?_
  refine L_iload_n eX11_farOf_32 rfl ?_
  refine L_lald eX11_farOf_33 rfl ?_
  refine L_aload_n eX11_farOf_34 rfl ?_
  refine L_get eX11_farOf_35 f_X11_136.g rfl rfl ?_
  refine V_i2l eX11_farOf_38 ?_
  refine V_lsub eX11_farOf_39 ?_
  refine C_s1 (p_X11_span (by omega)) v_X11_288 eX11_farOf_40 rfl ?_
  refine V_l2i eX11_farOf_43 ?_
  exact V_ireturn eX11_farOf_44 ⟨rfl, rfl⟩
theorem p_X11_ofWhat {n : Nat} {z : Int} (hb : bA (A 84, A 85)) (h0 : F 66 0 = n) (hn : 1 ≤ n ∧ n ≤ 12) (hz : 0 ≤ z ∧ z < 720) (ht : 0 ≤ A 86 z ∧ A 86 z ≤ 60) (hk : 1 ≤ A 87 z ∧ A 87 z ≤ 12) : Pu G mX11_ofWhat [.ref 66, vi z] F A (vi (coP n (lpO (A 84) (A 85) n (A 86 z)) (A 87 z))) := by
  have hl := lpS_b hb ht (n - 1) (by omega)
  refine L_ent [some (.ref 66), some (vi z), none, none] rfl ?_
  refine L_aload_n eX11_ofWhat_0 rfl ?_
  refine L_aload_n eX11_ofWhat_1 rfl ?_
  refine L_getR (r := 86) eX11_ofWhat_2 f_X11_75.g rfl rfl (by decide) ?_
  refine L_iload_n eX11_ofWhat_5 rfl ?_
  refine L_iald eX11_ofWhat_6 rfl ?_
  refine C_v1 (p_X11_loopOf hb h0 hn ht) v_X11_323 eX11_ofWhat_7 rfl rfl ?_
  unfold coP
  unfold lpO
  generalize (lpS (A 84) (A 85) (A 86 z) (n - 1)).2 = lp at hl
  refine L_istore_n eX11_ofWhat_10 (s_2 rfl rfl) ?_
  refine L_aload_n eX11_ofWhat_11 rfl ?_
  refine L_getR (r := 87) eX11_ofWhat_12 f_X11_78.g rfl rfl (by decide) ?_
  refine L_iload_n eX11_ofWhat_15 rfl ?_
  refine L_iald eX11_ofWhat_16 rfl ?_
  refine L_istore_n eX11_ofWhat_17 (s_3 rfl rfl) ?_
  refine L_iload_n eX11_ofWhat_18 rfl ?_
  refine V_iflt eX11_ofWhat_19 (fun h19 => ?_) (fun h19 => ?_)
  · refine L_iload_n eX11_ofWhat_38 rfl ?_
    refine L_aload_n eX11_ofWhat_39 rfl ?_
    refine L_get eX11_ofWhat_40 f_X11_121.g rfl rfl ?_
    refine V_icmpne eX11_ofWhat_43 (fun h43 => ?_) (fun h43 => ?_)
    · refine V_iconst eX11_ofWhat_50 ?_
      exact V_ireturn eX11_ofWhat_51 ⟨by congr 2; repeat' split <;> omega, rfl⟩
    · refine V_iconst eX11_ofWhat_46 ?_
      refine V_goto eX11_ofWhat_47 ?_
      exact V_ireturn eX11_ofWhat_51 ⟨by congr 2; repeat' split <;> omega, rfl⟩
  · refine L_iload_n eX11_ofWhat_22 rfl ?_
    refine L_iload_n eX11_ofWhat_23 rfl ?_
    refine V_icmpeq eX11_ofWhat_24 (fun h24 => ?_) (fun h24 => ?_)
    · refine V_iconst eX11_ofWhat_34 ?_
      refine V_goto eX11_ofWhat_35 ?_
      exact V_ireturn eX11_ofWhat_51 ⟨by congr 2; repeat' split <;> omega, rfl⟩
    · refine L_iload_n eX11_ofWhat_27 rfl ?_
      refine L_iload_n eX11_ofWhat_28 rfl ?_
      refine V_iconst eX11_ofWhat_29 ?_
      refine V_isub eX11_ofWhat_30 ?_
      refine V_icmpne eX11_ofWhat_31 (fun h31 => ?_) (fun h31 => ?_)
      · refine L_iload_n eX11_ofWhat_38 rfl ?_
        refine L_aload_n eX11_ofWhat_39 rfl ?_
        refine L_get eX11_ofWhat_40 f_X11_121.g rfl rfl ?_
        refine V_icmpne eX11_ofWhat_43 (fun h43 => ?_) (fun h43 => ?_)
        · refine V_iconst eX11_ofWhat_50 ?_
          exact V_ireturn eX11_ofWhat_51 ⟨by congr 2; repeat' split <;> omega, rfl⟩
        · refine V_iconst eX11_ofWhat_46 ?_
          refine V_goto eX11_ofWhat_47 ?_
          exact V_ireturn eX11_ofWhat_51 ⟨by congr 2; repeat' split <;> omega, rfl⟩
      · refine V_iconst eX11_ofWhat_34 ?_
        refine V_goto eX11_ofWhat_35 ?_
        exact V_ireturn eX11_ofWhat_51 ⟨by congr 2; repeat' split <;> omega, rfl⟩
end P51

