/-! rows of STRANDS in an array -/
def lS (R : Int → Int) : Nat → Int → List Int
  | 0, _ => []
  | k + 1, i => R i :: lS R k (i + 1)
section P88
variable {R R' : Int → Int}
theorem lS_len : ∀ (k : Nat) (i : Int), (lS R k i).length = k := by
  intro k
  induction k with
  | zero => intro i; rfl
  | succ k ih => intro i; rw [lS, List.length_cons, ih]
theorem lS_rep {c : Int} : ∀ (k : Nat) (i : Int), (∀ j, i ≤ j → j < i + k → R j = c) → lS R k i = List.replicate k c := by
  intro k
  induction k with
  | zero => intro i _; rfl
  | succ k ih =>
    intro i h
    rw [lS, h i (by omega) (by omega), ih (i + 1) (fun j a b => h j (by omega) (by omega)), List.replicate_succ]
theorem lS_get : ∀ (k : Nat) (i : Int) (j : Nat), j < k → (lS R k i).getD j 0 = R (i + j) := by
  intro k
  induction k with
  | zero => intro i j h; omega
  | succ k ih =>
    intro i j h
    cases j with
    | zero => rw [lS, List.getD_cons_zero]; simp
    | succ j =>
      rw [lS, List.getD_cons_succ, ih (i + 1) j (by omega)]
      rw [show i + 1 + (j : Int) = i + ((j + 1 : Nat) : Int) by omega]
theorem lS_c : ∀ (k : Nat) (i : Int), (∀ j, i ≤ j → j < i + k → R j = R' j) → lS R k i = lS R' k i := by
  intro k
  induction k with
  | zero => intro i _; rfl
  | succ k ih =>
    intro i h
    rw [lS, lS, h i (by omega) (by omega), ih (i + 1) (fun j a b => h j (by omega) (by omega))]
theorem stL_lS {n : Nat} {i : Int} (h0 : 0 ≤ i) (h1 : i < n) : stL (lS R n 0) i = ltT (R i) := by
  unfold stL
  rw [lS_get n 0 i.toNat (by omega), show (0 : Int) + (i.toNat : Int) = i by omega]
theorem sI_cons {f : Nat → Int} : ∀ k : Nat, sI f (k + 1) = f 0 + sI (fun j => f (j + 1)) k := by
  intro k
  induction k with
  | zero => show 0 + f 0 = f 0 + 0; omega
  | succ k ih =>
    rw [sI, ih]
    show f 0 + sI (fun j => f (j + 1)) k + f (k + 1) = f 0 + (sI (fun j => f (j + 1)) k + f (k + 1))
    omega
theorem smL_lS : ∀ (k : Nat) (i : Int), smL (lS R k i) = sI (fun j => ltT (R (i + j))) k := by
  intro k
  induction k with
  | zero => intro i; rfl
  | succ k ih =>
    intro i
    rw [sI_cons]
    have e := ih (i + 1)
    unfold smL at *
    rw [lS, List.map_cons, List.sum_cons, e]
    congr 1
    · simp
    · refine sI_c k (fun j _ => ?_)
      rw [show i + 1 + (j : Int) = i + ((j + 1 : Nat) : Int) by omega]
theorem nx_none : ∀ (k : Nat) (i : Int), (∀ j, i ≤ j → j < i + k → R j = 4) → nxR (lS R k i) = none := by
  intro k
  induction k with
  | zero => intro i _; rfl
  | succ k ih =>
    intro i h
    rw [lS, nxR, ih (i + 1) (fun j a b => h j (by omega) (by omega)), h i (by omega) (by omega)]
    rfl
theorem nx_some : ∀ (k : Nat) (i m : Int), i ≤ m → m < i + k → R m ≠ 4 → (∀ j, m < j → j < i + k → R j = 4) → (∀ j, i ≤ j → j < m → R' j = R j) → (∀ j, m ≤ j → j < i + k → R' j = R m + 1) → nxR (lS R k i) = some (lS R' k i) := by
  intro k
  induction k with
  | zero => intro i m a b; omega
  | succ k ih =>
    intro i m a b c d e f
    by_cases q : i = m
    · subst q
      rw [lS, nxR, nx_none k (i + 1) (fun j a b => d j (by omega) (by omega))]
      show (if R i = 4 then none else some (List.replicate ((lS R k (i + 1)).length + 1) (R i + 1))) = some (lS R' (k + 1) i)
      rw [if_neg c, lS_len, lS_rep (k + 1) i (fun j a b => f j a b)]
    · rw [lS, nxR, ih (i + 1) m (by omega) (by omega) c (fun j a b => d j a (by omega)) (fun j a b => e j (by omega) b) (fun j a b => f j a (by omega))]
      show some (R i :: lS R' k (i + 1)) = some (R' i :: lS R' k (i + 1))
      rw [e i (by omega) (by omega)]
/-- the rows come to an end -/
def enR : Nat → List Int → Bool
  | 0, _ => false
  | k + 1, l => match nxR l with
    | none => true
    | some l' => enR k l'
theorem en_8 : ∀ n : Nat, n ≤ 8 → enR 495 (List.replicate n 0) = true := by
  intro n h
  rcases (show n = 0 ∨ n = 1 ∨ n = 2 ∨ n = 3 ∨ n = 4 ∨ n = 5 ∨ n = 6 ∨ n = 7 ∨ n = 8 by omega) with e | e | e | e | e | e | e | e | e <;> subst e <;> decide +kernel
theorem gM_c {v v' : Int → Int → Int} {n T : Nat} (h : ∀ k t : Int, 1 ≤ k → k ≤ n → 1 ≤ t → t ≤ T → v k t = v' k t) : ∀ j : Nat, j ≤ T → gM v n j = gM v' n j := by
  have hx : ∀ (f f' : Nat → Int) (a : Int) (m : Nat), (∀ j, j < m → f j = f' j) → mxF f a m = mxF f' a m := by
    intro f f' a m
    induction m with
    | zero => intro _; rfl
    | succ m ih =>
      intro q
      rw [mxF, mxF, ih (fun j hj => q j (by omega)), q m (by omega)]
  intro j
  induction j with
  | zero => intro _; rfl
  | succ j ih =>
    intro hj
    rw [gM, gM, ih (by omega)]
    exact hx _ _ _ n (fun i hi => h _ _ (by omega) (by omega) (by omega) (by omega))
theorem ltT_b (s : Int) : 2 ≤ ltT s ∧ ltT s ≤ 12 := by
  unfold ltT
  by_cases a : s = 0
  · rw [if_pos a]; omega
  · rw [if_neg a]
    by_cases b : s = 1
    · rw [if_pos b]; omega
    · rw [if_neg b]
      by_cases c : s = 2
      · rw [if_pos c]; omega
      · rw [if_neg c]
        by_cases d : s = 3
        · rw [if_pos d]; omega
        · rw [if_neg d]; omega
end P88
section Q88
variable {G : gT} {F : fT} {A : nT}
def lyF (R S : Int → Int) (j : Int) : Int → Int := fun i => if 0 ≤ i ∧ i < j then ltT (R i) else S i
theorem lyF_0 {R S : Int → Int} : lyF R S 0 = S := by
  funext i
  unfold lyF
  rw [if_neg (by omega)]
theorem lyF_s {R S : Int → Int} {j : Int} (hj : 0 ≤ j) : uI (lyF R S j) j (ltT (R j)) = lyF R S (j + 1) := by
  funext i
  simp only [uI, lyF]
  by_cases c : i = j
  · rw [if_pos c, if_pos (by omega), c]
  · rw [if_neg c]
    by_cases d : 0 ≤ i ∧ i < j
    · rw [if_pos d, if_pos (by omega)]
    · rw [if_neg d, if_neg (by omega)]
theorem p_X5_layRow {n : Nat} (h0 : F 55 0 = n) (hn : n ≤ 8) (hR : ∀ j : Int, 0 ≤ j → j < n → 0 ≤ A 54 j ∧ A 54 j ≤ 4) : Mu G mX5_layRow [.ref 52] F A none F (sA A 56 (lyF (A 54) (A 56) n)) := by
  refine L_ent [some (.ref 52), none] rfl ?_
  generalize hQ : (fun (r' : Option Value) (w : wT) => r' = none ∧ w = sw F (sA A 56 (lyF (A 54) (A 56) n))) = Q
  refine V_iconst eX5_layRow_0 ?_
  refine L_istore_n eX5_layRow_1 (s_1 rfl rfl) ?_
  have LOOP : ∀ (r j : Nat) (i : Int), n < r + j → j ≤ n → i = j → V G mX5_layRow Q 0 0 2 [some (.ref 52), some (vi i)] [] (sw F (sA A 56 (lyF (A 54) (A 56) i))) := by
    intro r
    induction r with
    | zero => intro j i e1 e2; omega
    | succ r ih =>
      intro j i e1 e2 ei
      refine L_iload_n eX5_layRow_2 rfl ?_
      refine L_aload_n eX5_layRow_3 rfl ?_
      refine L_getR (r := 55) eX5_layRow_4 f_X5_28.g rfl rfl (by decide) ?_
      refine L_get eX5_layRow_7 f_X5_39.g rfl rfl ?_
      -- at 10: .if_icmp .ge 28
      refine V_icmpge eX5_layRow_10 (fun h2 => ?_) (fun h2 => ?_)
      · have e : i = n := by omega
        subst e
        refine V_return eX5_layRow_38 ?_
        rw [← hQ]
        exact ⟨rfl, rfl⟩
      · have hr := hR i (by omega) (by omega)
        have e54 : sA A 56 (lyF (A 54) (A 56) i) 54 = A 54 := sA_ne (by decide)
        refine L_aload_n eX5_layRow_13 rfl ?_
        refine L_getR (r := 55) eX5_layRow_14 f_X5_28.g rfl rfl (by decide) ?_
        refine L_getR (r := 56) eX5_layRow_17 f_X5_73 rfl rfl (by decide) ?_
        refine L_iload_n eX5_layRow_20 rfl ?_
        refine L_getsN (j := 5) eX5_layRow_21 z_X5_76 ?_
        refine L_aload_n eX5_layRow_24 rfl ?_
        refine L_getR (r := 54) eX5_layRow_25 f_X5_22.g rfl rfl (by decide) ?_
        refine L_iload_n eX5_layRow_28 rfl ?_
        refine L_ialdE eX5_layRow_29 rfl e54 ?_
        refine L_ialdS (j := 5) eX5_layRow_30 (by decide) ?_ (by show 0 ≤ _ ∧ _ < ((5 : Nat) : Int); omega)
        rw [lt_tab (by omega)]
        refine L_iast eX5_layRow_31 rfl ?_
        refine L_iinc eX5_layRow_32 rfl (s_1 rfl rfl) ?_
        refine V_goto eX5_layRow_35 ?_
        rw [sA_sA, sA_eq, lyF_s (by omega)]
        exact ih (j + 1) _ (by omega) (by omega) (by omega)
  have := LOOP (n + 1) 0 0 (by omega) (by omega) (by omega)
  rw [lyF_0, sA_self] at this
  exact this
theorem p_X5_compare_no {v : Int} (hv : 0 ≤ v ∧ v < 400000) (hb : -1 ≤ F 52 1 ∧ F 52 1 < 400000) (h : ¬ F 52 1 < v) : Mu G mX5_compare [.ref 52, vi v] F A none F A := by
  refine L_ent [some (.ref 52), some (vi v)] rfl ?_
  refine L_iload_n eX5_compare_0 rfl ?_
  refine L_aload_n eX5_compare_1 rfl ?_
  refine L_get eX5_compare_2 f_X5_15.g rfl rfl ?_
  -- at 5: .if_icmp .le 31
  refine V_icmple eX5_compare_5 (fun h2 => ?_) (fun h2 => ?_)
  · exact V_return eX5_compare_36 ⟨rfl, rfl⟩
  · omega
theorem p_X5_compare_yes {v : Int} {n : Nat} (hv : 0 ≤ v ∧ v < 400000) (hb : -1 ≤ F 52 1 ∧ F 52 1 < 400000) (h0 : F 55 0 = n) (hn : n ≤ 8) (h : F 52 1 < v) : Mu G mX5_compare [.ref 52, vi v] F A none (uF F 52 1 v) (sA A 53 (cpI (A 56) (A 53) n)) := by
  have e0 : uF F 52 1 v 55 0 = n := by rw [uF_ne (by decide)]; exact h0
  refine L_ent [some (.ref 52), some (vi v)] rfl ?_
  refine L_iload_n eX5_compare_0 rfl ?_
  refine L_aload_n eX5_compare_1 rfl ?_
  refine L_get eX5_compare_2 f_X5_15.g rfl rfl ?_
  -- at 5: .if_icmp .le 31
  refine V_icmple eX5_compare_5 (fun h2 => ?_) (fun h2 => ?_)
  · omega
  · refine L_aload_n eX5_compare_8 rfl ?_
    refine L_iload_n eX5_compare_9 rfl ?_
    refine L_put eX5_compare_10 f_X5_15 rfl rfl ?_
    refine L_aload_n eX5_compare_13 rfl ?_
    refine L_getR (r := 55) eX5_compare_14 f_X5_28.g rfl rfl (by decide) ?_
    refine L_getR (r := 56) eX5_compare_17 f_X5_73 rfl rfl (by decide) ?_
    refine V_iconst eX5_compare_20 ?_
    refine L_aload_n eX5_compare_21 rfl ?_
    refine L_getR (r := 53) eX5_compare_22 f_X5_18.g rfl rfl (by decide) ?_
    refine V_iconst eX5_compare_25 ?_
    refine L_aload_n eX5_compare_26 rfl ?_
    refine L_getR (r := 55) eX5_compare_27 f_X5_28.g rfl rfl (by decide) ?_
    refine L_get eX5_compare_30 f_X5_39.g rfl rfl ?_
    rw [e0]
    refine L_acopy eX5_compare_33 v_X5_79 rfl rfl ?_
    exact V_return eX5_compare_36 ⟨rfl, rfl⟩
theorem p_X5_nextRow {n : Nat} (h0 : F 55 0 = n) (hn : 1 ≤ n ∧ n ≤ 8) (hR : ∀ j : Int, 0 ≤ j → j < n → 0 ≤ A 54 j ∧ A 54 j ≤ 4) : ∃ b R', (∀ G : gT, Mu G mX5_nextRow [.ref 52] F A (some (vi b)) F (sA A 54 R')) ∧ ((b = 1 ∧ nxR (lS (A 54) n 0) = some (lS R' n 0) ∧ ∀ j : Int, 0 ≤ j → j < n → 0 ≤ R' j ∧ R' j ≤ 4) ∨ (b = 0 ∧ nxR (lS (A 54) n 0) = none ∧ R' = A 54)) := by
  -- the last PIECE that can have fewer
  have key : ∀ k : Nat, k ≤ n → (∀ j : Int, k ≤ j → j < n → A 54 j = 4) ∨ ∃ m : Int, k ≤ m ∧ m < n ∧ A 54 m ≠ 4 ∧ ∀ j : Int, m < j → j < n → A 54 j = 4 := by
    have key2 : ∀ r k : Nat, k + r = n → (∀ j : Int, k ≤ j → j < n → A 54 j = 4) ∨ ∃ m : Int, k ≤ m ∧ m < n ∧ A 54 m ≠ 4 ∧ ∀ j : Int, m < j → j < n → A 54 j = 4 := by
      intro r
      induction r with
      | zero => intro k e; left; intro j a b; omega
      | succ r ih =>
        intro k e
        rcases ih (k + 1) (by omega) with q | ⟨m, a, b, c, d⟩
        · by_cases c : A 54 k = 4
          · left
            intro j a b
            by_cases f : j = k
            · rw [f]; exact c
            · exact q j (by omega) b
          · exact Or.inr ⟨k, by omega, by omega, c, fun j a b => q j (by omega) b⟩
        · exact Or.inr ⟨m, by omega, b, c, d⟩
    exact fun k hk => key2 (n - k) k (by omega)
  rcases key 0 (by omega) with q | ⟨m, m0, mn, m4, mq⟩
  · refine ⟨0, A 54, fun G => ?_, Or.inr ⟨rfl, nx_none n 0 (fun j a b => q j (by omega) (by omega)), rfl⟩⟩
    rw [sA_self]
    refine L_ent [some (.ref 52), none, none, none] rfl ?_
    refine L_aload_n eX5_nextRow_0 rfl ?_
    refine L_getR (r := 55) eX5_nextRow_1 f_X5_28.g rfl rfl (by decide) ?_
    refine L_get eX5_nextRow_4 f_X5_39.g rfl rfl ?_
    refine V_iconst eX5_nextRow_7 ?_
    refine V_isub eX5_nextRow_8 ?_
    refine L_istore_n eX5_nextRow_9 (s_1 rfl rfl) ?_
    have LOOP : ∀ (r : Nat) (i : Int), i + 1 = r → i < n → V G mX5_nextRow (fun r' w => r' = some (vi 0) ∧ w = sw F A) 0 0 10 [some (.ref 52), some (vi i), none, none] [] (sw F A) := by
      intro r
      induction r with
      | zero =>
        intro i e1 e2
        refine L_iload_n eX5_nextRow_10 rfl ?_
        -- at 11: .ifCond .lt 61
        refine V_iflt eX5_nextRow_11 (fun h2 => ?_) (fun h2 => ?_)
        · refine V_iconst eX5_nextRow_72 ?_
          -- at 73: .ireturn
          exact V_zreturn (by first | exact nar_z (by omega) | rfl) eX5_nextRow_73 ⟨rfl, rfl⟩
        · omega
      | succ r ih =>
        intro i e1 e2
        have q4 := q i (by omega) (by omega)
        refine L_iload_n eX5_nextRow_10 rfl ?_
        -- at 11: .ifCond .lt 61
        refine V_iflt eX5_nextRow_11 (fun h2 => ?_) (fun h2 => ?_)
        · omega
        · refine L_aload_n eX5_nextRow_14 rfl ?_
          refine L_getR (r := 54) eX5_nextRow_15 f_X5_22.g rfl rfl (by decide) ?_
          refine L_iload_n eX5_nextRow_18 rfl ?_
          refine L_iald eX5_nextRow_19 rfl ?_
          refine L_getsN (j := 5) eX5_nextRow_20 z_X5_76 ?_
          refine V_lenS (j := 5) (by decide) eX5_nextRow_23 ?_
          refine V_iconst eX5_nextRow_24 ?_
          refine V_isub eX5_nextRow_25 ?_
          have hl : ((stV 5).length : Int) = 5 := rfl
          refine V_icmpge eX5_nextRow_26 (fun h3 => ?_) (fun h3 => ?_)
          · refine L_iinc eX5_nextRow_66 rfl (s_1 rfl rfl) ?_
            refine V_goto eX5_nextRow_69 ?_
            exact ih _ (by omega) (by omega)
          · omega
    exact LOOP n _ (by omega) (by omega)
  · have hm := hR m (by omega) mn
    obtain ⟨R2, eR2⟩ : ∃ R2 : Int → Int, R2 = fun i => if m ≤ i ∧ i < n then A 54 m + 1 else A 54 i := ⟨_, rfl⟩
    refine ⟨1, R2, fun G => ?_, Or.inl ⟨rfl, ?_, ?_⟩⟩
    · refine L_ent [some (.ref 52), none, none, none] rfl ?_
      generalize hQ : (fun (r' : Option Value) (w : wT) => r' = some (vi 1) ∧ w = sw F (sA A 54 R2)) = Q
      refine L_aload_n eX5_nextRow_0 rfl ?_
      refine L_getR (r := 55) eX5_nextRow_1 f_X5_28.g rfl rfl (by decide) ?_
      refine L_get eX5_nextRow_4 f_X5_39.g rfl rfl ?_
      refine V_iconst eX5_nextRow_7 ?_
      refine V_isub eX5_nextRow_8 ?_
      refine L_istore_n eX5_nextRow_9 (s_1 rfl rfl) ?_
      have FILL : ∀ (r : Nat) (j : Int), j + r = n → m ≤ j → V G mX5_nextRow Q 0 0 40 [some (.ref 52), some (vi m), some (vi (A 54 m + 1)), some (vi j)] [] (sw F (sA A 54 (fun i => if m ≤ i ∧ i < j then A 54 m + 1 else A 54 i))) := by
        intro r
        induction r with
        | zero =>
          intro j e1 e2
          have e : j = n := by omega
          subst e
          refine L_iload_n eX5_nextRow_40 rfl ?_
          refine L_aload_n eX5_nextRow_41 rfl ?_
          refine L_getR (r := 55) eX5_nextRow_42 f_X5_28.g rfl rfl (by decide) ?_
          refine L_get eX5_nextRow_45 f_X5_39.g rfl rfl ?_
          -- at 48: .if_icmp .ge 16
          refine V_icmpge eX5_nextRow_48 (fun h2 => ?_) (fun h2 => ?_)
          · refine V_iconst eX5_nextRow_64 ?_
            -- at 65: .ireturn
            exact V_zreturn (by first | exact nar_z (by omega) | rfl) eX5_nextRow_65 (by rw [← hQ, eR2]; exact ⟨rfl, rfl⟩)
          · omega
        | succ r ih =>
          intro j e1 e2
          refine L_iload_n eX5_nextRow_40 rfl ?_
          refine L_aload_n eX5_nextRow_41 rfl ?_
          refine L_getR (r := 55) eX5_nextRow_42 f_X5_28.g rfl rfl (by decide) ?_
          refine L_get eX5_nextRow_45 f_X5_39.g rfl rfl ?_
          -- at 48: .if_icmp .ge 16
          refine V_icmpge eX5_nextRow_48 (fun h2 => ?_) (fun h2 => ?_)
          · omega
          · refine L_aload_n eX5_nextRow_51 rfl ?_
            refine L_getR (r := 54) eX5_nextRow_52 f_X5_22.g rfl rfl (by decide) ?_
            refine L_iload_n eX5_nextRow_55 rfl ?_
            refine L_iload_n eX5_nextRow_56 rfl ?_
            refine L_iast eX5_nextRow_57 rfl ?_
            refine L_iinc eX5_nextRow_58 rfl (s_3 rfl rfl) ?_
            refine V_goto eX5_nextRow_61 ?_
            rw [sA_sA, sA_eq, show uI (fun i => if m ≤ i ∧ i < j then A 54 m + 1 else A 54 i) j (A 54 m + 1) = (fun i => if m ≤ i ∧ i < j + 1 then A 54 m + 1 else A 54 i) by
              funext i
              simp only [uI]
              by_cases c : i = j
              · rw [if_pos c, if_pos (by omega)]
              · rw [if_neg c]
                by_cases d : m ≤ i ∧ i < j
                · rw [if_pos d, if_pos (by omega)]
                · rw [if_neg d, if_neg (by omega)]]
            exact ih _ (by omega) (by omega)
      have fill0 := FILL (n - m).toNat m (by omega) (by omega)
      rw [show (fun i => if m ≤ i ∧ i < m then A 54 m + 1 else A 54 i) = A 54 by funext i; rw [if_neg (by omega)], sA_self] at fill0
      have LOOP : ∀ (r : Nat) (i : Int), i = m + r → i < n → V G mX5_nextRow Q 0 0 10 [some (.ref 52), some (vi i), none, none] [] (sw F A) := by
        intro r
        induction r with
        | zero =>
          intro i e1 e2
          have e : i = m := by omega
          subst e
          have hl : ((stV 5).length : Int) = 5 := rfl
          refine L_iload_n eX5_nextRow_10 rfl ?_
          -- at 11: .ifCond .lt 61
          refine V_iflt eX5_nextRow_11 (fun h2 => ?_) (fun h2 => ?_)
          · omega
          · refine L_aload_n eX5_nextRow_14 rfl ?_
            refine L_getR (r := 54) eX5_nextRow_15 f_X5_22.g rfl rfl (by decide) ?_
            refine L_iload_n eX5_nextRow_18 rfl ?_
            refine L_iald eX5_nextRow_19 rfl ?_
            refine L_getsN (j := 5) eX5_nextRow_20 z_X5_76 ?_
            refine V_lenS (j := 5) (by decide) eX5_nextRow_23 ?_
            refine V_iconst eX5_nextRow_24 ?_
            refine V_isub eX5_nextRow_25 ?_
            refine V_icmpge eX5_nextRow_26 (fun h3 => ?_) (fun h3 => ?_)
            · omega
            · refine L_aload_n eX5_nextRow_29 rfl ?_
              refine L_getR (r := 54) eX5_nextRow_30 f_X5_22.g rfl rfl (by decide) ?_
              refine L_iload_n eX5_nextRow_33 rfl ?_
              refine L_iald eX5_nextRow_34 rfl ?_
              refine V_iconst eX5_nextRow_35 ?_
              refine V_iadd eX5_nextRow_36 ?_
              refine L_istore_n eX5_nextRow_37 (s_2 rfl rfl) ?_
              refine L_iload_n eX5_nextRow_38 rfl ?_
              refine L_istore_n eX5_nextRow_39 (s_3 rfl rfl) ?_
              exact fill0
        | succ r ih =>
          intro i e1 e2
          have q4 := mq i (by omega) (by omega)
          have hl : ((stV 5).length : Int) = 5 := rfl
          refine L_iload_n eX5_nextRow_10 rfl ?_
          -- at 11: .ifCond .lt 61
          refine V_iflt eX5_nextRow_11 (fun h2 => ?_) (fun h2 => ?_)
          · omega
          · refine L_aload_n eX5_nextRow_14 rfl ?_
            refine L_getR (r := 54) eX5_nextRow_15 f_X5_22.g rfl rfl (by decide) ?_
            refine L_iload_n eX5_nextRow_18 rfl ?_
            refine L_iald eX5_nextRow_19 rfl ?_
            refine L_getsN (j := 5) eX5_nextRow_20 z_X5_76 ?_
            refine V_lenS (j := 5) (by decide) eX5_nextRow_23 ?_
            refine V_iconst eX5_nextRow_24 ?_
            refine V_isub eX5_nextRow_25 ?_
            refine V_icmpge eX5_nextRow_26 (fun h3 => ?_) (fun h3 => ?_)
            · refine L_iinc eX5_nextRow_66 rfl (s_1 rfl rfl) ?_
              refine V_goto eX5_nextRow_69 ?_
              exact ih _ (by omega) (by omega)
            · omega
      exact LOOP (n - 1 - m).toNat _ (by omega) (by omega)
    · refine nx_some n 0 m m0 (by omega) m4 (fun j a b => mq j a (by omega)) (fun j a b => ?_) (fun j a b => ?_)
      · rw [eR2]
        exact if_neg (by omega)
      · rw [eR2]
        exact if_pos (by omega)
    · intro j a b
      rw [eR2]
      show 0 ≤ (if m ≤ j ∧ j < n then A 54 m + 1 else A 54 j) ∧ (if m ≤ j ∧ j < n then A 54 m + 1 else A 54 j) ≤ 4
      by_cases c : m ≤ j ∧ j < n
      · rw [if_pos c]; omega
      · rw [if_neg c]
        exact hR j a b
end Q88

