/-! THE TEXT from a place on: blanks, letters, figures -/
def rnE (P : Int → Bool) (T : Int → Int) (n : Int) : Nat → Int → Int
  | 0, p => p
  | r + 1, p => if p < n ∧ P (T p) = true then rnE P T n r (p + 1) else p
def rn (P : Int → Bool) (T : Int → Int) (n p : Int) : Int := rnE P T n (n - p).toNat p
def isBl (c : Int) : Bool := c == 32
def isLt (c : Int) : Bool := decide (97 ≤ c) && decide (c ≤ 122)
def isDg (c : Int) : Bool := decide (48 ≤ c) && decide (c ≤ 57)
theorem isBl_i {c : Int} : isBl c = true ↔ c = 32 := by unfold isBl; simp
theorem isLt_i {c : Int} : isLt c = true ↔ 97 ≤ c ∧ c ≤ 122 := by unfold isLt; simp
theorem isDg_i {c : Int} : isDg c = true ↔ 48 ≤ c ∧ c ≤ 57 := by unfold isDg; simp
section P98b
variable {P : Int → Bool} {T : Int → Int} {n p : Int}
theorem rn_go (h : p < n ∧ P (T p) = true) : rn P T n p = rn P T n (p + 1) := by
  unfold rn
  rw [show (n - p).toNat = (n - (p + 1)).toNat + 1 by omega, rnE, if_pos h]
theorem rn_no (h : ¬ (p < n ∧ P (T p) = true)) : rn P T n p = p := by
  unfold rn
  cases hx : (n - p).toNat with
  | zero => rfl
  | succ r => rw [rnE, if_neg h]
theorem rn_b : ∀ (r : Nat) (p : Int), p + r = n → p ≤ rn P T n p ∧ rn P T n p ≤ n := by
  intro r
  induction r with
  | zero => intro p e; rw [rn_no (by omega)]; omega
  | succ r ih =>
    intro p e
    by_cases c : p < n ∧ P (T p) = true
    · rw [rn_go c]
      have := ih (p + 1) (by omega)
      omega
    · rw [rn_no c]; omega
theorem rn_ge (h : p ≤ n) : p ≤ rn P T n p ∧ rn P T n p ≤ n := rn_b (n - p).toNat p (by omega)
theorem rn_end : ∀ (r : Nat) (p : Int), p + r = n → ¬ (rn P T n p < n ∧ P (T (rn P T n p)) = true) := by
  intro r
  induction r with
  | zero => intro p e; rw [rn_no (by omega)]; omega
  | succ r ih =>
    intro p e
    by_cases c : p < n ∧ P (T p) = true
    · rw [rn_go c]
      exact ih (p + 1) (by omega)
    · rw [rn_no c]; exact c
theorem rn_stop (h : p ≤ n) : ¬ (rn P T n p < n ∧ P (T (rn P T n p)) = true) := rn_end (n - p).toNat p (by omega)
theorem rn_in : ∀ (r : Nat) (p : Int), p + r = n → ∀ k, p ≤ k → k < rn P T n p → P (T k) = true := by
  intro r
  induction r with
  | zero => intro p e k a b; rw [rn_no (by omega)] at b; omega
  | succ r ih =>
    intro p e k a b
    by_cases c : p < n ∧ P (T p) = true
    · rw [rn_go c] at b
      by_cases f : k = p
      · rw [f]; exact c.2
      · exact ih (p + 1) (by omega) k (by omega) b
    · rw [rn_no c] at b; omega
theorem rn_eq {e : Int} : ∀ (r : Nat) (p : Int), p + r = e → e ≤ n → (∀ k, p ≤ k → k < e → P (T k) = true) → ¬ (e < n ∧ P (T e) = true) → rn P T n p = e := by
  intro r
  induction r with
  | zero => intro p h1 h2 h3 h4; rw [show p = e by omega]; exact rn_no h4
  | succ r ih =>
    intro p h1 h2 h3 h4
    rw [rn_go ⟨by omega, h3 p (by omega) (by omega)⟩]
    exact ih (p + 1) (by omega) h2 (fun k a b => h3 k (by omega) b) h4
theorem rn_rn (h : p ≤ n) : rn P T n (rn P T n p) = rn P T n p := rn_no (rn_stop h)
end P98b
def skp (T : Int → Int) (n p : Int) : Int := rn isBl T n p
def lrn (T : Int → Int) (n p : Int) : Int := rn isLt T n p
def drn (T : Int → Int) (n p : Int) : Int := rn isDg T n p
/-- the sign at a place; none: -1 -/
def chA (T : Int → Int) (n p : Int) : Int := if p < n then T p else -1
/-- the word j stands at q -/
def wm (T : Int → Int) (n : Int) (j : Nat) (q : Int) : Prop := lrn T n q = q + sLn.getD j 0 ∧ ∀ k : Int, 0 ≤ k → k < sLn.getD j 0 → T (q + k) = wdC j k
/-- k figures from p on -/
def dvl (T : Int → Int) (p : Int) : Nat → Int
  | 0 => 0
  | k + 1 => dvl T p k * 10 + T (p + k) - 48
/-- what is text -/
def txT (n : Int) (T : Int → Int) : Prop := (0 ≤ n ∧ n ≤ 160) ∧ ∀ i : Int, 0 ≤ i → i < n → 0 ≤ T i ∧ T i ≤ 255
section Q98b
variable {T : Int → Int} {n : Int} {j : Nat} {q : Int}
theorem wm_i (hj : j < 8) (hq : 0 ≤ q ∧ q ≤ n) : wm T n j q ↔ (q + sLn.getD j 0 ≤ n ∧ ¬ (q + sLn.getD j 0 < n ∧ isLt (T (q + sLn.getD j 0)) = true) ∧ ∀ k : Int, 0 ≤ k → k < sLn.getD j 0 → T (q + k) = wdC j k) := by
  have hl := rn_ge (P := isLt) (T := T) (n := n) (p := q) hq.2
  constructor
  · rintro ⟨a, b⟩
    unfold lrn at a
    have hs := rn_stop (P := isLt) (T := T) (n := n) (p := q) hq.2
    rw [a] at hs hl
    exact ⟨hl.2, hs, b⟩
  · rintro ⟨a, b, c⟩
    refine ⟨?_, c⟩
    unfold lrn
    refine rn_eq (sLn.getD j 0) q (by omega) a (fun k x y => ?_) b
    have := c (k - q) (by omega) (by omega)
    rw [show q + (k - q) = k by omega] at this
    rw [this, isLt_i]
    exact (wdC_b hj (k := k - q) (by omega)).2.2
theorem dvl_b {p : Int} : ∀ k : Nat, (∀ i : Int, 0 ≤ i → i < k → 48 ≤ T (p + i) ∧ T (p + i) ≤ 57) → 0 ≤ dvl T p k ∧ (k ≤ 3 → dvl T p k ≤ 999) ∧ (k ≤ 2 → dvl T p k ≤ 99) ∧ (k ≤ 1 → dvl T p k ≤ 9) ∧ (k = 0 → dvl T p k = 0) := by
  intro k
  induction k with
  | zero => intro _; exact ⟨Int.le_refl _, fun _ => by show (0 : Int) ≤ 999; omega, fun _ => by show (0 : Int) ≤ 99; omega, fun _ => by show (0 : Int) ≤ 9; omega, fun _ => rfl⟩
  | succ k ih =>
    intro h
    have a := ih (fun i x y => h i x (by omega))
    have b := h k (by omega) (by omega)
    rw [dvl]
    refine ⟨by omega, fun c => ?_, fun c => ?_, fun c => ?_, fun c => by omega⟩
    · have := a.2.2.1 (by omega); omega
    · have := a.2.2.2.1 (by omega); omega
    · have := a.2.2.2.2 (by omega); omega
end Q98b
section R98b
variable {G : gT} {F : fT} {A : nT} {T : Int → Int} {n : Int} {j : Nat}
theorem p_X7_next (hT : txT n (A 29)) (hn : F 28 1 = n) {a : Int} (ha : F 28 2 = a) (hab : 0 ≤ a ∧ a ≤ n) : Mu G mX7_next [.ref 28] F A (some (vi (chA (A 29) n (skp (A 29) n a)))) (uF F 28 2 (skp (A 29) n a)) A := by
  obtain ⟨hn1, hT1⟩ := hT
  refine L_ent [some (.ref 28)] rfl ?_
  generalize hQ : (fun (r' : Option Value) (w : wT) => r' = some (vi (chA (A 29) n (skp (A 29) n a))) ∧ w = sw (uF F 28 2 (skp (A 29) n a)) A) = Q
  have LOOP : ∀ (r : Nat) (p : Int), p + r = n → 0 ≤ p → skp (A 29) n p = skp (A 29) n a → V G mX7_next Q 0 0 0 [some (.ref 28)] [] (sw (uF F 28 2 p) A) := by
    intro r
    induction r with
    | zero =>
      intro p e1 e2 e3
      have es : skp (A 29) n p = p := rn_no (by omega)
      rw [es] at e3
      have f2 : uF F 28 2 p 28 2 = p := uF_eq
      have f1 : uF F 28 2 p 28 1 = n := by rw [uF_ne (by decide)]; exact hn
      have ec : chA (A 29) n p = -1 := if_neg (by omega)
      refine L_aload_n eX7_next_0 rfl ?_
      refine L_get eX7_next_1 f_X7_19.g rfl rfl ?_
      refine L_aload_n eX7_next_4 rfl ?_
      refine L_get eX7_next_5 f_X7_15.g rfl rfl ?_
      -- at 8: .if_icmp .ge 30
      refine V_icmpge eX7_next_8 (fun h2 => ?_) (fun h2 => ?_)
      · refine L_aload_n eX7_next_38 rfl ?_
        refine L_get eX7_next_39 f_X7_19.g rfl rfl ?_
        refine L_aload_n eX7_next_42 rfl ?_
        refine L_get eX7_next_43 f_X7_15.g rfl rfl ?_
        -- at 46: .if_icmp .ge 15
        refine V_icmpge eX7_next_46 (fun h3 => ?_) (fun h3 => ?_)
        · refine V_iconst eX7_next_61 ?_
          -- at 62: .ireturn
          exact V_ireturn eX7_next_62 (by rw [← hQ, ← e3, ec]; exact ⟨rfl, rfl⟩)
        · omega
      · omega
    | succ r ih =>
      intro p e1 e2 e3
      have f2 : uF F 28 2 p 28 2 = p := uF_eq
      have f1 : uF F 28 2 p 28 1 = n := by rw [uF_ne (by decide)]; exact hn
      have hb := hT1 p e2 (by omega)
      refine L_aload_n eX7_next_0 rfl ?_
      refine L_get eX7_next_1 f_X7_19.g rfl rfl ?_
      refine L_aload_n eX7_next_4 rfl ?_
      refine L_get eX7_next_5 f_X7_15.g rfl rfl ?_
      -- at 8: .if_icmp .ge 30
      refine V_icmpge eX7_next_8 (fun h2 => ?_) (fun h2 => ?_)
      · omega
      · refine L_aload_n eX7_next_11 rfl ?_
        refine L_getR (r := 29) eX7_next_12 f_X7_9.g rfl rfl (by decide) ?_
        refine L_aload_n eX7_next_15 rfl ?_
        refine L_get eX7_next_16 f_X7_19.g rfl rfl ?_
        rw [f2]
        refine L_iald eX7_next_19 rfl ?_
        refine L_bipush eX7_next_20 rfl ?_
        -- at 22: .if_icmp .ne 16
        refine V_icmpne eX7_next_22 (fun h3 => ?_) (fun h3 => ?_)
        · have es : skp (A 29) n p = p := rn_no (by rw [isBl_i]; omega)
          rw [es] at e3
          have ec : chA (A 29) n p = A 29 p := if_pos (by omega)
          refine L_aload_n eX7_next_38 rfl ?_
          refine L_get eX7_next_39 f_X7_19.g rfl rfl ?_
          refine L_aload_n eX7_next_42 rfl ?_
          refine L_get eX7_next_43 f_X7_15.g rfl rfl ?_
          -- at 46: .if_icmp .ge 15
          refine V_icmpge eX7_next_46 (fun h4 => ?_) (fun h4 => ?_)
          · omega
          · refine L_aload_n eX7_next_49 rfl ?_
            refine L_getR (r := 29) eX7_next_50 f_X7_9.g rfl rfl (by decide) ?_
            refine L_aload_n eX7_next_53 rfl ?_
            refine L_get eX7_next_54 f_X7_19.g rfl rfl ?_
            rw [f2]
            refine L_iald eX7_next_57 rfl ?_
            refine V_goto eX7_next_58 ?_
            exact V_ireturn eX7_next_62 (by rw [← hQ, ← e3, ec]; exact ⟨rfl, rfl⟩)
        · have es : skp (A 29) n p = skp (A 29) n (p + 1) := rn_go ⟨by omega, by rw [isBl_i]; omega⟩
          refine L_aload_n eX7_next_25 rfl ?_
          refine L_dup eX7_next_26 ?_
          refine L_get eX7_next_27 f_X7_19.g rfl rfl ?_
          refine V_iconst eX7_next_30 ?_
          refine V_iadd eX7_next_31 ?_
          refine L_put eX7_next_32 f_X7_19 rfl rfl ?_
          refine V_goto eX7_next_35 ?_
          rw [uF_eq, uF_uF]
          exact ih (p + 1) (by omega) (by omega) (by rw [← es]; exact e3)
  have := LOOP (n - a).toNat a (by omega) (by omega) rfl
  rw [← ha, uF_self] at this
  rw [← ha] at hQ
  exact this
theorem p_X11_here (hT : txT n (A 73)) (hn : F 66 16 = n) {a : Int} (ha : F 66 17 = a) (hab : 0 ≤ a ∧ a ≤ n) : Mu G mX11_here [.ref 66] F A (some (vi (chA (A 73) n (skp (A 73) n a)))) (uF F 66 17 (skp (A 73) n a)) A := by
  obtain ⟨hn1, hT1⟩ := hT
  refine L_ent [some (.ref 66)] rfl ?_
  generalize hQ : (fun (r' : Option Value) (w : wT) => r' = some (vi (chA (A 73) n (skp (A 73) n a))) ∧ w = sw (uF F 66 17 (skp (A 73) n a)) A) = Q
  have LOOP : ∀ (r : Nat) (p : Int), p + r = n → 0 ≤ p → skp (A 73) n p = skp (A 73) n a → V G mX11_here Q 0 0 0 [some (.ref 66)] [] (sw (uF F 66 17 p) A) := by
    intro r
    induction r with
    | zero =>
      intro p e1 e2 e3
      have es : skp (A 73) n p = p := rn_no (by omega)
      rw [es] at e3
      have f2 : uF F 66 17 p 66 17 = p := uF_eq
      have f1 : uF F 66 17 p 66 16 = n := by rw [uF_ne (by decide)]; exact hn
      have ec : chA (A 73) n p = -1 := if_neg (by omega)
      refine L_aload_n eX11_here_0 rfl ?_
      refine L_get eX11_here_1 f_X11_161.g rfl rfl ?_
      refine L_aload_n eX11_here_4 rfl ?_
      refine L_get eX11_here_5 f_X11_156.g rfl rfl ?_
      -- at 8: .if_icmp .ge 30
      refine V_icmpge eX11_here_8 (fun h2 => ?_) (fun h2 => ?_)
      · refine L_aload_n eX11_here_38 rfl ?_
        refine L_get eX11_here_39 f_X11_161.g rfl rfl ?_
        refine L_aload_n eX11_here_42 rfl ?_
        refine L_get eX11_here_43 f_X11_156.g rfl rfl ?_
        -- at 46: .if_icmp .ge 15
        refine V_icmpge eX11_here_46 (fun h3 => ?_) (fun h3 => ?_)
        · refine V_iconst eX11_here_61 ?_
          -- at 62: .ireturn
          exact V_ireturn eX11_here_62 (by rw [← hQ, ← e3, ec]; exact ⟨rfl, rfl⟩)
        · omega
      · omega
    | succ r ih =>
      intro p e1 e2 e3
      have f2 : uF F 66 17 p 66 17 = p := uF_eq
      have f1 : uF F 66 17 p 66 16 = n := by rw [uF_ne (by decide)]; exact hn
      have hb := hT1 p e2 (by omega)
      refine L_aload_n eX11_here_0 rfl ?_
      refine L_get eX11_here_1 f_X11_161.g rfl rfl ?_
      refine L_aload_n eX11_here_4 rfl ?_
      refine L_get eX11_here_5 f_X11_156.g rfl rfl ?_
      -- at 8: .if_icmp .ge 30
      refine V_icmpge eX11_here_8 (fun h2 => ?_) (fun h2 => ?_)
      · omega
      · refine L_aload_n eX11_here_11 rfl ?_
        refine L_getR (r := 73) eX11_here_12 f_X11_28.g rfl rfl (by decide) ?_
        refine L_aload_n eX11_here_15 rfl ?_
        refine L_get eX11_here_16 f_X11_161.g rfl rfl ?_
        rw [f2]
        refine L_iald eX11_here_19 rfl ?_
        refine L_bipush eX11_here_20 rfl ?_
        -- at 22: .if_icmp .ne 16
        refine V_icmpne eX11_here_22 (fun h3 => ?_) (fun h3 => ?_)
        · have es : skp (A 73) n p = p := rn_no (by rw [isBl_i]; omega)
          rw [es] at e3
          have ec : chA (A 73) n p = A 73 p := if_pos (by omega)
          refine L_aload_n eX11_here_38 rfl ?_
          refine L_get eX11_here_39 f_X11_161.g rfl rfl ?_
          refine L_aload_n eX11_here_42 rfl ?_
          refine L_get eX11_here_43 f_X11_156.g rfl rfl ?_
          -- at 46: .if_icmp .ge 15
          refine V_icmpge eX11_here_46 (fun h4 => ?_) (fun h4 => ?_)
          · omega
          · refine L_aload_n eX11_here_49 rfl ?_
            refine L_getR (r := 73) eX11_here_50 f_X11_28.g rfl rfl (by decide) ?_
            refine L_aload_n eX11_here_53 rfl ?_
            refine L_get eX11_here_54 f_X11_161.g rfl rfl ?_
            rw [f2]
            refine L_iald eX11_here_57 rfl ?_
            refine V_goto eX11_here_58 ?_
            exact V_ireturn eX11_here_62 (by rw [← hQ, ← e3, ec]; exact ⟨rfl, rfl⟩)
        · have es : skp (A 73) n p = skp (A 73) n (p + 1) := rn_go ⟨by omega, by rw [isBl_i]; omega⟩
          refine L_aload_n eX11_here_25 rfl ?_
          refine L_dup eX11_here_26 ?_
          refine L_get eX11_here_27 f_X11_161.g rfl rfl ?_
          refine V_iconst eX11_here_30 ?_
          refine V_iadd eX11_here_31 ?_
          refine L_put eX11_here_32 f_X11_161 rfl rfl ?_
          refine V_goto eX11_here_35 ?_
          rw [uF_eq, uF_uF]
          exact ih (p + 1) (by omega) (by omega) (by rw [← es]; exact e3)
  have := LOOP (n - a).toNat a (by omega) (by omega) rfl
  rw [← ha, uF_self] at this
  rw [← ha] at hQ
  exact this
theorem p_X7_isLetter {c : Int} (hc : 0 ≤ c ∧ c ≤ 255) : Pu G mX7_isLetter [vi c] F A (vi (if isLt c = true then 1 else 0)) := by
  refine L_ent [some (vi c)] rfl ?_
  by_cases h : isLt c = true
  · rw [if_pos h]
    rw [isLt_i] at h
    refine L_iload_n eX7_isLetter_0 rfl ?_
    refine L_bipush eX7_isLetter_1 rfl ?_
    refine V_icmplt eX7_isLetter_3 (fun h3 => ?_) (fun h3 => ?_)
    · refine V_iconst eX7_isLetter_16 ?_
      exact V_zreturn (by first | exact nar_z (by omega) | rfl) eX7_isLetter_17 ((by first | (exfalso; omega) | exact ⟨rfl, rfl⟩))
    · refine L_iload_n eX7_isLetter_6 rfl ?_
      refine L_bipush eX7_isLetter_7 rfl ?_
      refine V_icmpgt eX7_isLetter_9 (fun h9 => ?_) (fun h9 => ?_)
      · refine V_iconst eX7_isLetter_16 ?_
        exact V_zreturn (by first | exact nar_z (by omega) | rfl) eX7_isLetter_17 ((by first | (exfalso; omega) | exact ⟨rfl, rfl⟩))
      · refine V_iconst eX7_isLetter_12 ?_
        refine V_goto eX7_isLetter_13 ?_
        exact V_zreturn (by first | exact nar_z (by omega) | rfl) eX7_isLetter_17 ((by first | (exfalso; omega) | exact ⟨rfl, rfl⟩))
  · rw [if_neg h]
    rw [isLt_i] at h
    refine L_iload_n eX7_isLetter_0 rfl ?_
    refine L_bipush eX7_isLetter_1 rfl ?_
    refine V_icmplt eX7_isLetter_3 (fun h3 => ?_) (fun h3 => ?_)
    · refine V_iconst eX7_isLetter_16 ?_
      exact V_zreturn (by first | exact nar_z (by omega) | rfl) eX7_isLetter_17 ((by first | (exfalso; omega) | exact ⟨rfl, rfl⟩))
    · refine L_iload_n eX7_isLetter_6 rfl ?_
      refine L_bipush eX7_isLetter_7 rfl ?_
      refine V_icmpgt eX7_isLetter_9 (fun h9 => ?_) (fun h9 => ?_)
      · refine V_iconst eX7_isLetter_16 ?_
        exact V_zreturn (by first | exact nar_z (by omega) | rfl) eX7_isLetter_17 ((by first | (exfalso; omega) | exact ⟨rfl, rfl⟩))
      · refine V_iconst eX7_isLetter_12 ?_
        refine V_goto eX7_isLetter_13 ?_
        exact V_zreturn (by first | exact nar_z (by omega) | rfl) eX7_isLetter_17 ((by first | (exfalso; omega) | exact ⟨rfl, rfl⟩))
theorem p_X7_isFigure {c : Int} (hc : 0 ≤ c ∧ c ≤ 255) : Pu G mX7_isFigure [vi c] F A (vi (if isDg c = true then 1 else 0)) := by
  refine L_ent [some (vi c)] rfl ?_
  by_cases h : isDg c = true
  · rw [if_pos h]
    rw [isDg_i] at h
    refine L_iload_n eX7_isFigure_0 rfl ?_
    refine L_bipush eX7_isFigure_1 rfl ?_
    refine V_icmplt eX7_isFigure_3 (fun h3 => ?_) (fun h3 => ?_)
    · refine V_iconst eX7_isFigure_16 ?_
      exact V_zreturn (by first | exact nar_z (by omega) | rfl) eX7_isFigure_17 ((by first | (exfalso; omega) | exact ⟨rfl, rfl⟩))
    · refine L_iload_n eX7_isFigure_6 rfl ?_
      refine L_bipush eX7_isFigure_7 rfl ?_
      refine V_icmpgt eX7_isFigure_9 (fun h9 => ?_) (fun h9 => ?_)
      · refine V_iconst eX7_isFigure_16 ?_
        exact V_zreturn (by first | exact nar_z (by omega) | rfl) eX7_isFigure_17 ((by first | (exfalso; omega) | exact ⟨rfl, rfl⟩))
      · refine V_iconst eX7_isFigure_12 ?_
        refine V_goto eX7_isFigure_13 ?_
        exact V_zreturn (by first | exact nar_z (by omega) | rfl) eX7_isFigure_17 ((by first | (exfalso; omega) | exact ⟨rfl, rfl⟩))
  · rw [if_neg h]
    rw [isDg_i] at h
    refine L_iload_n eX7_isFigure_0 rfl ?_
    refine L_bipush eX7_isFigure_1 rfl ?_
    refine V_icmplt eX7_isFigure_3 (fun h3 => ?_) (fun h3 => ?_)
    · refine V_iconst eX7_isFigure_16 ?_
      exact V_zreturn (by first | exact nar_z (by omega) | rfl) eX7_isFigure_17 ((by first | (exfalso; omega) | exact ⟨rfl, rfl⟩))
    · refine L_iload_n eX7_isFigure_6 rfl ?_
      refine L_bipush eX7_isFigure_7 rfl ?_
      refine V_icmpgt eX7_isFigure_9 (fun h9 => ?_) (fun h9 => ?_)
      · refine V_iconst eX7_isFigure_16 ?_
        exact V_zreturn (by first | exact nar_z (by omega) | rfl) eX7_isFigure_17 ((by first | (exfalso; omega) | exact ⟨rfl, rfl⟩))
      · refine V_iconst eX7_isFigure_12 ?_
        refine V_goto eX7_isFigure_13 ?_
        exact V_zreturn (by first | exact nar_z (by omega) | rfl) eX7_isFigure_17 ((by first | (exfalso; omega) | exact ⟨rfl, rfl⟩))
theorem p_X7_begin : Mu G mX7_begin [.ref 28] F A none (uF (uF (uF F 28 2 0) 28 4 0) 28 5 (-1)) A := by
  refine L_ent [some (.ref 28)] rfl ?_
  refine L_aload_n eX7_begin_0 rfl ?_
  refine V_iconst eX7_begin_1 ?_
  refine L_put eX7_begin_2 f_X7_19 rfl rfl ?_
  refine L_aload_n eX7_begin_5 rfl ?_
  refine V_iconst eX7_begin_6 ?_
  refine L_put eX7_begin_7 f_X7_25 rfl rfl ?_
  refine L_aload_n eX7_begin_10 rfl ?_
  refine V_iconst eX7_begin_11 ?_
  refine L_put eX7_begin_12 f_X7_28 rfl rfl ?_
  exact V_return eX7_begin_15 ⟨rfl, rfl⟩
theorem p_X11_beginText : Mu G mX11_beginText [.ref 66] F A none (uF (uF (uF F 66 17 0) 66 20 0) 66 21 (-1)) A := by
  refine L_ent [some (.ref 66)] rfl ?_
  refine L_aload_n eX11_beginText_0 rfl ?_
  refine V_iconst eX11_beginText_1 ?_
  refine L_put eX11_beginText_2 f_X11_161 rfl rfl ?_
  refine L_aload_n eX11_beginText_5 rfl ?_
  refine V_iconst eX11_beginText_6 ?_
  refine L_put eX11_beginText_7 f_X11_164 rfl rfl ?_
  refine L_aload_n eX11_beginText_10 rfl ?_
  refine V_iconst eX11_beginText_11 ?_
  refine L_put eX11_beginText_12 f_X11_31 rfl rfl ?_
  exact V_return eX11_beginText_15 ⟨rfl, rfl⟩
theorem p_X7_blame_no {k p : Int} (h : F 28 4 ≠ 0) (hb : 0 ≤ F 28 4 ∧ F 28 4 ≤ 9) : Mu G mX7_blame [.ref 28, vi k, vi p] F A none F A := by
  refine L_ent [some (.ref 28), some (vi k), some (vi p)] rfl ?_
  refine L_aload_n eX7_blame_0 rfl ?_
  refine L_get eX7_blame_1 f_X7_25.g rfl rfl ?_
  -- at 4: .ifCond .ne 13
  refine V_ifne eX7_blame_4 (fun h2 => ?_) (fun h2 => ?_)
  · exact V_return eX7_blame_17 ⟨rfl, rfl⟩
  · omega
theorem p_X7_blame {k p : Int} (h : F 28 4 = 0) : Mu G mX7_blame [.ref 28, vi k, vi p] F A none (uF (uF F 28 4 k) 28 5 p) A := by
  refine L_ent [some (.ref 28), some (vi k), some (vi p)] rfl ?_
  refine L_aload_n eX7_blame_0 rfl ?_
  refine L_get eX7_blame_1 f_X7_25.g rfl rfl ?_
  -- at 4: .ifCond .ne 13
  refine V_ifne eX7_blame_4 (fun h2 => ?_) (fun h2 => ?_)
  · omega
  · refine L_aload_n eX7_blame_7 rfl ?_
    refine L_iload_n eX7_blame_8 rfl ?_
    refine L_put eX7_blame_9 f_X7_25 rfl rfl ?_
    refine L_aload_n eX7_blame_12 rfl ?_
    refine L_iload_n eX7_blame_13 rfl ?_
    refine L_put eX7_blame_14 f_X7_28 rfl rfl ?_
    exact V_return eX7_blame_17 ⟨rfl, rfl⟩
theorem p_X7_isFine (hb : 0 ≤ F 28 4 ∧ F 28 4 ≤ 9) : Pu G mX7_isFine [.ref 28] F A (vi (if F 28 4 = 0 then 1 else 0)) := by
  refine L_ent [some (.ref 28)] rfl ?_
  refine L_aload_n eX7_isFine_0 rfl ?_
  refine L_get eX7_isFine_1 f_X7_25.g rfl rfl ?_
  refine V_ifne eX7_isFine_4 (fun h4 => ?_) (fun h4 => ?_)
  · refine V_iconst eX7_isFine_11 ?_
    exact V_zreturn (by first | exact nar_z (by omega) | rfl) eX7_isFine_12 ((by first | (exfalso; omega) | (refine ⟨?_, rfl⟩; first | (rw [if_pos (by omega)]; done) | (rw [if_neg (by omega)]; done))))
  · refine V_iconst eX7_isFine_7 ?_
    refine V_goto eX7_isFine_8 ?_
    exact V_zreturn (by first | exact nar_z (by omega) | rfl) eX7_isFine_12 ((by first | (exfalso; omega) | (refine ⟨?_, rfl⟩; first | (rw [if_pos (by omega)]; done) | (rw [if_neg (by omega)]; done))))
theorem p_X11_want_ok {k p : Int} (hb : 0 ≤ F 66 20 ∧ F 66 20 ≤ 9) : Mu G mX11_want [.ref 66, vi 1, vi k, vi p] F A (some (vi (if F 66 20 = 0 then 1 else 0))) F A := by
  refine L_ent [some (.ref 66), some (vi 1), some (vi k), some (vi p)] rfl ?_
  refine L_iload_n eX11_want_0 rfl ?_
  refine V_ifne eX11_want_1 (fun h1 => ?_) (fun h1 => ?_)
  · refine L_aload_n eX11_want_21 rfl ?_
    refine L_get eX11_want_22 f_X11_164.g rfl rfl ?_
    refine V_ifne eX11_want_25 (fun h25 => ?_) (fun h25 => ?_)
    · refine V_iconst eX11_want_32 ?_
      exact V_zreturn (by first | exact nar_z (by omega) | rfl) eX11_want_33 ((by first | (exfalso; omega) | (refine ⟨?_, rfl⟩; first | (rw [if_pos (by omega)]; done) | (rw [if_neg (by omega)]; done))))
    · refine V_iconst eX11_want_28 ?_
      refine V_goto eX11_want_29 ?_
      exact V_zreturn (by first | exact nar_z (by omega) | rfl) eX11_want_33 ((by first | (exfalso; omega) | (refine ⟨?_, rfl⟩; first | (rw [if_pos (by omega)]; done) | (rw [if_neg (by omega)]; done))))
  · refine L_aload_n eX11_want_4 rfl ?_
    refine L_get eX11_want_5 f_X11_164.g rfl rfl ?_
    refine V_ifne eX11_want_8 (fun h8 => ?_) (fun h8 => ?_)
    · refine L_aload_n eX11_want_21 rfl ?_
      refine L_get eX11_want_22 f_X11_164.g rfl rfl ?_
      refine V_ifne eX11_want_25 (fun h25 => ?_) (fun h25 => ?_)
      · refine V_iconst eX11_want_32 ?_
        exact V_zreturn (by first | exact nar_z (by omega) | rfl) eX11_want_33 ((by first | (exfalso; omega) | (refine ⟨?_, rfl⟩; first | (rw [if_pos (by omega)]; done) | (rw [if_neg (by omega)]; done))))
      · refine V_iconst eX11_want_28 ?_
        refine V_goto eX11_want_29 ?_
        exact V_zreturn (by first | exact nar_z (by omega) | rfl) eX11_want_33 ((by first | (exfalso; omega) | (refine ⟨?_, rfl⟩; first | (rw [if_pos (by omega)]; done) | (rw [if_neg (by omega)]; done))))
    · refine L_aload_n eX11_want_11 rfl ?_
      refine L_iload_n eX11_want_12 rfl ?_
      refine L_put eX11_want_13 f_X11_164 rfl rfl ?_
      refine L_aload_n eX11_want_16 rfl ?_
      refine L_iload_n eX11_want_17 rfl ?_
      refine L_put eX11_want_18 f_X11_31 rfl rfl ?_
      refine L_aload_n eX11_want_21 rfl ?_
      refine L_get eX11_want_22 f_X11_164.g rfl rfl ?_
      refine V_ifne eX11_want_25 (fun h25 => ?_) (fun h25 => ?_)
      · refine V_iconst eX11_want_32 ?_
        exact V_zreturn (by first | exact nar_z (by omega) | rfl) eX11_want_33 ((by first | (exfalso; omega) | (refine ⟨?_, rfl⟩; first | (rw [if_pos (by omega)]; done) | (rw [if_neg (by omega)]; done))))
      · refine V_iconst eX11_want_28 ?_
        refine V_goto eX11_want_29 ?_
        exact V_zreturn (by first | exact nar_z (by omega) | rfl) eX11_want_33 ((by first | (exfalso; omega) | (refine ⟨?_, rfl⟩; first | (rw [if_pos (by omega)]; done) | (rw [if_neg (by omega)]; done))))
theorem p_X11_want_no {x k p : Int} (hx : x = 0 ∨ x = 1) (h : F 66 20 ≠ 0) (hb : 0 ≤ F 66 20 ∧ F 66 20 ≤ 9) : Mu G mX11_want [.ref 66, vi x, vi k, vi p] F A (some (vi 0)) F A := by
  refine L_ent [some (.ref 66), some (vi x), some (vi k), some (vi p)] rfl ?_
  refine L_iload_n eX11_want_0 rfl ?_
  refine V_ifne eX11_want_1 (fun h1 => ?_) (fun h1 => ?_)
  · refine L_aload_n eX11_want_21 rfl ?_
    refine L_get eX11_want_22 f_X11_164.g rfl rfl ?_
    refine V_ifne eX11_want_25 (fun h25 => ?_) (fun h25 => ?_)
    · refine V_iconst eX11_want_32 ?_
      exact V_zreturn (by first | exact nar_z (by omega) | rfl) eX11_want_33 ((by first | (exfalso; omega) | exact ⟨rfl, rfl⟩))
    · refine V_iconst eX11_want_28 ?_
      refine V_goto eX11_want_29 ?_
      exact V_zreturn (by first | exact nar_z (by omega) | rfl) eX11_want_33 ((by first | (exfalso; omega) | exact ⟨rfl, rfl⟩))
  · refine L_aload_n eX11_want_4 rfl ?_
    refine L_get eX11_want_5 f_X11_164.g rfl rfl ?_
    refine V_ifne eX11_want_8 (fun h8 => ?_) (fun h8 => ?_)
    · refine L_aload_n eX11_want_21 rfl ?_
      refine L_get eX11_want_22 f_X11_164.g rfl rfl ?_
      refine V_ifne eX11_want_25 (fun h25 => ?_) (fun h25 => ?_)
      · refine V_iconst eX11_want_32 ?_
        exact V_zreturn (by first | exact nar_z (by omega) | rfl) eX11_want_33 ((by first | (exfalso; omega) | exact ⟨rfl, rfl⟩))
      · refine V_iconst eX11_want_28 ?_
        refine V_goto eX11_want_29 ?_
        exact V_zreturn (by first | exact nar_z (by omega) | rfl) eX11_want_33 ((by first | (exfalso; omega) | exact ⟨rfl, rfl⟩))
    · refine L_aload_n eX11_want_11 rfl ?_
      refine L_iload_n eX11_want_12 rfl ?_
      refine L_put eX11_want_13 f_X11_164 rfl rfl ?_
      refine L_aload_n eX11_want_16 rfl ?_
      refine L_iload_n eX11_want_17 rfl ?_
      refine L_put eX11_want_18 f_X11_31 rfl rfl ?_
      refine L_aload_n eX11_want_21 rfl ?_
      refine L_get eX11_want_22 f_X11_164.g rfl rfl ?_
      refine V_ifne eX11_want_25 (fun h25 => ?_) (fun h25 => ?_)
      · refine V_iconst eX11_want_32 ?_
        exact V_zreturn (by first | exact nar_z (by omega) | rfl) eX11_want_33 ((by first | (exfalso; omega) | exact ⟨rfl, rfl⟩))
      · refine V_iconst eX11_want_28 ?_
        refine V_goto eX11_want_29 ?_
        exact V_zreturn (by first | exact nar_z (by omega) | rfl) eX11_want_33 ((by first | (exfalso; omega) | exact ⟨rfl, rfl⟩))
theorem p_X11_want_bad {k p : Int} (h : F 66 20 = 0) (hk : 1 ≤ k ∧ k ≤ 9) : Mu G mX11_want [.ref 66, vi 0, vi k, vi p] F A (some (vi 0)) (uF (uF F 66 20 k) 66 21 p) A := by
  have e : uF (uF F 66 20 k) 66 21 p 66 20 = k := by rw [uF_ne (by decide), uF_eq]
  refine L_ent [some (.ref 66), some (vi 0), some (vi k), some (vi p)] rfl ?_
  refine L_iload_n eX11_want_0 rfl ?_
  refine V_ifne eX11_want_1 (fun h1 => ?_) (fun h1 => ?_)
  · refine L_aload_n eX11_want_21 rfl ?_
    refine L_get eX11_want_22 f_X11_164.g rfl rfl ?_
    refine V_ifne eX11_want_25 (fun h25 => ?_) (fun h25 => ?_)
    · refine V_iconst eX11_want_32 ?_
      exact V_zreturn (by first | exact nar_z (by omega) | rfl) eX11_want_33 ((by first | (exfalso; omega) | exact ⟨rfl, rfl⟩))
    · refine V_iconst eX11_want_28 ?_
      refine V_goto eX11_want_29 ?_
      exact V_zreturn (by first | exact nar_z (by omega) | rfl) eX11_want_33 ((by first | (exfalso; omega) | exact ⟨rfl, rfl⟩))
  · refine L_aload_n eX11_want_4 rfl ?_
    refine L_get eX11_want_5 f_X11_164.g rfl rfl ?_
    refine V_ifne eX11_want_8 (fun h8 => ?_) (fun h8 => ?_)
    · refine L_aload_n eX11_want_21 rfl ?_
      refine L_get eX11_want_22 f_X11_164.g rfl rfl ?_
      refine V_ifne eX11_want_25 (fun h25 => ?_) (fun h25 => ?_)
      · refine V_iconst eX11_want_32 ?_
        exact V_zreturn (by first | exact nar_z (by omega) | rfl) eX11_want_33 ((by first | (exfalso; omega) | exact ⟨rfl, rfl⟩))
      · refine V_iconst eX11_want_28 ?_
        refine V_goto eX11_want_29 ?_
        exact V_zreturn (by first | exact nar_z (by omega) | rfl) eX11_want_33 ((by first | (exfalso; omega) | exact ⟨rfl, rfl⟩))
    · refine L_aload_n eX11_want_11 rfl ?_
      refine L_iload_n eX11_want_12 rfl ?_
      refine L_put eX11_want_13 f_X11_164 rfl rfl ?_
      refine L_aload_n eX11_want_16 rfl ?_
      refine L_iload_n eX11_want_17 rfl ?_
      refine L_put eX11_want_18 f_X11_31 rfl rfl ?_
      refine L_aload_n eX11_want_21 rfl ?_
      refine L_get eX11_want_22 f_X11_164.g rfl rfl ?_
      refine V_ifne eX11_want_25 (fun h25 => ?_) (fun h25 => ?_)
      · refine V_iconst eX11_want_32 ?_
        exact V_zreturn (by first | exact nar_z (by omega) | rfl) eX11_want_33 ((by first | (exfalso; omega) | exact ⟨rfl, rfl⟩))
      · refine V_iconst eX11_want_28 ?_
        refine V_goto eX11_want_29 ?_
        exact V_zreturn (by first | exact nar_z (by omega) | rfl) eX11_want_33 ((by first | (exfalso; omega) | exact ⟨rfl, rfl⟩))
end R98b

