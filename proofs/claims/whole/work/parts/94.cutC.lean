/-! STRANDS cut from hides: the class's side -/
section P94
variable {F : fT} {A : nT} {set c h : Nat} {H L : Int → Int}
theorem fst_fit {P : Nat → Prop} {h : Nat} : ∀ r k0 : Nat, k0 + r = h → (∀ k, k0 ≤ k → k < h → ¬ P k) ∨ ∃ k, k0 ≤ k ∧ k < h ∧ P k ∧ ∀ j, k0 ≤ j → j < k → ¬ P j := by
  intro r
  induction r with
  | zero => intro k0 e; left; intro k a b; omega
  | succ r ih =>
    intro k0 e
    by_cases p : P k0
    · exact Or.inr ⟨k0, Nat.le_refl _, by omega, p, fun j a b => by omega⟩
    · rcases ih (k0 + 1) (by omega) with q | ⟨k, a, b, c, d⟩
      · left
        intro k a b
        by_cases f : k = k0
        · rw [f]; exact p
        · exact q k (by omega) b
      · refine Or.inr ⟨k, by omega, b, c, fun j x y => ?_⟩
        by_cases f : j = k0
        · rw [f]; exact p
        · exact d j (by omega) y
theorem p_X2_afterCut {k0 : Nat} {u0 v len : Int} (hh : F 59 0 = h) (h6 : h ≤ 6) (hset : set < 64) (eH : A 60 = H) (hH : ∀ k : Int, 0 ≤ k → k < h → 1 ≤ H k ∧ H k ≤ 999) (hv : v = 1000 * k0 + u0) (hu : 0 ≤ u0 ∧ u0 < 1000) (hk0 : k0 ≤ 6) (hlen : 1 ≤ len ∧ len ≤ 999) : ∃ r, (∀ G : gT, Pu G mX2_afterCut [.ref 59, vi (set : Int), vi v, vi len] F A (vi r)) ∧ Ac set H h k0 u0 len r ∧ (r = -1 ∨ 0 ≤ r ∧ r < 6000) := by
  subst eH
  have em : v.tmod 1000 = u0 := by rw [Int.tmod_eq_emod_of_nonneg (by omega)]; omega
  have ed : v.tdiv 1000 = k0 := by rw [Int.tdiv_eq_ediv_of_nonneg (by omega)]; omega
  by_cases hkh : h < k0
  · refine ⟨-1, fun G => ?_, Or.inl ⟨rfl, fun k a b => by omega⟩, Or.inl rfl⟩
    refine L_ent [some (.ref 59), some (vi (set : Int)), some (vi v), some (vi len), none, none] rfl ?_
    refine L_iload_n eX2_afterCut_0 rfl ?_
    refine L_sipush eX2_afterCut_1 rfl ?_
    refine V_irem eX2_afterCut_4 ?_
    rw [em]
    refine L_istore eX2_afterCut_5 (s_4 rfl rfl) ?_
    refine L_iload_n eX2_afterCut_7 rfl ?_
    refine L_sipush eX2_afterCut_8 rfl ?_
    refine V_idiv eX2_afterCut_11 ?_
    rw [ed]
    refine L_istore eX2_afterCut_12 (s_5 rfl rfl) ?_
    refine L_iload eX2_afterCut_14 rfl ?_
    refine L_aload_n eX2_afterCut_16 rfl ?_
    refine L_get eX2_afterCut_17 f_X2_9.g rfl rfl ?_
    -- at 20: .if_icmp .ge 48
    refine V_icmpge eX2_afterCut_20 (fun h2 => ?_) (fun h2 => ?_)
    · refine V_iconst eX2_afterCut_68 ?_
      -- at 69: .ireturn
      exact V_ireturn eX2_afterCut_69 ⟨rfl, rfl⟩
    · omega
  · have beg : ∀ (G : gT) (Q : Option Value → wT → Prop), V G mX2_afterCut Q 0 0 14 [some (.ref 59), some (vi (set : Int)), some (vi v), some (vi len), some (vi u0), some (vi (k0 : Int))] [] (sw F A) → V G mX2_afterCut Q 0 0 0 [some (.ref 59), some (vi (set : Int)), some (vi v), some (vi len), none, none] [] (sw F A) := fun G Q hv => by
      refine L_iload_n eX2_afterCut_0 rfl ?_
      refine L_sipush eX2_afterCut_1 rfl ?_
      refine V_irem eX2_afterCut_4 ?_
      rw [em]
      refine L_istore eX2_afterCut_5 (s_4 rfl rfl) ?_
      refine L_iload_n eX2_afterCut_7 rfl ?_
      refine L_sipush eX2_afterCut_8 rfl ?_
      refine V_idiv eX2_afterCut_11 ?_
      rw [ed]
      refine L_istore eX2_afterCut_12 (s_5 rfl rfl) ?_
      exact hv
    -- one hide that doesn't do
    have skip : ∀ (G : gT) (Q : Option Value → wT → Prop) (k : Nat) (u : Int), k < h → (0 ≤ u ∧ u < 1000) → ¬ (set.testBit k = true ∧ u + len ≤ A 60 k) → V G mX2_afterCut Q 0 0 14 [some (.ref 59), some (vi (set : Int)), some (vi v), some (vi len), some (vi 0), some (vi ((k : Int) + 1))] [] (sw F A) → V G mX2_afterCut Q 0 0 14 [some (.ref 59), some (vi (set : Int)), some (vi v), some (vi len), some (vi u), some (vi (k : Int))] [] (sw F A) := fun G Q k u hk hu no hv => by
      have hHk := hH k (by omega) (by omega)
      refine L_iload eX2_afterCut_14 rfl ?_
      refine L_aload_n eX2_afterCut_16 rfl ?_
      refine L_get eX2_afterCut_17 f_X2_9.g rfl rfl ?_
      -- at 20: .if_icmp .ge 48
      refine V_icmpge eX2_afterCut_20 (fun h2 => ?_) (fun h2 => ?_)
      · omega
      · refine L_iload_n eX2_afterCut_23 rfl ?_
        refine L_iload eX2_afterCut_24 rfl ?_
        refine V_ishr eX2_afterCut_26 ?_
        refine V_iconst eX2_afterCut_27 ?_
        refine V_iand eX2_afterCut_28 ?_
        rw [iBit (by omega) (by omega)]
        by_cases hb : set.testBit k = true
        · rw [if_pos hb]
          refine V_iconst eX2_afterCut_29 ?_
          -- at 30: .if_icmp .ne 29
          refine V_icmpne eX2_afterCut_30 (fun h3 => ?_) (fun h3 => ?_)
          · omega
          · refine L_iload eX2_afterCut_33 rfl ?_
            refine L_iload_n eX2_afterCut_35 rfl ?_
            refine V_iadd eX2_afterCut_36 ?_
            refine L_aload_n eX2_afterCut_37 rfl ?_
            refine L_getR (r := 60) eX2_afterCut_38 f_X2_18.g rfl rfl (by decide) ?_
            refine L_iload eX2_afterCut_41 rfl ?_
            refine L_iald eX2_afterCut_43 rfl ?_
            -- at 44: .if_icmp .gt 15
            refine V_icmpgt eX2_afterCut_44 (fun h4 => ?_) (fun h4 => ?_)
            · refine V_iconst eX2_afterCut_59 ?_
              refine L_istore eX2_afterCut_60 (s_4 rfl rfl) ?_
              refine L_iinc eX2_afterCut_62 rfl (s_5 rfl rfl) ?_
              refine V_goto eX2_afterCut_65 ?_
              exact hv
            · exact absurd ⟨hb, by omega⟩ no
        · rw [if_neg hb]
          refine V_iconst eX2_afterCut_29 ?_
          -- at 30: .if_icmp .ne 29
          refine V_icmpne eX2_afterCut_30 (fun h3 => ?_) (fun h3 => ?_)
          · refine V_iconst eX2_afterCut_59 ?_
            refine L_istore eX2_afterCut_60 (s_4 rfl rfl) ?_
            refine L_iinc eX2_afterCut_62 rfl (s_5 rfl rfl) ?_
            refine V_goto eX2_afterCut_65 ?_
            exact hv
          · omega
    have LOOP : ∀ (G : gT) (Q : Option Value → wT → Prop) (K : Nat), K ≤ h → k0 ≤ K → (∀ j, k0 ≤ j → j < K → ¬ (set.testBit j = true ∧ (if j = k0 then u0 else 0) + len ≤ A 60 j)) → V G mX2_afterCut Q 0 0 14 [some (.ref 59), some (vi (set : Int)), some (vi v), some (vi len), some (vi (if K = k0 then u0 else 0)), some (vi (K : Int))] [] (sw F A) → ∀ r k : Nat, k + r = K → k0 ≤ k → V G mX2_afterCut Q 0 0 14 [some (.ref 59), some (vi (set : Int)), some (vi v), some (vi len), some (vi (if k = k0 then u0 else 0)), some (vi (k : Int))] [] (sw F A) := by
      intro G Q K hK hk0K no hv r
      induction r with
      | zero => intro k e1 e2; rw [show k = K by omega]; exact hv
      | succ r ih =>
        intro k e1 e2
        refine skip G Q k _ (by omega) ?_ (no k e2 (by omega)) ?_
        · by_cases f : k = k0
          · rw [if_pos f]; exact hu
          · rw [if_neg f]; omega
        · have := ih (k + 1) (by omega) (by omega)
          rw [if_neg (by omega)] at this
          exact this
    rcases fst_fit (h := h) (P := fun k => set.testBit k = true ∧ (if k = k0 then u0 else 0) + len ≤ A 60 k) (h - k0) k0 (by omega) with q | ⟨k, a, b, cc, d⟩
    · refine ⟨-1, fun G => ?_, Or.inl ⟨rfl, fun k x y z => ?_⟩, Or.inl rfl⟩
      · refine L_ent [some (.ref 59), some (vi (set : Int)), some (vi v), some (vi len), none, none] rfl ?_
        refine beg G _ ?_
        have := LOOP G (fun r' w => r' = some (vi (-1)) ∧ w = sw F A) h (Nat.le_refl _) (by omega) q ?_ (h - k0) k0 (by omega) (Nat.le_refl _)
        · rw [if_pos rfl] at this
          exact this
        · refine L_iload eX2_afterCut_14 rfl ?_
          refine L_aload_n eX2_afterCut_16 rfl ?_
          refine L_get eX2_afterCut_17 f_X2_9.g rfl rfl ?_
          -- at 20: .if_icmp .ge 48
          refine V_icmpge eX2_afterCut_20 (fun h2 => ?_) (fun h2 => ?_)
          · refine V_iconst eX2_afterCut_68 ?_
            -- at 69: .ireturn
            exact V_ireturn eX2_afterCut_69 ⟨rfl, rfl⟩
          · omega
      · have := q k x y
        by_cases f : (if k = k0 then u0 else 0) + len ≤ A 60 k
        · exact absurd ⟨z, f⟩ this
        · omega
    · have hHk := hH k (by omega) (by omega)
      have hub : 0 ≤ (if k = k0 then u0 else 0) ∧ (if k = k0 then u0 else 0) < 1000 := by
        by_cases f : k = k0
        · rw [if_pos f]; exact hu
        · rw [if_neg f]; omega
      refine ⟨1000 * k + (if k = k0 then u0 else 0) + len, fun G => ?_, Or.inr ⟨k, a, b, cc.1, cc.2, rfl, fun j x y z => ?_⟩, Or.inr (by omega)⟩
      · refine L_ent [some (.ref 59), some (vi (set : Int)), some (vi v), some (vi len), none, none] rfl ?_
        refine beg G _ ?_
        have := LOOP G (fun r' w => r' = some (vi (1000 * k + (if k = k0 then u0 else 0) + len)) ∧ w = sw F A) k (by omega) a d ?_ (k - k0) k0 (by omega) (Nat.le_refl _)
        · rw [if_pos rfl] at this
          exact this
        · have cc2 := cc.2
          generalize (if k = k0 then u0 else 0) = u at *
          refine L_iload eX2_afterCut_14 rfl ?_
          refine L_aload_n eX2_afterCut_16 rfl ?_
          refine L_get eX2_afterCut_17 f_X2_9.g rfl rfl ?_
          -- at 20: .if_icmp .ge 48
          refine V_icmpge eX2_afterCut_20 (fun h2 => ?_) (fun h2 => ?_)
          · omega
          · refine L_iload_n eX2_afterCut_23 rfl ?_
            refine L_iload eX2_afterCut_24 rfl ?_
            refine V_ishr eX2_afterCut_26 ?_
            refine V_iconst eX2_afterCut_27 ?_
            refine V_iand eX2_afterCut_28 ?_
            rw [iBit (by omega) (by omega), if_pos cc.1]
            refine V_iconst eX2_afterCut_29 ?_
            -- at 30: .if_icmp .ne 29
            refine V_icmpne eX2_afterCut_30 (fun h3 => ?_) (fun h3 => ?_)
            · omega
            · refine L_iload eX2_afterCut_33 rfl ?_
              refine L_iload_n eX2_afterCut_35 rfl ?_
              refine V_iadd eX2_afterCut_36 ?_
              refine L_aload_n eX2_afterCut_37 rfl ?_
              refine L_getR (r := 60) eX2_afterCut_38 f_X2_18.g rfl rfl (by decide) ?_
              refine L_iload eX2_afterCut_41 rfl ?_
              refine L_iald eX2_afterCut_43 rfl ?_
              -- at 44: .if_icmp .gt 15
              refine V_icmpgt eX2_afterCut_44 (fun h4 => ?_) (fun h4 => ?_)
              · omega
              · refine L_iload eX2_afterCut_47 rfl ?_
                refine L_sipush eX2_afterCut_49 rfl ?_
                refine V_imul eX2_afterCut_52 ?_
                refine L_iload eX2_afterCut_53 rfl ?_
                refine V_iadd eX2_afterCut_55 ?_
                refine L_iload_n eX2_afterCut_56 rfl ?_
                refine V_iadd eX2_afterCut_57 ?_
                exact V_ireturn eX2_afterCut_58 ⟨by rw [Int.mul_comm (k : Int) 1000], rfl⟩
      · by_cases f : (if j = k0 then u0 else 0) + len ≤ A 60 j
        · exact absurd ⟨z, f⟩ (d j x y)
        · omega
def klR (a r : Int) : Int := if r ≠ -1 ∧ (a = -1 ∨ r < a) then r else a
theorem uI_self {f : Int → Int} {i : Int} : uI f i (f i) = f := by
  funext j
  simp only [uI]
  by_cases c : j = i
  · rw [if_pos c, c]
  · rw [if_neg c]
theorem p_X2_keepLeast {G : gT} {D : Nat} {r : Int} (hD : D < 256) (hr : -1 ≤ r ∧ r < 6000) (ha : -1 ≤ A 62 D ∧ A 62 D < 6000) : Mu G mX2_keepLeast [.ref 59, vi (D : Int), vi r] F A none F (sA A 62 (uI (A 62) D (klR (A 62 D) r))) := by
  refine L_ent [some (.ref 59), some (vi (D : Int)), some (vi r)] rfl ?_
  by_cases cc : r ≠ -1 ∧ (A 62 D = -1 ∨ r < A 62 D)
  · have e : klR (A 62 D) r = r := if_pos cc
    rw [e]
    refine L_iload_n eX2_keepLeast_0 rfl ?_
    refine V_iconst eX2_keepLeast_1 ?_
    refine V_icmpeq eX2_keepLeast_2 (fun h2 => ?_) (fun h2 => ?_)
    · exact V_return eX2_keepLeast_32 ((by first | (exfalso; omega) | exact ⟨rfl, rfl⟩))
    · refine L_aload_n eX2_keepLeast_5 rfl ?_
      refine L_getR (r := 62) eX2_keepLeast_6 f_X2_25.g rfl rfl (by decide) ?_
      refine L_iload_n eX2_keepLeast_9 rfl ?_
      refine L_iald eX2_keepLeast_10 rfl ?_
      refine V_iconst eX2_keepLeast_11 ?_
      refine V_icmpeq eX2_keepLeast_12 (fun h12 => ?_) (fun h12 => ?_)
      · refine L_aload_n eX2_keepLeast_25 rfl ?_
        refine L_getR (r := 62) eX2_keepLeast_26 f_X2_25.g rfl rfl (by decide) ?_
        refine L_iload_n eX2_keepLeast_29 rfl ?_
        refine L_iload_n eX2_keepLeast_30 rfl ?_
        refine L_iast eX2_keepLeast_31 rfl ?_
        exact V_return eX2_keepLeast_32 ((by first | (exfalso; omega) | exact ⟨rfl, rfl⟩))
      · refine L_iload_n eX2_keepLeast_15 rfl ?_
        refine L_aload_n eX2_keepLeast_16 rfl ?_
        refine L_getR (r := 62) eX2_keepLeast_17 f_X2_25.g rfl rfl (by decide) ?_
        refine L_iload_n eX2_keepLeast_20 rfl ?_
        refine L_iald eX2_keepLeast_21 rfl ?_
        refine V_icmpge eX2_keepLeast_22 (fun h22 => ?_) (fun h22 => ?_)
        · exact V_return eX2_keepLeast_32 ((by first | (exfalso; omega) | exact ⟨rfl, rfl⟩))
        · refine L_aload_n eX2_keepLeast_25 rfl ?_
          refine L_getR (r := 62) eX2_keepLeast_26 f_X2_25.g rfl rfl (by decide) ?_
          refine L_iload_n eX2_keepLeast_29 rfl ?_
          refine L_iload_n eX2_keepLeast_30 rfl ?_
          refine L_iast eX2_keepLeast_31 rfl ?_
          exact V_return eX2_keepLeast_32 ((by first | (exfalso; omega) | exact ⟨rfl, rfl⟩))
  · have e : klR (A 62 D) r = A 62 D := if_neg cc
    rw [e, uI_self, sA_self]
    refine L_iload_n eX2_keepLeast_0 rfl ?_
    refine V_iconst eX2_keepLeast_1 ?_
    refine V_icmpeq eX2_keepLeast_2 (fun h2 => ?_) (fun h2 => ?_)
    · exact V_return eX2_keepLeast_32 ((by first | (exfalso; omega) | exact ⟨rfl, rfl⟩))
    · refine L_aload_n eX2_keepLeast_5 rfl ?_
      refine L_getR (r := 62) eX2_keepLeast_6 f_X2_25.g rfl rfl (by decide) ?_
      refine L_iload_n eX2_keepLeast_9 rfl ?_
      refine L_iald eX2_keepLeast_10 rfl ?_
      refine V_iconst eX2_keepLeast_11 ?_
      refine V_icmpeq eX2_keepLeast_12 (fun h12 => ?_) (fun h12 => ?_)
      · (exfalso; omega)
      · refine L_iload_n eX2_keepLeast_15 rfl ?_
        refine L_aload_n eX2_keepLeast_16 rfl ?_
        refine L_getR (r := 62) eX2_keepLeast_17 f_X2_25.g rfl rfl (by decide) ?_
        refine L_iload_n eX2_keepLeast_20 rfl ?_
        refine L_iald eX2_keepLeast_21 rfl ?_
        refine V_icmpge eX2_keepLeast_22 (fun h22 => ?_) (fun h22 => ?_)
        · exact V_return eX2_keepLeast_32 ((by first | (exfalso; omega) | exact ⟨rfl, rfl⟩))
        · (exfalso; omega)
theorem klR_b {a r : Int} (ha : -1 ≤ a ∧ a < 6000) (hr : -1 ≤ r ∧ r < 6000) : -1 ≤ klR a r ∧ klR a r < 6000 := by
  unfold klR
  by_cases cc : r ≠ -1 ∧ (a = -1 ∨ r < a)
  · rw [if_pos cc]; exact hr
  · rw [if_neg cc]; exact ha
/-- what holds of a SET that is reached -/
def rcK (set : Nat) (H L : Int → Int) (c hs : Nat) (R : Int → Int) (D : Nat) : Prop := (R D ≠ -1 → Sd set H L c hs D (R D)) ∧ (Cp set H L c hs D (R D)) ∧ (D = 0 → R D = 0) ∧ (-1 ≤ R D ∧ R D < 6000)
theorem rcK.sd {set : Nat} {H L : Int → Int} {c hs : Nat} {R : Int → Int} {D : Nat} (h : rcK set H L c hs R D) : R D ≠ -1 → Sd set H L c hs D (R D) := h.1
theorem rcK.cp {set : Nat} {H L : Int → Int} {c hs : Nat} {R : Int → Int} {D : Nat} (h : rcK set H L c hs R D) : Cp set H L c hs D (R D) := h.2.1
theorem rcK.z {set : Nat} {H L : Int → Int} {c hs : Nat} {R : Int → Int} {D : Nat} (h : rcK set H L c hs R D) : D = 0 → R D = 0 := h.2.2.1
theorem rcK.b {set : Nat} {H L : Int → Int} {c hs : Nat} {R : Int → Int} {D : Nat} (h : rcK set H L c hs R D) : -1 ≤ R D ∧ R D < 6000 := h.2.2.2
theorem rcK.mk {set : Nat} {H L : Int → Int} {c hs : Nat} {R : Int → Int} {D : Nat} (qsd : R D ≠ -1 → Sd set H L c hs D (R D)) (qcp : Cp set H L c hs D (R D)) (qz : D = 0 → R D = 0) (qb : -1 ≤ R D ∧ R D < 6000) : rcK set H L c hs R D := ⟨qsd, qcp, qz, qb⟩
theorem m_isEnough {G : gT} (hh : F 59 0 = h) (h6 : h ≤ 6) (hc : F 59 1 = c) (c8 : c ≤ 8) (hset : set < 64) (eH : A 60 = H) (eL : A 61 = L) (hH : ∀ k : Int, 0 ≤ k → k < h → 1 ≤ H k ∧ H k ≤ 999) (hL : ∀ k : Int, 0 ≤ k → k < c → 1 ≤ L k ∧ L k ≤ 999) : Meets G mX2_isEnough [.ref 59, vi (set : Int)] (sw F A) (fun r w => ∃ R b, r = some (vi b) ∧ w = sw F (sA A 62 R) ∧ (b = 1 ∧ Rr set H L c h (2 ^ c - 1) ∨ b = 0 ∧ ¬ Rr set H L c h (2 ^ c - 1))) := by
  have p256 := c256 c8
  have p1 : 1 ≤ 2 ^ c := Nat.one_le_two_pow
  have hL1 : ∀ k : Int, 0 ≤ k → k < c → 1 ≤ L k := fun k a b => (hL k a b).1
  have hH9 : ∀ k : Int, 0 ≤ k → k < h → H k ≤ 999 := fun k a b => (hH k a b).2
  refine L_ent [some (.ref 59), some (vi (set : Int)), none, none, none, none] rfl ?_
  generalize hQ : (fun (r : Option Value) (w : wT) => ∃ R b, r = some (vi b) ∧ w = sw F (sA A 62 R) ∧ (b = 1 ∧ Rr set H L c h (2 ^ c - 1) ∨ b = 0 ∧ ¬ Rr set H L c h (2 ^ c - 1))) = Q
  have eo : ∀ R o, o ≠ 62 → sA A 62 R o = A o := fun R o q => sA_ne q
  have LOOP : ∀ (r D : Nat) (R : Int → Int) (x4 x5 : Option Value), D + r = 2 ^ c → 1 ≤ D → (∀ D', D' < D → rcK set H L c h R D') → V G mX2_isEnough Q 0 0 18 [some (.ref 59), some (vi (set : Int)), some (vi (((2 ^ c : Nat) : Int) - 1)), some (vi (D : Int)), x4, x5] [] (sw F (sA A 62 R)) := by
    intro r
    induction r with
    | zero =>
      intro D R x4 x5 e1 e2 K
      have Kl := K (2 ^ c - 1) (by omega)
      have hiff := cut_iff hH9 Kl.sd Kl.cp Kl.z
      have hb := Kl.b
      have ei : ((2 ^ c : Nat) : Int) - 1 = ((2 ^ c - 1 : Nat) : Int) := by omega
      have fi : ∀ b : Int, (b = 1 ∧ Rr set H L c h (2 ^ c - 1) ∨ b = 0 ∧ ¬ Rr set H L c h (2 ^ c - 1)) → Q (some (vi b)) (sw F (sA A 62 R)) := fun b q => by
        rw [← hQ]
        exact ⟨R, b, rfl, rfl, q⟩
      refine L_iload_n eX2_isEnough_18 rfl ?_
      refine L_iload_n eX2_isEnough_19 rfl ?_
      -- at 20: .if_icmp .gt 85
      refine V_icmpgt eX2_isEnough_20 (fun h2 => ?_) (fun h2 => ?_)
      · refine L_aload_n eX2_isEnough_105 rfl ?_
        refine L_getR (r := 62) eX2_isEnough_106 f_X2_25.g rfl rfl (by decide) ?_
        refine L_iload_n eX2_isEnough_109 rfl ?_
        refine L_ialdE eX2_isEnough_110 rfl sA_eq ?_
        rw [ei]
        refine V_iconst eX2_isEnough_111 ?_
        -- at 112: .if_icmp .eq 7
        refine V_icmpeq eX2_isEnough_112 (fun h3 => ?_) (fun h3 => ?_)
        · refine V_iconst eX2_isEnough_119 ?_
          -- at 120: .ireturn
          exact V_zreturn (by first | exact nar_z (by omega) | rfl) eX2_isEnough_120 (fi 0 (Or.inr ⟨rfl, fun q => absurd h3 (hiff.mpr q)⟩))
        · refine V_iconst eX2_isEnough_115 ?_
          refine V_goto eX2_isEnough_116 ?_
          exact V_zreturn (by first | exact nar_z (by omega) | rfl) eX2_isEnough_120 (fi 1 (Or.inl ⟨rfl, hiff.mp h3⟩))
      · omega
    | succ r ih =>
      intro D R x4 x5 e1 e2 K
      have hD256 : D < 256 := by omega
      have hDc : D < 2 ^ c := by omega
      -- the STRANDS one by one
      have INN : ∀ (q i : Nat) (R' : Int → Int) (x5 : Option Value), i + q = c → (∀ D', D' < D → R' (D' : Int) = R D') → (R' D ≠ -1 → Sd set H L c h D (R' D)) → (-1 ≤ R' D ∧ R' D < 6000) → (∀ j, j < i → D.testBit j = true → R' ((D ^^^ 2 ^ j : Nat) : Int) ≠ -1 → ∀ (k0 : Nat) (u0 : Int), R' ((D ^^^ 2 ^ j : Nat) : Int) = 1000 * k0 + u0 → 0 ≤ u0 ∧ u0 < 1000 → ∃ z, Ac set H h k0 u0 (L j) z ∧ (z ≠ -1 → R' D ≠ -1 ∧ R' D ≤ z)) → V G mX2_isEnough Q 0 0 33 [some (.ref 59), some (vi (set : Int)), some (vi (((2 ^ c : Nat) : Int) - 1)), some (vi (D : Int)), some (vi (i : Int)), x5] [] (sw F (sA A 62 R')) := by
        intro q
        induction q with
        | zero =>
          intro i R' x5 q1 same sd bd J
          have e : i = c := by omega
          subst e
          refine L_iload eX2_isEnough_33 rfl ?_
          refine L_aload_n eX2_isEnough_35 rfl ?_
          refine L_get eX2_isEnough_36 f_X2_15.g rfl rfl ?_
          -- at 39: .if_icmp .ge 60
          refine V_icmpge eX2_isEnough_39 (fun h2 => ?_) (fun h2 => ?_)
          · refine L_iinc eX2_isEnough_99 rfl (s_3 rfl rfl) ?_
            refine V_goto eX2_isEnough_102 ?_
            have := ih (D + 1) R' (some (vi (i : Int))) x5 (by omega) (by omega) (fun D' hD' => ?_)
            · exact this
            · by_cases f : D' = D
              · subst f
                refine rcK.mk sd ?_ (fun z => by omega) bd
                refine Cp.step c8 hDc hL1 hH9 (w := fun j => R' ((D' ^^^ 2 ^ j : Nat) : Int)) (fun j hj hb => ?_) (fun j hj hb hw k0 u0 a b => J j hj hb hw k0 u0 a b)
                have hlt := xor_lt hD256 (by omega) hb
                have Kj := K _ hlt
                have es := same _ hlt
                refine ⟨?_, ?_, ?_⟩
                · intro hn
                  show Sd set H L i h (D' ^^^ 2 ^ j) (R' ((D' ^^^ 2 ^ j : Nat) : Int))
                  rw [es]
                  rw [es] at hn
                  exact Kj.sd hn
                · show Cp set H L i h (D' ^^^ 2 ^ j) (R' ((D' ^^^ 2 ^ j : Nat) : Int))
                  rw [es]
                  exact Kj.cp
                · intro z
                  show R' ((D' ^^^ 2 ^ j : Nat) : Int) = 0
                  rw [es]
                  exact Kj.z z
              · have Kd := K D' (by omega)
                have es := same D' (by omega)
                refine rcK.mk ?_ ?_ ?_ ?_
                · rw [es]; exact Kd.sd
                · rw [es]; exact Kd.cp
                · rw [es]; exact Kd.z
                · rw [es]; exact Kd.b
          · omega
        | succ q ihq =>
          intro i R' x5 q1 same sd bd J
          have hi8 : i < 8 := by omega
          have nxt : ∀ (R2 : Int → Int) (x5 : Option Value), (∀ D', D' < D → R2 (D' : Int) = R D') → (R2 D ≠ -1 → Sd set H L c h D (R2 D)) → (-1 ≤ R2 D ∧ R2 D < 6000) → (∀ j, j < i + 1 → D.testBit j = true → R2 ((D ^^^ 2 ^ j : Nat) : Int) ≠ -1 → ∀ (k0 : Nat) (u0 : Int), R2 ((D ^^^ 2 ^ j : Nat) : Int) = 1000 * k0 + u0 → 0 ≤ u0 ∧ u0 < 1000 → ∃ z, Ac set H h k0 u0 (L j) z ∧ (z ≠ -1 → R2 D ≠ -1 ∧ R2 D ≤ z)) → V G mX2_isEnough Q 0 0 93 [some (.ref 59), some (vi (set : Int)), some (vi (((2 ^ c : Nat) : Int) - 1)), some (vi (D : Int)), some (vi (i : Int)), x5] [] (sw F (sA A 62 R2)) := by
            intro R2 x5 a1 a2 a3 a4
            refine L_iinc eX2_isEnough_93 rfl (s_4 rfl rfl) ?_
            refine V_goto eX2_isEnough_96 ?_
            have := ihq (i + 1) R2 x5 (by omega) a1 a2 a3 a4
            exact this
          refine L_iload eX2_isEnough_33 rfl ?_
          refine L_aload_n eX2_isEnough_35 rfl ?_
          refine L_get eX2_isEnough_36 f_X2_15.g rfl rfl ?_
          -- at 39: .if_icmp .ge 60
          refine V_icmpge eX2_isEnough_39 (fun h2 => ?_) (fun h2 => ?_)
          · omega
          · refine L_iload_n eX2_isEnough_42 rfl ?_
            refine V_iconst eX2_isEnough_43 ?_
            refine L_iload eX2_isEnough_44 rfl ?_
            refine V_ishl eX2_isEnough_46 ?_
            refine V_iconst eX2_isEnough_47 ?_
            refine V_ixor eX2_isEnough_48 ?_
            refine V_iand eX2_isEnough_49 ?_
            rw [iClr hD256 hi8]
            by_cases hb : D.testBit i = true
            · rw [if_pos hb]
              have hlt := xor_lt hD256 hi8 hb
              have es := same _ hlt
              have Ki := K _ hlt
              have hLi := hL i (by omega) (by omega)
              have kb := Ki.b
              refine L_istore eX2_isEnough_50 (s_5 rfl rfl) ?_
              refine L_iload eX2_isEnough_52 rfl ?_
              refine L_iload_n eX2_isEnough_54 rfl ?_
              -- at 55: .if_icmp .eq 38
              refine V_icmpeq eX2_isEnough_55 (fun h3 => ?_) (fun h3 => ?_)
              · omega
              · refine L_aload_n eX2_isEnough_58 rfl ?_
                refine L_getR (r := 62) eX2_isEnough_59 f_X2_25.g rfl rfl (by decide) ?_
                refine L_iload eX2_isEnough_62 rfl ?_
                refine L_ialdE eX2_isEnough_64 rfl sA_eq ?_
                rw [es]
                refine V_iconst eX2_isEnough_65 ?_
                -- at 66: .if_icmp .eq 27
                refine V_icmpeq eX2_isEnough_66 (fun h4 => ?_) (fun h4 => ?_)
                · refine nxt R' _ same sd bd (fun j hj hbj hn => ?_)
                  by_cases f : j = i
                  · subst f
                    rw [es] at hn
                    exact absurd h4 hn
                  · exact J j (by omega) hbj hn
                · have hn : R ((D ^^^ 2 ^ i : Nat) : Int) ≠ -1 := h4
                  have Si := Ki.sd hn
                  obtain ⟨k0, s, m, t0, t1, t2, t3, t4, t5⟩ := Si
                  have hk0 : k0 ≤ 6 := by omega
                  obtain ⟨z, hA, hAc, hzb⟩ := p_X2_afterCut (F := F) (A := sA A 62 R') (set := set) (h := h) (H := H) (k0 := k0) (u0 := sB L c m) (v := R ((D ^^^ 2 ^ i : Nat) : Int)) (len := L i) hh h6 hset (by rw [eo _ _ (by decide)]; exact eH) hH t3 t4 hk0 hLi
                  have hKL := p_X2_keepLeast (G := G) (F := F) (A := sA A 62 R') (D := D) (r := z) hD256 (by omega) (by rw [sA_eq]; exact bd)
                  rw [sA_eq, sA_sA] at hKL
                  refine L_aload_n eX2_isEnough_69 rfl ?_
                  refine L_iload_n eX2_isEnough_70 rfl ?_
                  refine L_aload_n eX2_isEnough_71 rfl ?_
                  refine L_iload_n eX2_isEnough_72 rfl ?_
                  refine L_aload_n eX2_isEnough_73 rfl ?_
                  refine L_getR (r := 62) eX2_isEnough_74 f_X2_25.g rfl rfl (by decide) ?_
                  refine L_iload eX2_isEnough_77 rfl ?_
                  refine L_ialdE eX2_isEnough_79 rfl sA_eq ?_
                  rw [es]
                  refine L_aload_n eX2_isEnough_80 rfl ?_
                  refine L_getR (r := 61) eX2_isEnough_81 f_X2_22.g rfl rfl (by decide) ?_
                  refine L_iload eX2_isEnough_84 rfl ?_
                  refine L_ialdE eX2_isEnough_86 rfl (show sA A 62 R' 61 = L by rw [eo _ _ (by decide)]; exact eL) ?_
                  refine C_v1 (hA G) v_X2_38 eX2_isEnough_87 rfl rfl ?_
                  refine C_v0 hKL v_X2_42 eX2_isEnough_90 rfl rfl ?_
                  have hne : ∀ D', D' < D → uI R' D (klR (R' D) z) (D' : Int) = R' D' := fun D' hD' => uI_ne (by omega)
                  have hat : uI R' D (klR (R' D) z) (D : Int) = klR (R' D) z := uI_eq
                  have hkb := klR_b (a := R' D) (r := z) bd (by omega)
                  refine nxt _ _ (fun D' hD' => by rw [hne D' hD']; exact same D' hD') ?_ (by rw [hat]; exact hkb) (fun j hj hbj hn2 k1 u1 e6 e7 => ?_)
                  · rw [hat]
                    intro hx
                    by_cases cc : z ≠ -1 ∧ (R' D = -1 ∨ z < R' D)
                    · rw [show klR (R' D) z = z from if_pos cc]
                      exact Sd.step hL1 hH9 (by omega) hb ⟨k0, s, m, t0, t1, t2, t3, t4, t5⟩ t3 t4 hAc cc.1
                    · rw [show klR (R' D) z = R' D from if_neg cc] at hx ⊢
                      exact sd hx
                  · have hltj := xor_lt hD256 (by omega) hbj
                    rw [hne _ hltj] at hn2 e6
                    rw [hat]
                    by_cases f : j = i
                    · subst f
                      rw [es] at e6
                      have ek : k1 = k0 := by omega
                      have eu : u1 = sB L c m := by omega
                      subst ek eu
                      refine ⟨z, hAc, fun zn => ?_⟩
                      by_cases cc : z ≠ -1 ∧ (R' D = -1 ∨ z < R' D)
                      · rw [show klR (R' D) z = z from if_pos cc]
                        omega
                      · rw [show klR (R' D) z = R' D from if_neg cc]
                        omega
                    · obtain ⟨y, y1, y2⟩ := J j (by omega) hbj hn2 k1 u1 e6 e7
                      refine ⟨y, y1, fun yn => ?_⟩
                      have y3 := y2 yn
                      by_cases cc : z ≠ -1 ∧ (R' D = -1 ∨ z < R' D)
                      · rw [show klR (R' D) z = z from if_pos cc]
                        omega
                      · rw [show klR (R' D) z = R' D from if_neg cc]
                        omega
            · rw [if_neg hb]
              refine L_istore eX2_isEnough_50 (s_5 rfl rfl) ?_
              refine L_iload eX2_isEnough_52 rfl ?_
              refine L_iload_n eX2_isEnough_54 rfl ?_
              -- at 55: .if_icmp .eq 38
              refine V_icmpeq eX2_isEnough_55 (fun h3 => ?_) (fun h3 => ?_)
              · refine nxt R' _ same sd bd (fun j hj hbj => ?_)
                by_cases f : j = i
                · subst f; exact absurd hbj hb
                · exact J j (by omega) hbj
              · omega
      refine L_iload_n eX2_isEnough_18 rfl ?_
      refine L_iload_n eX2_isEnough_19 rfl ?_
      -- at 20: .if_icmp .gt 85
      refine V_icmpgt eX2_isEnough_20 (fun h2 => ?_) (fun h2 => ?_)
      · omega
      · refine L_aload_n eX2_isEnough_23 rfl ?_
        refine L_getR (r := 62) eX2_isEnough_24 f_X2_25.g rfl rfl (by decide) ?_
        refine L_iload_n eX2_isEnough_27 rfl ?_
        refine V_iconst eX2_isEnough_28 ?_
        refine L_iast eX2_isEnough_29 rfl ?_
        refine V_iconst eX2_isEnough_30 ?_
        refine L_istore eX2_isEnough_31 (s_4 rfl rfl) ?_
        rw [sA_eq, sA_sA]
        refine INN c 0 _ _ (by omega) (fun D' hD' => uI_ne (by omega)) (fun hx => absurd uI_eq hx) (by rw [uI_eq]; omega) (fun j hj => by omega)
  have hone : (iShl 1 (F 59 1)) = ((2 ^ c : Nat) : Int) := by rw [hc]; exact iShl1 c8
  refine V_iconst eX2_isEnough_0 ?_
  refine L_aload_n eX2_isEnough_1 rfl ?_
  refine L_get eX2_isEnough_2 f_X2_15.g rfl rfl ?_
  refine V_ishl eX2_isEnough_5 ?_
  rw [hone]
  refine V_iconst eX2_isEnough_6 ?_
  refine V_isub eX2_isEnough_7 ?_
  refine L_istore_n eX2_isEnough_8 (s_2 rfl rfl) ?_
  refine L_aload_n eX2_isEnough_9 rfl ?_
  refine L_getR (r := 62) eX2_isEnough_10 f_X2_25.g rfl rfl (by decide) ?_
  refine V_iconst eX2_isEnough_13 ?_
  refine V_iconst eX2_isEnough_14 ?_
  refine L_iast eX2_isEnough_15 rfl ?_
  refine V_iconst eX2_isEnough_16 ?_
  refine L_istore_n eX2_isEnough_17 (s_3 rfl rfl) ?_
  refine LOOP (2 ^ c - 1) 1 _ _ _ (by omega) (by omega) (fun D' hD' => ?_)
  have e : D' = 0 := by omega
  subst e
  have e0 : uI (A 62) 0 0 ((0 : Nat) : Int) = 0 := uI_eq
  refine rcK.mk ?_ ?_ (fun _ => e0) (by rw [e0]; omega)
  · rw [e0]
    intro _
    exact ⟨0, 0, 0, rfl, rfl, rfl, by rw [sB_0]; rfl, by rw [sB_0]; omega, Or.inl ⟨rfl, rfl⟩⟩
  · intro k s m _ _ _ p2 p3
    have := (or_le p2).2
    omega
end P94

