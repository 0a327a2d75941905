def q2 (X Y X2 Y2 : Int → Int) (d a k b j : Int) : Int := (X (13 * a + k) - (d - X2 (13 * b + j))) * (X (13 * a + k) - (d - X2 (13 * b + j))) + (Y (13 * a + k) - Y2 (13 * b + j)) * (Y (13 * a + k) - Y2 (13 * b + j))
def lT (v : Int → Int → Int → Int) (n m : Nat) (a : Int) : Nat → Int
  | 0 => a
  | t + 1 => gN (fun j k => v t k j) m (lT v n m a t) (n + 1)
def v2 (X Y X2 Y2 : Int → Int) (d o T T2 t k j : Int) : Int := q2 X Y X2 Y2 d (min t T) k (min (max 0 (t - o)) T2) j
def aI (z : Int) : Int := if z < 0 then -z else z
theorem q2_b {X Y X2 Y2 : Int → Int} {d a k b j : Int} (h : bA (X, Y)) (h2 : bA (X2, Y2)) (hd : ab 5000 d) (ha : 0 ≤ a ∧ a ≤ 60) (hk : 0 ≤ k ∧ k ≤ 12) (hb : 0 ≤ b ∧ b ≤ 60) (hj : 0 ≤ j ∧ j ≤ 12) : ab 130000 (X (13 * a + k)) ∧ ab 130000 (Y (13 * a + k)) ∧ ab 130000 (X2 (13 * b + j)) ∧ ab 130000 (Y2 (13 * b + j)) ∧ 0 ≤ q2 X Y X2 Y2 d a k b j ∧ q2 X Y X2 Y2 d a k b j ≤ 150000000000 := by
  have h1 := h (13 * a + k) (by omega) (by omega)
  have h3 := h2 (13 * b + j) (by omega) (by omega)
  simp only [] at h1 h3
  have k1 := ab_sq (B := 265000) (z := X (13 * a + k) - (d - X2 (13 * b + j))) (by unfold ab at *; omega)
  have k2 := ab_sq (B := 265000) (z := Y (13 * a + k) - Y2 (13 * b + j)) (by unfold ab at *; omega)
  exact ⟨h1.1, h1.2, h3.1, h3.2, by unfold q2; omega, by unfold q2; omega⟩
theorem lT_b {v : Int → Int → Int → Int} {n m N : Nat} {a B : Int} (ha : 0 ≤ a ∧ a ≤ B) (h : ∀ t k j : Int, 0 ≤ t → t < N → 0 ≤ k → k ≤ n → 0 ≤ j → j ≤ m → 0 ≤ v t k j ∧ v t k j ≤ B) : ∀ i : Nat, i ≤ N → 0 ≤ lT v n m a i ∧ lT v n m a i ≤ B := by
  intro i
  induction i with
  | zero => intro _; exact ha
  | succ i ih =>
    intro hi
    exact gN_b (T := n + 1) (ih (by omega)) (fun j k a b c d => h _ _ _ (by omega) (by omega) c (by omega) a b) (n + 1) (Nat.le_refl _)
section P44
variable {G : gT} {F : fT} {A : nT} {f g : Nat}
theorem p_X1_leastFarOfTwo (hf : isFl f) (hg : isFl g) {n T : Nat} {d o : Int} (hb : bA (A (f + 1), A (f + 2))) (hb2 : bA (A (g + 1), A (g + 2))) (h0 : F f 0 = n) (h1 : F f 1 = T) (g0 : F g 0 = n) (g1 : F g 1 = T) (hn : n ≤ 12) (hT : T ≤ 60) (hd : ab 5000 d) (ho : 0 ≤ o ∧ o ≤ 30) : Pu G mX1_leastFarOfTwo [.ref f, .ref g, vi d, vi o] F A (vi (rt (lT (v2 (A (f + 1)) (A (f + 2)) (A (g + 1)) (A (g + 2)) d o T T) n n 9223372036854775807 (T + o.toNat + 1)))) := by
  have hq : ∀ t k j : Int, 0 ≤ t → t < ((T + o.toNat + 1 : Nat) : Int) → 0 ≤ k → k ≤ n → 0 ≤ j → j ≤ n → 0 ≤ v2 (A (f + 1)) (A (f + 2)) (A (g + 1)) (A (g + 2)) d o T T t k j ∧ v2 (A (f + 1)) (A (f + 2)) (A (g + 1)) (A (g + 2)) d o T T t k j ≤ 9223372036854775807 := fun t k j a b c e g h => by
    have := q2_b hb hb2 hd (a := min t T) (k := k) (b := min (max 0 (t - o)) T) (j := j) (by omega) (by omega) (by omega) (by omega)
    unfold v2
    omega
  have hl := lT_b (v := v2 (A (f + 1)) (A (f + 2)) (A (g + 1)) (A (g + 2)) d o T T) (n := n) (m := n) (N := T + o.toNat + 1) (a := 9223372036854775807) (B := 9223372036854775807) (by omega) hq
  have hdd := hd
  unfold ab at hdd
  refine L_ent [some (.ref f), some (.ref g), some (vi d), some (vi o), none, none, none, none, none, none, none, none, none, none, none] rfl ?_
  generalize hQ : (fun (r' : Option Value) (w : wT) => r' = some (vi (rt (lT (v2 (A (f + 1)) (A (f + 2)) (A (g + 1)) (A (g + 2)) d o T T) n n 9223372036854775807 (T + o.toNat + 1)))) ∧ w = sw F A) = Q
  generalize hN : T + o.toNat + 1 = N at hQ hq hl
  have hsmall : lT (v2 (A (f + 1)) (A (f + 2)) (A (g + 1)) (A (g + 2)) d o T T) n n 9223372036854775807 N ≤ 150000000000 := by
    have mono : ∀ i : Nat, lT (v2 (A (f + 1)) (A (f + 2)) (A (g + 1)) (A (g + 2)) d o T T) n n 9223372036854775807 (i + 1) ≤ lT (v2 (A (f + 1)) (A (f + 2)) (A (g + 1)) (A (g + 2)) d o T T) n n 9223372036854775807 1 := by
      intro i
      induction i with
      | zero => exact Int.le_refl _
      | succ i ih => exact Int.le_trans (gN_le0 _) ih
    have a1 := mono (N - 1)
    rw [show N - 1 + 1 = N by omega] at a1
    have a2 : lT (v2 (A (f + 1)) (A (f + 2)) (A (g + 1)) (A (g + 2)) d o T T) n n 9223372036854775807 1 ≤ v2 (A (f + 1)) (A (f + 2)) (A (g + 1)) (A (g + 2)) d o T T ((0 : Nat) : Int) ((0 : Nat) : Int) ((0 : Nat) : Int) := by
      have b1 := gN_mono (v := fun j k => v2 (A (f + 1)) (A (f + 2)) (A (g + 1)) (A (g + 2)) d o T T ((0 : Nat) : Int) k j) (n := n) (a := 9223372036854775807) (i := 1) (j := n + 1) (by omega)
      have b2 := mnF_le (f := fun j => v2 (A (f + 1)) (A (f + 2)) (A (g + 1)) (A (g + 2)) d o T T ((0 : Nat) : Int) ((0 : Nat) : Int) j) (a := 9223372036854775807) (n := n + 1) (i := 0) (by omega)
      exact Int.le_trans b1 b2
    have a3 := q2_b hb hb2 hd (a := min ((0 : Nat) : Int) T) (k := ((0 : Nat) : Int)) (b := min (max 0 (((0 : Nat) : Int) - o)) T) (j := ((0 : Nat) : Int)) (by omega) (by omega) (by omega) (by omega)
    unfold v2 at a2
    unfold v2 at a1
    unfold v2
    omega
  refine L_ldc2 eX1_leastFarOfTwo_0 k_X1_136 ?_
  refine L_lstore eX1_leastFarOfTwo_3 (t_4 rfl) ?_
  refine V_iconst eX1_leastFarOfTwo_5 ?_
  refine L_istore eX1_leastFarOfTwo_6 (s_6 rfl rfl) ?_
  have LOOP : ∀ (r j : Nat) (t : Int) (x7 x8 x9 x10 x11 x12 x13 x14 : Option Value), N < r + j → j ≤ N → t = j → V G mX1_leastFarOfTwo Q 0 0 8 [some (.ref f), some (.ref g), some (vi d), some (vi o), some (vl (lT (v2 (A (f + 1)) (A (f + 2)) (A (g + 1)) (A (g + 2)) d o T T) n n 9223372036854775807 j)), none, some (vi t), x7, x8, x9, x10, x11, x12, x13, x14] [] (sw F A) := by
    intro r
    induction r with
    | zero => intro j t x7 x8 x9 x10 x11 x12 x13 x14 e1 e2; omega
    | succ r ih =>
      intro j t x7 x8 x9 x10 x11 x12 x13 x14 e1 e2 et
      have hlj := hl j e2
      refine L_iload eX1_leastFarOfTwo_8 rfl ?_
      refine L_aload_n eX1_leastFarOfTwo_10 rfl ?_
      refine L_get eX1_leastFarOfTwo_11 f_X1_15.g hf.k (hf.i (by decide)) ?_
      refine L_iload_n eX1_leastFarOfTwo_14 rfl ?_
      refine V_iadd eX1_leastFarOfTwo_15 ?_
      -- at 16: .if_icmp .gt 147
      refine V_icmpgt eX1_leastFarOfTwo_16 (fun h2 => ?_) (fun h2 => ?_)
      · have e : j = N := by omega
        subst e
        refine L_lload eX1_leastFarOfTwo_163 rfl ?_
        refine C_n1 (p_X10_root (by omega)) v_X1_81 eX1_leastFarOfTwo_165 rfl ?_
        refine V_l2i eX1_leastFarOfTwo_168 ?_
        -- at 169: .ireturn
        exact V_ireturn eX1_leastFarOfTwo_169 (by rw [← hQ]; exact ⟨rfl, rfl⟩)
      · subst et
        have ih1 := fun x7 x8 x9 x10 x11 x12 x13 x14 => ih (j + 1) ((j : Int) + 1) x7 x8 x9 x10 x11 x12 x13 x14 (by omega) (by omega) (by omega)
        have hs1 : lT (v2 (A (f + 1)) (A (f + 2)) (A (g + 1)) (A (g + 2)) d o T T) n n 9223372036854775807 (j + 1) = gN (fun b k => v2 (A (f + 1)) (A (f + 2)) (A (g + 1)) (A (g + 2)) d o T T j k b) n (lT (v2 (A (f + 1)) (A (f + 2)) (A (g + 1)) (A (g + 2)) d o T T) n n 9223372036854775807 j) (n + 1) := rfl
        rw [hs1] at ih1
        generalize lT (v2 (A (f + 1)) (A (f + 2)) (A (g + 1)) (A (g + 2)) d o T T) n n 9223372036854775807 j = L0 at ih1 hlj
        have hvj : ∀ k b : Int, 0 ≤ k → k ≤ n → 0 ≤ b → b ≤ n → 0 ≤ v2 (A (f + 1)) (A (f + 2)) (A (g + 1)) (A (g + 2)) d o T T j k b ∧ v2 (A (f + 1)) (A (f + 2)) (A (g + 1)) (A (g + 2)) d o T T j k b ≤ 9223372036854775807 := fun k b c e g h => hq j k b (by omega) (by omega) c e g h
        have hgk := gN_b (v := fun b k => v2 (A (f + 1)) (A (f + 2)) (A (g + 1)) (A (g + 2)) d o T T j k b) (n := n) (T := n + 1) hlj (fun b k a1 a2 a3 a4 => hvj k b a3 (by omega) a1 a2)
        refine L_iload eX1_leastFarOfTwo_19 rfl ?_
        refine L_aload_n eX1_leastFarOfTwo_21 rfl ?_
        refine L_get eX1_leastFarOfTwo_22 f_X1_15.g hf.k (hf.i (by decide)) ?_
        refine V_mmin v_X1_133 eX1_leastFarOfTwo_25 ?_
        refine L_bipush eX1_leastFarOfTwo_28 rfl ?_
        refine V_imul eX1_leastFarOfTwo_30 ?_
        refine V.topi (z' := 13 * min (j : Int) T) (by rw [h1]; omega) ?_
        refine L_istore eX1_leastFarOfTwo_31 (s_7 rfl rfl) ?_
        refine V_iconst eX1_leastFarOfTwo_33 ?_
        refine L_iload eX1_leastFarOfTwo_34 rfl ?_
        refine L_iload_n eX1_leastFarOfTwo_36 rfl ?_
        refine V_isub eX1_leastFarOfTwo_37 ?_
        refine V_mmax v_X1_73 eX1_leastFarOfTwo_38 ?_
        refine L_aload_n eX1_leastFarOfTwo_41 rfl ?_
        refine L_get eX1_leastFarOfTwo_42 f_X1_15.g hg.k (hg.i (by decide)) ?_
        refine V_mmin v_X1_133 eX1_leastFarOfTwo_45 ?_
        refine L_bipush eX1_leastFarOfTwo_48 rfl ?_
        refine V_imul eX1_leastFarOfTwo_50 ?_
        refine V.topi (z' := 13 * min (max 0 ((j : Int) - o)) T) (by rw [g1]; omega) ?_
        have KL : ∀ (r i : Nat) (k : Int) (x10 x11 x12 x13 x14 : Option Value), n + 1 < r + i → i ≤ n + 1 → k = i → V G mX1_leastFarOfTwo Q 0 0 56 [some (.ref f), some (.ref g), some (vi d), some (vi o), some (vl (gN (fun b k => v2 (A (f + 1)) (A (f + 2)) (A (g + 1)) (A (g + 2)) d o T T j k b) n L0 i)), none, some (vi (j : Int)), some (vi (13 * min (j : Int) T)), some (vi (13 * min (max 0 ((j : Int) - o)) T)), some (vi k), x10, x11, x12, x13, x14] [] (sw F A) := by
          intro r
          induction r with
          | zero => intro i k x10 x11 x12 x13 x14 e3 e4; omega
          | succ r ihr =>
            intro i k x10 x11 x12 x13 x14 e3 e4 ek
            have hgi := hgk i e4
            refine L_iload eX1_leastFarOfTwo_56 rfl ?_
            refine L_aload_n eX1_leastFarOfTwo_58 rfl ?_
            refine L_get eX1_leastFarOfTwo_59 f_X1_9.g hf.k (hf.i (by decide)) ?_
            -- at 62: .if_icmp .gt 95
            refine V_icmpgt eX1_leastFarOfTwo_62 (fun h3 => ?_) (fun h3 => ?_)
            · have e : i = n + 1 := by omega
              subst e
              refine L_iinc eX1_leastFarOfTwo_157 rfl (s_6 rfl rfl) ?_
              refine V_goto eX1_leastFarOfTwo_160 ?_
              exact ih1 _ _ _ _ _ _ _ _
            · subst ek
              have hs2 : gN (fun b k => v2 (A (f + 1)) (A (f + 2)) (A (g + 1)) (A (g + 2)) d o T T j k b) n L0 (i + 1) = mnF (fun b => v2 (A (f + 1)) (A (f + 2)) (A (g + 1)) (A (g + 2)) d o T T j i b) (gN (fun b k => v2 (A (f + 1)) (A (f + 2)) (A (g + 1)) (A (g + 2)) d o T T j k b) n L0 i) (n + 1) := rfl
              have ihr1 := fun x10 x11 x12 x13 x14 => ihr (i + 1) ((i : Int) + 1) x10 x11 x12 x13 x14 (by omega) (by omega) (by omega)
              rw [hs2] at ihr1
              generalize gN (fun b k => v2 (A (f + 1)) (A (f + 2)) (A (g + 1)) (A (g + 2)) d o T T j k b) n L0 i = L1 at ihr1 hgi
              have JL : ∀ (r m : Nat) (b : Int) (x11 x12 x13 x14 : Option Value), n + 1 < r + m → m ≤ n + 1 → b = m → V G mX1_leastFarOfTwo Q 0 0 68 [some (.ref f), some (.ref g), some (vi d), some (vi o), some (vl (mnF (fun b => v2 (A (f + 1)) (A (f + 2)) (A (g + 1)) (A (g + 2)) d o T T j i b) L1 m)), none, some (vi (j : Int)), some (vi (13 * min (j : Int) T)), some (vi (13 * min (max 0 ((j : Int) - o)) T)), some (vi (i : Int)), some (vi b), x11, x12, x13, x14] [] (sw F A) := by
                intro r
                induction r with
                | zero => intro m b x11 x12 x13 x14 e5 e6; omega
                | succ r ihj =>
                  intro m b x11 x12 x13 x14 e5 e6 eb
                  have hm := mnF_b (f := fun b => v2 (A (f + 1)) (A (f + 2)) (A (g + 1)) (A (g + 2)) d o T T j i b) hgi m (fun a ha => hvj i a (by omega) (by omega) (by omega) (by omega))
                  refine L_iload eX1_leastFarOfTwo_68 rfl ?_
                  refine L_aload_n eX1_leastFarOfTwo_70 rfl ?_
                  refine L_get eX1_leastFarOfTwo_71 f_X1_9.g hg.k (hg.i (by decide)) ?_
                  -- at 74: .if_icmp .gt 77
                  refine V_icmpgt eX1_leastFarOfTwo_74 (fun h4 => ?_) (fun h4 => ?_)
                  · have e : m = n + 1 := by omega
                    subst e
                    refine L_iinc eX1_leastFarOfTwo_151 rfl (s_9 rfl rfl) ?_
                    refine V_goto eX1_leastFarOfTwo_154 ?_
                    exact ihr1 _ _ _ _ _
                  · subst eb
                    have hv := q2_b hb hb2 hd (a := min (j : Int) T) (k := (i : Int)) (b := min (max 0 ((j : Int) - o)) T) (j := (m : Int)) (by omega) (by omega) (by omega) (by omega)
                    have hv2 := hv.2.2.2.2
                    unfold ab at hv
                    unfold q2 at hv2
                    refine L_aload_n eX1_leastFarOfTwo_77 rfl ?_
                    refine L_getR eX1_leastFarOfTwo_78 f_X1_24.g hf.k hf.r4 (by omega) ?_
                    refine L_iload eX1_leastFarOfTwo_81 rfl ?_
                    refine L_iload eX1_leastFarOfTwo_83 rfl ?_
                    refine V_iadd eX1_leastFarOfTwo_85 ?_
                    refine L_iald eX1_leastFarOfTwo_86 hf.k1 ?_
                    refine L_iload_n eX1_leastFarOfTwo_87 rfl ?_
                    refine L_aload_n eX1_leastFarOfTwo_88 rfl ?_
                    refine L_getR eX1_leastFarOfTwo_89 f_X1_24.g hg.k hg.r4 (by omega) ?_
                    refine L_iload eX1_leastFarOfTwo_92 rfl ?_
                    refine L_iload eX1_leastFarOfTwo_94 rfl ?_
                    refine V_iadd eX1_leastFarOfTwo_96 ?_
                    refine L_iald eX1_leastFarOfTwo_97 hg.k1 ?_
                    refine V_isub eX1_leastFarOfTwo_98 ?_
                    refine V_isub eX1_leastFarOfTwo_99 ?_
                    refine V_i2l eX1_leastFarOfTwo_100 ?_
                    refine L_lstore eX1_leastFarOfTwo_101 (t_11 rfl) ?_
                    refine L_aload_n eX1_leastFarOfTwo_103 rfl ?_
                    refine L_getR eX1_leastFarOfTwo_104 f_X1_28.g hf.k hf.r5 (by omega) ?_
                    refine L_iload eX1_leastFarOfTwo_107 rfl ?_
                    refine L_iload eX1_leastFarOfTwo_109 rfl ?_
                    refine V_iadd eX1_leastFarOfTwo_111 ?_
                    refine L_iald eX1_leastFarOfTwo_112 hf.k2 ?_
                    refine L_aload_n eX1_leastFarOfTwo_113 rfl ?_
                    refine L_getR eX1_leastFarOfTwo_114 f_X1_28.g hg.k hg.r5 (by omega) ?_
                    refine L_iload eX1_leastFarOfTwo_117 rfl ?_
                    refine L_iload eX1_leastFarOfTwo_119 rfl ?_
                    refine V_iadd eX1_leastFarOfTwo_121 ?_
                    refine L_iald eX1_leastFarOfTwo_122 hg.k2 ?_
                    refine V_isub eX1_leastFarOfTwo_123 ?_
                    refine V_i2l eX1_leastFarOfTwo_124 ?_
                    refine L_lstore eX1_leastFarOfTwo_125 (t_13 rfl) ?_
                    refine L_lload eX1_leastFarOfTwo_127 rfl ?_
                    refine L_lload eX1_leastFarOfTwo_129 rfl ?_
                    refine L_lload eX1_leastFarOfTwo_131 rfl ?_
                    refine V_lmul eX1_leastFarOfTwo_133 ?_
                    refine L_lload eX1_leastFarOfTwo_134 rfl ?_
                    refine L_lload eX1_leastFarOfTwo_136 rfl ?_
                    refine V_lmul eX1_leastFarOfTwo_138 ?_
                    refine V_ladd eX1_leastFarOfTwo_139 ?_
                    refine V_mminl v_X1_138 eX1_leastFarOfTwo_140 ?_
                    refine L_lstore eX1_leastFarOfTwo_143 (t_4 rfl) ?_
                    refine L_iinc eX1_leastFarOfTwo_145 rfl (s_10 rfl rfl) ?_
                    refine V_goto eX1_leastFarOfTwo_148 ?_
                    exact ihj (m + 1) _ _ _ _ _ (by omega) (by omega) (by omega)
              refine V_iconst eX1_leastFarOfTwo_65 ?_
              refine L_istore eX1_leastFarOfTwo_66 (s_10 rfl rfl) ?_
              exact JL (n + 2) 0 0 _ _ _ _ (by omega) (by omega) (by omega)
        refine L_istore eX1_leastFarOfTwo_51 (s_8 rfl rfl) ?_
        refine V_iconst eX1_leastFarOfTwo_53 ?_
        refine L_istore eX1_leastFarOfTwo_54 (s_9 rfl rfl) ?_
        exact KL (n + 2) 0 0 _ _ _ _ _ (by omega) (by omega) (by omega)
  exact LOOP (N + 1) 0 0 _ _ _ _ _ _ _ _ (by omega) (by omega) (by omega)
theorem p_X0_distance (hf : isFl f) {n T S : Nat} (hb : bA (A (f + 1), A (f + 2))) (h0 : F f 0 = n) (h1 : F f 1 = T) (hn : n ≤ 12) (hT : T ≤ 60) (hS : F 63 0 = S) (hS2 : S ≤ 60) (hfi : ∀ i : Int, 0 ≤ i → i < S → ab 9999 (A 64 i) ∧ ab 9999 (A 65 i)) : Pu G mX0_distance [.ref 63, .ref f] F A (vi (sI (fun j => aI (A (f + 1) (13 * (j + 1) + n) - A 64 j) + aI (A (f + 2) (13 * (j + 1) + n) - A 65 j)) (min S T))) := by
  refine L_ent [some (.ref 63), some (.ref f), none, none, none] rfl ?_
  generalize hQ : (fun (r' : Option Value) (w : wT) => r' = some (vi (sI (fun j => aI (A (f + 1) (13 * (j + 1) + n) - A 64 j) + aI (A (f + 2) (13 * (j + 1) + n) - A 65 j)) (min S T))) ∧ w = sw F A) = Q
  refine V_iconst eX0_distance_0 ?_
  refine L_istore_n eX0_distance_1 (s_2 rfl rfl) ?_
  refine L_aload_n eX0_distance_2 rfl ?_
  refine L_get eX0_distance_3 f_X0_9.g rfl rfl ?_
  refine L_aload_n eX0_distance_6 rfl ?_
  refine L_get eX0_distance_7 f_X0_22.g hf.k (hf.i (by decide)) ?_
  refine V_mmin v_X0_27 eX0_distance_10 ?_
  refine V.topi (z' := ((min S T : Nat) : Int)) (by rw [hS, h1]; omega) ?_
  generalize hM : min S T = M at hQ
  refine L_istore_n eX0_distance_13 (s_3 rfl rfl) ?_
  refine V_iconst eX0_distance_14 ?_
  refine L_istore eX0_distance_15 (s_4 rfl rfl) ?_
  have LOOP : ∀ (r j : Nat) (t c : Int), M < r + j → j ≤ M → t = j + 1 → c = sI (fun j => aI (A (f + 1) (13 * (j + 1) + n) - A 64 j) + aI (A (f + 2) (13 * (j + 1) + n) - A 65 j)) j → V G mX0_distance Q 0 0 17 [some (.ref 63), some (.ref f), some (vi c), some (vi (M : Int)), some (vi t)] [] (sw F A) := by
    intro r
    induction r with
    | zero => intro j t c e1 e2; omega
    | succ r ih =>
      intro j t c e1 e2 et ec
      refine L_iload eX0_distance_17 rfl ?_
      refine L_iload_n eX0_distance_19 rfl ?_
      -- at 20: .if_icmp .gt 61
      refine V_icmpgt eX0_distance_20 (fun h2 => ?_) (fun h2 => ?_)
      · have e : j = M := by omega
        subst e
        refine L_iload_n eX0_distance_81 rfl ?_
        -- at 82: .ireturn
        exact V_ireturn eX0_distance_82 (by rw [← hQ, ec]; exact ⟨rfl, rfl⟩)
      · have b1 := hb (13 * t + n) (by omega) (by omega)
        have b2 := hfi j (by omega) (by omega)
        simp only [] at b1
        unfold ab at b1 b2
        have ej : t - 1 = (j : Int) := by omega
        refine L_iload_n eX0_distance_23 rfl ?_
        refine L_aload_n eX0_distance_24 rfl ?_
        refine L_aload_n eX0_distance_25 rfl ?_
        refine L_get eX0_distance_26 f_X0_33.g hf.k (hf.i (by decide)) ?_
        refine L_iload eX0_distance_29 rfl ?_
        rw [h0]
        refine C_v1 (p_X1_xOf hf (by omega) (by omega)) v_X0_36 eX0_distance_31 hf.k rfl ?_
        refine L_aload_n eX0_distance_34 rfl ?_
        refine L_getR (r := 64) eX0_distance_35 f_X0_15.g rfl rfl (by decide) ?_
        refine L_iload eX0_distance_38 rfl ?_
        refine V_iconst eX0_distance_40 ?_
        refine V_isub eX0_distance_41 ?_
        refine V.topi ej ?_
        refine L_iald eX0_distance_42 rfl ?_
        refine V_isub eX0_distance_43 ?_
        refine V_mabs v_X0_39 eX0_distance_44 ?_
        refine V_iadd eX0_distance_47 ?_
        refine L_istore_n eX0_distance_48 (s_2 rfl rfl) ?_
        refine L_iload_n eX0_distance_49 rfl ?_
        refine L_aload_n eX0_distance_50 rfl ?_
        refine L_aload_n eX0_distance_51 rfl ?_
        refine L_get eX0_distance_52 f_X0_33.g hf.k (hf.i (by decide)) ?_
        refine L_iload eX0_distance_55 rfl ?_
        rw [h0]
        refine C_v1 (p_X1_yOf hf (by omega) (by omega)) v_X0_43 eX0_distance_57 hf.k rfl ?_
        refine L_aload_n eX0_distance_60 rfl ?_
        refine L_getR (r := 65) eX0_distance_61 f_X0_19.g rfl rfl (by decide) ?_
        refine L_iload eX0_distance_64 rfl ?_
        refine V_iconst eX0_distance_66 ?_
        refine V_isub eX0_distance_67 ?_
        refine V.topi ej ?_
        refine L_iald eX0_distance_68 rfl ?_
        refine V_isub eX0_distance_69 ?_
        refine V_mabs v_X0_39 eX0_distance_70 ?_
        refine V_iadd eX0_distance_73 ?_
        refine L_istore_n eX0_distance_74 (s_2 rfl rfl) ?_
        refine L_iinc eX0_distance_75 rfl (s_4 rfl rfl) ?_
        refine V_goto eX0_distance_78 ?_
        refine ih (j + 1) _ _ (by omega) (by omega) (by omega) ?_
        show _ = sI _ j + (aI _ + aI _)
        rw [← ec, et]
        unfold aI
        omega
  exact LOOP (M + 1) 0 1 0 (by omega) (by omega) (by omega) rfl
end P44

