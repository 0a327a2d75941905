section P53
variable {G : gT} {F : fT} {A : nT}
theorem p_X11_closeBy {n T : Nat} {d o : Int} {X2 Y2 : Int → Int} (hb : bA (A 84, A 85)) (hb2 : bA (X2, Y2)) (hO : ∀ k t : Int, 0 ≤ k → k ≤ n → 0 ≤ t → t ≤ T → A 91 (13 * t + k) = d - X2 (13 * t + k) ∧ A 92 (13 * t + k) = Y2 (13 * t + k)) (h0 : F 66 0 = n) (h1 : F 66 5 = T) (hn : n ≤ 12) (hT : T ≤ 60) (hd : ab 5000 d) (ho : 0 ≤ o ∧ o ≤ 30) : Pu G mX11_closeBy [.ref 66, vi o] F A (vi (lT (fun t k j => rt (v2 (A 84) (A 85) X2 Y2 d o T T t k j)) n n 1000000000 (T + o.toNat + 1))) := by
  have hq0 : ∀ t k j : Int, 0 ≤ t → t < ((T + o.toNat + 1 : Nat) : Int) → 0 ≤ k → k ≤ n → 0 ≤ j → j ≤ n → 0 ≤ v2 (A 84) (A 85) X2 Y2 d o T T t k j ∧ v2 (A 84) (A 85) X2 Y2 d o T T t k j ≤ 150000000000 := fun t k j a b c e g h => by
    have := q2_b hb hb2 hd (a := min t T) (k := k) (b := min (max 0 (t - o)) T) (j := j) (by omega) (by omega) (by omega) (by omega)
    unfold v2
    omega
  have hq : ∀ t k j : Int, 0 ≤ t → t < ((T + o.toNat + 1 : Nat) : Int) → 0 ≤ k → k ≤ n → 0 ≤ j → j ≤ n → 0 ≤ rt (v2 (A 84) (A 85) X2 Y2 d o T T t k j) ∧ rt (v2 (A 84) (A 85) X2 Y2 d o T T t k j) ≤ 1000000000 := fun t k j a b c e g h => by
    have h1 := hq0 t k j a b c e g h
    have h2 := rt_nn (v2 (A 84) (A 85) X2 Y2 d o T T t k j)
    have h3 := rt_mono h1.1 h1.2
    have h4 : rt 150000000000 = 387298 := rt_eq (by omega) (by omega) (by omega) (by omega)
    omega
  have hl := lT_b (v := fun t k j => rt (v2 (A 84) (A 85) X2 Y2 d o T T t k j)) (n := n) (m := n) (N := T + o.toNat + 1) (a := 1000000000) (B := 1000000000) (by omega) hq
  have hdd := hd
  unfold ab at hdd
  refine L_ent [some (.ref 66), some (vi o), none, none, none, none, none, none, none, none, none] rfl ?_
  generalize hQ : (fun (r' : Option Value) (w : wT) => r' = some (vi (lT (fun t k j => rt (v2 (A 84) (A 85) X2 Y2 d o T T t k j)) n n 1000000000 (T + o.toNat + 1))) ∧ w = sw F A) = Q
  generalize hN : T + o.toNat + 1 = N at hQ hq hq0 hl
  refine L_ldc2 eX11_closeBy_0 k_X11_387 ?_
  refine L_lstore_n eX11_closeBy_3 (t_2 rfl) ?_
  refine V_iconst eX11_closeBy_4 ?_
  refine L_istore eX11_closeBy_5 (s_4 rfl rfl) ?_
  have LOOP : ∀ (r j : Nat) (t : Int) (x5 x6 x7 x8 x9 : Option Value), N < r + j → j ≤ N → t = j → V G mX11_closeBy Q 0 0 7 [some (.ref 66), some (vi o), some (vl (lT (fun t k j => rt (v2 (A 84) (A 85) X2 Y2 d o T T t k j)) n n 1000000000 j)), none, some (vi t), x5, x6, x7, x8, x9, none] [] (sw F A) := by
    intro r
    induction r with
    | zero => intro j t x5 x6 x7 x8 x9 e1 e2; omega
    | succ r ih =>
      intro j t x5 x6 x7 x8 x9 e1 e2 et
      have hlj := hl j e2
      refine L_iload eX11_closeBy_7 rfl ?_
      refine L_aload_n eX11_closeBy_9 rfl ?_
      refine L_get eX11_closeBy_10 f_X11_127.g rfl rfl ?_
      refine L_iload_n eX11_closeBy_13 rfl ?_
      refine V_iadd eX11_closeBy_14 ?_
      -- at 15: .if_icmp .gt 150
      refine V_icmpgt eX11_closeBy_15 (fun h2 => ?_) (fun h2 => ?_)
      · have e : j = N := by omega
        subst e
        refine L_lload_n eX11_closeBy_165 rfl ?_
        refine V_l2i eX11_closeBy_166 ?_
        -- at 167: .ireturn
        exact V_ireturn eX11_closeBy_167 (by rw [← hQ]; exact ⟨rfl, rfl⟩)
      · subst et
        have ih1 := fun x5 x6 x7 x8 x9 => ih (j + 1) ((j : Int) + 1) x5 x6 x7 x8 x9 (by omega) (by omega) (by omega)
        have hs1 : lT (fun t k j => rt (v2 (A 84) (A 85) X2 Y2 d o T T t k j)) n n 1000000000 (j + 1) = gN (fun b k => rt (v2 (A 84) (A 85) X2 Y2 d o T T j k b)) n (lT (fun t k j => rt (v2 (A 84) (A 85) X2 Y2 d o T T t k j)) n n 1000000000 j) (n + 1) := rfl
        rw [hs1] at ih1
        generalize lT (fun t k j => rt (v2 (A 84) (A 85) X2 Y2 d o T T t k j)) n n 1000000000 j = L0 at ih1 hlj
        have hvj : ∀ k b : Int, 0 ≤ k → k ≤ n → 0 ≤ b → b ≤ n → 0 ≤ rt (v2 (A 84) (A 85) X2 Y2 d o T T j k b) ∧ rt (v2 (A 84) (A 85) X2 Y2 d o T T j k b) ≤ 1000000000 := fun k b c e g h => hq j k b (by omega) (by omega) c e g h
        have hgk := gN_b (v := fun b k => rt (v2 (A 84) (A 85) X2 Y2 d o T T j k b)) (n := n) (T := n + 1) hlj (fun b k a1 a2 a3 a4 => hvj k b a3 (by omega) a1 a2)
        have KL : ∀ (r i : Nat) (k : Int) (x8 x9 : Option Value), n + 1 < r + i → i ≤ n + 1 → k = i → V G mX11_closeBy Q 0 0 57 [some (.ref 66), some (vi o), some (vl (gN (fun b k => rt (v2 (A 84) (A 85) X2 Y2 d o T T j k b)) n L0 i)), none, some (vi (j : Int)), some (vi (min (j : Int) T)), some (vi (min (max 0 ((j : Int) - o)) T)), some (vi k), x8, x9, none] [] (sw F A) := by
          intro r
          induction r with
          | zero => intro i k x8 x9 e3 e4; omega
          | succ r ihr =>
            intro i k x8 x9 e3 e4 ek
            have hgi := hgk i e4
            refine L_iload eX11_closeBy_57 rfl ?_
            refine L_aload_n eX11_closeBy_59 rfl ?_
            refine L_get eX11_closeBy_60 f_X11_121.g rfl rfl ?_
            -- at 63: .if_icmp .gt 96
            refine V_icmpgt eX11_closeBy_63 (fun h3 => ?_) (fun h3 => ?_)
            · have e : i = n + 1 := by omega
              subst e
              refine L_iinc eX11_closeBy_159 rfl (s_4 rfl rfl) ?_
              refine V_goto eX11_closeBy_162 ?_
              exact ih1 _ _ _ _ _
            · subst ek
              have hs2 : gN (fun b k => rt (v2 (A 84) (A 85) X2 Y2 d o T T j k b)) n L0 (i + 1) = mnF (fun b => rt (v2 (A 84) (A 85) X2 Y2 d o T T j i b)) (gN (fun b k => rt (v2 (A 84) (A 85) X2 Y2 d o T T j k b)) n L0 i) (n + 1) := rfl
              have ihr1 := fun x8 x9 => ihr (i + 1) ((i : Int) + 1) x8 x9 (by omega) (by omega) (by omega)
              rw [hs2] at ihr1
              generalize gN (fun b k => rt (v2 (A 84) (A 85) X2 Y2 d o T T j k b)) n L0 i = L1 at ihr1 hgi
              have JL : ∀ (r m : Nat) (b : Int) (x9 : Option Value), n + 1 < r + m → m ≤ n + 1 → b = m → V G mX11_closeBy Q 0 0 69 [some (.ref 66), some (vi o), some (vl (mnF (fun b => rt (v2 (A 84) (A 85) X2 Y2 d o T T j i b)) L1 m)), none, some (vi (j : Int)), some (vi (min (j : Int) T)), some (vi (min (max 0 ((j : Int) - o)) T)), some (vi (i : Int)), some (vi b), x9, none] [] (sw F A) := by
                intro r
                induction r with
                | zero => intro m b x9 e5 e6; omega
                | succ r ihj =>
                  intro m b x9 e5 e6 eb
                  have hm := mnF_b (f := fun b => rt (v2 (A 84) (A 85) X2 Y2 d o T T j i b)) hgi m (fun a ha => hvj i a (by omega) (by omega) (by omega) (by omega))
                  refine L_iload eX11_closeBy_69 rfl ?_
                  refine L_aload_n eX11_closeBy_71 rfl ?_
                  refine L_get eX11_closeBy_72 f_X11_121.g rfl rfl ?_
                  -- at 75: .if_icmp .gt 78
                  refine V_icmpgt eX11_closeBy_75 (fun h4 => ?_) (fun h4 => ?_)
                  · have e : m = n + 1 := by omega
                    subst e
                    refine L_iinc eX11_closeBy_153 rfl (s_7 rfl rfl) ?_
                    refine V_goto eX11_closeBy_156 ?_
                    exact ihr1 _ _
                  · subst eb
                    have hv := q2_b hb hb2 hd (a := min (j : Int) T) (k := (i : Int)) (b := min (max 0 ((j : Int) - o)) T) (j := (m : Int)) (by omega) (by omega) (by omega) (by omega)
                    have hv2 := hv.2.2.2.2
                    have hrv := hvj i m (by omega) (by omega) (by omega) (by omega)
                    have hOO := hO m (min (max 0 ((j : Int) - o)) T) (by omega) (by omega) (by omega) (by omega)
                    have hnx := fun x9 => ihj (m + 1) ((m : Int) + 1) x9 (by omega) (by omega) (by omega)
                    have hs : mnF (fun b => rt (v2 (A 84) (A 85) X2 Y2 d o T T j i b)) L1 (m + 1) = min (mnF (fun b => rt (v2 (A 84) (A 85) X2 Y2 d o T T j i b)) L1 m) (rt (v2 (A 84) (A 85) X2 Y2 d o T T j i m)) := rfl
                    rw [hs] at hnx
                    generalize mnF (fun b => rt (v2 (A 84) (A 85) X2 Y2 d o T T j i b)) L1 m = m0 at hnx hm
                    unfold ab at hv
                    unfold v2 at hnx hrv
                    unfold q2 at hv2 hnx hrv
                    rw [← hOO.1, ← hOO.2] at hv2 hnx hrv
                    refine L_aload_n eX11_closeBy_78 rfl ?_
                    refine L_getR (r := 84) eX11_closeBy_79 f_X11_65.g rfl rfl (by decide) ?_
                    refine L_iload eX11_closeBy_82 rfl ?_
                    refine L_iload eX11_closeBy_84 rfl ?_
                    refine C_s1 p_X11_cell v_X11_284 eX11_closeBy_86 rfl ?_
                    refine L_lald eX11_closeBy_89 rfl ?_
                    refine L_aload_n eX11_closeBy_90 rfl ?_
                    refine L_getR (r := 91) eX11_closeBy_91 f_X11_90.g rfl rfl (by decide) ?_
                    refine L_iload eX11_closeBy_94 rfl ?_
                    refine L_iload eX11_closeBy_96 rfl ?_
                    refine C_s1 p_X11_cell v_X11_284 eX11_closeBy_98 rfl ?_
                    refine L_lald eX11_closeBy_101 rfl ?_
                    refine V_lsub eX11_closeBy_102 ?_
                    refine L_aload_n eX11_closeBy_103 rfl ?_
                    refine L_getR (r := 85) eX11_closeBy_104 f_X11_69.g rfl rfl (by decide) ?_
                    refine L_iload eX11_closeBy_107 rfl ?_
                    refine L_iload eX11_closeBy_109 rfl ?_
                    refine C_s1 p_X11_cell v_X11_284 eX11_closeBy_111 rfl ?_
                    refine L_lald eX11_closeBy_114 rfl ?_
                    refine L_aload_n eX11_closeBy_115 rfl ?_
                    refine L_getR (r := 92) eX11_closeBy_116 f_X11_93.g rfl rfl (by decide) ?_
                    refine L_iload eX11_closeBy_119 rfl ?_
                    refine L_iload eX11_closeBy_121 rfl ?_
                    refine C_s1 p_X11_cell v_X11_284 eX11_closeBy_123 rfl ?_
                    refine L_lald eX11_closeBy_126 rfl ?_
                    refine V_lsub eX11_closeBy_127 ?_
                    refine C_s1 (p_X11_span (by omega)) v_X11_288 eX11_closeBy_128 rfl ?_
                    refine L_lstore eX11_closeBy_131 (t_9 rfl) ?_
                    refine L_lload eX11_closeBy_133 rfl ?_
                    refine L_lload_n eX11_closeBy_135 rfl ?_
                    -- at 136: .lcmp
                    refine V_lcmpge eX11_closeBy_136 eX11_closeBy_137 (fun h5 => ?_) (fun h5 => ?_)
                    · rw [Int.min_eq_left (by omega)] at hnx
                      refine L_lload_n eX11_closeBy_145 rfl ?_
                      refine L_lstore_n eX11_closeBy_146 (t_2 rfl) ?_
                      refine L_iinc eX11_closeBy_147 rfl (s_8 rfl rfl) ?_
                      refine V_goto eX11_closeBy_150 ?_
                      exact hnx _
                    · rw [Int.min_eq_right (by omega)] at hnx
                      refine L_lload eX11_closeBy_140 rfl ?_
                      refine V_goto eX11_closeBy_142 ?_
                      refine L_lstore_n eX11_closeBy_146 (t_2 rfl) ?_
                      refine L_iinc eX11_closeBy_147 rfl (s_8 rfl rfl) ?_
                      refine V_goto eX11_closeBy_150 ?_
                      exact hnx _
              refine V_iconst eX11_closeBy_66 ?_
              refine L_istore eX11_closeBy_67 (s_8 rfl rfl) ?_
              exact JL (n + 2) 0 0 _ (by omega) (by omega) (by omega)
        have P3 : ∀ x6 x7 x8 x9, V G mX11_closeBy Q 0 0 52 [some (.ref 66), some (vi o), some (vl L0), none, some (vi (j : Int)), some (vi (min (j : Int) T)), x6, x7, x8, x9, none] [vi (min (max 0 ((j : Int) - o)) T)] (sw F A) := by
          intro x6 x7 x8 x9
          refine L_istore eX11_closeBy_52 (s_6 rfl rfl) ?_
          refine V_iconst eX11_closeBy_54 ?_
          refine L_istore eX11_closeBy_55 (s_7 rfl rfl) ?_
          exact KL (n + 2) 0 0 _ _ (by omega) (by omega) (by omega)
        have P2 : ∀ x5 x6 x7 x8 x9, V G mX11_closeBy Q 0 0 36 [some (.ref 66), some (vi o), some (vl L0), none, some (vi (j : Int)), x5, x6, x7, x8, x9, none] [vi (min (j : Int) T)] (sw F A) := by
          intro x5 x6 x7 x8 x9
          refine L_istore eX11_closeBy_36 (s_5 rfl rfl) ?_
          refine L_iload eX11_closeBy_38 rfl ?_
          refine L_iload_n eX11_closeBy_40 rfl ?_
          -- at 41: .if_icmp .ge 7
          refine V_icmpge eX11_closeBy_41 (fun h5 => ?_) (fun h5 => ?_)
          · refine L_iload eX11_closeBy_48 rfl ?_
            refine L_iload_n eX11_closeBy_50 rfl ?_
            refine V_isub eX11_closeBy_51 ?_
            exact V.topi (by omega) (P3 _ _ _ _)
          · refine V_iconst eX11_closeBy_44 ?_
            refine V_goto eX11_closeBy_45 ?_
            exact V.topi (by omega) (P3 _ _ _ _)
        refine L_iload eX11_closeBy_18 rfl ?_
        refine L_aload_n eX11_closeBy_20 rfl ?_
        refine L_get eX11_closeBy_21 f_X11_127.g rfl rfl ?_
        -- at 24: .if_icmp .le 10
        refine V_icmple eX11_closeBy_24 (fun h6 => ?_) (fun h6 => ?_)
        · refine L_iload eX11_closeBy_34 rfl ?_
          exact V.topi (by omega) (P2 _ _ _ _ _)
        · refine L_aload_n eX11_closeBy_27 rfl ?_
          refine L_get eX11_closeBy_28 f_X11_127.g rfl rfl ?_
          refine V_goto eX11_closeBy_31 ?_
          exact V.topi (by omega) (P2 _ _ _ _ _)
  exact LOOP (N + 1) 0 0 _ _ _ _ _ (by omega) (by omega) (by omega)
end P53

