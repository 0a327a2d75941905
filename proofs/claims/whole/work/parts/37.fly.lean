theorem it_fix {h : rS → rS} {s : rS} (e : h s = s) : ∀ n : Nat, it (fun _ => h) n s = s := by
  intro n
  induction n with
  | zero => rfl
  | succ n ih =>
    show h (it (fun _ => h) n s) = s
    rw [ih]
    exact e
theorem it_add {h : rS → rS} {s : rS} (m : Nat) : ∀ n : Nat, it (fun _ => h) (m + n) s = it (fun _ => h) n (it (fun _ => h) m s) := by
  intro n
  induction n with
  | zero => rfl
  | succ n ih =>
    show h (it (fun _ => h) (m + n) s) = h _
    rw [ih]
theorem it_cong {h h' : Nat → rS → rS} : ∀ (n : Nat) (s : rS), (∀ j s, j < n → h j s = h' j s) → it h n s = it h' n s := by
  intro n
  induction n with
  | zero => intro s _; rfl
  | succ n ih =>
    intro s hh
    show h n _ = h' n _
    rw [ih s (fun j s hj => hh j s (by omega)), hh n _ (by omega)]
/-- a throw asks WEIGHTS and BENDS of JOINTS 1 to n alone -/
theorem gS_wt {w w' : Int → Int} {air fall t : Int} {n : Nat} {s : rS} (h : ∀ k : Int, 1 ≤ k → k ≤ n → w k = w' k) : gS w air fall t n s = gS w' air fall t n s := by
  refine it_cong n s (fun j s hj => ?_)
  unfold gO
  rw [h _ (by omega) (by omega)]
theorem bS_bd {w w' : Int → Int} {t : Int} {n : Nat} {s : rS} (h : ∀ k : Int, 1 ≤ k → k ≤ n → w k = w' k) : bS w t n s = bS w' t n s := by
  refine it_cong (n - 1) s (fun j s hj => ?_)
  unfold bE
  rw [h _ (by omega) (by omega)]
theorem pS_wt {w w' : Int → Int} {len t : Int} {n : Nat} {s : rS} (h : ∀ k : Int, 1 ≤ k → k ≤ n → w k = w' k) : pS w len t n s = pS w' len t n s := by
  refine it_cong n s (fun j s hj => ?_)
  unfold pU
  simp only []
  split
  · split
    · rfl
    · rw [h ((j : Int) + 1) (by omega) (by omega), h ((j : Int) + 1 - 1) (by omega) (by omega)]
  · rfl
theorem rdS_wt {w w' : Int → Int} {len t : Int} {n R : Nat} {s : rS} (h : ∀ k : Int, 1 ≤ k → k ≤ n → w k = w' k) : rdS w len t n R s = rdS w' len t n R s := it_cong R s (fun _ _ _ => pS_wt h)
theorem tkS_wt {w w' b b' : Int → Int} {len air fall hx hy t : Int} {n R : Nat} {s : rS} (h : ∀ k : Int, 1 ≤ k → k ≤ n → w k = w' k) (hb : ∀ k : Int, 1 ≤ k → k ≤ n → b k = b' k) : tkS w b len air fall n R hx hy t s = tkS w' b' len air fall n R hx hy t s := by
  unfold tkS
  rw [gS_wt h, bS_bd hb, rdS_wt h]
section P37
variable {G : gT} {F : fT} {A : nT} {X Y : Int → Int} {f : Nat}
theorem p_X1_pull (hf : isFl f) {n : Nat} {t : Int} (h0 : F f 0 = n) (hn : 1 ≤ n ∧ n ≤ 12) (ht : 1 ≤ t ∧ t ≤ 60) (hw : ∀ k : Int, 1 ≤ k → k ≤ n → 1 ≤ A (f + 3) k ∧ A (f + 3) k ≤ 80) (hlen : 20 ≤ F f 3 ∧ F f 3 ≤ 200) (hb : bO n t (X, Y)) (hr : bR n t 60000000 (X, Y)) : Meets G mX1_pull [.ref f, vi (13 * t)] (sw F (s2 A f X Y)) (fun r w => w = sw F (s2 A f (pS (A (f + 3)) (F f 3) t n (X, Y)).1 (pS (A (f + 3)) (F f 3) t n (X, Y)).2) ∧ ∃ b : Int, r = some (vi b) ∧ (b = 1 ∨ b = 0 ∧ pS (A (f + 3)) (F f 3) t n (X, Y) = (X, Y))) := by
  have pb := p_b (wt := A (f + 3)) (len := F f 3) hb hr ⟨rfl, rfl⟩ hn.2 (by omega) (fun k h1 h2 => (hw k h1 h2).1)
  refine L_ent [some (.ref f), some (vi (13 * t)), none, none, none, none, none, none, none, none, none] rfl ?_
  generalize hQ : (fun (r : Option Value) (w : wT) => w = sw F (s2 A f (pS (A (f + 3)) (F f 3) t n (X, Y)).1 (pS (A (f + 3)) (F f 3) t n (X, Y)).2) ∧ ∃ b : Int, r = some (vi b) ∧ (b = 1 ∨ b = 0 ∧ pS (A (f + 3)) (F f 3) t n (X, Y) = (X, Y))) = Q
  refine V_iconst eX1_pull_0 ?_
  refine L_istore_n eX1_pull_1 (s_2 rfl rfl) ?_
  refine V_iconst eX1_pull_2 ?_
  refine L_istore_n eX1_pull_3 (s_3 rfl rfl) ?_
  have LOOP : ∀ (r j : Nat) (k b : Int) (x4 x5 x6 x7 x8 x9 x10 : Option Value), n < r + j → j ≤ n → k = j + 1 → (b = 1 ∨ b = 0 ∧ it (fun j => pU (A (f + 3)) (F f 3) t (j + 1)) j (X, Y) = (X, Y)) → V G mX1_pull Q 0 0 4 [some (.ref f), some (vi (13 * t)), some (vi b), some (vi k), x4, x5, x6, x7, x8, x9, x10] [] (sw F (s2 A f (it (fun j => pU (A (f + 3)) (F f 3) t (j + 1)) j (X, Y)).1 (it (fun j => pU (A (f + 3)) (F f 3) t (j + 1)) j (X, Y)).2)) := by
    intro r
    induction r with
    | zero => intro j k b x4 x5 x6 x7 x8 x9 x10 e1 e2; omega
    | succ r ih =>
      intro j k b x4 x5 x6 x7 x8 x9 x10 e1 e2 ek hbs
      have g2 := (pb j e2).2.1
      have hnext := fun (s : rS) (hs : s = it (fun j => pU (A (f + 3)) (F f 3) t (j + 1)) j (X, Y)) (b' : Int) (x4 x5 x6 x7 x8 x9 x10 : Option Value) (hj : j + 1 ≤ n) (hb' : b' = 1 ∨ b' = 0 ∧ pU (A (f + 3)) (F f 3) t k s = (X, Y)) => (show V G mX1_pull Q 0 0 4 [some (.ref f), some (vi (13 * t)), some (vi b'), some (vi (k + 1)), x4, x5, x6, x7, x8, x9, x10] [] (sw F (s2 A f (pU (A (f + 3)) (F f 3) t k s).1 (pU (A (f + 3)) (F f 3) t k s).2)) from by
        rw [ek, hs] at hb'
        rw [ek, hs]
        exact ih (j + 1) _ b' x4 x5 x6 x7 x8 x9 x10 (by omega) hj (by omega) hb')
      have hfin : j = n → it (fun j => pU (A (f + 3)) (F f 3) t (j + 1)) j (X, Y) = pS (A (f + 3)) (F f 3) t n (X, Y) := fun e => by rw [e]; rfl
      generalize it (fun j => pU (A (f + 3)) (F f 3) t (j + 1)) j (X, Y) = s at g2 hnext hfin hbs
      obtain ⟨S, T⟩ := s
      have hnext := hnext (S, T) rfl
      dsimp only
      have hb01 : b = 0 ∨ b = 1 := by omega
      refine L_iload_n eX1_pull_4 rfl ?_
      refine L_aload_n eX1_pull_5 rfl ?_
      refine L_get eX1_pull_6 f_X1_9.g hf.k (hf.i (by decide)) ?_
      -- at 9: .if_icmp .gt 166
      refine V_icmpgt eX1_pull_9 (fun h3 => ?_) (fun h3 => ?_)
      · refine L_iload_n eX1_pull_175 rfl ?_
        -- at 176: .ireturn
        refine V_zreturn (nar_z hb01) eX1_pull_176 ?_
        rw [← hQ, ← hfin (by omega)]
        exact ⟨rfl, b, rfl, hbs⟩
      · have hnext := fun b' x4 x5 x6 x7 x8 x9 x10 => hnext b' x4 x5 x6 x7 x8 x9 x10 (by omega)
        have hk : 1 ≤ k ∧ k ≤ n := by omega
        obtain ⟨b1, b2, b3, b4, b5, b6, b7⟩ := spn_b g2 hk
        unfold pU at hnext
        simp only [] at hnext
        generalize hd : spn (S, T) (13 * t + k) = d at b6 b7 hnext
        unfold spn at hd
        simp only [] at hd b1 b2 b3 b4 b5
        have aa : ab 120000000 (S (13 * t + k) - S (13 * t + k - 1)) := by unfold ab at *; omega
        have bb : ab 120000000 (T (13 * t + k) - T (13 * t + k - 1)) := by unfold ab at *; omega
        have sa := aa
        have sb := bb
        unfold ab at sa sb
        have hbo := hr
        refine L_iload_n eX1_pull_12 rfl ?_
        refine L_iload_n eX1_pull_13 rfl ?_
        refine V_iadd eX1_pull_14 ?_
        refine L_istore eX1_pull_15 (s_4 rfl rfl) ?_
        refine L_aload_n eX1_pull_17 rfl ?_
        refine L_getR eX1_pull_18 f_X1_24.g hf.k hf.r4 (by omega) ?_
        refine L_iload eX1_pull_21 rfl ?_
        refine Z_iald1 (f := f) eX1_pull_23 hf.k1 ?_
        refine L_aload_n eX1_pull_24 rfl ?_
        refine L_getR eX1_pull_25 f_X1_24.g hf.k hf.r4 (by omega) ?_
        refine L_iload eX1_pull_28 rfl ?_
        refine V_iconst eX1_pull_30 ?_
        refine V_isub eX1_pull_31 ?_
        refine Z_iald1 (f := f) eX1_pull_32 hf.k1 ?_
        refine V_isub eX1_pull_33 ?_
        refine V_i2l eX1_pull_34 ?_
        generalize ea : S (13 * t + k) - S (13 * t + k - 1) = a at *
        refine L_lstore eX1_pull_35 (t_5 rfl) ?_
        refine L_aload_n eX1_pull_37 rfl ?_
        refine L_getR eX1_pull_38 f_X1_28.g hf.k hf.r5 (by omega) ?_
        refine L_iload eX1_pull_41 rfl ?_
        refine Z_iald2 (f := f) eX1_pull_43 hf.k2 ?_
        refine L_aload_n eX1_pull_44 rfl ?_
        refine L_getR eX1_pull_45 f_X1_28.g hf.k hf.r5 (by omega) ?_
        refine L_iload eX1_pull_48 rfl ?_
        refine V_iconst eX1_pull_50 ?_
        refine V_isub eX1_pull_51 ?_
        refine Z_iald2 (f := f) eX1_pull_52 hf.k2 ?_
        refine V_isub eX1_pull_53 ?_
        refine V_i2l eX1_pull_54 ?_
        generalize eb : T (13 * t + k) - T (13 * t + k - 1) = c at *
        refine L_lstore eX1_pull_55 (t_7 rfl) ?_
        refine L_aload_n eX1_pull_57 rfl ?_
        refine L_lload eX1_pull_58 rfl ?_
        refine L_lload eX1_pull_60 rfl ?_
        refine C_v1 (p_X1_lengthIfStretched hf hlen b5) v_X1_87 eX1_pull_62 hf.k rfl ?_
        rw [hd]
        by_cases hc : F f 3 < d
        · rw [if_pos hc]
          rw [if_pos hc] at hnext
          have TAIL : ∀ (S' T' : Int → Int), (∀ (x4 x5 x6 x7 x8 x9 x10 : Option Value), V G mX1_pull Q 0 0 4 [some (.ref f), some (vi (13 * t)), some (vi 1), some (vi (k + 1)), x4, x5, x6, x7, x8, x9, x10] [] (sw F (s2 A f S' T'))) → V G mX1_pull Q 0 0 152 [some (.ref f), some (vi (13 * t)), some (vi b), some (vi k), some (vi (13 * t + k)), some (vl a), none, some (vl c), none, some (vl d), none] [] (sw F (s2 A f S' T')) := by
            intro S' T' hh
            refine L_iload_n eX1_pull_152 rfl ?_
            -- at 153: .ifCond .ne 10
            refine V_ifne eX1_pull_153 (fun h6 => ?_) (fun h6 => ?_)
            · refine V_iconst eX1_pull_163 ?_
              refine V_goto eX1_pull_164 ?_
              refine L_istore_n eX1_pull_168 (s_2 rfl rfl) ?_
              refine L_iinc eX1_pull_169 rfl (s_3 rfl rfl) ?_
              refine V_goto eX1_pull_172 ?_
              exact hh _ _ _ _ _ _ _
            · refine L_lload eX1_pull_156 rfl ?_
              refine L_lconst0 eX1_pull_158 ?_
              -- at 159: .lcmp
              refine V_lcmple eX1_pull_159 eX1_pull_160 (fun h7 => ?_) (fun h7 => ?_)
              · omega
              · refine V_iconst eX1_pull_163 ?_
                refine V_goto eX1_pull_164 ?_
                refine L_istore_n eX1_pull_168 (s_2 rfl rfl) ?_
                refine L_iinc eX1_pull_169 rfl (s_3 rfl rfl) ?_
                refine V_goto eX1_pull_172 ?_
                exact hh _ _ _ _ _ _ _
          refine L_lstore eX1_pull_65 (t_9 rfl) ?_
          refine L_lload eX1_pull_67 rfl ?_
          refine L_lconst0 eX1_pull_69 ?_
          -- at 70: .lcmp
          refine V_lcmple eX1_pull_70 eX1_pull_71 (fun h4 => ?_) (fun h4 => ?_)
          · omega
          · refine L_iload_n eX1_pull_74 rfl ?_
            refine V_iconst eX1_pull_75 ?_
            -- at 76: .if_icmp .ne 56
            refine V_icmpne eX1_pull_76 (fun h5 => ?_) (fun h5 => ?_)
            · rw [if_neg h5] at hnext
              refine L_lload eX1_pull_132 rfl ?_
              refine L_lconst0 eX1_pull_134 ?_
              -- at 135: .lcmp
              refine V_lcmple eX1_pull_135 eX1_pull_136 (fun h8 => ?_) (fun h8 => ?_)
              · omega
              · refine L_aload_n eX1_pull_139 rfl ?_
                refine L_iload eX1_pull_140 rfl ?_
                refine L_iload_n eX1_pull_142 rfl ?_
                refine L_lload eX1_pull_143 rfl ?_
                refine L_lload eX1_pull_145 rfl ?_
                refine L_lload eX1_pull_147 rfl ?_
                refine C_v0 (p_X1_pullBoth hf hn.2 (by omega) ht hw hlen ⟨hc, b7⟩ aa bb g2) v_X1_91 eX1_pull_149 hf.k rfl ?_
                exact TAIL _ _ (fun x4 x5 x6 x7 x8 x9 x10 => hnext 1 x4 x5 x6 x7 x8 x9 x10 (Or.inl rfl))
            · rw [if_pos h5] at hnext
              have n1 := ab_mul (C := 170000000) aa (show 0 ≤ d - F f 3 by omega) (by omega)
              have n2 := ab_mul (C := 170000000) bb (show 0 ≤ d - F f 3 by omega) (by omega)
              unfold ab at n1 n2
              refine L_aload_n eX1_pull_79 rfl ?_
              refine L_getR eX1_pull_80 f_X1_24.g hf.k hf.r4 (by omega) ?_
              refine L_iload eX1_pull_83 rfl ?_
              refine L_dup2 eX1_pull_85 ?_
              refine Z_iald1 (f := f) eX1_pull_86 hf.k1 ?_
              refine L_lload eX1_pull_87 rfl ?_
              refine L_lload eX1_pull_89 rfl ?_
              refine L_aload_n eX1_pull_91 rfl ?_
              refine L_get eX1_pull_92 f_X1_21.g hf.k (hf.i (by decide)) ?_
              refine V_i2l eX1_pull_95 ?_
              refine V_lsub eX1_pull_96 ?_
              refine V_lmul eX1_pull_97 ?_
              refine L_lload eX1_pull_98 rfl ?_
              refine V_ldiv eX1_pull_100 ?_
              refine V_l2i eX1_pull_101 ?_
              refine V_isub eX1_pull_102 ?_
              refine Z_iast1 (f := f) eX1_pull_103 hf.k1 ?_
              refine L_aload_n eX1_pull_104 rfl ?_
              refine L_getR eX1_pull_105 f_X1_28.g hf.k hf.r5 (by omega) ?_
              refine L_iload eX1_pull_108 rfl ?_
              refine L_dup2 eX1_pull_110 ?_
              refine Z_iald2 (f := f) eX1_pull_111 hf.k2 ?_
              refine L_lload eX1_pull_112 rfl ?_
              refine L_lload eX1_pull_114 rfl ?_
              refine L_aload_n eX1_pull_116 rfl ?_
              refine L_get eX1_pull_117 f_X1_21.g hf.k (hf.i (by decide)) ?_
              refine V_i2l eX1_pull_120 ?_
              refine V_lsub eX1_pull_121 ?_
              refine V_lmul eX1_pull_122 ?_
              refine L_lload eX1_pull_123 rfl ?_
              refine V_ldiv eX1_pull_125 ?_
              refine V_l2i eX1_pull_126 ?_
              refine V_isub eX1_pull_127 ?_
              refine Z_iast2 (f := f) eX1_pull_128 hf.k2 ?_
              refine V_goto eX1_pull_129 ?_
              exact TAIL _ _ (fun x4 x5 x6 x7 x8 x9 x10 => hnext 1 x4 x5 x6 x7 x8 x9 x10 (Or.inl rfl))
        · rw [if_neg hc]
          rw [if_neg hc] at hnext
          refine L_lstore eX1_pull_65 (t_9 rfl) ?_
          refine L_lload eX1_pull_67 rfl ?_
          refine L_lconst0 eX1_pull_69 ?_
          -- at 70: .lcmp
          refine V_lcmple eX1_pull_70 eX1_pull_71 (fun h4 => ?_) (fun h4 => ?_)
          · refine L_lload eX1_pull_132 rfl ?_
            refine L_lconst0 eX1_pull_134 ?_
            -- at 135: .lcmp
            refine V_lcmple eX1_pull_135 eX1_pull_136 (fun h5 => ?_) (fun h5 => ?_)
            · refine L_iload_n eX1_pull_152 rfl ?_
              -- at 153: .ifCond .ne 10
              refine V_ifne eX1_pull_153 (fun h6 => ?_) (fun h6 => ?_)
              · refine V_iconst eX1_pull_163 ?_
                refine V_goto eX1_pull_164 ?_
                refine L_istore_n eX1_pull_168 (s_2 rfl rfl) ?_
                refine L_iinc eX1_pull_169 rfl (s_3 rfl rfl) ?_
                refine V_goto eX1_pull_172 ?_
                exact hnext 1 _ _ _ _ _ _ _ (Or.inl rfl)
              · refine L_lload eX1_pull_156 rfl ?_
                refine L_lconst0 eX1_pull_158 ?_
                -- at 159: .lcmp
                refine V_lcmple eX1_pull_159 eX1_pull_160 (fun h7 => ?_) (fun h7 => ?_)
                · refine V_iconst eX1_pull_167 ?_
                  refine L_istore_n eX1_pull_168 (s_2 rfl rfl) ?_
                  refine L_iinc eX1_pull_169 rfl (s_3 rfl rfl) ?_
                  refine V_goto eX1_pull_172 ?_
                  exact hnext 0 _ _ _ _ _ _ _ (Or.inr ⟨rfl, (hbs.resolve_left (by omega)).2⟩)
                · omega
            · omega
          · omega
  exact LOOP (n + 1) 0 1 0 _ _ _ _ _ _ _ (by omega) (by omega) (by omega) (Or.inr ⟨rfl, rfl⟩)
end P37

