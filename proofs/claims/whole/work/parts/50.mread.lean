/-! the reference reads off its rows -/
/-- a LOOP in some row ahead of j, the first one too -/
def hl0 (X Y : Int → Int) (n j : Nat) : Prop := ∃ i : Nat, i < j ∧ lpO X Y n i ≠ -1
section P50
variable {G : gT} {F : fT} {A : nT}
theorem p_X11_speedOf {k t : Int} (hb : bA (A 84, A 85)) (hk : 0 ≤ k ∧ k ≤ 12) (ht : 1 ≤ t ∧ t ≤ 60) : Pu G mX11_speedOf [.ref 66, vi k, vi t] F A (vl (rt (mv (A 84) (A 85) k t))) := by
  have hm := mv_b hb hk ht
  have hm2 := hm.2.2.2.2
  unfold mv at hm2
  refine L_ent [some (.ref 66), some (vi k), some (vi t)] rfl ?_
  refine L_aload_n eX11_speedOf_0 rfl ?_
  refine L_getR (r := 84) eX11_speedOf_1 f_X11_65.g rfl rfl (by decide) ?_
  refine L_iload_n eX11_speedOf_4 rfl ?_
  refine L_iload_n eX11_speedOf_5 rfl ?_
  refine C_s1 p_X11_cell v_X11_284 eX11_speedOf_6 rfl ?_
  refine L_lald eX11_speedOf_9 rfl ?_
  refine L_aload_n eX11_speedOf_10 rfl ?_
  refine L_getR (r := 84) eX11_speedOf_11 f_X11_65.g rfl rfl (by decide) ?_
  refine L_iload_n eX11_speedOf_14 rfl ?_
  refine L_iload_n eX11_speedOf_15 rfl ?_
  refine V_iconst eX11_speedOf_16 ?_
  refine V_isub eX11_speedOf_17 ?_
  refine C_s1 p_X11_cell v_X11_284 eX11_speedOf_18 rfl ?_
  refine L_lald eX11_speedOf_21 rfl ?_
  refine V_lsub eX11_speedOf_22 ?_
  refine L_aload_n eX11_speedOf_23 rfl ?_
  refine L_getR (r := 85) eX11_speedOf_24 f_X11_69.g rfl rfl (by decide) ?_
  refine L_iload_n eX11_speedOf_27 rfl ?_
  refine L_iload_n eX11_speedOf_28 rfl ?_
  refine C_s1 p_X11_cell v_X11_284 eX11_speedOf_29 rfl ?_
  refine L_lald eX11_speedOf_32 rfl ?_
  refine L_aload_n eX11_speedOf_33 rfl ?_
  refine L_getR (r := 85) eX11_speedOf_34 f_X11_69.g rfl rfl (by decide) ?_
  refine L_iload_n eX11_speedOf_37 rfl ?_
  refine L_iload_n eX11_speedOf_38 rfl ?_
  refine V_iconst eX11_speedOf_39 ?_
  refine V_isub eX11_speedOf_40 ?_
  refine C_s1 p_X11_cell v_X11_284 eX11_speedOf_41 rfl ?_
  refine L_lald eX11_speedOf_44 rfl ?_
  refine V_lsub eX11_speedOf_45 ?_
  refine C_s1 (p_X11_span (by omega)) v_X11_288 eX11_speedOf_46 rfl ?_
  exact V_lreturn eX11_speedOf_49 ⟨rfl, rfl⟩
theorem p_X11_forceOf {n k t : Int} (hp : plK n (A 67) (A 68)) (hn : n ≤ 12) (hk : 1 ≤ k ∧ k ≤ n) (ht : 1 ≤ t ∧ t ≤ 60) : Pu G mX11_forceOf [.ref 66, vi k, vi t] F A (vl (wtF (A 67) (A 68) k * mv (A 84) (A 85) k t)) := by
  have hw := wt_b hp hk
  refine L_ent [some (.ref 66), some (vi k), some (vi t), none, none, none, none] rfl ?_
  refine L_aload_n eX11_forceOf_0 rfl ?_
  refine L_getR (r := 84) eX11_forceOf_1 f_X11_65.g rfl rfl (by decide) ?_
  refine L_iload_n eX11_forceOf_4 rfl ?_
  refine L_iload_n eX11_forceOf_5 rfl ?_
  refine C_s1 p_X11_cell v_X11_284 eX11_forceOf_6 rfl ?_
  refine L_lald eX11_forceOf_9 rfl ?_
  refine L_aload_n eX11_forceOf_10 rfl ?_
  refine L_getR (r := 84) eX11_forceOf_11 f_X11_65.g rfl rfl (by decide) ?_
  refine L_iload_n eX11_forceOf_14 rfl ?_
  refine L_iload_n eX11_forceOf_15 rfl ?_
  refine V_iconst eX11_forceOf_16 ?_
  refine V_isub eX11_forceOf_17 ?_
  refine C_s1 p_X11_cell v_X11_284 eX11_forceOf_18 rfl ?_
  refine L_lald eX11_forceOf_21 rfl ?_
  refine V_lsub eX11_forceOf_22 ?_
  refine L_lstore_n eX11_forceOf_23 (t_3 rfl) ?_
  refine L_aload_n eX11_forceOf_24 rfl ?_
  refine L_getR (r := 85) eX11_forceOf_25 f_X11_69.g rfl rfl (by decide) ?_
  refine L_iload_n eX11_forceOf_28 rfl ?_
  refine L_iload_n eX11_forceOf_29 rfl ?_
  refine C_s1 p_X11_cell v_X11_284 eX11_forceOf_30 rfl ?_
  refine L_lald eX11_forceOf_33 rfl ?_
  refine L_aload_n eX11_forceOf_34 rfl ?_
  refine L_getR (r := 85) eX11_forceOf_35 f_X11_69.g rfl rfl (by decide) ?_
  refine L_iload_n eX11_forceOf_38 rfl ?_
  refine L_iload_n eX11_forceOf_39 rfl ?_
  refine V_iconst eX11_forceOf_40 ?_
  refine V_isub eX11_forceOf_41 ?_
  refine C_s1 p_X11_cell v_X11_284 eX11_forceOf_42 rfl ?_
  refine L_lald eX11_forceOf_45 rfl ?_
  refine V_lsub eX11_forceOf_46 ?_
  refine L_lstore eX11_forceOf_47 (t_5 rfl) ?_
  refine L_aload_n eX11_forceOf_49 rfl ?_
  refine L_iload_n eX11_forceOf_50 rfl ?_
  refine C_v1 (p_X11_weightOf hp hn hk) v_X11_254 eX11_forceOf_51 rfl rfl ?_
  refine V_i2l eX11_forceOf_54 ?_
  refine L_lload_n eX11_forceOf_55 rfl ?_
  refine L_lload_n eX11_forceOf_56 rfl ?_
  refine V_lmul eX11_forceOf_57 ?_
  refine L_lload eX11_forceOf_58 rfl ?_
  refine L_lload eX11_forceOf_60 rfl ?_
  refine V_lmul eX11_forceOf_62 ?_
  refine V_ladd eX11_forceOf_63 ?_
  refine V_lmul eX11_forceOf_64 ?_
  exact V_lreturn eX11_forceOf_65 ⟨rfl, rfl⟩
theorem p_X11_loopOf {n : Nat} {t : Int} (hb : bA (A 84, A 85)) (h0 : F 66 0 = n) (hn : 1 ≤ n ∧ n ≤ 12) (ht : 0 ≤ t ∧ t ≤ 60) : Pu G mX11_loopOf [.ref 66, vi t] F A (vi (lpO (A 84) (A 85) n t)) := by
  refine L_ent [some (.ref 66), some (vi t), none, none, none, none, none, none, none] rfl ?_
  generalize hQ : (fun (r' : Option Value) (w : wT) => r' = some (vi (lpO (A 84) (A 85) n t)) ∧ w = sw F A) = Q
  refine V_iconst eX11_loopOf_0 ?_
  refine L_istore_n eX11_loopOf_1 (s_2 rfl rfl) ?_
  refine L_lconst0 eX11_loopOf_2 ?_
  refine L_lstore_n eX11_loopOf_3 (t_3 rfl) ?_
  refine V_iconst eX11_loopOf_4 ?_
  refine L_istore eX11_loopOf_5 (s_5 rfl rfl) ?_
  have LOOP : ∀ (r j : Nat) (k : Int) (x6 x7 x8 : Option Value), n < r + j + 1 → j + 1 ≤ n → k = j + 1 → V G mX11_loopOf Q 0 0 7 [some (.ref 66), some (vi t), some (vi (lpS (A 84) (A 85) t j).2), some (vl (lpS (A 84) (A 85) t j).1), none, some (vi k), x6, x7, x8] [] (sw F A) := by
    intro r
    induction r with
    | zero => intro j k x6 x7 x8 e1 e2; omega
    | succ r ih =>
      intro j k x6 x7 x8 e1 e2 ek
      have hl := lpS_b hb ht j (by omega)
      refine L_iload eX11_loopOf_7 rfl ?_
      refine L_aload_n eX11_loopOf_9 rfl ?_
      refine L_get eX11_loopOf_10 f_X11_121.g rfl rfl ?_
      -- at 13: .if_icmp .ge 118
      refine V_icmpge eX11_loopOf_13 (fun h1 => ?_) (fun h1 => ?_)
      · have e : j = n - 1 := by omega
        subst e
        refine L_iload_n eX11_loopOf_131 rfl ?_
        -- at 132: .ireturn
        exact V_ireturn eX11_loopOf_132 (by rw [← hQ]; exact ⟨rfl, rfl⟩)
      · have hd := dot_b hb (k := k) (by omega) ht
        have hstep : lpS (A 84) (A 85) t (j + 1) = if dot (A 84) (A 85) t k < (lpS (A 84) (A 85) t j).1 then (dot (A 84) (A 85) t k, k) else lpS (A 84) (A 85) t j := by rw [ek]; rfl
        have hnext := fun x6 x7 x8 => ih (j + 1) (k + 1) x6 x7 x8 (by omega) (by omega) (by omega)
        rw [hstep] at hnext
        have hd2 := hd.2.2.2.2.2.2
        unfold dot at hd2 hnext
        unfold ab at hd2 hl
        refine L_iload eX11_loopOf_16 rfl ?_
        refine L_iload_n eX11_loopOf_18 rfl ?_
        refine C_s1 p_X11_cell v_X11_284 eX11_loopOf_19 rfl ?_
        refine L_istore eX11_loopOf_22 (s_6 rfl rfl) ?_
        refine L_aload_n eX11_loopOf_24 rfl ?_
        refine L_getR (r := 84) eX11_loopOf_25 f_X11_65.g rfl rfl (by decide) ?_
        refine L_iload eX11_loopOf_28 rfl ?_
        refine L_lald eX11_loopOf_30 rfl ?_
        refine L_aload_n eX11_loopOf_31 rfl ?_
        refine L_getR (r := 84) eX11_loopOf_32 f_X11_65.g rfl rfl (by decide) ?_
        refine L_iload eX11_loopOf_35 rfl ?_
        refine V_iconst eX11_loopOf_37 ?_
        refine V_isub eX11_loopOf_38 ?_
        refine L_lald eX11_loopOf_39 rfl ?_
        refine V_lsub eX11_loopOf_40 ?_
        refine L_aload_n eX11_loopOf_41 rfl ?_
        refine L_getR (r := 84) eX11_loopOf_42 f_X11_65.g rfl rfl (by decide) ?_
        refine L_iload eX11_loopOf_45 rfl ?_
        refine V_iconst eX11_loopOf_47 ?_
        refine V_iadd eX11_loopOf_48 ?_
        refine L_lald eX11_loopOf_49 rfl ?_
        refine L_aload_n eX11_loopOf_50 rfl ?_
        refine L_getR (r := 84) eX11_loopOf_51 f_X11_65.g rfl rfl (by decide) ?_
        refine L_iload eX11_loopOf_54 rfl ?_
        refine L_lald eX11_loopOf_56 rfl ?_
        refine V_lsub eX11_loopOf_57 ?_
        refine V_lmul eX11_loopOf_58 ?_
        refine L_aload_n eX11_loopOf_59 rfl ?_
        refine L_getR (r := 85) eX11_loopOf_60 f_X11_69.g rfl rfl (by decide) ?_
        refine L_iload eX11_loopOf_63 rfl ?_
        refine L_lald eX11_loopOf_65 rfl ?_
        refine L_aload_n eX11_loopOf_66 rfl ?_
        refine L_getR (r := 85) eX11_loopOf_67 f_X11_69.g rfl rfl (by decide) ?_
        refine L_iload eX11_loopOf_70 rfl ?_
        refine V_iconst eX11_loopOf_72 ?_
        refine V_isub eX11_loopOf_73 ?_
        refine L_lald eX11_loopOf_74 rfl ?_
        refine V_lsub eX11_loopOf_75 ?_
        refine L_aload_n eX11_loopOf_76 rfl ?_
        refine L_getR (r := 85) eX11_loopOf_77 f_X11_69.g rfl rfl (by decide) ?_
        refine L_iload eX11_loopOf_80 rfl ?_
        refine V_iconst eX11_loopOf_82 ?_
        refine V_iadd eX11_loopOf_83 ?_
        refine L_lald eX11_loopOf_84 rfl ?_
        refine L_aload_n eX11_loopOf_85 rfl ?_
        refine L_getR (r := 85) eX11_loopOf_86 f_X11_69.g rfl rfl (by decide) ?_
        refine L_iload eX11_loopOf_89 rfl ?_
        refine L_lald eX11_loopOf_91 rfl ?_
        refine V_lsub eX11_loopOf_92 ?_
        refine V_lmul eX11_loopOf_93 ?_
        refine V_ladd eX11_loopOf_94 ?_
        refine L_lstore eX11_loopOf_95 (t_7 rfl) ?_
        refine L_lload eX11_loopOf_97 rfl ?_
        refine L_lload_n eX11_loopOf_99 rfl ?_
        -- at 100: .lcmp
        refine V_lcmpge eX11_loopOf_100 eX11_loopOf_101 (fun h2 => ?_) (fun h2 => ?_)
        · rw [if_neg (by omega)] at hnext
          refine L_iload_n eX11_loopOf_109 rfl ?_
          refine L_istore_n eX11_loopOf_110 (s_2 rfl rfl) ?_
          refine L_lload eX11_loopOf_111 rfl ?_
          refine L_lload_n eX11_loopOf_113 rfl ?_
          -- at 114: .lcmp
          refine V_lcmpge eX11_loopOf_114 eX11_loopOf_115 (fun h3 => ?_) (fun h3 => ?_)
          · refine L_lload_n eX11_loopOf_123 rfl ?_
            refine L_lstore_n eX11_loopOf_124 (t_3 rfl) ?_
            refine L_iinc eX11_loopOf_125 rfl (s_5 rfl rfl) ?_
            refine V_goto eX11_loopOf_128 ?_
            exact hnext _ _ _
          · omega
        · rw [if_pos (by omega)] at hnext
          refine L_iload eX11_loopOf_104 rfl ?_
          refine V_goto eX11_loopOf_106 ?_
          refine L_istore_n eX11_loopOf_110 (s_2 rfl rfl) ?_
          refine L_lload eX11_loopOf_111 rfl ?_
          refine L_lload_n eX11_loopOf_113 rfl ?_
          -- at 114: .lcmp
          refine V_lcmpge eX11_loopOf_114 eX11_loopOf_115 (fun h3 => ?_) (fun h3 => ?_)
          · omega
          · refine L_lload eX11_loopOf_118 rfl ?_
            refine V_goto eX11_loopOf_120 ?_
            refine L_lstore_n eX11_loopOf_124 (t_3 rfl) ?_
            refine L_iinc eX11_loopOf_125 rfl (s_5 rfl rfl) ?_
            refine V_goto eX11_loopOf_128 ?_
            exact hnext _ _ _
  exact LOOP n 0 1 _ _ _ (by omega) (by omega) (by omega)
theorem p_X11_turnsOf {n T : Nat} (hb : bA (A 84, A 85)) (h0 : F 66 0 = n) (h1 : F 66 5 = T) (hn : n ≤ 12) (hT : T ≤ 60) (hx : ab 5000 (F 66 13)) (hy : ab 5000 (F 66 14)) : Pu G mX11_turnsOf [.ref 66] F A (vi (tuS (A 84) (A 85) (F 66 13) (F 66 14) n (T + 1)).1) := by
  unfold ab at hx hy
  refine L_ent [some (.ref 66), none, none, none, none, none] rfl ?_
  generalize hQ : (fun (r' : Option Value) (w : wT) => r' = some (vi (tuS (A 84) (A 85) (F 66 13) (F 66 14) n (T + 1)).1) ∧ w = sw F A) = Q
  refine V_iconst eX11_turnsOf_0 ?_
  refine L_istore_n eX11_turnsOf_1 (s_1 rfl rfl) ?_
  refine V_iconst eX11_turnsOf_2 ?_
  refine L_istore_n eX11_turnsOf_3 (s_2 rfl rfl) ?_
  refine V_iconst eX11_turnsOf_4 ?_
  refine L_istore_n eX11_turnsOf_5 (s_3 rfl rfl) ?_
  have LOOP : ∀ (r j : Nat) (t c q : Int) (x4 x5 : Option Value), T + 1 < r + j → j ≤ T + 1 → t = j → (c, q) = tuS (A 84) (A 85) (F 66 13) (F 66 14) n j → V G mX11_turnsOf Q 0 0 6 [some (.ref 66), some (vi c), some (vi q), some (vi t), x4, x5] [] (sw F A) := by
    intro r
    induction r with
    | zero => intro j t c q x4 x5 e1 e2; omega
    | succ r ih =>
      intro j t c q x4 x5 e1 e2 et ecq
      have hB := tuS_b (X := A 84) (Y := A 85) (x := F 66 13) (y := F 66 14) (n := n) j
      rw [← ecq] at hB
      simp only [] at hB
      refine L_iload_n eX11_turnsOf_6 rfl ?_
      refine L_aload_n eX11_turnsOf_7 rfl ?_
      refine L_get eX11_turnsOf_8 f_X11_127.g rfl rfl ?_
      -- at 11: .if_icmp .gt 90
      refine V_icmpgt eX11_turnsOf_11 (fun h2 => ?_) (fun h2 => ?_)
      · have e : j = T + 1 := by omega
        subst e
        refine L_iload_n eX11_turnsOf_101 rfl ?_
        -- at 102: .ireturn
        exact V_ireturn eX11_turnsOf_102 (by rw [← hQ, ← ecq]; exact ⟨rfl, rfl⟩)
      · have b1 := hb (13 * t + n) (by omega) (by omega)
        simp only [] at b1
        unfold ab at b1
        have hs : tuS (A 84) (A 85) (F 66 13) (F 66 14) n (j + 1) = (c + (if j = 0 then 0 else tuD (qrT (A 84 (13 * t + n) - F 66 13) (A 85 (13 * t + n) - F 66 14) q) q), qrT (A 84 (13 * t + n) - F 66 13) (A 85 (13 * t + n) - F 66 14) q) := by rw [tuS, ← ecq, et]
        have hqn := qrT_b (x := A 84 (13 * t + n) - F 66 13) (y := A 85 (13 * t + n) - F 66 14) hB.2
        refine L_aload_n eX11_turnsOf_14 rfl ?_
        refine L_get eX11_turnsOf_15 f_X11_121.g rfl rfl ?_
        refine L_iload_n eX11_turnsOf_18 rfl ?_
        rw [h0]
        refine C_s1 p_X11_cell v_X11_284 eX11_turnsOf_19 rfl ?_
        refine L_istore eX11_turnsOf_22 (s_4 rfl rfl) ?_
        refine L_aload_n eX11_turnsOf_24 rfl ?_
        refine L_getR (r := 84) eX11_turnsOf_25 f_X11_65.g rfl rfl (by decide) ?_
        refine L_iload eX11_turnsOf_28 rfl ?_
        refine L_lald eX11_turnsOf_30 rfl ?_
        refine L_aload_n eX11_turnsOf_31 rfl ?_
        refine L_get eX11_turnsOf_32 f_X11_139.g rfl rfl ?_
        refine V_i2l eX11_turnsOf_35 ?_
        refine V_lsub eX11_turnsOf_36 ?_
        refine L_aload_n eX11_turnsOf_37 rfl ?_
        refine L_getR (r := 85) eX11_turnsOf_38 f_X11_69.g rfl rfl (by decide) ?_
        refine L_iload eX11_turnsOf_41 rfl ?_
        refine L_lald eX11_turnsOf_43 rfl ?_
        refine L_aload_n eX11_turnsOf_44 rfl ?_
        refine L_get eX11_turnsOf_45 f_X11_343.g rfl rfl ?_
        refine V_i2l eX11_turnsOf_48 ?_
        refine V_lsub eX11_turnsOf_49 ?_
        refine L_iload_n eX11_turnsOf_50 rfl ?_
        refine C_s1 (p_X11_quarter (by omega) (by omega)) v_X11_346 eX11_turnsOf_51 rfl ?_
        generalize qrT (A 84 (13 * t + n) - F 66 13) (A 85 (13 * t + n) - F 66 14) q = nq at hs hqn
        have hnx := fun (c' : Int) (x4 x5 : Option Value) (hc : c' = c + (if j = 0 then 0 else tuD nq q)) => ih (j + 1) (t + 1) c' nq x4 x5 (by omega) (by omega) (by omega) (by rw [hs, hc])
        have t1 : (q + 1).tmod 4 = (q + 1) % 4 := Int.tmod_eq_emod_of_nonneg (by omega)
        have t2 : (nq + 1).tmod 4 = (nq + 1) % 4 := Int.tmod_eq_emod_of_nonneg (by omega)
        refine L_istore eX11_turnsOf_54 (s_5 rfl rfl) ?_
        refine L_iload_n eX11_turnsOf_56 rfl ?_
        -- at 57: .ifCond .le 35
        refine V_ifle eX11_turnsOf_57 (fun h3 => ?_) (fun h3 => ?_)
        · rw [if_pos (show j = 0 by omega)] at hnx
          refine L_iload eX11_turnsOf_92 rfl ?_
          refine L_istore_n eX11_turnsOf_94 (s_2 rfl rfl) ?_
          refine L_iinc eX11_turnsOf_95 rfl (s_3 rfl rfl) ?_
          refine V_goto eX11_turnsOf_98 ?_
          exact hnx _ _ _ (by omega)
        · rw [if_neg (show ¬ j = 0 by omega)] at hnx
          unfold tuD at hnx
          refine L_iload_n eX11_turnsOf_60 rfl ?_
          refine L_iload eX11_turnsOf_61 rfl ?_
          refine L_iload_n eX11_turnsOf_63 rfl ?_
          refine V_iconst eX11_turnsOf_64 ?_
          refine V_iadd eX11_turnsOf_65 ?_
          refine V_iconst eX11_turnsOf_66 ?_
          refine V_irem eX11_turnsOf_67 ?_
          -- at 68: .if_icmp .ne 7
          rw [t1]
          refine V_icmpne eX11_turnsOf_68 (fun h4 => ?_) (fun h4 => ?_)
          · rw [if_neg h4] at hnx
            refine L_iload_n eX11_turnsOf_75 rfl ?_
            refine L_iload eX11_turnsOf_76 rfl ?_
            refine V_iconst eX11_turnsOf_78 ?_
            refine V_iadd eX11_turnsOf_79 ?_
            refine V_iconst eX11_turnsOf_80 ?_
            refine V_irem eX11_turnsOf_81 ?_
            -- at 82: .if_icmp .ne 7
            rw [t2]
            refine V_icmpne eX11_turnsOf_82 (fun h5 => ?_) (fun h5 => ?_)
            · rw [if_neg h5] at hnx
              refine V_iconst eX11_turnsOf_89 ?_
              refine V_iadd eX11_turnsOf_90 ?_
              refine L_istore_n eX11_turnsOf_91 (s_1 rfl rfl) ?_
              refine L_iload eX11_turnsOf_92 rfl ?_
              refine L_istore_n eX11_turnsOf_94 (s_2 rfl rfl) ?_
              refine L_iinc eX11_turnsOf_95 rfl (s_3 rfl rfl) ?_
              refine V_goto eX11_turnsOf_98 ?_
              exact hnx _ _ _ rfl
            · rw [if_pos h5] at hnx
              refine V_iconst eX11_turnsOf_85 ?_
              refine V_goto eX11_turnsOf_86 ?_
              refine V_iadd eX11_turnsOf_90 ?_
              refine L_istore_n eX11_turnsOf_91 (s_1 rfl rfl) ?_
              refine L_iload eX11_turnsOf_92 rfl ?_
              refine L_istore_n eX11_turnsOf_94 (s_2 rfl rfl) ?_
              refine L_iinc eX11_turnsOf_95 rfl (s_3 rfl rfl) ?_
              refine V_goto eX11_turnsOf_98 ?_
              exact hnx _ _ _ rfl
          · rw [if_pos h4] at hnx
            refine V_iconst eX11_turnsOf_71 ?_
            refine V_goto eX11_turnsOf_72 ?_
            refine V_iadd eX11_turnsOf_90 ?_
            refine L_istore_n eX11_turnsOf_91 (s_1 rfl rfl) ?_
            refine L_iload eX11_turnsOf_92 rfl ?_
            refine L_istore_n eX11_turnsOf_94 (s_2 rfl rfl) ?_
            refine L_iinc eX11_turnsOf_95 rfl (s_3 rfl rfl) ?_
            refine V_goto eX11_turnsOf_98 ?_
            exact hnx _ _ _ rfl
  exact LOOP (T + 2) 0 0 0 0 _ _ (by omega) (by omega) (by omega) rfl
theorem p_X11_isOverhead {n T : Nat} (hb : bA (A 84, A 85)) (hl : 20 ≤ F 66 1 ∧ F 66 1 ≤ 200) (h0 : F 66 0 = n) (h1 : F 66 5 = T) (hn : 1 ≤ n ∧ n ≤ 12) (hT : T ≤ 60) : Pu G mX11_isOverhead [.ref 66] F A (vi (@ite Int (ohP (A 85) (F 66 1) n T) (Classical.propDecidable _) 1 0)) := by
  refine L_ent [some (.ref 66), none, none, none] rfl ?_
  generalize hQ : (fun (r' : Option Value) (w : wT) => r' = some (vi (@ite Int (ohP (A 85) (F 66 1) n T) (Classical.propDecidable _) 1 0)) ∧ w = sw F A) = Q
  refine V_iconst eX11_isOverhead_0 ?_
  refine L_istore_n eX11_isOverhead_1 (s_1 rfl rfl) ?_
  refine V_iconst eX11_isOverhead_2 ?_
  refine L_istore_n eX11_isOverhead_3 (s_2 rfl rfl) ?_
  have LOOP : ∀ (r j : Nat) (t b : Int) (x3 : Option Value), T < r + j → j ≤ T → t = j + 1 → (b = 1 ∧ ohP (A 85) (F 66 1) n j ∨ b = 0 ∧ ¬ ohP (A 85) (F 66 1) n j) → V G mX11_isOverhead Q 0 0 4 [some (.ref 66), some (vi b), some (vi t), x3] [] (sw F A) := by
    intro r
    induction r with
    | zero => intro j t b x3 e1 e2; omega
    | succ r ih =>
      intro j t b x3 e1 e2 et hB
      refine L_iload_n eX11_isOverhead_4 rfl ?_
      refine L_aload_n eX11_isOverhead_5 rfl ?_
      refine L_get eX11_isOverhead_6 f_X11_127.g rfl rfl ?_
      -- at 9: .if_icmp .gt 69
      refine V_icmpgt eX11_isOverhead_9 (fun h2 => ?_) (fun h2 => ?_)
      · have e : j = T := by omega
        subst e
        refine L_iload_n eX11_isOverhead_78 rfl ?_
        -- at 79: .ireturn
        refine V_zreturn (nar_z (by omega)) eX11_isOverhead_79 ?_
        rw [← hQ]
        refine ⟨?_, rfl⟩
        rcases hB with ⟨e, h⟩ | ⟨e, h⟩
        · rw [if_pos h, e]
        · rw [if_neg h, e]
      · have IN : ∀ (r i : Nat) (k c : Int), n < r + i → i ≤ n → k = i + 1 → (c = 1 ∧ (ohP (A 85) (F 66 1) n j ∨ ∃ i' : Nat, i' < i ∧ 2 * F 66 1 < A 85 (13 * t + ((i' : Int) + 1)) - A 85 (13 * t)) ∨ c = 0 ∧ ¬ (ohP (A 85) (F 66 1) n j ∨ ∃ i' : Nat, i' < i ∧ 2 * F 66 1 < A 85 (13 * t + ((i' : Int) + 1)) - A 85 (13 * t))) → V G mX11_isOverhead Q 0 0 14 [some (.ref 66), some (vi c), some (vi t), some (vi k)] [] (sw F A) := by
          intro r
          induction r with
          | zero => intro i k c e3 e4; omega
          | succ r ihr =>
            intro i k c e3 e4 ek hC
            refine L_iload_n eX11_isOverhead_14 rfl ?_
            refine L_aload_n eX11_isOverhead_15 rfl ?_
            refine L_get eX11_isOverhead_16 f_X11_121.g rfl rfl ?_
            -- at 19: .if_icmp .gt 53
            refine V_icmpgt eX11_isOverhead_19 (fun h3 => ?_) (fun h3 => ?_)
            · have e : i = n := by omega
              subst e
              refine L_iinc eX11_isOverhead_72 rfl (s_2 rfl rfl) ?_
              refine V_goto eX11_isOverhead_75 ?_
              refine ih (j + 1) _ _ _ (by omega) (by omega) (by omega) ?_
              have hiff : ohP (A 85) (F 66 1) i (j + 1) ↔ (ohP (A 85) (F 66 1) i j ∨ ∃ i' : Nat, i' < i ∧ 2 * F 66 1 < A 85 (13 * t + ((i' : Int) + 1)) - A 85 (13 * t)) := by
                rw [et]
                constructor
                · rintro ⟨j', a, b⟩
                  by_cases e : j' = j
                  · subst e; exact Or.inr b
                  · exact Or.inl ⟨j', by omega, b⟩
                · rintro (⟨j', a, b⟩ | b)
                  · exact ⟨j', by omega, b⟩
                  · exact ⟨j, by omega, b⟩
              rw [hiff]
              exact hC
            · have hor : (ohP (A 85) (F 66 1) n j ∨ ∃ i' : Nat, i' < i + 1 ∧ 2 * F 66 1 < A 85 (13 * t + ((i' : Int) + 1)) - A 85 (13 * t)) ↔ ((ohP (A 85) (F 66 1) n j ∨ ∃ i' : Nat, i' < i ∧ 2 * F 66 1 < A 85 (13 * t + ((i' : Int) + 1)) - A 85 (13 * t)) ∨ 2 * F 66 1 < A 85 (13 * t + k) - A 85 (13 * t)) := by
                rw [ek]
                constructor
                · rintro (h | ⟨i', a, b⟩)
                  · exact Or.inl (Or.inl h)
                  · by_cases e : i' = i
                    · subst e; exact Or.inr b
                    · exact Or.inl (Or.inr ⟨i', by omega, b⟩)
                · rintro ((h | ⟨i', a, b⟩) | b)
                  · exact Or.inl h
                  · exact Or.inr ⟨i', by omega, b⟩
                  · exact Or.inr ⟨i, by omega, b⟩
              have hnx := fun (c' : Int) (hc) => ihr (i + 1) (k + 1) c' (by omega) (by omega) (by omega) hc
              rw [hor] at hnx
              have b1 := (hb (13 * t + k) (by omega) (by omega)).2
              have b2 := (hb (13 * t) (by omega) (by omega)).2
              simp only [] at b1 b2
              unfold ab at b1 b2
              refine L_iload_n eX11_isOverhead_22 rfl ?_
              -- at 23: .ifCond .ne 37
              refine V_ifne eX11_isOverhead_23 (fun h4 => ?_) (fun h4 => ?_)
              · refine V_iconst eX11_isOverhead_60 ?_
                refine V_goto eX11_isOverhead_61 ?_
                refine L_istore_n eX11_isOverhead_65 (s_1 rfl rfl) ?_
                refine L_iinc eX11_isOverhead_66 rfl (s_3 rfl rfl) ?_
                refine V_goto eX11_isOverhead_69 ?_
                refine hnx 1 (Or.inl ⟨rfl, Or.inl ?_⟩)
                rcases hC with ⟨e, h⟩ | ⟨e, h⟩
                · exact h
                · omega
              · refine L_aload_n eX11_isOverhead_26 rfl ?_
                refine L_getR (r := 85) eX11_isOverhead_27 f_X11_69.g rfl rfl (by decide) ?_
                refine L_iload_n eX11_isOverhead_30 rfl ?_
                refine L_iload_n eX11_isOverhead_31 rfl ?_
                refine C_s1 p_X11_cell v_X11_284 eX11_isOverhead_32 rfl ?_
                refine L_lald eX11_isOverhead_35 rfl ?_
                refine L_aload_n eX11_isOverhead_36 rfl ?_
                refine L_getR (r := 85) eX11_isOverhead_37 f_X11_69.g rfl rfl (by decide) ?_
                refine V_iconst eX11_isOverhead_40 ?_
                refine L_iload_n eX11_isOverhead_41 rfl ?_
                refine C_s1 p_X11_cell v_X11_284 eX11_isOverhead_42 rfl ?_
                rw [Int.add_zero]
                refine L_lald eX11_isOverhead_45 rfl ?_
                refine V_lsub eX11_isOverhead_46 ?_
                refine L_ldc2 eX11_isOverhead_47 k_X11_144 ?_
                refine L_aload_n eX11_isOverhead_50 rfl ?_
                refine L_get eX11_isOverhead_51 f_X11_124.g rfl rfl ?_
                refine V_i2l eX11_isOverhead_54 ?_
                refine V_lmul eX11_isOverhead_55 ?_
                -- at 56: .lcmp
                refine V_lcmple eX11_isOverhead_56 eX11_isOverhead_57 (fun h5 => ?_) (fun h5 => ?_)
                · refine V_iconst eX11_isOverhead_64 ?_
                  refine L_istore_n eX11_isOverhead_65 (s_1 rfl rfl) ?_
                  refine L_iinc eX11_isOverhead_66 rfl (s_3 rfl rfl) ?_
                  refine V_goto eX11_isOverhead_69 ?_
                  refine hnx 0 (Or.inr ⟨rfl, ?_⟩)
                  rcases hC with ⟨e, h⟩ | ⟨e, h⟩
                  · omega
                  · rintro (h6 | h6)
                    · exact h h6
                    · omega
                · refine V_iconst eX11_isOverhead_60 ?_
                  refine V_goto eX11_isOverhead_61 ?_
                  refine L_istore_n eX11_isOverhead_65 (s_1 rfl rfl) ?_
                  refine L_iinc eX11_isOverhead_66 rfl (s_3 rfl rfl) ?_
                  refine V_goto eX11_isOverhead_69 ?_
                  exact hnx 1 (Or.inl ⟨rfl, Or.inr (by omega)⟩)
        refine V_iconst eX11_isOverhead_12 ?_
        refine L_istore_n eX11_isOverhead_13 (s_3 rfl rfl) ?_
        refine IN (n + 1) 0 1 b (by omega) (by omega) (by omega) ?_
        rcases hB with ⟨e, h⟩ | ⟨e, h⟩
        · exact Or.inl ⟨e, Or.inl h⟩
        · refine Or.inr ⟨e, ?_⟩
          rintro (h6 | ⟨i', h6, -⟩)
          · exact h h6
          · omega
  exact LOOP (T + 1) 0 1 0 _ (by omega) (by omega) (by omega) (Or.inr ⟨rfl, by rintro ⟨j', h, -⟩; omega⟩)
theorem p_X11_hasLoop {n T : Nat} (hb : bA (A 84, A 85)) (h0 : F 66 0 = n) (h1 : F 66 5 = T) (hn : 1 ≤ n ∧ n ≤ 12) (hT : T ≤ 60) : Pu G mX11_hasLoop [.ref 66] F A (vi (@ite Int (hl0 (A 84) (A 85) n (T + 1)) (Classical.propDecidable _) 1 0)) := by
  refine L_ent [some (.ref 66), none, none] rfl ?_
  generalize hQ : (fun (r' : Option Value) (w : wT) => r' = some (vi (@ite Int (hl0 (A 84) (A 85) n (T + 1)) (Classical.propDecidable _) 1 0)) ∧ w = sw F A) = Q
  refine V_iconst eX11_hasLoop_0 ?_
  refine L_istore_n eX11_hasLoop_1 (s_1 rfl rfl) ?_
  refine V_iconst eX11_hasLoop_2 ?_
  refine L_istore_n eX11_hasLoop_3 (s_2 rfl rfl) ?_
  have LOOP : ∀ (r j : Nat) (t b : Int), T + 1 < r + j → j ≤ T + 1 → t = j → (b = 1 ∧ hl0 (A 84) (A 85) n j ∨ b = 0 ∧ ¬ hl0 (A 84) (A 85) n j) → V G mX11_hasLoop Q 0 0 4 [some (.ref 66), some (vi b), some (vi t)] [] (sw F A) := by
    intro r
    induction r with
    | zero => intro j t b e1 e2; omega
    | succ r ih =>
      intro j t b e1 e2 et hB
      refine L_iload_n eX11_hasLoop_4 rfl ?_
      refine L_aload_n eX11_hasLoop_5 rfl ?_
      refine L_get eX11_hasLoop_6 f_X11_127.g rfl rfl ?_
      -- at 9: .if_icmp .gt 27
      refine V_icmpgt eX11_hasLoop_9 (fun h2 => ?_) (fun h2 => ?_)
      · have e : j = T + 1 := by omega
        subst e
        refine L_iload_n eX11_hasLoop_36 rfl ?_
        -- at 37: .ireturn
        refine V_zreturn (nar_z (by omega)) eX11_hasLoop_37 ?_
        rw [← hQ]
        refine ⟨?_, rfl⟩
        rcases hB with ⟨e, h⟩ | ⟨e, h⟩
        · rw [if_pos h, e]
        · rw [if_neg h, e]
      · have hl := lpS_b hb (t := t) (by omega) (n - 1) (by omega)
        have hor : hl0 (A 84) (A 85) n (j + 1) ↔ (hl0 (A 84) (A 85) n j ∨ lpO (A 84) (A 85) n t ≠ -1) := by
          rw [et]
          constructor
          · rintro ⟨i, a, c⟩
            by_cases e : i = j
            · subst e; exact Or.inr c
            · exact Or.inl ⟨i, by omega, c⟩
          · rintro (⟨i, a, c⟩ | c)
            · exact ⟨i, by omega, c⟩
            · exact ⟨j, by omega, c⟩
        have hnx := fun (c' : Int) (hc) => ih (j + 1) (t + 1) c' (by omega) (by omega) (by omega) hc
        rw [hor] at hnx
        refine L_iload_n eX11_hasLoop_12 rfl ?_
        -- at 13: .ifCond .ne 11
        refine V_ifne eX11_hasLoop_13 (fun h3 => ?_) (fun h3 => ?_)
        · refine V_iconst eX11_hasLoop_24 ?_
          refine V_goto eX11_hasLoop_25 ?_
          refine L_istore_n eX11_hasLoop_29 (s_1 rfl rfl) ?_
          refine L_iinc eX11_hasLoop_30 rfl (s_2 rfl rfl) ?_
          refine V_goto eX11_hasLoop_33 ?_
          refine hnx 1 (Or.inl ⟨rfl, Or.inl ?_⟩)
          rcases hB with ⟨e, h⟩ | ⟨e, h⟩
          · exact h
          · omega
        · refine L_aload_n eX11_hasLoop_16 rfl ?_
          refine L_iload_n eX11_hasLoop_17 rfl ?_
          refine C_v1 (p_X11_loopOf hb h0 hn (by omega)) v_X11_323 eX11_hasLoop_18 rfl rfl ?_
          unfold lpO
          unfold lpO at hnx
          refine V_iflt eX11_hasLoop_21 (fun h4 => ?_) (fun h4 => ?_)
          · refine V_iconst eX11_hasLoop_28 ?_
            refine L_istore_n eX11_hasLoop_29 (s_1 rfl rfl) ?_
            refine L_iinc eX11_hasLoop_30 rfl (s_2 rfl rfl) ?_
            refine V_goto eX11_hasLoop_33 ?_
            refine hnx 0 (Or.inr ⟨rfl, ?_⟩)
            rcases hB with ⟨e, h⟩ | ⟨e, h⟩
            · omega
            · rintro (h6 | h6)
              · exact h h6
              · omega
          · refine V_iconst eX11_hasLoop_24 ?_
            refine V_goto eX11_hasLoop_25 ?_
            refine L_istore_n eX11_hasLoop_29 (s_1 rfl rfl) ?_
            refine L_iinc eX11_hasLoop_30 rfl (s_2 rfl rfl) ?_
            refine V_goto eX11_hasLoop_33 ?_
            exact hnx 1 (Or.inl ⟨rfl, Or.inr (by omega)⟩)
  exact LOOP (T + 2) 0 0 0 (by omega) (by omega) (by omega) (Or.inr ⟨rfl, by rintro ⟨j', h, -⟩; omega⟩)
end P50

