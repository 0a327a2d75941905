/-! THE TEXT: the reference's side -/
section P98e
variable {F : fT} {A : nT} {n a f lo hi : Int} {j : Nat}
theorem skp_m (hab : 0 ≤ a ∧ a ≤ n) : a ≤ skp (A 73) n a ∧ skp (A 73) n a ≤ n := rn_ge hab.2
theorem m_takeWord (hT : txT n (A 73)) (hn : F 66 16 = n) (ha : F 66 17 = a) (hab : 0 ≤ a ∧ a ≤ n) : ∃ F1, (∀ G : gT, Mu G mX11_takeWord [.ref 66] F A none F1 A) ∧ fr66 F F1 ∧ F1 66 17 = lrn (A 73) n (skp (A 73) n a) ∧ F1 66 18 = skp (A 73) n a ∧ F1 66 19 = lrn (A 73) n (skp (A 73) n a) - skp (A 73) n a ∧ F1 66 20 = F 66 20 ∧ F1 66 21 = F 66 21 := by
  have hn1 := hT.1
  have hq := skp_m (A := A) hab
  have hHr := fun (G : gT) => p_X11_here (G := G) (F := F) hT hn ha hab
  have hc := chA_b (q := skp (A 73) n a) hT (by omega)
  generalize skp (A 73) n a = q at *
  have he : q ≤ lrn (A 73) n q ∧ lrn (A 73) n q ≤ n := rn_ge hq.2
  have hst : ¬ (lrn (A 73) n q < n ∧ isLt (A 73 (lrn (A 73) n q)) = true) := rn_stop hq.2
  have hdr : ∀ p : Int, q ≤ p → p < lrn (A 73) n q → isLt (A 73 p) = true := fun p x y => rn_in (P := isLt) (T := A 73) (n := n) (n - q).toNat q (by omega) p x y
  generalize lrn (A 73) n q = e at *
  refine ⟨uF (uF (uF (uF F 66 17 q) 66 18 q) 66 17 e) 66 19 (e - q), fun G => ?_, fun o k w => by rw [uF_ne (by omega), uF_ne (by omega), uF_ne (by omega), uF_ne (by omega)], by rw [uF_ne (by decide), uF_eq], by rw [uF_ne (by decide), uF_ne (by decide), uF_eq], uF_eq, by rw [uF_ne (by decide), uF_ne (by decide), uF_ne (by decide), uF_ne (by decide)], by rw [uF_ne (by decide), uF_ne (by decide), uF_ne (by decide), uF_ne (by decide)]⟩
  refine L_ent [some (.ref 66), none] rfl ?_
  generalize hQ : (fun (r' : Option Value) (w : wT) => r' = none ∧ w = sw (uF (uF (uF (uF F 66 17 q) 66 18 q) 66 17 e) 66 19 (e - q)) A) = Q
  have g17 : uF F 66 17 q 66 17 = q := uF_eq
  refine L_aload_n eX11_takeWord_0 rfl ?_
  refine C_v1 (hHr G) v_X11_167 eX11_takeWord_1 rfl rfl ?_
  refine L_istore_n eX11_takeWord_4 (s_1 rfl rfl) ?_
  refine L_aload_n eX11_takeWord_5 rfl ?_
  refine L_aload_n eX11_takeWord_6 rfl ?_
  refine L_get eX11_takeWord_7 f_X11_161.g rfl rfl ?_
  rw [g17]
  refine L_put eX11_takeWord_10 f_X11_171 rfl rfl ?_
  have hF2 : uF (uF F 66 17 q) 66 18 q 66 16 = n := by rw [uF_ne (by decide), uF_ne (by decide)]; exact hn
  have hF3 : uF (uF F 66 17 q) 66 18 q 66 18 = q := uF_eq
  have hF4 : uF (uF F 66 17 q) 66 18 q = uF (uF (uF F 66 17 q) 66 18 q) 66 17 q := by
    rw [show uF (uF (uF F 66 17 q) 66 18 q) 66 17 q = uF (uF (uF F 66 17 q) 66 18 q) 66 17 (uF (uF F 66 17 q) 66 18 q 66 17) by rw [uF_ne (by decide), uF_eq], uF_self]
  rw [hF4]
  generalize uF (uF F 66 17 q) 66 18 q = F2 at *
  have LOOP : ∀ (r : Nat) (p x1 : Int), p + r = e → q ≤ p → V G mX11_takeWord Q 0 0 13 [some (.ref 66), some (vi x1)] [] (sw (uF F2 66 17 p) A) := by
    intro r
    induction r with
    | zero =>
      intro p x1 e1 e2
      have ep : p = e := by omega
      subst ep
      have g1 : uF F2 66 17 p 66 16 = n := by rw [uF_ne (by decide)]; exact hF2
      have g2 : uF F2 66 17 p 66 17 = p := uF_eq
      have g3 : uF F2 66 17 p 66 18 = q := by rw [uF_ne (by decide)]; exact hF3
      have fin : V G mX11_takeWord Q 0 0 59 [some (.ref 66), some (vi x1)] [] (sw (uF F2 66 17 p) A) := by
        refine L_aload_n eX11_takeWord_59 rfl ?_
        refine L_aload_n eX11_takeWord_60 rfl ?_
        refine L_get eX11_takeWord_61 f_X11_161.g rfl rfl ?_
        refine L_aload_n eX11_takeWord_64 rfl ?_
        refine L_get eX11_takeWord_65 f_X11_171.g rfl rfl ?_
        rw [g2, g3]
        refine V_isub eX11_takeWord_68 ?_
        refine L_put eX11_takeWord_69 f_X11_178 rfl rfl ?_
        refine V_return eX11_takeWord_72 ?_
        rw [← hQ]
        exact ⟨rfl, rfl⟩
      refine L_aload_n eX11_takeWord_13 rfl ?_
      refine L_get eX11_takeWord_14 f_X11_161.g rfl rfl ?_
      refine L_aload_n eX11_takeWord_17 rfl ?_
      refine L_get eX11_takeWord_18 f_X11_156.g rfl rfl ?_
      -- at 21: .if_icmp .ge 38
      refine V_icmpge eX11_takeWord_21 (fun h2 => ?_) (fun h2 => ?_)
      · exact fin
      · have hb := hT.2 p (by omega) (by omega)
        refine L_aload_n eX11_takeWord_24 rfl ?_
        refine L_getR (r := 73) eX11_takeWord_25 f_X11_28.g rfl rfl (by decide) ?_
        refine L_aload_n eX11_takeWord_28 rfl ?_
        refine L_get eX11_takeWord_29 f_X11_161.g rfl rfl ?_
        rw [g2]
        refine L_iald eX11_takeWord_32 rfl ?_
        refine V_i2l eX11_takeWord_33 ?_
        refine L_ldc2 eX11_takeWord_34 k_X11_174 ?_
        refine L_ldc2 eX11_takeWord_37 k_X11_176 ?_
        refine C_s1 (p_X11_in (by omega) (by omega) (by omega)) v_X11_152 eX11_takeWord_40 rfl ?_
        -- at 43: .ifCond .eq 16
        refine V_ifeqB eX11_takeWord_43 (fun h3 => ?_) (fun h3 => ?_)
        · exact fin
        · exact absurd ⟨by omega, isLt_i.mpr h3⟩ hst
    | succ r ih =>
      intro p x1 e1 e2
      have g1 : uF F2 66 17 p 66 16 = n := by rw [uF_ne (by decide)]; exact hF2
      have g2 : uF F2 66 17 p 66 17 = p := uF_eq
      have hb := hT.2 p (by omega) (by omega)
      have hd := isLt_i.mp (hdr p e2 (by omega))
      refine L_aload_n eX11_takeWord_13 rfl ?_
      refine L_get eX11_takeWord_14 f_X11_161.g rfl rfl ?_
      refine L_aload_n eX11_takeWord_17 rfl ?_
      refine L_get eX11_takeWord_18 f_X11_156.g rfl rfl ?_
      -- at 21: .if_icmp .ge 38
      refine V_icmpge eX11_takeWord_21 (fun h2 => ?_) (fun h2 => ?_)
      · omega
      · refine L_aload_n eX11_takeWord_24 rfl ?_
        refine L_getR (r := 73) eX11_takeWord_25 f_X11_28.g rfl rfl (by decide) ?_
        refine L_aload_n eX11_takeWord_28 rfl ?_
        refine L_get eX11_takeWord_29 f_X11_161.g rfl rfl ?_
        rw [g2]
        refine L_iald eX11_takeWord_32 rfl ?_
        refine V_i2l eX11_takeWord_33 ?_
        refine L_ldc2 eX11_takeWord_34 k_X11_174 ?_
        refine L_ldc2 eX11_takeWord_37 k_X11_176 ?_
        refine C_s1 (p_X11_in (by omega) (by omega) (by omega)) v_X11_152 eX11_takeWord_40 rfl ?_
        -- at 43: .ifCond .eq 16
        refine V_ifeqB eX11_takeWord_43 (fun h3 => ?_) (fun h3 => ?_)
        · omega
        · refine L_aload_n eX11_takeWord_46 rfl ?_
          refine L_dup eX11_takeWord_47 ?_
          refine L_get eX11_takeWord_48 f_X11_161.g rfl rfl ?_
          refine V_iconst eX11_takeWord_51 ?_
          refine V_iadd eX11_takeWord_52 ?_
          refine L_put eX11_takeWord_53 f_X11_161 rfl rfl ?_
          refine V_goto eX11_takeWord_56 ?_
          rw [uF_eq, uF_uF]
          exact ih (p + 1) _ (by omega) (by omega)
  exact LOOP (e - q).toNat q _ (by omega) (by omega)
def selW (c0 c1 c2 c3 c4 c5 c6 k : Int) : Int := if k = 0 then c0 else if k = 1 then c1 else if k = 2 then c2 else if k = 3 then c3 else if k = 4 then c4 else if k = 5 then c5 else c6
theorem m_isWord {q c0 c1 c2 c3 c4 c5 c6 : Int} (hT : txT n (A 73)) (hn : F 66 16 = n) (h18 : F 66 18 = q) (hq : 0 ≤ q ∧ q ≤ n) (h19 : F 66 19 = lrn (A 73) n q - q) (hj : j < 8) (hsel : ∀ k : Int, 0 ≤ k → k < sLn.getD j 0 → selW c0 c1 c2 c3 c4 c5 c6 k = wdC j k) : ∀ G : gT, Pu G mX11_isWord [.ref 66, vi (sLn.getD j 0), vi c0, vi c1, vi c2, vi c3, vi c4, vi c5, vi c6] F A (vi (@ite Int (wm (A 73) n j q) (Classical.propDecidable _) 1 0)) := by
  intro G
  have hn1 := hT.1
  have hl' : 2 ≤ sLn.getD j 0 ∧ sLn.getD j 0 ≤ 7 := (wd_l ⟨j, hj⟩).2
  have he : q ≤ lrn (A 73) n q ∧ lrn (A 73) n q ≤ n := rn_ge hq.2
  refine L_ent [some (.ref 66), some (vi (sLn.getD j 0)), some (vi c0), some (vi c1), some (vi c2), some (vi c3), some (vi c4), some (vi c5), some (vi c6), none, none] rfl ?_
  generalize hQ : (fun (r' : Option Value) (w : wT) => r' = some (vi (@ite Int (wm (A 73) n j q) (Classical.propDecidable _) 1 0)) ∧ w = sw F A) = Q
  have no : ¬ wm (A 73) n j q → Q (some (vi 0)) (sw F A) := fun x => by
    rw [← hQ, if_neg x]
    exact ⟨rfl, rfl⟩
  have yes : wm (A 73) n j q → Q (some (vi 1)) (sw F A) := fun x => by
    rw [← hQ, if_pos x]
    exact ⟨rfl, rfl⟩
  have ret0 : ∀ (k : Int), 0 ≤ k → k ≤ 7 → ¬ wm (A 73) n j q → V G mX11_isWord Q 0 0 18 [some (.ref 66), some (vi (sLn.getD j 0)), some (vi c0), some (vi c1), some (vi c2), some (vi c3), some (vi c4), some (vi c5), some (vi c6), some (vi 0), some (vi k)] [] (sw F A) := by
    intro k k0 k7 w
    refine L_iload eX11_isWord_18 rfl ?_
    refine L_iload_n eX11_isWord_20 rfl ?_
    -- at 21: .if_icmp .ge 101
    refine V_icmpge eX11_isWord_21 (fun h2 => ?_) (fun h2 => ?_)
    · refine L_iload eX11_isWord_122 rfl ?_
      -- at 124: .ireturn
      exact V_zreturn (by first | exact nar_z (by omega) | rfl) eX11_isWord_124 (no w)
    · refine L_iload eX11_isWord_24 rfl ?_
      -- at 26: .ifCond .eq 96
      refine V_ifeq eX11_isWord_26 (fun h3 => ?_) (fun h3 => ?_)
      · refine L_iload eX11_isWord_122 rfl ?_
        -- at 124: .ireturn
        exact V_zreturn (by first | exact nar_z (by omega) | rfl) eX11_isWord_124 (no w)
      · omega
  have LOOP : lrn (A 73) n q = q + sLn.getD j 0 → ∀ (r : Nat) (k : Int), k + r = sLn.getD j 0 → 0 ≤ k → (∀ i : Int, 0 ≤ i → i < k → A 73 (q + i) = wdC j i) → V G mX11_isWord Q 0 0 18 [some (.ref 66), some (vi (sLn.getD j 0)), some (vi c0), some (vi c1), some (vi c2), some (vi c3), some (vi c4), some (vi c5), some (vi c6), some (vi 1), some (vi k)] [] (sw F A) := by
    intro hl r
    induction r with
    | zero =>
      intro k e1 e2 e3
      refine L_iload eX11_isWord_18 rfl ?_
      refine L_iload_n eX11_isWord_20 rfl ?_
      -- at 21: .if_icmp .ge 101
      refine V_icmpge eX11_isWord_21 (fun h2 => ?_) (fun h2 => ?_)
      · refine L_iload eX11_isWord_122 rfl ?_
        -- at 124: .ireturn
        exact V_zreturn (by first | exact nar_z (by omega) | rfl) eX11_isWord_124 (yes ⟨hl, fun i x y => e3 i x (by omega)⟩)
      · omega
    | succ r ih =>
      intro k e1 e2 e3
      have hb := hT.2 (q + k) (by omega) (by omega)
      have hwc := (wdC_b hj (k := k) (by omega)).2.2
      have hs := hsel k e2 (by omega)
      have cmp : V G mX11_isWord Q 0 0 106 [some (.ref 66), some (vi (sLn.getD j 0)), some (vi c0), some (vi c1), some (vi c2), some (vi c3), some (vi c4), some (vi c5), some (vi c6), some (vi 1), some (vi k)] [vi (selW c0 c1 c2 c3 c4 c5 c6 k), vi (A 73 (q + k))] (sw F A) := by
        rw [hs]
        refine V_icmpne eX11_isWord_106 (fun h2 => ?_) (fun h2 => ?_)
        · refine V_iconst eX11_isWord_113 ?_
          refine L_istore eX11_isWord_114 (s_9 rfl rfl) ?_
          refine L_iinc eX11_isWord_116 rfl (s_10 rfl rfl) ?_
          refine V_goto eX11_isWord_119 ?_
          exact ret0 _ (by omega) (by omega) (fun w => h2 (w.2 k e2 (by omega)))
        · refine V_iconst eX11_isWord_109 ?_
          refine V_goto eX11_isWord_110 ?_
          refine L_istore eX11_isWord_114 (s_9 rfl rfl) ?_
          refine L_iinc eX11_isWord_116 rfl (s_10 rfl rfl) ?_
          refine V_goto eX11_isWord_119 ?_
          refine ih _ (by omega) (by omega) (fun i x y => ?_)
          by_cases g : i = k
          · rw [g]; omega
          · exact e3 i x (by omega)
      unfold selW at cmp
      refine L_iload eX11_isWord_18 rfl ?_
      refine L_iload_n eX11_isWord_20 rfl ?_
      -- at 21: .if_icmp .ge 101
      refine V_icmpge eX11_isWord_21 (fun h2 => ?_) (fun h2 => ?_)
      · omega
      · refine L_iload eX11_isWord_24 rfl ?_
        -- at 26: .ifCond .eq 96
        refine V_ifeq eX11_isWord_26 (fun h3 => ?_) (fun h3 => ?_)
        · omega
        · refine L_aload_n eX11_isWord_29 rfl ?_
          refine L_getR (r := 73) eX11_isWord_30 f_X11_28.g rfl rfl (by decide) ?_
          refine L_aload_n eX11_isWord_33 rfl ?_
          refine L_get eX11_isWord_34 f_X11_171.g rfl rfl ?_
          rw [h18]
          refine L_iload eX11_isWord_37 rfl ?_
          refine V_iadd eX11_isWord_39 ?_
          refine L_iald eX11_isWord_40 rfl ?_
          refine L_iload eX11_isWord_41 rfl ?_
          rcases (show k = 0 ∨ k = 1 ∨ k = 2 ∨ k = 3 ∨ k = 4 ∨ k = 5 ∨ k = 6 by omega) with e | e | e | e | e | e | e
          · subst e
            rw [if_pos rfl] at cmp
            refine V_ifne eX11_isWord_43 (fun h43 => ?_) (fun h43 => ?_)
            · (exfalso; omega)
            · refine L_iload_n eX11_isWord_46 rfl ?_
              refine V_goto eX11_isWord_47 ?_
              exact cmp
          · subst e
            rw [if_neg (by decide), if_pos rfl] at cmp
            refine V_ifne eX11_isWord_43 (fun h43 => ?_) (fun h43 => ?_)
            · refine L_iload eX11_isWord_50 rfl ?_
              refine V_iconst eX11_isWord_52 ?_
              refine V_icmpne eX11_isWord_53 (fun h53 => ?_) (fun h53 => ?_)
              · (exfalso; omega)
              · refine L_iload_n eX11_isWord_56 rfl ?_
                refine V_goto eX11_isWord_57 ?_
                exact cmp
            · (exfalso; omega)
          · subst e
            rw [if_neg (by decide), if_neg (by decide), if_pos rfl] at cmp
            refine V_ifne eX11_isWord_43 (fun h43 => ?_) (fun h43 => ?_)
            · refine L_iload eX11_isWord_50 rfl ?_
              refine V_iconst eX11_isWord_52 ?_
              refine V_icmpne eX11_isWord_53 (fun h53 => ?_) (fun h53 => ?_)
              · refine L_iload eX11_isWord_60 rfl ?_
                refine V_iconst eX11_isWord_62 ?_
                refine V_icmpne eX11_isWord_63 (fun h63 => ?_) (fun h63 => ?_)
                · (exfalso; omega)
                · refine L_iload eX11_isWord_66 rfl ?_
                  refine V_goto eX11_isWord_68 ?_
                  exact cmp
              · (exfalso; omega)
            · (exfalso; omega)
          · subst e
            rw [if_neg (by decide), if_neg (by decide), if_neg (by decide), if_pos rfl] at cmp
            refine V_ifne eX11_isWord_43 (fun h43 => ?_) (fun h43 => ?_)
            · refine L_iload eX11_isWord_50 rfl ?_
              refine V_iconst eX11_isWord_52 ?_
              refine V_icmpne eX11_isWord_53 (fun h53 => ?_) (fun h53 => ?_)
              · refine L_iload eX11_isWord_60 rfl ?_
                refine V_iconst eX11_isWord_62 ?_
                refine V_icmpne eX11_isWord_63 (fun h63 => ?_) (fun h63 => ?_)
                · refine L_iload eX11_isWord_71 rfl ?_
                  refine V_iconst eX11_isWord_73 ?_
                  refine V_icmpne eX11_isWord_74 (fun h74 => ?_) (fun h74 => ?_)
                  · (exfalso; omega)
                  · refine L_iload eX11_isWord_77 rfl ?_
                    refine V_goto eX11_isWord_79 ?_
                    exact cmp
                · (exfalso; omega)
              · (exfalso; omega)
            · (exfalso; omega)
          · subst e
            rw [if_neg (by decide), if_neg (by decide), if_neg (by decide), if_neg (by decide), if_pos rfl] at cmp
            refine V_ifne eX11_isWord_43 (fun h43 => ?_) (fun h43 => ?_)
            · refine L_iload eX11_isWord_50 rfl ?_
              refine V_iconst eX11_isWord_52 ?_
              refine V_icmpne eX11_isWord_53 (fun h53 => ?_) (fun h53 => ?_)
              · refine L_iload eX11_isWord_60 rfl ?_
                refine V_iconst eX11_isWord_62 ?_
                refine V_icmpne eX11_isWord_63 (fun h63 => ?_) (fun h63 => ?_)
                · refine L_iload eX11_isWord_71 rfl ?_
                  refine V_iconst eX11_isWord_73 ?_
                  refine V_icmpne eX11_isWord_74 (fun h74 => ?_) (fun h74 => ?_)
                  · refine L_iload eX11_isWord_82 rfl ?_
                    refine V_iconst eX11_isWord_84 ?_
                    refine V_icmpne eX11_isWord_85 (fun h85 => ?_) (fun h85 => ?_)
                    · (exfalso; omega)
                    · refine L_iload eX11_isWord_88 rfl ?_
                      refine V_goto eX11_isWord_90 ?_
                      exact cmp
                  · (exfalso; omega)
                · (exfalso; omega)
              · (exfalso; omega)
            · (exfalso; omega)
          · subst e
            rw [if_neg (by decide), if_neg (by decide), if_neg (by decide), if_neg (by decide), if_neg (by decide), if_pos rfl] at cmp
            refine V_ifne eX11_isWord_43 (fun h43 => ?_) (fun h43 => ?_)
            · refine L_iload eX11_isWord_50 rfl ?_
              refine V_iconst eX11_isWord_52 ?_
              refine V_icmpne eX11_isWord_53 (fun h53 => ?_) (fun h53 => ?_)
              · refine L_iload eX11_isWord_60 rfl ?_
                refine V_iconst eX11_isWord_62 ?_
                refine V_icmpne eX11_isWord_63 (fun h63 => ?_) (fun h63 => ?_)
                · refine L_iload eX11_isWord_71 rfl ?_
                  refine V_iconst eX11_isWord_73 ?_
                  refine V_icmpne eX11_isWord_74 (fun h74 => ?_) (fun h74 => ?_)
                  · refine L_iload eX11_isWord_82 rfl ?_
                    refine V_iconst eX11_isWord_84 ?_
                    refine V_icmpne eX11_isWord_85 (fun h85 => ?_) (fun h85 => ?_)
                    · refine L_iload eX11_isWord_93 rfl ?_
                      refine V_iconst eX11_isWord_95 ?_
                      refine V_icmpne eX11_isWord_96 (fun h96 => ?_) (fun h96 => ?_)
                      · (exfalso; omega)
                      · refine L_iload eX11_isWord_99 rfl ?_
                        refine V_goto eX11_isWord_101 ?_
                        exact cmp
                    · (exfalso; omega)
                  · (exfalso; omega)
                · (exfalso; omega)
              · (exfalso; omega)
            · (exfalso; omega)
          · subst e
            rw [if_neg (by decide), if_neg (by decide), if_neg (by decide), if_neg (by decide), if_neg (by decide), if_neg (by decide)] at cmp
            refine V_ifne eX11_isWord_43 (fun h43 => ?_) (fun h43 => ?_)
            · refine L_iload eX11_isWord_50 rfl ?_
              refine V_iconst eX11_isWord_52 ?_
              refine V_icmpne eX11_isWord_53 (fun h53 => ?_) (fun h53 => ?_)
              · refine L_iload eX11_isWord_60 rfl ?_
                refine V_iconst eX11_isWord_62 ?_
                refine V_icmpne eX11_isWord_63 (fun h63 => ?_) (fun h63 => ?_)
                · refine L_iload eX11_isWord_71 rfl ?_
                  refine V_iconst eX11_isWord_73 ?_
                  refine V_icmpne eX11_isWord_74 (fun h74 => ?_) (fun h74 => ?_)
                  · refine L_iload eX11_isWord_82 rfl ?_
                    refine V_iconst eX11_isWord_84 ?_
                    refine V_icmpne eX11_isWord_85 (fun h85 => ?_) (fun h85 => ?_)
                    · refine L_iload eX11_isWord_93 rfl ?_
                      refine V_iconst eX11_isWord_95 ?_
                      refine V_icmpne eX11_isWord_96 (fun h96 => ?_) (fun h96 => ?_)
                      · refine L_iload eX11_isWord_104 rfl ?_
                        exact cmp
                      · (exfalso; omega)
                    · (exfalso; omega)
                  · (exfalso; omega)
                · (exfalso; omega)
              · (exfalso; omega)
            · (exfalso; omega)
  refine L_aload_n eX11_isWord_0 rfl ?_
  refine L_get eX11_isWord_1 f_X11_178.g rfl rfl ?_
  refine L_iload_n eX11_isWord_4 rfl ?_
  -- at 5: .if_icmp .ne 7
  refine V_icmpne eX11_isWord_5 (fun h2 => ?_) (fun h2 => ?_)
  · refine V_iconst eX11_isWord_12 ?_
    refine L_istore eX11_isWord_13 (s_9 rfl rfl) ?_
    refine V_iconst eX11_isWord_15 ?_
    refine L_istore eX11_isWord_16 (s_10 rfl rfl) ?_
    exact ret0 0 (by omega) (by omega) (fun w => by have := w.1; omega)
  · refine V_iconst eX11_isWord_8 ?_
    refine V_goto eX11_isWord_9 ?_
    refine L_istore eX11_isWord_13 (s_9 rfl rfl) ?_
    refine V_iconst eX11_isWord_15 ?_
    refine L_istore eX11_isWord_16 (s_10 rfl rfl) ?_
    exact LOOP (by omega) (sLn.getD j 0) 0 (by omega) (by omega) (fun i x y => by omega)
theorem m_takeSign_f {s : Int} (hb : 0 ≤ F 66 20 ∧ F 66 20 ≤ 9) (hf : F 66 20 ≠ 0) : ∀ G : gT, Mu G mX11_takeSign [.ref 66, vi s] F A none F A := by
  intro G
  refine L_ent [some (.ref 66), some (vi s), none] rfl ?_
  refine L_aload_n eX11_takeSign_0 rfl ?_
  refine L_get eX11_takeSign_1 f_X11_164.g rfl rfl ?_
  -- at 4: .ifCond .ne 39
  refine V_ifne eX11_takeSign_4 (fun h2 => ?_) (fun h2 => ?_)
  · exact V_return eX11_takeSign_43 ⟨rfl, rfl⟩
  · exact absurd h2 hf
theorem m_takeSign {s : Int} (hs : 1 ≤ s ∧ s ≤ 255) (hT : txT n (A 73)) (hn : F 66 16 = n) (ha : F 66 17 = a) (hab : 0 ≤ a ∧ a ≤ n) (hf : F 66 20 = 0) : ∃ F1, (∀ G : gT, Mu G mX11_takeSign [.ref 66, vi s] F A none F1 A) ∧ fr66 F F1 ∧ F1 66 18 = F 66 18 ∧ ((chA (A 73) n (skp (A 73) n a) = s ∧ F1 66 17 = skp (A 73) n a + 1 ∧ F1 66 20 = 0 ∧ F1 66 21 = F 66 21) ∨ (chA (A 73) n (skp (A 73) n a) ≠ s ∧ F1 66 17 = skp (A 73) n a ∧ F1 66 20 = 1 ∧ F1 66 21 = skp (A 73) n a)) := by
  have hn1 := hT.1
  have hq := skp_m (A := A) hab
  have hHr := fun (G : gT) => p_X11_here (G := G) (F := F) hT hn ha hab
  have hc := chA_b (q := skp (A 73) n a) hT (by omega)
  generalize skp (A 73) n a = q at *
  have g17 : uF F 66 17 q 66 17 = q := uF_eq
  have g20 : uF F 66 17 q 66 20 = 0 := by rw [uF_ne (by decide)]; exact hf
  by_cases w : chA (A 73) n q = s
  · refine ⟨uF (uF F 66 17 q) 66 17 (q + 1), fun G => ?_, fun o k x => by rw [uF_ne (by omega), uF_ne (by omega)], by rw [uF_ne (by decide), uF_ne (by decide)], Or.inl ⟨w, uF_eq, by rw [uF_ne (by decide)]; exact g20, by rw [uF_ne (by decide), uF_ne (by decide)]⟩⟩
    refine L_ent [some (.ref 66), some (vi s), none] rfl ?_
    refine L_aload_n eX11_takeSign_0 rfl ?_
    refine L_get eX11_takeSign_1 f_X11_164.g rfl rfl ?_
    -- at 4: .ifCond .ne 39
    refine V_ifne eX11_takeSign_4 (fun h2 => ?_) (fun h2 => ?_)
    · omega
    · refine L_aload_n eX11_takeSign_7 rfl ?_
      refine C_v1 (hHr G) v_X11_167 eX11_takeSign_8 rfl rfl ?_
      refine L_istore_n eX11_takeSign_11 (s_2 rfl rfl) ?_
      refine L_aload_n eX11_takeSign_12 rfl ?_
      refine L_dup eX11_takeSign_13 ?_
      refine L_get eX11_takeSign_14 f_X11_161.g rfl rfl ?_
      refine L_aload_n eX11_takeSign_17 rfl ?_
      refine L_iload_n eX11_takeSign_18 rfl ?_
      refine L_iload_n eX11_takeSign_19 rfl ?_
      -- at 20: .if_icmp .ne 7
      refine V_icmpne eX11_takeSign_20 (fun h3 => ?_) (fun h3 => ?_)
      · exact absurd w h3
      · refine V_iconst eX11_takeSign_23 ?_
        refine V_goto eX11_takeSign_24 ?_
        refine V_iconst eX11_takeSign_28 ?_
        refine L_aload_n eX11_takeSign_29 rfl ?_
        refine L_get eX11_takeSign_30 f_X11_161.g rfl rfl ?_
        refine C_v1 (p_X11_want_ok (by omega)) v_X11_189 eX11_takeSign_33 rfl rfl ?_
        rw [if_pos g20, g17]
        refine C_s1 (p_X11_oneI (Or.inr rfl)) v_X11_181 eX11_takeSign_36 rfl ?_
        refine V_iadd eX11_takeSign_39 ?_
        refine L_put eX11_takeSign_40 f_X11_161 rfl rfl ?_
        exact V_return eX11_takeSign_43 ⟨rfl, rfl⟩
  · refine ⟨uF (uF (uF (uF F 66 17 q) 66 20 1) 66 21 q) 66 17 (q + 0), fun G => ?_, fun o k x => by rw [uF_ne (by omega), uF_ne (by omega), uF_ne (by omega), uF_ne (by omega)], by rw [uF_ne (by decide), uF_ne (by decide), uF_ne (by decide), uF_ne (by decide)], Or.inr ⟨w, by rw [uF_eq]; omega, by rw [uF_ne (by decide), uF_ne (by decide), uF_eq], by rw [uF_ne (by decide), uF_eq]⟩⟩
    refine L_ent [some (.ref 66), some (vi s), none] rfl ?_
    refine L_aload_n eX11_takeSign_0 rfl ?_
    refine L_get eX11_takeSign_1 f_X11_164.g rfl rfl ?_
    -- at 4: .ifCond .ne 39
    refine V_ifne eX11_takeSign_4 (fun h2 => ?_) (fun h2 => ?_)
    · omega
    · refine L_aload_n eX11_takeSign_7 rfl ?_
      refine C_v1 (hHr G) v_X11_167 eX11_takeSign_8 rfl rfl ?_
      refine L_istore_n eX11_takeSign_11 (s_2 rfl rfl) ?_
      refine L_aload_n eX11_takeSign_12 rfl ?_
      refine L_dup eX11_takeSign_13 ?_
      refine L_get eX11_takeSign_14 f_X11_161.g rfl rfl ?_
      refine L_aload_n eX11_takeSign_17 rfl ?_
      refine L_iload_n eX11_takeSign_18 rfl ?_
      refine L_iload_n eX11_takeSign_19 rfl ?_
      -- at 20: .if_icmp .ne 7
      refine V_icmpne eX11_takeSign_20 (fun h3 => ?_) (fun h3 => ?_)
      · refine V_iconst eX11_takeSign_27 ?_
        refine V_iconst eX11_takeSign_28 ?_
        refine L_aload_n eX11_takeSign_29 rfl ?_
        refine L_get eX11_takeSign_30 f_X11_161.g rfl rfl ?_
        rw [g17]
        refine C_v1 (p_X11_want_bad g20 (by omega)) v_X11_189 eX11_takeSign_33 rfl rfl ?_
        refine C_s1 (p_X11_oneI (Or.inl rfl)) v_X11_181 eX11_takeSign_36 rfl ?_
        refine V_iadd eX11_takeSign_39 ?_
        refine L_put eX11_takeSign_40 f_X11_161 rfl rfl ?_
        exact V_return eX11_takeSign_43 ⟨rfl, rfl⟩
      · exact absurd (by omega) w
end P98e

