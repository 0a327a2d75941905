section R72
variable {F : fT} {A : nT}
/-- what is told of a CRACK -/
def tcR (w t k co far pace sp wt : Int) : Int := if w = 0 then t else if w = 1 then k else if w = 2 then co else if w = 3 then t + far.tdiv pace else if w = 4 then (1000 * sp * wt).tdiv (far + 1) else if w = 5 then far else sp
theorem p_X10_tellCrack {G : gT} (i1 : Iv F A) {n : Nat} {k t w : Int} (h0 : F 42 0 = n) (hn : 1 ≤ n ∧ n ≤ 12) (hp : 10 ≤ F 42 2 ∧ F 42 2 ≤ 2000) (hk : 1 ≤ k ∧ k ≤ 12) (ht : 1 ≤ t ∧ t ≤ 60) (hw : 0 ≤ w ∧ w ≤ 6) (hw45 : 1 ≤ A 45 k ∧ A 45 k ≤ 80) : Pu G mX10_tellCrack [.ref 0, .ref 42, vi k, vi t, vi w] F A (vi (tcR w t k (coP n (lpO (A 43) (A 44) n t) k) (rt (qP (A 43) (A 44) (F 0 12) (F 0 13) k t)) (F 42 2) (rt (mv (A 43) (A 44) k t)) (A 45 k))) := by
  have hq := (qP_b i1.b1 (k := k) (t := t) i1.ear.2.2.1 i1.ear.2.2.2 (by omega) (by omega)).2.2.2.2
  have hq2 : 0 ≤ rt (qP (A (42 + 1)) (A (42 + 2)) (F 0 12) (F 0 13) k t) ∧ rt (qP (A (42 + 1)) (A (42 + 2)) (F 0 12) (F 0 13) k t) < 200000 := hq
  refine L_ent [some (.ref 0), some (.ref 42), some (vi k), some (vi t), some (vi w), none] rfl ?_
  unfold tcR
  refine L_aload_n eX10_tellCrack_0 rfl ?_
  refine L_iload_n eX10_tellCrack_1 rfl ?_
  refine L_iload_n eX10_tellCrack_2 rfl ?_
  refine L_aload_n eX10_tellCrack_3 rfl ?_
  refine L_get eX10_tellCrack_4 f_X10_78.g rfl rfl ?_
  refine L_aload_n eX10_tellCrack_7 rfl ?_
  refine L_get eX10_tellCrack_8 f_X10_81.g rfl rfl ?_
  refine C_v1 (p_X1_farOf (Or.inl rfl) i1.b1 (by omega) (by omega) i1.ear.2.2.1 i1.ear.2.2.2) v_X10_279 eX10_tellCrack_11 rfl rfl ?_
  refine L_istore eX10_tellCrack_14 (s_5 rfl rfl) ?_
  refine L_iload eX10_tellCrack_16 rfl ?_
  rcases (show (w < 0 ∨ 5 < w) ∨ w = 0 ∨ w = 1 ∨ w = 2 ∨ w = 3 ∨ w = 4 ∨ w = 5 by omega) with hsw | hsw | hsw | hsw | hsw | hsw | hsw
  · refine V_tabOut eX10_tellCrack_18 hsw rfl ?_
    refine L_aload_n eX10_tellCrack_93 rfl ?_
    refine L_iload_n eX10_tellCrack_94 rfl ?_
    refine L_iload_n eX10_tellCrack_95 rfl ?_
    refine C_v1 (p_X1_speedOf (Or.inl rfl) i1.b1 (by omega) (by omega)) v_X10_206 eX10_tellCrack_96 rfl rfl ?_
    exact V_ireturn eX10_tellCrack_99 ((by first | (exfalso; omega) | (refine ⟨?_, rfl⟩; (repeat (first | rw [if_pos (by omega)] | rw [if_neg (by omega)])); done) | (refine ⟨?_, rfl⟩; (repeat (first | rw [if_pos (by omega)] | rw [if_neg (by omega)])); rw [Int.max_eq_right (by omega)])))
  · subst hsw
    refine V_tabIn eX10_tellCrack_18 (by omega) rfl rfl ?_
    refine L_iload_n eX10_tellCrack_56 rfl ?_
    exact V_ireturn eX10_tellCrack_57 ((by first | (exfalso; omega) | (refine ⟨?_, rfl⟩; (repeat (first | rw [if_pos (by omega)] | rw [if_neg (by omega)])); done) | (refine ⟨?_, rfl⟩; (repeat (first | rw [if_pos (by omega)] | rw [if_neg (by omega)])); rw [Int.max_eq_right (by omega)])))
  · subst hsw
    refine V_tabIn eX10_tellCrack_18 (by omega) rfl rfl ?_
    refine L_iload_n eX10_tellCrack_58 rfl ?_
    exact V_ireturn eX10_tellCrack_59 ((by first | (exfalso; omega) | (refine ⟨?_, rfl⟩; (repeat (first | rw [if_pos (by omega)] | rw [if_neg (by omega)])); done) | (refine ⟨?_, rfl⟩; (repeat (first | rw [if_pos (by omega)] | rw [if_neg (by omega)])); rw [Int.max_eq_right (by omega)])))
  · subst hsw
    refine V_tabIn eX10_tellCrack_18 (by omega) rfl rfl ?_
    refine L_aload_n eX10_tellCrack_60 rfl ?_
    refine L_iload_n eX10_tellCrack_61 rfl ?_
    refine L_iload_n eX10_tellCrack_62 rfl ?_
    refine C_v1 (p_X1_crackOf (Or.inl rfl) i1.b1 (n := n) h0 hn (by omega) (by omega)) v_X10_322 eX10_tellCrack_63 rfl rfl ?_
    exact V_ireturn eX10_tellCrack_66 ((by first | (exfalso; omega) | (refine ⟨?_, rfl⟩; (repeat (first | rw [if_pos (by omega)] | rw [if_neg (by omega)])); done) | (refine ⟨?_, rfl⟩; (repeat (first | rw [if_pos (by omega)] | rw [if_neg (by omega)])); rw [Int.max_eq_right (by omega)])))
  · subst hsw
    refine V_tabIn eX10_tellCrack_18 (by omega) rfl rfl ?_
    refine L_iload_n eX10_tellCrack_67 rfl ?_
    refine L_iload eX10_tellCrack_68 rfl ?_
    refine V_iconst eX10_tellCrack_70 ?_
    refine L_aload_n eX10_tellCrack_71 rfl ?_
    refine L_get eX10_tellCrack_72 f_X10_325.g rfl rfl ?_
    refine V_mmax v_X10_328 eX10_tellCrack_75 ?_
    refine V_idiv eX10_tellCrack_78 ?_
    refine V_iadd eX10_tellCrack_79 ?_
    exact V_ireturn eX10_tellCrack_80 ((by first | (exfalso; omega) | (refine ⟨?_, rfl⟩; (repeat (first | rw [if_pos (by omega)] | rw [if_neg (by omega)])); done) | (refine ⟨?_, rfl⟩; (repeat (first | rw [if_pos (by omega)] | rw [if_neg (by omega)])); rw [Int.max_eq_right (by omega)])))
  · subst hsw
    refine V_tabIn eX10_tellCrack_18 (by omega) rfl rfl ?_
    refine L_aload_n eX10_tellCrack_81 rfl ?_
    refine L_iload_n eX10_tellCrack_82 rfl ?_
    refine L_iload_n eX10_tellCrack_83 rfl ?_
    refine L_iload eX10_tellCrack_84 rfl ?_
    refine C_v1 (p_X1_loudOf (Or.inl rfl) i1.b1 (by omega) (by omega) hw45 (by omega)) v_X10_333 eX10_tellCrack_86 rfl rfl ?_
    exact V_ireturn eX10_tellCrack_89 ((by first | (exfalso; omega) | (refine ⟨?_, rfl⟩; (repeat (first | rw [if_pos (by omega)] | rw [if_neg (by omega)])); done) | (refine ⟨?_, rfl⟩; (repeat (first | rw [if_pos (by omega)] | rw [if_neg (by omega)])); rw [Int.max_eq_right (by omega)])))
  · subst hsw
    refine V_tabIn eX10_tellCrack_18 (by omega) rfl rfl ?_
    refine L_iload eX10_tellCrack_90 rfl ?_
    exact V_ireturn eX10_tellCrack_92 ((by first | (exfalso; omega) | (refine ⟨?_, rfl⟩; (repeat (first | rw [if_pos (by omega)] | rw [if_neg (by omega)])); done) | (refine ⟨?_, rfl⟩; (repeat (first | rw [if_pos (by omega)] | rw [if_neg (by omega)])); rw [Int.max_eq_right (by omega)])))
theorem fcR_at {L : List (Int × Int)} {j : Nat} (hj : j < L.length) : fcR L j = 13 * L[j].1 + L[j].2 := by
  unfold fcR
  rw [if_neg (by omega), Int.toNat_natCast, List.getElem?_eq_getElem hj] <;> rfl
theorem fcR_no {L : List (Int × Int)} {i : Int} (h : i < 0 ∨ (L.length : Int) ≤ i) : fcR L i = -1 := by
  unfold fcR
  by_cases c : i < 0
  · rw [if_pos c]
  · rw [if_neg c, List.getElem?_eq_none (by omega)] <;> rfl
theorem pr_crack (h : Iv F A) {i w : Int} (hi : i32 i) (hw : i32 w) : Pr mX10_crack mX11_crack [vi i, vi w] F A := by
  unfold i32 at hi hw
  by_cases h1 : 0 ≤ w ∧ w ≤ 6
  · obtain ⟨n, T, en, eT, hn, hT⟩ := iv_nat h
    obtain ⟨F1, A1, F2, A2, F3, A3, L, hC, hM, hK, i1, i2, i3, fk, k1, k2, k3, ag, eL, e41, hr⟩ := iv_three h en eT hn hT
    have hmem : ∀ e, e ∈ L → (1 ≤ e.1 ∧ e.1 ≤ T) ∧ 1 ≤ e.2 ∧ e.2 ≤ n := fun e he => by rw [← eL] at he; exact ckL_mem he
    have hlen : L.length ≤ 12 * T := by rw [← eL]; exact ckL_len hn.2 T
    have hp : 10 ≤ F1 42 2 ∧ F1 42 2 ≤ 2000 := by rw [fk.pc]; exact i1.ok.lw.2.2.2.1
    have g0 : F1 42 0 = n := by rw [fk.n, k1.1 2 0 rfl]; exact en
    have g1 : F1 42 1 = T := by rw [fk.T, k1.1 6 0 rfl]; exact eT
    have f0 : F3 66 0 = n := by rw [k3.1 66 0 rfl, k2.1 66 0 rfl, k1.1 66 0 rfl, h.s.n]; exact en
    have hFC0 := fun (G : gT) => p_X1_findCrack (G := G) (F := F1) (A := A1) (f := 42) (Or.inl rfl) i1.b1 hp g0 g1 hn.2 hT.2 (z := i) hi
    rw [show (A1 (42 + 1)) = A1 43 from rfl, show (A1 (42 + 2)) = A1 44 from rfl, eL] at hFC0
    by_cases h2 : i = -1
    · subst h2
      refine ⟨vi L.length, F1, A1, F3, A3, fun G => ?_, fun G => ?_, i3, ty_v⟩
      · rw [← eL]
        refine L_ent [some (.ref 0), some (vi (-1)), some (vi w), none, none] rfl ?_
        refine L_iload_n eX10_crack_0 rfl ?_
        refine V_iflt eX10_crack_1 (fun h1 => ?_) (fun h1 => ?_)
        · refine L_sipush eX10_crack_10 rfl ?_
          exact V_ireturn eX10_crack_13 ((by first | (exfalso; omega) | exact ⟨rfl, rfl⟩))
        · refine L_iload_n eX10_crack_4 rfl ?_
          refine L_bipush eX10_crack_5 rfl ?_
          refine V_icmple eX10_crack_7 (fun h7 => ?_) (fun h7 => ?_)
          · refine L_aload_n eX10_crack_14 rfl ?_
            refine C_v1 (hC G) v_X10_195 eX10_crack_15 rfl rfl ?_
            refine L_astore_n eX10_crack_18 (s_3 rfl rfl) ?_
            refine L_iload_n eX10_crack_19 rfl ?_
            refine V_iconst eX10_crack_20 ?_
            refine V_icmpne eX10_crack_21 (fun h21 => ?_) (fun h21 => ?_)
            · (exfalso; omega)
            · refine L_aload_n eX10_crack_24 rfl ?_
              refine C_v1 (p_X1_crackCount (Or.inl rfl) i1.b1 hp g0 g1 hn.2 hT.2) v_X10_222 eX10_crack_25 rfl rfl ?_
              exact V_ireturn eX10_crack_28 ((by first | (exfalso; omega) | exact ⟨rfl, rfl⟩))
          · refine L_sipush eX10_crack_10 rfl ?_
            exact V_ireturn eX10_crack_13 ((by first | (exfalso; omega) | exact ⟨rfl, rfl⟩))
      · rw [← e41]
        refine L_ent [some (.ref 66), some (vi (-1)), some (vi w), none, none, none] rfl ?_
        refine L_iload_n eX11_crack_0 rfl ?_
        refine V_i2l eX11_crack_1 ?_
        refine L_lconst0 eX11_crack_2 ?_
        refine L_ldc2 eX11_crack_3 k_X11_332 ?_
        refine C_s1 (p_X11_in (by omega) (by omega) (by omega)) v_X11_152 eX11_crack_6 rfl ?_
        refine V_ifneB eX11_crack_9 (fun h9 => ?_) (fun h9 => ?_)
        · refine L_aload_n eX11_crack_16 rfl ?_
          refine L_aload_n eX11_crack_17 rfl ?_
          refine L_get eX11_crack_18 f_X11_133.g rfl rfl ?_
          refine C_v0 (hM G) v_X11_311 eX11_crack_21 rfl rfl ?_
          refine L_aload_n eX11_crack_24 rfl ?_
          refine C_v0 (hK G) v_X11_334 eX11_crack_25 rfl rfl ?_
          refine L_iload_n eX11_crack_28 rfl ?_
          refine V_iconst eX11_crack_29 ?_
          refine V_icmpne eX11_crack_30 (fun h30 => ?_) (fun h30 => ?_)
          · (exfalso; omega)
          · refine L_aload_n eX11_crack_33 rfl ?_
            refine L_get eX11_crack_34 f_X11_326.g rfl rfl ?_
            exact V_ireturn eX11_crack_37 ((by first | (exfalso; omega) | exact ⟨rfl, rfl⟩))
        · refine L_sipush eX11_crack_12 rfl ?_
          exact V_ireturn eX11_crack_15 ((by first | (exfalso; omega) | exact ⟨rfl, rfl⟩))
    · by_cases h3 : 0 ≤ i ∧ i < L.length
      · obtain ⟨j, rfl⟩ : ∃ j : Nat, i = j := ⟨i.toNat, by omega⟩
        have hj : j < L.length := by omega
        have hrj := hr j hj
        have hm := hmem L[j] (List.getElem_mem hj)
        have hfc := fcR_at hj
        rw [← hrj.1, ← hrj.2] at hm hfc
        rw [hfc] at hFC0
        have hFC := hFC0
        have ht60 : 1 ≤ A3 86 j ∧ A3 86 j ≤ 60 := by omega
        have hk12 : 1 ≤ A3 87 j ∧ A3 87 j ≤ 12 := by omega
        have et : (13 * A3 86 j + A3 87 j).tmod 13 = A3 87 j := by rw [Int.tmod_eq_emod_of_nonneg (by omega)]; omega
        have ed : (13 * A3 86 j + A3 87 j).tdiv 13 = A3 86 j := by rw [Int.tdiv_eq_ediv_of_nonneg (by omega)]; omega
        have hpl3 : plK (n : Int) (A3 67) (A3 68) := by
          have := i3.m.2.2.2.1
          rw [f0] at this
          exact this
        have c0 := k1.1 2 0 rfl
        have ew : A1 45 (A3 87 j) = wtF (A3 67) (A3 68) (A3 87 j) := by
          rw [k3.2 67 rfl, k3.2 68 rfl]
          exact wt_same fk i2 k2 (by omega) (by omega)
        have hw45 : 1 ≤ A1 45 (A3 87 j) ∧ A1 45 (A3 87 j) ≤ 80 := by
          rw [ew]
          exact wt_b hpl3 (by omega)
        have eco : lpO (A1 43) (A1 44) n (A3 86 j) = lpO (A3 84) (A3 85) n (A3 86 j) := lpO_c ag hn (by omega)
        have eear : F1 0 12 = F3 66 11 ∧ F1 0 13 = F3 66 12 := by
          rw [i3.ear.1, i3.ear.2.1, k3.1 0 12 rfl, k3.1 0 13 rfl, k2.1 0 12 rfl, k2.1 0 13 rfl]
          exact ⟨rfl, rfl⟩
        have efar : rt (qP (A1 43) (A1 44) (F1 0 12) (F1 0 13) (A3 87 j) (A3 86 j)) = rt (qP (A3 84) (A3 85) (F3 66 11) (F3 66 12) (A3 87 j) (A3 86 j)) := by
          rw [qP_c ag hn.2 (by omega) (by omega), eear.1, eear.2]
        have hqb := (qP_b i1.b1 (k := A3 87 j) (t := A3 86 j) i1.ear.2.2.1 i1.ear.2.2.2 (by omega) (by omega)).2.2.2.2
        have hmb := (mv_b i1.b1 (k := A3 87 j) (t := A3 86 j) (by omega) (by omega)).2.2.2.2.2.2
        have hFar := fun (G : gT) => p_X11_farOf (G := G) (F := F3) (A := A3) i3.b3 (z := j) (by omega) (by omega) (by omega) (by rw [i3.ear.1]; exact i3.ear.2.2.1) (by rw [i3.ear.2.1]; exact i3.ear.2.2.2)
        have hSp := fun (G : gT) => p_X11_speedOf (G := G) (F := F3) (A := A3) i3.b3 (k := A3 87 j) (t := A3 86 j) (by omega) (by omega)
        have hCo := fun (G : gT) => p_X11_ofWhat (G := G) (F := F3) (A := A3) i3.b3 (n := n) (z := j) f0 hn (by omega) (by omega) (by omega)
        have hWt := fun (G : gT) => p_X11_weightOf (G := G) (F := F3) (A := A3) (n := n) (k := A3 87 j) hpl3 (by omega) (by omega)
        have hTC := fun (G : gT) => p_X10_tellCrack (G := G) i1 (n := n) (k := A3 87 j) (t := A3 86 j) (w := w) g0 hn hp hk12 ht60 h1 hw45
        have epc : F1 42 2 = A3 72 3 := by rw [fk.pc, i3.s.lw 3 (by omega) (by omega), k3.2 9 rfl, k2.2 9 rfl]
        have esp := mv_c ag hn.2 (k := A3 87 j) (t := A3 86 j) (by omega) (by omega)
        rw [← efar] at hFar
        rw [← esp] at hSp
        rw [← eco] at hCo
        rw [← ew] at hWt
        generalize rt (qP (A1 43) (A1 44) (F1 0 12) (F1 0 13) (A3 87 j) (A3 86 j)) = far at *
        generalize rt (mv (A1 43) (A1 44) (A3 87 j) (A3 86 j)) = sp at *
        generalize coP n (lpO (A1 43) (A1 44) n (A3 86 j)) (A3 87 j) = co at *
        generalize A1 45 (A3 87 j) = wt at *
        have hsw : 0 ≤ sp * wt ∧ sp * wt ≤ 400000 * 80 := ⟨Int.mul_nonneg (by omega) (by omega), Int.mul_le_mul (by omega) (by omega) (by omega) (by omega)⟩
        have emul : sp * wt * 1000 = 1000 * sp * wt := by rw [Int.mul_comm (sp * wt) 1000, Int.mul_assoc]
        refine ⟨vi (tcR w (A3 86 j) (A3 87 j) co far (F1 42 2) sp wt), F1, A1, F3, A3, fun G => ?_, fun G => ?_, i3, ty_v⟩
        · refine L_ent [some (.ref 0), some (vi j), some (vi w), none, none] rfl ?_
          refine L_iload_n eX10_crack_0 rfl ?_
          refine V_iflt eX10_crack_1 (fun h1 => ?_) (fun h1 => ?_)
          · refine L_sipush eX10_crack_10 rfl ?_
            exact V_ireturn eX10_crack_13 ((by first | (exfalso; omega) | exact ⟨rfl, rfl⟩))
          · refine L_iload_n eX10_crack_4 rfl ?_
            refine L_bipush eX10_crack_5 rfl ?_
            refine V_icmple eX10_crack_7 (fun h7 => ?_) (fun h7 => ?_)
            · refine L_aload_n eX10_crack_14 rfl ?_
              refine C_v1 (hC G) v_X10_195 eX10_crack_15 rfl rfl ?_
              refine L_astore_n eX10_crack_18 (s_3 rfl rfl) ?_
              refine L_iload_n eX10_crack_19 rfl ?_
              refine V_iconst eX10_crack_20 ?_
              refine V_icmpne eX10_crack_21 (fun h21 => ?_) (fun h21 => ?_)
              · refine L_aload_n eX10_crack_29 rfl ?_
                refine L_iload_n eX10_crack_30 rfl ?_
                refine C_v1 (hFC G) v_X10_225 eX10_crack_31 rfl rfl ?_
                refine L_istore eX10_crack_34 (s_4 rfl rfl) ?_
                refine L_iload eX10_crack_36 rfl ?_
                refine V_iconst eX10_crack_38 ?_
                refine V_icmpne eX10_crack_39 (fun h39 => ?_) (fun h39 => ?_)
                · refine L_aload_n eX10_crack_46 rfl ?_
                  refine L_aload_n eX10_crack_47 rfl ?_
                  refine L_iload eX10_crack_48 rfl ?_
                  refine L_bipush eX10_crack_50 rfl ?_
                  refine V_irem eX10_crack_52 ?_
                  refine L_iload eX10_crack_53 rfl ?_
                  refine L_bipush eX10_crack_55 rfl ?_
                  refine V_idiv eX10_crack_57 ?_
                  refine L_iload_n eX10_crack_58 rfl ?_
                  rw [et, ed]; refine C_v1 (hTC G) v_X10_228 eX10_crack_59 rfl rfl ?_
                  exact V_ireturn eX10_crack_62 ((by first | (exfalso; omega) | exact ⟨rfl, rfl⟩))
                · refine L_sipush eX10_crack_42 rfl ?_
                  exact V_ireturn eX10_crack_45 ((by first | (exfalso; omega) | exact ⟨rfl, rfl⟩))
              · (exfalso; omega)
            · refine L_sipush eX10_crack_10 rfl ?_
              exact V_ireturn eX10_crack_13 ((by first | (exfalso; omega) | exact ⟨rfl, rfl⟩))
        · rw [epc]
          rw [epc] at hp
          refine L_ent [some (.ref 66), some (vi j), some (vi w), none, none, none] rfl ?_
          unfold tcR
          refine L_iload_n eX11_crack_0 rfl ?_
          refine V_i2l eX11_crack_1 ?_
          refine L_lconst0 eX11_crack_2 ?_
          refine L_ldc2 eX11_crack_3 k_X11_332 ?_
          refine C_s1 (p_X11_in (by omega) (by omega) (by omega)) v_X11_152 eX11_crack_6 rfl ?_
          refine V_ifneB eX11_crack_9 (fun h9 => ?_) (fun h9 => ?_)
          · refine L_aload_n eX11_crack_16 rfl ?_
            refine L_aload_n eX11_crack_17 rfl ?_
            refine L_get eX11_crack_18 f_X11_133.g rfl rfl ?_
            refine C_v0 (hM G) v_X11_311 eX11_crack_21 rfl rfl ?_
            refine L_aload_n eX11_crack_24 rfl ?_
            refine C_v0 (hK G) v_X11_334 eX11_crack_25 rfl rfl ?_
            refine L_iload_n eX11_crack_28 rfl ?_
            refine V_iconst eX11_crack_29 ?_
            refine V_icmpne eX11_crack_30 (fun h30 => ?_) (fun h30 => ?_)
            · refine L_iload_n eX11_crack_38 rfl ?_
              refine V_i2l eX11_crack_39 ?_
              refine L_lconst0 eX11_crack_40 ?_
              refine L_aload_n eX11_crack_41 rfl ?_
              refine L_get eX11_crack_42 f_X11_326.g rfl rfl ?_
              refine V_iconst eX11_crack_45 ?_
              refine V_isub eX11_crack_46 ?_
              refine V_i2l eX11_crack_47 ?_
              refine C_s1 (p_X11_in (by omega) (by omega) (by omega)) v_X11_152 eX11_crack_48 rfl ?_
              refine V_ifneB eX11_crack_51 (fun h51 => ?_) (fun h51 => ?_)
              · refine L_aload_n eX11_crack_58 rfl ?_
                refine L_iload_n eX11_crack_59 rfl ?_
                refine C_v1 (hFar G) v_X11_337 eX11_crack_60 rfl rfl ?_
                refine L_istore_n eX11_crack_63 (s_3 rfl rfl) ?_
                refine L_aload_n eX11_crack_64 rfl ?_
                refine L_aload_n eX11_crack_65 rfl ?_
                refine L_getR (r := 87) eX11_crack_66 f_X11_78.g rfl rfl (by decide) ?_
                refine L_iload_n eX11_crack_69 rfl ?_
                refine L_iald eX11_crack_70 rfl ?_
                refine L_aload_n eX11_crack_71 rfl ?_
                refine L_getR (r := 86) eX11_crack_72 f_X11_75.g rfl rfl (by decide) ?_
                refine L_iload_n eX11_crack_75 rfl ?_
                refine L_iald eX11_crack_76 rfl ?_
                refine C_v1 (hSp G) v_X11_314 eX11_crack_77 rfl rfl ?_
                refine L_lstore eX11_crack_80 (t_4 rfl) ?_
                refine L_iload_n eX11_crack_82 rfl ?_
                rcases (show (w < 0 ∨ 5 < w) ∨ w = 0 ∨ w = 1 ∨ w = 2 ∨ w = 3 ∨ w = 4 ∨ w = 5 by omega) with hsw | hsw | hsw | hsw | hsw | hsw | hsw
                · refine V_tabOut eX11_crack_83 hsw rfl ?_
                  refine L_lload eX11_crack_183 rfl ?_
                  refine V_l2i eX11_crack_185 ?_
                  exact V_ireturn eX11_crack_186 ((by first | (exfalso; omega) | (refine ⟨?_, rfl⟩; (repeat (first | rw [if_pos (by omega)] | rw [if_neg (by omega)])); done) | (refine ⟨?_, rfl⟩; (repeat (first | rw [if_pos (by omega)] | rw [if_neg (by omega)])); rw [emul])))
                · subst hsw
                  refine V_tabIn eX11_crack_83 (by omega) rfl rfl ?_
                  refine L_aload_n eX11_crack_120 rfl ?_
                  refine L_getR (r := 86) eX11_crack_121 f_X11_75.g rfl rfl (by decide) ?_
                  refine L_iload_n eX11_crack_124 rfl ?_
                  refine L_iald eX11_crack_125 rfl ?_
                  exact V_ireturn eX11_crack_126 ((by first | (exfalso; omega) | (refine ⟨?_, rfl⟩; (repeat (first | rw [if_pos (by omega)] | rw [if_neg (by omega)])); done) | (refine ⟨?_, rfl⟩; (repeat (first | rw [if_pos (by omega)] | rw [if_neg (by omega)])); rw [emul])))
                · subst hsw
                  refine V_tabIn eX11_crack_83 (by omega) rfl rfl ?_
                  refine L_aload_n eX11_crack_127 rfl ?_
                  refine L_getR (r := 87) eX11_crack_128 f_X11_78.g rfl rfl (by decide) ?_
                  refine L_iload_n eX11_crack_131 rfl ?_
                  refine L_iald eX11_crack_132 rfl ?_
                  exact V_ireturn eX11_crack_133 ((by first | (exfalso; omega) | (refine ⟨?_, rfl⟩; (repeat (first | rw [if_pos (by omega)] | rw [if_neg (by omega)])); done) | (refine ⟨?_, rfl⟩; (repeat (first | rw [if_pos (by omega)] | rw [if_neg (by omega)])); rw [emul])))
                · subst hsw
                  refine V_tabIn eX11_crack_83 (by omega) rfl rfl ?_
                  refine L_aload_n eX11_crack_134 rfl ?_
                  refine L_iload_n eX11_crack_135 rfl ?_
                  refine C_v1 (hCo G) v_X11_340 eX11_crack_136 rfl rfl ?_
                  exact V_ireturn eX11_crack_139 ((by first | (exfalso; omega) | (refine ⟨?_, rfl⟩; (repeat (first | rw [if_pos (by omega)] | rw [if_neg (by omega)])); done) | (refine ⟨?_, rfl⟩; (repeat (first | rw [if_pos (by omega)] | rw [if_neg (by omega)])); rw [emul])))
                · subst hsw
                  refine V_tabIn eX11_crack_83 (by omega) rfl rfl ?_
                  refine L_aload_n eX11_crack_140 rfl ?_
                  refine L_getR (r := 86) eX11_crack_141 f_X11_75.g rfl rfl (by decide) ?_
                  refine L_iload_n eX11_crack_144 rfl ?_
                  refine L_iald eX11_crack_145 rfl ?_
                  refine L_iload_n eX11_crack_146 rfl ?_
                  refine L_aload_n eX11_crack_147 rfl ?_
                  refine L_getR (r := 72) eX11_crack_148 f_X11_25.g rfl rfl (by decide) ?_
                  refine V_iconst eX11_crack_151 ?_
                  refine L_iald eX11_crack_152 rfl ?_
                  refine V_idiv eX11_crack_153 ?_
                  refine V_iadd eX11_crack_154 ?_
                  exact V_ireturn eX11_crack_155 ((by first | (exfalso; omega) | (refine ⟨?_, rfl⟩; (repeat (first | rw [if_pos (by omega)] | rw [if_neg (by omega)])); done) | (refine ⟨?_, rfl⟩; (repeat (first | rw [if_pos (by omega)] | rw [if_neg (by omega)])); rw [emul])))
                · subst hsw
                  refine V_tabIn eX11_crack_83 (by omega) rfl rfl ?_
                  refine L_lload eX11_crack_156 rfl ?_
                  refine L_aload_n eX11_crack_158 rfl ?_
                  refine L_aload_n eX11_crack_159 rfl ?_
                  refine L_getR (r := 87) eX11_crack_160 f_X11_78.g rfl rfl (by decide) ?_
                  refine L_iload_n eX11_crack_163 rfl ?_
                  refine L_iald eX11_crack_164 rfl ?_
                  refine C_v1 (hWt G) v_X11_254 eX11_crack_165 rfl rfl ?_
                  refine V_i2l eX11_crack_168 ?_
                  refine V_lmul eX11_crack_169 ?_
                  refine L_ldc2 eX11_crack_170 k_X11_292 ?_
                  refine V_lmul eX11_crack_173 ?_
                  refine L_iload_n eX11_crack_174 rfl ?_
                  refine V_i2l eX11_crack_175 ?_
                  refine L_lconst1 eX11_crack_176 ?_
                  refine V_ladd eX11_crack_177 ?_
                  refine V_ldiv eX11_crack_178 ?_
                  refine V_l2i eX11_crack_179 ?_
                  exact V_ireturn eX11_crack_180 ((by first | (exfalso; omega) | (refine ⟨?_, rfl⟩; (repeat (first | rw [if_pos (by omega)] | rw [if_neg (by omega)])); done) | (refine ⟨?_, rfl⟩; (repeat (first | rw [if_pos (by omega)] | rw [if_neg (by omega)])); rw [emul])))
                · subst hsw
                  refine V_tabIn eX11_crack_83 (by omega) rfl rfl ?_
                  refine L_iload_n eX11_crack_181 rfl ?_
                  exact V_ireturn eX11_crack_182 ((by first | (exfalso; omega) | (refine ⟨?_, rfl⟩; (repeat (first | rw [if_pos (by omega)] | rw [if_neg (by omega)])); done) | (refine ⟨?_, rfl⟩; (repeat (first | rw [if_pos (by omega)] | rw [if_neg (by omega)])); rw [emul])))
              · refine L_sipush eX11_crack_54 rfl ?_
                exact V_ireturn eX11_crack_57 ((by first | (exfalso; omega) | (refine ⟨?_, rfl⟩; (repeat (first | rw [if_pos (by omega)] | rw [if_neg (by omega)])); done) | (refine ⟨?_, rfl⟩; (repeat (first | rw [if_pos (by omega)] | rw [if_neg (by omega)])); rw [emul])))
            · (exfalso; omega)
          · refine L_sipush eX11_crack_12 rfl ?_
            exact V_ireturn eX11_crack_15 ((by first | (exfalso; omega) | (refine ⟨?_, rfl⟩; (repeat (first | rw [if_pos (by omega)] | rw [if_neg (by omega)])); done) | (refine ⟨?_, rfl⟩; (repeat (first | rw [if_pos (by omega)] | rw [if_neg (by omega)])); rw [emul])))
      · have hno := fcR_no (L := L) (i := i) (by omega)
        rw [hno] at hFC0
        have hFC := hFC0
        refine ⟨vi (-1001), F1, A1, F3, A3, fun G => ?_, fun G => ?_, i3, ty_v⟩
        · refine L_ent [some (.ref 0), some (vi i), some (vi w), none, none] rfl ?_
          refine L_iload_n eX10_crack_0 rfl ?_
          refine V_iflt eX10_crack_1 (fun h1 => ?_) (fun h1 => ?_)
          · refine L_sipush eX10_crack_10 rfl ?_
            exact V_ireturn eX10_crack_13 ((by first | (exfalso; omega) | exact ⟨rfl, rfl⟩))
          · refine L_iload_n eX10_crack_4 rfl ?_
            refine L_bipush eX10_crack_5 rfl ?_
            refine V_icmple eX10_crack_7 (fun h7 => ?_) (fun h7 => ?_)
            · refine L_aload_n eX10_crack_14 rfl ?_
              refine C_v1 (hC G) v_X10_195 eX10_crack_15 rfl rfl ?_
              refine L_astore_n eX10_crack_18 (s_3 rfl rfl) ?_
              refine L_iload_n eX10_crack_19 rfl ?_
              refine V_iconst eX10_crack_20 ?_
              refine V_icmpne eX10_crack_21 (fun h21 => ?_) (fun h21 => ?_)
              · refine L_aload_n eX10_crack_29 rfl ?_
                refine L_iload_n eX10_crack_30 rfl ?_
                refine C_v1 (hFC G) v_X10_225 eX10_crack_31 rfl rfl ?_
                refine L_istore eX10_crack_34 (s_4 rfl rfl) ?_
                refine L_iload eX10_crack_36 rfl ?_
                refine V_iconst eX10_crack_38 ?_
                refine V_icmpne eX10_crack_39 (fun h39 => ?_) (fun h39 => ?_)
                · (exfalso; omega)
                · refine L_sipush eX10_crack_42 rfl ?_
                  exact V_ireturn eX10_crack_45 ((by first | (exfalso; omega) | exact ⟨rfl, rfl⟩))
              · (exfalso; omega)
            · refine L_sipush eX10_crack_10 rfl ?_
              exact V_ireturn eX10_crack_13 ((by first | (exfalso; omega) | exact ⟨rfl, rfl⟩))
        · refine L_ent [some (.ref 66), some (vi i), some (vi w), none, none, none] rfl ?_
          refine L_iload_n eX11_crack_0 rfl ?_
          refine V_i2l eX11_crack_1 ?_
          refine L_lconst0 eX11_crack_2 ?_
          refine L_ldc2 eX11_crack_3 k_X11_332 ?_
          refine C_s1 (p_X11_in (by omega) (by omega) (by omega)) v_X11_152 eX11_crack_6 rfl ?_
          refine V_ifneB eX11_crack_9 (fun h9 => ?_) (fun h9 => ?_)
          · refine L_aload_n eX11_crack_16 rfl ?_
            refine L_aload_n eX11_crack_17 rfl ?_
            refine L_get eX11_crack_18 f_X11_133.g rfl rfl ?_
            refine C_v0 (hM G) v_X11_311 eX11_crack_21 rfl rfl ?_
            refine L_aload_n eX11_crack_24 rfl ?_
            refine C_v0 (hK G) v_X11_334 eX11_crack_25 rfl rfl ?_
            refine L_iload_n eX11_crack_28 rfl ?_
            refine V_iconst eX11_crack_29 ?_
            refine V_icmpne eX11_crack_30 (fun h30 => ?_) (fun h30 => ?_)
            · refine L_iload_n eX11_crack_38 rfl ?_
              refine V_i2l eX11_crack_39 ?_
              refine L_lconst0 eX11_crack_40 ?_
              refine L_aload_n eX11_crack_41 rfl ?_
              refine L_get eX11_crack_42 f_X11_326.g rfl rfl ?_
              refine V_iconst eX11_crack_45 ?_
              refine V_isub eX11_crack_46 ?_
              refine V_i2l eX11_crack_47 ?_
              refine C_s1 (p_X11_in (by omega) (by omega) (by omega)) v_X11_152 eX11_crack_48 rfl ?_
              refine V_ifneB eX11_crack_51 (fun h51 => ?_) (fun h51 => ?_)
              · (exfalso; omega)
              · refine L_sipush eX11_crack_54 rfl ?_
                exact V_ireturn eX11_crack_57 ((by first | (exfalso; omega) | exact ⟨rfl, rfl⟩))
            · refine L_aload_n eX11_crack_33 rfl ?_
              refine L_get eX11_crack_34 f_X11_326.g rfl rfl ?_
              exact V_ireturn eX11_crack_37 ((by first | (exfalso; omega) | exact ⟨rfl, rfl⟩))
          · refine L_sipush eX11_crack_12 rfl ?_
            exact V_ireturn eX11_crack_15 ((by first | (exfalso; omega) | exact ⟨rfl, rfl⟩))
  · refine ⟨vi (-1002), F, A, F, A, fun G => ?_, fun G => ?_, h, ty_v⟩
    · refine L_ent [some (.ref 0), some (vi i), some (vi w), none, none] rfl ?_
      refine L_iload_n eX10_crack_0 rfl ?_
      refine V_iflt eX10_crack_1 (fun h1 => ?_) (fun h1 => ?_)
      · refine L_sipush eX10_crack_10 rfl ?_
        exact V_ireturn eX10_crack_13 ((by first | (exfalso; omega) | exact ⟨rfl, rfl⟩))
      · refine L_iload_n eX10_crack_4 rfl ?_
        refine L_bipush eX10_crack_5 rfl ?_
        refine V_icmple eX10_crack_7 (fun h7 => ?_) (fun h7 => ?_)
        · (exfalso; omega)
        · refine L_sipush eX10_crack_10 rfl ?_
          exact V_ireturn eX10_crack_13 ((by first | (exfalso; omega) | exact ⟨rfl, rfl⟩))
    · refine L_ent [some (.ref 66), some (vi i), some (vi w), none, none, none] rfl ?_
      refine L_iload_n eX11_crack_0 rfl ?_
      refine V_i2l eX11_crack_1 ?_
      refine L_lconst0 eX11_crack_2 ?_
      refine L_ldc2 eX11_crack_3 k_X11_332 ?_
      refine C_s1 (p_X11_in (by omega) (by omega) (by omega)) v_X11_152 eX11_crack_6 rfl ?_
      refine V_ifneB eX11_crack_9 (fun h9 => ?_) (fun h9 => ?_)
      · (exfalso; omega)
      · refine L_sipush eX11_crack_12 rfl ?_
        exact V_ireturn eX11_crack_15 ((by first | (exfalso; omega) | exact ⟨rfl, rfl⟩))
end R72

