section R69
variable {F : fT} {A : nT}
theorem iv_three (h : Iv F A) {n T : Nat} (en : F 2 0 = n) (eT : F 6 0 = T) (hn : 1 ≤ n ∧ n ≤ 12) (hT : 1 ≤ T ∧ T ≤ 60) : ∃ F1 A1 F2 A2 F3 A3 L, (∀ G : gT, Mu G mX10_theThrow [.ref 0] F A (some (.ref 42)) F1 A1) ∧ (∀ G : gT, Mu G mX11_toss [.ref 66, vi (F1 66 10)] F1 A1 none F2 A2) ∧ (∀ G : gT, Mu G mX11_findCracks [.ref 66] F2 A2 none F3 A3) ∧ Iv F1 A1 ∧ Iv F2 A2 ∧ Iv F3 A3 ∧ flK F1 A1 ∧ kp F A F1 A1 ∧ kp F1 A1 F2 A2 ∧ kp F2 A2 F3 A3 ∧ agP (inI n T n) (A1 43, A1 44) (A3 84, A3 85) ∧ ckL (A1 43) (A1 44) (F1 42 2) n T = L ∧ F3 66 41 = L.length ∧ (∀ (i : Nat) (hi : i < L.length), A3 86 i = L[i].1 ∧ A3 87 i = L[i].2) := by
  obtain ⟨F1, A1, F2, A2, hC, hM, i1, i2, fk, k1, k2, ag⟩ := iv_both h
  unfold inN at ag
  rw [en, eT] at ag
  have f0 : F2 66 0 = n := by rw [k2.1 66 0 rfl, k1.1 66 0 rfl, h.s.n]; exact en
  have f5 : F2 66 5 = T := by rw [k2.1 66 5 rfl, k1.1 66 5 rfl, h.s.T]; exact eT
  obtain ⟨F3, A3, hK, i3, k3, e41, hr, r4, r5⟩ := iv_cracks i2 f0 f5 hn.2 hT.2 rfl
  refine ⟨F1, A1, F2, A2, F3, A3, _, hC, hM, hK, i1, i2, i3, fk, k1, k2, k3, by rw [r4, r5]; exact ag, ?_, e41, hr⟩
  rw [ckL_c ag hn.2 T (Nat.le_refl _), fk.pc, i2.s.lw 3 (by omega) (by omega), k2.2 9 rfl]
theorem nrL_b {g : Int × Int → Int} : ∀ {L : List (Int × Int)} {b : Int}, (∀ e, e ∈ L → 0 ≤ g e ∧ g e < 200000) → -1 ≤ b ∧ b < 200000 → -1 ≤ L.foldl (nrS g) b ∧ L.foldl (nrS g) b < 200000 := by
  intro L
  induction L with
  | nil => intro b _ hb; exact hb
  | cons e L ih =>
    intro b hg hb
    exact ih (fun e' he => hg e' (List.mem_cons_of_mem _ he)) (nrS_b (hg e (List.mem_cons_self ..)) hb)
theorem pr_near (h : Iv F A) : Pr mX10_near mX11_near [] F A := by
  obtain ⟨n, T, en, eT, hn, hT⟩ := iv_nat h
  obtain ⟨F1, A1, F2, A2, F3, A3, L, hC, hM, hK, i1, i2, i3, fk, k1, k2, k3, ag, eL, e41, hr⟩ := iv_three h en eT hn hT
  have hmem : ∀ e, e ∈ L → (1 ≤ e.1 ∧ e.1 ≤ T) ∧ 1 ≤ e.2 ∧ e.2 ≤ n := fun e he => by rw [← eL] at he; exact ckL_mem he
  have hlen : L.length ≤ 12 * T := by rw [← eL]; exact ckL_len hn.2 T
  have hgb : ∀ e, e ∈ L → 0 ≤ rt (qP (A3 84) (A3 85) (F3 66 11) (F3 66 12) e.2 e.1) ∧ rt (qP (A3 84) (A3 85) (F3 66 11) (F3 66 12) e.2 e.1) < 200000 := fun e he => by
    have := hmem e he
    have hq := qP_b i3.b3 (x := F3 66 11) (y := F3 66 12) (by rw [i3.ear.1]; exact i3.ear.2.2.1) (by rw [i3.ear.2.1]; exact i3.ear.2.2.2) (k := e.2) (t := e.1) (by omega) (by omega)
    exact hq.2.2.2.2
  have econg : nrL (fun e => rt (qP (A1 43) (A1 44) (F1 0 12) (F1 0 13) e.2 e.1)) L = nrL (fun e => rt (qP (A3 84) (A3 85) (F3 66 11) (F3 66 12) e.2 e.1)) L := by
    have gen : ∀ (M : List (Int × Int)) (b : Int), (∀ e, e ∈ M → e ∈ L) → M.foldl (nrS (fun e => rt (qP (A1 43) (A1 44) (F1 0 12) (F1 0 13) e.2 e.1))) b = M.foldl (nrS (fun e => rt (qP (A3 84) (A3 85) (F3 66 11) (F3 66 12) e.2 e.1))) b := by
      intro M
      induction M with
      | nil => intro b _; rfl
      | cons e M ih =>
        intro b he
        have hm := hmem e (he e (List.mem_cons_self ..))
        have e1 : nrS (fun e => rt (qP (A1 43) (A1 44) (F1 0 12) (F1 0 13) e.2 e.1)) b e = nrS (fun e => rt (qP (A3 84) (A3 85) (F3 66 11) (F3 66 12) e.2 e.1)) b e := by
          unfold nrS
          simp only []
          rw [qP_c ag hn.2 (k := e.2) (t := e.1) (by omega) (by omega), i3.ear.1, i3.ear.2.1, k3.1 0 12 rfl, k3.1 0 13 rfl, k2.1 0 12 rfl, k2.1 0 13 rfl]
        rw [List.foldl_cons, List.foldl_cons, e1]
        exact ih _ (fun e' h' => he e' (List.mem_cons_of_mem _ h'))
    exact gen L (-1) (fun e he => he)
  refine ⟨vi (nrL (fun e => rt (qP (A1 43) (A1 44) (F1 0 12) (F1 0 13) e.2 e.1)) L), F1, A1, F3, A3, fun G => ?_, fun G => ?_, i3, ty_v⟩
  · rw [← eL]
    refine L_ent [some (.ref 0)] rfl ?_
    refine L_aload_n eX10_near_0 rfl ?_
    refine C_v1 (hC G) v_X10_195 eX10_near_1 rfl rfl ?_
    refine L_aload_n eX10_near_4 rfl ?_
    refine L_get eX10_near_5 f_X10_78.g rfl rfl ?_
    refine L_aload_n eX10_near_8 rfl ?_
    refine L_get eX10_near_9 f_X10_81.g rfl rfl ?_
    refine C_v1 (p_X1_leastCrackFar (Or.inl rfl) i1.b1 (n := n) (T := T) (by rw [fk.pc]; exact i1.ok.lw.2.2.2.1) (by rw [fk.n, k1.1 2 0 rfl]; exact en) (by rw [fk.T, k1.1 6 0 rfl]; exact eT) hn.2 hT.2 i1.ear.2.2.1 i1.ear.2.2.2) v_X10_252 eX10_near_12 rfl rfl ?_
    exact V_ireturn eX10_near_15 ⟨rfl, rfl⟩
  · rw [econg]
    refine L_ent [some (.ref 66), none, none, none] rfl ?_
    generalize hQ : (fun (r' : Option Value) (w' : wT) => r' = some (vi (nrL (fun e => rt (qP (A3 84) (A3 85) (F3 66 11) (F3 66 12) e.2 e.1)) L)) ∧ w' = sw F3 A3) = Q
    refine L_aload_n eX11_near_0 rfl ?_
    refine L_aload_n eX11_near_1 rfl ?_
    refine L_get eX11_near_2 f_X11_133.g rfl rfl ?_
    refine C_v0 (hM G) v_X11_311 eX11_near_5 rfl rfl ?_
    refine L_aload_n eX11_near_8 rfl ?_
    refine C_v0 (hK G) v_X11_334 eX11_near_9 rfl rfl ?_
    refine V_iconst eX11_near_12 ?_
    refine L_istore_n eX11_near_13 (s_1 rfl rfl) ?_
    refine V_iconst eX11_near_14 ?_
    refine L_istore_n eX11_near_15 (s_2 rfl rfl) ?_
    have LOOP : ∀ (r j : Nat) (i b : Int) (x3 : Option Value), L.length < r + j → j ≤ L.length → i = j → b = nrL (fun e => rt (qP (A3 84) (A3 85) (F3 66 11) (F3 66 12) e.2 e.1)) (L.take j) → V G mX11_near Q 0 0 16 [some (.ref 66), some (vi b), some (vi i), x3] [] (sw F3 A3) := by
      intro r
      induction r with
      | zero => intro j i b x3 e1 e2; omega
      | succ r ih =>
        intro j i b x3 e1 e2 ei eb
        have hb := nrL_b (L := L.take j) (b := -1) (fun e he => hgb e (List.mem_of_mem_take he)) (by omega)
        have hb2 : -1 ≤ b ∧ b < 200000 := by rw [eb]; exact hb
        refine L_iload_n eX11_near_16 rfl ?_
        refine L_aload_n eX11_near_17 rfl ?_
        refine L_get eX11_near_18 f_X11_326.g rfl rfl ?_
        -- at 21: .if_icmp .ge 30
        refine V_icmpge eX11_near_21 (fun h2 => ?_) (fun h2 => ?_)
        · have e : j = L.length := by omega
          subst e
          rw [List.take_length] at eb
          refine L_iload_n eX11_near_51 rfl ?_
          -- at 52: .ireturn
          exact V_ireturn eX11_near_52 (by rw [← hQ, eb]; exact ⟨rfl, rfl⟩)
        · have hj : j < L.length := by omega
          have hrj := hr j hj
          have hm := hmem L[j] (List.getElem_mem hj)
          have hgj := hgb L[j] (List.getElem_mem hj)
          have est : nrL (fun e => rt (qP (A3 84) (A3 85) (F3 66 11) (F3 66 12) e.2 e.1)) (L.take (j + 1)) = nrS (fun e => rt (qP (A3 84) (A3 85) (F3 66 11) (F3 66 12) e.2 e.1)) b L[j] := by
            rw [List.take_succ_eq_append_getElem hj, nrL, List.foldl_append, eb]
            rfl
          subst ei
          have hnx := fun (b' : Int) (x3 : Option Value) (hb' : b' = nrS (fun e => rt (qP (A3 84) (A3 85) (F3 66 11) (F3 66 12) e.2 e.1)) b L[j]) => ih (j + 1) ((j : Int) + 1) b' x3 (by omega) (by omega) (by omega) (by rw [est]; exact hb')
          unfold nrS at hnx
          rw [← hrj.1, ← hrj.2] at hm hgj
          simp only [← hrj.1, ← hrj.2] at hnx
          refine L_aload_n eX11_near_24 rfl ?_
          refine L_iload_n eX11_near_25 rfl ?_
          refine C_v1 (p_X11_farOf i3.b3 (by omega) (by omega) (by omega) (by rw [i3.ear.1]; exact i3.ear.2.2.1) (by rw [i3.ear.2.1]; exact i3.ear.2.2.2)) v_X11_337 eX11_near_26 rfl rfl ?_
          refine L_istore_n eX11_near_29 (s_3 rfl rfl) ?_
          refine L_iload_n eX11_near_30 rfl ?_
          -- at 31: .ifCond .lt 8
          refine V_iflt eX11_near_31 (fun h3 => ?_) (fun h3 => ?_)
          · rw [if_pos (by omega)] at hnx
            refine L_iload_n eX11_near_39 rfl ?_
            refine V_goto eX11_near_40 ?_
            refine L_istore_n eX11_near_44 (s_1 rfl rfl) ?_
            refine L_iinc eX11_near_45 rfl (s_2 rfl rfl) ?_
            refine V_goto eX11_near_48 ?_
            exact hnx _ _ rfl
          · rw [if_neg (by omega)] at hnx
            refine L_iload_n eX11_near_34 rfl ?_
            refine L_iload_n eX11_near_35 rfl ?_
            -- at 36: .if_icmp .ge 7
            refine V_icmpge eX11_near_36 (fun h4 => ?_) (fun h4 => ?_)
            · refine L_iload_n eX11_near_43 rfl ?_
              refine L_istore_n eX11_near_44 (s_1 rfl rfl) ?_
              refine L_iinc eX11_near_45 rfl (s_2 rfl rfl) ?_
              refine V_goto eX11_near_48 ?_
              exact hnx _ _ (by omega)
            · refine L_iload_n eX11_near_39 rfl ?_
              refine V_goto eX11_near_40 ?_
              refine L_istore_n eX11_near_44 (s_1 rfl rfl) ?_
              refine L_iinc eX11_near_45 rfl (s_2 rfl rfl) ?_
              refine V_goto eX11_near_48 ?_
              exact hnx _ _ (by omega)
    exact LOOP (L.length + 1) 0 0 (-1) _ (by omega) (by omega) (by omega) rfl
end R69

