/-! the LOUDEST PLAIT: the class's side -/
def rnK (F : fT) (A : nT) (F' : fT) (A' : nT) (n : Nat) (s : Int) (st : Int × List Int) (l : List Int) : Prop := (∀ o k, o ≠ 47 → o ≠ 52 → o ≠ 55 → F' o k = F o k) ∧ (∀ o, (o < 48 ∨ 58 < o) → A' o = A o) ∧ (bA (A' 48, A' 49)) ∧ (F' 52 0 = s) ∧ (F' 52 1 = st.1) ∧ (st.1 ≠ -1 → eqO n (A' 53) (stL st.2)) ∧ (-1 ≤ st.1 ∧ st.1 < 400000) ∧ (F' 55 0 = n) ∧ (F' 55 1 = F 2 1) ∧ (eqO 12 (A' 57) (A 4)) ∧ (lS (A' 54) n 0 = l) ∧ (∀ j : Int, 0 ≤ j → j < n → 0 ≤ A' 54 j ∧ A' 54 j ≤ 4)
theorem rnK.kf {F : fT} {A : nT} {F' : fT} {A' : nT} {n : Nat} {s : Int} {st : Int × List Int} {l : List Int} (h : rnK F A F' A' n s st l) : ∀ o k, o ≠ 47 → o ≠ 52 → o ≠ 55 → F' o k = F o k := h.1
theorem rnK.ka {F : fT} {A : nT} {F' : fT} {A' : nT} {n : Nat} {s : Int} {st : Int × List Int} {l : List Int} (h : rnK F A F' A' n s st l) : ∀ o, (o < 48 ∨ 58 < o) → A' o = A o := h.2.1
theorem rnK.b2 {F : fT} {A : nT} {F' : fT} {A' : nT} {n : Nat} {s : Int} {st : Int × List Int} {l : List Int} (h : rnK F A F' A' n s st l) : bA (A' 48, A' 49) := h.2.2.1
theorem rnK.m {F : fT} {A : nT} {F' : fT} {A' : nT} {n : Nat} {s : Int} {st : Int × List Int} {l : List Int} (h : rnK F A F' A' n s st l) : F' 52 0 = s := h.2.2.2.1
theorem rnK.bs {F : fT} {A : nT} {F' : fT} {A' : nT} {n : Nat} {s : Int} {st : Int × List Int} {l : List Int} (h : rnK F A F' A' n s st l) : F' 52 1 = st.1 := h.2.2.2.2.1
theorem rnK.be {F : fT} {A : nT} {F' : fT} {A' : nT} {n : Nat} {s : Int} {st : Int × List Int} {l : List Int} (h : rnK F A F' A' n s st l) : st.1 ≠ -1 → eqO n (A' 53) (stL st.2) := h.2.2.2.2.2.1
theorem rnK.sb {F : fT} {A : nT} {F' : fT} {A' : nT} {n : Nat} {s : Int} {st : Int × List Int} {l : List Int} (h : rnK F A F' A' n s st l) : -1 ≤ st.1 ∧ st.1 < 400000 := h.2.2.2.2.2.2.1
theorem rnK.n55 {F : fT} {A : nT} {F' : fT} {A' : nT} {n : Nat} {s : Int} {st : Int × List Int} {l : List Int} (h : rnK F A F' A' n s st l) : F' 55 0 = n := h.2.2.2.2.2.2.2.1
theorem rnK.l55 {F : fT} {A : nT} {F' : fT} {A' : nT} {n : Nat} {s : Int} {st : Int × List Int} {l : List Int} (h : rnK F A F' A' n s st l) : F' 55 1 = F 2 1 := h.2.2.2.2.2.2.2.2.1
theorem rnK.f55 {F : fT} {A : nT} {F' : fT} {A' : nT} {n : Nat} {s : Int} {st : Int × List Int} {l : List Int} (h : rnK F A F' A' n s st l) : eqO 12 (A' 57) (A 4) := h.2.2.2.2.2.2.2.2.2.1
theorem rnK.row {F : fT} {A : nT} {F' : fT} {A' : nT} {n : Nat} {s : Int} {st : Int × List Int} {l : List Int} (h : rnK F A F' A' n s st l) : lS (A' 54) n 0 = l := h.2.2.2.2.2.2.2.2.2.2.1
theorem rnK.rb {F : fT} {A : nT} {F' : fT} {A' : nT} {n : Nat} {s : Int} {st : Int × List Int} {l : List Int} (h : rnK F A F' A' n s st l) : ∀ j : Int, 0 ≤ j → j < n → 0 ≤ A' 54 j ∧ A' 54 j ≤ 4 := h.2.2.2.2.2.2.2.2.2.2.2
theorem rnK.mk {F : fT} {A : nT} {F' : fT} {A' : nT} {n : Nat} {s : Int} {st : Int × List Int} {l : List Int} (qkf : ∀ o k, o ≠ 47 → o ≠ 52 → o ≠ 55 → F' o k = F o k) (qka : ∀ o, (o < 48 ∨ 58 < o) → A' o = A o) (qb2 : bA (A' 48, A' 49)) (qm : F' 52 0 = s) (qbs : F' 52 1 = st.1) (qbe : st.1 ≠ -1 → eqO n (A' 53) (stL st.2)) (qsb : -1 ≤ st.1 ∧ st.1 < 400000) (qn55 : F' 55 0 = n) (ql55 : F' 55 1 = F 2 1) (qf55 : eqO 12 (A' 57) (A 4)) (qrow : lS (A' 54) n 0 = l) (qrb : ∀ j : Int, 0 ≤ j → j < n → 0 ≤ A' 54 j ∧ A' 54 j ≤ 4) : rnK F A F' A' n s st l := ⟨qkf, qka, qb2, qm, qbs, qbe, qsb, qn55, ql55, qf55, qrow, qrb⟩
section P89
variable {F F' : fT} {A A' : nT} {n T : Nat} {s : Int} {st : Int × List Int} {l : List Int}
theorem sp_b (h : Iv F A) (hn : 1 ≤ n ∧ n ≤ 12) (hT : T ≤ 60) {X Y : Int → Int} (hb : bA (X, Y)) : 0 ≤ rt (gM (mv X Y) n T) ∧ rt (gM (mv X Y) n T) < 400000 := by
  have h1 := gM_b (v := mv X Y) (n := n) (T := T) (B := 140000000000) (by omega) (fun k t a b c d => by have := (mv_b hb (k := k) (t := t) (by omega) (by omega)).2.2.2.2; omega) T (Nat.le_refl _)
  have h2 := rt_mono h1.1 h1.2
  have h3 : rt 140000000000 = 374165 := rt_eq (by omega) (by omega) (by omega) (by omega)
  have h4 := rt_nn (gM (mv X Y) n T)
  omega
theorem c_row (h : Iv F A) (en : F 2 0 = n) (eT : F 6 0 = T) (hn : 1 ≤ n ∧ n ≤ 8) (hT : 1 ≤ T ∧ T ≤ 60) (hs : 1 ≤ s ∧ s ≤ 96) (K : rnK F A F' A' n s st l) : ∃ F2 A2, (∀ (G : gT) (Q : Option Value → wT → Prop) (x5 x6 : Option Value), V G mX5_run Q 0 0 119 [some (.ref 52), some (.ref 1), some (.ref 47), some (vi (F 0 11)), some (vi s), x5, x6] [] (sw F2 A2) → V G mX5_run Q 0 0 78 [some (.ref 52), some (.ref 1), some (.ref 47), some (vi (F 0 11)), some (vi s), x5, x6] [] (sw F' A')) ∧ rnK F A F2 A2 n s (loT F A s st l) l := by
  have hLy := fun (G : gT) => p_X5_layRow (G := G) (F := F') (A := A') K.n55 hn.2 K.rb
  obtain ⟨A1, eA1⟩ : ∃ A1, A1 = sA A' 56 (lyF (A' 54) (A' 56) n) := ⟨_, rfl⟩
  have a1 : ∀ o, o ≠ 56 → A1 o = A' o := fun o q => by rw [eA1]; exact sA_ne q
  have a56 : eqO n (A1 56) (stL l) := by
    intro i a b
    rw [eA1, sA_eq, ← K.row, stL_lS a b]
    exact if_pos ⟨a, b⟩
  rw [← eA1] at hLy
  have hSm := fun (G : gT) => p_X3_strandsInAll (G := G) (F := F') (A := A1) (p := 55) (by unfold isPl; omega) (n := n) K.n55 (by omega)
  have esm : sI (fun j => A1 (55 + 1) j) n = smL l := by
    rw [← K.row, smL_lS]
    refine sI_c n (fun j hj => ?_)
    rw [show A1 (55 + 1) j = stL l j from a56 j (by omega) (by omega), ← K.row, stL_lS (by omega) (by omega), Int.zero_add]
  rw [esm] at hSm
  have hsmb : 0 ≤ smL l ∧ smL l ≤ 12 * n := by
    rw [← K.row, smL_lS]
    exact sI_b2 n (fun j _ => by have := ltT_b (A' 54 (0 + j)); omega)
  have K1 : rnK F A F' A1 n s st l := by
    refine rnK.mk K.kf (fun o q => (a1 o (by omega)).trans (K.ka o q)) ?_ K.m K.bs ?_ K.sb K.n55 K.l55 ?_ ?_ ?_
    · rw [a1 48 (by decide), a1 49 (by decide)]; exact K.b2
    · rw [a1 53 (by decide)]; exact K.be
    · rw [a1 57 (by decide)]; exact K.f55
    · rw [a1 54 (by decide)]; exact K.row
    · rw [a1 54 (by decide)]; exact K.rb
  by_cases cs : smL l ≤ s
  · have hok := h.ok
    have hpl0 : plK n (A 3) (A 4) := by
      have := hok.pl
      rw [show F (1 + 1) 0 = (n : Int) from en] at this
      exact this
    have hc : cOK F' A1 55 := by
      refine ⟨?_, ?_, ?_, ?_, ?_, ?_⟩
      · rw [K.n55]; omega
      · rw [K.l55]; exact hok.len
      · rw [K.kf 6 0 (by decide) (by decide) (by decide)]; exact hok.T
      · rw [K.n55]
        intro i a b
        rw [show A1 (55 + 1) i = stL l i from a56 i a b, show A1 (55 + 2) i = A 4 i from K1.f55 i a (by omega), ← K.row, stL_lS a b]
        have := ltT_b (A' 54 i)
        exact ⟨by omega, (hpl0 i a b).2⟩
      · rw [a1 9 (by decide), K.ka 9 (by decide)]; exact hok.lw
      · rw [K.kf 6 0 (by decide) (by decide) (by decide), a1 7 (by decide), a1 8 (by decide), K.ka 7 (by decide), K.ka 8 (by decide)]; exact hok.wy
    have hg := h.giv.2
    have hFl := fun (G : gT) => p_X1_fly (G := G) (F := F') (A := A1) (f := 47) (p := 55) (Or.inr rfl) (by unfold isPl; omega) hg hc K1.b2
    obtain ⟨F2, eF2⟩ : ∃ F2, F2 = flF F' 47 (F' 55 0) (F' 6 0) (A1 9 3) (F' 55 1) := ⟨_, rfl⟩
    obtain ⟨A2, eA2⟩ : ∃ A2, A2 = flA F' A1 47 55 (F 0 11) := ⟨_, rfl⟩
    have f2 : ∀ o k, o ≠ 47 → F2 o k = F' o k := fun o k q => by rw [eF2]; exact flF_o q
    have a2 : ∀ o, o < 48 ∨ 51 < o → A2 o = A1 o := fun o q => by rw [eA2]; exact flA_o (by omega)
    have ets : ∀ z, cTs F' A1 55 (F 0 11) z = tsS (wtF (stL l) (A 4)) (bdF (stL l) (A 4)) (F 2 1) (A 9 0) (A 9 1) n (A 9 2).toNat (A 7) (A 8) (F 0 11) T z := fun z => by
      unfold cTs
      rw [K.n55, K.l55, K.kf 6 0 (by decide) (by decide) (by decide), eT, a1 9 (by decide), K.ka 9 (by decide), a1 7 (by decide), K.ka 7 (by decide), a1 8 (by decide), K.ka 8 (by decide), Int.toNat_natCast, Int.toNat_natCast]
      refine ts_cong ?_ ?_ (fun t _ _ => ⟨rfl, rfl⟩)
      · intro k a b
        unfold wtF
        rw [show A1 (55 + 1) (k - 1) = _ from a56 (k - 1) (by omega) (by omega), show A1 (55 + 2) (k - 1) = _ from K1.f55 (k - 1) (by omega) (by omega)]
      · intro k a b
        unfold bdF
        rw [show A1 (55 + 1) (k - 1) = _ from a56 (k - 1) (by omega) (by omega), show A1 (55 + 2) (k - 1) = _ from K1.f55 (k - 1) (by omega) (by omega)]
    have etl : tsL F A l = tsS (wtF (stL l) (A 4)) (bdF (stL l) (A 4)) (F 2 1) (A 9 0) (A 9 1) n (A 9 2).toNat (A 7) (A 8) (F 0 11) T zr := by
      unfold tsL
      rw [en, eT, Int.toNat_natCast, Int.toNat_natCast]
    have ag : agP (inI n T n) (A2 48, A2 49) (tsL F A l) := by
      rw [eA2, show flA F' A1 47 55 (F 0 11) 48 = _ from flA_1, show flA F' A1 47 55 (F 0 11) 49 = _ from flA_2, ets, etl]
      exact ag_ts (by omega)
    have hb3 : bA (A2 48, A2 49) := by
      rw [eA2, show flA F' A1 47 55 (F 0 11) 48 = _ from flA_1, show flA F' A1 47 55 (F 0 11) 49 = _ from flA_2]
      have hw : okW (wtF (A1 (55 + 1)) (A1 (55 + 2))) (bdF (A1 (55 + 1)) (A1 (55 + 2))) (F' 55 1) (A1 9 0) (A1 9 1) (F' 55 0).toNat := hc.w
      exact cTs_b hc hg K1.b2
    have e47 : F2 47 0 = n ∧ F2 47 1 = T := by
      rw [eF2, flF_0, flF_1, K.n55, K.kf 6 0 (by decide) (by decide) (by decide)]
      exact ⟨rfl, eT⟩
    have hGr := fun (G : gT) => p_X1_greatestSpeed (G := G) (F := F2) (A := A2) (f := 47) (n := n) (T := T) (Or.inr rfl) hb3 e47.1 e47.2 (by omega) hT.2
    have esp : rt (gM (mv (A2 48) (A2 49)) n T) = spL F A l := by
      unfold spL
      rw [en, eT, Int.toNat_natCast, Int.toNat_natCast, gM_c (v := mv (A2 48) (A2 49)) (v' := mv (tsL F A l).1 (tsL F A l).2) (n := n) (T := T) (fun k t a b c d => mv_c (X' := (tsL F A l).1) (Y' := (tsL F A l).2) ag (by omega) (by omega) (by omega)) T (Nat.le_refl _)]
    have hspb := sp_b (n := n) (T := T) h (by omega) hT.2 hb3
    rw [show A2 (47 + 1) = A2 48 from rfl, show A2 (47 + 2) = A2 49 from rfl, esp] at hGr
    rw [esp] at hspb
    rw [← eF2, ← eA2] at hFl
    have e52 : F2 52 1 = st.1 := by rw [f2 52 1 (by decide)]; exact K.bs
    have sb := K.sb
    have K2 : rnK F A F2 A2 n s st l := by
      refine rnK.mk (fun o k p q r => (f2 o k p).trans (K.kf o k p q r)) (fun o q => (a2 o (by omega)).trans (K1.ka o q)) hb3 (by rw [f2 52 0 (by decide)]; exact K.m) e52 ?_ K.sb (by rw [f2 55 0 (by decide)]; exact K.n55) (by rw [f2 55 1 (by decide)]; exact K.l55) ?_ ?_ ?_
      · rw [a2 53 (by decide)]; exact K1.be
      · rw [a2 57 (by decide)]; exact K1.f55
      · rw [a2 54 (by decide)]; exact K1.row
      · rw [a2 54 (by decide)]; exact K1.rb
    by_cases cb : st.1 < spL F A l
    · have elo : loT F A s st l = (spL F A l, l) := if_pos ⟨cs, cb⟩
      have hCm := fun (G : gT) => p_X5_compare_yes (G := G) (F := F2) (A := A2) (v := spL F A l) (n := n) (by omega) (by omega) K2.n55 hn.2 (by omega)
      refine ⟨uF F2 52 1 (spL F A l), sA A2 53 (cpI (A2 56) (A2 53) n), fun G Q x5 x6 hv => ?_, ?_⟩
      rotate_left
      · refine rnK.mk (F' := uF F2 52 1 (spL F A l)) (A' := sA A2 53 (cpI (A2 56) (A2 53) n)) (fun o k p q r => ?_) (fun o q => ?_) ?_ ?_ ?_ ?_ ?_ ?_ ?_ ?_ ?_ ?_
        · rw [uF_ne (by omega)]; exact K2.kf o k p q r
        · rw [sA_ne (by omega)]; exact K2.ka o q
        · rw [sA_ne (by decide), sA_ne (by decide)]; exact hb3
        · rw [uF_ne (by decide)]; exact K2.m
        · rw [uF_eq, elo]
        · rw [elo, sA_eq]
          intro _ i a b
          rw [cpI_o i a b, a2 56 (by decide)]
          exact a56 i a b
        · rw [elo]
          show -1 ≤ spL F A l ∧ spL F A l < 400000
          omega
        · rw [uF_ne (by decide)]; exact K2.n55
        · rw [uF_ne (by decide)]; exact K2.l55
        · rw [sA_ne (by decide)]; exact K2.f55
        · rw [sA_ne (by decide)]; exact K2.row
        · rw [sA_ne (by decide)]; exact K2.rb
      · refine L_aload_n eX5_run_78 rfl ?_
        refine C_v0 (hLy G) v_X5_42 eX5_run_79 rfl rfl ?_
        refine L_aload_n eX5_run_82 rfl ?_
        refine L_getR (r := 55) eX5_run_83 f_X5_28.g rfl rfl (by decide) ?_
        refine C_v1 (hSm G) v_X5_45 eX5_run_86 rfl rfl ?_
        refine L_iload eX5_run_89 rfl ?_
        -- at 91: .if_icmp .gt 28
        refine V_icmpgt eX5_run_91 (fun h2 => ?_) (fun h2 => ?_)
        · omega
        · refine L_aload_n eX5_run_94 rfl ?_
          refine L_aload_n eX5_run_95 rfl ?_
          refine L_getR (r := 55) eX5_run_96 f_X5_28.g rfl rfl (by decide) ?_
          refine L_aload_n eX5_run_99 rfl ?_
          refine L_getR (r := 6) eX5_run_100 f_X5_49 rfl rfl (by decide) ?_
          refine L_aload_n eX5_run_103 rfl ?_
          refine L_getR (r := 9) eX5_run_104 f_X5_53 rfl rfl (by decide) ?_
          refine L_iload_n eX5_run_107 rfl ?_
          refine C_v0 (hFl G) v_X5_56 eX5_run_108 rfl rfl ?_
          refine L_aload_n eX5_run_111 rfl ?_
          refine L_aload_n eX5_run_112 rfl ?_
          refine C_v1 (hGr G) v_X5_62 eX5_run_113 rfl rfl ?_
          refine C_v0 (hCm G) v_X5_65 eX5_run_116 rfl rfl ?_
          exact hv
    · have elo : loT F A s st l = st := if_neg (fun q => cb q.2)
      have hCm := fun (G : gT) => p_X5_compare_no (G := G) (F := F2) (A := A2) (v := spL F A l) (by omega) (by omega) (by omega)
      refine ⟨F2, A2, fun G Q x5 x6 hv => ?_, by rw [elo]; exact K2⟩
      refine L_aload_n eX5_run_78 rfl ?_
      refine C_v0 (hLy G) v_X5_42 eX5_run_79 rfl rfl ?_
      refine L_aload_n eX5_run_82 rfl ?_
      refine L_getR (r := 55) eX5_run_83 f_X5_28.g rfl rfl (by decide) ?_
      refine C_v1 (hSm G) v_X5_45 eX5_run_86 rfl rfl ?_
      refine L_iload eX5_run_89 rfl ?_
      -- at 91: .if_icmp .gt 28
      refine V_icmpgt eX5_run_91 (fun h2 => ?_) (fun h2 => ?_)
      · omega
      · refine L_aload_n eX5_run_94 rfl ?_
        refine L_aload_n eX5_run_95 rfl ?_
        refine L_getR (r := 55) eX5_run_96 f_X5_28.g rfl rfl (by decide) ?_
        refine L_aload_n eX5_run_99 rfl ?_
        refine L_getR (r := 6) eX5_run_100 f_X5_49 rfl rfl (by decide) ?_
        refine L_aload_n eX5_run_103 rfl ?_
        refine L_getR (r := 9) eX5_run_104 f_X5_53 rfl rfl (by decide) ?_
        refine L_iload_n eX5_run_107 rfl ?_
        refine C_v0 (hFl G) v_X5_56 eX5_run_108 rfl rfl ?_
        refine L_aload_n eX5_run_111 rfl ?_
        refine L_aload_n eX5_run_112 rfl ?_
        refine C_v1 (hGr G) v_X5_62 eX5_run_113 rfl rfl ?_
        refine C_v0 (hCm G) v_X5_65 eX5_run_116 rfl rfl ?_
        exact hv
  · have elo : loT F A s st l = st := if_neg (fun q => cs q.1)
    refine ⟨F', A1, fun G Q x5 x6 hv => ?_, by rw [elo]; exact K1⟩
    refine L_aload_n eX5_run_78 rfl ?_
    refine C_v0 (hLy G) v_X5_42 eX5_run_79 rfl rfl ?_
    refine L_aload_n eX5_run_82 rfl ?_
    refine L_getR (r := 55) eX5_run_83 f_X5_28.g rfl rfl (by decide) ?_
    refine C_v1 (hSm G) v_X5_45 eX5_run_86 rfl rfl ?_
    refine L_iload eX5_run_89 rfl ?_
    -- at 91: .if_icmp .gt 28
    refine V_icmpgt eX5_run_91 (fun h2 => ?_) (fun h2 => ?_)
    · exact hv
    · omega
theorem c_run (h : Iv F A) (en : F 2 0 = n) (eT : F 6 0 = T) (hn : 1 ≤ n ∧ n ≤ 8) (hT : 1 ≤ T ∧ T ≤ 60) (hs : 1 ≤ s ∧ s ≤ 96) (G : gT) : Meets G mX5_run [.ref 52, .ref 1, .ref 47, vi (F 0 11), vi s] (sw F A) (fun r w => ∃ F1 A1, r = none ∧ w = sw F1 A1 ∧ Iv F1 A1 ∧ kp F A F1 A1 ∧ F1 52 0 = s) := by
  refine L_ent [some (.ref 52), some (.ref 1), some (.ref 47), some (vi (F 0 11)), some (vi s), none, none] rfl ?_
  generalize hQ : (fun (r : Option Value) (w : wT) => ∃ F1 A1, r = none ∧ w = sw F1 A1 ∧ Iv F1 A1 ∧ kp F A F1 A1 ∧ F1 52 0 = s) = Q
  -- the end
  have fin : ∀ (F' : fT) (A' : nT) (l : List Int), rnK F A F' A' n s (loS F A s) l → Q none (sw F' A') := fun F' A' l K => by
    rw [← hQ]
    have hkp : kp F A F' A' := by
      refine ⟨fun o k e => ?_, fun o e => ?_⟩
      · have := kF_ne e
        exact K.kf o k (by omega) (by omega) (by omega)
      · have := kA_ne e
        exact K.ka o (by omega)
    refine ⟨F', A', rfl, rfl, hkp.Qv h ?_ ?_ ?_ ?_ K.b2 ?_, hkp, K.m⟩
    · rw [K.kf 0 17 (by decide) (by decide) (by decide)]
      exact h.fl.imp id (fun e => ⟨e.1, hkp.Qf e.2 (fun k => K.kf 42 k (by decide) (by decide) (by decide)) (K.ka _ (by decide)) (K.ka _ (by decide)) (K.ka _ (by decide))⟩)
    · exact hkp.Qk h.ts (K.kf _ _ (by decide) (by decide) (by decide)) (K.ka _ (by decide)) (K.ka _ (by decide))
    · refine Or.inr ⟨by rw [K.m]; exact hs, by rw [hkp.1 2 0 rfl]; omega, by rw [hkp.Ql, K.m]; exact K.bs, fun q => ?_⟩
      rw [hkp.Ql, K.m, hkp.1 2 0 rfl, en]
      rw [K.bs] at q
      exact K.be q
    · rw [K.ka 43 (by decide), K.ka 44 (by decide)]; exact h.b1
    · rw [K.ka 84 (by decide), K.ka 85 (by decide)]; exact h.b3
  have out : ∀ (F' : fT) (A' : nT) (l : List Int) (i : Int), 0 ≤ i → i ≤ 495 → rnK F A F' A' n s (loS F A s) l → V G mX5_run Q 0 0 65 [some (.ref 52), some (.ref 1), some (.ref 47), some (vi (F 0 11)), some (vi s), some (vi 0), some (vi i)] [] (sw F' A') := fun F' A' l i a b K => by
    refine L_iload eX5_run_65 rfl ?_
    refine L_sipush eX5_run_67 rfl ?_
    -- at 70: .if_icmp .ge 61
    refine V_icmpge eX5_run_70 (fun h2 => ?_) (fun h2 => ?_)
    · exact V_return eX5_run_131 (fin F' A' l K)
    · refine L_iload eX5_run_73 rfl ?_
      -- at 75: .ifCond .eq 56
      refine V_ifeq eX5_run_75 (fun h3 => ?_) (fun h3 => ?_)
      · exact V_return eX5_run_131 (fin F' A' l K)
      · omega
  have LOOP : ∀ (r : Nat) (i : Int) (F' : fT) (A' : nT) (st : Int × List Int) (l : List Int), i + r = 495 → 0 ≤ i → rnK F A F' A' n s st l → (rwS r l).foldl (loT F A s) st = loS F A s → V G mX5_run Q 0 0 65 [some (.ref 52), some (.ref 1), some (.ref 47), some (vi (F 0 11)), some (vi s), some (vi 1), some (vi i)] [] (sw F' A') := by
    intro r
    induction r with
    | zero =>
      intro i F' A' st l e1 e2 K ef
      rw [show (rwS 0 l).foldl (loT F A s) st = st from rfl] at ef
      subst ef
      refine L_iload eX5_run_65 rfl ?_
      refine L_sipush eX5_run_67 rfl ?_
      -- at 70: .if_icmp .ge 61
      refine V_icmpge eX5_run_70 (fun h2 => ?_) (fun h2 => ?_)
      · exact V_return eX5_run_131 (fin F' A' l K)
      · omega
    | succ r ih =>
      intro i F' A' st l e1 e2 K ef
      obtain ⟨F2, A2, hv, K2⟩ := c_row h en eT hn hT hs K
      obtain ⟨b, R', hNx, hb⟩ := p_X5_nextRow (F := F2) (A := A2) K2.n55 hn K2.rb
      have K3 : (∀ j : Int, 0 ≤ j → j < n → 0 ≤ R' j ∧ R' j ≤ 4) → rnK F A F2 (sA A2 54 R') n s (loT F A s st l) (lS R' n 0) := fun q => by
        refine rnK.mk K2.kf (fun o p => by rw [sA_ne (by omega)]; exact K2.ka o p) ?_ K2.m K2.bs ?_ K2.sb K2.n55 K2.l55 ?_ ?_ ?_
        · rw [sA_ne (by decide), sA_ne (by decide)]; exact K2.b2
        · rw [sA_ne (by decide)]; exact K2.be
        · rw [sA_ne (by decide)]; exact K2.f55
        · rw [sA_eq]
        · rw [sA_eq]; exact q
      rw [show (rwS (r + 1) l).foldl (loT F A s) st = (match nxR l with | some l' => rwS r l' | none => []).foldl (loT F A s) (loT F A s st l) by cases hx : nxR l <;> simp [rwS, hx]] at ef
      refine L_iload eX5_run_65 rfl ?_
      refine L_sipush eX5_run_67 rfl ?_
      -- at 70: .if_icmp .ge 61
      refine V_icmpge eX5_run_70 (fun h2 => ?_) (fun h2 => ?_)
      · omega
      · refine L_iload eX5_run_73 rfl ?_
        -- at 75: .ifCond .eq 56
        refine V_ifeq eX5_run_75 (fun h3 => ?_) (fun h3 => ?_)
        · omega
        · refine hv G Q _ _ ?_
          rcases hb with ⟨b1, b2, b3⟩ | ⟨b1, b2, b3⟩
          · subst b1
            rw [K2.row] at b2
            rw [b2] at ef
            refine L_aload_n eX5_run_119 rfl ?_
            refine C_v1 (hNx G) v_X5_69 eX5_run_120 rfl rfl ?_
            refine L_istore eX5_run_123 (s_5 rfl rfl) ?_
            refine L_iinc eX5_run_125 rfl (s_6 rfl rfl) ?_
            refine V_goto eX5_run_128 ?_
            exact ih _ _ _ _ _ (by omega) (by omega) (K3 b3) ef
          · subst b1
            rw [K2.row] at b2
            rw [b2] at ef
            rw [show List.foldl (loT F A s) (loT F A s st l) [] = loT F A s st l from rfl] at ef
            refine L_aload_n eX5_run_119 rfl ?_
            refine C_v1 (hNx G) v_X5_69 eX5_run_120 rfl rfl ?_
            refine L_istore eX5_run_123 (s_5 rfl rfl) ?_
            refine L_iinc eX5_run_125 rfl (s_6 rfl rfl) ?_
            refine V_goto eX5_run_128 ?_
            have K4 : rnK F A F2 (sA A2 54 R') n s (loS F A s) l := by
              rw [← ef, b3, sA_self]
              exact K2
            exact out _ _ _ _ (by omega) (by omega) K4
  have hCp := fun (G : gT) => p_X3_copyFrom (G := G) (F := uF (uF F 52 0 s) 52 1 (-1)) (A := A) (p := 55) (q := 2) (by unfold isPl; omega) (Or.inl rfl) (by decide)
  obtain ⟨F1, eF1⟩ : ∃ F1, F1 = plF (uF (uF F 52 0 s) 52 1 (-1)) 55 (uF (uF F 52 0 s) 52 1 (-1) 2 0) (uF (uF F 52 0 s) 52 1 (-1) 2 1) := ⟨_, rfl⟩
  obtain ⟨A1, eA1⟩ : ∃ A1, A1 = pcA A 55 (cpI (A (2 + 1)) (A (55 + 1)) 12) (cpI (A (2 + 2)) (A (55 + 2)) 12) (cpI (A (2 + 3)) (A (55 + 3)) 12) := ⟨_, rfl⟩
  rw [← eF1, ← eA1] at hCp
  have f55 : F1 55 0 = n := by
    rw [eF1]
    unfold plF
    rw [uF_ne (by decide), uF_eq, uF_ne (by decide), uF_ne (by decide)]
    exact en
  have K0 : ∀ R : Int → Int, (∀ j : Int, 0 ≤ j → j < 8 → R j = 0) → rnK F A F1 (sA A1 54 R) n s (-1, []) (List.replicate n 0) := fun R q => by
    refine rnK.mk (fun o k p q r => ?_) (fun o p => ?_) ?_ ?_ ?_ (fun p => absurd rfl p) (by show -1 ≤ (-1 : Int) ∧ (-1 : Int) < 400000; omega) f55 ?_ ?_ ?_ ?_
    · rw [eF1]
      unfold plF
      rw [uF_ne (by omega), uF_ne (by omega), uF_ne (by omega), uF_ne (by omega)]
    · rw [sA_ne (by omega), eA1]
      unfold pcA
      rw [sA_ne (by omega), sA_ne (by omega), sA_ne (by omega)]
    · rw [sA_ne (by decide), sA_ne (by decide), eA1]
      unfold pcA
      rw [sA_ne (by decide), sA_ne (by decide), sA_ne (by decide), sA_ne (by decide), sA_ne (by decide), sA_ne (by decide)]
      exact h.b2
    · rw [eF1]
      unfold plF
      rw [uF_ne (by decide), uF_ne (by decide), uF_ne (by decide), uF_eq]
    · rw [eF1]
      unfold plF
      rw [uF_ne (by decide), uF_ne (by decide), uF_eq]
    · rw [eF1]
      unfold plF
      rw [uF_eq, uF_ne (by decide), uF_ne (by decide)]
    · rw [sA_ne (by decide), eA1]
      unfold pcA
      rw [sA_ne (by decide), show (57 : Nat) = 55 + 2 from rfl, sA_eq]
      exact cpI_o
    · rw [sA_eq]
      exact lS_rep n 0 (fun j a b => q j a (by omega))
    · rw [sA_eq]
      intro j a b
      rw [q j a (by omega)]
      omega
  have Z : ∀ (r : Nat) (i : Int) (R : Int → Int), i + r = 8 → 0 ≤ i → (∀ j : Int, 0 ≤ j → j < i → R j = 0) → V G mX5_run Q 0 0 38 [some (.ref 52), some (.ref 1), some (.ref 47), some (vi (F 0 11)), some (vi s), some (vi i), none] [] (sw F1 (sA A1 54 R)) := by
    intro r
    induction r with
    | zero =>
      intro i R e1 e2 q
      refine L_iload eX5_run_38 rfl ?_
      refine L_bipush eX5_run_40 rfl ?_
      -- at 42: .if_icmp .ge 17
      refine V_icmpge eX5_run_42 (fun h2 => ?_) (fun h2 => ?_)
      · refine V_iconst eX5_run_59 ?_
        refine L_istore eX5_run_60 (s_5 rfl rfl) ?_
        refine V_iconst eX5_run_62 ?_
        refine L_istore eX5_run_63 (s_6 rfl rfl) ?_
        refine LOOP 495 0 F1 (sA A1 54 R) (-1, []) (List.replicate n 0) (by omega) (by omega) (K0 R (fun j a b => q j a (by omega))) ?_
        unfold loS
        rw [en, Int.toNat_natCast]
      · omega
    | succ r ih =>
      intro i R e1 e2 q
      refine L_iload eX5_run_38 rfl ?_
      refine L_bipush eX5_run_40 rfl ?_
      -- at 42: .if_icmp .ge 17
      refine V_icmpge eX5_run_42 (fun h2 => ?_) (fun h2 => ?_)
      · omega
      · refine L_aload_n eX5_run_45 rfl ?_
        refine L_getR (r := 54) eX5_run_46 f_X5_22.g rfl rfl (by decide) ?_
        refine L_iload eX5_run_49 rfl ?_
        refine V_iconst eX5_run_51 ?_
        refine L_iast eX5_run_52 rfl ?_
        refine L_iinc eX5_run_53 rfl (s_5 rfl rfl) ?_
        refine V_goto eX5_run_56 ?_
        rw [sA_sA, sA_eq]
        refine ih _ _ (by omega) (by omega) (fun j a b => ?_)
        simp only [uI]
        by_cases c : j = i
        · rw [if_pos c]
        · rw [if_neg c]
          exact q j a (by omega)
  refine L_aload_n eX5_run_0 rfl ?_
  refine L_iload eX5_run_1 rfl ?_
  refine L_put eX5_run_3 f_X5_9 rfl rfl ?_
  refine L_aload_n eX5_run_6 rfl ?_
  refine V_iconst eX5_run_7 ?_
  refine L_put eX5_run_8 f_X5_15 rfl rfl ?_
  refine L_aload_n eX5_run_11 rfl ?_
  refine L_getR (r := 55) eX5_run_12 f_X5_28.g rfl rfl (by decide) ?_
  refine L_aload_n eX5_run_15 rfl ?_
  refine L_getR (r := 2) eX5_run_16 f_X5_32 rfl rfl (by decide) ?_
  refine C_v0 (hCp G) v_X5_35 eX5_run_19 rfl rfl ?_
  refine L_aload_n eX5_run_22 rfl ?_
  refine L_getR (r := 55) eX5_run_23 f_X5_28.g rfl rfl (by decide) ?_
  refine L_get eX5_run_26 f_X5_39.g rfl rfl ?_
  refine L_bipush eX5_run_29 rfl ?_
  -- at 31: .if_icmp .le 4
  refine V_icmple eX5_run_31 (fun h2 => ?_) (fun h2 => ?_)
  · refine V_iconst eX5_run_35 ?_
    refine L_istore eX5_run_36 (s_5 rfl rfl) ?_
    have := Z 8 0 (A1 54) (by omega) (by omega) (fun j a b => by omega)
    rw [sA_self] at this
    exact this
  · omega
end P89

