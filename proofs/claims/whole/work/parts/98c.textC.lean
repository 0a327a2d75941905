/-! THE TEXT: words, signs, numbers; the class's side -/
def fr28 (F F1 : fT) : Prop := ∀ o k, (o ≠ 28 ∨ k < 2 ∨ 5 < k) → F1 o k = F o k
theorem fr28.tr {F F1 F2 : fT} (h : fr28 F F1) (h2 : fr28 F1 F2) : fr28 F F2 := fun o k e => (h2 o k e).trans (h o k e)
/-- a NUMBER whose figures begin at f, told from q on: its FAULT (0: none) and where, its value, the place behind it -/
def nmG (T : Int → Int) (n lo hi q f w : Int) : Int × Int × Int × Int := if drn T n f = f then (1, f, 0, 0) else if 3 < drn T n f - f ∨ w < lo ∨ hi < w then (2, q, 0, 0) else (0, 0, w, drn T n f)
def nmV (T : Int → Int) (n q f : Int) : Int := if f = q then dvl T f (drn T n f - f).toNat else -dvl T f (drn T n f - f).toNat
def nmF (T : Int → Int) (n : Int) (sg : Bool) (q : Int) : Int := if sg = true ∧ chA T n q = 45 then q + 1 else q
def nmR (T : Int → Int) (n : Int) (sg : Bool) (lo hi a : Int) : Int × Int × Int × Int := nmG T n lo hi (skp T n a) (nmF T n sg (skp T n a)) (nmV T n (skp T n a) (nmF T n sg (skp T n a)))
section P98c
variable {F : fT} {A : nT} {n a : Int} {j : Nat}
theorem skp_b (hT : txT n (A 29)) (hab : 0 ≤ a ∧ a ≤ n) : a ≤ skp (A 29) n a ∧ skp (A 29) n a ≤ n := rn_ge hab.2
theorem c_isWord (hT : txT n (A 29)) (hn : F 28 1 = n) (ha : F 28 2 = a) (hab : 0 ≤ a ∧ a ≤ n) (hj : j < 8) : ∀ G : gT, Mu G mX7_isWord [.ref 28, .ref (1200 + j)] F A (some (vi (@ite Int (wm (A 29) n j (skp (A 29) n a)) (Classical.propDecidable _) 1 0))) (uF F 28 2 (skp (A 29) n a)) A := by
  intro G
  have hn1 := hT.1
  have hq := skp_b hT hab
  have hl := (wd_l ⟨j, hj⟩).2
  have hl' : 2 ≤ sLn.getD j 0 ∧ sLn.getD j 0 ≤ 7 := hl
  have hw := wm_i (T := A 29) (n := n) (q := skp (A 29) n a) hj (by omega)
  have hNx := p_X7_next (G := G) (F := F) hT hn ha hab
  generalize skp (A 29) n a = q at *
  refine L_ent [some (.ref 28), some (.ref (1200 + j)), none, none] rfl ?_
  have f2 : uF F 28 2 q 28 2 = q := uF_eq
  have f1 : uF F 28 2 q 28 1 = n := by rw [uF_ne (by decide)]; exact hn
  generalize uF F 28 2 q = F1 at *
  generalize hQ : (fun (r' : Option Value) (w : wT) => r' = some (vi (@ite Int (wm (A 29) n j q) (Classical.propDecidable _) 1 0)) ∧ w = sw F1 A) = Q
  have no : ¬ wm (A 29) n j q → Q (some (vi 0)) (sw F1 A) := fun x => by
    rw [← hQ, if_neg x]
    exact ⟨rfl, rfl⟩
  have yes : wm (A 29) n j q → Q (some (vi 1)) (sw F1 A) := fun x => by
    rw [← hQ, if_pos x]
    exact ⟨rfl, rfl⟩
  refine L_aload_n eX7_isWord_0 rfl ?_
  refine C_v1 hNx v_X7_33 eX7_isWord_1 rfl rfl ?_
  refine L_pop eX7_isWord_4 ?_
  refine L_aload_n eX7_isWord_5 rfl ?_
  refine L_get eX7_isWord_6 f_X7_19.g rfl rfl ?_
  rw [f2]
  refine L_aload_n eX7_isWord_9 rfl ?_
  refine C_t1 hj (p_J0_length hj) v_X7_49 eX7_isWord_10 rfl ?_
  refine V_iadd eX7_isWord_13 ?_
  generalize he : q + (sLn.getD j 0 : Int) = e at *
  have LOOP : e ≤ n → ¬ (e < n ∧ isLt (A 29 e) = true) → ∀ (r : Nat) (k : Int), k + r = sLn.getD j 0 → 0 ≤ k → (∀ i : Int, 0 ≤ i → i < k → A 29 (q + i) = wdC j i) → V G mX7_isWord Q 0 0 47 [some (.ref 28), some (.ref (1200 + j)), some (vi e), some (vi k)] [] (sw F1 A) := by
    intro g1 g2 r
    induction r with
    | zero =>
      intro k e1 e2 e3
      refine L_iload_n eX7_isWord_47 rfl ?_
      refine L_aload_n eX7_isWord_48 rfl ?_
      refine C_t1 hj (p_J0_length hj) v_X7_49 eX7_isWord_49 rfl ?_
      -- at 52: .if_icmp .ge 30
      refine V_icmpge eX7_isWord_52 (fun h2 => ?_) (fun h2 => ?_)
      · refine V_iconst eX7_isWord_82 ?_
        -- at 83: .ireturn
        exact V_zreturn (by first | exact nar_z (by omega) | rfl) eX7_isWord_83 (yes (hw.mpr ⟨g1, g2, fun i x y => e3 i x (by omega)⟩))
      · omega
    | succ r ih =>
      intro k e1 e2 e3
      have hb := hT.2 (q + k) (by omega) (by omega)
      have hc := (wdC_b hj (k := k) (by omega)).2.2
      refine L_iload_n eX7_isWord_47 rfl ?_
      refine L_aload_n eX7_isWord_48 rfl ?_
      refine C_t1 hj (p_J0_length hj) v_X7_49 eX7_isWord_49 rfl ?_
      -- at 52: .if_icmp .ge 30
      refine V_icmpge eX7_isWord_52 (fun h2 => ?_) (fun h2 => ?_)
      · omega
      · refine L_aload_n eX7_isWord_55 rfl ?_
        refine L_getR (r := 29) eX7_isWord_56 f_X7_9.g rfl rfl (by decide) ?_
        refine L_aload_n eX7_isWord_59 rfl ?_
        refine L_get eX7_isWord_60 f_X7_19.g rfl rfl ?_
        rw [f2]
        refine L_iload_n eX7_isWord_63 rfl ?_
        refine V_iadd eX7_isWord_64 ?_
        refine L_iald eX7_isWord_65 rfl ?_
        refine L_aload_n eX7_isWord_66 rfl ?_
        refine L_iload_n eX7_isWord_67 rfl ?_
        refine C_t1 hj (p_J0_charAt hj (by omega)) v_X7_58 eX7_isWord_68 rfl ?_
        refine V_icmpeq eX7_isWord_71 (fun h3 => ?_) (fun h3 => ?_)
        · refine L_iinc eX7_isWord_76 rfl (s_3 rfl rfl) ?_
          refine V_goto eX7_isWord_79 ?_
          refine ih _ (by omega) (by omega) (fun i x y => ?_)
          by_cases f : i = k
          · rw [f]; exact h3
          · exact e3 i x (by omega)
        · refine V_iconst eX7_isWord_74 ?_
          -- at 75: .ireturn
          exact V_zreturn (by first | exact nar_z (by omega) | rfl) eX7_isWord_75 (no (fun w => h3 ((hw.mp w).2.2 k e2 (by omega))))
  refine L_istore_n eX7_isWord_14 (s_2 rfl rfl) ?_
  refine L_iload_n eX7_isWord_15 rfl ?_
  refine L_aload_n eX7_isWord_16 rfl ?_
  refine L_get eX7_isWord_17 f_X7_15.g rfl rfl ?_
  -- at 20: .if_icmp .gt 23
  refine V_icmpgt eX7_isWord_20 (fun h2 => ?_) (fun h2 => ?_)
  · refine V_iconst eX7_isWord_43 ?_
    -- at 44: .ireturn
    exact V_zreturn (by first | exact nar_z (by omega) | rfl) eX7_isWord_44 (no (fun w => by have := (hw.mp w).1; omega))
  · refine L_iload_n eX7_isWord_23 rfl ?_
    refine L_aload_n eX7_isWord_24 rfl ?_
    refine L_get eX7_isWord_25 f_X7_15.g rfl rfl ?_
    -- at 28: .if_icmp .ge 17
    refine V_icmpge eX7_isWord_28 (fun h3 => ?_) (fun h3 => ?_)
    · refine V_iconst eX7_isWord_45 ?_
      refine L_istore_n eX7_isWord_46 (s_3 rfl rfl) ?_
      exact LOOP (by omega) (fun w => by omega) (sLn.getD j 0) 0 (by omega) (by omega) (fun i x y => by omega)
    · have hb := hT.2 e (by omega) (by omega)
      refine L_aload_n eX7_isWord_31 rfl ?_
      refine L_getR (r := 29) eX7_isWord_32 f_X7_9.g rfl rfl (by decide) ?_
      refine L_iload_n eX7_isWord_35 rfl ?_
      refine L_iald eX7_isWord_36 rfl ?_
      refine C_s1 (p_X7_isLetter hb) v_X7_54 eX7_isWord_37 rfl ?_
      refine V_ifeqB eX7_isWord_40 (fun h4 => ?_) (fun h4 => ?_)
      · refine V_iconst eX7_isWord_45 ?_
        refine L_istore_n eX7_isWord_46 (s_3 rfl rfl) ?_
        exact LOOP (by omega) (fun w => h4 w.2) (sLn.getD j 0) 0 (by omega) (by omega) (fun i x y => by omega)
      · refine V_iconst eX7_isWord_43 ?_
        -- at 44: .ireturn
        exact V_zreturn (by first | exact nar_z (by omega) | rfl) eX7_isWord_44 (no (fun w => (hw.mp w).2.1 ⟨by omega, h4⟩))
theorem c_takesWord (hT : txT n (A 29)) (hn : F 28 1 = n) (ha : F 28 2 = a) (hab : 0 ≤ a ∧ a ≤ n) (hj : j < 8) : (wm (A 29) n j (skp (A 29) n a) → ∀ G : gT, Mu G mX7_takesWord [.ref 28, .ref (1200 + j)] F A (some (vi 1)) (uF F 28 2 (skp (A 29) n a + sLn.getD j 0)) A) ∧ (¬ wm (A 29) n j (skp (A 29) n a) → ∀ G : gT, Mu G mX7_takesWord [.ref 28, .ref (1200 + j)] F A (some (vi 0)) (uF F 28 2 (skp (A 29) n a)) A) := by
  have hn1 := hT.1
  have hW := c_isWord hT hn ha hab hj
  have hl' : 2 ≤ sLn.getD j 0 ∧ sLn.getD j 0 ≤ 7 := (wd_l ⟨j, hj⟩).2
  refine ⟨fun w G => ?_, fun w G => ?_⟩
  · refine L_ent [some (.ref 28), some (.ref (1200 + j))] rfl ?_
    refine L_aload_n eX7_takesWord_0 rfl ?_
    refine L_aload_n eX7_takesWord_1 rfl ?_
    refine C_v1 (hW G) v_X7_62 eX7_takesWord_2 rfl rfl ?_
    refine V_ifneB eX7_takesWord_5 (fun h2 => ?_) (fun h2 => ?_)
    · refine L_aload_n eX7_takesWord_10 rfl ?_
      refine L_dup eX7_takesWord_11 ?_
      refine L_get eX7_takesWord_12 f_X7_19.g rfl rfl ?_
      refine L_aload_n eX7_takesWord_15 rfl ?_
      refine C_t1 hj (p_J0_length hj) v_X7_49 eX7_takesWord_16 rfl ?_
      refine V_iadd eX7_takesWord_19 ?_
      refine L_put eX7_takesWord_20 f_X7_19 rfl rfl ?_
      rw [uF_eq, uF_uF]
      refine V_iconst eX7_takesWord_23 ?_
      -- at 24: .ireturn
      exact V_zreturn (by first | exact nar_z (by omega) | rfl) eX7_takesWord_24 ⟨rfl, rfl⟩
    · exact absurd w h2
  · refine L_ent [some (.ref 28), some (.ref (1200 + j))] rfl ?_
    refine L_aload_n eX7_takesWord_0 rfl ?_
    refine L_aload_n eX7_takesWord_1 rfl ?_
    refine C_v1 (hW G) v_X7_62 eX7_takesWord_2 rfl rfl ?_
    refine V_ifneB eX7_takesWord_5 (fun h2 => ?_) (fun h2 => ?_)
    · exact absurd h2 w
    · refine V_iconst eX7_takesWord_8 ?_
      -- at 9: .ireturn
      exact V_zreturn (by first | exact nar_z (by omega) | rfl) eX7_takesWord_9 ⟨rfl, rfl⟩
theorem c_needWord_f (hb : 0 ≤ F 28 4 ∧ F 28 4 ≤ 9) (hf : F 28 4 ≠ 0) : ∀ G : gT, Mu G mX7_needWord [.ref 28, .ref (1200 + j)] F A none F A := by
  intro G
  refine L_ent [some (.ref 28), some (.ref (1200 + j))] rfl ?_
  refine L_aload_n eX7_needWord_0 rfl ?_
  refine C_v1 (p_X7_isFine hb) v_X7_37 eX7_needWord_1 rfl rfl ?_
  refine V_ifneB eX7_needWord_4 (fun h2 => ?_) (fun h2 => ?_)
  · exact absurd h2 hf
  · exact V_return eX7_needWord_7 ⟨rfl, rfl⟩
theorem c_needWord (hT : txT n (A 29)) (hn : F 28 1 = n) (ha : F 28 2 = a) (hab : 0 ≤ a ∧ a ≤ n) (hj : j < 8) (hf : F 28 4 = 0) : (wm (A 29) n j (skp (A 29) n a) → ∀ G : gT, Mu G mX7_needWord [.ref 28, .ref (1200 + j)] F A none (uF F 28 2 (skp (A 29) n a + sLn.getD j 0)) A) ∧ (¬ wm (A 29) n j (skp (A 29) n a) → ∀ G : gT, Mu G mX7_needWord [.ref 28, .ref (1200 + j)] F A none (uF (uF (uF F 28 2 (skp (A 29) n a)) 28 4 1) 28 5 (skp (A 29) n a)) A) := by
  have hn1 := hT.1
  have hW := c_isWord hT hn ha hab hj
  have hl' : 2 ≤ sLn.getD j 0 ∧ sLn.getD j 0 ≤ 7 := (wd_l ⟨j, hj⟩).2
  refine ⟨fun w G => ?_, fun w G => ?_⟩
  · refine L_ent [some (.ref 28), some (.ref (1200 + j))] rfl ?_
    refine L_aload_n eX7_needWord_0 rfl ?_
    refine C_v1 (p_X7_isFine (by omega)) v_X7_37 eX7_needWord_1 rfl rfl ?_
    refine V_ifneB eX7_needWord_4 (fun h2 => ?_) (fun h2 => ?_)
    · refine L_aload_n eX7_needWord_8 rfl ?_
      refine L_aload_n eX7_needWord_9 rfl ?_
      refine C_v1 (hW G) v_X7_62 eX7_needWord_10 rfl rfl ?_
      refine V_ifeqB eX7_needWord_13 (fun h3 => ?_) (fun h3 => ?_)
      · exact absurd w h3
      · refine L_aload_n eX7_needWord_16 rfl ?_
        refine L_dup eX7_needWord_17 ?_
        refine L_get eX7_needWord_18 f_X7_19.g rfl rfl ?_
        refine L_aload_n eX7_needWord_21 rfl ?_
        refine C_t1 hj (p_J0_length hj) v_X7_49 eX7_needWord_22 rfl ?_
        refine V_iadd eX7_needWord_25 ?_
        refine L_put eX7_needWord_26 f_X7_19 rfl rfl ?_
        rw [uF_eq, uF_uF]
        refine V_goto eX7_needWord_29 ?_
        exact V_return eX7_needWord_41 ⟨rfl, rfl⟩
    · exact absurd hf h2
  · refine L_ent [some (.ref 28), some (.ref (1200 + j))] rfl ?_
    refine L_aload_n eX7_needWord_0 rfl ?_
    refine C_v1 (p_X7_isFine (by omega)) v_X7_37 eX7_needWord_1 rfl rfl ?_
    refine V_ifneB eX7_needWord_4 (fun h2 => ?_) (fun h2 => ?_)
    · refine L_aload_n eX7_needWord_8 rfl ?_
      refine L_aload_n eX7_needWord_9 rfl ?_
      refine C_v1 (hW G) v_X7_62 eX7_needWord_10 rfl rfl ?_
      refine V_ifeqB eX7_needWord_13 (fun h3 => ?_) (fun h3 => ?_)
      · refine L_aload_n eX7_needWord_32 rfl ?_
        refine V_iconst eX7_needWord_33 ?_
        refine L_aload_n eX7_needWord_34 rfl ?_
        refine L_get eX7_needWord_35 f_X7_19.g rfl rfl ?_
        rw [uF_eq]
        refine C_v0 (p_X7_blame (by rw [uF_ne (by decide)]; exact hf)) v_X7_45 eX7_needWord_38 rfl rfl ?_
        exact V_return eX7_needWord_41 ⟨rfl, rfl⟩
      · exact absurd h3 w
    · exact absurd hf h2
theorem c_takesSign {s : Int} (hs : 1 ≤ s ∧ s ≤ 255) (hT : txT n (A 29)) (hn : F 28 1 = n) (ha : F 28 2 = a) (hab : 0 ≤ a ∧ a ≤ n) : (chA (A 29) n (skp (A 29) n a) = s → ∀ G : gT, Mu G mX7_takesSign [.ref 28, vi s] F A (some (vi 1)) (uF F 28 2 (skp (A 29) n a + 1)) A) ∧ (chA (A 29) n (skp (A 29) n a) ≠ s → ∀ G : gT, Mu G mX7_takesSign [.ref 28, vi s] F A (some (vi 0)) (uF F 28 2 (skp (A 29) n a)) A) := by
  have hq := skp_b hT hab
  have hNx := fun (G : gT) => p_X7_next (G := G) (F := F) hT hn ha hab
  have hcb : -1 ≤ chA (A 29) n (skp (A 29) n a) ∧ chA (A 29) n (skp (A 29) n a) ≤ 255 := by
    unfold chA
    by_cases c : skp (A 29) n a < n
    · rw [if_pos c]
      have := hT.2 (skp (A 29) n a) (by omega) c
      omega
    · rw [if_neg c]; omega
  refine ⟨fun w G => ?_, fun w G => ?_⟩
  · refine L_ent [some (.ref 28), some (vi s)] rfl ?_
    refine L_aload_n eX7_takesSign_0 rfl ?_
    refine C_v1 (hNx G) v_X7_33 eX7_takesSign_1 rfl rfl ?_
    refine L_iload_n eX7_takesSign_4 rfl ?_
    -- at 5: .if_icmp .eq 5
    refine V_icmpeq eX7_takesSign_5 (fun h2 => ?_) (fun h2 => ?_)
    · refine L_aload_n eX7_takesSign_10 rfl ?_
      refine L_dup eX7_takesSign_11 ?_
      refine L_get eX7_takesSign_12 f_X7_19.g rfl rfl ?_
      refine V_iconst eX7_takesSign_15 ?_
      refine V_iadd eX7_takesSign_16 ?_
      refine L_put eX7_takesSign_17 f_X7_19 rfl rfl ?_
      rw [uF_eq, uF_uF]
      refine V_iconst eX7_takesSign_20 ?_
      -- at 21: .ireturn
      exact V_zreturn (by first | exact nar_z (by omega) | rfl) eX7_takesSign_21 ⟨rfl, rfl⟩
    · exact absurd w h2
  · refine L_ent [some (.ref 28), some (vi s)] rfl ?_
    refine L_aload_n eX7_takesSign_0 rfl ?_
    refine C_v1 (hNx G) v_X7_33 eX7_takesSign_1 rfl rfl ?_
    refine L_iload_n eX7_takesSign_4 rfl ?_
    -- at 5: .if_icmp .eq 5
    refine V_icmpeq eX7_takesSign_5 (fun h2 => ?_) (fun h2 => ?_)
    · exact absurd h2 w
    · refine V_iconst eX7_takesSign_8 ?_
      -- at 9: .ireturn
      exact V_zreturn (by first | exact nar_z (by omega) | rfl) eX7_takesSign_9 ⟨rfl, rfl⟩
theorem c_needSign_f {s : Int} (hb : 0 ≤ F 28 4 ∧ F 28 4 ≤ 9) (hf : F 28 4 ≠ 0) : ∀ G : gT, Mu G mX7_needSign [.ref 28, vi s] F A none F A := by
  intro G
  refine L_ent [some (.ref 28), some (vi s)] rfl ?_
  refine L_aload_n eX7_needSign_0 rfl ?_
  refine C_v1 (p_X7_isFine hb) v_X7_37 eX7_needSign_1 rfl rfl ?_
  refine V_ifeqB eX7_needSign_4 (fun h2 => ?_) (fun h2 => ?_)
  · exact V_return eX7_needSign_24 ⟨rfl, rfl⟩
  · exact absurd h2 hf
theorem c_needSign {s : Int} (hs : 1 ≤ s ∧ s ≤ 255) (hT : txT n (A 29)) (hn : F 28 1 = n) (ha : F 28 2 = a) (hab : 0 ≤ a ∧ a ≤ n) (hf : F 28 4 = 0) : (chA (A 29) n (skp (A 29) n a) = s → ∀ G : gT, Mu G mX7_needSign [.ref 28, vi s] F A none (uF F 28 2 (skp (A 29) n a + 1)) A) ∧ (chA (A 29) n (skp (A 29) n a) ≠ s → ∀ G : gT, Mu G mX7_needSign [.ref 28, vi s] F A none (uF (uF (uF F 28 2 (skp (A 29) n a)) 28 4 1) 28 5 (skp (A 29) n a)) A) := by
  have hS := c_takesSign hs hT hn ha hab
  refine ⟨fun w G => ?_, fun w G => ?_⟩
  · refine L_ent [some (.ref 28), some (vi s)] rfl ?_
    refine L_aload_n eX7_needSign_0 rfl ?_
    refine C_v1 (p_X7_isFine (by omega)) v_X7_37 eX7_needSign_1 rfl rfl ?_
    refine V_ifeqB eX7_needSign_4 (fun h2 => ?_) (fun h2 => ?_)
    · exact absurd hf h2
    · refine L_aload_n eX7_needSign_7 rfl ?_
      refine L_iload_n eX7_needSign_8 rfl ?_
      refine C_v1 (hS.1 w G) v_X7_41 eX7_needSign_9 rfl rfl ?_
      refine V_ifne eX7_needSign_12 (fun h3 => ?_) (fun h3 => ?_)
      · exact V_return eX7_needSign_24 ⟨rfl, rfl⟩
      · omega
  · refine L_ent [some (.ref 28), some (vi s)] rfl ?_
    refine L_aload_n eX7_needSign_0 rfl ?_
    refine C_v1 (p_X7_isFine (by omega)) v_X7_37 eX7_needSign_1 rfl rfl ?_
    refine V_ifeqB eX7_needSign_4 (fun h2 => ?_) (fun h2 => ?_)
    · exact absurd hf h2
    · refine L_aload_n eX7_needSign_7 rfl ?_
      refine L_iload_n eX7_needSign_8 rfl ?_
      refine C_v1 (hS.2 w G) v_X7_41 eX7_needSign_9 rfl rfl ?_
      refine V_ifne eX7_needSign_12 (fun h3 => ?_) (fun h3 => ?_)
      · omega
      · refine L_aload_n eX7_needSign_15 rfl ?_
        refine V_iconst eX7_needSign_16 ?_
        refine L_aload_n eX7_needSign_17 rfl ?_
        refine L_get eX7_needSign_18 f_X7_19.g rfl rfl ?_
        rw [uF_eq]
        refine C_v0 (p_X7_blame (by rw [uF_ne (by decide)]; exact hf)) v_X7_45 eX7_needSign_21 rfl rfl ?_
        exact V_return eX7_needSign_24 ⟨rfl, rfl⟩
end P98c

