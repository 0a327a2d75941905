/-! WAYS told in a text: the whole reading, in the class -/
noncomputable def wyF (F1 : fT) (A1 : nT) (n : Int) (o : oT (List opT)) : Prop := match o with
  | .inl e => F1 28 4 = e.1 ∧ F1 28 5 = e.2 ∧ 1 ≤ e.1 ∧ e.1 ≤ 9
  | .inr O => (60 < tsm (O.foldl smS ([], [])).1 → F1 28 4 = 4 ∧ F1 28 5 = n) ∧ (¬ 60 < tsm (O.foldl smS ([], [])).1 → F1 28 4 = 0 ∧ F1 28 5 = -1 ∧ wyK F1 A1 (O.foldl smS ([], [])).1 [])
section P99i
variable {F : fT} {A : nT} {n : Int}
theorem wr82 {G : gT} {Q : Option Value → wT → Prop} {x2 : Option Value} (hb : 1 ≤ F 28 4 ∧ F 28 4 ≤ 9) (hw : -100000000 ≤ F 35 4 ∧ F 35 4 ≤ 100000000) (hq : Q none (sw F A)) : V G mX9_read Q 0 0 82 [some (.ref 35), some (.ref 28), x2] [] (sw F A) := by
  refine L_aload_n eX9_read_82 rfl ?_
  refine L_get eX9_read_83 f_X9_25.g rfl rfl ?_
  refine L_bipush eX9_read_86 rfl ?_
  -- at 88: .if_icmp .le 12
  refine V_icmple eX9_read_88 (fun h2 => ?_) (fun h2 => ?_)
  · exact V_return eX9_read_100 hq
  · refine L_aload_n eX9_read_91 rfl ?_
    refine V_iconst eX9_read_92 ?_
    refine L_aload_n eX9_read_93 rfl ?_
    refine L_get eX9_read_94 f_X9_61.g rfl rfl ?_
    refine C_v0 (p_X7_blame_no (by omega) (by omega)) v_X9_64 eX9_read_97 rfl rfl ?_
    exact V_return eX9_read_100 hq
theorem wr59 {G : gT} {Q : Option Value → wT → Prop} {x2 : Option Value} (hb : 1 ≤ F 28 4 ∧ F 28 4 ≤ 9) (hw : wfK F) (hq : Q none (sw F A)) : V G mX9_read Q 0 0 59 [some (.ref 35), some (.ref 28), x2] [] (sw F A) := by
  obtain ⟨w3, w4, w8, w9⟩ := hw
  have t82 : V G mX9_read Q 0 0 82 [some (.ref 35), some (.ref 28), x2] [] (sw F A) := wr82 hb w4 hq
  have t73 : V G mX9_read Q 0 0 73 [some (.ref 35), some (.ref 28), x2] [] (sw F A) := by
    refine L_aload_n eX9_read_73 rfl ?_
    refine V_iconst eX9_read_74 ?_
    refine L_aload_n eX9_read_75 rfl ?_
    refine L_get eX9_read_76 f_X9_61.g rfl rfl ?_
    refine C_v0 (p_X7_blame_no (by omega) (by omega)) v_X9_64 eX9_read_79 rfl rfl ?_
    exact t82
  refine L_aload_n eX9_read_59 rfl ?_
  refine L_get eX9_read_60 f_X9_37.g rfl rfl ?_
  -- at 63: .ifCond .gt 10
  refine V_ifgt eX9_read_63 (fun h2 => ?_) (fun h2 => ?_)
  · exact t73
  · refine L_aload_n eX9_read_66 rfl ?_
    refine L_get eX9_read_67 f_X9_40.g rfl rfl ?_
    -- at 70: .ifCond .ne 12
    refine V_ifne eX9_read_70 (fun h3 => ?_) (fun h3 => ?_)
    · exact t82
    · exact t73
theorem c_readW {G : gT} (hT : txT n (A 29)) (hn : F 28 1 = n) : Meets G mX9_read [.ref 35, .ref 28] (sw F A) (fun r w => ∃ F1 A1, r = none ∧ w = sw F1 A1 ∧ frV F F1 A A1 ∧ wyF F1 A1 n (wyO (A 29) n 161 0 true [] 0)) := by
  have hn1 := hT.1
  refine L_ent [some (.ref 35), some (.ref 28), none] rfl ?_
  generalize hQ : (fun (r : Option Value) (w : wT) => ∃ F1 A1, r = none ∧ w = sw F1 A1 ∧ frV F F1 A A1 ∧ wyF F1 A1 n (wyO (A 29) n 161 0 true [] 0)) = Q
  generalize hW : wyO (A 29) n 161 0 true [] 0 = W at hQ
  have qbad : ∀ (F1 : fT) (A1 : nT) (k p : Int), frV F F1 A A1 → F1 28 4 = k → F1 28 5 = p → (1 ≤ k ∧ k ≤ 9) → W = .inl (k, p) → Q none (sw F1 A1) := fun F1 A1 k p f e1 e2 e3 e4 => by
    rw [← hQ]
    refine ⟨F1, A1, rfl, rfl, f, ?_⟩
    rw [e4]
    exact ⟨e1, e2, e3⟩
  have fgood : ∀ (F1 : fT) (A1 : nT) (O : List opT) (c : lwT) (st : skT) (needs : Bool) (x2 : Option Value), frV F F1 A A1 → wyK F1 A1 (pz st c) st → F1 28 4 = 0 → F1 28 5 = -1 → F1 35 9 = (if needs = true then 0 else 1) → O.foldl smS ([], []) = (c, st) → (0 ≤ tsm (pz st c) ∧ tsm (pz st c) ≤ 10000000) → (W = if 0 < st.length ∨ needs = true then .inl (1, n) else .inr O) → V G mX9_read Q 0 0 59 [some (.ref 35), some (.ref 28), x2] [] (sw F1 A1) := by
    intro F1 A1 O c st needs x2 f K k4 k5 k9 eO ht eW
    have h3 := K.n
    have h4 := K.t
    have h8 := K.d
    have hdl := K.dl
    have h9 : F1 35 9 = 0 ∨ F1 35 9 = 1 := by
      cases needs
      · exact Or.inr k9
      · exact Or.inl k9
    have h1 : F1 28 1 = n := by rw [f.1 28 1 (by decide) (by decide)]; exact hn
    have t73 : (0 < st.length ∨ needs = true) → V G mX9_read Q 0 0 73 [some (.ref 35), some (.ref 28), x2] [] (sw F1 A1) := fun cc => by
      rw [if_pos cc] at eW
      refine L_aload_n eX9_read_73 rfl ?_
      refine V_iconst eX9_read_74 ?_
      refine L_aload_n eX9_read_75 rfl ?_
      refine L_get eX9_read_76 f_X9_61.g rfl rfl ?_
      rw [h1]
      refine C_v0 (p_X7_blame k4) v_X9_64 eX9_read_79 rfl rfl ?_
      have g4 : uF (uF F1 28 4 1) 28 5 n 28 4 = 1 := by rw [uF_ne (by decide), uF_eq]
      refine wr82 (by omega) (by rw [uF_ne (by decide), uF_ne (by decide)]; omega) ?_
      exact qbad _ A1 1 n (f.tr ⟨fun o k x y => by rw [uF_ne (by omega), uF_ne (by omega)], fun _ _ => rfl⟩) g4 uF_eq (by omega) eW
    refine L_aload_n eX9_read_59 rfl ?_
    refine L_get eX9_read_60 f_X9_37.g rfl rfl ?_
    -- at 63: .ifCond .gt 10
    refine V_ifgt eX9_read_63 (fun h2 => ?_) (fun h2 => ?_)
    · exact t73 (Or.inl (by omega))
    refine L_aload_n eX9_read_66 rfl ?_
    refine L_get eX9_read_67 f_X9_40.g rfl rfl ?_
    -- at 70: .ifCond .ne 12
    refine V_ifne eX9_read_70 (fun h5 => ?_) (fun h5 => ?_)
    rotate_left
    · refine t73 (Or.inr ?_)
      cases needs
      · exact absurd (k9.symm.trans h5) (by decide)
      · rfl
    have nf : needs = false := by
      cases needs
      · rfl
      · exact absurd k9 h5
    have l0 : st.length = 0 := by omega
    have s0 : st = [] := List.eq_nil_of_length_eq_zero l0
    subst s0
    rw [if_neg (by rw [nf]; simp)] at eW
    have e60 : (O.foldl smS ([], [])).1 = c := by rw [eO]
    have hpz : pz [] c = c := rfl
    rw [hpz] at h4 ht K
    refine L_aload_n eX9_read_82 rfl ?_
    refine L_get eX9_read_83 f_X9_25.g rfl rfl ?_
    refine L_bipush eX9_read_86 rfl ?_
    -- at 88: .if_icmp .le 12
    refine V_icmple eX9_read_88 (fun h6 => ?_) (fun h6 => ?_)
    · refine V_return eX9_read_100 ?_
      rw [← hQ]
      refine ⟨F1, A1, rfl, rfl, f, ?_⟩
      rw [eW]
      refine ⟨fun x => ?_, fun _ => ⟨k4, k5, ?_⟩⟩
      · rw [e60] at x
        omega
      · rw [e60]
        exact K
    · refine L_aload_n eX9_read_91 rfl ?_
      refine V_iconst eX9_read_92 ?_
      refine L_aload_n eX9_read_93 rfl ?_
      refine L_get eX9_read_94 f_X9_61.g rfl rfl ?_
      rw [h1]
      refine C_v0 (p_X7_blame k4) v_X9_64 eX9_read_97 rfl rfl ?_
      refine V_return eX9_read_100 ?_
      rw [← hQ]
      refine ⟨_, A1, rfl, rfl, f.tr ⟨fun o k x y => by rw [uF_ne (by omega), uF_ne (by omega)], fun _ _ => rfl⟩, ?_⟩
      rw [eW]
      refine ⟨fun _ => ⟨by rw [uF_ne (by decide), uF_eq], uF_eq⟩, fun x => ?_⟩
      rw [e60] at x
      omega
  have LOOP : ∀ (r : Nat) (i : Int) (F1 : fT) (A1 : nT) (O : List opT) (c : lwT) (st : skT) (needs : Bool) (a : Int), i + r = 160 → 0 ≤ i → i ≤ a → a ≤ n → frV F F1 A A1 → wyK F1 A1 (pz st c) st → F1 28 2 = a → F1 28 4 = 0 → F1 28 5 = -1 → F1 35 9 = (if needs = true then 0 else 1) → O.foldl smS ([], []) = (c, st) → nnE st → 0 ≤ tsm c → pu st (tsm c) ≤ 21870 * i → W = wyO (A 29) n (r + 1) st.length needs O a → V G mX9_read Q 0 0 26 [some (.ref 35), some (.ref 28), some (vi i)] [] (sw F1 A1) := by
    intro r
    induction r with
    | zero =>
      intro i F1 A1 O c st needs a e1 e2 e3 e4 f K k2 k4 k5 k9 eO nn tc pp eW
      have hsk : a ≤ skp (A 29) n a ∧ skp (A 29) n a ≤ n := rn_ge e4
      have tz := tsm_pz st c nn tc
      rw [wyO_e (by omega)] at eW
      refine L_iload_n eX9_read_26 rfl ?_
      refine L_sipush eX9_read_27 rfl ?_
      -- at 30: .if_icmp .ge 29
      refine V_icmpge eX9_read_30 (fun h2 => ?_) (fun h2 => ?_)
      · exact fgood F1 A1 O c st needs _ f K k4 k5 k9 eO (by omega) eW
      · omega
    | succ r ih =>
      intro i F1 A1 O c st needs a e1 e2 e3 e4 f K k2 k4 k5 k9 eO nn tc pp eW
      have e29 : A1 29 = A 29 := f.2 29 (by decide)
      have hT1 : txT n (A1 29) := by rw [e29]; exact hT
      have h1 : F1 28 1 = n := by rw [f.1 28 1 (by decide) (by decide)]; exact hn
      have hsk : a ≤ skp (A 29) n a ∧ skp (A 29) n a ≤ n := rn_ge e4
      have hss : skp (A 29) n (skp (A 29) n a) = skp (A 29) n a := rn_rn e4
      have tz := tsm_pz st c nn tc
      have hNx := p_X7_next (G := G) (F := F1) (A := A1) hT1 h1 k2 (by omega)
      rw [e29] at hNx
      have hc := chA_b (q := skp (A 29) n a) hT (by omega)
      refine L_iload_n eX9_read_26 rfl ?_
      refine L_sipush eX9_read_27 rfl ?_
      -- at 30: .if_icmp .ge 29
      refine V_icmpge eX9_read_30 (fun h2 => ?_) (fun h2 => ?_)
      · omega
      refine L_aload_n eX9_read_33 rfl ?_
      refine C_v1 (p_X7_isFine (by omega)) v_X9_49 eX9_read_34 rfl rfl ?_
      refine V_ifeqB eX9_read_37 (fun h3 => ?_) (fun h3 => ?_)
      · exact absurd k4 h3
      refine L_aload_n eX9_read_40 rfl ?_
      refine C_v1 hNx v_X9_53 eX9_read_41 rfl rfl ?_
      obtain ⟨F2, eF2⟩ : ∃ F2, F2 = uF F1 28 2 (skp (A 29) n a) := ⟨_, rfl⟩
      rw [← eF2]
      have f2 : frV F F2 A A1 := f.tr ⟨fun o k x y => by rw [eF2, uF_ne (by omega)], fun _ _ => rfl⟩
      have j2 : F2 28 2 = skp (A 29) n a := by rw [eF2, uF_eq]
      have j4 : F2 28 4 = 0 := by rw [eF2, uF_ne (by decide)]; exact k4
      have j5 : F2 28 5 = -1 := by rw [eF2, uF_ne (by decide)]; exact k5
      have j9 : F2 35 9 = (if needs = true then 0 else 1) := by rw [eF2, uF_ne (by decide)]; exact k9
      have K2 : wyK F2 A1 (pz st c) st := K.fr (by rw [eF2, uF_ne (by decide)]) (by rw [eF2, uF_ne (by decide)]) (by rw [eF2, uF_ne (by decide)]) (fun _ _ _ => rfl)
      refine V_iconst eX9_read_44 ?_
      -- at 45: .if_icmp .eq 14
      refine V_icmpeq eX9_read_45 (fun h4 => ?_) (fun h4 => ?_)
      · have hnl : ¬ skp (A 29) n a < n := fun w => by
          unfold chA at h4
          rw [if_pos w] at h4
          have := hT.2 (skp (A 29) n a) (by omega) w
          omega
        rw [wyO_e hnl] at eW
        exact fgood F2 A1 O c st needs _ f2 K2 j4 j5 j9 eO (by omega) eW
      have hlt := hc.2.2 h4
      rw [wyO_s hlt] at eW
      have hP := c_readPart (G := G) (F := F2) (A := A1) (c := c) (st := st) (q := skp (A 29) n a) (needs := needs) hT1 (by rw [f2.1 28 1 (by decide) (by decide)]; exact hn) j2 (by omega) (by rw [e29]; exact hss) j4 K2 (by omega) j9
      rw [e29] at hP
      refine L_aload_n eX9_read_48 rfl ?_
      refine L_aload_n eX9_read_49 rfl ?_
      refine C_vq hP v_X9_57 eX9_read_50 rfl rfl (fun r' w' e' => ?_)
      obtain ⟨F3, A3, er, ew, f3, pk⟩ := e'
      subst er ew
      refine L_iinc eX9_read_53 rfl (s_2 rfl rfl) ?_
      refine V_goto eX9_read_56 ?_
      cases hp : ptO (A 29) n st.length needs (skp (A 29) n a) with
      | inl e =>
        rw [hp] at pk eW
        obtain ⟨p0, p1, p2, p3⟩ := pk
        have q3 := qbad F3 A3 e.1 e.2 (f2.tr f3) p1 p2 p3 eW
        refine L_iload_n eX9_read_26 rfl ?_
        refine L_sipush eX9_read_27 rfl ?_
        -- at 30: .if_icmp .ge 29
        refine V_icmpge eX9_read_30 (fun h5 => ?_) (fun h5 => ?_)
        · exact wr59 (by omega) p0 q3
        refine L_aload_n eX9_read_33 rfl ?_
        refine C_v1 (p_X7_isFine (by omega)) v_X9_49 eX9_read_34 rfl rfl ?_
        refine V_ifeqB eX9_read_37 (fun h6 => ?_) (fun h6 => ?_)
        · exact wr59 (by omega) p0 q3
        · omega
      | inr x =>
        rw [hp] at pk eW
        have ok := pt_ok hT (by omega) K.dl hp
        obtain ⟨p1, p2, p3, p4, p5⟩ := pk
        obtain ⟨⟨s1, s2⟩, s3, s4⟩ := pu_step K.dl nn tc ok.1 ok.2.2.2.2.2
        refine ih (i + 1) F3 A3 (O ++ [x.1]) (smS (c, st) x.1).1 (smS (c, st) x.1).2 (decide (x.1.1 = 2)) x.2 (by omega) (by omega) (by omega) ok.2.2.1 (f2.tr f3) p1 p4 p2 (by rw [p3]; exact j5) ?_ ?_ s1 s2 (by omega) ?_
        · rw [p5]
          by_cases c2 : x.1.1 = 2
          · rw [if_pos c2, if_pos (by simp [c2])]
          · rw [if_neg c2, if_neg (by simp [c2])]
        · rw [List.foldl_append, eO]
          rfl
        · rw [s4]
          exact eW
  refine L_aload_n eX9_read_0 rfl ?_
  refine C_v0 p_X7_begin v_X9_44 eX9_read_1 rfl rfl ?_
  refine L_aload_n eX9_read_4 rfl ?_
  refine V_iconst eX9_read_5 ?_
  refine L_put eX9_read_6 f_X9_21 rfl rfl ?_
  refine L_aload_n eX9_read_9 rfl ?_
  refine V_iconst eX9_read_10 ?_
  refine L_put eX9_read_11 f_X9_25 rfl rfl ?_
  refine L_aload_n eX9_read_14 rfl ?_
  refine V_iconst eX9_read_15 ?_
  refine L_put eX9_read_16 f_X9_37 rfl rfl ?_
  refine L_aload_n eX9_read_19 rfl ?_
  refine V_iconst eX9_read_20 ?_
  refine L_putZ eX9_read_21 f_X9_40 rfl rfl ?_
  refine V_iconst eX9_read_24 ?_
  refine L_istore_n eX9_read_25 (s_2 rfl rfl) ?_
  refine LOOP 160 0 _ A [] [] [] true 0 (by omega) (by omega) (by omega) (by omega) ⟨fun o k x y => ?_, fun _ _ => rfl⟩ ?_ ?_ ?_ ?_ uF_eq rfl (fun e he => absurd he (by simp)) (by decide) (by decide) hW.symm
  · rw [uF_ne (by omega), uF_ne (by omega), uF_ne (by omega), uF_ne (by omega), uF_ne (by omega), uF_ne (by omega), uF_ne (by omega)]
  · refine wyK.mk ?_ ?_ ?_ (by decide) trivial (fun i x hi e => absurd e (by simp [pz]))
    · rw [uF_ne (by decide), uF_ne (by decide), uF_ne (by decide), uF_eq]; rfl
    · rw [uF_ne (by decide), uF_ne (by decide), uF_eq]; rfl
    · rw [uF_ne (by decide), uF_eq]; rfl
  · rw [uF_ne (by decide), uF_ne (by decide), uF_ne (by decide), uF_ne (by decide), uF_ne (by decide), uF_ne (by decide), uF_eq]
  · rw [uF_ne (by decide), uF_ne (by decide), uF_ne (by decide), uF_ne (by decide), uF_ne (by decide), uF_eq]
  · rw [uF_ne (by decide), uF_ne (by decide), uF_ne (by decide), uF_ne (by decide), uF_eq]
end P99i

