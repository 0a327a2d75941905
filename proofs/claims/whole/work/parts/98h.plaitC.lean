/-! PLAITS told in a text: the class's reader -/
/-- what a clause leaves -/
def clK (F : fT) (F1 : fT) (A1 : nT) (n a : Int) (o : oT (List (Int × Int) × Int)) : Prop := match o with
  | .inl e => F1 31 0 = F 31 0 ∧ F1 28 4 = e.1 ∧ F1 28 5 = e.2 ∧ 1 ≤ e.1 ∧ e.1 ≤ 9
  | .inr x => F1 28 4 = 0 ∧ F1 28 5 = F 28 5 ∧ F1 28 2 = x.2 ∧ (a < x.2 ∧ x.2 ≤ n) ∧ arL F1 A1 x.1
def frR (F F1 : fT) (A A1 : nT) : Prop := (∀ o k, (o ≠ 28 ∨ k < 2 ∨ 5 < k) → (o ≠ 31 ∨ k ≠ 0) → F1 o k = F o k) ∧ ∀ o, o < 32 ∨ 34 < o → A1 o = A o
theorem frR.of {F F1 : fT} {A : nT} (h : fr28 F F1) : frR F F1 A A := ⟨fun o k a _ => h o k a, fun _ _ => rfl⟩
theorem arL.fr {F F1 : fT} {A A1 : nT} {L : List (Int × Int)} (h : arL F A L) (e : F1 31 0 = F 31 0) (a : ∀ o, 32 ≤ o → o ≤ 34 → A1 o = A o) : arL F1 A1 L := by
  refine arL.mk (by rw [e]; exact h.n) h.le ?_ h.b
  rw [a 32 (by decide) (by decide), a 33 (by decide) (by decide), a 34 (by decide) (by decide)]
  exact h.s
section P98h
variable {F : fT} {A : nT} {L : List (Int × Int)} {n a : Int}
/-- readPieces when there is a FAULT: nothing more happens -/
theorem rp_f {G : gT} {Q : Option Value → wT → Prop} (hb : 1 ≤ F 28 4 ∧ F 28 4 ≤ 9) (hq : Q none (sw F A)) : ∀ x2 x3 x4 : Int, V G mX4_readPieces Q 0 0 112 [some (.ref 30), some (.ref 28), some (vi x2), some (vi x3), some (vi x4)] [] (sw F A) := by
  intro x2 x3 x4
  refine L_aload_n eX4_readPieces_112 rfl ?_
  refine L_bipush eX4_readPieces_113 rfl ?_
  refine C_v0 (c_needSign_f (by omega) (by omega) G) v_X4_80 eX4_readPieces_115 rfl rfl ?_
  refine L_aload_n eX4_readPieces_118 rfl ?_
  refine C_v1 (p_X7_isFine (by omega)) v_X4_34 eX4_readPieces_119 rfl rfl ?_
  refine V_ifeqB eX4_readPieces_122 (fun h2 => ?_) (fun h2 => ?_)
  · exact V_return eX4_readPieces_136 hq
  · omega
theorem rp_f85 {G : gT} {Q : Option Value → wT → Prop} (hb : 1 ≤ F 28 4 ∧ F 28 4 ≤ 9) (hq : Q none (sw F A)) : ∀ (x2 x3 : Int) (x4 : Option Value), V G mX4_readPieces Q 0 0 85 [some (.ref 30), some (.ref 28), some (vi x2), some (vi x3), x4] [] (sw F A) := by
  intro x2 x3 x4
  refine V_iconst eX4_readPieces_85 ?_
  refine L_istore eX4_readPieces_86 (s_4 rfl rfl) ?_
  refine L_aload_n eX4_readPieces_88 rfl ?_
  refine C_v1 (p_X7_isFine (by omega)) v_X4_34 eX4_readPieces_89 rfl rfl ?_
  refine V_ifeqB eX4_readPieces_92 (fun h2 => ?_) (fun h2 => ?_)
  · exact rp_f hb hq _ _ _
  · omega
theorem rp_f45 {G : gT} {Q : Option Value → wT → Prop} (hb : 1 ≤ F 28 4 ∧ F 28 4 ≤ 9) (h : arL F A L) (hq : Q none (sw F A)) : ∀ (x2 x3 : Int) (x4 : Option Value), (-1000 ≤ x3 ∧ x3 ≤ 1000) → V G mX4_readPieces Q 0 0 45 [some (.ref 30), some (.ref 28), some (vi x2), some (vi x3), x4] [] (sw F A) := by
  intro x2 x3 x4 h3
  have en := h.n
  have hle := h.le
  refine L_aload_n eX4_readPieces_45 rfl ?_
  refine L_getR (r := 31) eX4_readPieces_46 f_X4_12.g rfl rfl (by decide) ?_
  refine L_get eX4_readPieces_49 f_X4_27.g rfl rfl ?_
  -- at 52: .ifCond .le 33
  refine V_ifle eX4_readPieces_52 (fun h2 => ?_) (fun h2 => ?_)
  · exact rp_f85 hb hq _ _ _
  · have hs := h.s (L.length - 1) (by omega)
    have hbb := h.b (L.length - 1) (by omega)
    rw [show ((L.length - 1 : Nat) : Int) = F 31 0 - 1 by omega] at hs
    refine L_iload_n eX4_readPieces_55 rfl ?_
    refine L_aload_n eX4_readPieces_56 rfl ?_
    refine L_getR (r := 31) eX4_readPieces_57 f_X4_12.g rfl rfl (by decide) ?_
    refine L_getR (r := 32) eX4_readPieces_60 f_X4_89 rfl rfl (by decide) ?_
    refine L_aload_n eX4_readPieces_63 rfl ?_
    refine L_getR (r := 31) eX4_readPieces_64 f_X4_12.g rfl rfl (by decide) ?_
    refine L_get eX4_readPieces_67 f_X4_27.g rfl rfl ?_
    refine V_iconst eX4_readPieces_70 ?_
    refine V_isub eX4_readPieces_71 ?_
    refine L_iald eX4_readPieces_72 rfl ?_
    -- at 73: .if_icmp .le 12
    refine V_icmple eX4_readPieces_73 (fun h4 => ?_) (fun h4 => ?_)
    · exact rp_f85 hb hq _ _ _
    · refine L_aload_n eX4_readPieces_76 rfl ?_
      refine V_iconst eX4_readPieces_77 ?_
      refine L_aload_n eX4_readPieces_78 rfl ?_
      refine L_get eX4_readPieces_79 f_X4_84.g rfl rfl ?_
      refine C_v0 (p_X7_blame_no (by omega) (by omega)) v_X4_49 eX4_readPieces_82 rfl rfl ?_
      exact rp_f85 hb hq _ _ _
theorem rp_f31 {G : gT} {Q : Option Value → wT → Prop} (hb : 1 ≤ F 28 4 ∧ F 28 4 ≤ 9) (h : arL F A L) (hq : Q none (sw F A)) : ∀ (x2 : Int) (x3 x4 : Option Value), V G mX4_readPieces Q 0 0 37 [some (.ref 30), some (.ref 28), some (vi x2), x3, x4] [] (sw F A) := by
  intro x2 x3 x4
  refine L_aload_n eX4_readPieces_37 rfl ?_
  refine V_iconst eX4_readPieces_38 ?_
  refine L_bipush eX4_readPieces_39 rfl ?_
  refine C_v1 (c_needNumber_f (by omega) (by omega) G) v_X4_76 eX4_readPieces_41 rfl rfl ?_
  refine L_istore_n eX4_readPieces_44 (s_3 rfl rfl) ?_
  exact rp_f45 hb h hq _ _ _ (by omega)
theorem rp_f8 {G : gT} {Q : Option Value → wT → Prop} (hb : 1 ≤ F 28 4 ∧ F 28 4 ≤ 9) (h : arL F A L) (hq : Q none (sw F A)) : ∀ (x2 : Int) (x3 x4 : Option Value), (-1000 ≤ x2 ∧ x2 ≤ 1000) → V G mX4_readPieces Q 0 0 8 [some (.ref 30), some (.ref 28), some (vi x2), x3, x4] [] (sw F A) := by
  intro x2 x3 x4 hx
  have en := h.n
  have hle := h.le
  have w : V G mX4_readPieces Q 0 0 31 [some (.ref 30), some (.ref 28), some (vi x2), x3, x4] [] (sw F A) := by
    refine L_aload_n eX4_readPieces_31 rfl ?_
    refine V_ldcS (j := 2) (List.mem_of_getElem? (i := 2) rfl) eX4_readPieces_32 ?_
    refine C_v0 (c_needWord_f (j := 2) (by omega) (by omega) G) v_X4_72 eX4_readPieces_34 rfl rfl ?_
    exact rp_f31 hb h hq _ _ _
  refine L_aload_n eX4_readPieces_8 rfl ?_
  refine L_getR (r := 31) eX4_readPieces_9 f_X4_12.g rfl rfl (by decide) ?_
  refine L_get eX4_readPieces_12 f_X4_27.g rfl rfl ?_
  refine L_iload_n eX4_readPieces_15 rfl ?_
  refine V_iadd eX4_readPieces_16 ?_
  refine L_bipush eX4_readPieces_17 rfl ?_
  -- at 19: .if_icmp .le 12
  refine V_icmple eX4_readPieces_19 (fun h2 => ?_) (fun h2 => ?_)
  · exact w
  · refine L_aload_n eX4_readPieces_22 rfl ?_
    refine V_iconst eX4_readPieces_23 ?_
    refine L_aload_n eX4_readPieces_24 rfl ?_
    refine L_get eX4_readPieces_25 f_X4_84.g rfl rfl ?_
    refine C_v0 (p_X7_blame_no (by omega) (by omega)) v_X4_49 eX4_readPieces_28 rfl rfl ?_
    exact w
theorem c_readPieces {G : gT} (hT : txT n (A 29)) (hn : F 28 1 = n) (ha : F 28 2 = a) (hab : 0 ≤ a ∧ a ≤ n) (hk : F 28 4 = 0) (h : arL F A L) : Meets G mX4_readPieces [.ref 30, .ref 28] (sw F A) (fun r w => ∃ F1 A1, r = none ∧ w = sw F1 A1 ∧ frR F F1 A A1 ∧ clK F F1 A1 n a (pcO (A 29) n L a)) := by
  have hn1 := hT.1
  refine L_ent [some (.ref 30), some (.ref 28), none, none, none] rfl ?_
  generalize hQ : (fun (r : Option Value) (w : wT) => ∃ F1 A1, r = none ∧ w = sw F1 A1 ∧ frR F F1 A A1 ∧ clK F F1 A1 n a (pcO (A 29) n L a)) = Q
  have bad : ∀ (F1 : fT) (k p : Int), fr28 F F1 → F1 28 4 = k → F1 28 5 = p → (1 ≤ k ∧ k ≤ 9) → pcO (A 29) n L a = .inl (k, p) → Q none (sw F1 A) := fun F1 k p f e1 e2 e3 e4 => by
    rw [← hQ]
    refine ⟨F1, A, rfl, rfl, frR.of f, ?_⟩
    rw [e4]
    exact ⟨f 31 0 (by decide), e1, e2, e3⟩
  have en := h.n
  have hle := h.le
  -- how many
  obtain ⟨F1, cnt, hM1, f1, b1, n1, v1, k1⟩ := c_needNumber (lo := 1) (hi := 12) hT hn ha hab hk (by omega) (by omega)
  refine L_aload_n eX4_readPieces_0 rfl ?_
  refine V_iconst eX4_readPieces_1 ?_
  refine L_bipush eX4_readPieces_2 rfl ?_
  refine C_v1 (hM1 G) v_X4_76 eX4_readPieces_4 rfl rfl ?_
  refine L_istore_n eX4_readPieces_7 (s_2 rfl rfl) ?_
  have ar1 : arL F1 A L := h.fr (f1 31 0 (by decide)) (fun _ _ _ => rfl)
  have en1 := ar1.n
  rcases nm_k k1 with ⟨a2, o1, e2, e4, e5⟩ | ⟨k, p, o1, kb, e4, e5⟩
  rotate_left
  · refine rp_f8 (by omega) ar1 (bad F1 k p f1 e4 e5 (by omega) ?_) _ _ _ (by omega)
    unfold pcO
    rw [o1]
    rfl
  have ok1 := nm_ok hT hab o1
  by_cases c1 : 12 < (L.length : Int) + cnt
  · refine L_aload_n eX4_readPieces_8 rfl ?_
    refine L_getR (r := 31) eX4_readPieces_9 f_X4_12.g rfl rfl (by decide) ?_
    refine L_get eX4_readPieces_12 f_X4_27.g rfl rfl ?_
    refine L_iload_n eX4_readPieces_15 rfl ?_
    refine V_iadd eX4_readPieces_16 ?_
    refine L_bipush eX4_readPieces_17 rfl ?_
    -- at 19: .if_icmp .le 12
    refine V_icmple eX4_readPieces_19 (fun h2 => ?_) (fun h2 => ?_)
    · omega
    · refine L_aload_n eX4_readPieces_22 rfl ?_
      refine V_iconst eX4_readPieces_23 ?_
      refine L_aload_n eX4_readPieces_24 rfl ?_
      refine L_get eX4_readPieces_25 f_X4_84.g rfl rfl ?_
      rw [n1]
      refine C_v0 (p_X7_blame e4) v_X4_49 eX4_readPieces_28 rfl rfl ?_
      refine L_aload_n eX4_readPieces_31 rfl ?_
      refine V_ldcS (j := 2) (List.mem_of_getElem? (i := 2) rfl) eX4_readPieces_32 ?_
      have g4 : uF (uF F1 28 4 4) 28 5 (skp (A 29) n a) 28 4 = 4 := by rw [uF_ne (by decide), uF_eq]
      refine C_v0 (c_needWord_f (j := 2) (by omega) (by omega) G) v_X4_72 eX4_readPieces_34 rfl rfl ?_
      refine rp_f31 (by omega) (ar1.fr (by rw [uF_ne (by decide), uF_ne (by decide)]) (fun _ _ _ => rfl)) (bad _ 4 (skp (A 29) n a) (f1.tr (fun o k q => by rw [uF_ne (by omega), uF_ne (by omega)])) g4 uF_eq (by omega) ?_) _ _ _
      unfold pcO
      rw [o1]
      show (if 12 < (L.length : Int) + cnt then _ else _) = _
      rw [if_pos c1]
  refine L_aload_n eX4_readPieces_8 rfl ?_
  refine L_getR (r := 31) eX4_readPieces_9 f_X4_12.g rfl rfl (by decide) ?_
  refine L_get eX4_readPieces_12 f_X4_27.g rfl rfl ?_
  refine L_iload_n eX4_readPieces_15 rfl ?_
  refine V_iadd eX4_readPieces_16 ?_
  refine L_bipush eX4_readPieces_17 rfl ?_
  -- at 19: .if_icmp .le 12
  refine V_icmple eX4_readPieces_19 (fun h2 => ?_) (fun h2 => ?_)
  rotate_left
  · omega
  -- strands
  have hn2 : F1 28 1 = n := by rw [f1 28 1 (by decide)]; exact hn
  have hab1 : 0 ≤ a2 ∧ a2 ≤ n := by omega
  have hW := c_needWord (F := F1) (j := 2) hT hn2 e2 hab1 (by decide) e4
  refine L_aload_n eX4_readPieces_31 rfl ?_
  refine V_ldcS (j := 2) (List.mem_of_getElem? (i := 2) rfl) eX4_readPieces_32 ?_
  by_cases w1 : wm (A 29) n 2 (skp (A 29) n a2)
  rotate_left
  · refine C_v0 (hW.2 w1 G) v_X4_72 eX4_readPieces_34 rfl rfl ?_
    have g4 : uF (uF (uF F1 28 2 (skp (A 29) n a2)) 28 4 1) 28 5 (skp (A 29) n a2) 28 4 = 1 := by rw [uF_ne (by decide), uF_eq]
    refine rp_f31 (by omega) (ar1.fr (by rw [uF_ne (by decide), uF_ne (by decide), uF_ne (by decide)]) (fun _ _ _ => rfl)) (bad _ 1 (skp (A 29) n a2) (f1.tr (fun o k q => by rw [uF_ne (by omega), uF_ne (by omega), uF_ne (by omega)])) g4 uF_eq (by omega) ?_) _ _ _
    unfold pcO
    rw [o1]
    show (if 12 < (L.length : Int) + cnt then _ else _) = _
    rw [if_neg c1, wd_no w1]
    rfl
  refine C_v0 (hW.1 w1 G) v_X4_72 eX4_readPieces_34 rfl rfl ?_
  obtain ⟨ow, hw2, hw3⟩ := wd_ok (e := 0) (by decide) hab1 w1
  obtain ⟨a3, ea3⟩ : ∃ a3, a3 = skp (A 29) n a2 + (sLn.getD 2 0 : Int) := ⟨_, rfl⟩
  rw [← ea3] at ow hw2 hw3 ⊢
  obtain ⟨F2, eF2⟩ : ∃ F2, F2 = uF F1 28 2 a3 := ⟨_, rfl⟩
  rw [← eF2]
  have f2 : fr28 F F2 := f1.tr (fun o k q => by rw [eF2, uF_ne (by omega)])
  have x2 : F2 28 2 = a3 := by rw [eF2, uF_eq]
  have x4 : F2 28 4 = 0 := by rw [eF2, uF_ne (by decide)]; exact e4
  have x5 : F2 28 5 = F 28 5 := by rw [eF2, uF_ne (by decide)]; exact e5
  have hn3 : F2 28 1 = n := by rw [f2 28 1 (by decide)]; exact hn
  obtain ⟨F3, s, hM3, f3, b3, n3, v3, k3⟩ := c_needNumber (F := F2) (lo := 1) (hi := 16) hT hn3 x2 (by omega) x4 (by omega) (by omega)
  have f3' := f2.tr f3
  have ar3 : arL F3 A L := h.fr (f3' 31 0 (by decide)) (fun _ _ _ => rfl)
  have en3 := ar3.n
  refine L_aload_n eX4_readPieces_37 rfl ?_
  refine V_iconst eX4_readPieces_38 ?_
  refine L_bipush eX4_readPieces_39 rfl ?_
  refine C_v1 (hM3 G) v_X4_76 eX4_readPieces_41 rfl rfl ?_
  refine L_istore_n eX4_readPieces_44 (s_3 rfl rfl) ?_
  rcases nm_k k3 with ⟨a4, o3, y2, y4, y5⟩ | ⟨k, p, o3, kb, y4, y5⟩
  rotate_left
  · refine rp_f45 (by omega) ar3 (bad F3 k p f3' y4 y5 (by omega) ?_) _ _ _ (by omega)
    unfold pcO
    rw [o1]
    show (if 12 < (L.length : Int) + cnt then _ else _) = _
    rw [if_neg c1, ow]
    show bO' (nmO (A 29) n false 1 16 a3) _ = _
    rw [o3]
    rfl
  have ok3 := nm_ok hT (by omega) o3
  rw [x5] at y5
  -- what is behind the STRANDS
  have rest : ¬ (0 < L.length ∧ lsS L < s) → ∀ x4 : Option Value, V G mX4_readPieces Q 0 0 85 [some (.ref 30), some (.ref 28), some (vi cnt), some (vi s), x4] [] (sw F3 A) := by
    intro c3 x4
    have hp0 : ∀ z : oT (Int × Int), sfO (A 29) n a4 = z → pcO (A 29) n L a = bO' z fun z => bO' (sgO (A 29) n 59 z.2) fun a6 => .inr (L ++ List.replicate cnt.toNat (s, z.1), a6) := fun z ez => by
      unfold pcO
      rw [o1]
      show (if 12 < (L.length : Int) + cnt then _ else _) = _
      rw [if_neg c1, ow]
      show bO' (nmO (A 29) n false 1 16 a3) _ = _
      rw [o3]
      show (if 0 < L.length ∧ lsS L < s then _ else _) = _
      rw [if_neg c3, ← ez]
    -- the sign, and the PIECES
    have last : ∀ (F4 : fT) (f a5 : Int), fr28 F F4 → F4 28 4 = 0 → F4 28 5 = F 28 5 → (0 ≤ F4 28 2 ∧ F4 28 2 ≤ n) → skp (A 29) n (F4 28 2) = skp (A 29) n a5 → (a < a5 ∧ a5 ≤ n) → (0 ≤ f ∧ f < 4) → sfO (A 29) n a4 = .inr (f, a5) → V G mX4_readPieces Q 0 0 112 [some (.ref 30), some (.ref 28), some (vi cnt), some (vi s), some (vi f)] [] (sw F4 A) := by
      intro F4 f a5 f4 z4 z5 zb zs za zf zo
      have hp1 := hp0 _ zo
      have hS := c_needSign (F := F4) (s := 59) (by omega) hT (by rw [f4 28 1 (by decide)]; exact hn) rfl zb z4
      rw [zs] at hS
      have ar4 : arL F4 A L := h.fr (f4 31 0 (by decide)) (fun _ _ _ => rfl)
      refine L_aload_n eX4_readPieces_112 rfl ?_
      refine L_bipush eX4_readPieces_113 rfl ?_
      by_cases c4 : chA (A 29) n (skp (A 29) n a5) = 59
      · obtain ⟨og, hg2, hg3⟩ := sg_ok (s := 59) (by omega) hT (show 0 ≤ a5 ∧ a5 ≤ n by omega) c4
        refine C_v0 (hS.1 c4 G) v_X4_80 eX4_readPieces_115 rfl rfl ?_
        have u4 : uF F4 28 2 (skp (A 29) n a5 + 1) 28 4 = 0 := by rw [uF_ne (by decide)]; exact z4
        refine L_aload_n eX4_readPieces_118 rfl ?_
        refine C_v1 (p_X7_isFine (by omega)) v_X4_34 eX4_readPieces_119 rfl rfl ?_
        refine V_ifeqB eX4_readPieces_122 (fun h3 => ?_) (fun h3 => ?_)
        · exact absurd u4 h3
        · refine L_aload_n eX4_readPieces_125 rfl ?_
          refine L_getR (r := 31) eX4_readPieces_126 f_X4_12.g rfl rfl (by decide) ?_
          refine L_iload_n eX4_readPieces_129 rfl ?_
          refine L_iload_n eX4_readPieces_130 rfl ?_
          refine L_iload eX4_readPieces_131 rfl ?_
          refine C_vq (c_addPieces (G := G) (ar4.fr (uF_ne (by decide)) (fun _ _ _ => rfl)) (by omega) (by omega) (by omega) zf) v_X4_94 eX4_readPieces_133 rfl rfl (fun r' w' e' => ?_)
          obtain ⟨F5, A5, er, ew, ar5, ff5, fa5⟩ := e'
          subst er ew
          refine V_return eX4_readPieces_136 ?_
          rw [← hQ]
          refine ⟨F5, A5, rfl, rfl, ⟨fun o k p q => by rw [ff5 o k q, uF_ne (by omega)]; exact f4 o k p, fa5⟩, ?_⟩
          rw [hp1]
          show clK F F5 A5 n a (bO' (sgO (A 29) n 59 a5) _)
          rw [og]
          refine ⟨by rw [ff5 28 4 (by decide)]; exact u4, by rw [ff5 28 5 (by decide), uF_ne (by decide)]; exact z5, by rw [ff5 28 2 (by decide), uF_eq], by show a < skp (A 29) n a5 + 1 ∧ skp (A 29) n a5 + 1 ≤ n; omega, ar5⟩
      · refine C_v0 (hS.2 c4 G) v_X4_80 eX4_readPieces_115 rfl rfl ?_
        have u4 : uF (uF (uF F4 28 2 (skp (A 29) n a5)) 28 4 1) 28 5 (skp (A 29) n a5) 28 4 = 1 := by rw [uF_ne (by decide), uF_eq]
        refine L_aload_n eX4_readPieces_118 rfl ?_
        refine C_v1 (p_X7_isFine (by omega)) v_X4_34 eX4_readPieces_119 rfl rfl ?_
        refine V_ifeqB eX4_readPieces_122 (fun h3 => ?_) (fun h3 => ?_)
        · refine V_return eX4_readPieces_136 (bad _ 1 (skp (A 29) n a5) (f4.tr (fun o k q => by rw [uF_ne (by omega), uF_ne (by omega), uF_ne (by omega)])) u4 uF_eq (by omega) ?_)
          rw [hp1]
          show bO' (sgO (A 29) n 59 a5) _ = _
          rw [sg_no c4]
          rfl
        · rw [u4] at h3
          exact absurd h3 (by decide)
    have hn4 : F3 28 1 = n := by rw [f3' 28 1 (by decide)]; exact hn
    have hTW := c_takesWord (F := F3) (j := 3) hT hn4 y2 (show 0 ≤ a4 ∧ a4 ≤ n by omega) (by decide)
    refine V_iconst eX4_readPieces_85 ?_
    refine L_istore eX4_readPieces_86 (s_4 rfl rfl) ?_
    refine L_aload_n eX4_readPieces_88 rfl ?_
    refine C_v1 (p_X7_isFine (by omega)) v_X4_34 eX4_readPieces_89 rfl rfl ?_
    refine V_ifeqB eX4_readPieces_92 (fun h3 => ?_) (fun h3 => ?_)
    · exact absurd y4 h3
    · refine L_aload_n eX4_readPieces_95 rfl ?_
      refine V_ldcS (j := 3) (List.mem_of_getElem? (i := 3) rfl) eX4_readPieces_96 ?_
      by_cases w2 : wm (A 29) n 3 (skp (A 29) n a4)
      · refine C_v1 (hTW.1 w2 G) v_X4_55 eX4_readPieces_98 rfl rfl ?_
        obtain ⟨-, hv2, hv3⟩ := wd_ok (e := 0) (j := 3) (by decide) (show 0 ≤ a4 ∧ a4 ≤ n by omega) w2
        have e5 : (sLn.getD 3 0 : Int) = 5 := rfl
        rw [e5] at hv2 hv3 ⊢
        obtain ⟨F4, eF4⟩ : ∃ F4, F4 = uF F3 28 2 (skp (A 29) n a4 + 5) := ⟨_, rfl⟩
        rw [← eF4]
        have f4 : fr28 F F4 := f3'.tr (fun o k q => by rw [eF4, uF_ne (by omega)])
        obtain ⟨F5, f, hM5, f5, b5, n5, v5, k5⟩ := c_needNumber (F := F4) (lo := 0) (hi := 3) hT (by rw [f4 28 1 (by decide)]; exact hn) (show F4 28 2 = skp (A 29) n a4 + 5 by rw [eF4, uF_eq]) (by omega) (by rw [eF4, uF_ne (by decide)]; exact y4) (by omega) (by omega)
        refine V_ifeq eX4_readPieces_101 (fun h4 => ?_) (fun h4 => ?_)
        · omega
        · refine L_aload_n eX4_readPieces_104 rfl ?_
          refine V_iconst eX4_readPieces_105 ?_
          refine V_iconst eX4_readPieces_106 ?_
          refine C_v1 (hM5 G) v_X4_76 eX4_readPieces_107 rfl rfl ?_
          refine L_istore eX4_readPieces_110 (s_4 rfl rfl) ?_
          have of : sfO (A 29) n a4 = nmO (A 29) n false 0 3 (skp (A 29) n a4 + 5) := by
            unfold sfO
            rw [if_pos w2]
          rcases nm_k k5 with ⟨a5, o5, z2, z4, z5⟩ | ⟨k, p, o5, kb, z4, z5⟩
          · have ok5 := nm_ok hT (by omega) o5
            refine last F5 f a5 (f4.tr f5) z4 ?_ b5 (by rw [z2]) (by omega) (by omega) (by rw [of]; exact o5)
            rw [z5, eF4, uF_ne (by decide)]
            exact y5
          · refine rp_f (by omega) (bad F5 k p (f4.tr f5) z4 z5 (by omega) ?_) _ _ _
            rw [hp0 _ of, o5]
            rfl
      · refine C_v1 (hTW.2 w2 G) v_X4_55 eX4_readPieces_98 rfl rfl ?_
        have hsk : a4 ≤ skp (A 29) n a4 ∧ skp (A 29) n a4 ≤ n := rn_ge (by omega)
        refine V_ifeq eX4_readPieces_101 (fun h4 => ?_) (fun h4 => ?_)
        · refine last (uF F3 28 2 (skp (A 29) n a4)) 0 a4 (f3'.tr (fun o k q => uF_ne (by omega))) (by rw [uF_ne (by decide)]; exact y4) (by rw [uF_ne (by decide)]; exact y5) (by rw [uF_eq]; omega) ?_ (by omega) (by omega) ?_
          · rw [uF_eq]
            exact rn_rn (by omega)
          · unfold sfO
            rw [if_neg w2]
        · omega
  have bl3 : (0 < L.length ∧ lsS L < s) → ∀ x4 : Option Value, V G mX4_readPieces Q 0 0 76 [some (.ref 30), some (.ref 28), some (vi cnt), some (vi s), x4] [] (sw F3 A) := by
    intro c3 x4
    refine L_aload_n eX4_readPieces_76 rfl ?_
    refine V_iconst eX4_readPieces_77 ?_
    refine L_aload_n eX4_readPieces_78 rfl ?_
    refine L_get eX4_readPieces_79 f_X4_84.g rfl rfl ?_
    rw [n3]
    refine C_v0 (p_X7_blame y4) v_X4_49 eX4_readPieces_82 rfl rfl ?_
    have g4 : uF (uF F3 28 4 3) 28 5 (skp (A 29) n a3) 28 4 = 3 := by rw [uF_ne (by decide), uF_eq]
    refine rp_f85 (by omega) (bad _ 3 (skp (A 29) n a3) (f3'.tr (fun o k q => by rw [uF_ne (by omega), uF_ne (by omega)])) g4 uF_eq (by omega) ?_) _ _ _
    unfold pcO
    rw [o1]
    show (if 12 < (L.length : Int) + cnt then _ else _) = _
    rw [if_neg c1, ow]
    show bO' (nmO (A 29) n false 1 16 a3) _ = _
    rw [o3]
    show (if 0 < L.length ∧ lsS L < s then _ else _) = _
    rw [if_pos c3]
  refine L_aload_n eX4_readPieces_45 rfl ?_
  refine L_getR (r := 31) eX4_readPieces_46 f_X4_12.g rfl rfl (by decide) ?_
  refine L_get eX4_readPieces_49 f_X4_27.g rfl rfl ?_
  -- at 52: .ifCond .le 33
  refine V_ifle eX4_readPieces_52 (fun h3 => ?_) (fun h3 => ?_)
  · exact rest (fun c => by omega) _
  · have hs := ar3.s (L.length - 1) (by omega)
    have hbb := ar3.b (L.length - 1) (by omega)
    have els := lsS_at (L := L) (by omega)
    rw [show ((L.length - 1 : Nat) : Int) = F3 31 0 - 1 by omega] at hs
    refine L_iload_n eX4_readPieces_55 rfl ?_
    refine L_aload_n eX4_readPieces_56 rfl ?_
    refine L_getR (r := 31) eX4_readPieces_57 f_X4_12.g rfl rfl (by decide) ?_
    refine L_getR (r := 32) eX4_readPieces_60 f_X4_89 rfl rfl (by decide) ?_
    refine L_aload_n eX4_readPieces_63 rfl ?_
    refine L_getR (r := 31) eX4_readPieces_64 f_X4_12.g rfl rfl (by decide) ?_
    refine L_get eX4_readPieces_67 f_X4_27.g rfl rfl ?_
    refine V_iconst eX4_readPieces_70 ?_
    refine V_isub eX4_readPieces_71 ?_
    refine L_iald eX4_readPieces_72 rfl ?_
    -- at 73: .if_icmp .le 12
    refine V_icmple eX4_readPieces_73 (fun h4 => ?_) (fun h4 => ?_)
    · exact rest (fun c => by omega) _
    · exact bl3 (by omega) _
end P98h

