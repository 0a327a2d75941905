/-! PLAITS told in a text: the reference's reader -/
def arM (F : fT) (A : nT) (L : pcL) : Prop := (F 66 22 = L.length) ∧ (L.length ≤ 12) ∧ (∀ (i : Nat) (hi : i < L.length), A 74 i = L[i].1 ∧ A 75 i = L[i].2) ∧ (∀ (i : Nat) (hi : i < L.length), (1 ≤ L[i].1 ∧ L[i].1 ≤ 16) ∧ 0 ≤ L[i].2 ∧ L[i].2 < 4)
theorem arM.n {F : fT} {A : nT} {L : pcL} (h : arM F A L) : F 66 22 = L.length := h.1
theorem arM.le {F : fT} {A : nT} {L : pcL} (h : arM F A L) : L.length ≤ 12 := h.2.1
theorem arM.s {F : fT} {A : nT} {L : pcL} (h : arM F A L) : ∀ (i : Nat) (hi : i < L.length), A 74 i = L[i].1 ∧ A 75 i = L[i].2 := h.2.2.1
theorem arM.b {F : fT} {A : nT} {L : pcL} (h : arM F A L) : ∀ (i : Nat) (hi : i < L.length), (1 ≤ L[i].1 ∧ L[i].1 ≤ 16) ∧ 0 ≤ L[i].2 ∧ L[i].2 < 4 := h.2.2.2
theorem arM.mk {F : fT} {A : nT} {L : pcL} (qn : F 66 22 = L.length) (qle : L.length ≤ 12) (qs : ∀ (i : Nat) (hi : i < L.length), A 74 i = L[i].1 ∧ A 75 i = L[i].2) (qb : ∀ (i : Nat) (hi : i < L.length), (1 ≤ L[i].1 ∧ L[i].1 ≤ 16) ∧ 0 ≤ L[i].2 ∧ L[i].2 < 4) : arM F A L := ⟨qn, qle, qs, qb⟩
theorem arM.fr {F F1 : fT} {A A1 : nT} {L : List (Int × Int)} (h : arM F A L) (e : F1 66 22 = F 66 22) (a : ∀ o, 74 ≤ o → o ≤ 75 → A1 o = A o) : arM F1 A1 L := by
  refine arM.mk (by rw [e]; exact h.n) h.le ?_ h.b
  rw [a 74 (by decide) (by decide), a 75 (by decide) (by decide)]
  exact h.s
noncomputable def pcM (T : Int → Int) (n : Int) (L : List (Int × Int)) (a : Int) : oT (List (Int × Int) × Int) :=
  bO' (nmO T n false 1 12 a) fun x => if 12 < (L.length : Int) + x.1 then .inl (4, skp T n a) else
  bO' (wdO T n 2 x.2) fun a3 => bO' (nmO T n false 1 16 a3) fun y => if 0 < L.length ∧ lsS L < y.1 then .inl (3, skp T n a3) else
  if chA T n (skp T n y.2) = 59 then .inr (L ++ List.replicate x.1.toNat (y.1, 0), skp T n y.2) else
  (@ite _ (wm T n 3 (skp T n y.2)) (Classical.propDecidable _) (bO' (nmO T n false 0 3 (skp T n y.2 + 5)) fun z => .inr (L ++ List.replicate x.1.toNat (y.1, z.1), z.2)) (.inl (1, skp T n y.2)))
theorem pcM_eq {T : Int → Int} {n a : Int} {L : List (Int × Int)} (hT : txT n T) (hab : 0 ≤ a ∧ a ≤ n) : bO' (pcM T n L a) (fun x => bO' (sgO T n 59 x.2) fun a6 => .inr (x.1, a6)) = pcO T n L a := by
  unfold pcM pcO
  cases h1 : nmO T n false 1 12 a with
  | inl e => rfl
  | inr x =>
    have ok1 := nm_ok hT hab (v := x.1) (e := x.2) h1
    show bO' (if 12 < (L.length : Int) + x.1 then _ else _) _ = (if 12 < (L.length : Int) + x.1 then _ else _)
    by_cases c1 : 12 < (L.length : Int) + x.1
    · rw [if_pos c1, if_pos c1]
      rfl
    · rw [if_neg c1, if_neg c1]
      by_cases w1 : wm T n 2 (skp T n x.2)
      · obtain ⟨ow, hw2, hw3⟩ := wd_ok (e := 0) (j := 2) (by decide) (show 0 ≤ x.2 ∧ x.2 ≤ n by omega) w1
        rw [ow]
        generalize skp T n x.2 + (sLn.getD 2 0 : Int) = a3 at *
        show bO' (bO' (nmO T n false 1 16 a3) _) _ = bO' (nmO T n false 1 16 a3) _
        cases h3 : nmO T n false 1 16 a3 with
        | inl e => rfl
        | inr y =>
          have ok3 := nm_ok hT (by omega) (v := y.1) (e := y.2) h3
          show bO' (if 0 < L.length ∧ lsS L < y.1 then _ else _) _ = (if 0 < L.length ∧ lsS L < y.1 then _ else _)
          by_cases c3 : 0 < L.length ∧ lsS L < y.1
          · rw [if_pos c3, if_pos c3]
            rfl
          · rw [if_neg c3, if_neg c3]
            have hss : skp T n (skp T n y.2) = skp T n y.2 := rn_rn (by omega)
            have hsk : y.2 ≤ skp T n y.2 ∧ skp T n y.2 ≤ n := rn_ge (by omega)
            have hc := chA_b (q := skp T n y.2) hT (by omega)
            by_cases c4 : chA T n (skp T n y.2) = 59
            · rw [if_pos c4]
              have hlt := hc.2.2 (by omega)
              have nw : ¬ wm T n 3 (skp T n y.2) := fun w => by
                have := w.2 0 (by decide) (by decide)
                have wb := (wdC_b (j := 3) (k := 0) (by decide) (by decide)).2.2
                unfold chA at c4
                rw [if_pos hlt] at c4
                rw [Int.add_zero] at this
                omega
              have es : sfO T n y.2 = .inr (0, y.2) := by
                unfold sfO
                rw [if_neg nw]
              rw [es]
              show bO' (sgO T n 59 (skp T n y.2)) _ = bO' (sgO T n 59 y.2) _
              have e1 : sgO T n 59 (skp T n y.2) = .inr (skp T n y.2 + 1) := by
                unfold sgO
                rw [hss, if_pos c4]
              have e2 : sgO T n 59 y.2 = .inr (skp T n y.2 + 1) := if_pos c4
              rw [e1, e2]
            · rw [if_neg c4]
              by_cases w2 : wm T n 3 (skp T n y.2)
              · have es : sfO T n y.2 = nmO T n false 0 3 (skp T n y.2 + 5) := by
                  unfold sfO
                  rw [if_pos w2]
                rw [if_pos w2, es]
                cases nmO T n false 0 3 (skp T n y.2 + 5) <;> rfl
              · have es : sfO T n y.2 = .inr (0, y.2) := by
                  unfold sfO
                  rw [if_neg w2]
                rw [if_neg w2, es]
                show _ = bO' (sgO T n 59 y.2) _
                rw [sg_no c4]
                rfl
      · rw [wd_no w1]
        rfl
/-- all but what the reader writes -/
def frY (F F1 : fT) (A A1 : nT) : Prop := (∀ o k, (o ≠ 66 ∨ k < 17 ∨ 24 < k) → F1 o k = F o k) ∧ ∀ o, o < 74 ∨ 75 < o → A1 o = A o
theorem frY.tr {F F1 F2 : fT} {A A1 A2 : nT} (h : frY F F1 A A1) (h2 : frY F1 F2 A1 A2) : frY F F2 A A2 := ⟨fun o k a => (h2.1 o k a).trans (h.1 o k a), fun o a => (h2.2 o a).trans (h.2 o a)⟩
theorem frY.of {F F1 : fT} {A : nT} (h : fr66 F F1) : frY F F1 A A := ⟨fun o k a => h o k (by omega), fun _ _ => rfl⟩
def cmK (F : fT) (F1 : fT) (A1 : nT) (n a : Int) (o : oT (List (Int × Int) × Int)) : Prop := match o with
  | .inl e => (0 ≤ F1 66 22 ∧ F1 66 22 ≤ 12) ∧ F1 66 20 = e.1 ∧ F1 66 21 = e.2 ∧ 1 ≤ e.1 ∧ e.1 ≤ 9
  | .inr x => F1 66 20 = 0 ∧ F1 66 21 = F 66 21 ∧ F1 66 17 = x.2 ∧ (a < x.2 ∧ x.2 ≤ n) ∧ arM F1 A1 x.1
section P98j
variable {F : fT} {A : nT} {L : List (Int × Int)} {n a : Int}
theorem tp_f188 {G : gT} {Q : Option Value → wT → Prop} (hb : 1 ≤ F 66 20 ∧ F 66 20 ≤ 9) (hq : Q none (sw F A)) : ∀ (x1 x2 x3 x4 : Int) (x5 : Option Value), (-9999 ≤ x1 ∧ x1 ≤ 9999) → V G mX11_takePiece Q 0 0 188 [some (.ref 66), some (vi x1), some (vi x2), some (vi x3), some (vi x4), x5] [] (sw F A) := by
  intro x1 x2 x3 x4 x5 hx
  refine V_iconst eX11_takePiece_188 ?_
  refine L_istore eX11_takePiece_189 (s_5 rfl rfl) ?_
  refine L_iload eX11_takePiece_191 rfl ?_
  refine L_iload_n eX11_takePiece_193 rfl ?_
  -- at 194: .if_icmp .ge 47
  refine V_icmpge eX11_takePiece_194 (fun h2 => ?_) (fun h2 => ?_)
  · exact V_return eX11_takePiece_241 hq
  · refine L_aload_n eX11_takePiece_197 rfl ?_
    refine L_get eX11_takePiece_198 f_X11_164.g rfl rfl ?_
    -- at 201: .ifCond .ne 40
    refine V_ifne eX11_takePiece_201 (fun h3 => ?_) (fun h3 => ?_)
    · exact V_return eX11_takePiece_241 hq
    · omega
theorem tp_f129 {G : gT} {Q : Option Value → wT → Prop} (hb : 1 ≤ F 66 20 ∧ F 66 20 ≤ 9) (hq : Q none (sw F A)) : ∀ (x1 x2 x3 : Int) (x4 x5 : Option Value), (-9999 ≤ x1 ∧ x1 ≤ 9999) → V G mX11_takePiece Q 0 0 129 [some (.ref 66), some (vi x1), some (vi x2), some (vi x3), x4, x5] [] (sw F A) := by
  intro x1 x2 x3 x4 x5 hx
  refine V_iconst eX11_takePiece_129 ?_
  refine L_istore eX11_takePiece_130 (s_4 rfl rfl) ?_
  refine L_aload_n eX11_takePiece_132 rfl ?_
  refine L_get eX11_takePiece_133 f_X11_164.g rfl rfl ?_
  -- at 136: .ifCond .ne 52
  refine V_ifne eX11_takePiece_136 (fun h2 => ?_) (fun h2 => ?_)
  · exact tp_f188 hb hq _ _ _ _ _ hx
  · omega
theorem tp_f85 {G : gT} {Q : Option Value → wT → Prop} (hb : 1 ≤ F 66 20 ∧ F 66 20 ≤ 9) (h : arM F A L) (hq : Q none (sw F A)) : ∀ (x1 x2 x3 : Int) (x4 x5 : Option Value), (-9999 ≤ x1 ∧ x1 ≤ 9999) → V G mX11_takePiece Q 0 0 85 [some (.ref 66), some (vi x1), some (vi x2), some (vi x3), x4, x5] [] (sw F A) := by
  intro x1 x2 x3 x4 x5 hx
  have en := h.n
  have hle := h.le
  have w : V G mX11_takePiece Q 0 0 115 [some (.ref 66), some (vi x1), some (vi x2), some (vi x3), x4, x5] [.ref 66] (sw F A) := by
    refine V_iconst eX11_takePiece_115 ?_
    refine V_goto eX11_takePiece_116 ?_
    refine V_iconst eX11_takePiece_120 ?_
    refine L_aload_n eX11_takePiece_121 rfl ?_
    refine L_get eX11_takePiece_122 f_X11_171.g rfl rfl ?_
    refine C_v1 (p_X11_want_no (Or.inr rfl) (by omega) (by omega)) v_X11_189 eX11_takePiece_125 rfl rfl ?_
    refine L_istore_n eX11_takePiece_128 (s_2 rfl rfl) ?_
    exact tp_f129 hb hq _ _ _ _ _ hx
  refine L_aload_n eX11_takePiece_85 rfl ?_
  refine L_aload_n eX11_takePiece_86 rfl ?_
  refine L_get eX11_takePiece_87 f_X11_197.g rfl rfl ?_
  -- at 90: .ifCond .eq 25
  refine V_ifeq eX11_takePiece_90 (fun h2 => ?_) (fun h2 => ?_)
  · exact w
  · refine L_aload_n eX11_takePiece_93 rfl ?_
    refine L_get eX11_takePiece_94 f_X11_164.g rfl rfl ?_
    -- at 97: .ifCond .gt 18
    refine V_ifgt eX11_takePiece_97 (fun h3 => ?_) (fun h3 => ?_)
    · exact w
    · omega
theorem tp_f76 {G : gT} {Q : Option Value → wT → Prop} (hb : 1 ≤ F 66 20 ∧ F 66 20 ≤ 9) (h : arM F A L) (hq : Q none (sw F A)) : ∀ (x1 x2 : Int) (x3 x4 x5 : Option Value), (-9999 ≤ x1 ∧ x1 ≤ 9999) → V G mX11_takePiece Q 0 0 76 [some (.ref 66), some (vi x1), some (vi x2), x3, x4, x5] [] (sw F A) := by
  intro x1 x2 x3 x4 x5 hx
  refine L_aload_n eX11_takePiece_76 rfl ?_
  refine V_iconst eX11_takePiece_77 ?_
  refine L_bipush eX11_takePiece_78 rfl ?_
  refine V_iconst eX11_takePiece_80 ?_
  refine C_v1 (m_takeNumber_f (by omega) (by omega) G) v_X11_193 eX11_takePiece_81 rfl rfl ?_
  refine L_istore_n eX11_takePiece_84 (s_3 rfl rfl) ?_
  exact tp_f85 hb h hq _ _ _ _ _ hx
theorem m_takePiece {G : gT} (hT : txT n (A 73)) (hn : F 66 16 = n) (ha : F 66 17 = a) (hab : 0 ≤ a ∧ a ≤ n) (hk : F 66 20 = 0) (h : arM F A L) : Meets G mX11_takePiece [.ref 66] (sw F A) (fun r w => ∃ F1 A1, r = none ∧ w = sw F1 A1 ∧ ((∀ o k, (o ≠ 66 ∨ k < 17 ∨ 22 < k) → F1 o k = F o k) ∧ ∀ o, o < 74 ∨ 75 < o → A1 o = A o) ∧ cmK F F1 A1 n a (pcM (A 73) n L a)) := by
  have hn1 := hT.1
  refine L_ent [some (.ref 66), none, none, none, none, none] rfl ?_
  generalize hQ : (fun (r : Option Value) (w : wT) => ∃ F1 A1, r = none ∧ w = sw F1 A1 ∧ ((∀ o k, (o ≠ 66 ∨ k < 17 ∨ 22 < k) → F1 o k = F o k) ∧ ∀ o, o < 74 ∨ 75 < o → A1 o = A o) ∧ cmK F F1 A1 n a (pcM (A 73) n L a)) = Q
  have en := h.n
  have hle := h.le
  have bad : ∀ (F1 : fT) (k p : Int), fr66 F F1 → F1 66 20 = k → F1 66 21 = p → (1 ≤ k ∧ k ≤ 9) → pcM (A 73) n L a = .inl (k, p) → Q none (sw F1 A) := fun F1 k p f e1 e2 e3 e4 => by
    rw [← hQ]
    refine ⟨F1, A, rfl, rfl, ⟨fun o k q => f o k (by omega), fun _ _ => rfl⟩, ?_⟩
    rw [e4]
    exact ⟨by rw [f 66 22 (by decide)]; omega, e1, e2, e3⟩
  obtain ⟨F1, cnt, hM1, f1, b1, n1, v1, k1⟩ := m_takeNumber (s := 0) (sg := false) (lo := 1) (hi := 12) (Or.inl ⟨rfl, rfl⟩) hT hn ha hab hk (by omega) (by omega)
  refine L_aload_n eX11_takePiece_0 rfl ?_
  refine V_iconst eX11_takePiece_1 ?_
  refine L_bipush eX11_takePiece_2 rfl ?_
  refine V_iconst eX11_takePiece_4 ?_
  refine C_v1 (hM1 G) v_X11_193 eX11_takePiece_5 rfl rfl ?_
  refine L_istore_n eX11_takePiece_8 (s_1 rfl rfl) ?_
  have ar1 : arM F1 A L := h.fr (f1 66 22 (by decide)) (fun _ _ _ => rfl)
  have en1 := ar1.n
  rcases nm_k k1 with ⟨a2, o1, e2, e4, e5⟩ | ⟨k, p, o1, kb, e4, e5⟩
  rotate_left
  · have hq : Q none (sw F1 A) := bad F1 k p f1 e4 e5 (by omega) (by unfold pcM; rw [o1]; rfl)
    have t : ∀ z : Int, (z = 0 ∨ z = 1) → V G mX11_takePiece Q 0 0 26 [some (.ref 66), some (vi cnt), none, none, none, none] [vi z, .ref 66] (sw F1 A) := fun z hz => by
      refine V_iconst eX11_takePiece_26 ?_
      refine L_aload_n eX11_takePiece_27 rfl ?_
      refine L_get eX11_takePiece_28 f_X11_171.g rfl rfl ?_
      refine C_v1 (p_X11_want_no hz (by omega) (by omega)) v_X11_189 eX11_takePiece_31 rfl rfl ?_
      refine L_istore_n eX11_takePiece_34 (s_2 rfl rfl) ?_
      refine L_aload_n eX11_takePiece_35 rfl ?_
      refine L_get eX11_takePiece_36 f_X11_164.g rfl rfl ?_
      -- at 39: .ifCond .ne 37
      refine V_ifne eX11_takePiece_39 (fun h2 => ?_) (fun h2 => ?_)
      · exact tp_f76 (by omega) ar1 hq _ _ _ _ _ v1
      · omega
    refine L_aload_n eX11_takePiece_9 rfl ?_
    refine L_aload_n eX11_takePiece_10 rfl ?_
    refine L_get eX11_takePiece_11 f_X11_197.g rfl rfl ?_
    refine L_iload_n eX11_takePiece_14 rfl ?_
    refine V_iadd eX11_takePiece_15 ?_
    refine L_bipush eX11_takePiece_16 rfl ?_
    -- at 18: .if_icmp .gt 7
    refine V_icmpgt eX11_takePiece_18 (fun h2 => ?_) (fun h2 => ?_)
    · refine V_iconst eX11_takePiece_25 ?_
      exact t 0 (by omega)
    · refine V_iconst eX11_takePiece_21 ?_
      refine V_goto eX11_takePiece_22 ?_
      exact t 1 (by omega)
  have ok1 := nm_ok hT hab o1
  by_cases c1 : 12 < (L.length : Int) + cnt
  · refine L_aload_n eX11_takePiece_9 rfl ?_
    refine L_aload_n eX11_takePiece_10 rfl ?_
    refine L_get eX11_takePiece_11 f_X11_197.g rfl rfl ?_
    refine L_iload_n eX11_takePiece_14 rfl ?_
    refine V_iadd eX11_takePiece_15 ?_
    refine L_bipush eX11_takePiece_16 rfl ?_
    -- at 18: .if_icmp .gt 7
    refine V_icmpgt eX11_takePiece_18 (fun h2 => ?_) (fun h2 => ?_)
    · refine V_iconst eX11_takePiece_25 ?_
      refine V_iconst eX11_takePiece_26 ?_
      refine L_aload_n eX11_takePiece_27 rfl ?_
      refine L_get eX11_takePiece_28 f_X11_171.g rfl rfl ?_
      rw [n1]
      refine C_v1 (p_X11_want_bad e4 (by omega)) v_X11_189 eX11_takePiece_31 rfl rfl ?_
      have g4 : uF (uF F1 66 20 4) 66 21 (skp (A 73) n a) 66 20 = 4 := by rw [uF_ne (by decide), uF_eq]
      refine L_istore_n eX11_takePiece_34 (s_2 rfl rfl) ?_
      refine L_aload_n eX11_takePiece_35 rfl ?_
      refine L_get eX11_takePiece_36 f_X11_164.g rfl rfl ?_
      -- at 39: .ifCond .ne 37
      refine V_ifne eX11_takePiece_39 (fun h3 => ?_) (fun h3 => ?_)
      · refine tp_f76 (by omega) (ar1.fr (by rw [uF_ne (by decide), uF_ne (by decide)]) (fun _ _ _ => rfl)) (bad _ 4 (skp (A 73) n a) (f1.tr (fun o k q => by rw [uF_ne (by omega), uF_ne (by omega)])) g4 uF_eq (by omega) ?_) _ _ _ _ _ v1
        unfold pcM
        rw [o1]
        show (if 12 < (L.length : Int) + cnt then _ else _) = _
        rw [if_pos c1]
      · omega
    · omega
  refine L_aload_n eX11_takePiece_9 rfl ?_
  refine L_aload_n eX11_takePiece_10 rfl ?_
  refine L_get eX11_takePiece_11 f_X11_197.g rfl rfl ?_
  refine L_iload_n eX11_takePiece_14 rfl ?_
  refine V_iadd eX11_takePiece_15 ?_
  refine L_bipush eX11_takePiece_16 rfl ?_
  -- at 18: .if_icmp .gt 7
  refine V_icmpgt eX11_takePiece_18 (fun h2 => ?_) (fun h2 => ?_)
  · omega
  refine V_iconst eX11_takePiece_21 ?_
  refine V_goto eX11_takePiece_22 ?_
  refine V_iconst eX11_takePiece_26 ?_
  refine L_aload_n eX11_takePiece_27 rfl ?_
  refine L_get eX11_takePiece_28 f_X11_171.g rfl rfl ?_
  refine C_v1 (p_X11_want_ok (by omega)) v_X11_189 eX11_takePiece_31 rfl rfl ?_
  rw [if_pos e4]
  refine L_istore_n eX11_takePiece_34 (s_2 rfl rfl) ?_
  refine L_aload_n eX11_takePiece_35 rfl ?_
  refine L_get eX11_takePiece_36 f_X11_164.g rfl rfl ?_
  -- at 39: .ifCond .ne 37
  refine V_ifne eX11_takePiece_39 (fun h3 => ?_) (fun h3 => ?_)
  · omega
  -- strands
  have hn2 : F1 66 16 = n := by rw [f1 66 16 (by decide)]; exact hn
  have hab1 : 0 ≤ a2 ∧ a2 ≤ n := by omega
  have hsk2 : a2 ≤ skp (A 73) n a2 ∧ skp (A 73) n a2 ≤ n := rn_ge hab1.2
  obtain ⟨F2, hW, f2, g17, g18, g19, g20, g21⟩ := m_takeWord (F := F1) hT hn2 e2 hab1
  have f2' := f1.tr f2
  have hIW := m_isWord (F := F2) (j := 2) (q := skp (A 73) n a2) (c0 := 115) (c1 := 116) (c2 := 114) (c3 := 97) (c4 := 110) (c5 := 100) (c6 := 115) hT (by rw [f2' 66 16 (by decide)]; exact hn) g18 (by omega) g19 (by decide) (fun k x y => by
    have y' : k < 7 := y
    rcases (show k = 0 ∨ k = 1 ∨ k = 2 ∨ k = 3 ∨ k = 4 ∨ k = 5 ∨ k = 6 by omega) with e | e | e | e | e | e | e <;> subst e <;> decide +kernel)
  refine L_aload_n eX11_takePiece_42 rfl ?_
  refine C_v0 (hW G) v_X11_200 eX11_takePiece_43 rfl rfl ?_
  have ar2 : arM F2 A L := h.fr (f2' 66 22 (by decide)) (fun _ _ _ => rfl)
  refine L_aload_n eX11_takePiece_46 rfl ?_
  refine L_aload_n eX11_takePiece_47 rfl ?_
  refine L_bipush eX11_takePiece_48 rfl ?_
  refine L_bipush eX11_takePiece_50 rfl ?_
  refine L_bipush eX11_takePiece_52 rfl ?_
  refine L_bipush eX11_takePiece_54 rfl ?_
  refine L_bipush eX11_takePiece_56 rfl ?_
  refine L_bipush eX11_takePiece_58 rfl ?_
  refine L_bipush eX11_takePiece_60 rfl ?_
  refine L_bipush eX11_takePiece_62 rfl ?_
  refine C_v1 (hIW G) v_X11_203 eX11_takePiece_64 rfl rfl ?_
  by_cases w1 : wm (A 73) n 2 (skp (A 73) n a2)
  rotate_left
  · rw [if_neg w1]
    refine V_iconst eX11_takePiece_67 ?_
    refine L_aload_n eX11_takePiece_68 rfl ?_
    refine L_get eX11_takePiece_69 f_X11_171.g rfl rfl ?_
    rw [g18]
    refine C_v1 (p_X11_want_bad (by omega) (by omega)) v_X11_189 eX11_takePiece_72 rfl rfl ?_
    have g4 : uF (uF F2 66 20 1) 66 21 (skp (A 73) n a2) 66 20 = 1 := by rw [uF_ne (by decide), uF_eq]
    refine L_istore_n eX11_takePiece_75 (s_2 rfl rfl) ?_
    refine tp_f76 (by omega) (ar2.fr (by rw [uF_ne (by decide), uF_ne (by decide)]) (fun _ _ _ => rfl)) (bad _ 1 (skp (A 73) n a2) (f2'.tr (fun o k q => by rw [uF_ne (by omega), uF_ne (by omega)])) g4 uF_eq (by omega) ?_) _ _ _ _ _ v1
    unfold pcM
    rw [o1]
    show (if 12 < (L.length : Int) + cnt then _ else _) = _
    rw [if_neg c1, wd_no w1]
    rfl
  rw [if_pos w1]
  obtain ⟨ow, hw2, hw3⟩ := wd_ok (e := 0) (j := 2) (by decide) hab1 w1
  rw [w1.1] at g17
  obtain ⟨a3, ea3⟩ : ∃ a3, a3 = skp (A 73) n a2 + (sLn.getD 2 0 : Int) := ⟨_, rfl⟩
  rw [← ea3] at ow hw2 hw3 g17
  refine V_iconst eX11_takePiece_67 ?_
  refine L_aload_n eX11_takePiece_68 rfl ?_
  refine L_get eX11_takePiece_69 f_X11_171.g rfl rfl ?_
  refine C_v1 (p_X11_want_ok (by omega)) v_X11_189 eX11_takePiece_72 rfl rfl ?_
  have x20 : F2 66 20 = 0 := by omega
  have x21 : F2 66 21 = F 66 21 := by rw [g21]; exact e5
  obtain ⟨F3, s, hM3, f3, b3, n3, v3, k3⟩ := m_takeNumber (F := F2) (s := 0) (sg := false) (lo := 1) (hi := 16) (Or.inl ⟨rfl, rfl⟩) hT (by rw [f2' 66 16 (by decide)]; exact hn) g17 (by omega) x20 (by omega) (by omega)
  have f3' := f2'.tr f3
  have ar3 : arM F3 A L := h.fr (f3' 66 22 (by decide)) (fun _ _ _ => rfl)
  have en3 := ar3.n
  refine L_istore_n eX11_takePiece_75 (s_2 rfl rfl) ?_
  refine L_aload_n eX11_takePiece_76 rfl ?_
  refine V_iconst eX11_takePiece_77 ?_
  refine L_bipush eX11_takePiece_78 rfl ?_
  refine V_iconst eX11_takePiece_80 ?_
  refine C_v1 (hM3 G) v_X11_193 eX11_takePiece_81 rfl rfl ?_
  refine L_istore_n eX11_takePiece_84 (s_3 rfl rfl) ?_
  rcases nm_k k3 with ⟨a4, o3, y2, y4, y5⟩ | ⟨k, p, o3, kb, y4, y5⟩
  rotate_left
  · refine tp_f85 (by omega) ar3 (bad F3 k p f3' y4 y5 (by omega) ?_) _ _ _ _ _ v1
    unfold pcM
    rw [o1]
    show (if 12 < (L.length : Int) + cnt then _ else _) = _
    rw [if_neg c1, ow]
    show bO' (nmO (A 73) n false 1 16 a3) _ = _
    rw [o3]
    rfl
  have ok3 := nm_ok hT (by omega) o3
  rw [x21] at y5
  have hab4 : 0 ≤ a4 ∧ a4 ≤ n := by omega
  have hsk4 : a4 ≤ skp (A 73) n a4 ∧ skp (A 73) n a4 ≤ n := rn_ge hab4.2
  have hc4 := chA_b (q := skp (A 73) n a4) hT (by omega)
  have rest : ∀ x2 : Int, ¬ (0 < L.length ∧ lsS L < s) → V G mX11_takePiece Q 0 0 129 [some (.ref 66), some (vi cnt), some (vi x2), some (vi s), none, none] [] (sw F3 A) := by
    intro x2 c3
    have hp0 : pcM (A 73) n L a = if chA (A 73) n (skp (A 73) n a4) = 59 then .inr (L ++ List.replicate cnt.toNat (s, 0), skp (A 73) n a4) else (@ite _ (wm (A 73) n 3 (skp (A 73) n a4)) (Classical.propDecidable _) (bO' (nmO (A 73) n false 0 3 (skp (A 73) n a4 + 5)) fun z => .inr (L ++ List.replicate cnt.toNat (s, z.1), z.2)) (.inl (1, skp (A 73) n a4))) := by
      unfold pcM
      rw [o1]
      show (if 12 < (L.length : Int) + cnt then _ else _) = _
      rw [if_neg c1, ow]
      show bO' (nmO (A 73) n false 1 16 a3) _ = _
      rw [o3]
      show (if 0 < L.length ∧ lsS L < s then _ else _) = _
      rw [if_neg c3]
    -- the PIECES
    have add : ∀ (F4 : fT) (f a5 : Int), fr66 F F4 → F4 66 20 = 0 → F4 66 21 = F 66 21 → F4 66 17 = a5 → (a < a5 ∧ a5 ≤ n) → (0 ≤ f ∧ f < 4) → pcM (A 73) n L a = .inr (L ++ List.replicate cnt.toNat (s, f), a5) → ∀ (x2 : Int), V G mX11_takePiece Q 0 0 188 [some (.ref 66), some (vi cnt), some (vi x2), some (vi s), some (vi f), none] [] (sw F4 A) := by
      intro F4 f a5 f4 z20 z21 z17 za zf zp x2
      have LOOP : ∀ (r i : Nat) (F5 : fT) (A5 : nT), (i : Int) + r = cnt → arM F5 A5 (L ++ List.replicate i (s, f)) → (∀ o k, (o ≠ 66 ∨ k ≠ 22) → F5 o k = F4 o k) → (∀ o, o < 74 ∨ 75 < o → A5 o = A o) → V G mX11_takePiece Q 0 0 191 [some (.ref 66), some (vi cnt), some (vi x2), some (vi s), some (vi f), some (vi (i : Int))] [] (sw F5 A5) := by
        intro r
        induction r with
        | zero =>
          intro i F5 A5 q1 ar5 ff5 fa5
          refine L_iload eX11_takePiece_191 rfl ?_
          refine L_iload_n eX11_takePiece_193 rfl ?_
          -- at 194: .if_icmp .ge 47
          refine V_icmpge eX11_takePiece_194 (fun h4 => ?_) (fun h4 => ?_)
          · refine V_return eX11_takePiece_241 ?_
            rw [← hQ]
            refine ⟨F5, A5, rfl, rfl, ⟨fun o k q => by rw [ff5 o k (by omega)]; exact f4 o k (by omega), fa5⟩, ?_⟩
            rw [zp]
            refine ⟨by rw [ff5 66 20 (by decide)]; exact z20, by rw [ff5 66 21 (by decide)]; exact z21, by rw [ff5 66 17 (by decide)]; exact z17, za, ?_⟩
            show arM F5 A5 (L ++ List.replicate cnt.toNat (s, f))
            rw [show cnt.toNat = i by omega]
            exact ar5
          · omega
        | succ r ih =>
          intro i F5 A5 q1 ar5 ff5 fa5
          have en5 := ar5.n
          rw [List.length_append, List.length_replicate] at en5
          have n22 : 0 ≤ F5 66 22 ∧ F5 66 22 < 12 := by omega
          have z5 : F5 66 20 = 0 := by rw [ff5 66 20 (by decide)]; exact z20
          refine L_iload eX11_takePiece_191 rfl ?_
          refine L_iload_n eX11_takePiece_193 rfl ?_
          -- at 194: .if_icmp .ge 47
          refine V_icmpge eX11_takePiece_194 (fun h4 => ?_) (fun h4 => ?_)
          · omega
          · refine L_aload_n eX11_takePiece_197 rfl ?_
            refine L_get eX11_takePiece_198 f_X11_164.g rfl rfl ?_
            -- at 201: .ifCond .ne 40
            refine V_ifne eX11_takePiece_201 (fun h5 => ?_) (fun h5 => ?_)
            · omega
            · refine L_aload_n eX11_takePiece_204 rfl ?_
              refine L_getR (r := 74) eX11_takePiece_205 f_X11_35.g rfl rfl (by decide) ?_
              refine L_aload_n eX11_takePiece_208 rfl ?_
              refine L_get eX11_takePiece_209 f_X11_197.g rfl rfl ?_
              refine L_iload_n eX11_takePiece_212 rfl ?_
              refine L_iast eX11_takePiece_213 rfl ?_
              refine L_aload_n eX11_takePiece_214 rfl ?_
              refine L_getR (r := 75) eX11_takePiece_215 f_X11_38.g rfl rfl (by decide) ?_
              refine L_aload_n eX11_takePiece_218 rfl ?_
              refine L_get eX11_takePiece_219 f_X11_197.g rfl rfl ?_
              refine L_iload eX11_takePiece_222 rfl ?_
              refine L_iast eX11_takePiece_224 rfl ?_
              refine L_aload_n eX11_takePiece_225 rfl ?_
              refine L_dup eX11_takePiece_226 ?_
              refine L_get eX11_takePiece_227 f_X11_197.g rfl rfl ?_
              refine V_iconst eX11_takePiece_230 ?_
              refine V_iadd eX11_takePiece_231 ?_
              refine L_put eX11_takePiece_232 f_X11_197 rfl rfl ?_
              refine L_iinc eX11_takePiece_235 rfl (s_5 rfl rfl) ?_
              refine V_goto eX11_takePiece_238 ?_
              refine ih (i + 1) _ _ (by omega) ?_ (fun o k q => by rw [uF_ne q]; exact ff5 o k q) (fun o q => by rw [sA_ne (by omega), sA_ne (by omega)]; exact fa5 o q)
              have el : L ++ List.replicate (i + 1) (s, f) = (L ++ List.replicate i (s, f)) ++ [(s, f)] := by
                rw [List.replicate_succ', List.append_assoc]
              rw [el]
              generalize L ++ List.replicate i (s, f) = L1 at *
              have en6 := ar5.n
              refine arM.mk ?_ ?_ ?_ ?_
              · rw [uF_eq, List.length_append, en6]
                rfl
              · rw [List.length_append]
                show L1.length + 1 ≤ 12
                omega
              · intro k hk
                rw [List.length_append] at hk
                have hk' : k < L1.length + 1 := hk
                by_cases c : k < L1.length
                · rw [List.getElem_append_left c]
                  have := ar5.s k c
                  have cne : (k : Int) ≠ F5 66 22 := by omega
                  simp [sA]
                  rw [uI_ne cne, uI_ne cne]
                  exact this
                · have ce : (k : Int) = F5 66 22 := by omega
                  rw [List.getElem_append_right (by omega)]
                  simp [sA, ce]
                  rw [uI_eq, uI_eq]
                  exact ⟨rfl, rfl⟩
              · intro k hk
                rw [List.length_append] at hk
                have hk' : k < L1.length + 1 := hk
                by_cases c : k < L1.length
                · rw [List.getElem_append_left c]
                  exact ar5.b k c
                · rw [List.getElem_append_right (by omega)]
                  simp
                  omega
      refine V_iconst eX11_takePiece_188 ?_
      refine L_istore eX11_takePiece_189 (s_5 rfl rfl) ?_
      exact LOOP cnt.toNat 0 F4 A (by omega) (by rw [List.replicate_zero, List.append_nil]; exact h.fr (f4 66 22 (by decide)) (fun _ _ _ => rfl)) (fun _ _ _ => rfl) (fun _ _ => rfl)
    have hHr := p_X11_here (G := G) (F := F3) hT (by rw [f3' 66 16 (by decide)]; exact hn) y2 hab4
    refine V_iconst eX11_takePiece_129 ?_
    refine L_istore eX11_takePiece_130 (s_4 rfl rfl) ?_
    refine L_aload_n eX11_takePiece_132 rfl ?_
    refine L_get eX11_takePiece_133 f_X11_164.g rfl rfl ?_
    -- at 136: .ifCond .ne 52
    refine V_ifne eX11_takePiece_136 (fun h4 => ?_) (fun h4 => ?_)
    · omega
    · refine L_aload_n eX11_takePiece_139 rfl ?_
      refine C_v1 hHr v_X11_167 eX11_takePiece_140 rfl rfl ?_
      obtain ⟨F4, eF4⟩ : ∃ F4, F4 = uF F3 66 17 (skp (A 73) n a4) := ⟨_, rfl⟩
      rw [← eF4]
      have f4 : fr66 F F4 := f3'.tr (fun o k q => by rw [eF4, uF_ne (by omega)])
      have z17 : F4 66 17 = skp (A 73) n a4 := by rw [eF4, uF_eq]
      have z20 : F4 66 20 = 0 := by rw [eF4, uF_ne (by decide)]; exact y4
      have z21 : F4 66 21 = F 66 21 := by rw [eF4, uF_ne (by decide)]; exact y5
      refine L_bipush eX11_takePiece_143 rfl ?_
      -- at 145: .if_icmp .eq 43
      refine V_icmpeq eX11_takePiece_145 (fun h5 => ?_) (fun h5 => ?_)
      · exact add F4 0 (skp (A 73) n a4) f4 z20 z21 z17 (by omega) (by omega) (by rw [hp0, if_pos h5]) _
      · rw [if_neg h5] at hp0
        have hss : skp (A 73) n (skp (A 73) n a4) = skp (A 73) n a4 := rn_rn (by omega)
        obtain ⟨F5, hW5, f5, i17, i18, i19, i20, i21⟩ := m_takeWord (F := F4) hT (by rw [f4 66 16 (by decide)]; exact hn) z17 (by omega)
        rw [hss] at i17 i18 i19
        have f5' := f4.tr f5
        have hIW5 := m_isWord (F := F5) (j := 3) (q := skp (A 73) n a4) (c0 := 115) (c1 := 116) (c2 := 117) (c3 := 102) (c4 := 102) (c5 := 0) (c6 := 0) hT (by rw [f5' 66 16 (by decide)]; exact hn) i18 (by omega) i19 (by decide) (fun k x y => by
          have y' : k < 5 := y
          rcases (show k = 0 ∨ k = 1 ∨ k = 2 ∨ k = 3 ∨ k = 4 by omega) with e | e | e | e | e <;> subst e <;> decide +kernel)
        refine L_aload_n eX11_takePiece_148 rfl ?_
        refine C_v0 (hW5 G) v_X11_200 eX11_takePiece_149 rfl rfl ?_
        refine L_aload_n eX11_takePiece_152 rfl ?_
        refine L_aload_n eX11_takePiece_153 rfl ?_
        refine V_iconst eX11_takePiece_154 ?_
        refine L_bipush eX11_takePiece_155 rfl ?_
        refine L_bipush eX11_takePiece_157 rfl ?_
        refine L_bipush eX11_takePiece_159 rfl ?_
        refine L_bipush eX11_takePiece_161 rfl ?_
        refine L_bipush eX11_takePiece_163 rfl ?_
        refine V_iconst eX11_takePiece_165 ?_
        refine V_iconst eX11_takePiece_166 ?_
        refine C_v1 (hIW5 G) v_X11_203 eX11_takePiece_167 rfl rfl ?_
        by_cases w2 : wm (A 73) n 3 (skp (A 73) n a4)
        · rw [if_pos w2] at hp0 ⊢
          obtain ⟨-, hv2, hv3⟩ := wd_ok (e := 0) (j := 3) (by decide) hab4 w2
          rw [w2.1] at i17
          have e5 : (sLn.getD 3 0 : Int) = 5 := rfl
          rw [e5] at hv2 hv3 i17
          refine V_iconst eX11_takePiece_170 ?_
          refine L_aload_n eX11_takePiece_171 rfl ?_
          refine L_get eX11_takePiece_172 f_X11_171.g rfl rfl ?_
          refine C_v1 (p_X11_want_ok (by omega)) v_X11_189 eX11_takePiece_175 rfl rfl ?_
          obtain ⟨F6, f, hM6, f6, b6, n6, v6, k6⟩ := m_takeNumber (F := F5) (s := 0) (sg := false) (lo := 0) (hi := 3) (Or.inl ⟨rfl, rfl⟩) hT (by rw [f5' 66 16 (by decide)]; exact hn) i17 (by omega) (by omega) (by omega) (by omega)
          refine L_istore_n eX11_takePiece_178 (s_2 rfl rfl) ?_
          refine L_aload_n eX11_takePiece_179 rfl ?_
          refine V_iconst eX11_takePiece_180 ?_
          refine V_iconst eX11_takePiece_181 ?_
          refine V_iconst eX11_takePiece_182 ?_
          refine C_v1 (hM6 G) v_X11_193 eX11_takePiece_183 rfl rfl ?_
          refine L_istore eX11_takePiece_186 (s_4 rfl rfl) ?_
          rcases nm_k k6 with ⟨a6, o6, j2, j4, j5⟩ | ⟨k, p, o6, kb, j4, j5⟩
          · have ok6 := nm_ok hT (by omega) o6
            refine add F6 f a6 (f5'.tr f6) j4 (by rw [j5, i21]; exact z21) j2 (by omega) (by omega) ?_ _
            rw [hp0, o6]
            rfl
          · refine tp_f188 (by omega) (bad F6 k p (f5'.tr f6) j4 j5 (by omega) ?_) _ _ _ _ _ v1
            rw [hp0, o6]
            rfl
        · rw [if_neg w2] at hp0 ⊢
          refine V_iconst eX11_takePiece_170 ?_
          refine L_aload_n eX11_takePiece_171 rfl ?_
          refine L_get eX11_takePiece_172 f_X11_171.g rfl rfl ?_
          rw [i18]
          refine C_v1 (p_X11_want_bad (by omega) (by omega)) v_X11_189 eX11_takePiece_175 rfl rfl ?_
          have g4 : uF (uF F5 66 20 1) 66 21 (skp (A 73) n a4) 66 20 = 1 := by rw [uF_ne (by decide), uF_eq]
          refine L_istore_n eX11_takePiece_178 (s_2 rfl rfl) ?_
          refine L_aload_n eX11_takePiece_179 rfl ?_
          refine V_iconst eX11_takePiece_180 ?_
          refine V_iconst eX11_takePiece_181 ?_
          refine V_iconst eX11_takePiece_182 ?_
          refine C_v1 (m_takeNumber_f (by omega) (by omega) G) v_X11_193 eX11_takePiece_183 rfl rfl ?_
          refine L_istore eX11_takePiece_186 (s_4 rfl rfl) ?_
          exact tp_f188 (by omega) (bad _ 1 (skp (A 73) n a4) (f5'.tr (fun o k q => by rw [uF_ne (by omega), uF_ne (by omega)])) g4 uF_eq (by omega) hp0) _ _ _ _ _ v1
  have okw : ¬ (0 < L.length ∧ lsS L < s) → ∀ x2 : Int, V G mX11_takePiece Q 0 0 115 [some (.ref 66), some (vi cnt), some (vi x2), some (vi s), none, none] [.ref 66] (sw F3 A) := by
    intro c3 x2
    refine V_iconst eX11_takePiece_115 ?_
    refine V_goto eX11_takePiece_116 ?_
    refine V_iconst eX11_takePiece_120 ?_
    refine L_aload_n eX11_takePiece_121 rfl ?_
    refine L_get eX11_takePiece_122 f_X11_171.g rfl rfl ?_
    refine C_v1 (p_X11_want_ok (by omega)) v_X11_189 eX11_takePiece_125 rfl rfl ?_
    refine L_istore_n eX11_takePiece_128 (s_2 rfl rfl) ?_
    exact rest _ c3
  refine L_aload_n eX11_takePiece_85 rfl ?_
  refine L_aload_n eX11_takePiece_86 rfl ?_
  refine L_get eX11_takePiece_87 f_X11_197.g rfl rfl ?_
  -- at 90: .ifCond .eq 25
  refine V_ifeq eX11_takePiece_90 (fun h4 => ?_) (fun h4 => ?_)
  · exact okw (fun c => by omega) _
  · refine L_aload_n eX11_takePiece_93 rfl ?_
    refine L_get eX11_takePiece_94 f_X11_164.g rfl rfl ?_
    -- at 97: .ifCond .gt 18
    refine V_ifgt eX11_takePiece_97 (fun h5 => ?_) (fun h5 => ?_)
    · omega
    · have hs := ar3.s (L.length - 1) (by omega)
      have hbb := ar3.b (L.length - 1) (by omega)
      have els := lsS_at (L := L) (by omega)
      rw [show ((L.length - 1 : Nat) : Int) = F3 66 22 - 1 by omega] at hs
      refine L_iload_n eX11_takePiece_100 rfl ?_
      refine L_aload_n eX11_takePiece_101 rfl ?_
      refine L_getR (r := 74) eX11_takePiece_102 f_X11_35.g rfl rfl (by decide) ?_
      refine L_aload_n eX11_takePiece_105 rfl ?_
      refine L_get eX11_takePiece_106 f_X11_197.g rfl rfl ?_
      refine V_iconst eX11_takePiece_109 ?_
      refine V_isub eX11_takePiece_110 ?_
      refine L_iald eX11_takePiece_111 rfl ?_
      -- at 112: .if_icmp .gt 7
      refine V_icmpgt eX11_takePiece_112 (fun h6 => ?_) (fun h6 => ?_)
      · refine V_iconst eX11_takePiece_119 ?_
        refine V_iconst eX11_takePiece_120 ?_
        refine L_aload_n eX11_takePiece_121 rfl ?_
        refine L_get eX11_takePiece_122 f_X11_171.g rfl rfl ?_
        rw [n3]
        refine C_v1 (p_X11_want_bad y4 (by omega)) v_X11_189 eX11_takePiece_125 rfl rfl ?_
        have g4 : uF (uF F3 66 20 3) 66 21 (skp (A 73) n a3) 66 20 = 3 := by rw [uF_ne (by decide), uF_eq]
        refine L_istore_n eX11_takePiece_128 (s_2 rfl rfl) ?_
        refine tp_f129 (by omega) (bad _ 3 (skp (A 73) n a3) (f3'.tr (fun o k q => by rw [uF_ne (by omega), uF_ne (by omega)])) g4 uF_eq (by omega) ?_) _ _ _ _ _ v1
        unfold pcM
        rw [o1]
        show (if 12 < (L.length : Int) + cnt then _ else _) = _
        rw [if_neg c1, ow]
        show bO' (nmO (A 73) n false 1 16 a3) _ = _
        rw [o3]
        show (if 0 < L.length ∧ lsS L < s then _ else _) = _
        rw [if_pos (by omega)]
      · exact okw (fun c => by omega) _
end P98j

