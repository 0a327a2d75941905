/-! PLAITS told in a text: both sides -/
def rmK (F : fT) (A : nT) (L : pcL) (len hl a fp : Int) : Prop := (arM F A L) ∧ (F 66 23 = len) ∧ (F 66 24 = hl) ∧ (F 66 17 = a) ∧ (F 66 20 = 0) ∧ (F 66 21 = fp)
theorem rmK.ar {F : fT} {A : nT} {L : pcL} {len hl a fp : Int} (h : rmK F A L len hl a fp) : arM F A L := h.1
theorem rmK.len {F : fT} {A : nT} {L : pcL} {len hl a fp : Int} (h : rmK F A L len hl a fp) : F 66 23 = len := h.2.1
theorem rmK.hl {F : fT} {A : nT} {L : pcL} {len hl a fp : Int} (h : rmK F A L len hl a fp) : F 66 24 = hl := h.2.2.1
theorem rmK.at' {F : fT} {A : nT} {L : pcL} {len hl a fp : Int} (h : rmK F A L len hl a fp) : F 66 17 = a := h.2.2.2.1
theorem rmK.k {F : fT} {A : nT} {L : pcL} {len hl a fp : Int} (h : rmK F A L len hl a fp) : F 66 20 = 0 := h.2.2.2.2.1
theorem rmK.p {F : fT} {A : nT} {L : pcL} {len hl a fp : Int} (h : rmK F A L len hl a fp) : F 66 21 = fp := h.2.2.2.2.2
theorem rmK.mk {F : fT} {A : nT} {L : pcL} {len hl a fp : Int} (qar : arM F A L) (qlen : F 66 23 = len) (qhl : F 66 24 = hl) (qat' : F 66 17 = a) (qk : F 66 20 = 0) (qp : F 66 21 = fp) : rmK F A L len hl a fp := ⟨qar, qlen, qhl, qat', qk, qp⟩
def cnK (F1 : fT) (A1 : nT) (n a fp : Int) (o : oT (List (Int × Int) × Int × Int × Int)) : Prop := match o with
  | .inl e => (0 ≤ F1 66 22 ∧ F1 66 22 ≤ 12) ∧ F1 66 20 = e.1 ∧ F1 66 21 = e.2 ∧ 1 ≤ e.1 ∧ e.1 ≤ 9
  | .inr x => rmK F1 A1 x.1 x.2.1 x.2.2.1 x.2.2.2 fp ∧ (a < x.2.2.2 ∧ x.2.2.2 ≤ n) ∧ (x.2.2.1 = 0 ∨ x.2.2.1 = 1) ∧ 20 ≤ x.2.1 ∧ x.2.1 ≤ 200
section P98k
variable {F : fT} {A : nT} {L : List (Int × Int)} {n a len hl fp : Int}
/-- one clause, from its first letter to behind its ';' -/
theorem m_clause {G : gT} {Q : Option Value → wT → Prop} (hT : txT n (A 73)) (hn : F 66 16 = n) (hq : 0 ≤ a ∧ a ≤ n) (hs : skp (A 73) n a = a) (R : rmK F A L len hl a fp) (hh : hl = 0 ∨ hl = 1) (hlen : 20 ≤ len ∧ len ≤ 200) (x1 x2 : Option Value) (nx : ∀ (F1 : fT) (A1 : nT) (b : Int), frY F F1 A A1 → cnK F1 A1 n a fp (clO (A 73) n L len hl a) → V G mX11_plait Q 0 0 20 [some (.ref 66), some (vi b), x2] [] (sw F1 A1)) : V G mX11_plait Q 0 0 34 [some (.ref 66), x1, x2] [] (sw F A) := by
  have hn1 := hT.1
  have n22 : 0 ≤ F 66 22 ∧ F 66 22 ≤ 12 := by
    have := R.ar.n
    have := R.ar.le
    omega
  obtain ⟨F1, hW, f1, g17, g18, g19, g20, g21⟩ := m_takeWord (F := F) hT hn R.at' hq
  rw [hs] at g17 g18 g19
  have hn2 : F1 66 16 = n := by rw [f1 66 16 (by decide)]; exact hn
  have k20 : F1 66 20 = 0 := by rw [g20]; exact R.k
  have hI0 := m_isWord (F := F1) (j := 0) (q := a) (c0 := 112) (c1 := 105) (c2 := 101) (c3 := 99) (c4 := 101) (c5 := 0) (c6 := 0) hT hn2 g18 hq g19 (by decide) (fun k x y => by
    have y' : k < 5 := y
    rcases (show k = 0 ∨ k = 1 ∨ k = 2 ∨ k = 3 ∨ k = 4 by omega) with e | e | e | e | e <;> subst e <;> decide +kernel)
  have hI1 := m_isWord (F := F1) (j := 1) (q := a) (c0 := 108) (c1 := 101) (c2 := 110) (c3 := 103) (c4 := 116) (c5 := 104) (c6 := 0) hT hn2 g18 hq g19 (by decide) (fun k x y => by
    have y' : k < 6 := y
    rcases (show k = 0 ∨ k = 1 ∨ k = 2 ∨ k = 3 ∨ k = 4 ∨ k = 5 by omega) with e | e | e | e | e | e <;> subst e <;> decide +kernel)
  -- the sign behind a FAULT
  have bad : ∀ (F2 : fT) (A2 : nT) (b k p : Int), frY F F2 A A2 → (0 ≤ F2 66 22 ∧ F2 66 22 ≤ 12) → F2 66 20 = k → F2 66 21 = p → (1 ≤ k ∧ k ≤ 9) → clO (A 73) n L len hl a = .inl (k, p) → V G mX11_plait Q 0 0 138 [some (.ref 66), some (vi b), x2] [] (sw F2 A2) := fun F2 A2 b k p f e0 e1 e2 e3 e4 => by
    refine L_aload_n eX11_plait_138 rfl ?_
    refine L_bipush eX11_plait_139 rfl ?_
    refine C_v0 (m_takeSign_f (by omega) (by omega) G) v_X11_220 eX11_plait_141 rfl rfl ?_
    refine V_goto eX11_plait_144 ?_
    refine nx F2 A2 b f ?_
    rw [e4]
    exact ⟨e0, e1, e2, e3⟩
  refine L_aload_n eX11_plait_34 rfl ?_
  refine C_v0 (hW G) v_X11_200 eX11_plait_35 rfl rfl ?_
  refine L_aload_n eX11_plait_38 rfl ?_
  refine L_get eX11_plait_39 f_X11_171.g rfl rfl ?_
  rw [g18]
  refine L_istore_n eX11_plait_42 (s_1 rfl rfl) ?_
  refine L_aload_n eX11_plait_43 rfl ?_
  refine V_iconst eX11_plait_44 ?_
  refine L_bipush eX11_plait_45 rfl ?_
  refine L_bipush eX11_plait_47 rfl ?_
  refine L_bipush eX11_plait_49 rfl ?_
  refine L_bipush eX11_plait_51 rfl ?_
  refine L_bipush eX11_plait_53 rfl ?_
  refine V_iconst eX11_plait_55 ?_
  refine V_iconst eX11_plait_56 ?_
  refine C_v1 (hI0 G) v_X11_203 eX11_plait_57 rfl rfl ?_
  by_cases w0 : wm (A 73) n 0 a
  · rw [if_pos w0]
    have hw := (wm_i (T := A 73) (n := n) (q := a) (j := 0) (by decide) hq).mp w0
    have e5 : (sLn.getD 0 0 : Int) = 5 := rfl
    rw [w0.1, e5] at g17
    rw [e5] at hw
    have h5 := hw.1
    have ec : clO (A 73) n L len hl a = bO' (pcO (A 73) n L (a + 5)) fun x => .inr (x.1, len, hl, x.2) := if_pos w0
    rw [← pcM_eq hT (by omega)] at ec
    refine V_ifeq eX11_plait_60 (fun h2 => ?_) (fun h2 => ?_)
    · omega
    refine L_aload_n eX11_plait_63 rfl ?_
    refine C_vq (m_takePiece (G := G) (F := F1) (A := A) (L := L) (a := a + 5) hT hn2 g17 (by omega) k20 (R.ar.fr (f1 66 22 (by decide)) (fun _ _ _ => rfl))) v_X11_217 eX11_plait_64 rfl rfl (fun r' w' e' => ?_)
    obtain ⟨F2, A2, er, ew, fr2, cl⟩ := e'
    subst er ew
    have e73 : A2 73 = A 73 := fr2.2 73 (by decide)
    have fy : frY F F2 A A2 := ⟨fun o k q => by rw [fr2.1 o k (by omega)]; exact f1 o k (by omega), fr2.2⟩
    refine V_goto eX11_plait_67 ?_
    revert cl ec
    cases pcM (A 73) n L (a + 5) with
    | inl e =>
      intro ec cl
      obtain ⟨c0, c1, c2, c3⟩ := cl
      exact bad F2 A2 _ e.1 e.2 fy c0 c1 c2 c3 ec
    | inr x =>
      intro ec cl
      obtain ⟨c1, c2, c3, c4, c5⟩ := cl
      have c2' : F2 66 21 = fp := by rw [c2, g21]; exact R.p
      have ec' : clO (A 73) n L len hl a = bO' (bO' (sgO (A 73) n 59 x.2) fun a6 => .inr (x.1, a6)) fun x => .inr (x.1, len, hl, x.2) := ec
      obtain ⟨F3, hS, f3, s18, alt⟩ := m_takeSign (F := F2) (A := A2) (s := 59) (by omega) (by rw [e73]; exact hT) (by rw [fr2.1 66 16 (by decide)]; exact hn2) c3 (by omega) c1
      rw [e73] at alt
      refine L_aload_n eX11_plait_138 rfl ?_
      refine L_bipush eX11_plait_139 rfl ?_
      refine C_v0 (hS G) v_X11_220 eX11_plait_141 rfl rfl ?_
      refine V_goto eX11_plait_144 ?_
      refine nx F3 A2 _ (fy.tr (frY.of f3)) ?_
      rcases alt with ⟨q1, q2, q3, q4⟩ | ⟨q1, q2, q3, q4⟩
      · obtain ⟨og, hg2, hg3⟩ := sg_ok (s := 59) (by omega) hT (show 0 ≤ x.2 ∧ x.2 ≤ n by omega) q1
        rw [ec', og]
        refine ⟨rmK.mk ?_ ?_ ?_ q2 q3 (q4.trans c2'), by show a < skp (A 73) n x.2 + 1 ∧ skp (A 73) n x.2 + 1 ≤ n; omega, hh, hlen⟩
        · exact c5.fr (f3 66 22 (by decide)) (fun _ _ _ => rfl)
        · rw [f3 66 23 (by decide), fr2.1 66 23 (by decide), f1 66 23 (by decide)]; exact R.len
        · rw [f3 66 24 (by decide), fr2.1 66 24 (by decide), f1 66 24 (by decide)]; exact R.hl
      · rw [ec', sg_no q1]
        have hc5 := c5.n
        have hc6 := c5.le
        exact ⟨by rw [f3 66 22 (by decide)]; omega, q3, q4, by show (1 : Int) ≤ 1; decide, by show (1 : Int) ≤ 9; decide⟩
  · rw [if_neg w0]
    refine V_ifeq eX11_plait_60 (fun h2 => ?_) (fun h2 => ?_)
    rotate_left
    · omega
    refine L_aload_n eX11_plait_70 rfl ?_
    refine L_aload_n eX11_plait_71 rfl ?_
    refine L_bipush eX11_plait_72 rfl ?_
    refine L_bipush eX11_plait_74 rfl ?_
    refine L_bipush eX11_plait_76 rfl ?_
    refine L_bipush eX11_plait_78 rfl ?_
    refine L_bipush eX11_plait_80 rfl ?_
    refine L_bipush eX11_plait_82 rfl ?_
    refine L_bipush eX11_plait_84 rfl ?_
    refine V_iconst eX11_plait_86 ?_
    refine C_v1 (hI1 G) v_X11_203 eX11_plait_87 rfl rfl ?_
    by_cases w1 : wm (A 73) n 1 a
    · rw [if_pos w1]
      have hw := (wm_i (T := A 73) (n := n) (q := a) (j := 1) (by decide) hq).mp w1
      have e6 : (sLn.getD 1 0 : Int) = 6 := rfl
      rw [w1.1, e6] at g17
      rw [e6] at hw
      have h6 := hw.1
      have ec : clO (A 73) n L len hl a = bO' (lnO (A 73) n hl a) fun x => .inr (L, x.1, 1, x.2) := by
        unfold clO
        rw [if_neg w0, if_pos w1]
      refine V_iconst eX11_plait_90 ?_
      refine L_iload_n eX11_plait_91 rfl ?_
      refine C_v1 (p_X11_want_ok (by omega)) v_X11_189 eX11_plait_92 rfl rfl ?_
      refine V_ifeqB eX11_plait_95 (fun h3 => ?_) (fun h3 => ?_)
      · exact absurd k20 h3
      · have r24 : F1 66 24 = hl := by rw [f1 66 24 (by decide)]; exact R.hl
        refine L_aload_n eX11_plait_98 rfl ?_
        refine L_aload_n eX11_plait_99 rfl ?_
        refine L_get eX11_plait_100 f_X11_213.g rfl rfl ?_
        -- at 103: .ifCond .ne 7
        refine V_ifne eX11_plait_103 (fun h4 => ?_) (fun h4 => ?_)
        · have el : lnO (A 73) n hl a = .inl (5, a) := if_pos (by omega)
          refine V_iconst eX11_plait_110 ?_
          refine V_iconst eX11_plait_111 ?_
          refine L_iload_n eX11_plait_112 rfl ?_
          refine C_v1 (p_X11_want_bad k20 (by omega)) v_X11_189 eX11_plait_113 rfl rfl ?_
          have g4 : uF (uF F1 66 20 5) 66 21 a 66 20 = 5 := by rw [uF_ne (by decide), uF_eq]
          refine V_ifeq eX11_plait_116 (fun h5 => ?_) (fun h5 => ?_)
          · refine bad _ A _ 5 a ((frY.of f1).tr ⟨fun o k q => by rw [uF_ne (by omega), uF_ne (by omega)], fun _ _ => rfl⟩) (by rw [uF_ne (by decide), uF_ne (by decide), f1 66 22 (by decide)]; exact n22) g4 uF_eq (by omega) ?_
            rw [ec, el]
            rfl
          · omega
        · have el : lnO (A 73) n hl a = bO' (nmO (A 73) n false 20 200 (a + 6)) fun x => bO' (sgO (A 73) n 59 x.2) fun a3 => .inr (x.1, a3) := by
            unfold lnO
            rw [if_neg (by omega)]
          refine V_iconst eX11_plait_106 ?_
          refine V_goto eX11_plait_107 ?_
          refine V_iconst eX11_plait_111 ?_
          refine L_iload_n eX11_plait_112 rfl ?_
          refine C_v1 (p_X11_want_ok (by omega)) v_X11_189 eX11_plait_113 rfl rfl ?_
          rw [if_pos k20]
          refine V_ifeq eX11_plait_116 (fun h5 => ?_) (fun h5 => ?_)
          · omega
          refine L_aload_n eX11_plait_119 rfl ?_
          refine V_iconst eX11_plait_120 ?_
          refine L_putZ eX11_plait_121 f_X11_213 rfl rfl ?_
          obtain ⟨F2, eF2⟩ : ∃ F2, F2 = uF F1 66 24 1 := ⟨_, rfl⟩
          rw [← eF2]
          have fy2 : frY F F2 A A := (frY.of f1).tr ⟨fun o k q => by rw [eF2, uF_ne (by omega)], fun _ _ => rfl⟩
          obtain ⟨F3, v, hM, f3, b3, n3, vb, k3⟩ := m_takeNumber (F := F2) (s := 0) (sg := false) (lo := 20) (hi := 200) (Or.inl ⟨rfl, rfl⟩) hT (by rw [eF2, uF_ne (by decide)]; exact hn2) (show F2 66 17 = a + 6 by rw [eF2, uF_ne (by decide)]; exact g17) (by omega) (by rw [eF2, uF_ne (by decide)]; exact k20) (by omega) (by omega)
          refine L_aload_n eX11_plait_124 rfl ?_
          refine L_aload_n eX11_plait_125 rfl ?_
          refine L_bipush eX11_plait_126 rfl ?_
          refine L_sipush eX11_plait_128 rfl ?_
          refine V_iconst eX11_plait_131 ?_
          refine C_v1 (hM G) v_X11_193 eX11_plait_132 rfl rfl ?_
          refine L_put eX11_plait_135 f_X11_210 rfl rfl ?_
          have fy3 : frY F (uF F3 66 23 v) A A := fy2.tr ⟨fun o k q => by rw [uF_ne (by omega)]; exact f3 o k (by omega), fun _ _ => rfl⟩
          have m22 : uF F3 66 23 v 66 22 = F 66 22 := by rw [uF_ne (by decide), f3 66 22 (by decide), eF2, uF_ne (by decide), f1 66 22 (by decide)]
          rcases nm_k k3 with ⟨a2, o3, y2, y4, y5⟩ | ⟨k, p, o3, kb, y4, y5⟩
          · have ok3 := nm_ok hT (by omega) o3
            obtain ⟨F4, hS, f4, s18, alt⟩ := m_takeSign (F := uF F3 66 23 v) (A := A) (s := 59) (a := a2) (by omega) hT (by rw [uF_ne (by decide), f3 66 16 (by decide), eF2, uF_ne (by decide)]; exact hn2) (by rw [uF_ne (by decide)]; exact y2) (by omega) (by rw [uF_ne (by decide)]; exact y4)
            have y5' : uF F3 66 23 v 66 21 = fp := by rw [uF_ne (by decide), y5, eF2, uF_ne (by decide), g21]; exact R.p
            refine L_aload_n eX11_plait_138 rfl ?_
            refine L_bipush eX11_plait_139 rfl ?_
            refine C_v0 (hS G) v_X11_220 eX11_plait_141 rfl rfl ?_
            refine V_goto eX11_plait_144 ?_
            refine nx F4 A _ (fy3.tr (frY.of f4)) ?_
            rw [ec, el, o3]
            show cnK F4 A n a fp (bO' (bO' (sgO (A 73) n 59 a2) _) _)
            rcases alt with ⟨q1, q2, q3, q4⟩ | ⟨q1, q2, q3, q4⟩
            · obtain ⟨og, hg2, hg3⟩ := sg_ok (s := 59) (by omega) hT (show 0 ≤ a2 ∧ a2 ≤ n by omega) q1
              rw [og]
              refine ⟨rmK.mk ?_ ?_ ?_ q2 q3 (q4.trans y5'), by show a < skp (A 73) n a2 + 1 ∧ skp (A 73) n a2 + 1 ≤ n; omega, Or.inr rfl, ok3.1⟩
              · exact R.ar.fr (by rw [f4 66 22 (by decide)]; exact m22) (fun _ _ _ => rfl)
              · rw [f4 66 23 (by decide), uF_eq]
              · rw [f4 66 24 (by decide), uF_ne (by decide), f3 66 24 (by decide), eF2, uF_eq]
            · rw [sg_no q1]
              exact ⟨by rw [f4 66 22 (by decide), m22]; exact n22, q3, q4, by show (1 : Int) ≤ 1; decide, by show (1 : Int) ≤ 9; decide⟩
          · refine bad _ A _ k p fy3 (by rw [m22]; exact n22) (by rw [uF_ne (by decide)]; exact y4) (by rw [uF_ne (by decide)]; exact y5) (by omega) ?_
            rw [ec, el, o3]
            rfl
    · rw [if_neg w1]
      refine V_iconst eX11_plait_90 ?_
      refine L_iload_n eX11_plait_91 rfl ?_
      refine C_v1 (p_X11_want_bad k20 (by omega)) v_X11_189 eX11_plait_92 rfl rfl ?_
      have g4 : uF (uF F1 66 20 1) 66 21 a 66 20 = 1 := by rw [uF_ne (by decide), uF_eq]
      refine V_ifeq eX11_plait_95 (fun h5 => ?_) (fun h5 => ?_)
      · refine bad _ A _ 1 a ((frY.of f1).tr ⟨fun o k q => by rw [uF_ne (by omega), uF_ne (by omega)], fun _ _ => rfl⟩) (by rw [uF_ne (by decide), uF_ne (by decide), f1 66 22 (by decide)]; exact n22) g4 uF_eq (by omega) ?_
        unfold clO
        rw [if_neg w0, if_neg w1]
      · omega
/-- the whole reading, up to where the text is emptied -/
def pmK (F1 : fT) (A1 : nT) (o : oT (List (Int × Int) × Int)) : Prop := match o with
  | .inl e => F1 66 20 = e.1 ∧ F1 66 21 = e.2 ∧ 1 ≤ e.1 ∧ e.1 ≤ 9
  | .inr x => F1 66 20 = 0 ∧ F1 66 21 = -1 ∧ arM F1 A1 x.1 ∧ F1 66 23 = x.2 ∧ 0 < x.1.length ∧ 20 ≤ x.2 ∧ x.2 ≤ 200
theorem m_plait1 {G : gT} {Q : Option Value → wT → Prop} (hT : txT n (A 73)) (hn : F 66 16 = n) (fin : ∀ (F1 : fT) (A1 : nT) (b : Int), frY F F1 A A1 → pmK F1 A1 (plO (A 73) n 161 [] 50 0 0) → V G mX11_plait Q 0 0 169 [some (.ref 66), some (vi b), none] [] (sw F1 A1)) : V G mX11_plait Q 0 0 0 [some (.ref 66), none, none] [] (sw F A) := by
  have hn1 := hT.1
  have last : ∀ (F1 : fT) (A1 : nT) (x1 : Option Value), frY F F1 A A1 → (F1 66 20 ≠ 0 ∧ pmK F1 A1 (plO (A 73) n 161 [] 50 0 0) ∧ (0 ≤ F1 66 22 ∧ F1 66 22 ≤ 12) ∨ ∃ (L : List (Int × Int)) (len hl a : Int) (r : Nat), rmK F1 A1 L len hl a (-1) ∧ (20 ≤ len ∧ len ≤ 200) ∧ ¬ skp (A 73) n a < n ∧ a = n ∧ plO (A 73) n 161 [] 50 0 0 = plO (A 73) n (r + 1) L len hl a) → V G mX11_plait Q 0 0 147 [some (.ref 66), x1, none] [] (sw F1 A1) := by
    intro F1 A1 x1 f h
    rcases h with ⟨h0, h1, h2⟩ | ⟨L, len, hl, a, r, R, hlen, hsk, ean, e⟩
    · have hb : 0 ≤ F1 66 20 ∧ F1 66 20 ≤ 9 := by
        revert h1
        cases plO (A 73) n 161 [] 50 0 0 with
        | inl e => intro h1; have := h1; unfold pmK at this; omega
        | inr x => intro h1; exact absurd h1.1 h0
      have t : ∀ z : Int, (z = 0 ∨ z = 1) → V G mX11_plait Q 0 0 160 [some (.ref 66), x1, none] [vi z, .ref 66] (sw F1 A1) := fun z hz => by
        refine V_iconst eX11_plait_160 ?_
        refine L_aload_n eX11_plait_161 rfl ?_
        refine L_get eX11_plait_162 f_X11_161.g rfl rfl ?_
        refine C_v1 (p_X11_want_no hz h0 hb) v_X11_189 eX11_plait_165 rfl rfl ?_
        refine L_istore_n eX11_plait_168 (s_1 rfl rfl) ?_
        exact fin F1 A1 _ f h1
      refine L_aload_n eX11_plait_147 rfl ?_
      refine L_aload_n eX11_plait_148 rfl ?_
      refine L_get eX11_plait_149 f_X11_197.g rfl rfl ?_
      -- at 152: .ifCond .le 7
      refine V_ifle eX11_plait_152 (fun h3 => ?_) (fun h3 => ?_)
      · refine V_iconst eX11_plait_159 ?_
        exact t 0 (Or.inl rfl)
      · refine V_iconst eX11_plait_155 ?_
        refine V_goto eX11_plait_156 ?_
        exact t 1 (Or.inr rfl)
    · rw [plO_e hsk] at e
      have en := R.ar.n
      have hle := R.ar.le
      have hk := R.k
      have h17 := R.at'
      refine L_aload_n eX11_plait_147 rfl ?_
      refine L_aload_n eX11_plait_148 rfl ?_
      refine L_get eX11_plait_149 f_X11_197.g rfl rfl ?_
      -- at 152: .ifCond .le 7
      refine V_ifle eX11_plait_152 (fun h3 => ?_) (fun h3 => ?_)
      · refine V_iconst eX11_plait_159 ?_
        refine V_iconst eX11_plait_160 ?_
        refine L_aload_n eX11_plait_161 rfl ?_
        refine L_get eX11_plait_162 f_X11_161.g rfl rfl ?_
        rw [h17, ean]
        refine C_v1 (p_X11_want_bad hk (by omega)) v_X11_189 eX11_plait_165 rfl rfl ?_
        refine L_istore_n eX11_plait_168 (s_1 rfl rfl) ?_
        refine fin _ A1 _ (f.tr ⟨fun o k q => by rw [uF_ne (by omega), uF_ne (by omega)], fun _ _ => rfl⟩) ?_
        rw [e, if_pos (by omega)]
        exact ⟨by rw [uF_ne (by decide), uF_eq], by rw [uF_eq], by show (1 : Int) ≤ 1; decide, by show (1 : Int) ≤ 9; decide⟩
      · refine V_iconst eX11_plait_155 ?_
        refine V_goto eX11_plait_156 ?_
        refine V_iconst eX11_plait_160 ?_
        refine L_aload_n eX11_plait_161 rfl ?_
        refine L_get eX11_plait_162 f_X11_161.g rfl rfl ?_
        refine C_v1 (p_X11_want_ok (by omega)) v_X11_189 eX11_plait_165 rfl rfl ?_
        refine L_istore_n eX11_plait_168 (s_1 rfl rfl) ?_
        refine fin F1 A1 _ f ?_
        rw [e, if_neg (by omega)]
        exact ⟨hk, R.p, R.ar, R.len, by show 0 < L.length; omega, hlen⟩
  have LOOP : ∀ (r : Nat) (i : Int) (F1 : fT) (A1 : nT) (L : List (Int × Int)) (len hl a : Int) (x1 : Option Value), i + r = 160 → 0 ≤ i → i ≤ a → a ≤ n → frY F F1 A A1 → rmK F1 A1 L len hl a (-1) → (hl = 0 ∨ hl = 1) → (20 ≤ len ∧ len ≤ 200) → plO (A 73) n 161 [] 50 0 0 = plO (A 73) n (r + 1) L len hl a → V G mX11_plait Q 0 0 20 [some (.ref 66), x1, none] [] (sw F1 A1) := by
    intro r
    induction r with
    | zero =>
      intro i F1 A1 L len hl a x1 e1 e2 e3 e4 f R hh hlen e5
      have e73 : A1 73 = A 73 := f.2 73 (by decide)
      have h1 : F1 66 16 = n := by rw [f.1 66 16 (by decide)]; exact hn
      have hsk : a ≤ skp (A 73) n a ∧ skp (A 73) n a ≤ n := rn_ge e4
      have hHr := p_X11_here (G := G) (F := F1) (A := A1) (by rw [e73]; exact hT) h1 R.at' (by omega)
      rw [e73, show skp (A 73) n a = a by omega] at hHr
      rw [show uF F1 66 17 a = F1 by rw [← R.at', uF_self]] at hHr
      have ec : chA (A 73) n a = -1 := if_neg (by omega)
      rw [ec] at hHr
      have hk := R.k
      refine L_aload_n eX11_plait_20 rfl ?_
      refine L_get eX11_plait_21 f_X11_164.g rfl rfl ?_
      -- at 24: .ifCond .ne 123
      refine V_ifne eX11_plait_24 (fun h2 => ?_) (fun h2 => ?_)
      · omega
      · refine L_aload_n eX11_plait_27 rfl ?_
        refine C_v1 hHr v_X11_167 eX11_plait_28 rfl rfl ?_
        refine V_iflt eX11_plait_31 (fun h3 => ?_) (fun h3 => ?_)
        · exact last F1 A1 _ f (Or.inr ⟨L, len, hl, a, 0, R, hlen, by omega, by omega, e5⟩)
        · omega
    | succ r ih =>
      intro i F1 A1 L len hl a x1 e1 e2 e3 e4 f R hh hlen e5
      have e73 : A1 73 = A 73 := f.2 73 (by decide)
      have h1 : F1 66 16 = n := by rw [f.1 66 16 (by decide)]; exact hn
      have hsk : a ≤ skp (A 73) n a ∧ skp (A 73) n a ≤ n := rn_ge e4
      have hss : skp (A 73) n (skp (A 73) n a) = skp (A 73) n a := rn_rn e4
      have hHr := p_X11_here (G := G) (F := F1) (A := A1) (by rw [e73]; exact hT) h1 R.at' (by omega)
      rw [e73] at hHr
      have hc := chA_b (q := skp (A 73) n a) hT (by omega)
      have hk := R.k
      have R2 : rmK (uF F1 66 17 (skp (A 73) n a)) A1 L len hl (skp (A 73) n a) (-1) := rmK.mk (R.ar.fr (uF_ne (by decide)) (fun _ _ _ => rfl)) (by rw [uF_ne (by decide)]; exact R.len) (by rw [uF_ne (by decide)]; exact R.hl) uF_eq (by rw [uF_ne (by decide)]; exact hk) (by rw [uF_ne (by decide)]; exact R.p)
      have f2 : frY F (uF F1 66 17 (skp (A 73) n a)) A A1 := f.tr ⟨fun o k q => by rw [uF_ne (by omega)], fun _ _ => rfl⟩
      refine L_aload_n eX11_plait_20 rfl ?_
      refine L_get eX11_plait_21 f_X11_164.g rfl rfl ?_
      -- at 24: .ifCond .ne 123
      refine V_ifne eX11_plait_24 (fun h2 => ?_) (fun h2 => ?_)
      · omega
      · refine L_aload_n eX11_plait_27 rfl ?_
        refine C_v1 hHr v_X11_167 eX11_plait_28 rfl rfl ?_
        refine V_iflt eX11_plait_31 (fun h3 => ?_) (fun h3 => ?_)
        · have hlt : ¬ skp (A 73) n a < n := fun w => by
            unfold chA at h3
            rw [if_pos w] at h3
            have := hT.2 (skp (A 73) n a) (by omega) w
            omega
          refine last _ A1 _ f2 (Or.inr ⟨L, len, hl, skp (A 73) n a, r.succ, R2, hlen, by rw [hss]; exact hlt, by omega, ?_⟩)
          rw [e5, plO_e hlt, plO_e (by rw [hss]; exact hlt)]
        · have hlt : skp (A 73) n a < n := hc.2.2 (by omega)
          rw [plO_s hlt] at e5
          refine m_clause (a := skp (A 73) n a) (by rw [e73]; exact hT) (by rw [uF_ne (by decide)]; exact h1) (by omega) (by rw [e73]; exact hss) R2 hh hlen _ _ (fun F3 A3 b f3 cl => ?_)
          rw [e73] at cl
          have ff := f2.tr f3
          revert cl e5
          cases clO (A 73) n L len hl (skp (A 73) n a) with
          | inl e =>
            intro e5 cl
            obtain ⟨c0, c1, c2, c3⟩ := cl
            refine L_aload_n eX11_plait_20 rfl ?_
            refine L_get eX11_plait_21 f_X11_164.g rfl rfl ?_
            -- at 24: .ifCond .ne 123
            refine V_ifne eX11_plait_24 (fun h4 => ?_) (fun h4 => ?_)
            · refine last F3 A3 _ ff (Or.inl ⟨h4, ?_, c0⟩)
              rw [e5]
              exact ⟨c1, c2, c3⟩
            · omega
          | inr x =>
            intro e5 cl
            obtain ⟨c1, c2, c3, c4⟩ := cl
            exact ih (i + 1) F3 A3 x.1 x.2.1 x.2.2.1 x.2.2.2 _ (by omega) (by omega) (by omega) c2.2 ff c1 c3 c4 e5
  refine L_aload_n eX11_plait_0 rfl ?_
  refine C_v0 p_X11_beginText v_X11_207 eX11_plait_1 rfl rfl ?_
  refine L_aload_n eX11_plait_4 rfl ?_
  refine V_iconst eX11_plait_5 ?_
  refine L_put eX11_plait_6 f_X11_197 rfl rfl ?_
  refine L_aload_n eX11_plait_9 rfl ?_
  refine L_bipush eX11_plait_10 rfl ?_
  refine L_put eX11_plait_12 f_X11_210 rfl rfl ?_
  refine L_aload_n eX11_plait_15 rfl ?_
  refine V_iconst eX11_plait_16 ?_
  refine L_putZ eX11_plait_17 f_X11_213 rfl rfl ?_
  refine LOOP 160 0 _ A [] 50 0 0 _ (by omega) (by omega) (by omega) (by omega) ⟨fun o k q => by rw [uF_ne (by omega), uF_ne (by omega), uF_ne (by omega), uF_ne (by omega), uF_ne (by omega), uF_ne (by omega)], fun _ _ => rfl⟩ (rmK.mk (arM.mk ?_ (by decide) (fun i hi => absurd hi (by simp)) (fun i hi => absurd hi (by simp))) ?_ ?_ ?_ ?_ ?_) (Or.inl rfl) (by omega) rfl
  · rw [uF_ne (by decide), uF_ne (by decide), uF_eq]; rfl
  · rw [uF_ne (by decide), uF_eq]
  · rw [uF_eq]
  · rw [uF_ne (by decide), uF_ne (by decide), uF_ne (by decide), uF_ne (by decide), uF_ne (by decide), uF_eq]
  · rw [uF_ne (by decide), uF_ne (by decide), uF_ne (by decide), uF_ne (by decide), uF_eq]
  · rw [uF_ne (by decide), uF_ne (by decide), uF_ne (by decide), uF_eq]
end P98k

