/-! WAYS told in a text: GO, in the reference -/
def mgK (F F1 : fT) (A1 : nT) (O : List opT) (o : oT ((Int × Int × Int) × Int)) : Prop := match o with
  | .inl e => F1 66 20 = e.1 ∧ F1 66 21 = e.2 ∧ 1 ≤ e.1 ∧ e.1 ≤ 9
  | .inr x => opR F1 A1 (O ++ [(0, x.1)]) ∧ F1 66 20 = 0 ∧ F1 66 21 = F 66 21 ∧ F1 66 17 = x.2
section P99m
variable {F : fT} {A : nT} {O : List opT} {n a : Int}
theorem tg_f69 {G : gT} {Q : Option Value → wT → Prop} {x y z : Int} (hb : 1 ≤ F 66 20 ∧ F 66 20 ≤ 9) (hq : Q none (sw F A)) : V G mX11_takeGo Q 0 0 69 [some (.ref 66), some (vi x), some (vi y), some (vi z)] [] (sw F A) := by
  refine L_aload_n eX11_takeGo_69 rfl ?_
  refine L_bipush eX11_takeGo_70 rfl ?_
  refine C_v0 (m_takeSign_f (by omega) (by omega) G) v_X11_220 eX11_takeGo_72 rfl rfl ?_
  refine L_aload_n eX11_takeGo_75 rfl ?_
  refine V_iconst eX11_takeGo_76 ?_
  refine L_iload_n eX11_takeGo_77 rfl ?_
  refine L_iload_n eX11_takeGo_78 rfl ?_
  refine L_iload_n eX11_takeGo_79 rfl ?_
  refine C_v0 (m_addOp_f (by omega) (by omega)) v_X11_227 eX11_takeGo_80 rfl rfl ?_
  exact V_return eX11_takeGo_83 hq
theorem tg_f60 {G : gT} {Q : Option Value → wT → Prop} {x y : Int} {x3 : Option Value} (hb : 1 ≤ F 66 20 ∧ F 66 20 ≤ 9) (hq : Q none (sw F A)) : V G mX11_takeGo Q 0 0 60 [some (.ref 66), some (vi x), some (vi y), x3] [] (sw F A) := by
  refine L_aload_n eX11_takeGo_60 rfl ?_
  refine V_iconst eX11_takeGo_61 ?_
  refine L_bipush eX11_takeGo_62 rfl ?_
  refine V_iconst eX11_takeGo_64 ?_
  refine C_v1 (m_takeNumber_f (by omega) (by omega) G) v_X11_193 eX11_takeGo_65 rfl rfl ?_
  refine L_istore_n eX11_takeGo_68 (s_3 rfl rfl) ?_
  exact tg_f69 hb hq
theorem tg_f24 {G : gT} {Q : Option Value → wT → Prop} {x y : Int} {x3 : Option Value} (hb : 1 ≤ F 66 20 ∧ F 66 20 ≤ 9) (hq : Q none (sw F A)) : V G mX11_takeGo Q 0 0 24 [some (.ref 66), some (vi x), some (vi y), x3] [] (sw F A) := by
  refine L_aload_n eX11_takeGo_24 rfl ?_
  refine L_get eX11_takeGo_25 f_X11_164.g rfl rfl ?_
  -- at 28: .ifCond .ne 32
  refine V_ifne eX11_takeGo_28 (fun h2 => ?_) (fun h2 => ?_)
  · exact tg_f60 hb hq
  · omega
theorem m_takeGo {G : gT} (hT : txT n (A 73)) (hn : F 66 16 = n) (ha : F 66 17 = a) (hab : 0 ≤ a ∧ a ≤ n) (hk : F 66 20 = 0) (h : opR F A O) (hl : O.length < 64) : Meets G mX11_takeGo [.ref 66] (sw F A) (fun r w => ∃ F1 A1, r = none ∧ w = sw F1 A1 ∧ frZ F F1 A A1 ∧ mgK F F1 A1 O (goO (A 73) n a)) := by
  have hn1 := hT.1
  refine L_ent [some (.ref 66), none, none, none] rfl ?_
  generalize hQ : (fun (r : Option Value) (w : wT) => ∃ F1 A1, r = none ∧ w = sw F1 A1 ∧ frZ F F1 A A1 ∧ mgK F F1 A1 O (goO (A 73) n a)) = Q
  have bad : ∀ (F0 : fT) (k p : Int), fr66 F F0 → F0 66 20 = k → F0 66 21 = p → (1 ≤ k ∧ k ≤ 9) → goO (A 73) n a = .inl (k, p) → Q none (sw F0 A) := fun F0 k p f e1 e2 e3 e4 => by
    rw [← hQ]
    refine ⟨F0, A, rfl, rfl, frZ.of f, ?_⟩
    rw [e4]
    exact ⟨e1, e2, e3⟩
  obtain ⟨F1, x, hM1, f1, b1, n1, v1, k1⟩ := m_takeNumber (F := F) (s := 1) (sg := true) (lo := -999) (hi := 999) (Or.inr ⟨rfl, rfl⟩) hT hn ha hab hk (by omega) (by omega)
  refine L_aload_n eX11_takeGo_0 rfl ?_
  refine L_sipush eX11_takeGo_1 rfl ?_
  refine L_sipush eX11_takeGo_4 rfl ?_
  refine V_iconst eX11_takeGo_7 ?_
  refine C_v1 (hM1 G) v_X11_193 eX11_takeGo_8 rfl rfl ?_
  refine L_istore_n eX11_takeGo_11 (s_1 rfl rfl) ?_
  refine L_aload_n eX11_takeGo_12 rfl ?_
  refine L_sipush eX11_takeGo_13 rfl ?_
  refine L_sipush eX11_takeGo_16 rfl ?_
  refine V_iconst eX11_takeGo_19 ?_
  rcases nm_k k1 with ⟨a2, o1, e2, e4, e5⟩ | ⟨k, p, o1, kb, e4, e5⟩
  rotate_left
  · refine C_v1 (m_takeNumber_f (by omega) (by omega) G) v_X11_193 eX11_takeGo_20 rfl rfl ?_
    refine L_istore_n eX11_takeGo_23 (s_2 rfl rfl) ?_
    refine tg_f24 (by omega) (bad F1 k p f1 e4 e5 (by omega) ?_)
    unfold goO
    rw [o1]
    rfl
  have ok1 := nm_ok hT hab o1
  obtain ⟨F2, y, hM2, f2, b2, n2, v2, k2⟩ := m_takeNumber (F := F1) (s := 1) (sg := true) (lo := -999) (hi := 999) (Or.inr ⟨rfl, rfl⟩) hT (by rw [f1 66 16 (by decide)]; exact hn) e2 (by omega) e4 (by omega) (by omega)
  have f2' := f1.tr f2
  refine C_v1 (hM2 G) v_X11_193 eX11_takeGo_20 rfl rfl ?_
  refine L_istore_n eX11_takeGo_23 (s_2 rfl rfl) ?_
  rcases nm_k k2 with ⟨a3, o2, y2, y4, y5⟩ | ⟨k, p, o2, kb, y4, y5⟩
  rotate_left
  · refine tg_f24 (by omega) (bad F2 k p f2' y4 y5 (by omega) ?_)
    unfold goO
    rw [o1, bO_r, o2]
    rfl
  have ok2 := nm_ok hT (by omega) o2
  have hsk : a3 ≤ skp (A 73) n a3 ∧ skp (A 73) n a3 ≤ n := rn_ge (by omega)
  obtain ⟨F3, hW, f3, g17, g18, g19, g20, g21⟩ := m_takeWord (F := F2) hT (by rw [f2' 66 16 (by decide)]; exact hn) y2 (by omega)
  have f3' := f2'.tr f3
  have hIW := m_isWord (F := F3) (j := 7) (q := skp (A 73) n a3) (c0 := 102) (c1 := 111) (c2 := 114) (c3 := 0) (c4 := 0) (c5 := 0) (c6 := 0) hT (by rw [f3' 66 16 (by decide)]; exact hn) g18 (by omega) g19 (by decide) (fun k x y => by
    have y' : k < 3 := y
    rcases (show k = 0 ∨ k = 1 ∨ k = 2 by omega) with e | e | e <;> subst e <;> decide +kernel)
  refine L_aload_n eX11_takeGo_24 rfl ?_
  refine L_get eX11_takeGo_25 f_X11_164.g rfl rfl ?_
  -- at 28: .ifCond .ne 32
  refine V_ifne eX11_takeGo_28 (fun h2 => ?_) (fun h2 => ?_)
  · exact absurd y4 h2
  refine L_aload_n eX11_takeGo_31 rfl ?_
  refine C_v0 (hW G) v_X11_200 eX11_takeGo_32 rfl rfl ?_
  refine L_aload_n eX11_takeGo_35 rfl ?_
  refine L_aload_n eX11_takeGo_36 rfl ?_
  refine V_iconst eX11_takeGo_37 ?_
  refine L_bipush eX11_takeGo_38 rfl ?_
  refine L_bipush eX11_takeGo_40 rfl ?_
  refine L_bipush eX11_takeGo_42 rfl ?_
  refine V_iconst eX11_takeGo_44 ?_
  refine V_iconst eX11_takeGo_45 ?_
  refine V_iconst eX11_takeGo_46 ?_
  refine V_iconst eX11_takeGo_47 ?_
  refine C_v1 (hIW G) v_X11_203 eX11_takeGo_48 rfl rfl ?_
  have k20 : F3 66 20 = 0 := by rw [g20]; exact y4
  by_cases w1 : wm (A 73) n 7 (skp (A 73) n a3)
  rotate_left
  · rw [if_neg w1]
    refine V_iconst eX11_takeGo_51 ?_
    refine L_aload_n eX11_takeGo_52 rfl ?_
    refine L_get eX11_takeGo_53 f_X11_171.g rfl rfl ?_
    rw [g18]
    refine C_v1 (p_X11_want_bad k20 (by omega)) v_X11_189 eX11_takeGo_56 rfl rfl ?_
    have g4 : uF (uF F3 66 20 1) 66 21 (skp (A 73) n a3) 66 20 = 1 := by rw [uF_ne (by decide), uF_eq]
    refine L_istore_n eX11_takeGo_59 (s_3 rfl rfl) ?_
    refine tg_f60 (by omega) (bad _ 1 (skp (A 73) n a3) (f3'.tr (fun o k q => by rw [uF_ne (by omega), uF_ne (by omega)])) g4 uF_eq (by omega) ?_)
    unfold goO
    rw [o1, bO_r, o2, bO_r, wd_no w1]
    rfl
  rw [if_pos w1]
  obtain ⟨ow, hw2, hw3⟩ := wd_ok (e := 0) (j := 7) (by decide) (show 0 ≤ a3 ∧ a3 ≤ n by omega) w1
  rw [w1.1] at g17
  obtain ⟨a4, ea4⟩ : ∃ a4, a4 = skp (A 73) n a3 + (sLn.getD 7 0 : Int) := ⟨_, rfl⟩
  rw [← ea4] at ow hw2 hw3 g17
  refine V_iconst eX11_takeGo_51 ?_
  refine L_aload_n eX11_takeGo_52 rfl ?_
  refine L_get eX11_takeGo_53 f_X11_171.g rfl rfl ?_
  refine C_v1 (p_X11_want_ok (by omega)) v_X11_189 eX11_takeGo_56 rfl rfl ?_
  obtain ⟨F4, v, hM4, f4, b4, n4, v4, k4⟩ := m_takeNumber (F := F3) (s := 0) (sg := false) (lo := 1) (hi := 30) (Or.inl ⟨rfl, rfl⟩) hT (by rw [f3' 66 16 (by decide)]; exact hn) g17 (by omega) k20 (by omega) (by omega)
  have f4' := f3'.tr f4
  refine L_istore_n eX11_takeGo_59 (s_3 rfl rfl) ?_
  refine L_aload_n eX11_takeGo_60 rfl ?_
  refine V_iconst eX11_takeGo_61 ?_
  refine L_bipush eX11_takeGo_62 rfl ?_
  refine V_iconst eX11_takeGo_64 ?_
  refine C_v1 (hM4 G) v_X11_193 eX11_takeGo_65 rfl rfl ?_
  refine L_istore_n eX11_takeGo_68 (s_3 rfl rfl) ?_
  rcases nm_k k4 with ⟨a5, o4, u2, u4, u5⟩ | ⟨k, p, o4, kb, u4, u5⟩
  rotate_left
  · refine tg_f69 (by omega) (bad F4 k p f4' u4 u5 (by omega) ?_)
    unfold goO
    rw [o1, bO_r, o2, bO_r, ow, bO_r, o4]
    rfl
  have ok4 := nm_ok hT (by omega) o4
  have eg : goO (A 73) n a = bO' (sgO (A 73) n 59 a5) fun a5 => .inr ((x, y, v), a5) := by
    unfold goO
    rw [o1, bO_r, o2, bO_r, ow, bO_r, o4, bO_r]
  obtain ⟨F5, hS, f5, s18, alt⟩ := m_takeSign (F := F4) (A := A) (s := 59) (a := a5) (by omega) hT (by rw [f4' 66 16 (by decide)]; exact hn) u2 (by omega) u4
  have f5' := f4'.tr f5
  refine L_aload_n eX11_takeGo_69 rfl ?_
  refine L_bipush eX11_takeGo_70 rfl ?_
  refine C_v0 (hS G) v_X11_220 eX11_takeGo_72 rfl rfl ?_
  refine L_aload_n eX11_takeGo_75 rfl ?_
  refine V_iconst eX11_takeGo_76 ?_
  refine L_iload_n eX11_takeGo_77 rfl ?_
  refine L_iload_n eX11_takeGo_78 rfl ?_
  refine L_iload_n eX11_takeGo_79 rfl ?_
  rcases alt with ⟨q1, q2, q3, q4⟩ | ⟨q1, q2, q3, q4⟩
  · obtain ⟨og, hg2, hg3⟩ := sg_ok (s := 59) (by omega) hT (show 0 ≤ a5 ∧ a5 ≤ n by omega) q1
    refine C_vq (m_addOp (G := G) (o := (0, x, y, v)) q3 (h.fr (f5' 66 27 (by decide))) hl) v_X11_227 eX11_takeGo_80 rfl rfl (fun r' w' e' => ?_)
    obtain ⟨F6, A6, er, ew, ff, fa, op⟩ := e'
    subst er ew
    refine V_return eX11_takeGo_83 ?_
    rw [← hQ]
    refine ⟨F6, A6, rfl, rfl, ⟨fun o k z => by rw [ff o k (by omega)]; exact f5' o k (by omega), fa⟩, ?_⟩
    rw [eg, og]
    exact ⟨op, by rw [ff 66 20 (by decide)]; exact q3, by rw [ff 66 21 (by decide), q4, u5, g21, y5]; exact e5, by rw [ff 66 17 (by decide)]; exact q2⟩
  · refine C_v0 (m_addOp_f (by omega) (by omega)) v_X11_227 eX11_takeGo_80 rfl rfl ?_
    refine V_return eX11_takeGo_83 (bad F5 1 (skp (A 73) n a5) f5' q3 q4 (by omega) ?_)
    rw [eg, sg_no q1]
    rfl
end P99m

