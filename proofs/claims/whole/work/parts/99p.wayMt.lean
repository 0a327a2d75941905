/-! WAYS told in a text: TIMES, in the reference -/
section P99p
variable {F : fT} {A : nT} {O : List opT} {n a : Int}
/-- TIMES, from its number on -/
theorem m_times {G : gT} {Q : Option Value → wT → Prop} {d : Int} {x5 : Option Value} {x4 : Int} (hT : txT n (A 73)) (hn : F 66 16 = n) (ha : F 66 17 = a) (hab : 0 ≤ a ∧ a ≤ n) (hk : F 66 20 = 0) (h : opR F A O) (hl : O.length < 64) (nx : ∀ (F1 : fT) (A1 : nT) (b : Int), frZ F F1 A A1 → mpK F F1 A1 O (bO' (tiO (A 73) n a) fun x => .inr ((2, 0, 0, x.1), x.2)) → V G mX11_takeWay Q 0 0 6 [some (.ref 66), some (vi (d + 1)), some (vi 1), some (vi 1), some (vi x4), some (vi b)] [] (sw F1 A1)) : V G mX11_takeWay Q 0 0 208 [some (.ref 66), some (vi d), some (vi 0), some (vi 1), some (vi x4), x5] [] (sw F A) := by
  have hn1 := hT.1
  obtain ⟨F1, v, hM, f1, b1, n1, vb, k1⟩ := m_takeNumber (F := F) (s := 0) (sg := false) (lo := 2) (hi := 9) (Or.inl ⟨rfl, rfl⟩) hT hn ha hab hk (by omega) (by omega)
  refine L_aload_n eX11_takeWay_208 rfl ?_
  refine V_iconst eX11_takeWay_209 ?_
  refine L_bipush eX11_takeWay_210 rfl ?_
  refine V_iconst eX11_takeWay_212 ?_
  refine C_v1 (hM G) v_X11_193 eX11_takeWay_213 rfl rfl ?_
  refine L_istore eX11_takeWay_216 (s_5 rfl rfl) ?_
  refine L_aload_n eX11_takeWay_218 rfl ?_
  refine L_bipush eX11_takeWay_219 rfl ?_
  rcases nm_k k1 with ⟨a2, o1, e2, e4, e5⟩ | ⟨k, p, o1, kb, e4, e5⟩
  rotate_left
  · refine C_v0 (m_takeSign_f (by omega) (by omega) G) v_X11_220 eX11_takeWay_221 rfl rfl ?_
    refine L_aload_n eX11_takeWay_224 rfl ?_
    refine V_iconst eX11_takeWay_225 ?_
    refine V_iconst eX11_takeWay_226 ?_
    refine V_iconst eX11_takeWay_227 ?_
    refine L_iload eX11_takeWay_228 rfl ?_
    refine C_v0 (m_addOp_f (by omega) (by omega)) v_X11_227 eX11_takeWay_230 rfl rfl ?_
    refine L_iinc eX11_takeWay_233 rfl (s_1 rfl rfl) ?_
    refine V_iconst eX11_takeWay_236 ?_
    refine L_istore_n eX11_takeWay_237 (s_2 rfl rfl) ?_
    refine V_goto eX11_takeWay_238 ?_
    refine nx F1 A _ (frZ.of f1) ?_
    have eh : tiO (A 73) n a = .inl (k, p) := by
      unfold tiO
      rw [o1]
      rfl
    rw [eh]
    exact ⟨e4, e5, by show 1 ≤ k ∧ k ≤ 9; omega⟩
  have ok1 := nm_ok hT hab o1
  obtain ⟨F2, hS, f2, s18, alt⟩ := m_takeSign (F := F1) (A := A) (s := 40) (a := a2) (by omega) hT (by rw [f1 66 16 (by decide)]; exact hn) e2 (by omega) e4
  have f2' := f1.tr f2
  have et : tiO (A 73) n a = bO' (sgO (A 73) n 40 a2) fun a5 => .inr (v, a5) := by
    unfold tiO
    rw [o1, bO_r]
  refine C_v0 (hS G) v_X11_220 eX11_takeWay_221 rfl rfl ?_
  refine L_aload_n eX11_takeWay_224 rfl ?_
  refine V_iconst eX11_takeWay_225 ?_
  refine V_iconst eX11_takeWay_226 ?_
  refine V_iconst eX11_takeWay_227 ?_
  refine L_iload eX11_takeWay_228 rfl ?_
  rcases alt with ⟨q1, q2, q3, q4⟩ | ⟨q1, q2, q3, q4⟩
  · obtain ⟨og, hg2, hg3⟩ := sg_ok (s := 40) (by omega) hT (show 0 ≤ a2 ∧ a2 ≤ n by omega) q1
    refine C_vq (m_addOp (G := G) (o := (2, 0, 0, v)) q3 (h.fr (f2' 66 27 (by decide))) hl) v_X11_227 eX11_takeWay_230 rfl rfl (fun r' w' e' => ?_)
    obtain ⟨F6, A6, er, ew, ff, fa, op⟩ := e'
    subst er ew
    refine L_iinc eX11_takeWay_233 rfl (s_1 rfl rfl) ?_
    refine V_iconst eX11_takeWay_236 ?_
    refine L_istore_n eX11_takeWay_237 (s_2 rfl rfl) ?_
    refine V_goto eX11_takeWay_238 ?_
    refine nx F6 A6 _ ⟨fun o k z => by rw [ff o k (by omega)]; exact f2' o k (by omega), fa⟩ ?_
    rw [et, og]
    exact ⟨op, by rw [ff 66 20 (by decide)]; exact q3, by rw [ff 66 21 (by decide), q4]; exact e5, by rw [ff 66 17 (by decide)]; exact q2⟩
  · refine C_v0 (m_addOp_f (by omega) (by omega)) v_X11_227 eX11_takeWay_230 rfl rfl ?_
    refine L_iinc eX11_takeWay_233 rfl (s_1 rfl rfl) ?_
    refine V_iconst eX11_takeWay_236 ?_
    refine L_istore_n eX11_takeWay_237 (s_2 rfl rfl) ?_
    refine V_goto eX11_takeWay_238 ?_
    refine nx F2 A _ (frZ.of f2') ?_
    rw [et, sg_no q1]
    exact ⟨q3, q4, by show (1 : Int) ≤ 1; decide, by show (1 : Int) ≤ 9; decide⟩
end P99p

