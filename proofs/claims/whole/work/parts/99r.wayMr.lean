/-! WAYS told in a text: the whole reading, in the reference -/
def twK (F1 : fT) (A1 : nT) (o : oT (List opT)) : Prop := match o with
  | .inl e => F1 66 20 = e.1 ∧ F1 66 21 = e.2 ∧ 1 ≤ e.1 ∧ e.1 ≤ 9
  | .inr O => opR F1 A1 O ∧ F1 66 20 = 0 ∧ F1 66 21 = -1
section P99r
variable {F : fT} {A : nT} {O : List opT} {n a : Int}
theorem tw_f6 {G : gT} {Q : Option Value → wT → Prop} {d nd : Int} {x4 x5 : Option Value} (hb : 1 ≤ F 66 20 ∧ F 66 20 ≤ 9) (hq : Q none (sw F A)) : V G mX11_takeWay Q 0 0 6 [some (.ref 66), some (vi d), some (vi nd), some (vi 1), x4, x5] [] (sw F A) := by
  refine L_iload_n eX11_takeWay_6 rfl ?_
  -- at 7: .ifCond .eq 234
  refine V_ifeq eX11_takeWay_7 (fun h2 => ?_) (fun h2 => ?_)
  · omega
  refine L_aload_n eX11_takeWay_10 rfl ?_
  refine L_get eX11_takeWay_11 f_X11_164.g rfl rfl ?_
  -- at 14: .ifCond .ne 227
  refine V_ifne eX11_takeWay_14 (fun h3 => ?_) (fun h3 => ?_)
  · exact V_return eX11_takeWay_241 hq
  · omega
theorem ptO_n {T : Int → Int} {deep : Nat} {needs : Bool} {q : Int} (hq : 0 ≤ q) (hn : q = n) : ptO T n deep needs q = .inl (1, n) := by
  have ec : chA T n q = -1 := if_neg (by omega)
  have e2 : (sLn.getD 4 0 : Int) = 2 := rfl
  have e4 : (sLn.getD 5 0 : Int) = 4 := rfl
  have e5 : (sLn.getD 6 0 : Int) = 5 := rfl
  unfold ptO
  rw [if_neg (fun x => by rw [ec] at x; omega), if_neg (fun w => by have := wm_le (by decide) (by omega) w; omega), if_neg (fun w => by have := wm_le (by decide) (by omega) w; omega), if_neg (fun w => by have := wm_le (by decide) (by omega) w; omega), hn]
theorem tw_step {G : gT} {Q : Option Value → wT → Prop} {deep : Nat} {needs : Bool} {nd : Int} {x4 x5 : Option Value} (hnd : needs = true ∧ nd = 1 ∨ needs = false ∧ nd = 0) (hd : deep ≤ 3) (hT : txT n (A 73)) (hn : F 66 16 = n) (ha : F 66 17 = a) (hab : 0 ≤ a ∧ a ≤ n) (hk : F 66 20 = 0) (h : opR F A O) (hl : O.length < 64)
    (fin : deep = 0 → needs = false → ¬ skp (A 73) n a < n → Q none (sw (uF F 66 17 (skp (A 73) n a)) A))
    (bad : ∀ (F1 : fT) (A1 : nT) (e : Int × Int), frZ F F1 A A1 → F1 66 20 = e.1 → F1 66 21 = e.2 → 1 ≤ e.1 ∧ e.1 ≤ 9 → (deep = 0 ∧ needs = false → skp (A 73) n a < n) → ptO (A 73) n deep needs (skp (A 73) n a) = .inl e → Q none (sw F1 A1))
    (good : ∀ (F1 : fT) (A1 : nT) (x : opT × Int) (nd : Int) (x4 x5 : Option Value), frZ F F1 A A1 → opR F1 A1 (O ++ [x.1]) → F1 66 20 = 0 → F1 66 21 = F 66 21 → F1 66 17 = x.2 → (nd = if x.1.1 = 2 then 1 else 0) → ptO (A 73) n deep needs (skp (A 73) n a) = .inr x → V G mX11_takeWay Q 0 0 6 [some (.ref 66), some (vi ((dpO deep x.1 : Nat) : Int)), some (vi nd), some (vi 1), x4, x5] [] (sw F1 A1)) : V G mX11_takeWay Q 0 0 6 [some (.ref 66), some (vi deep), some (vi nd), some (vi 1), x4, x5] [] (sw F A) := by
  have hn1 := hT.1
  have hsk : a ≤ skp (A 73) n a ∧ skp (A 73) n a ≤ n := rn_ge hab.2
  have hss : skp (A 73) n (skp (A 73) n a) = skp (A 73) n a := rn_rn hab.2
  have hHr := p_X11_here (G := G) hT hn ha hab
  have hcb := chA_b (q := skp (A 73) n a) hT (by omega)
  obtain ⟨q, eq⟩ : ∃ q, q = skp (A 73) n a := ⟨_, rfl⟩
  rw [← eq] at hsk hss hHr hcb fin bad good
  have wp : ∀ (F0 : fT) (b : Int), (∀ o k, (o ≠ 66 ∨ k ≠ 17) → F0 o k = F o k) → F0 66 17 = b → (0 ≤ b ∧ b ≤ n) → skp (A 73) n b = q → ¬ (needs = false ∧ 0 < deep ∧ chA (A 73) n q = 41) → (deep = 0 ∧ needs = false → q < n) → V G mX11_takeWay Q 0 0 78 [some (.ref 66), some (vi deep), some (vi nd), some (vi 1), x4, x5] [] (sw F0 A) := by
    intro F0 b f0 e17 hb es nc ne
    have h0 : opR F0 A O := h.fr (f0 66 27 (by decide))
    have z0 : frZ F F0 A A := ⟨fun o k x => f0 o k (by omega), fun _ _ => rfl⟩
    refine m_wordPart (deep := deep) (needs := needs) hd hT (by rw [f0 66 16 (by decide)]; exact hn) e17 hb (by rw [f0 66 20 (by decide)]; exact hk) h0 hl (by rw [es]; exact nc) (fun F1 A1 dp nd x4 x5 fr mk dk db nb => ?_)
    rw [es] at mk dk
    cases hp : ptO (A 73) n deep needs q with
    | inl e =>
      rw [hp] at mk
      obtain ⟨m1, m2, m3⟩ := mk
      exact tw_f6 (by omega) (bad F1 A1 e (z0.tr fr) m1 m2 m3 ne hp)
    | inr x =>
      rw [hp] at mk
      obtain ⟨d1, d2⟩ := dk x hp
      rw [d1]
      exact good F1 A1 x nd x4 x5 (z0.tr fr) mk.1 mk.2.1 (mk.2.2.1.trans (f0 66 21 (by decide))) mk.2.2.2 d2 hp
  refine L_iload_n eX11_takeWay_6 rfl ?_
  -- at 7: .ifCond .eq 234
  refine V_ifeq eX11_takeWay_7 (fun h2 => ?_) (fun h2 => ?_)
  · omega
  refine L_aload_n eX11_takeWay_10 rfl ?_
  refine L_get eX11_takeWay_11 f_X11_164.g rfl rfl ?_
  -- at 14: .ifCond .ne 227
  refine V_ifne eX11_takeWay_14 (fun h3 => ?_) (fun h3 => ?_)
  · exact absurd hk h3
  refine L_iload_n eX11_takeWay_17 rfl ?_
  -- at 18: .ifCond .ne 40
  refine V_ifne eX11_takeWay_18 (fun h4 => ?_) (fun h4 => ?_)
  · have nt : needs = true := by
      rcases hnd with x | x
      · exact x.1
      · exact absurd x.2 h4
    refine L_iload_n eX11_takeWay_58 rfl ?_
    -- at 59: .ifCond .ne 19
    refine V_ifne eX11_takeWay_59 (fun h5 => ?_) (fun h5 => ?_)
    · exact wp F a (fun _ _ _ => rfl) ha hab eq.symm (fun x => by rw [nt] at x; exact absurd x.1 (by decide)) (fun x => by rw [nt] at x; exact absurd x.2 (by decide))
    · exact absurd h5 h4
  have nf : needs = false := by
    rcases hnd with x | x
    · exact absurd h4 (by omega)
    · exact x.1
  obtain ⟨F2, eF2⟩ : ∃ F2, F2 = uF F 66 17 q := ⟨_, rfl⟩
  rw [← eF2] at hHr
  have f2 : ∀ o k, (o ≠ 66 ∨ k ≠ 17) → F2 o k = F o k := fun o k x => by rw [eF2, uF_ne x]
  have g17 : F2 66 17 = q := by rw [eF2, uF_eq]
  refine L_iload_n eX11_takeWay_21 rfl ?_
  -- at 22: .ifCond .le 36
  refine V_ifle eX11_takeWay_22 (fun h5 => ?_) (fun h5 => ?_)
  · refine L_iload_n eX11_takeWay_58 rfl ?_
    -- at 59: .ifCond .ne 19
    refine V_ifne eX11_takeWay_59 (fun h6 => ?_) (fun h6 => ?_)
    · exact absurd h4 h6
    refine L_iload_n eX11_takeWay_62 rfl ?_
    -- at 63: .ifCond .ne 15
    refine V_ifne eX11_takeWay_63 (fun h7 => ?_) (fun h7 => ?_)
    · omega
    refine L_aload_n eX11_takeWay_66 rfl ?_
    refine C_v1 hHr v_X11_167 eX11_takeWay_67 rfl rfl ?_
    refine V_ifge eX11_takeWay_70 (fun h8 => ?_) (fun h8 => ?_)
    · exact wp F2 q f2 g17 (by omega) hss (fun x => by omega) (fun _ => hcb.2.2 (by omega))
    · refine V_iconst eX11_takeWay_73 ?_
      refine L_istore_n eX11_takeWay_74 (s_3 rfl rfl) ?_
      refine V_goto eX11_takeWay_75 ?_
      refine L_iload_n eX11_takeWay_6 rfl ?_
      -- at 7: .ifCond .eq 234
      refine V_ifeq eX11_takeWay_7 (fun h9 => ?_) (fun h9 => ?_)
      · refine V_return eX11_takeWay_241 ?_
        have : Q none (sw (uF F 66 17 q) A) := fin (by omega) nf (fun w => by
          have : chA (A 73) n q = A 73 q := if_pos w
          have := (hT.2 q (by omega) w)
          omega)
        rw [eF2]
        exact this
      · omega
  · refine L_aload_n eX11_takeWay_25 rfl ?_
    refine C_v1 hHr v_X11_167 eX11_takeWay_26 rfl rfl ?_
    refine L_bipush eX11_takeWay_29 rfl ?_
    -- at 31: .if_icmp .ne 27
    refine V_icmpne eX11_takeWay_31 (fun h6 => ?_) (fun h6 => ?_)
    · refine L_iload_n eX11_takeWay_58 rfl ?_
      -- at 59: .ifCond .ne 19
      refine V_ifne eX11_takeWay_59 (fun h7 => ?_) (fun h7 => ?_)
      · exact absurd h4 h7
      refine L_iload_n eX11_takeWay_62 rfl ?_
      -- at 63: .ifCond .ne 15
      refine V_ifne eX11_takeWay_63 (fun h8 => ?_) (fun h8 => ?_)
      · exact wp F2 q f2 g17 (by omega) hss (fun x => h6 x.2.2) (fun x => by omega)
      · omega
    · have hqn := hcb.2.2 (by omega)
      have ep : ptO (A 73) n deep needs q = .inr ((3, 0, 0, 0), q + 1) := by
        unfold ptO
        rw [if_pos ⟨nf, by omega, h6⟩]
      refine L_aload_n eX11_takeWay_34 rfl ?_
      refine L_dup eX11_takeWay_35 ?_
      refine L_get eX11_takeWay_36 f_X11_161.g rfl rfl ?_
      refine V_iconst eX11_takeWay_39 ?_
      refine V_iadd eX11_takeWay_40 ?_
      refine L_put eX11_takeWay_41 f_X11_161 rfl rfl ?_
      rw [g17]
      obtain ⟨F3, eF3⟩ : ∃ F3, F3 = uF F2 66 17 (q + 1) := ⟨_, rfl⟩
      rw [← eF3]
      have f3 : ∀ o k, (o ≠ 66 ∨ k ≠ 17) → F3 o k = F o k := fun o k x => by rw [eF3, uF_ne x]; exact f2 o k x
      refine L_iinc eX11_takeWay_44 rfl (s_1 rfl rfl) ?_
      refine L_aload_n eX11_takeWay_47 rfl ?_
      refine V_iconst eX11_takeWay_48 ?_
      refine V_iconst eX11_takeWay_49 ?_
      refine V_iconst eX11_takeWay_50 ?_
      refine V_iconst eX11_takeWay_51 ?_
      refine C_vq (m_addOp (G := G) (o := (3, 0, 0, 0)) (by rw [f3 66 20 (by decide)]; exact hk) (h.fr (f3 66 27 (by decide))) hl) v_X11_227 eX11_takeWay_52 rfl rfl (fun r' w' e' => ?_)
      obtain ⟨F6, A6, er, ew, ff, fa, op⟩ := e'
      subst er ew
      refine V_goto eX11_takeWay_55 ?_
      have := good F6 A6 ((3, 0, 0, 0), q + 1) nd x4 x5 ⟨fun o k x => by rw [ff o k (by omega)]; exact f3 o k (by omega), fa⟩ op (by rw [ff 66 20 (by decide), f3 66 20 (by decide)]; exact hk) (by rw [ff 66 21 (by decide), f3 66 21 (by decide)]) (by rw [ff 66 17 (by decide), eF3, uF_eq]) (by rw [h4]; rfl) ep
      have ed : ((dpO deep (3, 0, 0, 0) : Nat) : Int) = (deep : Int) + -1 := by
        have : dpO deep (3, 0, 0, 0) = deep - 1 := by
          unfold dpO
          rw [if_neg (show ¬ (3 : Int) = 2 by decide), if_pos rfl]
        omega
      rw [ed] at this
      exact this
theorem m_takeWay {G : gT} (hT : txT n (A 73)) (hn : F 66 16 = n) (ha : F 66 17 = 0) (hk : F 66 20 = 0) (hp : F 66 21 = -1) (h : opR F A []) : Meets G mX11_takeWay [.ref 66] (sw F A) (fun r w => ∃ F1 A1, r = none ∧ w = sw F1 A1 ∧ frZ F F1 A A1 ∧ twK F1 A1 (wyO (A 73) n 161 0 true [] 0)) := by
  have hn1 := hT.1
  refine L_ent [some (.ref 66), none, none, none, none, none] rfl ?_
  generalize hQ : (fun (r : Option Value) (w : wT) => ∃ F1 A1, r = none ∧ w = sw F1 A1 ∧ frZ F F1 A A1 ∧ twK F1 A1 (wyO (A 73) n 161 0 true [] 0)) = Q
  generalize hW : wyO (A 73) n 161 0 true [] 0 = W at hQ
  have LOOP : ∀ (r : Nat) (i : Int) (F1 : fT) (A1 : nT) (O : List opT) (deep : Nat) (needs : Bool) (a nd : Int) (x4 x5 : Option Value), i + r = 160 → 0 ≤ i → i ≤ a → a ≤ n → frZ F F1 A A1 → opR F1 A1 O → F1 66 17 = a → F1 66 20 = 0 → F1 66 21 = -1 → deep ≤ 3 → 4 * (O.length : Int) + 3 * (deep : Int) ≤ a → (needs = true ∧ nd = 1 ∨ needs = false ∧ nd = 0) → W = wyO (A 73) n (r + 1) deep needs O a → V G mX11_takeWay Q 0 0 6 [some (.ref 66), some (vi deep), some (vi nd), some (vi 1), x4, x5] [] (sw F1 A1) := by
    intro r
    induction r with
    | zero =>
      intro i F1 A1 O deep needs a nd x4 x5 e1 e2 e3 e4 f op k17 k20 k21 hd hl hnd eW
      have e73 : A1 73 = A 73 := f.2 73 (by decide)
      have hsk : a ≤ skp (A 73) n a ∧ skp (A 73) n a ≤ n := rn_ge e4
      have nq : ¬ skp (A 73) n a < n := by omega
      rw [wyO_e nq] at eW
      refine tw_step hnd hd (by rw [e73]; exact hT) (by rw [f.1 66 16 (by decide)]; exact hn) k17 (by omega) k20 op (by omega) (fun d0 n0 _ => ?_) (fun F2 A2 e f2 b1 b2 b3 b4 b5 => ?_) (fun F2 A2 x nd x4 x5 f2 g1 g2 g3 g4 g5 g6 => ?_)
      · rw [e73, ← hQ, eW, if_neg (by rw [d0, n0]; simp)]
        exact ⟨_, A1, rfl, rfl, f.tr ⟨fun o k x => by rw [uF_ne (by omega)], fun _ _ => rfl⟩, op.fr (uF_ne (by decide)), by rw [uF_ne (by decide)]; exact k20, by rw [uF_ne (by decide)]; exact k21⟩
      · rw [e73] at b4 b5
        rw [ptO_n (by omega) (by omega)] at b5
        have := Sum.inl.inj b5
        have hc : 0 < deep ∨ needs = true := by
          by_cases c1 : deep = 0
          · by_cases c2 : needs = false
            · exact absurd (b4 ⟨c1, c2⟩) nq
            · exact Or.inr (by simpa using c2)
          · exact Or.inl (by omega)
        rw [← hQ, eW, if_pos hc, this]
        exact ⟨F2, A2, rfl, rfl, f.tr f2, b1, b2, b3⟩
      · rw [e73, ptO_n (by omega) (by omega)] at g6
        exact absurd g6 (by simp)
    | succ r ih =>
      intro i F1 A1 O deep needs a nd x4 x5 e1 e2 e3 e4 f op k17 k20 k21 hd hl hnd eW
      have e73 : A1 73 = A 73 := f.2 73 (by decide)
      have hsk : a ≤ skp (A 73) n a ∧ skp (A 73) n a ≤ n := rn_ge e4
      refine tw_step hnd hd (by rw [e73]; exact hT) (by rw [f.1 66 16 (by decide)]; exact hn) k17 (by omega) k20 op (by omega) (fun d0 n0 nq => ?_) (fun F2 A2 e f2 b1 b2 b3 b4 b5 => ?_) (fun F2 A2 x nd x4 x5 f2 g1 g2 g3 g4 g5 g6 => ?_)
      · rw [e73] at nq
        rw [wyO_e nq] at eW
        rw [e73, ← hQ, eW, if_neg (by rw [d0, n0]; simp)]
        exact ⟨_, A1, rfl, rfl, f.tr ⟨fun o k x => by rw [uF_ne (by omega)], fun _ _ => rfl⟩, op.fr (uF_ne (by decide)), by rw [uF_ne (by decide)]; exact k20, by rw [uF_ne (by decide)]; exact k21⟩
      · rw [e73] at b4 b5
        by_cases nq : skp (A 73) n a < n
        · rw [wyO_s nq, b5] at eW
          rw [← hQ, eW]
          exact ⟨F2, A2, rfl, rfl, f.tr f2, b1, b2, b3⟩
        · rw [wyO_e nq] at eW
          rw [ptO_n (by omega) (by omega)] at b5
          have := Sum.inl.inj b5
          have hc : 0 < deep ∨ needs = true := by
            by_cases c1 : deep = 0
            · by_cases c2 : needs = false
              · exact absurd (b4 ⟨c1, c2⟩) nq
              · exact Or.inr (by simpa using c2)
            · exact Or.inl (by omega)
          rw [← hQ, eW, if_pos hc, this]
          exact ⟨F2, A2, rfl, rfl, f.tr f2, b1, b2, b3⟩
      · rw [e73] at g6
        have ok := pt_ok hT (by omega) hd g6
        have nq : skp (A 73) n a < n := by omega
        rw [wyO_s nq, g6, bO_r] at eW
        refine ih (i + 1) F2 A2 (O ++ [x.1]) (dpO deep x.1) (decide (x.1.1 = 2)) x.2 nd x4 x5 (by omega) (by omega) (by omega) (by omega) (f.tr f2) g1 g4 g2 (g3.trans k21) ok.2.2.2.2.1 ?_ ?_ eW
        · rw [List.length_append]
          show 4 * ((O.length + 1 : Nat) : Int) + _ ≤ _
          omega
        · by_cases c : x.1.1 = 2
          · rw [if_pos c] at g5
            exact Or.inl ⟨decide_eq_true c, g5⟩
          · rw [if_neg c] at g5
            exact Or.inr ⟨decide_eq_false c, g5⟩
  refine V_iconst eX11_takeWay_0 ?_
  refine L_istore_n eX11_takeWay_1 (s_1 rfl rfl) ?_
  refine V_iconst eX11_takeWay_2 ?_
  refine L_istore_n eX11_takeWay_3 (s_2 rfl rfl) ?_
  refine V_iconst eX11_takeWay_4 ?_
  refine L_istore_n eX11_takeWay_5 (s_3 rfl rfl) ?_
  exact LOOP 160 0 F A [] 0 true 0 1 _ _ (by omega) (by omega) (by omega) (by omega) ⟨fun _ _ _ => rfl, fun _ _ => rfl⟩ h ha hk hp (by omega) (by show 4 * (0 : Int) + 3 * 0 ≤ 0; omega) (Or.inl ⟨rfl, rfl⟩) hW.symm
end P99r

