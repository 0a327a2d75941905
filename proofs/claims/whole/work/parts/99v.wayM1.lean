/-! WAYS told in a text: what comes of it, and the reference up to its answer -/
theorem pt_three {T : Int → Int} {n q : Int} {deep : Nat} {needs : Bool} {x : opT × Int} (e : ptO T n deep needs q = .inr x) (h : x.1.1 = 3) : needs = false := by
  unfold ptO at e
  by_cases c0 : needs = false ∧ 0 < deep ∧ chA T n q = 41
  · exact c0.1
  · exfalso
    rw [if_neg c0] at e
    by_cases w4 : wm T n 4 q
    · rw [if_pos w4] at e
      cases h1 : goO T n (q + 2) with
      | inl e' => rw [h1] at e; exact absurd e (by simp [bO'])
      | inr y =>
        rw [h1, bO_r] at e
        rw [← Sum.inr.inj e] at h
        exact absurd h (show ¬ (0 : Int) = 3 by decide)
    · rw [if_neg w4] at e
      by_cases w5 : wm T n 5 q
      · rw [if_pos w5] at e
        cases h1 : hoO T n (q + 4) with
        | inl e' => rw [h1] at e; exact absurd e (by simp [bO'])
        | inr y =>
          rw [h1, bO_r] at e
          rw [← Sum.inr.inj e] at h
          exact absurd h (show ¬ (1 : Int) = 3 by decide)
      · rw [if_neg w5] at e
        by_cases w6 : wm T n 6 q
        · rw [if_pos w6] at e
          by_cases c3 : 3 ≤ deep
          · rw [if_pos c3] at e; exact absurd e (by simp)
          · rw [if_neg c3] at e
            cases h1 : tiO T n (q + 5) with
            | inl e' => rw [h1] at e; exact absurd e (by simp [bO'])
            | inr y =>
              rw [h1, bO_r] at e
              rw [← Sum.inr.inj e] at h
              exact absurd h (show ¬ (2 : Int) = 3 by decide)
        · rw [if_neg w6] at e; exact absurd e (by simp)
theorem wy_ne {T : Int → Int} {n : Int} (hT : txT n T) : ∀ (r deep : Nat) (needs : Bool) (O O' : List opT) (a : Int) (c : lwT) (sk : skT), (0 ≤ a ∧ a ≤ n) → deep ≤ 3 → O.foldl smS ([], []) = (c, sk) → sk.length = deep → (∀ e ∈ sk, 2 ≤ e.1) → (needs = false → c ≠ []) → wyO T n r deep needs O a = .inr O' → (O'.foldl smS ([], [])).1 ≠ [] := by
  intro r
  induction r with
  | zero => intro deep needs O O' a c sk _ _ _ _ _ _ e; exact absurd e (by simp [wyO])
  | succ r ih =>
    intro deep needs O O' a c sk ha hd eO hl hm hc e
    have hsk : a ≤ skp T n a ∧ skp T n a ≤ n := rn_ge ha.2
    by_cases cq : skp T n a < n
    · rw [wyO_s cq] at e
      cases hp : ptO T n deep needs (skp T n a) with
      | inl e' => rw [hp] at e; exact absurd e (by simp [bO'])
      | inr x =>
        rw [hp, bO_r] at e
        have ok := pt_ok hT (by omega) hd hp
        have h3 := fun y => pt_three hp y
        obtain ⟨o, b⟩ := x
        have ok1 : opK o := ok.1
        have ok2 : skp T n a < b ∧ b ≤ n := ⟨ok.2.2.2.1, ok.2.2.1⟩
        have ok3 : dpO deep o ≤ 3 := ok.2.2.2.2.1
        have ok4 : o.1 = 3 → 0 < deep := ok.2.2.2.2.2
        have h3' : o.1 = 3 → needs = false := h3
        have e' : wyO T n r (dpO deep o) (decide (o.1 = 2)) (O ++ [o]) b = .inr O' := e
        have eF : (O ++ [o]).foldl smS ([], []) = smS (c, sk) o := by rw [List.foldl_append, eO]; rfl
        by_cases c2 : o.1 = 2
        · have t2 : 2 ≤ o.2.2.2 := by
            rcases ok1 with y | y | y | y <;> omega
          refine ih _ _ _ _ b [] ((o.2.2.2, c) :: sk) (by omega) ok3 (by rw [eF, sm_two c2]) (by rw [List.length_cons, hl, dpO_two c2]) (fun e he => ?_) (fun y => ?_) e'
          · rcases List.mem_cons.mp he with y | y
            · subst y; exact t2
            · exact hm e y
          · rw [decide_eq_true c2] at y; exact absurd y (by decide)
        · by_cases c3 : o.1 = 3
          · have hc0 := hc (h3' c3)
            have d0 := ok4 c3
            cases sk with
            | nil => exact absurd hl (by show ¬ 0 = deep; omega)
            | cons e1 sk =>
              obtain ⟨m, p⟩ := e1
              have m2 : 2 ≤ m := hm (m, p) (by simp)
              rw [List.length_cons] at hl
              refine ih _ _ _ _ b (p ++ rpt c m.toNat) sk (by omega) ok3 (by rw [eF, sm_thr c3]) (by rw [dpO_thr c3]; omega) (fun e he => hm e (by simp [he])) (fun _ => ?_) e'
              rw [show m.toNat = (m.toNat - 1) + 1 by omega, rpt_s]
              cases c with
              | nil => exact absurd rfl hc0
              | cons y ys => simp
          · exact ih _ _ _ _ b (c ++ [(o.2.1, o.2.2.1, o.2.2.2)]) sk (by omega) ok3 (by rw [eF, sm_one c2 c3]) (by rw [dpO_one c2 c3]; exact hl) hm (fun _ => by simp) e'
    · rw [wyO_e cq] at e
      by_cases c2 : 0 < deep ∨ needs = true
      · rw [if_pos c2] at e; exact absurd e (by simp)
      · rw [if_neg c2] at e
        have := Sum.inr.inj e
        subst this
        rw [eO]
        refine hc ?_
        cases needs
        · rfl
        · exact absurd (Or.inr rfl) c2
/-- a FAULT, or the steps -/
noncomputable def woO (n : Int) (o : oT (List opT)) : oT lwT := bO' o fun O => if 60 < tsm (O.foldl smS ([], [])).1 then .inl (4, n) else .inr (O.foldl smS ([], [])).1
theorem wo_ok {T : Int → Int} {n : Int} {S : lwT} (hT : txT n T) (e : woO n (wyO T n 161 0 true [] 0) = .inr S) : (∀ s ∈ S, stB s) ∧ 1 ≤ tsm S ∧ tsm S ≤ 60 := by
  have hn1 := hT.1
  cases hO : wyO T n 161 0 true [] 0 with
  | inl e' => rw [hO] at e; exact absurd e (by simp [woO, bO'])
  | inr O =>
    rw [hO] at e
    have e2 : (if 60 < tsm (O.foldl smS ([], [])).1 then (.inl (4, n) : oT lwT) else .inr (O.foldl smS ([], [])).1) = .inr S := e
    by_cases c : 60 < tsm (O.foldl smS ([], [])).1
    · rw [if_pos c] at e2; exact absurd e2 (by simp)
    · rw [if_neg c] at e2
      have := Sum.inr.inj e2
      subst this
      obtain ⟨X, eX, hb, _⟩ := wy_ba hT 161 0 true [] O 0 (by omega) (by omega) (by show 4 * (0 : Int) + 3 * 0 ≤ 0; omega) hO
      have eX' : O = X := eX
      rw [← eX'] at hb
      have hs := (ba_smB O 0 ([], []) hb rfl ⟨fun x hx => absurd hx (by simp), fun x hx => absurd hx (by simp)⟩).1
      have hne := wy_ne hT 161 0 true [] O 0 [] [] (by omega) (by omega) rfl rfl (fun e he => absurd he (by simp)) (fun y => absurd y (by decide)) hO
      have hl : 0 < (O.foldl smS ([], [])).1.length := by
        cases h : (O.foldl smS ([], [])).1 with
        | nil => exact absurd h hne
        | cons y ys => simp
      have := tsm_ge _ hs
      exact ⟨hs, by omega, by omega⟩
theorem pt_pre : ∀ (L : lwT) (l : poT), ∃ Y, L.foldl ptS l = l ++ Y := by
  intro L
  induction L with
  | nil => intro l; exact ⟨[], by simp⟩
  | cons s L ih =>
    intro l
    obtain ⟨Y, e⟩ := ih (ptS l s)
    refine ⟨ptL (lsP l) s s.2.2.toNat ++ Y, ?_⟩
    rw [List.foldl_cons, e]
    unfold ptS
    rw [List.append_assoc]
def frW (F F1 : fT) (A A1 : nT) : Prop := (∀ o k, (o ≠ 66 ∨ ((k < 17 ∨ 21 < k) ∧ k ≠ 27 ∧ k ≠ 36 ∧ k ≠ 37)) → F1 o k = F o k) ∧ ∀ o, o < 76 ∨ 83 < o → A1 o = A o
def mwK (F1 : fT) (A1 : nT) (o : oT lwT) : Prop := match o with
  | .inl e => F1 66 20 = e.1 ∧ F1 66 21 = e.2 ∧ 1 ≤ e.1 ∧ e.1 ≤ 9
  | .inr S => F1 66 20 = 0 ∧ F1 66 21 = -1 ∧ F1 66 36 = tsm S ∧ F1 66 37 = S.length ∧ prK A1 82 83 (S.foldl ptS [(0, 0)])
section P99v
variable {F : fT} {A : nT} {n : Int}
theorem m_way1 {G : gT} {Q : Option Value → wT → Prop} (hT : txT n (A 73)) (hn : F 66 16 = n) (fin : ∀ (F1 : fT) (A1 : nT) (x1 : Option Value), frW F F1 A A1 → mwK F1 A1 (woO n (wyO (A 73) n 161 0 true [] 0)) → V G mX11_way Q 0 0 34 [some (.ref 66), x1] [] (sw F1 A1)) : V G mX11_way Q 0 0 0 [some (.ref 66), none] [] (sw F A) := by
  have hn1 := hT.1
  refine L_aload_n eX11_way_0 rfl ?_
  refine C_v0 p_X11_beginText v_X11_207 eX11_way_1 rfl rfl ?_
  refine L_aload_n eX11_way_4 rfl ?_
  refine V_iconst eX11_way_5 ?_
  refine L_put eX11_way_6 f_X11_224 rfl rfl ?_
  obtain ⟨F1, eF1⟩ : ∃ F1, F1 = uF (uF (uF (uF F 66 17 0) 66 20 0) 66 21 (-1)) 66 27 0 := ⟨_, rfl⟩
  rw [← eF1]
  have f1 : frW F F1 A A := ⟨fun o k q => by rw [eF1, uF_ne (by omega), uF_ne (by omega), uF_ne (by omega), uF_ne (by omega)], fun _ _ => rfl⟩
  have n1 : F1 66 16 = n := by rw [f1.1 66 16 (by decide)]; exact hn
  refine L_aload_n eX11_way_9 rfl ?_
  refine C_vq (m_takeWay (G := G) (F := F1) (A := A) hT n1 (by rw [eF1, uF_ne (by decide), uF_ne (by decide), uF_ne (by decide), uF_eq]) (by rw [eF1, uF_ne (by decide), uF_ne (by decide), uF_eq]) (by rw [eF1, uF_ne (by decide), uF_eq]) ⟨by rw [eF1, uF_eq]; rfl, fun i x e => absurd e (by simp)⟩) v_X11_240 eX11_way_10 rfl rfl (fun r' w' e' => ?_)
  obtain ⟨F2, A2, er, ew, fr, tk⟩ := e'
  subst er ew
  have f2 : frW F F2 A A2 := ⟨fun o k q => by rw [fr.1 o k (by omega)]; exact f1.1 o k q, fun o q => fr.2 o (by omega)⟩
  cases hO : wyO (A 73) n 161 0 true [] 0 with
  | inl e =>
    rw [hO] at tk fin
    obtain ⟨t1, t2, t3⟩ := tk
    refine L_aload_n eX11_way_13 rfl ?_
    refine L_get eX11_way_14 f_X11_164.g rfl rfl ?_
    -- at 17: .ifCond .ne 17
    refine V_ifne eX11_way_17 (fun h2 => ?_) (fun h2 => ?_)
    · exact fin F2 A2 _ f2 ⟨t1, t2, t3⟩
    · omega
  | inr O =>
    rw [hO] at tk fin
    obtain ⟨t1, t2, t3⟩ := tk
    obtain ⟨X, eX, hb, hln⟩ := wy_ba hT 161 0 true [] O 0 (by omega) (by omega) (by show 4 * (0 : Int) + 3 * 0 ≤ 0; omega) hO
    have eX' : O = X := eX
    rw [← eX'] at hb
    obtain ⟨S, eS⟩ : ∃ S, (O.foldl smS ([], [])).1 = S := ⟨_, rfl⟩
    have ew : woO n (.inr O) = if 60 < tsm S then .inl (4, n) else .inr S := by
      rw [← eS]; rfl
    rw [ew] at fin
    refine L_aload_n eX11_way_13 rfl ?_
    refine L_get eX11_way_14 f_X11_164.g rfl rfl ?_
    -- at 17: .ifCond .ne 17
    refine V_ifne eX11_way_17 (fun h2 => ?_) (fun h2 => ?_)
    · exact absurd t2 h2
    refine L_aload_n eX11_way_20 rfl ?_
    refine L_aload_n eX11_way_21 rfl ?_
    refine C_vq (m_runWay (G := G) hb (by omega) t1 eS) v_X11_243 eX11_way_22 rfl rfl (fun r' w' e' => ?_)
    obtain ⟨F3, A3, ew, fr3, k1, k2⟩ := e'
    subst ew
    have f3 : frW F F3 A A3 := ⟨fun o k q => by rw [fr3.1 o k (by omega)]; exact f2.1 o k q, fun o q => by rw [fr3.2 o (by omega)]; exact f2.2 o (by omega)⟩
    have m16 : F3 66 16 = n := by rw [f3.1 66 16 (by decide)]; exact hn
    have m20 : F3 66 20 = 0 := by rw [fr3.1 66 20 (by decide)]; exact t2
    have m21 : F3 66 21 = -1 := by rw [fr3.1 66 21 (by decide)]; exact t3
    by_cases c : 60 < tsm S
    · rw [if_pos c] at fin
      rw [k1 c]
      refine V_iconst eX11_way_25 ?_
      refine L_aload_n eX11_way_26 rfl ?_
      refine L_get eX11_way_27 f_X11_156.g rfl rfl ?_
      rw [m16]
      refine C_v1 (p_X11_want_bad m20 (by omega)) v_X11_189 eX11_way_30 rfl rfl ?_
      refine L_istore_n eX11_way_33 (s_1 rfl rfl) ?_
      refine fin _ A3 _ ⟨fun o k q => by rw [uF_ne (by omega), uF_ne (by omega)]; exact f3.1 o k q, f3.2⟩ ⟨by rw [uF_ne (by decide), uF_eq], uF_eq, by show (1 : Int) ≤ 4 ∧ (4 : Int) ≤ 9; decide⟩
    · rw [if_neg c] at fin
      obtain ⟨k3, k4, k5, k6⟩ := k2 c
      rw [k3]
      refine V_iconst eX11_way_25 ?_
      refine L_aload_n eX11_way_26 rfl ?_
      refine L_get eX11_way_27 f_X11_156.g rfl rfl ?_
      refine C_v1 (p_X11_want_ok (by omega)) v_X11_189 eX11_way_30 rfl rfl ?_
      refine L_istore_n eX11_way_33 (s_1 rfl rfl) ?_
      exact fin F3 A3 _ f3 ⟨m20, m21, k4, k5, k6⟩
end P99v

