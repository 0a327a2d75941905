/-! WAYS: laid into the way, in the class -/
def stB (s : stT') : Prop := ab 999 s.1 ∧ ab 999 s.2.1 ∧ 1 ≤ s.2.2 ∧ s.2.2 ≤ 30
theorem tsm_c {s : stT'} {L : lwT} : tsm (s :: L) = s.2.2 + tsm L := by
  unfold tsm
  rw [List.map_cons, List.sum_cons]
theorem tsm_ge : ∀ L : lwT, (∀ s ∈ L, stB s) → (L.length : Int) ≤ tsm L := by
  intro L
  induction L with
  | nil => intro _; decide
  | cons s L ih =>
    intro hb
    have h1 := (hb s (by simp)).2.2.1
    have h2 := ih (fun x hx => hb x (by simp [hx]))
    rw [tsm_c, List.length_cons]
    omega
theorem pt_len : ∀ (L : lwT) (l : poT), (∀ s ∈ L, stB s) → ((L.foldl ptS l).length : Int) = l.length + tsm L := by
  intro L
  induction L with
  | nil => intro l _; show (l.length : Int) = l.length + 0; omega
  | cons s L ih =>
    intro l hb
    have h1 := (hb s (by simp)).2.2.1
    rw [List.foldl_cons, ih (ptS l s) (fun x hx => hb x (by simp [hx])), ptS_len, tsm_c]
    omega
section P99k
variable {F : fT} {A : nT} {L : lwT}
theorem c_layInto {G : gT} (K : wyK F A L []) (hb : ∀ s ∈ L, stB s) (h60 : tsm L ≤ 60) (w0 : A 7 0 = 0 ∧ A 8 0 = 0) : Meets G mX9_layInto [.ref 35, .ref 6] (sw F A) (fun r w => ∃ F1 A1, r = none ∧ w = sw F1 A1 ∧ (∀ o k, (o ≠ 6 ∨ 1 < k) → F1 o k = F o k) ∧ (∀ o, o < 7 ∨ 8 < o → A1 o = A o) ∧ F1 6 0 = tsm L ∧ F1 6 1 = L.length ∧ prK A1 7 8 (L.foldl ptS [(0, 0)])) := by
  have hL := tsm_ge L hb
  have hn := K.n
  have hs := K.s
  refine L_ent [some (.ref 35), some (.ref 6), none] rfl ?_
  generalize hQ : (fun (r : Option Value) (w : wT) => ∃ F1 A1, r = none ∧ w = sw F1 A1 ∧ (∀ o k, (o ≠ 6 ∨ 1 < k) → F1 o k = F o k) ∧ (∀ o, o < 7 ∨ 8 < o → A1 o = A o) ∧ F1 6 0 = tsm L ∧ F1 6 1 = L.length ∧ prK A1 7 8 (L.foldl ptS [(0, 0)])) = Q
  have LOOP : ∀ (R P : lwT) (F1 : fT) (A1 : nT), L = P ++ R → (∀ o k, (o ≠ 6 ∨ 1 < k) → F1 o k = F o k) → (∀ o, o < 7 ∨ 8 < o → A1 o = A o) → F1 6 0 = tsm P → F1 6 1 = P.length → prK A1 7 8 (P.foldl ptS [(0, 0)]) → V G mX9_layInto Q 0 0 12 [some (.ref 35), some (.ref 6), some (vi P.length)] [] (sw F1 A1) := by
    intro R
    induction R with
    | nil =>
      intro P F1 A1 eL ef ea e0 e1 pr
      rw [List.append_nil] at eL
      subst eL
      have m3 : F1 35 3 = F 35 3 := ef 35 3 (by omega)
      refine L_iload_n eX9_layInto_12 rfl ?_
      refine L_aload_n eX9_layInto_13 rfl ?_
      refine L_get eX9_layInto_14 f_X9_21.g rfl rfl ?_
      -- at 17: .if_icmp .ge 31
      refine V_icmpge eX9_layInto_17 (fun h2 => ?_) (fun h2 => ?_)
      · refine V_return eX9_layInto_48 ?_
        rw [← hQ]
        exact ⟨F1, A1, rfl, rfl, ef, ea, e0, e1, pr⟩
      · omega
    | cons s R ih =>
      intro P F1 A1 eL ef ea e0 e1 pr
      have m3 : F1 35 3 = F 35 3 := ef 35 3 (by omega)
      have lenL : L.length = P.length + (R.length + 1) := by rw [eL, List.length_append, List.length_cons]
      have hsb := hb s (by rw [eL]; simp)
      have hPb : ∀ x ∈ P, stB x := fun x hx => hb x (by rw [eL]; simp [hx])
      have hRb : ∀ x ∈ R, stB x := fun x hx => hb x (by rw [eL]; simp [hx])
      have tP := tsm_ge P hPb
      have tR := tsm_ge R hRb
      have tL : tsm L = tsm P + (s.2.2 + tsm R) := by rw [eL, tsm_app, tsm_c]
      have pl := pt_len P [(0, 0)] hPb
      have pl1 : (([(0, 0)] : poT).length : Int) = 1 := rfl
      rw [pl1] at pl
      have hr := hs P.length s (by omega) (by rw [eL, List.getElem?_append_right (by omega), Nat.sub_self]; rfl)
      rw [← ea 36 (by omega), ← ea 37 (by omega), ← ea 38 (by omega)] at hr
      obtain ⟨b1, b2, b3, b4⟩ := hsb
      refine L_iload_n eX9_layInto_12 rfl ?_
      refine L_aload_n eX9_layInto_13 rfl ?_
      refine L_get eX9_layInto_14 f_X9_21.g rfl rfl ?_
      -- at 17: .if_icmp .ge 31
      refine V_icmpge eX9_layInto_17 (fun h2 => ?_) (fun h2 => ?_)
      · omega
      refine L_aload_n eX9_layInto_20 rfl ?_
      refine L_aload_n eX9_layInto_21 rfl ?_
      refine L_getR (r := 36) eX9_layInto_22 f_X9_9.g rfl rfl (by decide) ?_
      refine L_iload_n eX9_layInto_25 rfl ?_
      refine L_iald eX9_layInto_26 rfl ?_
      refine L_aload_n eX9_layInto_27 rfl ?_
      refine L_getR (r := 37) eX9_layInto_28 f_X9_15.g rfl rfl (by decide) ?_
      refine L_iload_n eX9_layInto_31 rfl ?_
      refine L_iald eX9_layInto_32 rfl ?_
      refine L_aload_n eX9_layInto_33 rfl ?_
      refine L_getR (r := 38) eX9_layInto_34 f_X9_18.g rfl rfl (by decide) ?_
      refine L_iload_n eX9_layInto_37 rfl ?_
      refine L_iald eX9_layInto_38 rfl ?_
      rw [hr.1, hr.2.1, hr.2.2]
      refine C_vq (c_addW (G := G) (m := (tsm P).toNat) (l := P.foldl ptS [(0, 0)]) (show isWy 6 from Or.inl rfl) (by omega) (by rw [e0]; omega) pr ⟨b3, b4⟩ b1 b2 (by omega) (by omega)) v_X9_72 eX9_layInto_39 rfl rfl (fun r' w' e' => ?_)
      obtain ⟨F2, A2, er, ew, ff, fa, g0, g1, pr2⟩ := e'
      subst er ew
      have := ih (P ++ [s]) F2 A2 (by rw [eL, List.append_assoc]; rfl) (fun o k q => by rw [ff o k q]; exact ef o k q) (fun o q => by rw [fa o q]; exact ea o q) (by rw [g0, tsm_app, tsm_one]; omega) (by rw [g1, e1, List.length_append]; rfl) (by rw [List.foldl_append]; exact pr2)
      rw [List.length_append] at this
      refine L_iinc eX9_layInto_42 rfl (s_2 rfl rfl) ?_
      refine V_goto eX9_layInto_45 ?_
      exact this
  refine L_aload_n eX9_layInto_0 rfl ?_
  refine V_iconst eX9_layInto_1 ?_
  refine L_put eX9_layInto_2 f_X9_68 rfl rfl ?_
  refine L_aload_n eX9_layInto_5 rfl ?_
  refine V_iconst eX9_layInto_6 ?_
  refine L_put eX9_layInto_7 f_X9_71 rfl rfl ?_
  refine V_iconst eX9_layInto_10 ?_
  refine L_istore_n eX9_layInto_11 (s_2 rfl rfl) ?_
  refine LOOP L [] _ A rfl (fun o k q => by rw [uF_ne (by omega), uF_ne (by omega)]) (fun _ _ => rfl) (by rw [uF_ne (by omega), uF_eq]; rfl) uF_eq ?_
  intro i x e
  have e' : ([(0, 0)] : poT)[i]? = some x := e
  cases i with
  | zero =>
    have := Option.some.inj e'
    rw [← this]
    exact w0
  | succ i => exact absurd e' (by simp)
end P99k

