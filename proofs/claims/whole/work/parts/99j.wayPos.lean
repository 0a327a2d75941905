/-! WAYS: positions, and the class's addStep -/
abbrev poT : Type := List (Int × Int)
def ptN (b : Int × Int) (s : stT') (j : Nat) : Int × Int := (b.1 + (s.1 * ((j : Int) + 1)).tdiv s.2.2, b.2 + (s.2.1 * ((j : Int) + 1)).tdiv s.2.2)
def ptL (b : Int × Int) (s : stT') (k : Nat) : poT := (List.range k).map (ptN b s)
def lsP (l : poT) : Int × Int := (l[l.length - 1]?).getD (0, 0)
def ptS (l : poT) (s : stT') : poT := l ++ ptL (lsP l) s s.2.2.toNat
theorem ptL_s {b : Int × Int} {s : stT'} {k : Nat} : ptL b s (k + 1) = ptL b s k ++ [ptN b s k] := by
  unfold ptL
  rw [List.range_succ, List.map_append]
  rfl
theorem ptL_len {b : Int × Int} {s : stT'} {k : Nat} : (ptL b s k).length = k := by
  unfold ptL
  rw [List.length_map, List.length_range]
theorem ptS_len {l : poT} {s : stT'} : (ptS l s).length = l.length + s.2.2.toNat := by
  unfold ptS
  rw [List.length_append, ptL_len]
/-- the rows oX and oY hold these positions -/
def prK (A : nT) (oX oY : Nat) (l : poT) : Prop := ∀ (i : Nat) (x : Int × Int), l[i]? = some x → A oX i = x.1 ∧ A oY i = x.2
theorem prK.add {A : nT} {oX oY m : Nat} {l : poT} {x : Int × Int} (h : prK A oX oY l) (hne : oX ≠ oY) (hm : l.length = m) : prK (sA (sA A oX (uI (A oX) m x.1)) oY (uI (A oY) m x.2)) oX oY (l ++ [x]) := by
  intro i y e
  rw [sA_ne hne, sA_eq, sA_eq]
  by_cases c : i < l.length
  · rw [List.getElem?_append_left c] at e
    have := h i y e
    have cne : (i : Int) ≠ m := by omega
    rw [uI_ne cne, uI_ne cne]
    exact this
  · rw [List.getElem?_append_right (by omega)] at e
    by_cases c2 : i = l.length
    · rw [c2, Nat.sub_self] at e
      have := Option.some.inj e
      subst this
      rw [c2, hm, uI_eq, uI_eq]
      exact ⟨rfl, rfl⟩
    · rw [List.getElem?_eq_none (by show 1 ≤ _; omega)] at e
      exact absurd e (by simp)
theorem prK.ls {A : nT} {oX oY m : Nat} {l l2 : poT} (h : prK A oX oY (l ++ l2)) (hm : l.length = m + 1) : A oX m = (lsP l).1 ∧ A oY m = (lsP l).2 := by
  refine h m (lsP l) ?_
  rw [List.getElem?_append_left (by omega)]
  unfold lsP
  rw [hm, Nat.add_sub_cancel]
  have : m < l.length := by omega
  rw [List.getElem?_eq_getElem this]
  rfl
section P99j
variable {F : fT} {A : nT} {l : poT}
theorem c_addW {G : gT} {m y : Nat} {ux uy t : Int} (hy : isWy y) (hm : l.length = m + 1) (h0 : F y 0 = m) (hp : prK A (y + 1) (y + 2) l) (ht : 1 ≤ t ∧ t ≤ 30) (hux : ab 999 ux) (huy : ab 999 uy) (cap : (m : Int) + t ≤ 60) (hc : 0 ≤ F y 1 ∧ F y 1 ≤ 1000) : Meets G mX8_addStep [.ref y, vi ux, vi uy, vi t] (sw F A) (fun r w => ∃ F1 A1, r = none ∧ w = sw F1 A1 ∧ (∀ o k, (o ≠ y ∨ 1 < k) → F1 o k = F o k) ∧ (∀ o, o < y + 1 ∨ y + 2 < o → A1 o = A o) ∧ F1 y 0 = m + t ∧ F1 y 1 = F y 1 + 1 ∧ prK A1 (y + 1) (y + 2) (ptS l (ux, uy, t))) := by
  refine L_ent [some (.ref y), some (vi ux), some (vi uy), some (vi t), none, none] rfl ?_
  generalize hQ : (fun (r : Option Value) (w : wT) => ∃ F1 A1, r = none ∧ w = sw F1 A1 ∧ (∀ o k, (o ≠ y ∨ 1 < k) → F1 o k = F o k) ∧ (∀ o, o < y + 1 ∨ y + 2 < o → A1 o = A o) ∧ F1 y 0 = m + t ∧ F1 y 1 = F y 1 + 1 ∧ prK A1 (y + 1) (y + 2) (ptS l (ux, uy, t))) = Q
  have LOOP : ∀ (r j : Nat) (F1 : fT) (A1 : nT), (j : Int) + r = t → F1 y 0 = (m + j : Nat) → (∀ o k, (o ≠ y ∨ k ≠ 0) → F1 o k = F o k) → (∀ o, o < y + 1 ∨ y + 2 < o → A1 o = A o) → prK A1 (y + 1) (y + 2) (l ++ ptL (lsP l) (ux, uy, t) j) → V G mX8_addStep Q 0 0 9 [some (.ref y), some (vi ux), some (vi uy), some (vi t), some (vi m), some (vi ((j : Int) + 1))] [] (sw F1 A1) := by
    intro r
    induction r with
    | zero =>
      intro j F1 A1 e1 e0 ef ea pr
      refine L_iload eX8_addStep_9 rfl ?_
      refine L_iload_n eX8_addStep_11 rfl ?_
      -- at 12: .if_icmp .gt 74
      refine V_icmpgt eX8_addStep_12 (fun h2 => ?_) (fun h2 => ?_)
      · have g1 : F1 y 1 = F y 1 := ef y 1 (by omega)
        refine L_aload_n eX8_addStep_86 rfl ?_
        refine L_dup eX8_addStep_87 ?_
        refine L_get eX8_addStep_88 f_X8_15.g hy.k (hy.i (by decide)) ?_
        refine V_iconst eX8_addStep_91 ?_
        refine V_iadd eX8_addStep_92 ?_
        refine L_put eX8_addStep_93 f_X8_15 hy.k (hy.i (by decide)) ?_
        refine V_return eX8_addStep_96 ?_
        rw [← hQ]
        refine ⟨_, A1, rfl, rfl, fun o k q => by rw [uF_ne (by omega)]; exact ef o k (by omega), ea, by rw [uF_ne (by omega), e0]; omega, by rw [uF_eq, g1], ?_⟩
        unfold ptS
        rw [show (ux, uy, t).2.2.toNat = j by show t.toNat = j; omega]
        exact pr
      · omega
    | succ r ih =>
      intro j F1 A1 e1 e0 ef ea pr
      have hls := pr.ls hm
      have bx := ab_mul (C := 30) hux (show 0 ≤ (j : Int) + 1 by omega) (by omega)
      have by' := ab_mul (C := 30) huy (show 0 ≤ (j : Int) + 1 by omega) (by omega)
      unfold ab at bx by'
      refine L_iload eX8_addStep_9 rfl ?_
      refine L_iload_n eX8_addStep_11 rfl ?_
      -- at 12: .if_icmp .gt 74
      refine V_icmpgt eX8_addStep_12 (fun h2 => ?_) (fun h2 => ?_)
      · omega
      refine L_aload_n eX8_addStep_15 rfl ?_
      refine L_get eX8_addStep_16 f_X8_9.g hy.k (hy.i (by decide)) ?_
      refine L_bipush eX8_addStep_19 rfl ?_
      -- at 21: .if_icmp .ge 65
      refine V_icmpge eX8_addStep_21 (fun h3 => ?_) (fun h3 => ?_)
      · omega
      refine L_aload_n eX8_addStep_24 rfl ?_
      refine L_dup eX8_addStep_25 ?_
      refine L_get eX8_addStep_26 f_X8_9.g hy.k (hy.i (by decide)) ?_
      refine V_iconst eX8_addStep_29 ?_
      refine V_iadd eX8_addStep_30 ?_
      refine L_put eX8_addStep_31 f_X8_9 hy.k (hy.i (by decide)) ?_
      obtain ⟨F2, eF2⟩ : ∃ F2, F2 = uF F1 y 0 (F1 y 0 + 1) := ⟨_, rfl⟩
      rw [← eF2]
      have m0 : F2 y 0 = ((m + 1 + j : Nat) : Int) := by rw [eF2, uF_eq, e0]; omega
      refine L_aload_n eX8_addStep_34 rfl ?_
      refine L_getR eX8_addStep_35 f_X8_18.g hy.k hy.r2 (by omega) ?_
      refine L_aload_n eX8_addStep_38 rfl ?_
      refine L_get eX8_addStep_39 f_X8_9.g hy.k (hy.i (by decide)) ?_
      refine L_aload_n eX8_addStep_42 rfl ?_
      refine L_getR eX8_addStep_43 f_X8_18.g hy.k hy.r2 (by omega) ?_
      refine L_iload eX8_addStep_46 rfl ?_
      refine L_iald eX8_addStep_48 hy.k1 ?_
      refine L_iload_n eX8_addStep_49 rfl ?_
      refine L_iload eX8_addStep_50 rfl ?_
      refine V_imul eX8_addStep_52 ?_
      refine L_iload_n eX8_addStep_53 rfl ?_
      refine V_idiv eX8_addStep_54 ?_
      refine V_iadd eX8_addStep_55 ?_
      refine L_iast eX8_addStep_56 hy.k1 ?_
      refine L_aload_n eX8_addStep_57 rfl ?_
      refine L_getR eX8_addStep_58 f_X8_22.g hy.k hy.r3 (by omega) ?_
      refine L_aload_n eX8_addStep_61 rfl ?_
      refine L_get eX8_addStep_62 f_X8_9.g hy.k (hy.i (by decide)) ?_
      refine L_aload_n eX8_addStep_65 rfl ?_
      refine L_getR eX8_addStep_66 f_X8_22.g hy.k hy.r3 (by omega) ?_
      refine L_iload eX8_addStep_69 rfl ?_
      refine L_iald eX8_addStep_71 hy.k2 ?_
      refine L_iload_n eX8_addStep_72 rfl ?_
      refine L_iload eX8_addStep_73 rfl ?_
      refine V_imul eX8_addStep_75 ?_
      refine L_iload_n eX8_addStep_76 rfl ?_
      refine V_idiv eX8_addStep_77 ?_
      refine V_iadd eX8_addStep_78 ?_
      refine L_iast eX8_addStep_79 hy.k2 ?_
      refine L_iinc eX8_addStep_80 rfl (s_5 rfl rfl) ?_
      refine V_goto eX8_addStep_83 ?_
      refine ih (j + 1) F2 _ (by omega) (by rw [m0]; omega) (fun o k q => by rw [eF2, uF_ne (by omega)]; exact ef o k q) (fun o q => by rw [sA_ne (by omega), sA_ne (by omega)]; exact ea o q) ?_
      have := pr.add (x := ptN (lsP l) (ux, uy, t) j) (by omega) (show (l ++ ptL (lsP l) (ux, uy, t) j).length = m + 1 + j by rw [List.length_append, ptL_len, hm])
      rw [ptL_s, ← List.append_assoc, m0, hls.1, sA_ne (A := A1) (o := y + 1) (o' := y + 2) (by omega), hls.2]
      exact this
  refine L_aload_n eX8_addStep_0 rfl ?_
  refine L_get eX8_addStep_1 f_X8_9.g hy.k (hy.i (by decide)) ?_
  refine L_istore eX8_addStep_4 (s_4 rfl rfl) ?_
  refine V_iconst eX8_addStep_6 ?_
  refine L_istore eX8_addStep_7 (s_5 rfl rfl) ?_
  rw [h0]
  refine LOOP t.toNat 0 F A (by omega) (by rw [h0]; rfl) (fun _ _ _ => rfl) (fun _ _ => rfl) ?_
  show prK A (y + 1) (y + 2) (l ++ [])
  rw [List.append_nil]
  exact hp
end P99j

