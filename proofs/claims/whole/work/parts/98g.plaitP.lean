/-! PLAITS told in a text: what is read -/
abbrev oT (α : Type) : Type := (Int × Int) ⊕ α
def bO' {α β : Type} (o : oT α) (f : α → oT β) : oT β := match o with
  | .inl e => .inl e
  | .inr x => f x
noncomputable def wdO (T : Int → Int) (n : Int) (j : Nat) (a : Int) : oT Int := @ite _ (wm T n j (skp T n a)) (Classical.propDecidable _) (.inr (skp T n a + sLn.getD j 0)) (.inl (1, skp T n a))
def sgO (T : Int → Int) (n s a : Int) : oT Int := if chA T n (skp T n a) = s then .inr (skp T n a + 1) else .inl (1, skp T n a)
def nmO (T : Int → Int) (n : Int) (sg : Bool) (lo hi a : Int) : oT (Int × Int) := if (nmR T n sg lo hi a).1 = 0 then .inr ((nmR T n sg lo hi a).2.2.1, (nmR T n sg lo hi a).2.2.2) else .inl ((nmR T n sg lo hi a).1, (nmR T n sg lo hi a).2.1)
noncomputable def sfO (T : Int → Int) (n a : Int) : oT (Int × Int) := @ite _ (wm T n 3 (skp T n a)) (Classical.propDecidable _) (nmO T n false 0 3 (skp T n a + 5)) (.inr (0, a))
def lsS (L : List (Int × Int)) : Int := (L.getD (L.length - 1) (0, 0)).1
noncomputable def pcO (T : Int → Int) (n : Int) (L : List (Int × Int)) (a : Int) : oT (List (Int × Int) × Int) :=
  bO' (nmO T n false 1 12 a) fun x => if 12 < (L.length : Int) + x.1 then .inl (4, skp T n a) else
  bO' (wdO T n 2 x.2) fun a3 => bO' (nmO T n false 1 16 a3) fun y => if 0 < L.length ∧ lsS L < y.1 then .inl (3, skp T n a3) else
  bO' (sfO T n y.2) fun z => bO' (sgO T n 59 z.2) fun a6 => .inr (L ++ List.replicate x.1.toNat (y.1, z.1), a6)
noncomputable def lnO (T : Int → Int) (n hl q : Int) : oT (Int × Int) := if hl = 1 then .inl (5, q) else
  bO' (nmO T n false 20 200 (q + 6)) fun x => bO' (sgO T n 59 x.2) fun a3 => .inr (x.1, a3)
noncomputable def plO (T : Int → Int) (n : Int) : Nat → List (Int × Int) → Int → Int → Int → oT (List (Int × Int) × Int)
  | 0, _, _, _, _ => .inl (1, 0)
  | r + 1, L, len, hl, a => if skp T n a < n then
      (@ite _ (wm T n 0 (skp T n a)) (Classical.propDecidable _) (bO' (pcO T n L (skp T n a + 5)) fun x => plO T n r x.1 len hl x.2)
        (@ite _ (wm T n 1 (skp T n a)) (Classical.propDecidable _) (bO' (lnO T n hl (skp T n a)) fun x => plO T n r L x.1 1 x.2) (.inl (1, skp T n a))))
    else if L.length = 0 then .inl (1, n) else .inr (L, len)
section P98g
variable {T : Int → Int} {n a lo hi : Int} {sg : Bool}
/-- a NUMBER that is fine lies in its bounds, and the place behind it is further on -/
theorem nm_ok {v e : Int} (hT : txT n T) (hab : 0 ≤ a ∧ a ≤ n) (h : nmO T n sg lo hi a = .inr (v, e)) : (lo ≤ v ∧ v ≤ hi) ∧ a < e ∧ e ≤ n := by
  have hq : a ≤ skp T n a ∧ skp T n a ≤ n := rn_ge hab.2
  unfold nmO at h
  by_cases c : (nmR T n sg lo hi a).1 = 0
  · rw [if_pos c] at h
    have h' := Sum.inr.inj h
    have h1 := congrArg Prod.fst h'
    have h2 := congrArg Prod.snd h'
    simp only [] at h1 h2
    unfold nmR at c h1 h2
    generalize eq : skp T n a = q at *
    have hfq : q ≤ nmF T n sg q ∧ nmF T n sg q ≤ n := by
      have hc := chA_b (q := q) hT (by omega)
      unfold nmF
      by_cases w : sg = true ∧ chA T n q = 45
      · rw [if_pos w]
        have := hc.2.2 (by omega)
        omega
      · rw [if_neg w]; omega
    generalize nmF T n sg q = f at *
    have he : f ≤ drn T n f ∧ drn T n f ≤ n := rn_ge hfq.2
    unfold nmG at c h1 h2
    by_cases d : drn T n f = f
    · rw [if_pos d] at c
      exact absurd c (by show ¬ (1 : Int) = 0; decide)
    · rw [if_neg d] at c h1 h2
      by_cases g : 3 < drn T n f - f ∨ nmV T n q f < lo ∨ hi < nmV T n q f
      · rw [if_pos g] at c
        exact absurd c (by show ¬ (2 : Int) = 0; decide)
      · rw [if_neg g] at h1 h2
        have h1' : nmV T n q f = v := h1
        have h2' : drn T n f = e := h2
        omega
  · rw [if_neg c] at h
    exact absurd h (by simp)
theorem nm_k {v at' fk fp fp0 : Int} (h : nmK (nmR T n sg lo hi a) v at' fk fp fp0) : (∃ e, nmO T n sg lo hi a = .inr (v, e) ∧ at' = e ∧ fk = 0 ∧ fp = fp0) ∨ (∃ k p, nmO T n sg lo hi a = .inl (k, p) ∧ (1 ≤ k ∧ k ≤ 2) ∧ fk = k ∧ fp = p) := by
  unfold nmO
  rcases h with ⟨h1, h2, h3, h4, h5⟩ | ⟨h1, h2, h3, h4⟩
  · rw [if_pos h1]
    exact Or.inl ⟨_, by rw [h2], h3, h4, h5⟩
  · rw [if_neg (by omega)]
    exact Or.inr ⟨_, _, rfl, ⟨h1, h2⟩, h3, h4⟩
theorem wd_ok {j : Nat} {e : Int} (hj : j < 8) (hab : 0 ≤ a ∧ a ≤ n) (h : wm T n j (skp T n a)) : wdO T n j a = .inr (skp T n a + sLn.getD j 0) ∧ a < skp T n a + sLn.getD j 0 ∧ skp T n a + sLn.getD j 0 ≤ n := by
  have hq : a ≤ skp T n a ∧ skp T n a ≤ n := rn_ge hab.2
  have hw := (wm_i (T := T) (n := n) (q := skp T n a) hj (by omega)).mp h
  have hl' : 2 ≤ sLn.getD j 0 ∧ sLn.getD j 0 ≤ 7 := (wd_l ⟨j, hj⟩).2
  refine ⟨?_, by omega, hw.1⟩
  unfold wdO
  rw [if_pos h]
theorem wd_no {j : Nat} (h : ¬ wm T n j (skp T n a)) : wdO T n j a = .inl (1, skp T n a) := by
  unfold wdO
  rw [if_neg h]
theorem sg_ok {s : Int} (hs : 1 ≤ s) (hT : txT n T) (hab : 0 ≤ a ∧ a ≤ n) (h : chA T n (skp T n a) = s) : sgO T n s a = .inr (skp T n a + 1) ∧ a < skp T n a + 1 ∧ skp T n a + 1 ≤ n := by
  have hq : a ≤ skp T n a ∧ skp T n a ≤ n := rn_ge hab.2
  have hc := chA_b (q := skp T n a) hT (by omega)
  refine ⟨if_pos h, by omega, ?_⟩
  have := hc.2.2 (by omega)
  omega
theorem sg_no {s : Int} (h : chA T n (skp T n a) ≠ s) : sgO T n s a = .inl (1, skp T n a) := if_neg h
end P98g
/-- PIECES as the class's reader has them -/
abbrev pcL : Type := List (Int × Int)
def arL (F : fT) (A : nT) (L : pcL) : Prop := (F 31 0 = L.length) ∧ (L.length ≤ 12) ∧ (∀ (i : Nat) (hi : i < L.length), A 32 i = L[i].1 ∧ A 33 i = L[i].2 ∧ A 34 i = 0) ∧ (∀ (i : Nat) (hi : i < L.length), (1 ≤ L[i].1 ∧ L[i].1 ≤ 16) ∧ 0 ≤ L[i].2 ∧ L[i].2 < 4)
theorem arL.n {F : fT} {A : nT} {L : pcL} (h : arL F A L) : F 31 0 = L.length := h.1
theorem arL.le {F : fT} {A : nT} {L : pcL} (h : arL F A L) : L.length ≤ 12 := h.2.1
theorem arL.s {F : fT} {A : nT} {L : pcL} (h : arL F A L) : ∀ (i : Nat) (hi : i < L.length), A 32 i = L[i].1 ∧ A 33 i = L[i].2 ∧ A 34 i = 0 := h.2.2.1
theorem arL.b {F : fT} {A : nT} {L : pcL} (h : arL F A L) : ∀ (i : Nat) (hi : i < L.length), (1 ≤ L[i].1 ∧ L[i].1 ≤ 16) ∧ 0 ≤ L[i].2 ∧ L[i].2 < 4 := h.2.2.2
theorem arL.mk {F : fT} {A : nT} {L : pcL} (qn : F 31 0 = L.length) (qle : L.length ≤ 12) (qs : ∀ (i : Nat) (hi : i < L.length), A 32 i = L[i].1 ∧ A 33 i = L[i].2 ∧ A 34 i = 0) (qb : ∀ (i : Nat) (hi : i < L.length), (1 ≤ L[i].1 ∧ L[i].1 ≤ 16) ∧ 0 ≤ L[i].2 ∧ L[i].2 < 4) : arL F A L := ⟨qn, qle, qs, qb⟩
section Q98g
variable {F : fT} {A : nT} {L : List (Int × Int)}
theorem lsS_at {L : List (Int × Int)} (h : 0 < L.length) : lsS L = (L[L.length - 1]'(by omega)).1 := by
  unfold lsS
  rw [List.getD_eq_getElem?_getD, List.getElem?_eq_getElem (by omega)]
  rfl
theorem c_addPieces {G : gT} {m s f : Int} (h : arL F A L) (hm : 1 ≤ m) (hl : (L.length : Int) + m ≤ 12) (hs : 1 ≤ s ∧ s ≤ 16) (hf : 0 ≤ f ∧ f < 4) : Meets G mX3_addPieces [.ref 31, vi m, vi s, vi f] (sw F A) (fun r w => ∃ F1 A1, r = none ∧ w = sw F1 A1 ∧ arL F1 A1 (L ++ List.replicate m.toNat (s, f)) ∧ (∀ o k, (o ≠ 31 ∨ k ≠ 0) → F1 o k = F o k) ∧ ∀ o, o < 32 ∨ 34 < o → A1 o = A o) := by
  refine L_ent [some (.ref 31), some (vi m), some (vi s), some (vi f), none] rfl ?_
  generalize hQ : (fun (r : Option Value) (w : wT) => ∃ F1 A1, r = none ∧ w = sw F1 A1 ∧ arL F1 A1 (L ++ List.replicate m.toNat (s, f)) ∧ (∀ o k, (o ≠ 31 ∨ k ≠ 0) → F1 o k = F o k) ∧ ∀ o, o < 32 ∨ 34 < o → A1 o = A o) = Q
  have LOOP : ∀ (r i : Nat) (F1 : fT) (A1 : nT), (i : Int) + r = m → arL F1 A1 (L ++ List.replicate i (s, f)) → (∀ o k, (o ≠ 31 ∨ k ≠ 0) → F1 o k = F o k) → (∀ o, o < 32 ∨ 34 < o → A1 o = A o) → V G mX3_addPieces Q 0 0 3 [some (.ref 31), some (vi m), some (vi s), some (vi f), some (vi (i : Int))] [] (sw F1 A1) := by
    intro r
    induction r with
    | zero =>
      intro i F1 A1 e1 ar ff fa
      refine L_iload eX3_addPieces_3 rfl ?_
      refine L_iload_n eX3_addPieces_5 rfl ?_
      -- at 6: .if_icmp .ge 58
      refine V_icmpge eX3_addPieces_6 (fun h2 => ?_) (fun h2 => ?_)
      · refine V_return eX3_addPieces_64 ?_
        rw [← hQ, show m.toNat = i by omega]
        exact ⟨F1, A1, rfl, rfl, ar, ff, fa⟩
      · omega
    | succ r ih =>
      intro i F1 A1 e1 ar ff fa
      have en := ar.n
      rw [List.length_append, List.length_replicate] at en
      have n31 : 0 ≤ F1 31 0 ∧ F1 31 0 < 12 := by omega
      refine L_iload eX3_addPieces_3 rfl ?_
      refine L_iload_n eX3_addPieces_5 rfl ?_
      -- at 6: .if_icmp .ge 58
      refine V_icmpge eX3_addPieces_6 (fun h2 => ?_) (fun h2 => ?_)
      · omega
      · refine L_aload_n eX3_addPieces_9 rfl ?_
        refine L_get eX3_addPieces_10 f_X3_9.g rfl rfl ?_
        refine L_bipush eX3_addPieces_13 rfl ?_
        -- at 15: .if_icmp .ge 49
        refine V_icmpge eX3_addPieces_15 (fun h3 => ?_) (fun h3 => ?_)
        · omega
        · refine L_aload_n eX3_addPieces_18 rfl ?_
          refine L_getR (r := 32) eX3_addPieces_19 f_X3_18.g rfl rfl (by decide) ?_
          refine L_aload_n eX3_addPieces_22 rfl ?_
          refine L_get eX3_addPieces_23 f_X3_9.g rfl rfl ?_
          refine L_iload_n eX3_addPieces_26 rfl ?_
          refine L_iast eX3_addPieces_27 rfl ?_
          refine L_aload_n eX3_addPieces_28 rfl ?_
          refine L_getR (r := 33) eX3_addPieces_29 f_X3_22.g rfl rfl (by decide) ?_
          refine L_aload_n eX3_addPieces_32 rfl ?_
          refine L_get eX3_addPieces_33 f_X3_9.g rfl rfl ?_
          refine L_iload_n eX3_addPieces_36 rfl ?_
          refine L_iast eX3_addPieces_37 rfl ?_
          refine L_aload_n eX3_addPieces_38 rfl ?_
          refine L_getR (r := 34) eX3_addPieces_39 f_X3_25.g rfl rfl (by decide) ?_
          refine L_aload_n eX3_addPieces_42 rfl ?_
          refine L_get eX3_addPieces_43 f_X3_9.g rfl rfl ?_
          refine V_iconst eX3_addPieces_46 ?_
          refine L_iast eX3_addPieces_47 rfl ?_
          refine L_aload_n eX3_addPieces_48 rfl ?_
          refine L_dup eX3_addPieces_49 ?_
          refine L_get eX3_addPieces_50 f_X3_9.g rfl rfl ?_
          refine V_iconst eX3_addPieces_53 ?_
          refine V_iadd eX3_addPieces_54 ?_
          refine L_put eX3_addPieces_55 f_X3_9 rfl rfl ?_
          refine L_iinc eX3_addPieces_58 rfl (s_4 rfl rfl) ?_
          refine V_goto eX3_addPieces_61 ?_
          refine ih (i + 1) _ _ (by omega) ?_ (fun o k q => by rw [uF_ne q]; exact ff o k q) (fun o q => by rw [sA_ne (by omega), sA_ne (by omega), sA_ne (by omega)]; exact fa o q)
          have el : L ++ List.replicate (i + 1) (s, f) = (L ++ List.replicate i (s, f)) ++ [(s, f)] := by
            rw [List.replicate_succ', List.append_assoc]
          rw [el]
          generalize L ++ List.replicate i (s, f) = L1 at *
          have en1 := ar.n
          refine arL.mk ?_ ?_ ?_ ?_
          · rw [uF_eq, List.length_append, en1]
            rfl
          · rw [List.length_append]
            show L1.length + 1 ≤ 12
            omega
          · intro k hk
            rw [List.length_append] at hk
            have hk' : k < L1.length + 1 := hk
            by_cases c : k < L1.length
            · rw [List.getElem_append_left c]
              have := ar.s k c
              have cne : (k : Int) ≠ F1 31 0 := by omega
              simp [sA]
              rw [uI_ne cne, uI_ne cne, uI_ne cne]
              exact this
            · have ce : (k : Int) = F1 31 0 := by omega
              rw [List.getElem_append_right (by omega)]
              simp [sA, ce]
              rw [uI_eq, uI_eq, uI_eq]
              exact ⟨rfl, rfl, rfl⟩
          · intro k hk
            rw [List.length_append] at hk
            have hk' : k < L1.length + 1 := hk
            by_cases c : k < L1.length
            · rw [List.getElem_append_left c]
              exact ar.b k c
            · rw [List.getElem_append_right (by omega)]
              simp
              omega
  refine V_iconst eX3_addPieces_0 ?_
  refine L_istore eX3_addPieces_1 (s_4 rfl rfl) ?_
  exact LOOP m.toNat 0 F A (by omega) (by rw [List.replicate_zero, List.append_nil]; exact h) (fun _ _ _ => rfl) (fun _ _ => rfl)
end Q98g

