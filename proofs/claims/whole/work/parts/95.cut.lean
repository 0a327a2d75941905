/-! STRANDS cut from hides: the fewest hides -/
def isB (E : Nat → Prop) (n : Nat) (b : Int) : Prop := (b = -1 ∧ ∀ t, t < n → ¬ E t) ∨ ∃ m : Nat, m < n ∧ b = m ∧ E m ∧ ∀ t, t < n → E t → pcN m < pcN t ∨ pcN m = pcN t ∧ m ≤ t
theorem isB_u {E : Nat → Prop} {n : Nat} {b b' : Int} (h : isB E n b) (h' : isB E n b') : b = b' := by
  rcases h with ⟨a1, a2⟩ | ⟨m, a1, a2, a3, a4⟩
  · rcases h' with ⟨c1, c2⟩ | ⟨k, c1, c2, c3, c4⟩
    · omega
    · exact absurd c3 (a2 k c1)
  · rcases h' with ⟨c1, c2⟩ | ⟨k, c1, c2, c3, c4⟩
    · exact absurd a3 (c2 m a1)
    · have p := a4 k c1 c3
      have q := c4 m a1 a3
      omega
section P95
variable {F : fT} {A : nT} {c h : Nat} {H L : Int → Int}
theorem m_fewest {G : gT} (hh : F 59 0 = h) (h6 : h ≤ 6) (hc : F 59 1 = c) (c8 : c ≤ 8) (eH : A 60 = H) (eL : A 61 = L) (hH : ∀ k : Int, 0 ≤ k → k < h → 1 ≤ H k ∧ H k ≤ 999) (hL : ∀ k : Int, 0 ≤ k → k < c → 1 ≤ L k ∧ L k ≤ 999) : Meets G mX2_fewest [.ref 59] (sw F A) (fun r w => ∃ R b, r = some (vi b) ∧ w = sw F (sA A 62 R) ∧ isB (fun t => Rr t H L c h (2 ^ c - 1)) (2 ^ h) b) := by
  refine L_ent [some (.ref 59), none, none, none] rfl ?_
  generalize hQ : (fun (r : Option Value) (w : wT) => ∃ R b, r = some (vi b) ∧ w = sw F (sA A 62 R) ∧ isB (fun t => Rr t H L c h (2 ^ c - 1)) (2 ^ h) b) = Q
  have p64 : 2 ^ h ≤ 64 := Nat.le_trans (Nat.pow_le_pow_right (by decide) h6) (by decide)
  have hone : (iShl 1 (F 59 0)) = ((2 ^ h : Nat) : Int) := by rw [hh]; exact iShl1 (by omega)
  generalize 2 ^ h = p at p64 hone hQ
  have LOOP : ∀ (r n : Nat) (b : Int) (R : Int → Int) (x3 : Option Value), n + r = p → isB (fun t => Rr t H L c h (2 ^ c - 1)) n b → V G mX2_fewest Q 0 0 4 [some (.ref 59), some (vi b), some (vi (n : Int)), x3] [] (sw F (sA A 62 R)) := by
    intro r
    induction r with
    | zero =>
      intro n b R x3 e1 hb
      have e : n = p := by omega
      subst e
      refine L_iload_n eX2_fewest_4 rfl ?_
      refine V_iconst eX2_fewest_5 ?_
      refine L_aload_n eX2_fewest_6 rfl ?_
      refine L_get eX2_fewest_7 f_X2_9.g rfl rfl ?_
      refine V_ishl eX2_fewest_10 ?_
      rw [hone]
      refine V_icmpge eX2_fewest_11 (fun h2 => ?_) (fun h2 => ?_)
      · refine L_iload_n eX2_fewest_56 rfl ?_
        -- at 57: .ireturn
        exact V_ireturn eX2_fewest_57 (by rw [← hQ]; exact ⟨R, b, rfl, rfl, hb⟩)
      · omega
    | succ r ih =>
      intro n b R x3 e1 hb
      have hbr : -1 ≤ b ∧ b < 64 := by
        rcases hb with ⟨a1, a2⟩ | ⟨m, a1, a2, a3, a4⟩ <;> omega
      have nxt : ∀ (b' : Int) (R' : Int → Int) (x3 : Option Value), isB (fun t => Rr t H L c h (2 ^ c - 1)) (n + 1) b' → V G mX2_fewest Q 0 0 50 [some (.ref 59), some (vi b'), some (vi (n : Int)), x3] [] (sw F (sA A 62 R')) := by
        intro b' R' x3 q
        refine L_iinc eX2_fewest_50 rfl (s_2 rfl rfl) ?_
        refine V_goto eX2_fewest_53 ?_
        have := ih (n + 1) b' R' x3 (by omega) q
        exact this
      -- the SET isn't looked at
      have no : (¬ b = -1 ∧ ∀ m : Nat, b = m → pcN m ≤ pcN n) → V G mX2_fewest Q 0 0 34 [some (.ref 59), some (vi b), some (vi (n : Int)), x3] [] (sw F (sA A 62 R)) := by
        intro q
        refine V_iconst eX2_fewest_34 ?_
        refine L_istore_n eX2_fewest_35 (s_3 rfl rfl) ?_
        refine L_iload_n eX2_fewest_36 rfl ?_
        -- at 37: .ifCond .eq 13
        refine V_ifeq eX2_fewest_37 (fun h3 => ?_) (fun h3 => ?_)
        · refine nxt b R _ ?_
          rcases hb with ⟨a1, a2⟩ | ⟨m, a1, a2, a3, a4⟩
          · exact absurd a1 q.1
          · have hm := q.2 m a2
            refine Or.inr ⟨m, by omega, a2, a3, fun t ht et => ?_⟩
            by_cases f : t = n
            · subst f; omega
            · exact a4 t (by omega) et
        · omega
      have yes : (b = -1 ∨ ∀ m : Nat, b = m → pcN n < pcN m) → V G mX2_fewest Q 0 0 30 [some (.ref 59), some (vi b), some (vi (n : Int)), x3] [] (sw F (sA A 62 R)) := by
        intro q
        refine V_iconst eX2_fewest_30 ?_
        refine V_goto eX2_fewest_31 ?_
        refine L_istore_n eX2_fewest_35 (s_3 rfl rfl) ?_
        refine L_iload_n eX2_fewest_36 rfl ?_
        -- at 37: .ifCond .eq 13
        refine V_ifeq eX2_fewest_37 (fun h3 => ?_) (fun h3 => ?_)
        · omega
        · refine L_aload_n eX2_fewest_40 rfl ?_
          refine L_iload_n eX2_fewest_41 rfl ?_
          refine C_vq (m_isEnough (G := G) (F := F) (A := sA A 62 R) (set := n) (h := h) (c := c) (H := H) (L := L) hh h6 hc c8 (by omega) (by rw [sA_ne (by decide)]; exact eH) (by rw [sA_ne (by decide)]; exact eL) hH hL) v_X2_34 eX2_fewest_42 rfl rfl (fun r' w' e' => ?_)
          obtain ⟨R', bb, er, ew, eb⟩ := e'
          subst er ew
          rw [sA_sA]
          rcases eb with ⟨eb, hE⟩ | ⟨eb, hE⟩
          · subst eb
            refine V_ifeq eX2_fewest_45 (fun h4 => ?_) (fun h4 => ?_)
            · omega
            · refine L_iload_n eX2_fewest_48 rfl ?_
              refine L_istore_n eX2_fewest_49 (s_1 rfl rfl) ?_
              refine nxt n R' _ (Or.inr ⟨n, by omega, rfl, hE, fun t ht et => ?_⟩)
              by_cases f : t = n
              · subst f; omega
              · rcases hb with ⟨a1, a2⟩ | ⟨m, a1, a2, a3, a4⟩
                · exact absurd et (a2 t (by omega))
                · have p1 := a4 t (by omega) et
                  have p2 : pcN n < pcN m := by
                    rcases q with q | q
                    · omega
                    · exact q m a2
                  omega
          · subst eb
            refine V_ifeq eX2_fewest_45 (fun h4 => ?_) (fun h4 => ?_)
            · refine nxt b R' _ ?_
              rcases hb with ⟨a1, a2⟩ | ⟨m, a1, a2, a3, a4⟩
              · refine Or.inl ⟨a1, fun t ht et => ?_⟩
                by_cases f : t = n
                · subst f; exact hE et
                · exact a2 t (by omega) et
              · refine Or.inr ⟨m, by omega, a2, a3, fun t ht et => ?_⟩
                by_cases f : t = n
                · subst f; exact absurd et hE
                · exact a4 t (by omega) et
            · omega
      refine L_iload_n eX2_fewest_4 rfl ?_
      refine V_iconst eX2_fewest_5 ?_
      refine L_aload_n eX2_fewest_6 rfl ?_
      refine L_get eX2_fewest_7 f_X2_9.g rfl rfl ?_
      refine V_ishl eX2_fewest_10 ?_
      rw [hone]
      refine V_icmpge eX2_fewest_11 (fun h2 => ?_) (fun h2 => ?_)
      · omega
      · refine L_iload_n eX2_fewest_14 rfl ?_
        refine V_iconst eX2_fewest_15 ?_
        -- at 16: .if_icmp .eq 14
        refine V_icmpeq eX2_fewest_16 (fun h3 => ?_) (fun h3 => ?_)
        · exact yes (Or.inl h3)
        · obtain ⟨m, em⟩ : ∃ m : Nat, b = m := ⟨b.toNat, by omega⟩
          subst em
          have hpc : ∀ k : Nat, pcN k ≤ 6 := fun k => by
            unfold pcN
            have t : ∀ x : Bool, x.toNat ≤ 1 := fun x => by cases x <;> decide
            have := t (k.testBit 0)
            have := t (k.testBit 1)
            have := t (k.testBit 2)
            have := t (k.testBit 3)
            have := t (k.testBit 4)
            have := t (k.testBit 5)
            omega
          have pm := hpc m
          have pn := hpc n
          refine L_iload_n eX2_fewest_19 rfl ?_
          refine C_s1 (p_J6_bitCount (m := n) (by omega)) v_X2_28 eX2_fewest_20 rfl ?_
          refine L_iload_n eX2_fewest_23 rfl ?_
          refine C_s1 (p_J6_bitCount (m := m) (by omega)) v_X2_28 eX2_fewest_24 rfl ?_
          refine V_icmpge eX2_fewest_27 (fun h4 => ?_) (fun h4 => ?_)
          · exact no ⟨h3, fun k ek => by rw [show k = m by omega]; omega⟩
          · exact yes (Or.inr (fun k ek => by rw [show k = m by omega]; omega))
  refine V_iconst eX2_fewest_0 ?_
  refine L_istore_n eX2_fewest_1 (s_1 rfl rfl) ?_
  refine V_iconst eX2_fewest_2 ?_
  refine L_istore_n eX2_fewest_3 (s_2 rfl rfl) ?_
  have := LOOP p 0 (-1) (A 62) none (by omega) (Or.inl ⟨rfl, fun t ht => by omega⟩)
  rw [sA_self] at this
  exact this
end P95
section Z95
variable {G : gT} {M : mT} {Q : Option Value → wT → Prop} {kc ks pc q n f : Nat} {lc : List (Option Value)} {st : List Value} {F : fT} {A : nT} {X Y : Int → Int} {i x : Int}
theorem Z_zald1 (d : dc M pc .baload 1 q) (hK : sK (f + 1) = (2, n)) (kk : V G M Q kc ks q lc (vi (X i) :: st) (sw F (s2 A f X Y))) (hi : 0 ≤ i ∧ i < n := by omega) (hn : n < 2147483648 := by omega) : V G M Q kc ks pc lc (vi i :: .ref (f + 1) :: st) (sw F (s2 A f X Y)) := L_zaldE d hK s2_1 kk hi hn
theorem Z_zald2 (d : dc M pc .baload 1 q) (hK : sK (f + 2) = (2, n)) (kk : V G M Q kc ks q lc (vi (Y i) :: st) (sw F (s2 A f X Y))) (hi : 0 ≤ i ∧ i < n := by omega) (hn : n < 2147483648 := by omega) : V G M Q kc ks pc lc (vi i :: .ref (f + 2) :: st) (sw F (s2 A f X Y)) := L_zaldE d hK s2_2 kk hi hn
theorem Z_zast1 (d : dc M pc .bastore 1 q) (hK : sK (f + 1) = (2, n)) (kk : V G M Q kc ks q lc st (sw F (s2 A f (uI X i x) Y))) (hx : x = 0 ∨ x = 1 := by omega) (hi : 0 ≤ i ∧ i < n := by omega) (hn : n < 2147483648 := by omega) : V G M Q kc ks pc lc (vi x :: vi i :: .ref (f + 1) :: st) (sw F (s2 A f X Y)) := L_zast d hK (by rw [s2_1, s2_u1]; exact kk) hx hi hn
theorem Z_zast2 (d : dc M pc .bastore 1 q) (hK : sK (f + 2) = (2, n)) (kk : V G M Q kc ks q lc st (sw F (s2 A f X (uI Y i x)))) (hx : x = 0 ∨ x = 1 := by omega) (hi : 0 ≤ i ∧ i < n := by omega) (hn : n < 2147483648 := by omega) : V G M Q kc ks pc lc (vi x :: vi i :: .ref (f + 2) :: st) (sw F (s2 A f X Y)) := L_zast d hK (by rw [s2_2, s2_u2]; exact kk) hx hi hn
end Z95
section Q95
variable {F : fT} {A : nT} {c h set : Nat} {H L : Int → Int}
theorem p_X11_sumOf {G : gT} {m : Nat} (hm : m < 256) (hc : F 66 50 = c) (c8 : c ≤ 8) (eL : A 94 = L) (hL : ∀ k : Int, 0 ≤ k → k < c → 1 ≤ L k ∧ L k ≤ 999) : Pu G mX11_sumOf [.ref 66, vi (m : Int)] F A (vi (sB L c m)) := by
  refine L_ent [some (.ref 66), some (vi (m : Int)), none, none] rfl ?_
  generalize hQ : (fun (r' : Option Value) (w : wT) => r' = some (vi (sB L c m)) ∧ w = sw F A) = Q
  refine V_iconst eX11_sumOf_0 ?_
  refine L_istore_n eX11_sumOf_1 (s_2 rfl rfl) ?_
  refine V_iconst eX11_sumOf_2 ?_
  refine L_istore_n eX11_sumOf_3 (s_3 rfl rfl) ?_
  have LOOP : ∀ (r k : Nat), k + r = c → V G mX11_sumOf Q 0 0 4 [some (.ref 66), some (vi (m : Int)), some (vi (sI (fun k => if m.testBit k then L k else 0) k)), some (vi (k : Int))] [] (sw F A) := by
    intro r
    induction r with
    | zero =>
      intro k e1
      have e : k = c := by omega
      subst e
      refine L_iload_n eX11_sumOf_4 rfl ?_
      refine L_aload_n eX11_sumOf_5 rfl ?_
      refine L_get eX11_sumOf_6 f_X11_278.g rfl rfl ?_
      -- at 9: .if_icmp .ge 24
      refine V_icmpge eX11_sumOf_9 (fun h2 => ?_) (fun h2 => ?_)
      · refine L_iload_n eX11_sumOf_33 rfl ?_
        -- at 34: .ireturn
        exact V_ireturn eX11_sumOf_34 (by rw [← hQ]; exact ⟨rfl, rfl⟩)
      · omega
    | succ r ih =>
      intro k e1
      have hLk := hL k (by omega) (by omega)
      have es : sI (fun k => if m.testBit k then L k else 0) (k + 1) = sI (fun k => if m.testBit k then L k else 0) k + (if m.testBit k then 1 else 0) * L k := by
        rw [sI]
        by_cases e : m.testBit k = true
        · rw [if_pos e, if_pos e, Int.one_mul]
        · rw [if_neg e, if_neg e, Int.zero_mul]
      have ih2 := ih (k + 1) (by omega)
      rw [es] at ih2
      refine L_iload_n eX11_sumOf_4 rfl ?_
      refine L_aload_n eX11_sumOf_5 rfl ?_
      refine L_get eX11_sumOf_6 f_X11_278.g rfl rfl ?_
      -- at 9: .if_icmp .ge 24
      refine V_icmpge eX11_sumOf_9 (fun h2 => ?_) (fun h2 => ?_)
      · omega
      · refine L_iload_n eX11_sumOf_12 rfl ?_
        refine L_iload_n eX11_sumOf_13 rfl ?_
        refine L_iload_n eX11_sumOf_14 rfl ?_
        refine V_ishr eX11_sumOf_15 ?_
        refine V_iconst eX11_sumOf_16 ?_
        refine V_iand eX11_sumOf_17 ?_
        rw [iBit hm (by omega)]
        refine L_aload_n eX11_sumOf_18 rfl ?_
        refine L_getR (r := 94) eX11_sumOf_19 f_X11_99.g rfl rfl (by decide) ?_
        refine L_iload_n eX11_sumOf_22 rfl ?_
        refine L_ialdE eX11_sumOf_23 rfl eL ?_
        refine V_imul eX11_sumOf_24 ?_
        refine V_iadd eX11_sumOf_25 ?_
        refine L_istore_n eX11_sumOf_26 (s_2 rfl rfl) ?_
        refine L_iinc eX11_sumOf_27 rfl (s_3 rfl rfl) ?_
        refine V_goto eX11_sumOf_30 ?_
        exact ih2
  exact LOOP c 0 (by omega)
def bK (P : Nat → Prop) (I : Int → Int) (n : Nat) : Prop := ∀ s, s < n → (I s = 1 ∧ P s) ∨ (I s = 0 ∧ ¬ P s)
theorem bK.z {P : Nat → Prop} {I : Int → Int} {n s : Nat} (h : bK P I n) (hs : s < n) : I s = 0 ∨ I s = 1 := by
  rcases h s hs with q | q
  · exact Or.inr q.1
  · exact Or.inl q.1
theorem bK.cg {P P' : Nat → Prop} {I : Int → Int} {n : Nat} (h : bK P I n) (hp : ∀ s, s < n → (P s ↔ P' s)) : bK P' I n := fun s hs => by
  have := hp s hs
  rcases h s hs with q | q
  · exact Or.inl ⟨q.1, this.mp q.2⟩
  · exact Or.inr ⟨q.1, fun r => q.2 (this.mpr r)⟩
/-- what can be cut with hide k too, when the pairs ahead of (s0, m0) are through -/
def pP (set : Nat) (H L : Int → Int) (c k s0 m0 t : Nat) : Prop := Rr set H L c k t ∨ ∃ s m : Nat, (s < s0 ∨ s = s0 ∧ m < m0) ∧ m < 2 ^ c ∧ Rr set H L c k s ∧ s &&& m = 0 ∧ sB L c m ≤ H k ∧ s ||| m = t
theorem pP_no {k s0 m0 t : Nat} (h : ¬ (Rr set H L c k s0 ∧ s0 &&& m0 = 0 ∧ sB L c m0 ≤ H k)) : pP set H L c k s0 m0 t ↔ pP set H L c k s0 (m0 + 1) t := by
  constructor
  · rintro (a | ⟨s, m, b1, b2⟩)
    · exact Or.inl a
    · exact Or.inr ⟨s, m, by omega, b2⟩
  · rintro (a | ⟨s, m, b1, b2, b3, b4, b5, b6⟩)
    · exact Or.inl a
    · refine Or.inr ⟨s, m, ?_, b2, b3, b4, b5, b6⟩
      by_cases e : s = s0 ∧ m = m0
      · obtain ⟨e1, e2⟩ := e
        subst e1 e2
        exact absurd ⟨b3, b4, b5⟩ h
      · omega
theorem pP_all {k t : Nat} (hb : set.testBit k = true) (ht : t < 2 ^ c) : pP set H L c k (2 ^ c) 0 t ↔ Rr set H L c (k + 1) t := by
  constructor
  · rintro (a | ⟨s, m, b1, b2, b3, b4, b5, b6⟩)
    · exact Or.inl a
    · exact Or.inr ⟨hb, s, m, b4, b6, b5, b3⟩
  · rintro (a | ⟨-, s, m, b1, b2, b3, b4⟩)
    · exact Or.inl a
    · have := or_le b2
      exact Or.inr ⟨s, m, by omega, by omega, b4, b1, b3, b2⟩
theorem m_canCut {G : gT} (hh : F 66 49 = h) (h6 : h ≤ 6) (hc : F 66 50 = c) (c8 : c ≤ 8) (hset : set < 64) (eH : A 93 = H) (eL : A 94 = L) (hH : ∀ k : Int, 0 ≤ k → k < h → 1 ≤ H k ∧ H k ≤ 999) (hL : ∀ k : Int, 0 ≤ k → k < c → 1 ≤ L k ∧ L k ≤ 999) : Meets G mX11_canCut [.ref 66, vi (set : Int)] (sw F A) (fun r w => ∃ I N b, r = some (vi b) ∧ w = sw F (s2 A 94 I N) ∧ (b = 1 ∧ Rr set H L c h (2 ^ c - 1) ∨ b = 0 ∧ ¬ Rr set H L c h (2 ^ c - 1))) := by
  have p256 := c256 c8
  have p1 : 1 ≤ 2 ^ c := Nat.one_le_two_pow
  obtain ⟨n, en⟩ : ∃ n : Nat, n = 2 ^ c := ⟨_, rfl⟩
  refine L_ent [some (.ref 66), some (vi (set : Int)), none, none, none, none] rfl ?_
  generalize hQ : (fun (r : Option Value) (w : wT) => ∃ I N b, r = some (vi b) ∧ w = sw F (s2 A 94 I N) ∧ (b = 1 ∧ Rr set H L c h (2 ^ c - 1) ∨ b = 0 ∧ ¬ Rr set H L c h (2 ^ c - 1))) = Q
  rw [← en] at p256 p1
  have hLb : ∀ m : Nat, 0 ≤ sB L c m ∧ sB L c m ≤ 7992 := fun m => by
    have := sI_b2 (f := fun k => if m.testBit k then L k else 0) (B := 999) c (fun j hj => by
      have := hL j (by omega) (by omega)
      by_cases e : m.testBit j = true
      · simp only [if_pos e]; omega
      · simp only [if_neg e]; omega)
    unfold sB
    omega
  -- one hide
  have STEP : ∀ (k : Nat) (I N : Int → Int) (x4 x5 : Option Value), k < h → set.testBit k = true → bK (Rr set H L c k) I n → (∀ (I' N' : Int → Int) (x4 x5 : Option Value), bK (Rr set H L c (k + 1)) I' n → V G mX11_canCut Q 0 0 186 [some (.ref 66), some (vi (set : Int)), some (vi (n : Int)), some (vi (k : Int)), x4, x5] [] (sw F (s2 A 94 I' N'))) → V G mX11_canCut Q 0 0 54 [some (.ref 66), some (vi (set : Int)), some (vi (n : Int)), some (vi (k : Int)), x4, x5] [] (sw F (s2 A 94 I N)) := by
    intro k I N x4 x5 hk hb hI hv
    have hHk := hH k (by omega) (by omega)
    -- back
    have BACK : ∀ (r s : Nat) (I' N' : Int → Int) (x5 : Option Value), s + r = n → (∀ t, t < s → I' (t : Int) = N' t) → bK (Rr set H L c (k + 1)) N' n → V G mX11_canCut Q 0 0 160 [some (.ref 66), some (vi (set : Int)), some (vi (n : Int)), some (vi (k : Int)), some (vi (s : Int)), x5] [] (sw F (s2 A 94 I' N')) := by
      intro r
      induction r with
      | zero =>
        intro s I' N' x5 e1 e2 e3
        refine L_iload eX11_canCut_160 rfl ?_
        refine L_iload_n eX11_canCut_162 rfl ?_
        -- at 163: .if_icmp .ge 23
        refine V_icmpge eX11_canCut_163 (fun h2 => ?_) (fun h2 => ?_)
        · refine hv I' N' _ _ (fun t ht => ?_)
          rw [e2 t (by omega)]
          exact e3 t ht
        · omega
      | succ r ih =>
        intro s I' N' x5 e1 e2 e3
        have hz := e3.z (s := s) (by omega)
        refine L_iload eX11_canCut_160 rfl ?_
        refine L_iload_n eX11_canCut_162 rfl ?_
        -- at 163: .if_icmp .ge 23
        refine V_icmpge eX11_canCut_163 (fun h2 => ?_) (fun h2 => ?_)
        · omega
        · refine L_aload_n eX11_canCut_166 rfl ?_
          refine L_getR (r := 95) eX11_canCut_167 f_X11_102.g rfl rfl (by decide) ?_
          refine L_iload eX11_canCut_170 rfl ?_
          refine L_aload_n eX11_canCut_172 rfl ?_
          refine L_getR (r := 96) eX11_canCut_173 f_X11_106.g rfl rfl (by decide) ?_
          refine L_iload eX11_canCut_176 rfl ?_
          refine Z_zald2 (f := 94) eX11_canCut_178 rfl ?_
          refine Z_zast1 (f := 94) eX11_canCut_179 rfl ?_
          refine L_iinc eX11_canCut_180 rfl (s_4 rfl rfl) ?_
          refine V_goto eX11_canCut_183 ?_
          have := ih (s + 1) (uI I' s (N' s)) N' x5 (by omega) (fun t ht => ?_) e3
          · exact this
          · simp only [uI]
            by_cases f : (t : Int) = s
            · rw [if_pos f, f]
            · rw [if_neg f]
              exact e2 t (by omega)
    -- pairs
    have PAIR : ∀ (r s : Nat) (N' : Int → Int) (x5 : Option Value), s + r = n → bK (pP set H L c k s 0) N' n → V G mX11_canCut Q 0 0 86 [some (.ref 66), some (vi (set : Int)), some (vi (n : Int)), some (vi (k : Int)), some (vi (s : Int)), x5] [] (sw F (s2 A 94 I N')) := by
      intro r
      induction r with
      | zero =>
        intro s N' x5 e1 e2
        have e : s = n := by omega
        subst e
        refine L_iload eX11_canCut_86 rfl ?_
        refine L_iload_n eX11_canCut_88 rfl ?_
        -- at 89: .if_icmp .ge 68
        refine V_icmpge eX11_canCut_89 (fun h2 => ?_) (fun h2 => ?_)
        · refine V_iconst eX11_canCut_157 ?_
          refine L_istore eX11_canCut_158 (s_4 rfl rfl) ?_
          refine BACK s 0 I N' _ (by omega) (fun t ht => by omega) (e2.cg (fun t ht => ?_))
          rw [en]
          exact pP_all hb (by omega)
        · omega
      | succ r ih =>
        intro s N' x5 e1 e2
        have hIs := hI s (by omega)
        have hIz := hI.z (s := s) (by omega)
        have nxt : ∀ (N2 : Int → Int) (x5 : Option Value), bK (pP set H L c k (s + 1) 0) N2 n → V G mX11_canCut Q 0 0 151 [some (.ref 66), some (vi (set : Int)), some (vi (n : Int)), some (vi (k : Int)), some (vi (s : Int)), x5] [] (sw F (s2 A 94 I N2)) := by
          intro N2 x5 q
          refine L_iinc eX11_canCut_151 rfl (s_4 rfl rfl) ?_
          refine V_goto eX11_canCut_154 ?_
          have := ih (s + 1) N2 x5 (by omega) q
          exact this
        have MORE : ∀ (q m : Nat) (N2 : Int → Int), m + q = n → bK (pP set H L c k s m) N2 n → V G mX11_canCut Q 0 0 95 [some (.ref 66), some (vi (set : Int)), some (vi (n : Int)), some (vi (k : Int)), some (vi (s : Int)), some (vi (m : Int))] [] (sw F (s2 A 94 I N2)) := by
          intro q
          induction q with
          | zero =>
            intro m N2 q1 q2
            refine L_iload eX11_canCut_95 rfl ?_
            refine L_iload_n eX11_canCut_97 rfl ?_
            -- at 98: .if_icmp .ge 53
            refine V_icmpge eX11_canCut_98 (fun h3 => ?_) (fun h3 => ?_)
            · refine nxt N2 _ (q2.cg (fun t ht => ?_))
              constructor
              · rintro (a | ⟨s', m', b1, b2⟩)
                · exact Or.inl a
                · exact Or.inr ⟨s', m', by omega, b2⟩
              · rintro (a | ⟨s', m', b1, b2, b3⟩)
                · exact Or.inl a
                · exact Or.inr ⟨s', m', by omega, b2, b3⟩
            · omega
          | succ q ihq =>
            intro m N2 q1 q2
            refine L_iload eX11_canCut_95 rfl ?_
            refine L_iload_n eX11_canCut_97 rfl ?_
            -- at 98: .if_icmp .ge 53
            refine V_icmpge eX11_canCut_98 (fun h3 => ?_) (fun h3 => ?_)
            · omega
            · have step : ∀ N3 : Int → Int, bK (pP set H L c k s (m + 1)) N3 n → V G mX11_canCut Q 0 0 145 [some (.ref 66), some (vi (set : Int)), some (vi (n : Int)), some (vi (k : Int)), some (vi (s : Int)), some (vi (m : Int))] [] (sw F (s2 A 94 I N3)) := by
                intro N3 q3
                refine L_iinc eX11_canCut_145 rfl (s_5 rfl rfl) ?_
                refine V_goto eX11_canCut_148 ?_
                have := ihq (m + 1) N3 (by omega) q3
                exact this
              refine L_aload_n eX11_canCut_101 rfl ?_
              refine L_getR (r := 95) eX11_canCut_102 f_X11_102.g rfl rfl (by decide) ?_
              refine L_iload eX11_canCut_105 rfl ?_
              refine Z_zald1 (f := 94) eX11_canCut_107 rfl ?_
              refine V_ifeq eX11_canCut_108 (fun h4 => ?_) (fun h4 => ?_)
              · have hno : ¬ Rr set H L c k s := by
                  rcases hIs with w | w
                  · omega
                  · exact w.2
                refine nxt N2 _ (q2.cg (fun t ht => ?_))
                constructor
                · rintro (a | ⟨s', m', b1, b2, b3, b4⟩)
                  · exact Or.inl a
                  · exact Or.inr ⟨s', m', by omega, b2, b3, b4⟩
                · rintro (a | ⟨s', m', b1, b2, b3, b4⟩)
                  · exact Or.inl a
                  · by_cases f : s' = s
                    · subst f; exact absurd b3 hno
                    · exact Or.inr ⟨s', m', by omega, b2, b3, b4⟩
              · have hyes : Rr set H L c k s := by
                  rcases hIs with w | w
                  · exact w.2
                  · omega
                refine L_iload eX11_canCut_111 rfl ?_
                refine L_iload eX11_canCut_113 rfl ?_
                refine V_iand eX11_canCut_115 ?_
                rw [iAnd_n (by omega) (by omega)]
                have han : (s &&& m) < 256 := Nat.lt_of_le_of_lt Nat.and_le_left (by omega)
                refine V_ifne eX11_canCut_116 (fun h5 => ?_) (fun h5 => ?_)
                · refine step N2 (q2.cg (fun t ht => pP_no (fun w => ?_)))
                  rw [w.2.1] at h5
                  omega
                · have h5' : s &&& m = 0 := by omega
                  have hsb := hLb m
                  refine L_aload_n eX11_canCut_119 rfl ?_
                  refine L_iload eX11_canCut_120 rfl ?_
                  refine C_v1 (p_X11_sumOf (G := G) (F := F) (A := s2 A 94 I N2) (m := m) (c := c) (L := L) (by omega) hc c8 (by rw [s2_o (by decide)]; exact eL) hL) v_X11_416 eX11_canCut_122 rfl rfl ?_
                  refine L_aload_n eX11_canCut_125 rfl ?_
                  refine L_getR (r := 93) eX11_canCut_126 f_X11_96.g rfl rfl (by decide) ?_
                  refine L_iload_n eX11_canCut_129 rfl ?_
                  refine L_ialdE eX11_canCut_130 rfl (show s2 A 94 I N2 93 = H by rw [s2_o (by decide)]; exact eH) ?_
                  refine V_icmpgt eX11_canCut_131 (fun h6 => ?_) (fun h6 => ?_)
                  · exact step N2 (q2.cg (fun t ht => pP_no (fun w => by omega)))
                  · have hor : s ||| m < n := by
                      rw [en]
                      exact Nat.or_lt_two_pow (by omega) (by omega)
                    refine L_aload_n eX11_canCut_134 rfl ?_
                    refine L_getR (r := 96) eX11_canCut_135 f_X11_106.g rfl rfl (by decide) ?_
                    refine L_iload eX11_canCut_138 rfl ?_
                    refine L_iload eX11_canCut_140 rfl ?_
                    refine V_ior eX11_canCut_142 ?_
                    rw [iOr_n (by omega) (by omega)]
                    refine V_iconst eX11_canCut_143 ?_
                    refine Z_zast2 (f := 94) eX11_canCut_144 rfl ?_
                    refine step _ (fun t ht => ?_)
                    simp only [uI]
                    by_cases f : t = s ||| m
                    · subst f
                      rw [if_pos rfl]
                      exact Or.inl ⟨rfl, Or.inr ⟨s, m, by omega, by omega, hyes, h5', by omega, rfl⟩⟩
                    · rw [if_neg (by omega)]
                      have hiff : pP set H L c k s m t ↔ pP set H L c k s (m + 1) t := by
                        constructor
                        · rintro (a | ⟨s', m', b1, b2⟩)
                          · exact Or.inl a
                          · exact Or.inr ⟨s', m', by omega, b2⟩
                        · rintro (a | ⟨s', m', b1, b2, b3, b4, b5, b6⟩)
                          · exact Or.inl a
                          · refine Or.inr ⟨s', m', ?_, b2, b3, b4, b5, b6⟩
                            by_cases g : s' = s ∧ m' = m
                            · obtain ⟨g1, g2⟩ := g
                              subst g1 g2
                              exact absurd b6.symm f
                            · omega
                      rcases q2 t ht with w | w
                      · exact Or.inl ⟨w.1, hiff.mp w.2⟩
                      · exact Or.inr ⟨w.1, fun y => w.2 (hiff.mpr y)⟩
        refine L_iload eX11_canCut_86 rfl ?_
        refine L_iload_n eX11_canCut_88 rfl ?_
        -- at 89: .if_icmp .ge 68
        refine V_icmpge eX11_canCut_89 (fun h2 => ?_) (fun h2 => ?_)
        · omega
        · refine V_iconst eX11_canCut_92 ?_
          refine L_istore eX11_canCut_93 (s_5 rfl rfl) ?_
          exact MORE n 0 N' (by omega) e2
    -- copy
    have COPY : ∀ (r s : Nat) (N' : Int → Int) (x5 : Option Value), s + r = n → (∀ t, t < s → N' (t : Int) = I t) → V G mX11_canCut Q 0 0 57 [some (.ref 66), some (vi (set : Int)), some (vi (n : Int)), some (vi (k : Int)), some (vi (s : Int)), x5] [] (sw F (s2 A 94 I N')) := by
      intro r
      induction r with
      | zero =>
        intro s N' x5 e1 e2
        refine L_iload eX11_canCut_57 rfl ?_
        refine L_iload_n eX11_canCut_59 rfl ?_
        -- at 60: .if_icmp .ge 23
        refine V_icmpge eX11_canCut_60 (fun h2 => ?_) (fun h2 => ?_)
        · refine V_iconst eX11_canCut_83 ?_
          refine L_istore eX11_canCut_84 (s_4 rfl rfl) ?_
          refine PAIR n 0 N' _ (by omega) (fun t ht => ?_)
          rw [e2 t (by omega)]
          have hiff : Rr set H L c k t ↔ pP set H L c k 0 0 t := ⟨fun a => Or.inl a, fun a => a.elim id (fun ⟨s', m', b1, _⟩ => by omega)⟩
          rcases hI t ht with w | w
          · exact Or.inl ⟨w.1, hiff.mp w.2⟩
          · exact Or.inr ⟨w.1, fun y => w.2 (hiff.mpr y)⟩
        · omega
      | succ r ih =>
        intro s N' x5 e1 e2
        have hz := hI.z (s := s) (by omega)
        refine L_iload eX11_canCut_57 rfl ?_
        refine L_iload_n eX11_canCut_59 rfl ?_
        -- at 60: .if_icmp .ge 23
        refine V_icmpge eX11_canCut_60 (fun h2 => ?_) (fun h2 => ?_)
        · omega
        · refine L_aload_n eX11_canCut_63 rfl ?_
          refine L_getR (r := 96) eX11_canCut_64 f_X11_106.g rfl rfl (by decide) ?_
          refine L_iload eX11_canCut_67 rfl ?_
          refine L_aload_n eX11_canCut_69 rfl ?_
          refine L_getR (r := 95) eX11_canCut_70 f_X11_102.g rfl rfl (by decide) ?_
          refine L_iload eX11_canCut_73 rfl ?_
          refine Z_zald1 (f := 94) eX11_canCut_75 rfl ?_
          refine Z_zast2 (f := 94) eX11_canCut_76 rfl ?_
          refine L_iinc eX11_canCut_77 rfl (s_4 rfl rfl) ?_
          refine V_goto eX11_canCut_80 ?_
          have := ih (s + 1) (uI N' s (I s)) x5 (by omega) (fun t ht => ?_)
          · exact this
          · simp only [uI]
            by_cases f : (t : Int) = s
            · rw [if_pos f, f]
            · rw [if_neg f]
              exact e2 t (by omega)
    refine V_iconst eX11_canCut_54 ?_
    refine L_istore eX11_canCut_55 (s_4 rfl rfl) ?_
    exact COPY n 0 N _ (by omega) (fun t ht => by omega)
  have HIDE : ∀ (r k : Nat) (I N : Int → Int) (x4 x5 : Option Value), k + r = h → bK (Rr set H L c k) I n → V G mX11_canCut Q 0 0 37 [some (.ref 66), some (vi (set : Int)), some (vi (n : Int)), some (vi (k : Int)), x4, x5] [] (sw F (s2 A 94 I N)) := by
    intro r
    induction r with
    | zero =>
      intro k I N x4 x5 e1 hI
      have e : k = h := by omega
      subst e
      have hl := hI (n - 1) (by omega)
      have hz := hI.z (s := n - 1) (by omega)
      have ei : (n : Int) - 1 = ((n - 1 : Nat) : Int) := by omega
      refine L_iload_n eX11_canCut_37 rfl ?_
      refine L_aload_n eX11_canCut_38 rfl ?_
      refine L_get eX11_canCut_39 f_X11_275.g rfl rfl ?_
      -- at 42: .if_icmp .ge 150
      refine V_icmpge eX11_canCut_42 (fun h2 => ?_) (fun h2 => ?_)
      · refine L_aload_n eX11_canCut_192 rfl ?_
        refine L_getR (r := 95) eX11_canCut_193 f_X11_102.g rfl rfl (by decide) ?_
        refine L_iload_n eX11_canCut_196 rfl ?_
        refine V_iconst eX11_canCut_197 ?_
        refine V_isub eX11_canCut_198 ?_
        rw [ei]
        refine Z_zald1 (f := 94) eX11_canCut_199 rfl ?_
        refine V_zreturn (nar_z hz) eX11_canCut_200 ?_
        rw [← hQ]
        refine ⟨I, N, _, rfl, rfl, ?_⟩
        rw [← en]
        exact hl
      · omega
    | succ r ih =>
      intro k I N x4 x5 e1 hI
      have nxt : ∀ (I' N' : Int → Int) (x4 x5 : Option Value), bK (Rr set H L c (k + 1)) I' n → V G mX11_canCut Q 0 0 186 [some (.ref 66), some (vi (set : Int)), some (vi (n : Int)), some (vi (k : Int)), x4, x5] [] (sw F (s2 A 94 I' N')) := by
        intro I' N' x4 x5 q
        refine L_iinc eX11_canCut_186 rfl (s_3 rfl rfl) ?_
        refine V_goto eX11_canCut_189 ?_
        have := ih (k + 1) I' N' x4 x5 (by omega) q
        exact this
      refine L_iload_n eX11_canCut_37 rfl ?_
      refine L_aload_n eX11_canCut_38 rfl ?_
      refine L_get eX11_canCut_39 f_X11_275.g rfl rfl ?_
      -- at 42: .if_icmp .ge 150
      refine V_icmpge eX11_canCut_42 (fun h2 => ?_) (fun h2 => ?_)
      · omega
      · refine L_iload_n eX11_canCut_45 rfl ?_
        refine L_iload_n eX11_canCut_46 rfl ?_
        refine V_ishr eX11_canCut_47 ?_
        refine V_iconst eX11_canCut_48 ?_
        refine V_iand eX11_canCut_49 ?_
        rw [iBit (by omega) (by omega)]
        by_cases hb : set.testBit k = true
        · rw [if_pos hb]
          refine V_iconst eX11_canCut_50 ?_
          -- at 51: .if_icmp .ne 135
          refine V_icmpne eX11_canCut_51 (fun h3 => ?_) (fun h3 => ?_)
          · omega
          · exact STEP k I N _ _ (by omega) hb hI nxt
        · rw [if_neg hb]
          refine V_iconst eX11_canCut_50 ?_
          -- at 51: .if_icmp .ne 135
          refine V_icmpne eX11_canCut_51 (fun h3 => ?_) (fun h3 => ?_)
          · refine nxt I N _ _ (hI.cg (fun t ht => ?_))
            exact ⟨fun a => Or.inl a, fun a => a.elim id (fun ⟨b1, _⟩ => absurd b1 hb)⟩
          · omega
  have INI : ∀ (r s : Nat) (I : Int → Int), s + r = n → bK (Rr set H L c 0) I s → V G mX11_canCut Q 0 0 9 [some (.ref 66), some (vi (set : Int)), some (vi (n : Int)), some (vi (s : Int)), none, none] [] (sw F (s2 A 94 I (A 96))) := by
    intro r
    induction r with
    | zero =>
      intro s I e1 hI
      have e : s = n := by omega
      subst e
      refine L_iload_n eX11_canCut_9 rfl ?_
      refine L_iload_n eX11_canCut_10 rfl ?_
      -- at 11: .if_icmp .ge 24
      refine V_icmpge eX11_canCut_11 (fun h2 => ?_) (fun h2 => ?_)
      · refine V_iconst eX11_canCut_35 ?_
        refine L_istore_n eX11_canCut_36 (s_3 rfl rfl) ?_
        exact HIDE h 0 I _ _ _ (by omega) hI
      · omega
    | succ r ih =>
      intro s I e1 hI
      have nxt : ∀ x : Int, (x = 1 ∧ s = 0 ∨ x = 0 ∧ ¬ s = 0) → V G mX11_canCut Q 0 0 29 [some (.ref 66), some (vi (set : Int)), some (vi (n : Int)), some (vi (s : Int)), none, none] [] (sw F (s2 A 94 (uI I s x) (A 96))) := by
        intro x hx
        refine L_iinc eX11_canCut_29 rfl (s_3 rfl rfl) ?_
        refine V_goto eX11_canCut_32 ?_
        have := ih (s + 1) (uI I s x) (by omega) (fun t ht => ?_)
        · exact this
        · simp only [uI]
          by_cases f : t = s
          · subst f
            rw [if_pos rfl]
            exact hx
          · rw [if_neg (by omega)]
            exact hI t (by omega)
      refine L_iload_n eX11_canCut_9 rfl ?_
      refine L_iload_n eX11_canCut_10 rfl ?_
      -- at 11: .if_icmp .ge 24
      refine V_icmpge eX11_canCut_11 (fun h2 => ?_) (fun h2 => ?_)
      · omega
      · refine L_aload_n eX11_canCut_14 rfl ?_
        refine L_getR (r := 95) eX11_canCut_15 f_X11_102.g rfl rfl (by decide) ?_
        refine L_iload_n eX11_canCut_18 rfl ?_
        refine L_iload_n eX11_canCut_19 rfl ?_
        -- at 20: .ifCond .ne 7
        refine V_ifne eX11_canCut_20 (fun h3 => ?_) (fun h3 => ?_)
        · refine V_iconst eX11_canCut_27 ?_
          refine Z_zast1 (f := 94) eX11_canCut_28 rfl ?_
          exact nxt 0 (by omega)
        · refine V_iconst eX11_canCut_23 ?_
          refine V_goto eX11_canCut_24 ?_
          refine Z_zast1 (f := 94) eX11_canCut_28 rfl ?_
          exact nxt 1 (by omega)
  have hone : (iShl 1 (F 66 50)) = (n : Int) := by rw [hc, en]; exact iShl1 c8
  refine V_iconst eX11_canCut_0 ?_
  refine L_aload_n eX11_canCut_1 rfl ?_
  refine L_get eX11_canCut_2 f_X11_278.g rfl rfl ?_
  refine V_ishl eX11_canCut_5 ?_
  rw [hone]
  refine L_istore_n eX11_canCut_6 (s_2 rfl rfl) ?_
  refine V_iconst eX11_canCut_7 ?_
  refine L_istore_n eX11_canCut_8 (s_3 rfl rfl) ?_
  have := INI n 0 (A 95) (by omega) (fun t ht => by omega)
  rw [show s2 A 94 (A 95) (A 96) = A from s2_self] at this
  exact this
end Q95

