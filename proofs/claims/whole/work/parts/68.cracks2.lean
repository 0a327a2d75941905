section P68
variable {X Y X' Y' : Int → Int} {n T : Nat} {p : Int}
theorem ckP_c {k t : Int} (h : agP (inI n T n) (X, Y) (X', Y')) (hn : n ≤ 12) (hk : 0 ≤ k ∧ k ≤ n) (ht : 1 ≤ t ∧ t ≤ T) : ckP X Y p k t ↔ ckP X' Y' p k t := by
  have a := mv_c h hn hk ht
  unfold ckP fsP
  rw [a]
  by_cases e : t = 1
  · constructor
    · exact fun h => ⟨h.1, fun c => by omega⟩
    · exact fun h => ⟨h.1, fun c => by omega⟩
  · rw [mv_c h hn hk (t := t - 1) (by omega)]
theorem ckI_c {t : Int} (h : agP (inI n T n) (X, Y) (X', Y')) (hn : n ≤ 12) (ht : 1 ≤ t ∧ t ≤ T) : ∀ j : Nat, j ≤ n → ckI X Y p t j = ckI X' Y' p t j := by
  intro j
  induction j with
  | zero => intro _; rfl
  | succ j ih =>
    intro hj
    have a := ckP_c (p := p) h hn (k := (j : Int) + 1) (t := t) (by omega) ht
    rw [ckI, ckI, ih (by omega)]
    by_cases c : ckP X Y p ((j : Int) + 1) t
    · rw [if_pos c, if_pos (a.mp c)]
    · rw [if_neg c, if_neg (fun d => c (a.mpr d))]
theorem ckL_c (h : agP (inI n T n) (X, Y) (X', Y')) (hn : n ≤ 12) : ∀ j : Nat, j ≤ T → ckL X Y p n j = ckL X' Y' p n j := by
  intro j
  induction j with
  | zero => intro _; rfl
  | succ j ih =>
    intro hj
    rw [ckL, ckL, ih (by omega), ckI_c h hn (by omega) n (Nat.le_refl _)]
theorem ckL_mem : ∀ {j : Nat} {e : Int × Int}, e ∈ ckL X Y p n j → (1 ≤ e.1 ∧ e.1 ≤ j) ∧ 1 ≤ e.2 ∧ e.2 ≤ n := by
  intro j
  induction j with
  | zero => intro e h; cases h
  | succ j ih =>
    intro e h
    rw [ckL] at h
    rcases List.mem_append.mp h with h | h
    · have := ih h; omega
    · have := ckI_mem h; omega
end P68
section R68
variable {F : fT} {A : nT}
theorem iv_cracks (h : Iv F A) {n T : Nat} (h0 : F 66 0 = n) (h1 : F 66 5 = T) (hn : n ≤ 12) (hT : T ≤ 60) {L : List (Int × Int)} (hL : L = ckL (A 84) (A 85) (A 72 3) n T) : ∃ F1 A1, (∀ G : gT, Mu G mX11_findCracks [.ref 66] F A none F1 A1) ∧ Iv F1 A1 ∧ kp F A F1 A1 ∧ F1 66 41 = L.length ∧ (∀ (i : Nat) (hi : i < L.length), A1 86 i = L[i].1 ∧ A1 87 i = L[i].2) ∧ A1 84 = A 84 ∧ A1 85 = A 85 := by
  have hlw := h.m.2.2.2.2.1
  have hp := hlw.2.2.2.1
  have hkp : kp F A (uF F 66 41 L.length) (s2 A 85 (lsF L Prod.fst (A 86)) (lsF L Prod.snd (A 87))) := by
    refine ⟨fun o k e => ?_, fun o e => ?_⟩
    · have := kF_ne e
      exact uF_ne (by omega)
    · have := kA_ne e
      exact s2_o (by omega)
  refine ⟨uF F 66 41 L.length, s2 A 85 (lsF L Prod.fst (A 86)) (lsF L Prod.snd (A 87)), fun G => ?_, ?_, hkp, uF_eq, ?_, s2_o (by decide), s2_o (by decide)⟩
  · rw [hL]
    exact p_X11_findCracks h.b3 hp h0 h1 hn hT
  · refine hkp.Qv h ?_ ?_ ?_ ?_ ?_ ?_
    · rw [uF_ne (by decide)]
      exact h.fl.imp id (fun e => ⟨e.1, hkp.Qf e.2 (fun k => uF_ne (Or.inl (by decide))) (s2_o (by decide)) (s2_o (by decide)) (s2_o (by decide))⟩)
    · exact hkp.Qk h.ts (uF_ne (by decide)) (s2_o (by decide)) (s2_o (by decide))
    · exact hkp.Qr h.sr (uF_ne (by decide)) (uF_ne (by decide)) (s2_o (by decide))
    · rw [s2_o (by decide), s2_o (by decide)]
      exact h.b1
    · rw [s2_o (by decide), s2_o (by decide)]
      exact h.b2
    · rw [s2_o (by decide), s2_o (by decide)]
      exact h.b3
  · intro i hi
    rw [show s2 A 85 (lsF L Prod.fst (A 86)) (lsF L Prod.snd (A 87)) 86 = lsF L Prod.fst (A 86) from s2_1, show s2 A 85 (lsF L Prod.fst (A 86)) (lsF L Prod.snd (A 87)) 87 = lsF L Prod.snd (A 87) from s2_2]
    exact ⟨lsF_at hi, lsF_at hi⟩
end R68

