/-! two at once -/
section P82
variable {v v' : Int → Int → Int → Int} {n m : Nat} {a c : Int}
theorem lT_c {N : Nat} (h : ∀ t k j : Int, 0 ≤ t → t < N → 0 ≤ k → k ≤ n → 0 ≤ j → j ≤ m → v t k j = v' t k j) : ∀ i : Nat, i ≤ N → lT v n m a i = lT v' n m a i := by
  intro i
  induction i with
  | zero => intro _; rfl
  | succ i ih =>
    intro hi
    show gN (fun j k => v i k j) m (lT v n m a i) (n + 1) = gN (fun j k => v' i k j) m (lT v' n m a i) (n + 1)
    rw [ih (by omega)]
    exact gN_c (T := n + 1) (fun j k p q r s => h i k j (by omega) (by omega) r (by omega) p q) (n + 1) (Nat.le_refl _)
theorem lT_in : ∀ i : Nat, lT v n m (min c a) i = min c (lT v n m a i) := by
  intro i
  induction i with
  | zero => rfl
  | succ i ih =>
    show gN (fun j k => v i k j) m (lT v n m (min c a) i) (n + 1) = min c (gN (fun j k => v i k j) m (lT v n m a i) (n + 1))
    rw [ih, gN_in]
theorem lT_mono {i : Nat} : ∀ {j : Nat}, i ≤ j → lT v n m a j ≤ lT v n m a i := by
  intro j
  induction j with
  | zero => intro h; rw [show i = 0 by omega]; exact Int.le_refl _
  | succ j ih =>
    intro h
    by_cases e : i = j + 1
    · rw [e]; exact Int.le_refl _
    · have h1 := ih (by omega)
      have h2 : lT v n m a (j + 1) ≤ lT v n m a j := gN_le0 (v := fun b k => v j k b) (n := m) (a := lT v n m a j) (n + 1)
      omega
theorem lT_00 {N : Nat} (h : v 0 0 0 ≤ a) : lT v n m a (N + 1) = lT v n m (v 0 0 0) (N + 1) := by
  have h1 := lT_mono (v := v) (n := n) (m := m) (a := a) (i := 1) (j := N + 1) (by omega)
  have h2 : lT v n m a 1 ≤ gN (fun j k => v ((0 : Nat) : Int) k j) m a 1 := gN_mono (v := fun j k => v ((0 : Nat) : Int) k j) (n := m) (a := a) (i := 1) (j := n + 1) (by omega)
  have h3 : gN (fun j k => v ((0 : Nat) : Int) k j) m a 1 ≤ v ((0 : Nat) : Int) ((0 : Nat) : Int) ((0 : Nat) : Int) := mnF_le (f := fun j => v ((0 : Nat) : Int) ((0 : Nat) : Int) j) (i := 0) (by omega)
  have h4 : lT v n m a (N + 1) ≤ v 0 0 0 := Int.le_trans h1 (Int.le_trans h2 h3)
  have h5 := lT_in (v := v) (n := n) (m := m) (a := a) (c := v 0 0 0) (N + 1)
  rw [Int.min_eq_left h, Int.min_eq_right h4] at h5
  exact h5.symm
theorem rt_lT (ha : 0 ≤ a) (h : ∀ t k j : Int, 0 ≤ v t k j) : ∀ i : Nat, 0 ≤ lT v n m a i ∧ rt (lT v n m a i) = lT (fun t k j => rt (v t k j)) n m (rt a) i := by
  intro i
  induction i with
  | zero => exact ⟨ha, rfl⟩
  | succ i ih =>
    have := rt_gN (v := fun j k => v i k j) (n := m) (a := lT v n m a i) ih.1 (fun k t => h _ _ _) (n + 1)
    rw [ih.2] at this
    exact this
end P82
section Q82
variable {F F' : fT} {A A' : nT}
noncomputable def clH (F : fT) (A : nT) (n T : Nat) (d o g : Int) : Int := rt (lT (v2 (cTs F A 2 (F 0 11) zr).1 (cTs F A 2 (F 0 11) zr).2 (cTs F A 2 g zr).1 (cTs F A 2 g zr).2 d o T T) n n 9223372036854775807 (T + o.toNat + 1))
theorem v2_c {n T : Nat} {X Y X2 Y2 : Int → Int} {s s' : rS} {d o t k j : Int} (h : agP (inI n T n) (X, Y) s) (h2 : agP (inI n T n) (X2, Y2) s') (hn : n ≤ 12) (ht : 0 ≤ t) (hk : 0 ≤ k ∧ k ≤ n) (hj : 0 ≤ j ∧ j ≤ n) : v2 X Y X2 Y2 d o T T t k j = v2 s.1 s.2 s'.1 s'.2 d o T T t k j := by
  have a := ag_at (X' := s.1) (Y' := s.2) h hn (k := k) (t := min t T) hk (by omega)
  have b := ag_at (X' := s'.1) (Y' := s'.2) h2 hn (k := j) (t := min (max 0 (t - o)) T) hj (by omega)
  unfold v2 q2
  rw [a.1, a.2, b.1, b.2]
theorem v2_nn {X Y X2 Y2 : Int → Int} {d o T t k j : Int} : 0 ≤ v2 X Y X2 Y2 d o T T t k j := by
  have sq : ∀ z : Int, 0 ≤ z * z := fun z => by
    rcases Int.le_total 0 z with h | h
    · exact Int.mul_nonneg h h
    · exact Int.mul_nonneg_of_nonpos_of_nonpos h h
  unfold v2 q2
  have h1 := sq (X (13 * min t T + k) - (d - X2 (13 * min (max 0 (t - o)) T + j)))
  have h2 := sq (Y (13 * min t T + k) - Y2 (13 * min (max 0 (t - o)) T + j))
  omega
theorem cl_c {n T : Nat} {X Y X2 Y2 : Int → Int} {d o g : Int} (h : agP (inI n T n) (X, Y) (cTs F A 2 (F 0 11) zr)) (h2 : agP (inI n T n) (X2, Y2) (cTs F A 2 g zr)) (hn : n ≤ 12) : rt (lT (v2 X Y X2 Y2 d o T T) n n 9223372036854775807 (T + o.toNat + 1)) = clH F A n T d o g := by
  unfold clH
  rw [lT_c (N := T + o.toNat + 1) (v := v2 X Y X2 Y2 d o T T) (v' := v2 (cTs F A 2 (F 0 11) zr).1 (cTs F A 2 (F 0 11) zr).2 (cTs F A 2 g zr).1 (cTs F A 2 g zr).2 d o T T) (fun t k j a b c e p q => v2_c h h2 hn a ⟨c, e⟩ ⟨p, q⟩) _ (Nat.le_refl _)]
theorem cl_m {n T : Nat} {X Y X2 Y2 : Int → Int} {d o g : Int} (h : agP (inI n T n) (X, Y) (cTs F A 2 (F 0 11) zr)) (h2 : agP (inI n T n) (X2, Y2) (cTs F A 2 g zr)) (hn : n ≤ 12) (hb : bA (X, Y)) (hb2 : bA (X2, Y2)) (hd : ab 5000 d) (hT : T ≤ 60) : lT (fun t k j => rt (v2 X Y X2 Y2 d o T T t k j)) n n 1000000000 (T + o.toNat + 1) = clH F A n T d o g ∧ 0 ≤ clH F A n T d o g ∧ clH F A n T d o g ≤ 1000000000 := by
  have q0 : 0 ≤ v2 X Y X2 Y2 d o T T 0 0 0 ∧ v2 X Y X2 Y2 d o T T 0 0 0 ≤ 150000000000 := by
    have := q2_b hb hb2 hd (a := min 0 (T : Int)) (k := 0) (b := min (max 0 (0 - o)) (T : Int)) (j := 0) (by omega) (by omega) (by omega) (by omega)
    unfold v2
    omega
  have r0 : rt (v2 X Y X2 Y2 d o T T 0 0 0) ≤ 387298 := by
    have h3 := rt_mono q0.1 q0.2
    have h4 : rt 150000000000 = 387298 := rt_eq (by omega) (by omega) (by omega) (by omega)
    omega
  have e1 := lT_00 (v := fun t k j => rt (v2 X Y X2 Y2 d o T T t k j)) (n := n) (m := n) (a := 1000000000) (N := T + o.toNat) (by show rt (v2 X Y X2 Y2 d o T T 0 0 0) ≤ 1000000000; omega)
  have e2 := (rt_lT (v := v2 X Y X2 Y2 d o T T) (n := n) (m := n) (a := v2 X Y X2 Y2 d o T T 0 0 0) q0.1 (fun t k j => v2_nn) (T + o.toNat + 1)).2
  have e3 := lT_00 (v := v2 X Y X2 Y2 d o T T) (n := n) (m := n) (a := 9223372036854775807) (N := T + o.toNat) (by omega)
  have e4 := cl_c (d := d) (o := o) h h2 hn
  have e5 : lT (fun t k j => rt (v2 X Y X2 Y2 d o T T t k j)) n n 1000000000 (T + o.toNat + 1) = clH F A n T d o g := by
    rw [e1, ← e4, e3, e2]
  refine ⟨e5, ?_, ?_⟩
  · exact rt_nn _
  · rw [← e5]
    exact lT_mono (v := fun t k j => rt (v2 X Y X2 Y2 d o T T t k j)) (i := 0) (by omega)
theorem throw_g (h : Iv F A) {n T : Nat} (en : F 2 0 = n) (eT : F 6 0 = T) (hn : 1 ≤ n ∧ n ≤ 12) : ∃ F1 A1, (∀ G : gT, Mu G mX10_theThrow [.ref 0] F A (some (.ref 42)) F1 A1) ∧ Iv F1 A1 ∧ kp F A F1 A1 ∧ (F1 42 0 = n ∧ F1 42 1 = T ∧ 10 ≤ F1 42 2 ∧ F1 42 2 ≤ 2000) ∧ agP (inI n T n) (A1 43, A1 44) (cTs F A 2 (F 0 11) zr) ∧ ckL (A1 43) (A1 44) (F1 42 2) n T = crH F A n T (F 0 11) := by
  obtain ⟨F1, A1, hC, i1, k1, fk⟩ := iv_theThrow h
  have hna := k1.na en eT
  have ag := fk.ag
  unfold inN at ag
  rw [hna.1, hna.2, k1.Qt, k1.1 0 11 rfl] at ag
  refine ⟨F1, A1, hC, i1, k1, ⟨by rw [fk.n]; exact hna.1, by rw [fk.T]; exact hna.2, by rw [fk.pc]; exact i1.ok.lw.2.2.2.1⟩, ag, ?_⟩
  unfold crH
  rw [fk.pc, k1.2 9 rfl]
  exact ckL_c (X' := (cTs F A 2 (F 0 11) zr).1) (Y' := (cTs F A 2 (F 0 11) zr).2) ag hn.2 T (Nat.le_refl _)
theorem crack_h (h : Iv F A) (h' : Iv F' A') (hk : kp F A F' A') {n T : Nat} (f0 : F' 66 0 = n) (f5 : F' 66 5 = T) (hn : 1 ≤ n ∧ n ≤ 12) (hT : 1 ≤ T ∧ T ≤ 60) {g : Int} (ag : agP (inI n T n) (A' 84, A' 85) (cTs F A 2 g zr)) : ∃ F1 A1, (∀ G : gT, Mu G mX11_findCracks [.ref 66] F' A' none F1 A1) ∧ Iv F1 A1 ∧ kp F A F1 A1 ∧ kp F' A' F1 A1 ∧ F1 66 41 = (crH F A n T g).length ∧ (0 < (crH F A n T g).length → A1 86 0 = ftR (crH F A n T g)) ∧ A1 84 = A' 84 ∧ A1 85 = A' 85 ∧ A1 91 = A' 91 ∧ A1 92 = A' 92 := by
  have eL : crH F A n T g = ckL (A' 84) (A' 85) (A' 72 3) n T := by
    unfold crH
    rw [h'.s.lw 3 (by omega) (by omega), hk.2 9 rfl]
    exact (ckL_c (X' := (cTs F A 2 g zr).1) (Y' := (cTs F A 2 g zr).2) ag hn.2 T (Nat.le_refl _)).symm
  obtain ⟨F1, A1, hK, i1, k1, e41, hr, e84, e85⟩ := iv_cracks h' f0 f5 hn.2 hT.2 eL
  have hp := h'.m.2.2.2.2.1.2.2.2.1
  refine ⟨uF F' 66 41 (crH F A n T g).length, s2 A' 85 (lsF (crH F A n T g) Prod.fst (A' 86)) (lsF (crH F A n T g) Prod.snd (A' 87)), fun G => ?_, ?_⟩
  · rw [eL]
    exact p_X11_findCracks h'.b3 hp f0 f5 hn.2 hT.2
  · have hkp : kp F' A' (uF F' 66 41 (crH F A n T g).length) (s2 A' 85 (lsF (crH F A n T g) Prod.fst (A' 86)) (lsF (crH F A n T g) Prod.snd (A' 87))) := by
      refine ⟨fun o k e => ?_, fun o e => ?_⟩
      · have := kF_ne e
        exact uF_ne (by omega)
      · have := kA_ne e
        exact s2_o (by omega)
    refine ⟨?_, hk.tr hkp, hkp, uF_eq, fun c => ?_, s2_o (by decide), s2_o (by decide), s2_o (by decide), s2_o (by decide)⟩
    · refine hkp.Qv h' ?_ ?_ ?_ ?_ ?_ ?_
      · rw [uF_ne (by decide)]
        exact h'.fl.imp id (fun e => ⟨e.1, hkp.Qf e.2 (fun k => uF_ne (Or.inl (by decide))) (s2_o (by decide)) (s2_o (by decide)) (s2_o (by decide))⟩)
      · exact hkp.Qk h'.ts (uF_ne (by decide)) (s2_o (by decide)) (s2_o (by decide))
      · exact hkp.Qr h'.sr (uF_ne (by decide)) (uF_ne (by decide)) (s2_o (by decide))
      · rw [s2_o (by decide), s2_o (by decide)]
        exact h'.b1
      · rw [s2_o (by decide), s2_o (by decide)]
        exact h'.b2
      · rw [s2_o (by decide), s2_o (by decide)]
        exact h'.b3
    · rw [show s2 A' 85 (lsF (crH F A n T g) Prod.fst (A' 86)) (lsF (crH F A n T g) Prod.snd (A' 87)) 86 = lsF (crH F A n T g) Prod.fst (A' 86) from s2_1, ftR_at c]
      exact lsF_at (i := 0) c
theorem iv_toss2 (h : Iv F A) {g : Int} (hg : 10 ≤ g ∧ g ≤ 200) : ∃ F1 A1, (∀ G : gT, Mu G mX11_toss [.ref 66, vi g] F A none F1 A1) ∧ Iv F1 A1 ∧ kp F A F1 A1 ∧ F1 66 40 = g ∧ agP (inN F1) (A1 84, A1 85) (cTs F1 A1 2 g zr) ∧ ∀ o, o ≠ 84 → o ≠ 85 → A1 o = A o := by
  by_cases he : F 66 40 = g
  · refine ⟨F, A, fun G => p_X11_toss_hit he hg, h, kp.rfl', he, ?_, fun _ _ _ => rfl⟩
    rcases h.ts with e | ⟨-, e⟩
    · omega
    · rw [he] at e
      exact e
  · have hm := h.m
    have hkp : kp F A (uF F 66 40 g) (s2 A 83 (mTs F A g (A 84, A 85)).1 (mTs F A g (A 84, A 85)).2) := by
      refine ⟨fun o k e => ?_, fun o e => ?_⟩
      · have := kF_ne e
        exact uF_ne (by omega)
      · have := kA_ne e
        exact s2_o (by omega)
    have hag : agP (inN (uF F 66 40 g)) (s2 A 83 (mTs F A g (A 84, A 85)).1 (mTs F A g (A 84, A 85)).2 84, s2 A 83 (mTs F A g (A 84, A 85)).1 (mTs F A g (A 84, A 85)).2 85) (cTs (uF F 66 40 g) (s2 A 83 (mTs F A g (A 84, A 85)).1 (mTs F A g (A 84, A 85)).2) 2 g zr) := by
      rw [hkp.Qt, hkp.Qn, show s2 A 83 (mTs F A g (A 84, A 85)).1 (mTs F A g (A 84, A 85)).2 84 = (mTs F A g (A 84, A 85)).1 from s2_1, show s2 A 83 (mTs F A g (A 84, A 85)).1 (mTs F A g (A 84, A 85)).2 85 = (mTs F A g (A 84, A 85)).2 from s2_2, Iv.mc h.ok h.s]
      exact Iv.ag h.ok
    refine ⟨_, _, fun G => p_X11_toss_miss he hg hm, ?_, hkp, uF_eq, ?_, fun o a b => s2_o (by omega)⟩
    · refine hkp.Qv h ?_ ?_ ?_ ?_ ?_ ?_
      · rw [uF_ne (by decide)]
        refine h.fl.imp id (fun e => ⟨e.1, hkp.Qf e.2 (fun k => uF_ne (Or.inl (by decide))) (s2_o (by decide)) (s2_o (by decide)) (s2_o (by decide))⟩)
      · refine Or.inr ⟨by rw [uF_eq]; exact hg, ?_⟩
        rw [uF_eq]
        exact hag
      · exact hkp.Qr h.sr (uF_ne (by decide)) (uF_ne (by decide)) (s2_o (by decide))
      · rw [s2_o (by decide), s2_o (by decide)]
        exact h.b1
      · rw [s2_o (by decide), s2_o (by decide)]
        exact h.b2
      · rw [show s2 A 83 (mTs F A g (A 84, A 85)).1 (mTs F A g (A 84, A 85)).2 84 = (mTs F A g (A 84, A 85)).1 from s2_1, show s2 A 83 (mTs F A g (A 84, A 85)).1 (mTs F A g (A 84, A 85)).2 85 = (mTs F A g (A 84, A 85)).2 from s2_2, Iv.mc h.ok h.s]
        exact cTs_b h.ok.c hg h.b3
    · exact hag
def tbS (F : fT) (A : nT) (F2 : fT) (A2 : nT) (n T : Nat) (d g : Int) (X2 Y2 : Int → Int) : Prop := (Iv F2 A2) ∧ (kp F A F2 A2) ∧ (F2 66 0 = n) ∧ (F2 66 5 = T) ∧ (agP (inI n T n) (A2 84, A2 85) (cTs F A 2 (F 0 11) zr)) ∧ (bA (X2, Y2)) ∧ (agP (inI n T n) (X2, Y2) (cTs F A 2 g zr)) ∧ (∀ k t : Int, 0 ≤ k → k ≤ n → 0 ≤ t → t ≤ T → A2 91 (13 * t + k) = d - X2 (13 * t + k) ∧ A2 92 (13 * t + k) = Y2 (13 * t + k))
theorem tbS.iv {F : fT} {A : nT} {F2 : fT} {A2 : nT} {n T : Nat} {d g : Int} {X2 Y2 : Int → Int} (h : tbS F A F2 A2 n T d g X2 Y2) : Iv F2 A2 := h.1
theorem tbS.k {F : fT} {A : nT} {F2 : fT} {A2 : nT} {n T : Nat} {d g : Int} {X2 Y2 : Int → Int} (h : tbS F A F2 A2 n T d g X2 Y2) : kp F A F2 A2 := h.2.1
theorem tbS.f0 {F : fT} {A : nT} {F2 : fT} {A2 : nT} {n T : Nat} {d g : Int} {X2 Y2 : Int → Int} (h : tbS F A F2 A2 n T d g X2 Y2) : F2 66 0 = n := h.2.2.1
theorem tbS.f5 {F : fT} {A : nT} {F2 : fT} {A2 : nT} {n T : Nat} {d g : Int} {X2 Y2 : Int → Int} (h : tbS F A F2 A2 n T d g X2 Y2) : F2 66 5 = T := h.2.2.2.1
theorem tbS.ag {F : fT} {A : nT} {F2 : fT} {A2 : nT} {n T : Nat} {d g : Int} {X2 Y2 : Int → Int} (h : tbS F A F2 A2 n T d g X2 Y2) : agP (inI n T n) (A2 84, A2 85) (cTs F A 2 (F 0 11) zr) := h.2.2.2.2.1
theorem tbS.b {F : fT} {A : nT} {F2 : fT} {A2 : nT} {n T : Nat} {d g : Int} {X2 Y2 : Int → Int} (h : tbS F A F2 A2 n T d g X2 Y2) : bA (X2, Y2) := h.2.2.2.2.2.1
theorem tbS.ag2 {F : fT} {A : nT} {F2 : fT} {A2 : nT} {n T : Nat} {d g : Int} {X2 Y2 : Int → Int} (h : tbS F A F2 A2 n T d g X2 Y2) : agP (inI n T n) (X2, Y2) (cTs F A 2 g zr) := h.2.2.2.2.2.2.1
theorem tbS.o {F : fT} {A : nT} {F2 : fT} {A2 : nT} {n T : Nat} {d g : Int} {X2 Y2 : Int → Int} (h : tbS F A F2 A2 n T d g X2 Y2) : ∀ k t : Int, 0 ≤ k → k ≤ n → 0 ≤ t → t ≤ T → A2 91 (13 * t + k) = d - X2 (13 * t + k) ∧ A2 92 (13 * t + k) = Y2 (13 * t + k) := h.2.2.2.2.2.2.2
theorem tbS.mk {F : fT} {A : nT} {F2 : fT} {A2 : nT} {n T : Nat} {d g : Int} {X2 Y2 : Int → Int} (qiv : Iv F2 A2) (qk : kp F A F2 A2) (qf0 : F2 66 0 = n) (qf5 : F2 66 5 = T) (qag : agP (inI n T n) (A2 84, A2 85) (cTs F A 2 (F 0 11) zr)) (qb : bA (X2, Y2)) (qag2 : agP (inI n T n) (X2, Y2) (cTs F A 2 g zr)) (qo : ∀ k t : Int, 0 ≤ k → k ≤ n → 0 ≤ t → t ≤ T → A2 91 (13 * t + k) = d - X2 (13 * t + k) ∧ A2 92 (13 * t + k) = Y2 (13 * t + k)) : tbS F A F2 A2 n T d g X2 Y2 := ⟨qiv, qk, qf0, qf5, qag, qb, qag2, qo⟩
theorem m_tossBoth (h : Iv F A) (h' : Iv F' A') (hk : kp F A F' A') {n T : Nat} (en : F 2 0 = n) (eT : F 6 0 = T) (hn : 1 ≤ n ∧ n ≤ 12) (hT : 1 ≤ T ∧ T ≤ 60) {d g : Int} (hd : ab 5000 d) (hg : 10 ≤ g ∧ g ≤ 200) (G : gT) : Meets G mX11_tossBoth [.ref 66, vi d, vi g] (sw F' A') (fun r w => ∃ F2 A2 X2 Y2, r = none ∧ w = sw F2 A2 ∧ tbS F A F2 A2 n T d g X2 Y2) := by
  refine L_ent [some (.ref 66), some (vi d), some (vi g), none, none] rfl ?_
  generalize hQ : (fun (r : Option Value) (w : wT) => ∃ F2 A2 X2 Y2, r = none ∧ w = sw F2 A2 ∧ tbS F A F2 A2 n T d g X2 Y2) = Q
  obtain ⟨F1, A1, hM, i1, k1, -, f0, f5, ag⟩ := toss_g h h' hk en eT hg
  have hdd := hd
  unfold ab at hdd
  refine L_aload_n eX11_tossBoth_0 rfl ?_
  refine L_iload_n eX11_tossBoth_1 rfl ?_
  refine C_v0 (hM G) v_X11_311 eX11_tossBoth_2 rfl rfl ?_
  refine V_iconst eX11_tossBoth_5 ?_
  refine L_istore_n eX11_tossBoth_6 (s_3 rfl rfl) ?_
  rw [show sw F1 A1 = sw F1 (s2 A1 90 (A1 91) (A1 92)) by rw [show s2 A1 90 (A1 91) (A1 92) = A1 from s2_self]]
  have LOOP : ∀ (r j : Nat) (t : Int) (x4 : Option Value) (P R : Int → Int), T + 1 < r + j → j ≤ T + 1 → t = j → (∀ k t : Int, 0 ≤ k → k ≤ n → 0 ≤ t → t < j → P (13 * t + k) = d - A1 84 (13 * t + k) ∧ R (13 * t + k) = A1 85 (13 * t + k)) → V G mX11_tossBoth Q 0 0 7 [some (.ref 66), some (vi d), some (vi g), some (vi t), x4] [] (sw F1 (s2 A1 90 P R)) := by
    intro r
    induction r with
    | zero => intro j t x4 P R e1 e2; omega
    | succ r ih =>
      intro j t x4 P R e1 e2 et inv
      refine L_iload_n eX11_tossBoth_7 rfl ?_
      refine L_aload_n eX11_tossBoth_8 rfl ?_
      refine L_get eX11_tossBoth_9 f_X11_127.g rfl rfl ?_
      -- at 12: .if_icmp .gt 74
      refine V_icmpgt eX11_tossBoth_12 (fun h2 => ?_) (fun h2 => ?_)
      · have e : j = T + 1 := by omega
        subst e
        have hkp : kp F1 A1 F1 (s2 A1 90 P R) := ⟨fun _ _ _ => rfl, fun o e => by have := kA_ne e; exact s2_o (by omega)⟩
        have i2 : Iv F1 (s2 A1 90 P R) := by
          refine hkp.Qv i1 ?_ ?_ ?_ ?_ ?_ ?_
          · exact i1.fl.imp id (fun e => ⟨e.1, hkp.Qf e.2 (fun k => rfl) (s2_o (by decide)) (s2_o (by decide)) (s2_o (by decide))⟩)
          · exact hkp.Qk i1.ts rfl (s2_o (by decide)) (s2_o (by decide))
          · exact hkp.Qr i1.sr rfl rfl (s2_o (by decide))
          · rw [s2_o (by decide), s2_o (by decide)]
            exact i1.b1
          · rw [s2_o (by decide), s2_o (by decide)]
            exact i1.b2
          · rw [s2_o (by decide), s2_o (by decide)]
            exact i1.b3
        have egv : F1 66 10 = F 0 11 := by rw [i1.giv.1, k1.1 0 11 rfl]
        obtain ⟨F3, A3, hM3, i3, k3, e40, ag3, fo3⟩ := iv_toss2 i2 (g := F1 66 10) (by rw [i1.giv.1]; exact i1.giv.2)
        have kk := (k1.tr hkp).tr k3
        have hna := kk.na en eT
        have ag4 : agP (inI n T n) (A3 84, A3 85) (cTs F A 2 (F 0 11) zr) := by
          unfold inN at ag3
          rw [hna.1, hna.2, kk.Qt, egv] at ag3
          exact ag3
        refine L_aload_n eX11_tossBoth_86 rfl ?_
        refine L_aload_n eX11_tossBoth_87 rfl ?_
        refine L_get eX11_tossBoth_88 f_X11_133.g rfl rfl ?_
        refine C_v0 (hM3 G) v_X11_311 eX11_tossBoth_91 rfl rfl ?_
        refine V_return eX11_tossBoth_94 ?_
        rw [← hQ]
        refine ⟨F3, A3, A1 84, A1 85, rfl, rfl, tbS.mk i3 kk (by rw [i3.s.n]; exact hna.1) (by rw [i3.s.T]; exact hna.2) ag4 i1.b3 ag (fun k t a b c e => ?_)⟩
        rw [fo3 91 (by decide) (by decide), fo3 92 (by decide) (by decide), show s2 A1 90 P R 91 = P from s2_1, show s2 A1 90 P R 92 = R from s2_2]
        exact inv k t a b c (by omega)
      · subst et
        have INN : ∀ (q i : Nat) (k : Int) (P R : Int → Int), n + 1 < q + i → i ≤ n + 1 → k = i → (∀ k t : Int, 0 ≤ k → k ≤ n → 0 ≤ t → (t < j ∨ t = j ∧ k < i) → P (13 * t + k) = d - A1 84 (13 * t + k) ∧ R (13 * t + k) = A1 85 (13 * t + k)) → V G mX11_tossBoth Q 0 0 18 [some (.ref 66), some (vi d), some (vi g), some (vi (j : Int)), some (vi k)] [] (sw F1 (s2 A1 90 P R)) := by
          intro q
          induction q with
          | zero => intro i k P R q1 q2; omega
          | succ q ihq =>
            intro i k P R q1 q2 ek inv2
            refine L_iload eX11_tossBoth_18 rfl ?_
            refine L_aload_n eX11_tossBoth_20 rfl ?_
            refine L_get eX11_tossBoth_21 f_X11_121.g rfl rfl ?_
            -- at 24: .if_icmp .gt 56
            refine V_icmpgt eX11_tossBoth_24 (fun h3 => ?_) (fun h3 => ?_)
            · have e : i = n + 1 := by omega
              subst e
              refine L_iinc eX11_tossBoth_80 rfl (s_3 rfl rfl) ?_
              refine V_goto eX11_tossBoth_83 ?_
              exact ih (j + 1) _ _ _ _ (by omega) (by omega) (by omega) (fun k t a b c e => inv2 k t a b c (by omega))
            · subst ek
              refine L_aload_n eX11_tossBoth_27 rfl ?_
              refine L_getR (r := 91) eX11_tossBoth_28 f_X11_90.g rfl rfl (by decide) ?_
              refine L_iload eX11_tossBoth_31 rfl ?_
              refine L_iload_n eX11_tossBoth_33 rfl ?_
              refine C_s1 p_X11_cell v_X11_284 eX11_tossBoth_34 rfl ?_
              refine L_iload_n eX11_tossBoth_37 rfl ?_
              refine V_i2l eX11_tossBoth_38 ?_
              refine L_aload_n eX11_tossBoth_39 rfl ?_
              refine L_getR (r := 84) eX11_tossBoth_40 f_X11_65.g rfl rfl (by decide) ?_
              refine L_iload eX11_tossBoth_43 rfl ?_
              refine L_iload_n eX11_tossBoth_45 rfl ?_
              refine C_s1 p_X11_cell v_X11_284 eX11_tossBoth_46 rfl ?_
              refine Z_laldo eX11_tossBoth_49 rfl (by decide) ?_
              refine V_lsub eX11_tossBoth_50 ?_
              refine Z_last1 (f := 90) eX11_tossBoth_51 rfl ?_
              refine L_aload_n eX11_tossBoth_52 rfl ?_
              refine L_getR (r := 92) eX11_tossBoth_53 f_X11_93.g rfl rfl (by decide) ?_
              refine L_iload eX11_tossBoth_56 rfl ?_
              refine L_iload_n eX11_tossBoth_58 rfl ?_
              refine C_s1 p_X11_cell v_X11_284 eX11_tossBoth_59 rfl ?_
              refine L_aload_n eX11_tossBoth_62 rfl ?_
              refine L_getR (r := 85) eX11_tossBoth_63 f_X11_69.g rfl rfl (by decide) ?_
              refine L_iload eX11_tossBoth_66 rfl ?_
              refine L_iload_n eX11_tossBoth_68 rfl ?_
              refine C_s1 p_X11_cell v_X11_284 eX11_tossBoth_69 rfl ?_
              refine Z_laldo eX11_tossBoth_72 rfl (by decide) ?_
              refine Z_last2 (f := 90) eX11_tossBoth_73 rfl ?_
              refine L_iinc eX11_tossBoth_74 rfl (s_4 rfl rfl) ?_
              refine V_goto eX11_tossBoth_77 ?_
              refine ihq (i + 1) _ _ _ (by omega) (by omega) (by omega) (fun k t a b c e => ?_)
              simp only [uI]
              by_cases cc : 13 * t + k = 13 * (j : Int) + (i : Int)
              · rw [if_pos cc, if_pos cc, cc]
                exact ⟨rfl, rfl⟩
              · rw [if_neg cc, if_neg cc]
                exact inv2 k t a b c (by omega)
        refine V_iconst eX11_tossBoth_15 ?_
        refine L_istore eX11_tossBoth_16 (s_4 rfl rfl) ?_
        exact INN (n + 2) 0 0 P R (by omega) (by omega) (by omega) (fun k t a b c e => inv k t a b c (by omega))
  exact LOOP (T + 2) 0 0 _ _ _ (by omega) (by omega) (by omega) (fun k t _ _ a b => by omega)
theorem pw_close (h : Iv F A) {d g o : Int} (hd : i32 d) (hg : i32 g) (ho : i32 o) : Pw mX10_close mX11_close [vi d, vi g, vi o] F A := by
  unfold i32 at hd hg ho
  by_cases h1 : (-5000 ≤ d ∧ d ≤ 5000) ∧ (10 ≤ g ∧ g ≤ 200) ∧ (0 ≤ o ∧ o ≤ 30)
  · obtain ⟨n, T, en, eT, hn, hT⟩ := iv_nat h
    have had : ab 5000 d := h1.1
    obtain ⟨F1, A1, hC, i1, k1, ef, ag1, -⟩ := throw_g h en eT hn
    obtain ⟨F2, A2, hF, i2, k2, eg, ag2, -, e42, e43, e44, -⟩ := fly_g h i1 k1 en eT hn hT (g := g) h1.2.1
    have hL2 := fun (G : gT) => p_X1_leastFarOfTwo (G := G) (F := F2) (A := A2) (f := 42) (g := 47) (n := n) (T := T) (d := d) (o := o) (Or.inl rfl) (Or.inr rfl) i2.b1 i2.b2 (by rw [e42]; exact ef.1) (by rw [e42]; exact ef.2.1) eg.1 eg.2.1 hn.2 hT.2 had h1.2.2
    rw [show A2 (42 + 1) = A2 43 from rfl, show A2 (42 + 2) = A2 44 from rfl, show A2 (47 + 1) = A2 48 from rfl, show A2 (47 + 2) = A2 49 from rfl, cl_c (F := F) (A := A) (g := g) (by rw [e43, e44]; exact ag1) ag2 hn.2] at hL2
    intro G
    refine ⟨_, (?_ : Mu G mX10_close [.ref 0, vi d, vi g, vi o] F A (some (vi (clH F A n T d o g))) F2 A2), ?_⟩
    · refine L_ent [some (.ref 0), some (vi d), some (vi g), some (vi o), none] rfl ?_
      refine L_iload_n eX10_close_0 rfl ?_
      refine V_iconst eX10_close_1 ?_
      refine C_s1 (p_X10_isPlace (by omega) (by omega)) v_X10_248 eX10_close_2 rfl ?_
      refine V_ifeqB eX10_close_5 (fun h5 => ?_) (fun h5 => ?_)
      · (exfalso; omega)
      · refine L_iload_n eX10_close_8 rfl ?_
        refine C_s1 (p_X10_isGiven (by omega)) v_X10_169 eX10_close_9 rfl ?_
        refine V_ifeqB eX10_close_12 (fun h12 => ?_) (fun h12 => ?_)
        · (exfalso; omega)
        · refine L_iload_n eX10_close_15 rfl ?_
          refine V_iflt eX10_close_16 (fun h16 => ?_) (fun h16 => ?_)
          · (exfalso; omega)
          · refine L_iload_n eX10_close_19 rfl ?_
            refine L_bipush eX10_close_20 rfl ?_
            refine V_icmple eX10_close_22 (fun h22 => ?_) (fun h22 => ?_)
            · refine L_aload_n eX10_close_29 rfl ?_
              refine C_v1 (hC G) v_X10_195 eX10_close_30 rfl rfl ?_
              refine L_astore eX10_close_33 (s_4 rfl rfl) ?_
              refine L_aload_n eX10_close_35 rfl ?_
              refine L_getR (r := 47) eX10_close_36 f_X10_50.g rfl rfl (by decide) ?_
              refine L_aload_n eX10_close_39 rfl ?_
              refine L_getR (r := 1) eX10_close_40 f_X10_10.g rfl rfl (by decide) ?_
              refine L_getR (r := 2) eX10_close_43 f_X10_112 rfl rfl (by decide) ?_
              refine L_aload_n eX10_close_46 rfl ?_
              refine L_getR (r := 1) eX10_close_47 f_X10_10.g rfl rfl (by decide) ?_
              refine L_getR (r := 6) eX10_close_50 f_X10_130 rfl rfl (by decide) ?_
              refine L_aload_n eX10_close_53 rfl ?_
              refine L_getR (r := 1) eX10_close_54 f_X10_10.g rfl rfl (by decide) ?_
              refine L_getR (r := 9) eX10_close_57 f_X10_166 rfl rfl (by decide) ?_
              refine L_iload_n eX10_close_60 rfl ?_
              refine C_v0 (hF G) v_X10_255 eX10_close_61 rfl rfl ?_
              refine L_aload eX10_close_64 rfl ?_
              refine L_aload_n eX10_close_66 rfl ?_
              refine L_getR (r := 47) eX10_close_67 f_X10_50.g rfl rfl (by decide) ?_
              refine L_iload_n eX10_close_70 rfl ?_
              refine L_iload_n eX10_close_71 rfl ?_
              refine C_v1 (hL2 G) v_X10_287 eX10_close_72 rfl rfl ?_
              exact V_ireturn eX10_close_75 ((by first | (exfalso; omega) | exact ⟨rfl, rfl⟩))
            · (exfalso; omega)
    · intro r w e
      refine ⟨_, F2, A2, e.1, e.2, ty_v, (fun r w => ∃ F1 A1, r = some (vi (clH F A n T d o g)) ∧ w = sw F1 A1 ∧ Iv F1 A1), ?_, fun r' w' e' => e'⟩
      refine L_ent [some (.ref 66), some (vi d), some (vi g), some (vi o)] rfl ?_
      generalize hQ : (fun (r : Option Value) (w : wT) => ∃ F1 A1, r = some (vi (clH F A n T d o g)) ∧ w = sw F1 A1 ∧ Iv F1 A1) = Q
      have go : V G mX11_close Q 0 0 24 [some (.ref 66), some (vi d), some (vi g), some (vi o)] [] (sw F2 A2) := by
        refine L_aload_n eX11_close_24 rfl ?_
        refine L_iload_n eX11_close_25 rfl ?_
        refine L_iload_n eX11_close_26 rfl ?_
        refine C_vq (m_tossBoth h i2 k2 en eT hn hT had h1.2.1 G) v_X11_394 eX11_close_27 rfl rfl (fun r' w' e' => ?_)
        obtain ⟨F3, A3, X2, Y2, er, ew, tb⟩ := e'
        subst er ew
        have hcl := p_X11_closeBy (G := G) (F := F3) (A := A3) (n := n) (T := T) (d := d) (o := o) tb.iv.b3 tb.b tb.o tb.f0 tb.f5 hn.2 hT.2 had h1.2.2
        rw [(cl_m tb.ag tb.ag2 hn.2 tb.iv.b3 tb.b had hT.2).1] at hcl
        refine L_aload_n eX11_close_30 rfl ?_
        refine L_iload_n eX11_close_31 rfl ?_
        refine C_v1 hcl v_X11_397 eX11_close_32 rfl rfl ?_
        exact V_ireturn eX11_close_35 (by rw [← hQ]; exact ⟨F3, A3, rfl, rfl, tb.iv⟩)
      refine L_iload_n eX11_close_0 rfl ?_
      refine L_iload_n eX11_close_1 rfl ?_
      refine C_s1 (p_X11_isTwo (by omega) (by omega)) v_X11_389 eX11_close_2 rfl ?_
      refine V_ifeqB eX11_close_5 (fun h5 => ?_) (fun h5 => ?_)
      · (exfalso; omega)
      · refine L_iload_n eX11_close_8 rfl ?_
        refine V_i2l eX11_close_9 ?_
        refine L_lconst0 eX11_close_10 ?_
        refine L_ldc2 eX11_close_11 k_X11_392 ?_
        refine C_s1 (p_X11_in (by omega) (by omega) (by omega)) v_X11_152 eX11_close_14 rfl ?_
        refine V_ifneB eX11_close_17 (fun h17 => ?_) (fun h17 => ?_)
        · exact go
        · (exfalso; omega)
  · refine Pr.w ⟨vi (-1002), F, A, F, A, fun G => ?_, fun G => ?_, h, ty_v⟩
    · refine L_ent [some (.ref 0), some (vi d), some (vi g), some (vi o), none] rfl ?_
      refine L_iload_n eX10_close_0 rfl ?_
      refine V_iconst eX10_close_1 ?_
      refine C_s1 (p_X10_isPlace (by omega) (by omega)) v_X10_248 eX10_close_2 rfl ?_
      refine V_ifeqB eX10_close_5 (fun h5 => ?_) (fun h5 => ?_)
      · refine L_sipush eX10_close_25 rfl ?_
        exact V_ireturn eX10_close_28 ((by first | (exfalso; omega) | exact ⟨rfl, rfl⟩))
      · refine L_iload_n eX10_close_8 rfl ?_
        refine C_s1 (p_X10_isGiven (by omega)) v_X10_169 eX10_close_9 rfl ?_
        refine V_ifeqB eX10_close_12 (fun h12 => ?_) (fun h12 => ?_)
        · refine L_sipush eX10_close_25 rfl ?_
          exact V_ireturn eX10_close_28 ((by first | (exfalso; omega) | exact ⟨rfl, rfl⟩))
        · refine L_iload_n eX10_close_15 rfl ?_
          refine V_iflt eX10_close_16 (fun h16 => ?_) (fun h16 => ?_)
          · refine L_sipush eX10_close_25 rfl ?_
            exact V_ireturn eX10_close_28 ((by first | (exfalso; omega) | exact ⟨rfl, rfl⟩))
          · refine L_iload_n eX10_close_19 rfl ?_
            refine L_bipush eX10_close_20 rfl ?_
            refine V_icmple eX10_close_22 (fun h22 => ?_) (fun h22 => ?_)
            · (exfalso; omega)
            · refine L_sipush eX10_close_25 rfl ?_
              exact V_ireturn eX10_close_28 ((by first | (exfalso; omega) | exact ⟨rfl, rfl⟩))
    · refine L_ent [some (.ref 66), some (vi d), some (vi g), some (vi o)] rfl ?_
      refine L_iload_n eX11_close_0 rfl ?_
      refine L_iload_n eX11_close_1 rfl ?_
      refine C_s1 (p_X11_isTwo (by omega) (by omega)) v_X11_389 eX11_close_2 rfl ?_
      refine V_ifeqB eX11_close_5 (fun h5 => ?_) (fun h5 => ?_)
      · refine L_sipush eX11_close_20 rfl ?_
        exact V_ireturn eX11_close_23 ((by first | (exfalso; omega) | exact ⟨rfl, rfl⟩))
      · refine L_iload_n eX11_close_8 rfl ?_
        refine V_i2l eX11_close_9 ?_
        refine L_lconst0 eX11_close_10 ?_
        refine L_ldc2 eX11_close_11 k_X11_392 ?_
        refine C_s1 (p_X11_in (by omega) (by omega) (by omega)) v_X11_152 eX11_close_14 rfl ?_
        refine V_ifneB eX11_close_17 (fun h17 => ?_) (fun h17 => ?_)
        · (exfalso; omega)
        · refine L_sipush eX11_close_20 rfl ?_
          exact V_ireturn eX11_close_23 ((by first | (exfalso; omega) | exact ⟨rfl, rfl⟩))
end Q82

