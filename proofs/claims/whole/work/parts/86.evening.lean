/-! WEAR: both sides -/
section P86
variable {G G' : Nat → (Int → Int) → Int} {W W' : Nat → (Int → Int) → Int → Int}
def evV (G : Nat → (Int → Int) → Int) (W : Nat → (Int → Int) → Int → Int) (n : Nat) : Nat → (Int → Int) → Int
  | 0, _ => 0
  | r + 1, w => if 0 < G n w then 1 else 1 + evV G W n r (W n w)
def evN (G : Nat → (Int → Int) → Int) (W : Nat → (Int → Int) → Int → Int) (n : Nat) : Nat → (Int → Int) → Int
  | 0, _ => n
  | r + 1, w => if 0 < G n w then n - G n w else evN G W n r (W n w)
def evW (G : Nat → (Int → Int) → Int) (W : Nat → (Int → Int) → Int → Int) (n : Nat) : Nat → (Int → Int) → Int → Int
  | 0, w => w
  | r + 1, w => if 0 < G n w then W n w else evW G W n r (W n w)
theorem ev_c {n : Nat} (h : ∀ w w', eqO n w w' → G n w = G' n w' ∧ eqO n (W n w) (W' n w')) : ∀ (r : Nat) (w w' : Int → Int), eqO n w w' → evV G W n r w = evV G' W' n r w' ∧ evN G W n r w = evN G' W' n r w' ∧ eqO n (evW G W n r w) (evW G' W' n r w') := by
  intro r
  induction r with
  | zero => intro w w' e; exact ⟨rfl, rfl, e⟩
  | succ r ih =>
    intro w w' e
    have a := h w w' e
    have b := ih _ _ a.2
    rw [evV, evV, evN, evN, evW, evW, ← a.1]
    by_cases c : 0 < G n w
    · simp only [if_pos c]
      exact ⟨trivial, trivial, a.2⟩
    · simp only [if_neg c]
      exact ⟨by rw [b.1], b.2.1, b.2.2⟩
theorem lwV_c {W W' : Int → Int} {L n : Int} : ∀ (r : Nat) (i : Int), i + r = n → (∀ j, i ≤ j → j < n → W j = W' j) → lwV W L n r i = lwV W' L n r i := by
  intro r
  induction r with
  | zero => intro i _ _; rfl
  | succ r ih =>
    intro i e h
    rw [lwV, lwV, h i (by omega) (by omega), ih (i + 1) (by omega) (fun j a b => h j (by omega) b)]
theorem wst_c {S ST wx wy S' ST' wx' wy' : Int → Int} {len air fall : Int} {R : Nat} {g : Int} {T : Nat} {L : Int} {n : Nat} {w w' : Int → Int} (hn : 1 ≤ n) (hS : eqO n S S') (hST : eqO n ST ST') (hx : ∀ t : Int, 1 ≤ t → t ≤ T → wx t = wx' t ∧ wy t = wy' t) (hw : eqO n w w') : wstG S ST wx wy len air fall R g T L n w = wstG S' ST' wx' wy' len air fall R g T L n w' ∧ eqO n (wstW S ST wx wy len air fall R g T n w) (wstW S' ST' wx' wy' len air fall R g T n w') := by
  have ets : tsS (wtF S ST) (bdF S ST) len air fall n R wx wy g T zr = tsS (wtF S' ST') (bdF S' ST') len air fall n R wx' wy' g T zr := by
    refine ts_cong ?_ ?_ hx
    · intro k a b
      unfold wtF
      rw [hS _ (by omega) (by omega), hST _ (by omega) (by omega)]
    · intro k a b
      unfold bdF
      rw [hS _ (by omega) (by omega), hST _ (by omega) (by omega)]
  have eW : eqO n (wstW S ST wx wy len air fall R g T n w) (wstW S' ST' wx' wy' len air fall R g T n w') := by
    intro i a b
    unfold wstW wrW
    rw [if_pos ⟨a, b⟩, if_pos ⟨a, b⟩, hw i a b, ets]
    unfold wrG
    rw [hST i a b]
  refine ⟨?_, eW⟩
  unfold wstG
  exact lwV_c (n - 1) 1 (by omega) (fun j a b => eW j (by omega) b)
end P86
section Q86
variable {F F' : fT} {A A' : nT}
theorem Iv.C (h : Iv F A) : Cv F A := Cv.mk h.ok h.giv.2 h.fl h.b1
theorem Iv.M (h : Iv F A) : Mv F A := by
  refine Mv.mk h.m (by rw [h.giv.1]; exact h.giv.2) ?_ ?_
  · intro i a b
    rw [h.s.n] at b
    rw [h.s.wr i (by omega) b]
    exact h.ok.wr i a b
  · rcases h.ts with e | ⟨e1, e2⟩
    · exact Or.inl e
    · refine Or.inr ⟨e1, ?_⟩
      rw [Iv.mc h.ok h.s, h.s.n, h.s.T]
      exact e2
theorem Cv.fr (h : Cv F A) (f : ∀ o k, o < 66 → F' o k = F o k) (a : ∀ o, o < 66 → A' o = A o) : Cv F' A' := by
  refine Cv.mk (h.ok.fr (f _ _ (by decide)) (f _ _ (by decide)) (f _ _ (by decide)) (a _ (by decide)) (a _ (by decide)) (a _ (by decide)) (a _ (by decide)) (a _ (by decide)) (a _ (by decide))) (by rw [f 0 11 (by decide)]; exact h.g) ?_ (by rw [a 43 (by decide), a 44 (by decide)]; exact h.b)
  rw [f 0 17 (by decide)]
  refine h.fl.imp id (fun e => ⟨e.1, ?_⟩)
  have e2 := e.2
  have et : ∀ g s, cTs F' A' 2 g s = cTs F A 2 g s := fun g s => by
    show tsS (wtF (A' 3) (A' 4)) (bdF (A' 3) (A' 4)) (F' 2 1) (A' 9 0) (A' 9 1) (F' 2 0).toNat (A' 9 2).toNat (A' 7) (A' 8) g (F' 6 0).toNat s = tsS (wtF (A 3) (A 4)) (bdF (A 3) (A 4)) (F 2 1) (A 9 0) (A 9 1) (F 2 0).toNat (A 9 2).toNat (A 7) (A 8) g (F 6 0).toNat s
    rw [f 2 0 (by decide), f 2 1 (by decide), f 6 0 (by decide), a 3 (by decide), a 4 (by decide), a 7 (by decide), a 8 (by decide), a 9 (by decide)]
  unfold flK inN at *
  rw [et, f 2 0 (by decide), f 2 1 (by decide), f 6 0 (by decide), f 0 11 (by decide), f 42 0 (by decide), f 42 1 (by decide), f 42 2 (by decide), f 42 3 (by decide), a 3 (by decide), a 4 (by decide), a 9 (by decide), a 43 (by decide), a 44 (by decide), a 45 (by decide)]
  exact e2
theorem Mv.fr (h : Mv F A) (f : ∀ k, F' 66 k = F 66 k) (a : ∀ o, 66 ≤ o → A' o = A o) : Mv F' A' := by
  have hok := h.ok
  have hts := h.ts
  have hwr := h.wr
  have hg := h.g
  refine Mv.mk ?_ (by rw [f]; exact hg) (by rw [f, a 69 (by decide)]; exact hwr) ?_
  · unfold mOK at *
    rw [f, f, f, f, a 67 (by decide), a 68 (by decide), a 70 (by decide), a 71 (by decide), a 72 (by decide), a 84 (by decide), a 85 (by decide)]
    exact hok
  · rw [mk_t (F := F) (A := A) (f 1) (f 5) (f 0) (fun o b _ _ => a o (by omega)), f 40, f 0, f 5, a 84 (by decide), a 85 (by decide)]
    exact hts
theorem iv_wear (h : Iv F A) {n' : Int} (c : Cv F' A') (m : Mv F' A') (e2 : F' 2 0 = n') (e66 : F' 66 0 = n') (wr : eqO n' (A' 69) (A' 5)) (ff : ∀ o k, (o ≠ 0 ∨ k ≠ 17) → o ≠ 42 → (o ≠ 2 ∨ k ≠ 0) → (o ≠ 52 ∨ k ≠ 0) → (o ≠ 66 ∨ k ≠ 40 ∧ k ≠ 0) → F' o k = F o k) (fa : ∀ o, o ≠ 5 → (o < 43 ∨ 46 < o) → o ≠ 69 → o ≠ 84 → o ≠ 85 → A' o = A o) (alt : (n' = F 2 0 ∧ F' 52 0 = F 52 0 ∧ F' 0 17 = 1) ∨ (n' ≤ F 2 0 ∧ F' 52 0 = -1 ∧ F' 0 17 = 0 ∧ F' 66 40 = -1)) : Iv F' A' := by
  have hle : n' ≤ F 2 0 := by omega
  have fo := fun (o k : Nat) (q : kSF o k = true) => ff o k (by have := kSF_in q; omega) (by have := kSF_in q; omega) (by have := kSF_in q; omega) (by have := kSF_in q; omega) (by have := kSF_in q; omega)
  have s : eqS F' A' := by
    have hs := h.s
    refine eqS.mk ?_ ?_ ?_ ?_ ?_ ?_ ?_ ?_ ?_ ?_
    · rw [e2, e66]
    · rw [ff 66 1 (by decide) (by decide) (by decide) (by decide) (by decide), ff 2 1 (by decide) (by decide) (by decide) (by decide) (by decide)]; exact hs.len
    · rw [ff 66 5 (by decide) (by decide) (by decide) (by decide) (by decide), ff 6 0 (by decide) (by decide) (by decide) (by decide) (by decide)]; exact hs.T
    · rw [ff 66 6 (by decide) (by decide) (by decide) (by decide) (by decide), ff 6 1 (by decide) (by decide) (by decide) (by decide) (by decide)]; exact hs.cl
    · rw [e2, fa 67 (by decide) (by decide) (by decide) (by decide) (by decide), fa 3 (by decide) (by decide) (by decide) (by decide) (by decide)]
      exact fun i a b => hs.str i a (by omega)
    · rw [e2, fa 68 (by decide) (by decide) (by decide) (by decide) (by decide), fa 4 (by decide) (by decide) (by decide) (by decide) (by decide)]
      exact fun i a b => hs.stf i a (by omega)
    · rw [e2]; exact wr
    · rw [ff 6 0 (by decide) (by decide) (by decide) (by decide) (by decide), fa 70 (by decide) (by decide) (by decide) (by decide) (by decide), fa 7 (by decide) (by decide) (by decide) (by decide) (by decide)]; exact hs.wx
    · rw [ff 6 0 (by decide) (by decide) (by decide) (by decide) (by decide), fa 71 (by decide) (by decide) (by decide) (by decide) (by decide), fa 8 (by decide) (by decide) (by decide) (by decide) (by decide)]; exact hs.wy
    · rw [fa 72 (by decide) (by decide) (by decide) (by decide) (by decide), fa 9 (by decide) (by decide) (by decide) (by decide) (by decide)]; exact hs.lw
  have htx : F' 66 16 = F' 28 1 ∧ 0 ≤ F' 28 1 ∧ F' 28 1 ≤ 160 := by
    rw [ff 66 16 (by decide) (by decide) (by decide) (by decide) (by decide), ff 28 1 (by decide) (by decide) (by decide) (by decide) (by decide)]; exact h.tx
  have htxb : ∀ i : Int, 0 ≤ i → i < F' 28 1 → A' 73 i = A' 29 i ∧ 0 ≤ A' 29 i ∧ A' 29 i ≤ 255 := by
    rw [ff 28 1 (by decide) (by decide) (by decide) (by decide) (by decide), fa 73 (by decide) (by decide) (by decide) (by decide) (by decide), fa 29 (by decide) (by decide) (by decide) (by decide) (by decide)]; exact h.txb
  have hfa : F' 66 21 = F' 0 16 := by
    rw [ff 66 21 (by decide) (by decide) (by decide) (by decide) (by decide), ff 0 16 (by decide) (by decide) (by decide) (by decide) (by decide)]; exact h.fa
  have im0 : imK F' A' 10 0 := by
    have h2 := fun (e : eqI F A 10 (170 * 0)) => eqI.fr (F' := F') (A' := A') e (fo _ _ rfl) (fo _ _ rfl) (fo _ _ rfl) (fo _ _ rfl) (fa _ (by decide) (by decide) (by decide) (by decide) (by decide)) (fa _ (by decide) (by decide) (by decide) (by decide) (by decide)) (fa _ (by decide) (by decide) (by decide) (by decide) (by decide)) (fa _ (by decide) (by decide) (by decide) (by decide) (by decide)) (fa _ (by decide) (by decide) (by decide) (by decide) (by decide)) (fa _ (by decide) (by decide) (by decide) (by decide) (by decide)) (fa _ (by decide) (by decide) (by decide) (by decide) (by decide))
    have hi := h.i0
    unfold imK at *
    rw [fo 10 3 rfl, fa 100 (by decide) (by decide) (by decide) (by decide) (by decide)]
    exact ⟨hi.1, hi.2.imp id (fun e => ⟨e.1, h2 e.2⟩)⟩
  have im1 : imK F' A' 19 1 := by
    have h2 := fun (e : eqI F A 19 (170 * 1)) => eqI.fr (F' := F') (A' := A') e (fo _ _ rfl) (fo _ _ rfl) (fo _ _ rfl) (fo _ _ rfl) (fa _ (by decide) (by decide) (by decide) (by decide) (by decide)) (fa _ (by decide) (by decide) (by decide) (by decide) (by decide)) (fa _ (by decide) (by decide) (by decide) (by decide) (by decide)) (fa _ (by decide) (by decide) (by decide) (by decide) (by decide)) (fa _ (by decide) (by decide) (by decide) (by decide) (by decide)) (fa _ (by decide) (by decide) (by decide) (by decide) (by decide)) (fa _ (by decide) (by decide) (by decide) (by decide) (by decide))
    have hi := h.i1
    unfold imK at *
    rw [fo 19 3 rfl, fa 100 (by decide) (by decide) (by decide) (by decide) (by decide)]
    exact ⟨hi.1, hi.2.imp id (fun e => ⟨e.1, h2 e.2⟩)⟩
  have sr : srK F' A' := by
    rcases alt with ⟨a1, a2, a3⟩ | ⟨a1, a2, a3, a4⟩
    · have g2 : F' 2 0 = F 2 0 := by omega
      have g21 : F' 2 1 = F 2 1 := ff 2 1 (by decide) (by decide) (by decide) (by decide) (by decide)
      have g6 : F' 6 0 = F 6 0 := ff 6 0 (by decide) (by decide) (by decide) (by decide) (by decide)
      have g11 : F' 0 11 = F 0 11 := ff 0 11 (by decide) (by decide) (by decide) (by decide) (by decide)
      have ql : ∀ s, loS F' A' s = loS F A s := fun s => by
        have e1 : ∀ l, tsL F' A' l = tsL F A l := fun l => by
          unfold tsL
          rw [g2, g21, g6, g11, fa 4 (by decide) (by decide) (by decide) (by decide) (by decide), fa 7 (by decide) (by decide) (by decide) (by decide) (by decide), fa 8 (by decide) (by decide) (by decide) (by decide) (by decide), fa 9 (by decide) (by decide) (by decide) (by decide) (by decide)]
        have e2 : ∀ l, spL F' A' l = spL F A l := fun l => by
          unfold spL
          rw [e1, g2, g6]
        have e3 : loT F' A' s = loT F A s := by
          funext b l
          unfold loT
          rw [e2]
        unfold loS
        rw [e3, g2]
      have hr := h.sr
      unfold srK at *
      rw [ql, a2, ff 52 1 (by decide) (by decide) (by decide) (by decide) (by decide), fa 53 (by decide) (by decide) (by decide) (by decide) (by decide), g2]
      exact hr
    · exact Or.inl a2
  refine Iv.mk c.ok s ?_ ?_ ?_ htx htxb hfa ?_ ?_ ?_ ?_ ?_ ?_ im0 im1 c.fl ?_ sr c.b ?_ m.ok.2.2.2.2.2.2.1
  · rw [fo 66 10 rfl, fo 0 11 rfl]; exact h.giv
  · rw [fo 66 11 rfl, fo 66 12 rfl, fo 0 12 rfl, fo 0 13 rfl]; exact h.ear
  · rw [fo 66 13 rfl, fo 66 14 rfl, fo 0 14 rfl, fo 0 15 rfl]; exact h.post
  · rw [fo 66 49 rfl, fo 59 0 rfl]; exact h.hn
  · rw [fo 59 0 rfl, fa 93 (by decide) (by decide) (by decide) (by decide) (by decide), fa 60 (by decide) (by decide) (by decide) (by decide) (by decide)]; exact h.hd
  · rw [fo 66 50 rfl, fo 59 1 rfl]; exact h.cn
  · rw [fo 59 1 rfl, fa 94 (by decide) (by decide) (by decide) (by decide) (by decide), fa 61 (by decide) (by decide) (by decide) (by decide) (by decide)]; exact h.ct
  · rw [fo 66 55 rfl, fo 63 0 rfl]; exact h.fn
  · rw [fo 63 0 rfl, fa 97 (by decide) (by decide) (by decide) (by decide) (by decide), fa 98 (by decide) (by decide) (by decide) (by decide) (by decide), fa 64 (by decide) (by decide) (by decide) (by decide) (by decide), fa 65 (by decide) (by decide) (by decide) (by decide) (by decide)]; exact h.fi
  · rcases m.ts with e | ⟨q1, q2⟩
    · exact Or.inl e
    · refine Or.inr ⟨q1, ?_⟩
      rw [Iv.mc c.ok s, s.n, s.T] at q2
      exact q2
  · rw [fa 48 (by decide) (by decide) (by decide) (by decide) (by decide), fa 49 (by decide) (by decide) (by decide) (by decide) (by decide)]; exact h.b2
theorem kG_c (f21 : F' 2 1 = F 2 1) (f6 : F' 6 0 = F 6 0) (f11 : F' 0 11 = F 0 11) (a : ∀ o, o ≠ 5 → (o < 43 ∨ 46 < o) → A' o = A o) : cGn F' A' = cGn F A ∧ cWs F' A' = cWs F A := by
  constructor
  · funext n w
    unfold cGn
    rw [f21, f6, f11, a 3 (by decide) (by decide), a 4 (by decide) (by decide), a 7 (by decide) (by decide), a 8 (by decide) (by decide), a 9 (by decide) (by decide)]
  · funext n w
    unfold cWs
    rw [f21, f6, f11, a 3 (by decide) (by decide), a 4 (by decide) (by decide), a 7 (by decide) (by decide), a 8 (by decide) (by decide), a 9 (by decide) (by decide)]
theorem mG_c (f : ∀ k, k ≠ 40 → k ≠ 0 → F' 66 k = F 66 k) (a : ∀ o, 66 ≤ o → o ≠ 69 → o ≠ 84 → o ≠ 85 → A' o = A o) : mGn F' A' = mGn F A ∧ mWr F' A' = mWr F A := by
  constructor
  · funext n w
    unfold mGn
    rw [f 1 (by decide) (by decide), f 5 (by decide) (by decide), f 10 (by decide) (by decide), a 67 (by decide) (by decide) (by decide) (by decide), a 68 (by decide) (by decide) (by decide) (by decide), a 70 (by decide) (by decide) (by decide) (by decide), a 71 (by decide) (by decide) (by decide) (by decide), a 72 (by decide) (by decide) (by decide) (by decide)]
  · funext n w
    unfold mWr
    rw [f 1 (by decide) (by decide), f 5 (by decide) (by decide), f 10 (by decide) (by decide), a 67 (by decide) (by decide) (by decide) (by decide), a 68 (by decide) (by decide) (by decide) (by decide), a 70 (by decide) (by decide) (by decide) (by decide), a 71 (by decide) (by decide) (by decide) (by decide), a 72 (by decide) (by decide) (by decide) (by decide)]
/-- both wear alike -/
theorem wr_cm (h : Iv F A) {n : Nat} (en : F 2 0 = n) (hn : 1 ≤ n) : ∀ w w', eqO n w w' → cGn F A n w = mGn F A n w' ∧ eqO n (cWs F A n w) (mWr F A n w') := by
  intro w w' e
  have hs := h.s
  have hT : 1 ≤ F 6 0 ∧ F 6 0 ≤ 60 := h.ok.T
  unfold cGn mGn cWs mWr
  rw [hs.len, hs.T, h.giv.1, hs.lw 0 (by omega) (by omega), hs.lw 1 (by omega) (by omega), hs.lw 2 (by omega) (by omega), hs.lw 4 (by omega) (by omega)]
  exact wst_c hn (fun i a b => (hs.str i a (by omega)).symm) (fun i a b => (hs.stf i a (by omega)).symm) (fun t a b => ⟨(hs.wx t (by omega) (by omega)).symm, (hs.wy t (by omega) (by omega)).symm⟩) e
theorem pr_crackOn (h : Iv F A) : Pr mX10_crackOn mX11_crackOn [] F A := by
  obtain ⟨n, T, en, eT, hn, hT⟩ := iv_nat h
  obtain ⟨F1, A1, hC, c1, e2, e5, ff, fa, g0, g1⟩ := c_really h.C en hn
  have m1 : Mv F1 A1 := h.M.fr (fun k => ff 66 k (by omega) (by omega) (by omega) (by omega)) (fun o a => fa o (by omega) (by omega))
  have en66 : F1 66 0 = n := by rw [ff 66 0 (by omega) (by omega) (by omega) (by omega), h.s.n]; exact en
  obtain ⟨F2, A2, hM, m2, e66, e69, ff2, fa2, g2⟩ := m_wear m1 en66
  have kk := mG_c (F := F) (A := A) (F' := F1) (A' := A1) (fun k _ _ => ff 66 k (by omega) (by omega) (by omega) (by omega)) (fun o a _ _ _ => fa o (by omega) (by omega))
  have a69 : A1 69 = A 69 := fa 69 (by decide) (by decide)
  rw [kk.1, a69] at hM e66 g2
  rw [kk.2, a69] at e69
  have hww : eqO (n : Int) (A 5) (A 69) := fun i a b => (h.s.wr i a (by omega)).symm
  have cm := wr_cm h en hn.1 (A 5) (A 69) hww
  rw [← cm.1] at hM e66 g2
  have hgb := lwV_b (W := cWs F A n (A 5)) (L := A 9 4) (n := n) (n - 1) 1 (by omega)
  have hg : 0 ≤ cGn F A n (A 5) ∧ cGn F A n (A 5) ≤ ((n - 1 : Nat) : Int) := hgb
  refine ⟨vi (cGn F A n (A 5)), F1, A1, F2, A2, fun G => ?_, fun G => ?_, ?_, ty_v⟩
  · refine L_ent [some (.ref 0)] rfl ?_
    refine L_aload_n eX10_crackOn_0 rfl ?_
    refine C_v1 (hC G) v_X10_291 eX10_crackOn_1 rfl rfl ?_
    exact V_ireturn eX10_crackOn_4 ⟨rfl, rfl⟩
  · refine L_ent [some (.ref 66)] rfl ?_
    refine L_aload_n eX11_crackOn_0 rfl ?_
    refine C_v1 (hM G) v_X11_409 eX11_crackOn_1 rfl rfl ?_
    exact V_ireturn eX11_crackOn_4 ⟨rfl, rfl⟩
  · have f2 : ∀ o k, o ≠ 66 → F2 o k = F1 o k := fun o k a => ff2 o k (by omega)
    refine iv_wear h (n' := n - cGn F A n (A 5)) (c1.fr (fun o k a => f2 o k (by omega)) (fun o a => fa2 o (by omega) (by omega) (by omega))) m2 (by rw [f2 2 0 (by decide)]; exact e2) e66 ?_ (fun o k a b c d e => ?_) (fun o a b c d e => ?_) ?_
    · rw [e69, fa2 5 (by decide) (by decide) (by decide), e5]
      exact fun i a b => (cm.2 i a (by omega)).symm
    · rw [ff2 o k e]; exact ff o k a b c d
    · rw [fa2 o c d e]; exact fa o a b
    · rw [f2 52 0 (by decide), f2 0 17 (by decide)]
      by_cases c : cGn F A n (A 5) = 0
      · have := g0 c
        left
        omega
      · have p1 := g1 (by omega)
        have p2 := g2 (by omega)
        right
        omega
end Q86

