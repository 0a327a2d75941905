theorem gad_lt {G : gT} {i : Nat} (h : i < 1000) : gad G i = gB G + i := if_pos h
theorem wls_D {G : gT} {w : wT} (h : w.1 ≤ 1000) : va_D (gA G) (wls G w) := by
  refine ⟨fun i j x y hx hy e => ?_, fun k x hx => ?_⟩
  · obtain ⟨h1, rfl⟩ := wls_at hx
    obtain ⟨h2, rfl⟩ := wls_at hy
    have e : gad G i = gad G j := e
    rw [gad_lt (by omega), gad_lt (by omega)] at e
    omega
  · obtain ⟨h1, rfl⟩ := wls_at hx
    show gB G ≤ gad G k
    rw [gad_lt (by omega)]
    omega
theorem Hp.put {G : gT} {w : wT} {H H1 : Heap} {o : Nat} {x : aE} (h : Hp G w H) (ho : o < w.1) (he : va_at (gD G) vwCl (gad G o, wre G x) H1) (z : H1.size = H.size) (oq : ∀ q : Nat, q ≠ gad G o → H1[q]? = H[q]?) : Hp G (put w o x) H1 := by
  refine ⟨?_, by rw [z]; exact h.2.1, h.2.2⟩
  have := h.1.set (wls_D h.2.2) (wls_get ho) he oq
  rwa [wls_put] at this
theorem Hp.psh {G : gT} {w : wT} {H H1 : Heap} {x : aE} (h : Hp G w H) (hn : w.1 < 1000) (he : va_at (gD G) vwCl (gad G w.1, wre G x) H1) (z : H1.size = H.size + 1) (oq : ∀ q : Nat, q < H.size → H1[q]? = H[q]?) : Hp G (psh w x) H1 := by
  refine ⟨?_, by rw [z, h.2.1]; show gB G + w.1 + 1 = gB G + (w.1 + 1); omega, by show w.1 + 1 ≤ 1000; omega⟩
  rw [← wls_psh]
  refine (h.1.kept (fun k x hx => oq x.1 ((h.1 k x hx).lt))).app (fun k x hx => ?_)
  have hz : k < 1 := (List.getElem?_eq_some_iff.mp hx).1
  rw [show k = 0 by omega] at hx
  cases hx
  exact he
/-- the class of this number, its fields, what the tables say of them -/
def cOk (ci : Nat) (C : String) (T : u_T) (N : Nat) (ty : Nat → FieldType) : Prop := vwCl[ci]? = some (C, T, N) ∧ (∀ w ∈ u_ws C T N, w ∈ aW) ∧ (∀ k, k < N → parseFieldDescriptor (T k).2.2.1 = some (ty k)) ∧ (∀ a, a < N → ∀ b, b < N → a ≠ b → (T a).2.1 ≠ (T b).2.1) ∧ Cond.instantiable C N ∈ aW ∧ Cond.initialized C ∈ aW ∧ nF ci = N ∧ ∀ k, k < N → (T k).1 = C
/-- this entry of this class's pool is field k of class ci -/
def fLk (own : String) (i ci k : Nat) (ty0 : FieldType) (fin : Bool) : Prop := ∃ C T N ty, cOk ci C T N ty ∧ k < N ∧ Cond.fieldLink own i C (T k).2.1 (T k).2.2.1 ∈ aW ∧ ty k = ty0 ∧ (T k).2.2.2 = fin ∧ (fin = true → own = C)
theorem nfs_get {G : gT} {f : Nat → Value} {N k : Nat} (h : k < N) : ((List.range N).map (fun k => gre G (f k)))[k]? = some (gre G (f k)) := by
  simp [List.getElem?_map, List.getElem?_range, h]
theorem nfs_set {G : gT} {f : Nat → Value} {N k : Nat} {v : Value} : ((List.range N).map (fun j => gre G (f j))).set k (gre G v) = (List.range N).map (fun j => gre G (up f k v j)) := by
  apply List.ext_getElem?
  intro j
  rw [List.getElem?_set]
  by_cases e : k = j
  · subst e
    by_cases h : k < N
    · simp [h, up]
    · simp [h]
  · by_cases h : j < N
    · simp [e, h, up, Ne.symm e]
    · simp [e, h]
section R7
variable {G : gT} {M : mT} {Q : Option Value → wT → Prop} {kc ks pc q t : Nat} {lc lc' : List (Option Value)} {st : List Value} {w : wT}
theorem V_getf {o ci k i : Nat} {f : Nat → Value} {ty : FieldType} {fin : Bool} (hL : fLk (mOwn M) i ci k ty fin) (ho : o < w.1) (hw : w.2 o = .inr (ci, f)) (d : dc M pc (.getfield i) 3 q) (kk : V G M Q kc ks q lc (f k :: st) w) : V G M Q kc ks pc lc (.ref o :: st) w := by
  obtain ⟨d, rfl⟩ := d
  obtain ⟨C, T, N, ty', ⟨h1, h2, h3, h4, h5, h6, h7, h8⟩, h9, h10, h11, h12⟩ := hL
  intro p l e s m args below meth c H locs ls Cc hP hS hl
  have he : (wls G w)[o]? = some (gad G o, .inr (ci, (List.range N).map (fun k => gre G (f k)))) := by rw [wls_get ho, hw, ← h7]; rfl
  exact va_get (C := C) (T := T) (N := N) Cc.1 Cc.2.1 Cc.2.2.2.2.2.1 h2 Cc.2.2.2.2.1 Cc.2.2.2.2.2.2.2.2.1 hP.1 o he h1 k h9 (Cc.2.2.2.2.2.1 _ h10) (fun x hx => by rw [h8 k h9] at hx; exact hx) (nfs_get h9) d (kk p l e s m args below meth c H locs ls Cc hP hS hl)
theorem V_putf {o ci k i : Nat} {f : Nat → Value} {ty : FieldType} {v : Value} (hL : fLk (mOwn M) i ci k ty false) (ho : o < w.1) (hw : w.2 o = .inr (ci, f)) (hn : narrow ty (gre G v) = gre G v) (hfit : fits ty (gre G v) = true) (d : dc M pc (.putfield i) 3 q) (kk : V G M Q kc ks q lc st (put w o (.inr (ci, up f k v)))) : V G M Q kc ks pc lc (v :: .ref o :: st) w := by
  obtain ⟨d, rfl⟩ := d
  obtain ⟨C, T, N, ty', ⟨hc, hin, hty, hnm, h5, h6, h7, h8⟩, hk, h10, h11, hfin, -⟩ := hL
  intro p l e s m args below meth c H locs ls Cc hP hS hl
  have he : (wls G w)[o]? = some (gad G o, .inr (ci, (List.range N).map (fun k => gre G (f k)))) := by rw [wls_get ho, hw, ← h7]; rfl
  have hK := Cc.2.2.2.2.2.2.2.2.1
  have hts := Cc.2.2.2.2.2.1
  have hown := Cc.2.2.2.2.1
  have hD := wls_D (G := G) hP.2.2
  have hap := va_apart (own := mOwn M) hts hin ty' hty hnm hK hc
  obtain ⟨r, h1, cell, q1, q2, q3, q4⟩ := hP.1 o _ he
  have hr : r = (C, T, N) := Option.some.inj (h1.symm.trans hc)
  subst hr
  obtain ⟨hSl, hfc, kC, hkC, hkind⟩ := hK.1 ci _ hc
  obtain ⟨cf, kf, fi, fd, hi, hsl⟩ := hSl k hk
  have hlay := hts _ (hin _ (u_in_lay hk))
  unfold u_lay at hlay
  rw [if_neg (by rw [hfin]; decide)] at hlay
  have hst := (u_facts hfc hkC (u_lays hts hin hk) hi).1
  have h66 := u_store hfc hkC hkind hlay hi (by rw [hty k hk, h11]) hn hfit
  refine W.putK Cc.1 Cc.2.1 (f := fd) ⟨hown, hts _ h10, ⟨_, _, _, by rw [h8 k hk] at hi; exact hi⟩, hst⟩ (by rw [q2]; exact h66) q1 q3 (by rw [hsl]; exact k2_hasslot (q4 k hk)) rfl rfl d fun H' e1 e2 e3 => ?_
  rw [hsl] at e1 ⊢
  refine kk p l e s m args below meth c H' _ ls Cc (hP.put ho ?_ e2 e3) (hS.put e2 e3 (hD.2 o _ he)) hl
  refine ⟨_, hc, t_OB.to (V := updV (vp_V ((List.range N).map (fun k => gre G (f k)))) k (gre G v)) ⟨_, e1, q2, q3, t_set q4 hap hk (gre G v)⟩ (fun j _ => ?_)⟩
  rw [vp_updV_set (by simpa using hk) (gre G v) j, nfs_set]
  show _ = vp_V (List.map _ (List.range (nF ci))) j
  rw [h7]
/-- a final field, in the constructor of its class -/
theorem V_putF {o ci k i : Nat} {f : Nat → Value} {ty : FieldType} {v : Value} (hL : fLk (mOwn M) i ci k ty true) (hmi : (mY M).name = "<init>") (ho : o < w.1) (hw : w.2 o = .inr (ci, f)) (hn : narrow ty (gre G v) = gre G v) (hfit : fits ty (gre G v) = true) (d : dc M pc (.putfield i) 3 q) (kk : V G M Q kc ks q lc st (put w o (.inr (ci, up f k v)))) : V G M Q kc ks pc lc (v :: .ref o :: st) w := by
  obtain ⟨d, rfl⟩ := d
  obtain ⟨C, T, N, ty', ⟨hc, hin, hty, hnm, h5, h6, h7, h8⟩, hk, h10, h11, hfin, hoC⟩ := hL
  have hoC := hoC rfl
  intro p l e s m args below meth c H locs ls Cc hP hS hl
  have he : (wls G w)[o]? = some (gad G o, .inr (ci, (List.range N).map (fun k => gre G (f k)))) := by rw [wls_get ho, hw, ← h7]; rfl
  have hK := Cc.2.2.2.2.2.2.2.2.1
  have hts := Cc.2.2.2.2.2.1
  have hown := Cc.2.2.2.2.1
  have hD := wls_D (G := G) hP.2.2
  have hap := va_apart (own := mOwn M) hts hin ty' hty hnm hK hc
  obtain ⟨r, h1, cell, q1, q2, q3, q4⟩ := hP.1 o _ he
  have hr : r = (C, T, N) := Option.some.inj (h1.symm.trans hc)
  subst hr
  obtain ⟨hSl, hfc, kC, hkC, hkind⟩ := hK.1 ci _ hc
  obtain ⟨cf, kf, fi, fd, hi, hsl⟩ := hSl k hk
  have hlay := hts _ (hin _ (u_in_lay hk))
  unfold u_lay at hlay
  rw [if_pos hfin] at hlay
  have hst := (u_facts hfc hkC (u_lays hts hin hk) hi).1
  have hcf : m.cls = cf := by
    obtain ⟨_, _, c', _, _, _, -, -, hf', -, -, -, hown2, -⟩ := Cond.laysFinal_spec hlay
    have e1 : c' = cf := by have := hi.symm.trans hf'; simp at this; exact this.1.symm
    rw [h8 k hk, ← hoC] at hown2
    rw [← e1]; exact Option.some.inj (hown.symm.trans hown2)
  have h66 := u_fits hfc hkC hkind (Or.inr hlay) hi (by rw [hty k hk, h11]) hn hfit
  refine W.putFinK Cc.1 Cc.2.1 hown (hts _ h10) (by rw [h8 k hk] at hi; exact hi) hst hcf (Cc.2.2.2.2.2.2.2.1.trans hmi) (by rw [q2]; exact h66) q1 q3 (by rw [hsl]; exact k2_hasslot (q4 k hk)) rfl rfl d fun H' e1 e2 e3 => ?_
  rw [hsl] at e1 ⊢
  refine kk p l e s m args below meth c H' _ ls Cc (hP.put ho ?_ e2 e3) (hS.put e2 e3 (hD.2 o _ he)) hl
  refine ⟨_, hc, t_OB.to (V := updV (vp_V ((List.range N).map (fun k => gre G (f k)))) k (gre G v)) ⟨_, e1, q2, q3, t_set q4 hap hk (gre G v)⟩ (fun j _ => ?_)⟩
  rw [vp_updV_set (by simpa using hk) (gre G v) j, nfs_set]
  show _ = vp_V (List.map _ (List.range (nF ci))) j
  rw [h7]
theorem up_i32 {f : Nat → Int} {i : Int} {x : Int} (hi : 0 ≤ i ∧ i < 2147483648) : upd (fun k => Int32.ofInt (f k)) (Int32.ofInt i).toNatClampNeg (Int32.ofInt x) = fun k => Int32.ofInt (up f i.toNat x k) := by
  funext k
  rw [i32_clamp hi]
  simp only [upd, up]
  split <;> rfl
theorem V_iaload {o n : Nat} {f : Nat → Int} {i : Int} (ho : o < w.1) (hw : w.2 o = .inl (0, n, f)) (d : dc M pc .iaload 1 q) (kk : V G M Q kc ks q lc (vi (f i.toNat) :: st) w) (hi : 0 ≤ i ∧ i < n := by omega) (hn : n < 2147483648 := by omega) : V G M Q kc ks pc lc (vi i :: .ref o :: st) w := by
  obtain ⟨d, rfl⟩ := d
  intro p l e s m args below meth c H locs ls Cc hP hS hl
  refine va_iald Cc.1 Cc.2.1 Cc.2.2.2.2.2.2.2.2.1 hP.1 o 0 (cA := gtc G 0) (n := n) (f := fun k => Int32.ofInt (f k)) (by rw [wls_get ho, hw]; rfl) rfl (i32_in hi hn) d ?_
  rw [i32_clamp (by omega)]
  exact kk p l e s m args below meth c H locs ls Cc hP hS hl
theorem V_laload {o n : Nat} {f : Nat → Int} {i : Int} (ho : o < w.1) (hw : w.2 o = .inl (1, n, f)) (d : dc M pc .laload 1 q) (kk : V G M Q kc ks q lc (vl (f i.toNat) :: st) w) (hi : 0 ≤ i ∧ i < n := by omega) (hn : n < 2147483648 := by omega) : V G M Q kc ks pc lc (vi i :: .ref o :: st) w := by
  obtain ⟨d, rfl⟩ := d
  intro p l e s m args below meth c H locs ls Cc hP hS hl
  refine va_lald Cc.1 Cc.2.1 Cc.2.2.2.2.2.2.2.2.1 hP.1 o 1 (cA := gtc G 1) (n := n) (f := fun k => Int64.ofInt (f k)) (by rw [wls_get ho, hw]; rfl) rfl (i32_in hi hn) d ?_
  rw [i32_clamp (by omega)]
  exact kk p l e s m args below meth c H locs ls Cc hP hS hl
theorem V_zaload {o n : Nat} {f : Nat → Int} {i : Int} (ho : o < w.1) (hw : w.2 o = .inl (2, n, f)) (d : dc M pc .baload 1 q) (kk : V G M Q kc ks q lc (vi (f i.toNat) :: st) w) (hi : 0 ≤ i ∧ i < n := by omega) (hn : n < 2147483648 := by omega) : V G M Q kc ks pc lc (vi i :: .ref o :: st) w := by
  obtain ⟨d, rfl⟩ := d
  intro p l e s m args below meth c H locs ls Cc hP hS hl
  refine va_zald Cc.1 Cc.2.1 Cc.2.2.2.2.2.2.2.2.1 hP.1 o 2 (cA := gtc G 2) (n := n) (f := fun k => Int32.ofInt (f k)) (by rw [wls_get ho, hw]; rfl) rfl (i32_in hi hn) d ?_
  rw [i32_clamp (by omega)]
  exact kk p l e s m args below meth c H locs ls Cc hP hS hl
theorem V_iastore {o n : Nat} {f : Nat → Int} {i x : Int} (ho : o < w.1) (hw : w.2 o = .inl (0, n, f)) (d : dc M pc .iastore 1 q) (kk : V G M Q kc ks q lc st (put w o (.inl (0, n, up f i.toNat x)))) (hi : 0 ≤ i ∧ i < n := by omega) (hn : n < 2147483648 := by omega) : V G M Q kc ks pc lc (vi x :: vi i :: .ref o :: st) w := by
  obtain ⟨d, rfl⟩ := d
  intro p l e s m args below meth c H locs ls Cc hP hS hl
  have hD := wls_D (G := G) hP.2.2
  have ha : (wls G w)[o]? = some (gad G o, .inl (gtc G 0, n, .inl (fun k => Int32.ofInt (f k)))) := by rw [wls_get ho, hw]; rfl
  have hK := Cc.2.2.2.2.2.2.2.2.1
  refine W.iast Cc.1 Cc.2.1 (hP.1 o _ ha) ((hK.2 0 _ rfl).1 n (fun j => .int (Int32.ofInt (f j)))) (fun q => by cases q) (by show ¬ (Int32.ofInt i < 0 ∨ (arrV _ _ _).slots.size ≤ _); rw [arrV_size]; exact i32_in hi hn) rfl rfl d fun H1 e1 z oq => ?_
  refine kk p l e s m args below meth c H1 _ ls Cc (hP.put ho ?_ z oq) (hS.put z oq (hD.2 o _ ha)) hl
  show H1[gad G o]? = some (vp_cell _ _)
  rw [e1]
  show some (((vp_cell (gtc G 0) (n, .inl (fun k => Int32.ofInt (f k)))).setSlot _ _)) = some (vp_cell (gtc G 0) (n, .inl (fun k => Int32.ofInt (up f i.toNat x k))))
  rw [vp_cell_i, vp_cell_i, arrV_store]
  congr 2
  funext j
  rw [i32_clamp (by omega)]
  by_cases hq : j = i.toNat
  · subst hq
    simp [updV, up]
  · simp [updV, up, hq]
theorem V_lastore {o n : Nat} {f : Nat → Int} {i x : Int} (ho : o < w.1) (hw : w.2 o = .inl (1, n, f)) (d : dc M pc .lastore 1 q) (kk : V G M Q kc ks q lc st (put w o (.inl (1, n, up f i.toNat x)))) (hi : 0 ≤ i ∧ i < n := by omega) (hn : n < 2147483648 := by omega) : V G M Q kc ks pc lc (vl x :: vi i :: .ref o :: st) w := by
  obtain ⟨d, rfl⟩ := d
  intro p l e s m args below meth c H locs ls Cc hP hS hl
  have hD := wls_D (G := G) hP.2.2
  have ha : (wls G w)[o]? = some (gad G o, .inl (gtc G 1, n, .inr (.inl (fun k => Int64.ofInt (f k))))) := by rw [wls_get ho, hw]; rfl
  have hK := Cc.2.2.2.2.2.2.2.2.1
  refine W.last Cc.1 Cc.2.1 (hP.1 o _ ha) ((hK.2 1 _ rfl).1 n (fun j => .long (Int64.ofInt (f j)))) (fun q => by cases q) (by show ¬ (Int32.ofInt i < 0 ∨ (arrV _ _ _).slots.size ≤ _); rw [arrV_size]; exact i32_in hi hn) rfl rfl d fun H1 e1 z oq => ?_
  refine kk p l e s m args below meth c H1 _ ls Cc (hP.put ho ?_ z oq) (hS.put z oq (hD.2 o _ ha)) hl
  show H1[gad G o]? = some (vp_cell _ _)
  rw [e1]
  show some (((vp_cell (gtc G 1) (n, .inr (.inl (fun k => Int64.ofInt (f k))))).setSlot _ _)) = some (vp_cell (gtc G 1) (n, .inr (.inl (fun k => Int64.ofInt (up f i.toNat x k)))))
  rw [vp_cell_l, vp_cell_l, arrV_store]
  congr 2
  funext j
  rw [i32_clamp (by omega)]
  by_cases hq : j = i.toNat
  · subst hq
    simp [updV, up]
  · simp [updV, up, hq]
theorem nar_z {x : Int} (h : x = 0 ∨ x = 1) : narrow .boolean (.int (Int32.ofInt x)) = .int (Int32.ofInt x) := by
  rcases h with rfl | rfl <;> rfl
theorem V_zastore {o n : Nat} {f : Nat → Int} {i x : Int} (hx : x = 0 ∨ x = 1) (ho : o < w.1) (hw : w.2 o = .inl (2, n, f)) (d : dc M pc .bastore 1 q) (kk : V G M Q kc ks q lc st (put w o (.inl (2, n, up f i.toNat x)))) (hi : 0 ≤ i ∧ i < n := by omega) (hn : n < 2147483648 := by omega) : V G M Q kc ks pc lc (vi x :: vi i :: .ref o :: st) w := by
  obtain ⟨d, rfl⟩ := d
  intro p l e s m args below meth c H locs ls Cc hP hS hl
  have hD := wls_D (G := G) hP.2.2
  have ha : (wls G w)[o]? = some (gad G o, .inl (gtc G 2, n, .inl (fun k => Int32.ofInt (f k)))) := by rw [wls_get ho, hw]; rfl
  have hK := Cc.2.2.2.2.2.2.2.2.1
  refine W.zast Cc.1 Cc.2.1 (hP.1 o _ ha) ((hK.2 2 _ rfl).1 n (fun j => .int (Int32.ofInt (f j)))) (fun q => by cases q) (by show ¬ (Int32.ofInt i < 0 ∨ (arrV _ _ _).slots.size ≤ _); rw [arrV_size]; exact i32_in hi hn) rfl rfl d fun H1 e1 z oq => ?_
  refine kk p l e s m args below meth c H1 _ ls Cc (hP.put ho ?_ z oq) (hS.put z oq (hD.2 o _ ha)) hl
  show H1[gad G o]? = some (vp_cell _ _)
  rw [e1, nar_z hx]
  show some (((vp_cell (gtc G 2) (n, .inl (fun k => Int32.ofInt (f k)))).setSlot _ _)) = some (vp_cell (gtc G 2) (n, .inl (fun k => Int32.ofInt (up f i.toNat x k))))
  rw [vp_cell_i, vp_cell_i, arrV_store]
  congr 2
  funext j
  rw [i32_clamp (by omega)]
  by_cases hq : j = i.toNat
  · subst hq
    simp [updV, up]
  · simp [updV, up, hq]
/-- what is read only -/
theorem V_ialoadS {j : Nat} {i : Int} (hj : j < 6) (hi : 0 ≤ i ∧ i < (stV j).length) (d : dc M pc .iaload 1 q) (kk : V G M Q kc ks q lc (vi ((stV j).getD i.toNat 0) :: st) w) : V G M Q kc ks pc lc (vi i :: .ref (1000 + j) :: st) w := by
  obtain ⟨d, rfl⟩ := d
  intro p l e s m args below meth c H locs ls Cc hP hS hl
  have hlen : (stV j).length < 10 := by
    rcases (show j = 0 ∨ j = 1 ∨ j = 2 ∨ j = 3 ∨ j = 4 ∨ j = 5 by omega) with rfl | rfl | rfl | rfl | rfl | rfl <;> decide
  have hR := (Cc.2.2.2.2.2.2.2.2.2.2.1.1 j hj).2
  have e1 : gre G (.ref (1000 + j)) = .ref (gsp G (1000 + j)) := by
    show Value.ref (gad G (1000 + j)) = _
    rw [gad, if_neg (by omega)]
  show W _ _ _ _ _ _ _ _ _ _ _ _ _ _ _ (F0 m pc ls (gre G (vi i) :: gre G (.ref (1000 + j)) :: st.map (gre G)))
  rw [e1]
  refine va_ti Cc.1 Cc.2.1 hR hS (i32_in hi (by omega)) rfl d ?_
  show W _ _ _ _ _ _ _ _ _ _ _ _ _ _ _ (F0 m (pc + 1) ls (.int (Int32.ofInt ((stV j).getD (Int32.ofInt i).toNatClampNeg 0)) :: st.map (gre G)))
  rw [i32_clamp (by omega)]
  exact kk p l e s m args below meth c H locs ls Cc hP hS hl
theorem V_ialoadX {i : Int} (hi : 0 ≤ i ∧ i < gL G) (hL : gL G ≤ 3072) (d : dc M pc .iaload 1 q) (kk : V G M Q kc ks q lc (vi (gX G i.toNat) :: st) w) : V G M Q kc ks pc lc (vi i :: .ref 1100 :: st) w := by
  obtain ⟨d, rfl⟩ := d
  intro p l e s m args below meth c H locs ls Cc hP hS hl
  have hR := Cc.2.2.2.2.2.2.2.2.2.2.1.2.1
  refine va_ti Cc.1 Cc.2.1 hR hS (i32_in hi (by omega)) rfl d ?_
  show W _ _ _ _ _ _ _ _ _ _ _ _ _ _ _ (F0 m (pc + 1) ls (.int (Int32.ofInt (gX G (Int32.ofInt i).toNatClampNeg)) :: st.map (gre G)))
  rw [i32_clamp (by omega)]
  exact kk p l e s m args below meth c H locs ls Cc hP hS hl
theorem V_lenX (d : dc M pc .arraylength 1 q) (kk : V G M Q kc ks q lc (vi (gL G) :: st) w) : V G M Q kc ks pc lc (.ref 1100 :: st) w := by
  obtain ⟨d, rfl⟩ := d
  intro p l e s m args below meth c H locs ls Cc hP hS hl
  have hR := Cc.2.2.2.2.2.2.2.2.2.2.1.2.1
  exact va_tlen Cc.1 Cc.2.1 hR hS Int32.ofInt_eq_ofNat.symm d (kk p l e s m args below meth c H locs ls Cc hP hS hl)
theorem V_lenS {j : Nat} (hj : j < 6) (d : dc M pc .arraylength 1 q) (kk : V G M Q kc ks q lc (vi ((stV j).length) :: st) w) : V G M Q kc ks pc lc (.ref (1000 + j) :: st) w := by
  obtain ⟨d, rfl⟩ := d
  intro p l e s m args below meth c H locs ls Cc hP hS hl
  have hR := (Cc.2.2.2.2.2.2.2.2.2.2.1.1 j hj).2
  have e1 : gre G (.ref (1000 + j)) = .ref (gsp G (1000 + j)) := by
    show Value.ref (gad G (1000 + j)) = _
    rw [gad, if_neg (by omega)]
  show W _ _ _ _ _ _ _ _ _ _ _ _ _ _ _ (F0 m pc ls (gre G (.ref (1000 + j)) :: st.map (gre G)))
  rw [e1]
  exact va_tlen Cc.1 Cc.2.1 hR hS Int32.ofInt_eq_ofNat.symm d (kk p l e s m args below meth c H locs ls Cc hP hS hl)
theorem V_gets {j i : Nat} (hj : j < 6) (hc : Cond.fieldLink (mOwn M) i RX10 (stN j) "[I" ∈ aW) (d : dc M pc (.getstatic i) 3 q) (kk : V G M Q kc ks q lc (.ref (1000 + j) :: st) w) : V G M Q kc ks pc lc st w := by
  obtain ⟨d, rfl⟩ := d
  intro p l e s m args below meth c H locs ls Cc hP hS hl
  have hR := (Cc.2.2.2.2.2.2.2.2.2.2.1.1 j hj).1
  refine va_gets Cc.1 Cc.2.1 hR hS Cc.2.2.2.2.1 (Cc.2.2.2.2.2.1 _ hc) (fun _ h => h) d ?_
  have := kk p l e s m args below meth c H locs ls Cc hP hS hl
  rwa [List.map_cons, gre_ref, gad, if_neg (by omega)] at this
theorem V_getsN {j i : Nat} (hj : j < 6) (hc : Cond.fieldLinkNest (mOwn M) i RX10 (stN j) "[I" RX10 ∈ nW) (d : dc M pc (.getstatic i) 3 q) (kk : V G M Q kc ks q lc (.ref (1000 + j) :: st) w) : V G M Q kc ks pc lc st w := by
  obtain ⟨d, rfl⟩ := d
  intro p l e s m args below meth c H locs ls Cc hP hS hl
  have hR := (Cc.2.2.2.2.2.2.2.2.2.2.1.1 j hj).1
  refine va_getsN Cc.1 Cc.2.1 hR hS Cc.2.2.2.2.1 (va_Nw.use rfl (Cc.2.2.2.2.2.2.2.2.2.1.2 _ hc)) (fun _ h => h) d ?_
  have := kk p l e s m args below meth c H locs ls Cc hP hS hl
  rwa [List.map_cons, gre_ref, gad, if_neg (by omega)] at this
end R7
