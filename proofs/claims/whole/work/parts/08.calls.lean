/-- a callee: its code is among the words, how many arguments it takes beside its receiver -/
def cIn (N : mT) (n : Nat) : Prop := Cond.code (mY N) (mC N) (mLn N) (mRt N) ∈ aW ∧ Cond.initialized (mY N).cls ∈ aW ∧ ((mY N).cls ≠ "java/lang/invoke/MethodHandle" ∧ (mY N).cls ≠ "java/lang/invoke/VarHandle" ∧ (parseMethodDescriptor (mY N).desc).map (fun d => d.parameters.length) = some n)
theorem cIn.good {N : mT} {n : Nat} (h : cIn N n) : GoodIn aW (mWs N) := by
  intro w hw
  rcases List.mem_cons.mp hw with rfl | hw
  · exact ⟨h.1, good_of_word (aW_good _ h.1)⟩
  · exact ⟨hw, good_of_word (aW_good _ hw)⟩
/-- links: an entry of a class's pool is this method -/
def vLk (own : String) (i : Nat) (N : mT) (n ci : Nat) : Prop := cIn N n ∧ Cond.methodLink own i (mY N) ∈ aW ∧ Cond.instanceMethod (mY N) ∈ aW ∧ Cond.selects (mOwn N) (mY N) (mY N) ∈ aW ∧ ∃ T K, vwCl[ci]? = some (mOwn N, T, K)
def sLk (own : String) (i : Nat) (N : mT) (n : Nat) : Prop := cIn N n ∧ Cond.methodLink own i (mY N) ∈ aW ∧ Cond.static (mY N) ∈ aW
def sNk (own : String) (i : Nat) (N : mT) (n : Nat) : Prop := cIn N n ∧ Cond.methodLinkNest own i (mY N) RX10 ∈ nW ∧ Cond.static (mY N) ∈ aW
def iLk (own : String) (i : Nat) (N : mT) (n : Nat) : Prop := cIn N n ∧ Cond.methodLink own i (mY N) ∈ aW ∧ Cond.instanceMethod (mY N) ∈ aW ∧ (mY N).name = "<init>" ∧ mRt N = none
def iNk (own : String) (i : Nat) (N : mT) (n : Nat) : Prop := cIn N n ∧ Cond.methodLinkNest own i (mY N) RX10 ∈ nW ∧ Cond.instanceMethod (mY N) ∈ aW ∧ (mY N).name = "<init>" ∧ mRt N = none
/-- a callee's room in a caller's -/
abbrev rOk (M N : mT) : Prop := (mRm N).frames + 1 ≤ (mRm M).frames ∧ 8 + (mLn N + 11) + (mRm N).locals ≤ (mRm M).locals
abbrev kOk (M N : mT) (kc ks : Nat) : Prop := kc + (mRm N).cells ≤ (mRm M).cells ∧ ks + (mRm N).slots ≤ (mRm M).slots
theorem catsum (G : gT) (rest : List Value) : ((rest.map (gre G)).map fun v => v.category).sum = (rest.map fun v => v.category).sum := by
  rw [List.map_map]
  congr 1
  apply List.map_congr_left
  intro v _
  exact gre_cat G v
theorem Meets.blind {G : gT} {av : List Value} {w : wT} : FrameBlind (fun v U => v = (av.map (gre G)).toArray ∧ Hp G w U.heap ∧ Sx G U) := fun _ _ _ _ h => ⟨h.1, h.2.1, h.2.2.call⟩
section R8
variable {G : gT} {M N : mT} {Q Q' : Option Value → wT → Prop} {kc ks pc q t i n : Nat} {lc lc' : List (Option Value)} {st rest : List Value} {w : wT}
theorem V.back {p : Program} {l : Launch} {e : Env} {s : State} {m : MethodId} {args : Array Value} {below : List Frame} {meth : Method} {c : Code} {H : Heap} {locs : List Loc} {ls : Array Slot} {st0 : List Value} {a : Array Value}
    (Cc : Cx G M p s m args meth c) (hS : va_S (gA G) s.heap H locs) (hl : lh G ls (mLn M) lc)
    (hr : va_Run p l e (mRm M) s m args below meth c H locs kc ks (mRm N).cells (mRm N).slots (F0 m pc ls st0) (rest.map (gre G)) (mQ G Q' a) (gA G))
    (kk : ∀ r w', Q' r w' → V G M Q (kc + (mRm N).cells) (ks + (mRm N).slots) (pc + 3) lc (r.toList ++ rest) w') :
    W p l e (mRm M) s m args below meth c H locs kc ks (MQ below (mQ G Q) args s (mRm M).cells (mRm M).slots (gA G)) (F0 m pc ls st0) := by
  intro T hT X
  obtain ⟨v, st₀, t, T', L, h0, X', hL, e1, e2, ⟨r, w', hv, hq, hH, hz, hk⟩, go⟩ := hr T hT X
  rw [h0] at hz hk
  have hv : v = r.map (gre G) := by injection hv
  obtain ⟨t2, a1, b1⟩ := kk r w' hq p l e s m args below meth c T'.heap (locs ++ L) ls Cc (by rw [e1]; exact hH)
    ⟨Nat.le_trans hS.1 (by rw [e1]; exact hz), fun q h1 h2 => by rw [e1, hk q (Nat.lt_of_lt_of_le h1 hS.1) h2]; exact hS.2.1 q h1 h2, fun q hq => by
      rcases List.mem_append.mp hq with h | h
      · exact hS.2.2 q h
      · exact hL q h⟩ hl T' rfl X'
  refine ⟨t2, go t2 ?_, b1⟩
  have e3 : (r.toList ++ rest).map (gre G) = v.toList ++ rest.map (gre G) := by
    rw [hv, List.map_append]
    cases r <;> rfl
  rw [e3] at a1
  exact a1
theorem V_callV {o ci : Nat} {f : Nat → Value} {As : List Value} (hL : vLk (mOwn M) i N n ci) (d : dc M pc (.invokevirtual i) 3 q) (ho : o < w.1) (hw : w.2 o = .inr (ci, f)) (hst : st = As.reverse ++ .ref o :: rest) (hM : Meets G N (.ref o :: As) w Q') (kk : ∀ r w', Q' r w' → V G M Q (kc + (mRm N).cells) (ks + (mRm N).slots) q lc (r.toList ++ rest) w') (hn : As.length = n := by rfl) (hR : rOk M N := by decide) (hk : kOk M N kc ks := by decide) (hc : (rest.map fun v => v.category).sum ≤ 8 := by exact Nat.le_of_ble_eq_true rfl) : V G M Q kc ks pc lc st w := by
  obtain ⟨d, rfl⟩ := d
  subst hst
  obtain ⟨hN, h1, h2, h3, T, K, h4⟩ := hL
  intro p l e s m args below meth c H locs ls Cc hP hS hl
  have hts := Cc.2.2.2.2.2.1
  have he : (wls G w)[o]? = some (gad G o, .inr (ci, (List.range (nF ci)).map (fun k => gre G (f k)))) := by rw [wls_get ho, hw]; rfl
  refine V.back (a := (Value.ref (gad G o) :: As.map (gre G)).toArray) (N := N) (Q' := Q') (rest := rest) Cc hS hl ?_ kk
  refine va_runV (As := As.map (gre G)) (b := gad G o) (n := n) ⟨Cc.1, Cc.2.1, Cc.2.2.2.1, Cc.2.2.2.2.1, hts⟩ (hM l) ⟨callB_of n hts hN.good rfl rfl rfl (hts _ hN.2.1) (hts _ h1) hN.2.2 hR, hts _ h2, hts _ h3⟩ ⟨Meets.blind, va_recv Cc.2.2.2.2.2.2.2.2.1 hP.1 h4 he, fun U hU hW => ?_⟩ rfl (by rw [List.length_map]; exact hn) hl.1 (by simp [gre_ref]) (lv_room (by rw [catsum]; exact hc)) d hk
  subst hU
  exact ⟨rfl, hP, Cc.2.2.2.2.2.2.2.2.go hW hS⟩
theorem V_callS {As : List Value} (hL : sLk (mOwn M) i N n) (d : dc M pc (.invokestatic i) 3 q) (hst : st = As.reverse ++ rest) (hM : Meets G N As w Q') (kk : ∀ r w', Q' r w' → V G M Q (kc + (mRm N).cells) (ks + (mRm N).slots) q lc (r.toList ++ rest) w') (hn : As.length = n := by rfl) (hR : rOk M N := by decide) (hk : kOk M N kc ks := by decide) (hc : (rest.map fun v => v.category).sum ≤ 8 := by exact Nat.le_of_ble_eq_true rfl) : V G M Q kc ks pc lc st w := by
  obtain ⟨d, rfl⟩ := d
  subst hst
  obtain ⟨hN, h1, h2⟩ := hL
  intro p l e s m args below meth c H locs ls Cc hP hS hl
  have hts := Cc.2.2.2.2.2.1
  refine V.back (a := (As.map (gre G)).toArray) (N := N) (Q' := Q') (rest := rest) Cc hS hl ?_ kk
  refine va_runS (As := As.map (gre G)) (n := n) ⟨Cc.1, Cc.2.1, Cc.2.2.2.1, Cc.2.2.2.2.1, hts⟩ (hM l) ⟨callB_of n hts hN.good rfl rfl rfl (hts _ hN.2.1) (hts _ h1) hN.2.2 hR, hts _ h2⟩ ⟨Meets.blind, fun U hU hW => ?_⟩ rfl (by rw [List.length_map]; exact hn) hl.1 (by simp) (lv_room (by rw [catsum]; exact hc)) d hk
  subst hU
  exact ⟨rfl, hP, Cc.2.2.2.2.2.2.2.2.go hW hS⟩
theorem V_callSN {As : List Value} (hL : sNk (mOwn M) i N n) (d : dc M pc (.invokestatic i) 3 q) (hst : st = As.reverse ++ rest) (hM : Meets G N As w Q') (kk : ∀ r w', Q' r w' → V G M Q (kc + (mRm N).cells) (ks + (mRm N).slots) q lc (r.toList ++ rest) w') (hn : As.length = n := by rfl) (hR : rOk M N := by decide) (hk : kOk M N kc ks := by decide) (hc : (rest.map fun v => v.category).sum ≤ 8 := by exact Nat.le_of_ble_eq_true rfl) : V G M Q kc ks pc lc st w := by
  obtain ⟨d, rfl⟩ := d
  subst hst
  obtain ⟨hN, h1, h2⟩ := hL
  intro p l e s m args below meth c H locs ls Cc hP hS hl
  have hts := Cc.2.2.2.2.2.1
  refine V.back (a := (As.map (gre G)).toArray) (N := N) (Q' := Q') (rest := rest) Cc hS hl ?_ kk
  refine va_runSN (As := As.map (gre G)) (n := n) ⟨Cc.1, Cc.2.1, Cc.2.2.2.1, Cc.2.2.2.2.1, hts⟩ (hM l) ⟨va_cnB n hts hN.good rfl rfl rfl (Cc.2.2.2.2.2.2.2.2.2.1.2 _ h1) (hts _ hN.2.1) hN.2.2 hR, hts _ h2, trivial⟩ ⟨Meets.blind, fun U hU hW => ?_⟩ rfl (by rw [List.length_map]; exact hn) hl.1 (by simp) (lv_room (by rw [catsum]; exact hc)) d hk
  subst hU
  exact ⟨rfl, hP, Cc.2.2.2.2.2.2.2.2.go hW hS⟩
theorem V_callI {o : Nat} {As : List Value} (hL : iLk (mOwn M) i N n) (d : dc M pc (.invokespecial i) 3 q) (hst : st = As.reverse ++ .ref o :: rest) (hM : Meets G N (.ref o :: As) w Q') (kk : ∀ r w', Q' r w' → V G M Q (kc + (mRm N).cells) (ks + (mRm N).slots) q lc (r.toList ++ rest) w') (hn : As.length = n := by rfl) (hR : rOk M N := by decide) (hk : kOk M N kc ks := by decide) (hc : (rest.map fun v => v.category).sum ≤ 8 := by exact Nat.le_of_ble_eq_true rfl) : V G M Q kc ks pc lc st w := by
  obtain ⟨d, rfl⟩ := d
  subst hst
  obtain ⟨hN, h1, h2, h3, h4⟩ := hL
  intro p l e s m args below meth c H locs ls Cc hP hS hl
  have hts := Cc.2.2.2.2.2.1
  refine V.back (a := (Value.ref (gad G o) :: As.map (gre G)).toArray) (N := N) (Q' := Q') (rest := rest) Cc hS hl ?_ kk
  have cb := callB_of (R := mRm M) (ws' := aW) (own := mOwn M) (index := i) (rm := mRm N) n hts hN.good rfl rfl rfl (hts _ hN.2.1) (hts _ h1) hN.2.2 hR
  rw [h4] at cb
  refine va_runI (As := As.map (gre G)) (b := gad G o) (n := n) ⟨Cc.1, Cc.2.1, Cc.2.2.2.1, Cc.2.2.2.2.1, hts⟩ (hM l) ⟨cb, h3, hts _ h2⟩ ⟨Meets.blind, fun U hU hW => ?_⟩ rfl (by rw [List.length_map]; exact hn) hl.1 (by simp [gre_ref]) (lv_room (by rw [catsum]; exact hc)) d hk
  subst hU
  exact ⟨rfl, hP, Cc.2.2.2.2.2.2.2.2.go hW hS⟩
theorem V_callIN {o : Nat} {As : List Value} (hL : iNk (mOwn M) i N n) (d : dc M pc (.invokespecial i) 3 q) (hst : st = As.reverse ++ .ref o :: rest) (hM : Meets G N (.ref o :: As) w Q') (kk : ∀ r w', Q' r w' → V G M Q (kc + (mRm N).cells) (ks + (mRm N).slots) q lc (r.toList ++ rest) w') (hn : As.length = n := by rfl) (hR : rOk M N := by decide) (hk : kOk M N kc ks := by decide) (hc : (rest.map fun v => v.category).sum ≤ 8 := by exact Nat.le_of_ble_eq_true rfl) : V G M Q kc ks pc lc st w := by
  obtain ⟨d, rfl⟩ := d
  subst hst
  obtain ⟨hN, h1, h2, h3, h4⟩ := hL
  intro p l e s m args below meth c H locs ls Cc hP hS hl
  have hts := Cc.2.2.2.2.2.1
  refine V.back (a := (Value.ref (gad G o) :: As.map (gre G)).toArray) (N := N) (Q' := Q') (rest := rest) Cc hS hl ?_ kk
  have cb := va_cnB (R := mRm M) (ws' := aW) (own := mOwn M) (index := i) (rm := mRm N) n hts hN.good rfl rfl rfl (Cc.2.2.2.2.2.2.2.2.2.1.2 _ h1) (hts _ hN.2.1) hN.2.2 hR
  rw [h4] at cb
  refine va_runIN (As := As.map (gre G)) (b := gad G o) (n := n) ⟨Cc.1, Cc.2.1, Cc.2.2.2.1, Cc.2.2.2.2.1, hts⟩ (hM l) ⟨cb, h3, hts _ h2⟩ ⟨Meets.blind, fun U hU hW => ?_⟩ rfl (by rw [List.length_map]; exact hn) hl.1 (by simp [gre_ref]) (lv_room (by rw [catsum]; exact hc)) d hk
  subst hU
  exact ⟨rfl, hP, Cc.2.2.2.2.2.2.2.2.go hW hS⟩
/-- a method of a literal -/
def tLk (own : String) (i : Nat) (N : mT) (n : Nat) : Prop := cIn N n ∧ Cond.methodLink own i (mY N) ∈ aW ∧ Cond.instanceMethod (mY N) ∈ aW ∧ Cond.selects "java/lang/String" (mY N) (mY N) ∈ aW
theorem V_callT {j : Nat} {As : List Value} (hj : j < 8) (hL : tLk (mOwn M) i N n) (d : dc M pc (.invokevirtual i) 3 q) (hst : st = As.reverse ++ .ref (1200 + j) :: rest) (hM : Meets G N (.ref (1200 + j) :: As) w Q') (kk : ∀ r w', Q' r w' → V G M Q (kc + (mRm N).cells) (ks + (mRm N).slots) q lc (r.toList ++ rest) w') (hn : As.length = n := by rfl) (hR : rOk M N := by decide) (hk : kOk M N kc ks := by decide) (hc : (rest.map fun v => v.category).sum ≤ 8 := by exact Nat.le_of_ble_eq_true rfl) : V G M Q kc ks pc lc st w := by
  obtain ⟨d, rfl⟩ := d
  subst hst
  obtain ⟨hN, h1, h2, h3⟩ := hL
  intro p l e s m args below meth c H locs ls Cc hP hS hl
  have hts := Cc.2.2.2.2.2.1
  have hR2 := Cc.2.2.2.2.2.2.2.2.2.2.1.2.2.1
  refine V.back (a := (Value.ref (gad G (1200 + j)) :: As.map (gre G)).toArray) (N := N) (Q' := Q') (rest := rest) Cc hS hl ?_ kk
  have ea : gad G (1200 + j) = gsp G (1200 + j) := by rw [gad, if_neg (by omega)]
  refine va_runV (As := As.map (gre G)) (b := gad G (1200 + j)) (n := n) (C := "java/lang/String") ⟨Cc.1, Cc.2.1, Cc.2.2.2.1, Cc.2.2.2.2.1, hts⟩ (hM l) ⟨callB_of n hts hN.good rfl rfl rfl (hts _ hN.2.1) (hts _ h1) hN.2.2 hR, hts _ h2, hts _ h3⟩ ⟨Meets.blind, by rw [ea]; exact vk_recv (adK := fun i => gsp G (1200 + i)) (i := j) hR2 hj hS, fun U hU hW => ?_⟩ rfl (by rw [List.length_map]; exact hn) hl.1 (by simp [gre_ref]) (lv_room (by rw [catsum]; exact hc)) d hk
  subst hU
  exact ⟨rfl, hP, Cc.2.2.2.2.2.2.2.2.go hW hS⟩
/-- ends -/
abbrev eOk (M : mT) (kc ks : Nat) : Prop := kc ≤ (mRm M).cells ∧ ks ≤ (mRm M).slots
theorem V_ireturn {a : Int} (d : dc M pc .ireturn 1 q) (hQ : Q (some (vi a)) w) (hr : mRt M = some .int := by rfl) (hk : eOk M kc ks := by decide) : V G M Q kc ks pc lc [vi a] w := by
  obtain ⟨d, rfl⟩ := d
  intro p l e s m args below meth c H locs ls Cc hP hS hl
  refine W.widen hk.1 hk.2 ?_
  exact W.iret Cc.1 Cc.2.1 (Cc.2.2.1.trans hr) (fun t ht _ => ⟨some (vi a), w, rfl, hQ, by rw [ht]; exact hP, hS.F ht⟩) hS.2.2 d Cc.2.2.2.2.2.2.1
theorem V_zreturn {a : Int} {ty : FieldType} (hn : narrow ty (.int (Int32.ofInt a)) = .int (Int32.ofInt a)) (d : dc M pc .ireturn 1 q) (hQ : Q (some (vi a)) w) (hr : mRt M = some ty := by rfl) (hk : eOk M kc ks := by decide) : V G M Q kc ks pc lc [vi a] w := by
  obtain ⟨d, rfl⟩ := d
  intro p l e s m args below meth c H locs ls Cc hP hS hl
  refine W.widen hk.1 hk.2 ?_
  exact W.zret Cc.1 Cc.2.1 (Cc.2.2.1.trans hr) hn (fun t ht _ => ⟨some (vi a), w, rfl, hQ, by rw [ht]; exact hP, hS.F ht⟩) hS.2.2 d Cc.2.2.2.2.2.2.1
theorem V_lreturn {a : Int} (d : dc M pc .lreturn 1 q) (hQ : Q (some (vl a)) w) (hr : mRt M = some .long := by rfl) (hk : eOk M kc ks := by decide) : V G M Q kc ks pc lc [vl a] w := by
  obtain ⟨d, rfl⟩ := d
  intro p l e s m args below meth c H locs ls Cc hP hS hl
  refine W.widen hk.1 hk.2 ?_
  exact W.lret Cc.1 Cc.2.1 (Cc.2.2.1.trans hr) (fun t ht _ => ⟨some (vl a), w, rfl, hQ, by rw [ht]; exact hP, hS.F ht⟩) hS.2.2 d Cc.2.2.2.2.2.2.1
theorem V_areturn {a : Nat} {ty : FieldType} (hrt : (∃ n, ty = .object n) ∨ ∃ t, ty = .array t) (d : dc M pc .areturn 1 q) (hQ : Q (some (.ref a)) w) (hr : mRt M = some ty := by rfl) (hk : eOk M kc ks := by decide) : V G M Q kc ks pc lc [.ref a] w := by
  obtain ⟨d, rfl⟩ := d
  intro p l e s m args below meth c H locs ls Cc hP hS hl
  refine W.widen hk.1 hk.2 ?_
  exact W.aret (v := .ref (gad G a)) Cc.1 Cc.2.1 (Cc.2.2.1.trans hr) hrt (Or.inr ⟨_, rfl⟩) (fun t ht _ => ⟨some (.ref a), w, rfl, hQ, by rw [ht]; exact hP, hS.F ht⟩) hS.2.2 d Cc.2.2.2.2.2.2.1
theorem V_return (d : dc M pc .return_ 1 q) (hQ : Q none w) (hr : mRt M = none := by rfl) (hk : eOk M kc ks := by decide) : V G M Q kc ks pc lc [] w := by
  obtain ⟨d, rfl⟩ := d
  intro p l e s m args below meth c H locs ls Cc hP hS hl
  refine W.widen hk.1 hk.2 ?_
  exact W.vret Cc.1 Cc.2.1 (Cc.2.2.1.trans hr) (fun t ht _ => ⟨none, w, rfl, hQ, by rw [ht]; exact hP, hS.F ht⟩) hS.2.2 d Cc.2.2.2.2.2.2.1
/-- making -/
theorem V_objInit {o : Nat} (h1 : Cond.methodLink (mOwn M) i objectInit ∈ aW) (h2 : Cond.instanceMethod objectInit ∈ aW) (h3 : Cond.code objectInit ⟨#[0xb1]⟩ 1 none ∈ aW) (d : dc M pc (.invokespecial i) 3 q) (kk : V G M Q kc ks q lc rest w) (hR : 1 ≤ (mRm M).frames ∧ (rest.map fun v => v.category).sum + 12 ≤ (mRm M).locals := by exact ⟨Nat.le_of_ble_eq_true rfl, Nat.le_of_ble_eq_true rfl⟩) : V G M Q kc ks pc lc (.ref o :: rest) w := by
  obtain ⟨d, rfl⟩ := d
  intro p l e s m args below meth c H locs ls Cc hP hS hl
  have hts := Cc.2.2.2.2.2.1
  refine W.objInit Cc.1 Cc.2.1 Cc.2.2.2.2.1 (hts _ h1) (hts _ h2) (hts _ h3) rfl (hl.1.trans Cc.2.2.2.1.symm) (rest := rest.map (gre G)) rfl d hR.1 ?_ (kk p l e s m args below meth c H locs ls Cc hP hS hl)
  rw [catsum]
  show 2 * 0 + _ + 12 ≤ _
  omega
def dflt (ty : FieldType) : Value := match ty with
  | .int => vi 0
  | .boolean => vi 0
  | .long => vl 0
  | _ => .null
def tyOk (ty : FieldType) : Bool := match ty with
  | .int => true
  | .boolean => true
  | .object _ => true
  | .array _ => true
  | _ => false
theorem dflt_ok {G : gT} {ty : FieldType} (h : tyOk ty = true) : defaultValue ty = gre G (dflt ty) := by
  cases ty <;> first | rfl | cases h
theorem V_new {ci N' : Nat} {C : String} {T : u_T} {ty : Nat → FieldType} (hC : cOk ci C T N' ty) (hty : ∀ k, k < N' → tyOk (ty k) = true) (h1 : Cond.classLink (mOwn M) i C ∈ aW) (hw : w.1 < 1000) (d : dc M pc (.new i) 3 q) (kk : V G M Q (kc + 1) (ks + N') q lc (.ref w.1 :: st) (psh w (.inr (ci, fun k => dflt (ty k))))) (hk : kc + 1 ≤ (mRm M).cells ∧ ks + N' ≤ (mRm M).slots) : V G M Q kc ks pc lc st w := by
  obtain ⟨d, rfl⟩ := d
  intro p l e s m args below meth c H locs ls Cc hP hS hl
  obtain ⟨hc, hin, htyp, hnm, h5, h6, h7, h8⟩ := hC
  have hts := Cc.2.2.2.2.2.1
  have hKn := Cc.2.2.2.2.2.2.2.2.1.1 ci _ hc
  refine W.newcK Cc.1 Cc.2.1 Cc.2.2.2.2.1 (hts _ h1) (hts _ h5) (hts _ h6) rfl d hk.1 hk.2 hKn.2.1 rfl fun H1 kC hkC e1 z1 o1 => ?_
  have ea : H.size = gad G w.1 := by rw [gad_lt hw]; exact hP.2.1
  have := kk p l e s m args below meth c H1 locs ls Cc (hP.psh hw ?_ z1 o1) ⟨Nat.le_trans hS.1 (by omega), fun x h1 h2 => (o1 x (Nat.lt_of_lt_of_le h1 hS.1)).trans (hS.2.1 x h1 h2), hS.2.2⟩ hl
  · rw [List.map_cons, gre_ref, ← ea] at this
    exact this
  · rw [← ea]
    refine ⟨_, hc, (u_born ty hts hin hKn hkC e1 htyp).to (fun j hj => ?_)⟩
    have hj : j < N' := hj
    rw [dflt_ok (G := G) (hty j hj)]
    show _ = vp_V ((List.range (nF ci)).map _) j
    rw [h7]
    simp [vp_V, List.getElem?_map, List.getElem?_range, hj]
theorem V_newI {n : Nat} (hw : w.1 < 1000) (h1 : Cond.arrayClass .int ∈ aW) (hn : n < 100000) (d : dc M pc (.newarray .int) 2 q) (kk : V G M Q (kc + 1) (ks + n) q lc (.ref w.1 :: st) (psh w (.inl (0, n, fun _ => 0)))) (hk : kc + 1 ≤ (mRm M).cells ∧ ks + n ≤ (mRm M).slots) : V G M Q kc ks pc lc (vi n :: st) w := by
  obtain ⟨d, rfl⟩ := d
  intro p l e s m args below meth c H locs ls Cc hP hS hl
  have hts := Cc.2.2.2.2.2.1
  have hc := i32_clamp (i := (n : Int)) (by omega)
  refine va_newaK (atype := .int) Cc.1 Cc.2.1 (hts _ h1) rfl d rfl (N := n) (n := Int32.ofInt n) (fun h => ?_) (by rw [hc]; rfl) (by show n * 4 ≤ _; omega) hk.1 hk.2 rfl fun H1 cA e1 z1 o1 hAr hNm => ?_
  · have h : Int32.ofInt n < Int32.ofInt 0 := h
    rw [i32_lt (by omega) (by omega)] at h
    omega
  have ea : H.size = gad G w.1 := by rw [gad_lt hw]; exact hP.2.1
  have hNm2 : s.vm.findClass ("[" ++ FieldType.int.toString) = some (gtc G 0) := (Cc.2.2.2.2.2.2.2.2.1.2 0 _ rfl).2
  have hcA : cA = gtc G 0 := Option.some.inj (hNm.symm.trans hNm2)
  have := kk p l e s m args below meth c H1 locs ls Cc (hP.psh hw ?_ z1 o1) ⟨Nat.le_trans hS.1 (by omega), fun x h1 h2 => (o1 x (Nat.lt_of_lt_of_le h1 hS.1)).trans (hS.2.1 x h1 h2), hS.2.2⟩ hl
  · rw [List.map_cons, gre_ref, ← ea] at this
    exact this
  · rw [← ea]
    show H1[H.size]? = some (vp_cell _ _)
    rw [e1, hcA]
    rfl
theorem V_newL {n : Nat} (hw : w.1 < 1000) (h1 : Cond.arrayClass .long ∈ aW) (hn : n < 100000) (d : dc M pc (.newarray .long) 2 q) (kk : V G M Q (kc + 1) (ks + n) q lc (.ref w.1 :: st) (psh w (.inl (1, n, fun _ => 0)))) (hk : kc + 1 ≤ (mRm M).cells ∧ ks + n ≤ (mRm M).slots) : V G M Q kc ks pc lc (vi n :: st) w := by
  obtain ⟨d, rfl⟩ := d
  intro p l e s m args below meth c H locs ls Cc hP hS hl
  have hts := Cc.2.2.2.2.2.1
  have hc := i32_clamp (i := (n : Int)) (by omega)
  refine va_newaK (atype := .long) Cc.1 Cc.2.1 (hts _ h1) rfl d rfl (N := n) (n := Int32.ofInt n) (fun h => ?_) (by rw [hc]; rfl) (by show n * 8 ≤ _; omega) hk.1 hk.2 rfl fun H1 cA e1 z1 o1 hAr hNm => ?_
  · have h : Int32.ofInt n < Int32.ofInt 0 := h
    rw [i32_lt (by omega) (by omega)] at h
    omega
  have ea : H.size = gad G w.1 := by rw [gad_lt hw]; exact hP.2.1
  have hNm2 : s.vm.findClass ("[" ++ FieldType.long.toString) = some (gtc G 1) := (Cc.2.2.2.2.2.2.2.2.1.2 1 _ rfl).2
  have hcA : cA = gtc G 1 := Option.some.inj (hNm.symm.trans hNm2)
  have := kk p l e s m args below meth c H1 locs ls Cc (hP.psh hw ?_ z1 o1) ⟨Nat.le_trans hS.1 (by omega), fun x h1 h2 => (o1 x (Nat.lt_of_lt_of_le h1 hS.1)).trans (hS.2.1 x h1 h2), hS.2.2⟩ hl
  · rw [List.map_cons, gre_ref, ← ea] at this
    exact this
  · rw [← ea]
    show H1[H.size]? = some (vp_cell _ _)
    rw [e1, hcA]
    rfl
theorem V_newZ {n : Nat} (hw : w.1 < 1000) (h1 : Cond.arrayClass .boolean ∈ aW) (hn : n < 100000) (d : dc M pc (.newarray .boolean) 2 q) (kk : V G M Q (kc + 1) (ks + n) q lc (.ref w.1 :: st) (psh w (.inl (2, n, fun _ => 0)))) (hk : kc + 1 ≤ (mRm M).cells ∧ ks + n ≤ (mRm M).slots) : V G M Q kc ks pc lc (vi n :: st) w := by
  obtain ⟨d, rfl⟩ := d
  intro p l e s m args below meth c H locs ls Cc hP hS hl
  have hts := Cc.2.2.2.2.2.1
  have hc := i32_clamp (i := (n : Int)) (by omega)
  refine va_newaK (atype := .boolean) Cc.1 Cc.2.1 (hts _ h1) rfl d rfl (N := n) (n := Int32.ofInt n) (fun h => ?_) (by rw [hc]; rfl) (by show n * 1 ≤ _; omega) hk.1 hk.2 rfl fun H1 cA e1 z1 o1 hAr hNm => ?_
  · have h : Int32.ofInt n < Int32.ofInt 0 := h
    rw [i32_lt (by omega) (by omega)] at h
    omega
  have ea : H.size = gad G w.1 := by rw [gad_lt hw]; exact hP.2.1
  have hNm2 : s.vm.findClass ("[" ++ FieldType.boolean.toString) = some (gtc G 2) := (Cc.2.2.2.2.2.2.2.2.1.2 2 _ rfl).2
  have hcA : cA = gtc G 2 := Option.some.inj (hNm.symm.trans hNm2)
  have := kk p l e s m args below meth c H1 locs ls Cc (hP.psh hw ?_ z1 o1) ⟨Nat.le_trans hS.1 (by omega), fun x h1 h2 => (o1 x (Nat.lt_of_lt_of_le h1 hS.1)).trans (hS.2.1 x h1 h2), hS.2.2⟩ hl
  · rw [List.map_cons, gre_ref, ← ea] at this
    exact this
  · rw [← ea]
    show H1[H.size]? = some (vp_cell _ _)
    rw [e1, hcA]
    rfl
end R8
