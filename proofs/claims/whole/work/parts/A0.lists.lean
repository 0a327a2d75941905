/-! WORLDS AS LISTS: for what makes them -/
def dE : aE := .inr (0, fun _ => .null)
def lw (l : List aE) : wT := (l.length, fun j => l.getD j dE)
theorem lw_psh {l : List aE} {x : aE} : psh (lw l) x = lw (l ++ [x]) := by
  refine Prod.ext ?_ (funext fun j => ?_)
  · show l.length + 1 = (l ++ [x]).length
    rw [List.length_append]; rfl
  · show (if j = l.length then x else l.getD j dE) = (l ++ [x]).getD j dE
    rw [List.getD_eq_getElem?_getD, List.getD_eq_getElem?_getD]
    by_cases c : j < l.length
    · rw [if_neg (by omega), List.getElem?_append_left c]
    · rw [List.getElem?_append_right (by omega)]
      by_cases e : j = l.length
      · rw [if_pos e, e, Nat.sub_self]; rfl
      · rw [if_neg e, List.getElem?_eq_none (by omega), List.getElem?_eq_none (by show 1 ≤ _; omega)]
theorem lw_put {l : List aE} {i : Nat} {x : aE} (h : i < l.length) : put (lw l) i x = lw (l.set i x) := by
  refine Prod.ext ?_ (funext fun j => ?_)
  · show l.length = (l.set i x).length
    rw [List.length_set]
  · show (if j = i then x else l.getD j dE) = (l.set i x).getD j dE
    rw [List.getD_eq_getElem?_getD, List.getD_eq_getElem?_getD, List.getElem?_set]
    by_cases e : j = i
    · subst e
      rw [if_pos rfl, if_pos rfl, if_pos h]; rfl
    · rw [if_neg e, if_neg (fun h => e h.symm)]
section A0
variable {l X : List aE}
theorem lx_psh {x : aE} : psh (lw (l ++ X)) x = lw (l ++ (X ++ [x])) := by rw [lw_psh, List.append_assoc]
theorem lx_lt {i : Nat} {x : aE} (h : X[i]? = some x) : l.length + i < (lw (l ++ X)).1 := by
  have := (List.getElem?_eq_some_iff.mp h).1
  show _ < (l ++ X).length
  rw [List.length_append]; omega
theorem lx_at {i : Nat} {x : aE} (h : X[i]? = some x) : (lw (l ++ X)).2 (l.length + i) = x := by
  show (l ++ X).getD (l.length + i) dE = x
  rw [List.getD_eq_getElem?_getD, List.getElem?_append_right (by omega), Nat.add_sub_cancel_left, h]
  rfl
theorem lx_put {i : Nat} {x y : aE} (h : X[i]? = some y) : put (lw (l ++ X)) (l.length + i) x = lw (l ++ X.set i x) := by
  have := lx_lt (l := l) h
  rw [lw_put this, List.set_append_right _ _ (by omega), Nat.add_sub_cancel_left]
variable {G : gT} {M N : mT} {Q : Option Value → wT → Prop} {kc ks pc q idx : Nat} {lc : List (Option Value)} {st rest : List Value}
theorem N_new {ci N' m : Nat} {C : String} {T : u_T} {ty : Nat → FieldType} (d : dc M pc (.new idx) 3 q) (hC : cOk ci C T N' ty) (h1 : Cond.classLink (mOwn M) idx C ∈ aW) (hm : X.length = m) (hl : l.length + m < 1000) (hty : ∀ k, k < N' → tyOk (ty k) = true) (hk : kc + 1 ≤ (mRm M).cells ∧ ks + N' ≤ (mRm M).slots) (kk : V G M Q (kc + 1) (ks + N') q lc (.ref (l.length + m) :: st) (lw (l ++ (X ++ [.inr (ci, fun k => dflt (ty k))])))) : V G M Q kc ks pc lc st (lw (l ++ X)) := by
  have e1 : (lw (l ++ X)).1 = l.length + m := by show (l ++ X).length = _; rw [List.length_append, hm]
  refine V_new hC hty h1 (by rw [e1]; exact hl) d ?_ hk
  rw [e1, lx_psh]
  exact kk
theorem N_newI {n m : Nat} (d : dc M pc (.newarray .int) 2 q) (hm : X.length = m) (hl : l.length + m < 1000) (hk : kc + 1 ≤ (mRm M).cells ∧ ks + n ≤ (mRm M).slots) (kk : V G M Q (kc + 1) (ks + n) q lc (.ref (l.length + m) :: st) (lw (l ++ (X ++ [.inl (0, n, fun _ => 0)])))) (hn : n < 100000 := by decide) : V G M Q kc ks pc lc (vi n :: st) (lw (l ++ X)) := by
  have e1 : (lw (l ++ X)).1 = l.length + m := by show (l ++ X).length = _; rw [List.length_append, hm]
  refine V_newI (by rw [e1]; exact hl) ar_int hn d ?_ hk
  rw [e1, lx_psh]
  exact kk
theorem N_newL {n m : Nat} (d : dc M pc (.newarray .long) 2 q) (hm : X.length = m) (hl : l.length + m < 1000) (hk : kc + 1 ≤ (mRm M).cells ∧ ks + n ≤ (mRm M).slots) (kk : V G M Q (kc + 1) (ks + n) q lc (.ref (l.length + m) :: st) (lw (l ++ (X ++ [.inl (1, n, fun _ => 0)])))) (hn : n < 100000 := by decide) : V G M Q kc ks pc lc (vi n :: st) (lw (l ++ X)) := by
  have e1 : (lw (l ++ X)).1 = l.length + m := by show (l ++ X).length = _; rw [List.length_append, hm]
  refine V_newL (by rw [e1]; exact hl) ar_long hn d ?_ hk
  rw [e1, lx_psh]
  exact kk
theorem N_newZ {n m : Nat} (d : dc M pc (.newarray .boolean) 2 q) (hm : X.length = m) (hl : l.length + m < 1000) (hk : kc + 1 ≤ (mRm M).cells ∧ ks + n ≤ (mRm M).slots) (kk : V G M Q (kc + 1) (ks + n) q lc (.ref (l.length + m) :: st) (lw (l ++ (X ++ [.inl (2, n, fun _ => 0)])))) (hn : n < 100000 := by decide) : V G M Q kc ks pc lc (vi n :: st) (lw (l ++ X)) := by
  have e1 : (lw (l ++ X)).1 = l.length + m := by show (l ++ X).length = _; rw [List.length_append, hm]
  refine V_newZ (by rw [e1]; exact hl) ar_boolean hn d ?_ hk
  rw [e1, lx_psh]
  exact kk
theorem N_put {i ci k : Nat} {f : Nat → Value} {ty : FieldType} {v : Value} (d : dc M pc (.putfield idx) 3 q) (hL : fLk (mOwn M) idx ci k ty false) (hx : X[i]? = some (.inr (ci, f))) (hn : narrow ty (gre G v) = gre G v) (hfit : fits ty (gre G v) = true) (kk : V G M Q kc ks q lc st (lw (l ++ X.set i (.inr (ci, up f k v))))) : V G M Q kc ks pc lc (v :: .ref (l.length + i) :: st) (lw (l ++ X)) :=
  V_putf hL (lx_lt hx) (lx_at hx) hn hfit d (by rw [lx_put hx]; exact kk)
theorem N_putF {i ci k : Nat} {f : Nat → Value} {ty : FieldType} {v : Value} (d : dc M pc (.putfield idx) 3 q) (hL : fLk (mOwn M) idx ci k ty true) (hx : X[i]? = some (.inr (ci, f))) (hn : narrow ty (gre G v) = gre G v) (hfit : fits ty (gre G v) = true) (kk : V G M Q kc ks q lc st (lw (l ++ X.set i (.inr (ci, up f k v))))) (hmi : (mY M).name = "<init>" := by rfl) : V G M Q kc ks pc lc (v :: .ref (l.length + i) :: st) (lw (l ++ X)) :=
  V_putF hL hmi (lx_lt hx) (lx_at hx) hn hfit d (by rw [lx_put hx]; exact kk)
theorem N_get {i ci k : Nat} {f : Nat → Value} {ty : FieldType} {fin : Bool} {v : Value} (d : dc M pc (.getfield idx) 3 q) (hL : fLk (mOwn M) idx ci k ty fin) (hx : X[i]? = some (.inr (ci, f))) (hv : f k = v) (kk : V G M Q kc ks q lc (v :: st) (lw (l ++ X))) : V G M Q kc ks pc lc (.ref (l.length + i) :: st) (lw (l ++ X)) :=
  V_getf hL (lx_lt hx) (lx_at hx) d (by rw [hv]; exact kk)
theorem N_iast {i n : Nat} {f : Nat → Int} {j x : Int} (d : dc M pc .iastore 1 q) (hx : X[i]? = some (.inl (0, n, f))) (kk : V G M Q kc ks q lc st (lw (l ++ X.set i (.inl (0, n, up f j.toNat x))))) (hi : 0 ≤ j ∧ j < n := by decide) (hn : n < 2147483648 := by decide) : V G M Q kc ks pc lc (vi x :: vi j :: .ref (l.length + i) :: st) (lw (l ++ X)) :=
  V_iastore (lx_lt hx) (lx_at hx) d (by rw [lx_put hx]; exact kk) hi hn
theorem N_ctor {m : Nat} {o : aE} {Y : Nat → List aE} (d : dc M pc (.invokespecial idx) 3 q) (hN : Meets G N [.ref (l ++ X).length] (lw ((l ++ X) ++ [o])) (fun r w => r = none ∧ w = lw ((l ++ X) ++ Y (l ++ X).length))) (hL : iNk (mOwn M) idx N 0) (hm : X.length = m) (kk : V G M Q (kc + (mRm N).cells) (ks + (mRm N).slots) q lc rest (lw (l ++ (X ++ Y (l.length + m))))) (hR : rOk M N := by decide) (hk : kOk M N kc ks := by decide) (hc : (rest.map fun v => v.category).sum ≤ 8 := by exact Nat.le_of_ble_eq_true rfl) : V G M Q kc ks pc lc (.ref (l.length + m) :: rest) (lw (l ++ (X ++ [o]))) := by
  have e1 : (l ++ X).length = l.length + m := by rw [List.length_append, hm]
  rw [e1, List.append_assoc] at hN
  refine V_callIN (As := []) hL d rfl hN (fun r w' h => ?_) rfl hR hk hc
  obtain ⟨rfl, rfl⟩ := h
  rw [List.append_assoc]
  exact kk
theorem N_ctorL {m : Nat} {o : aE} {Y : Nat → List aE} (d : dc M pc (.invokespecial idx) 3 q) (hN : Meets G N [.ref (l ++ X).length] (lw ((l ++ X) ++ [o])) (fun r w => r = none ∧ w = lw ((l ++ X) ++ Y (l ++ X).length))) (hL : iLk (mOwn M) idx N 0) (hm : X.length = m) (kk : V G M Q (kc + (mRm N).cells) (ks + (mRm N).slots) q lc rest (lw (l ++ (X ++ Y (l.length + m))))) (hR : rOk M N := by decide) (hk : kOk M N kc ks := by decide) (hc : (rest.map fun v => v.category).sum ≤ 8 := by exact Nat.le_of_ble_eq_true rfl) : V G M Q kc ks pc lc (.ref (l.length + m) :: rest) (lw (l ++ (X ++ [o]))) := by
  have e1 : (l ++ X).length = l.length + m := by rw [List.length_append, hm]
  rw [e1, List.append_assoc] at hN
  refine V_callI (As := []) hL d rfl hN (fun r w' h => ?_) rfl hR hk hc
  obtain ⟨rfl, rfl⟩ := h
  rw [List.append_assoc]
  exact kk
/-- a world told otherwise -/
theorem V_cg {w w' : wT} (h : wls G w = wls G w') (h1 : w.1 = w'.1) (k : V G M Q kc ks pc lc st w') : V G M Q kc ks pc lc st w := by
  intro p l e s m args below meth c H locs ls Cc hP hS hl
  refine k p l e s m args below meth c H locs ls Cc ?_ hS hl
  unfold Hp at hP ⊢
  rw [← h, ← h1]
  exact hP
end A0

