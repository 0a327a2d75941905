/-! THE WORLD THAT STANDS: 101 cells, their kinds and references as the constructors leave them; only numbers change. -/
def kT : List (Nat × Nat) := [(3, 10), (3, 6), (3, 3), (0, 12), (0, 12), (0, 12), (3, 8), (0, 61), (0, 61), (0, 5), (3, 6), (3, 3), (0, 12), (0, 12), (0, 12), (3, 8), (0, 61), (0, 61), (0, 5), (3, 6), (3, 3), (0, 12), (0, 12), (0, 12), (3, 8), (0, 61), (0, 61), (0, 5), (3, 7), (0, 160), (3, 4), (3, 3), (0, 12), (0, 12), (0, 12), (3, 9), (0, 60), (0, 60), (0, 60), (0, 3), (0, 3), (0, 3), (3, 1), (0, 793), (0, 793), (0, 13), (0, 13), (3, 1), (0, 793), (0, 793), (0, 13), (0, 13), (3, 5), (0, 8), (0, 8), (3, 3), (0, 12), (0, 12), (0, 12), (3, 2), (0, 6), (0, 8), (0, 256), (3, 0), (0, 60), (0, 60), (3, 11), (0, 12), (0, 12), (0, 12), (0, 61), (0, 61), (0, 5), (0, 160), (0, 12), (0, 12), (0, 64), (0, 64), (0, 64), (0, 64), (0, 4), (0, 4), (0, 61), (0, 61), (1, 793), (1, 793), (0, 720), (0, 720), (0, 12), (0, 12), (0, 12), (1, 793), (1, 793), (0, 6), (0, 8), (2, 256), (2, 256), (0, 60), (0, 60), (0, 340), (2, 2)]
def rT : List (List Nat) := [[1, 10, 19, 28, 30, 35, 42, 47, 52, 59, 63, 0, 0, 0, 0, 0, 0, 0], [2, 6, 9, 0], [0, 0, 3, 4, 5], [], [], [], [0, 0, 7, 8], [], [], [], [11, 15, 18, 0], [0, 0, 12, 13, 14], [], [], [], [0, 0, 16, 17], [], [], [], [20, 24, 27, 0], [0, 0, 21, 22, 23], [], [], [], [0, 0, 25, 26], [], [], [], [29, 0, 0, 0, 0, 0], [], [31, 0], [0, 0, 32, 33, 34], [], [], [], [36, 37, 38, 0, 0, 39, 40, 41, 0, 0], [], [], [], [], [], [], [0, 0, 0, 0, 43, 44, 45, 46], [], [], [], [], [0, 0, 0, 0, 48, 49, 50, 51], [], [], [], [], [0, 0, 53, 54, 55], [], [], [0, 0, 56, 57, 58], [], [], [], [0, 0, 60, 61, 62], [], [], [], [0, 64, 65], [], [], [0, 0, 67, 68, 69, 0, 0, 70, 71, 72, 0, 0, 0, 0, 0, 73, 0, 0, 0, 0, 0, 0, 0, 0, 0, 74, 75, 0, 76, 77, 78, 79, 80, 81, 82, 83, 0, 0, 84, 85, 0, 0, 86, 87, 88, 89, 90, 91, 92, 0, 0, 93, 94, 95, 96, 0, 97, 98, 99, 100], [], [], [], [], [], [], [], [], [], [], [], [], [], [], [], [], [], [], [], [], [], [], [], [], [], [], [], [], [], [], [], [], [], []]
def sK (i : Nat) : Nat × Nat := kT.getD i (9, 0)
def sR (i k : Nat) : Nat := (rT.getD i []).getD k 0
abbrev fT : Type := Nat → Nat → Int
abbrev nT : Type := Nat → Int → Int
def sCell (F : fT) (A : nT) (i : Nat) : aE := match sK i with
  | (0, n) => .inl (0, n, fun k => A i k)
  | (1, n) => .inl (1, n, fun k => A i k)
  | (2, n) => .inl (2, n, fun k => A i k)
  | (_, c) => .inr (c, fun k => if sR i k = 0 then vi (F i k) else .ref (sR i k))
def sw (F : fT) (A : nT) : wT := (101, sCell F A)
def uF (F : fT) (o k : Nat) (z : Int) : fT := fun o' k' => if o' = o ∧ k' = k then z else F o' k'
def uI (f : Int → Int) (i x : Int) : Int → Int := fun j => if j = i then x else f j
def sA (A : nT) (o : Nat) (f : Int → Int) : nT := fun o' => if o' = o then f else A o'
theorem sK_lt {o a b : Nat} (h : sK o = (a, b)) (ha : a ≠ 9) : o < 101 := by
  by_cases h1 : o < kT.length
  · exact h1
  · have : sK o = (9, 0) := by
      unfold sK
      rw [List.getD_eq_getElem?_getD, List.getElem?_eq_none (by omega)]
      rfl
    rw [this] at h
    cases h
    exact absurd rfl ha
theorem sw_o {F : fT} {A : nT} {o c : Nat} (h : sK o = (3, c)) : (sw F A).2 o = .inr (c, fun k => if sR o k = 0 then vi (F o k) else .ref (sR o k)) := by
  show sCell F A o = _
  unfold sCell
  rw [h]
  rfl
theorem sw_a {F : fT} {A : nT} {o t n : Nat} (h : sK o = (t, n)) (ht : t < 3) : (sw F A).2 o = .inl (t, n, fun k => A o k) := by
  show sCell F A o = _
  unfold sCell
  rw [h]
  rcases (show t = 0 ∨ t = 1 ∨ t = 2 by omega) with rfl | rfl | rfl <;> rfl
theorem sw_putF {F : fT} {A : nT} {o c k : Nat} {z : Int} (h : sK o = (3, c)) (hr : sR o k = 0) : put (sw F A) o (.inr (c, up (fun k => if sR o k = 0 then vi (F o k) else .ref (sR o k)) k (vi z))) = sw (uF F o k z) A := by
  refine Prod.ext rfl (funext fun j => ?_)
  show (if j = o then _ else sCell F A j) = sCell (uF F o k z) A j
  by_cases e : j = o
  · subst e
    rw [if_pos rfl]
    unfold sCell
    rw [h]
    show Sum.inr _ = Sum.inr _
    congr 2
    funext k'
    by_cases e2 : k' = k
    · subst e2
      simp [up, uF, hr]
    · simp [up, uF, e2]
  · rw [if_neg e]
    unfold sCell
    have : ∀ k', uF F o k z j k' = F j k' := fun k' => by simp [uF, e]
    simp only [this]
theorem sw_putA {F : fT} {A : nT} {o t n : Nat} {f : Int → Int} {g : Nat → Int} (h : sK o = (t, n)) (ht : t < 3) (hg : ∀ k : Nat, g k = f k) : put (sw F A) o (.inl (t, n, g)) = sw F (sA A o f) := by
  refine Prod.ext rfl (funext fun j => ?_)
  show (if j = o then _ else sCell F A j) = sCell F (sA A o f) j
  by_cases e : j = o
  · subst e
    rw [if_pos rfl, show g = fun k : Nat => f k from funext hg]
    unfold sCell
    rw [h]
    rcases (show t = 0 ∨ t = 1 ∨ t = 2 by omega) with rfl | rfl | rfl <;> simp [sA]
  · rw [if_neg e]
    unfold sCell
    have : sA A o f j = A j := by simp [sA, e]
    simp only [this]
theorem uI_nat {f : Int → Int} {i x : Int} (hi : 0 ≤ i) : ∀ k : Nat, up (fun k : Nat => f k) i.toNat x k = uI f i x k := by
  intro k
  simp only [up, uI]
  by_cases e : k = i.toNat
  · rw [if_pos e, if_pos (by omega)]
  · rw [if_neg e, if_neg (by omega)]
section R13
variable {G : gT} {M N : mT} {Q Q' : Option Value → wT → Prop} {kc ks pc q t i n : Nat} {lc lc' : List (Option Value)} {st rest : List Value} {F : fT} {A : nT}
theorem S_get {o ci k : Nat} (hL : gLk (mOwn M) i ci k) (hK : sK o = (3, ci)) (hr : sR o k = 0) (d : dc M pc (.getfield i) 3 q) (kk : V G M Q kc ks q lc (vi (F o k) :: st) (sw F A)) : V G M Q kc ks pc lc (.ref o :: st) (sw F A) :=
  gLk.V hL (sK_lt hK (by decide)) (sw_o hK) d (by rw [if_pos hr]; exact kk)
theorem S_getR {o ci k r : Nat} (hL : gLk (mOwn M) i ci k) (hK : sK o = (3, ci)) (hr : sR o k = r) (h0 : r ≠ 0) (d : dc M pc (.getfield i) 3 q) (kk : V G M Q kc ks q lc (.ref r :: st) (sw F A)) : V G M Q kc ks pc lc (.ref o :: st) (sw F A) :=
  gLk.V hL (sK_lt hK (by decide)) (sw_o hK) d (by rw [if_neg (by rw [hr]; exact h0), hr]; exact kk)
theorem S_put {o ci k : Nat} {z : Int} (hL : fLk (mOwn M) i ci k .int false) (hK : sK o = (3, ci)) (hr : sR o k = 0) (d : dc M pc (.putfield i) 3 q) (kk : V G M Q kc ks q lc st (sw (uF F o k z) A)) : V G M Q kc ks pc lc (vi z :: .ref o :: st) (sw F A) :=
  V_putf hL (sK_lt hK (by decide)) (sw_o hK) rfl rfl d (by rw [sw_putF hK hr]; exact kk)
theorem S_putZ {o ci k : Nat} {z : Int} (hz : z = 0 ∨ z = 1) (hL : fLk (mOwn M) i ci k .boolean false) (hK : sK o = (3, ci)) (hr : sR o k = 0) (d : dc M pc (.putfield i) 3 q) (kk : V G M Q kc ks q lc st (sw (uF F o k z) A)) : V G M Q kc ks pc lc (vi z :: .ref o :: st) (sw F A) :=
  V_putf hL (sK_lt hK (by decide)) (sw_o hK) (nar_z hz) (by rcases hz with rfl | rfl <;> rfl) d (by rw [sw_putF hK hr]; exact kk)
theorem S_iald {o n : Nat} {i : Int} (hK : sK o = (0, n)) (d : dc M pc .iaload 1 q) (kk : V G M Q kc ks q lc (vi (A o i) :: st) (sw F A)) (hi : 0 ≤ i ∧ i < n := by omega) (hn : n < 2147483648 := by omega) : V G M Q kc ks pc lc (vi i :: .ref o :: st) (sw F A) :=
  V_iaload (sK_lt hK (by decide)) (sw_a hK (by decide)) d (by rw [Int.toNat_of_nonneg hi.1]; exact kk) hi hn
theorem S_lald {o n : Nat} {i : Int} (hK : sK o = (1, n)) (d : dc M pc .laload 1 q) (kk : V G M Q kc ks q lc (vl (A o i) :: st) (sw F A)) (hi : 0 ≤ i ∧ i < n := by omega) (hn : n < 2147483648 := by omega) : V G M Q kc ks pc lc (vi i :: .ref o :: st) (sw F A) :=
  V_laload (sK_lt hK (by decide)) (sw_a hK (by decide)) d (by rw [Int.toNat_of_nonneg hi.1]; exact kk) hi hn
theorem S_zald {o n : Nat} {i : Int} (hK : sK o = (2, n)) (d : dc M pc .baload 1 q) (kk : V G M Q kc ks q lc (vi (A o i) :: st) (sw F A)) (hi : 0 ≤ i ∧ i < n := by omega) (hn : n < 2147483648 := by omega) : V G M Q kc ks pc lc (vi i :: .ref o :: st) (sw F A) :=
  V_zaload (sK_lt hK (by decide)) (sw_a hK (by decide)) d (by rw [Int.toNat_of_nonneg hi.1]; exact kk) hi hn
theorem S_iast {o n : Nat} {i x : Int} (hK : sK o = (0, n)) (d : dc M pc .iastore 1 q) (kk : V G M Q kc ks q lc st (sw F (sA A o (uI (A o) i x)))) (hi : 0 ≤ i ∧ i < n := by omega) (hn : n < 2147483648 := by omega) : V G M Q kc ks pc lc (vi x :: vi i :: .ref o :: st) (sw F A) :=
  V_iastore (sK_lt hK (by decide)) (sw_a hK (by decide)) d (by rw [sw_putA hK (by decide) (uI_nat hi.1)]; exact kk) hi hn
theorem S_last {o n : Nat} {i x : Int} (hK : sK o = (1, n)) (d : dc M pc .lastore 1 q) (kk : V G M Q kc ks q lc st (sw F (sA A o (uI (A o) i x)))) (hi : 0 ≤ i ∧ i < n := by omega) (hn : n < 2147483648 := by omega) : V G M Q kc ks pc lc (vl x :: vi i :: .ref o :: st) (sw F A) :=
  V_lastore (sK_lt hK (by decide)) (sw_a hK (by decide)) d (by rw [sw_putA hK (by decide) (uI_nat hi.1)]; exact kk) hi hn
theorem S_zast {o n : Nat} {i x : Int} (hx : x = 0 ∨ x = 1) (hK : sK o = (2, n)) (d : dc M pc .bastore 1 q) (kk : V G M Q kc ks q lc st (sw F (sA A o (uI (A o) i x)))) (hi : 0 ≤ i ∧ i < n := by omega) (hn : n < 2147483648 := by omega) : V G M Q kc ks pc lc (vi x :: vi i :: .ref o :: st) (sw F A) :=
  V_zastore hx (sK_lt hK (by decide)) (sw_a hK (by decide)) d (by rw [sw_putA hK (by decide) (uI_nat hi.1)]; exact kk) hi hn
/-- arraycopy from the start of a row to the start of another -/
def cpI (f g : Int → Int) (n : Int) : Int → Int := fun k => if 0 ≤ k ∧ k < n then f k else g k
theorem S_acopy {o1 o2 n1 n2 : Nat} {n : Int} (h1 : Cond.methodLink (mOwn M) i arraycopyName ∈ aW) (hK1 : sK o1 = (0, n1)) (hK2 : sK o2 = (0, n2)) (d : dc M pc (.invokestatic i) 3 q)
    (kk : V G M Q kc ks q lc rest (sw F (sA A o2 (cpI (A o1) (A o2) n)))) (hb : 0 ≤ n ∧ n ≤ n1 ∧ n ≤ n2 ∧ n1 < 2147483648 ∧ n2 < 2147483648 := by omega) (hR : 1 ≤ (mRm M).frames ∧ (rest.map fun v => v.category).sum + 18 ≤ (mRm M).locals := by exact ⟨Nat.le_of_ble_eq_true rfl, Nat.le_of_ble_eq_true rfl⟩) : V G M Q kc ks pc lc (vi n :: vi 0 :: .ref o2 :: vi 0 :: .ref o1 :: rest) (sw F A) :=
  V_acopy h1 ac_1 ac_2 ac_3 (sK_lt hK1 (by decide)) (sw_a hK1 (by decide)) (sK_lt hK2 (by decide)) (sw_a hK2 (by decide)) d (by
    rw [sw_putA (f := cpI (A o1) (A o2) n) hK2 (by decide) (fun k => ?_)]
    · exact kk
    · simp only [cpy, cpI]
      by_cases e : (k : Int) < n
      · rw [if_pos (by omega), if_pos (by omega)]
        congr 1
        simp
      · rw [if_neg (by omega), if_neg (by omega)]) (by omega) hR
theorem S_callV {o ci : Nat} {As : List Value} (hL : vLk (mOwn M) i N n ci) (d : dc M pc (.invokevirtual i) 3 q) (hK : sK o = (3, ci)) (hst : st = As.reverse ++ .ref o :: rest) (hM : Meets G N (.ref o :: As) (sw F A) Q') (kk : ∀ r w', Q' r w' → V G M Q (kc + (mRm N).cells) (ks + (mRm N).slots) q lc (r.toList ++ rest) w') (hn : As.length = n := by rfl) (hR : rOk M N := by decide) (hk : kOk M N kc ks := by decide) (hc : (rest.map fun v => v.category).sum ≤ 8 := by exact Nat.le_of_ble_eq_true rfl) : V G M Q kc ks pc lc st (sw F A) :=
  V_callV hL d (sK_lt hK (by decide)) (sw_o hK) hst hM kk hn hR hk hc
end R13
