/-! THE LAYER: one world for the whole system; a method's walk over it. -/
abbrev mT : Type := String × MethodName × ByteArray × Nat × Option FieldType × Room
def mOwn (M : mT) : String := M.1
def mY (M : mT) : MethodName := M.2.1
def mC (M : mT) : ByteArray := M.2.2.1
def mLn (M : mT) : Nat := M.2.2.2.1
def mRt (M : mT) : Option FieldType := M.2.2.2.2.1
def mRm (M : mT) : Room := M.2.2.2.2.2
/-- the words that may be handed on to a callee -/
def aW : List Cond := lw_tbl.filter goodWord
/-- the words on private members of a nest mate -/
def nW : List Cond := [.methodLinkNest RX10 9 yX6_init RX10, .methodLinkNest RX6 11 yX3_init RX10, .methodLinkNest RX6 20 yX8_init RX10, .methodLinkNest RX10 24 yX7_init RX10, .methodLinkNest RX10 31 yX4_init RX10, .methodLinkNest RX4 11 yX3_init RX10, .methodLinkNest RX10 38 yX9_init RX10, .methodLinkNest RX10 45 yX1_init RX10, .methodLinkNest RX10 55 yX5_init RX10, .methodLinkNest RX5 27 yX3_init RX10, .methodLinkNest RX10 62 yX2_init RX10, .methodLinkNest RX10 69 yX0_init RX10, .methodLinkNest RX1 81 yX10_root RX10, .fieldLinkNest RX3 34 RX10 "HEFT" "[I" RX10, .fieldLinkNest RX3 37 RX10 "STIFF" "[I" RX10, .fieldLinkNest RX5 76 RX10 "ROW_STRANDS" "[I" RX10]
theorem nW_in : ∀ w ∈ nW, w ∈ lw_tbl := by decide +kernel
def isNw (w : Cond) : Bool := match w with
  | .methodLinkNest .. => true
  | .fieldLinkNest .. => true
  | _ => false
theorem nW_nest : ∀ w ∈ nW, isNw w = true := by decide +kernel
theorem aW_good : ∀ w ∈ aW, goodWord w = true := fun _ h => (List.mem_filter.mp h).2
theorem aW_of {w : Cond} (h : w ∈ lw_tbl) (g : goodWord w = true) : w ∈ aW := List.mem_filter.mpr ⟨h, g⟩
def mWs (M : mT) : List Cond := Cond.code (mY M) (mC M) (mLn M) (mRt M) :: aW
/-- what is the same for the whole run: class numbers, array classes, where the world begins, special addresses, the script, what a formatter holds -/
abbrev gT : Type := va_G × (Nat → ClassId) × Nat × (Nat → Nat) × Nat × (Nat → Int) × Value
def gD (G : gT) : va_G := G.1
def gtc (G : gT) : Nat → ClassId := G.2.1
def gB (G : gT) : Nat := G.2.2.1
def gsp (G : gT) : Nat → Nat := G.2.2.2.1
def gL (G : gT) : Nat := G.2.2.2.2.1
def gX (G : gT) : Nat → Int := G.2.2.2.2.2.1
def gq (G : gT) : Value := G.2.2.2.2.2.2
def gA (G : gT) : Nat → Prop := fun q => gB G ≤ q
def gad (G : gT) (i : Nat) : Nat := if i < 1000 then gB G + i else gsp G i
def gre (G : gT) (v : Value) : Value := match v with
  | .ref i => .ref (gad G i)
  | v => v
def gty (G : gT) : List (ClassId × FieldType) := [(gtc G 0, .int), (gtc G 1, .long), (gtc G 2, .boolean)]
def vi (z : Int) : Value := .int (Int32.ofInt z)
def vl (z : Int) : Value := .long (Int64.ofInt z)
theorem gre_vi {G : gT} {z : Int} : gre G (vi z) = .int (Int32.ofInt z) := rfl
theorem gre_vl {G : gT} {z : Int} : gre G (vl z) = .long (Int64.ofInt z) := rfl
theorem gre_ref {G : gT} {i : Nat} : gre G (.ref i) = .ref (gad G i) := rfl
theorem gre_cat (G : gT) (v : Value) : (gre G v).category = v.category := by cases v <;> rfl
/-- an abstract cell: an array (kind 0 int, 1 long, 2 boolean; its length; its elements) or an object (its class; its fields) -/
abbrev aE : Type := (Nat × Nat × (Nat → Int)) ⊕ (Nat × (Nat → Value))
abbrev wT : Type := Nat × (Nat → aE)
def nF (ci : Nat) : Nat := match vwCl[ci]? with
  | some q => q.2.2
  | none => 0
def wre (G : gT) (x : aE) : va_E := match x with
  | .inl (t, n, f) => .inl (gtc G t, n, if t = 1 then .inr (.inl (fun k => Int64.ofInt (f k))) else .inl (fun k => Int32.ofInt (f k)))
  | .inr (ci, f) => .inr (ci, (List.range (nF ci)).map (fun k => gre G (f k)))
def wls (G : gT) (w : wT) : va_W := (List.range w.1).map (fun i => (gad G i, wre G (w.2 i)))
def put (w : wT) (i : Nat) (x : aE) : wT := (w.1, fun j => if j = i then x else w.2 j)
def psh (w : wT) (x : aE) : wT := (w.1 + 1, fun j => if j = w.1 then x else w.2 j)
def up {α : Type} (f : Nat → α) (k : Nat) (v : α) : Nat → α := fun j => if j = k then v else f j
theorem wls_get {G : gT} {w : wT} {i : Nat} (h : i < w.1) : (wls G w)[i]? = some (gad G i, wre G (w.2 i)) := by
  simp [wls, List.getElem?_map, List.getElem?_range, h]
theorem wls_at {G : gT} {w : wT} {i : Nat} {q : Nat × va_E} (h : (wls G w)[i]? = some q) : i < w.1 ∧ q = (gad G i, wre G (w.2 i)) := by
  by_cases hi : i < w.1
  · rw [wls_get hi] at h
    exact ⟨hi, (Option.some.inj h).symm⟩
  · rw [wls, List.getElem?_map, List.getElem?_eq_none (by simp; omega)] at h
    cases h
theorem wls_put {G : gT} {w : wT} {i : Nat} {x : aE} : (wls G w).set i (gad G i, wre G x) = wls G (put w i x) := by
  apply List.ext_getElem?
  intro j
  rw [List.getElem?_set]
  by_cases hj : j < w.1
  · rw [wls_get hj, wls_get (w := put w i x) hj]
    by_cases e : i = j
    · subst e
      simp [put, wls, hj]
    · simp [put, e, Ne.symm e]
  · have h1 : (wls G w)[j]? = none := by simp [wls]; omega
    have h2 : (wls G (put w i x))[j]? = none := by simp [wls, put]; omega
    rw [h1, h2]
    by_cases e : i = j
    · subst e
      simp [wls, hj]
    · simp [e]
theorem wls_psh {G : gT} {w : wT} {x : aE} : wls G w ++ [(gad G w.1, wre G x)] = wls G (psh w x) := by
  simp only [wls, psh, List.range_succ, List.map_append, List.map_cons, List.map_nil]
  congr 1
  · apply List.map_congr_left
    intro j hj
    have : j < w.1 := List.mem_range.mp hj
    simp [Nat.ne_of_lt this]
/-- the script, the static arrays, the literals: read only -/
def stN (j : Nat) : String := match j with
  | 0 => "HEFT"
  | 1 => "STIFF"
  | 2 => "WEARS"
  | 3 => "LAW_LEAST"
  | 4 => "LAW_MOST"
  | _ => "ROW_STRANDS"
def stV (j : Nat) : List Int := match j with
  | 0 => [4, 5, 1, 2]
  | 1 => [24, 36, 2, 8]
  | 2 => [2, 3, 9, 5]
  | 3 => [0, 0, 1, 10, 1]
  | 4 => [50, 50, 8, 2000, 30000]
  | _ => [12, 8, 6, 4, 2]
def sL (j : Nat) : List Int32 := match j with
  | 0 => [112, 105, 101, 99, 101]
  | 1 => [108, 101, 110, 103, 116, 104]
  | 2 => [115, 116, 114, 97, 110, 100, 115]
  | 3 => [115, 116, 117, 102, 102]
  | 4 => [103, 111]
  | 5 => [104, 111, 108, 100]
  | 6 => [116, 105, 109, 101, 115]
  | _ => [102, 111, 114]
