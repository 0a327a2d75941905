/-- the places of the literals: who loads it, its entry, its text, its number -/
def sRf : List (String × Nat × String × Nat) := [(RX4, 53, "piece", 0), (RX4, 62, "length", 1), (RX4, 87, "strands", 2), (RX4, 92, "stuff", 3), (RX9, 76, "go", 4), (RX9, 85, "hold", 5), (RX9, 96, "times", 6), (RX9, 116, "for", 7)]
def sLn : List Nat := [5, 6, 7, 5, 2, 4, 5, 3]
def sBy : List (List Int32) := [sL 0, sL 1, sL 2, sL 3, sL 4, sL 5, sL 6, sL 7]
def RO (G : gT) (U : State) (H : Heap) : Prop :=
  (∀ j, j < 6 → va_Z RX10 (stN j) "[I" (.ref (gsp G (1000 + j))) (gA G) U H ∧ va_T .int (gsp G (1000 + j)) (stV j).length (fun k => .int (Int32.ofInt ((stV j).getD k 0))) (gA G) U H) ∧
  va_T .int (gsp G 1100) (gL G) (fun k => .int (Int32.ofInt (gX G k))) (gA G) U H ∧
  vk_S 8 sLn sBy (fun i => gsp G (1200 + i)) (fun i => gsp G (1300 + i)) (gA G) U H ∧
  va_Z "java/lang/String" "COMPACT_STRINGS" "Z" (.int 1) (gA G) U H ∧
  va_Z "jdk/internal/util/Preconditions" "SIOOBE_FORMATTER" "Ljava/util/function/BiFunction;" (gre G (gq G)) (gA G) U H ∧ (gq G = .null ∨ gq G = .ref 1400)
def SR (G : gT) (U : State) : Prop := (∀ q ∈ sRf, vk_R q.1 q.2.1 q.2.2.1 (gsp G (1200 + q.2.2.2)) U) ∧ ∀ w ∈ nW, va_Nw w U
/-- what holds at a method's start beside its world -/
def Sx (G : gT) (U : State) : Prop := va_K (gD G) vwCl (gty G) U ∧ SR G U ∧ RO G U U.heap ∧ gB G ≤ U.heap.size
/-- the world in the heap -/
def Hp (G : gT) (w : wT) (H : Heap) : Prop := va_P (gD G) vwCl (wls G w) H ∧ H.size = gB G + w.1 ∧ w.1 ≤ 1000
theorem RO.moved {G : gT} {u U : State} {H : Heap} (hvm : u.vm.Alike U.vm) (h : RO G u H) : RO G U H := by
  obtain ⟨h1, h2, h3, h4, h5, h6⟩ := h
  exact ⟨fun j hj => ⟨va_Z.moved hvm (h1 j hj).1, va_T.moved hvm (h1 j hj).2⟩, va_T.moved hvm h2, vk_S.moved hvm h3, va_Z.moved hvm h4, va_Z.moved hvm h5, h6⟩
theorem RO.kept {G : gT} {U : State} {H H1 : Heap} (h : RO G U H) (hq : ∀ a : Nat, a < H.size → ¬ gA G a → H1[a]? = H[a]?) : RO G U H1 := by
  obtain ⟨h1, h2, h3, h4, h5, h6⟩ := h
  exact ⟨fun j hj => ⟨(h1 j hj).1.kept hq, (h1 j hj).2.kept hq⟩, h2.kept hq, h3.kept hq, h4.kept hq, h5.kept hq, h6⟩
theorem nw_tab {w : Cond} (h : isNw w = true) : w.onTables = true := by
  cases w <;> first | rfl | cases h
theorem nw_warm {w : Cond} (h : isNw w = true) {s U : State} (hW : s.WarmedH U.vm) (hZ : va_Nw w s) : va_Nw w U := by
  cases w <;> first | exact va_Nw.warmF hW hZ | exact va_Nw.warmM hW hZ | cases h
theorem SR.warm {G : gT} {s U : State} (hW : s.WarmedH U.vm) (h : SR G s) : SR G U := ⟨fun q hq => vk_R.warm hW (h.1 q hq), fun w hw => nw_warm (nW_nest w hw) hW (h.2 w hw)⟩
theorem SR.same {G : gT} {u U : State} (hv : U.vm = u.vm) (h : SR G u) : SR G U := ⟨fun q hq => vk_R.same hv (h.1 q hq), fun w hw => va_Nw.same (nw_tab (nW_nest w hw)) hv.symm (h.2 w hw)⟩
theorem Sx.go {G : gT} {s U : State} {locs : List Loc} (h : Sx G s) (hW : s.WarmedH U.vm) (hS : va_S (gA G) s.heap U.heap locs) : Sx G U :=
  ⟨va_K.moved hW.alike h.1, h.2.1.warm hW, (h.2.2.1.moved hW.alike).kept hS.2.1, Nat.le_trans h.2.2.2 hS.1⟩
theorem Sx.call {G : gT} {U : State} {g : JFrame} {mk : MethodId} {a : Array Value} (h : Sx G U) : Sx G (U.calling g mk a) :=
  ⟨va_K.moved (u := U) (U := U.calling g mk a) (Vm.Alike.refl U.vm) h.1, SR.same (u := U) rfl h.2.1, RO.moved (u := U) (U := U.calling g mk a) (Vm.Alike.refl U.vm) h.2.2.1, h.2.2.2⟩
/-- the locals, by their places -/
def lh (G : gT) (ls : Array Slot) (n : Nat) (lc : List (Option Value)) : Prop := ls.size = n ∧ lv_wf ls ∧ ∀ (i : Nat) (v : Value), lc[i]? = some (some v) → ls[i]? = some (.val (gre G v))
/-- a method's end -/
def mQ (G : gT) (Q : Option Value → wT → Prop) : Array Value → State → Outcome → State → Prop := fun _ st o t => ∃ (r : Option Value) (w : wT), o = .returned (r.map (gre G)) ∧ Q r w ∧ Hp G w t.heap ∧ va_F (gA G) st t
def Cx (G : gT) (M : mT) (p : Program) (s : State) (m : MethodId) (args : Array Value) (meth : Method) (c : Code) : Prop :=
  p.tables.exec = Jvm.exec ∧ c.code = mC M ∧ meth.sig.returnType = mRt M ∧ c.maxLocals = mLn M ∧ s.vm.findClass (mOwn M) = some m.cls ∧ (∀ w ∈ aW, w.before args s = true) ∧ meth.locks = false ∧ meth.name = (mY M).name ∧ Sx G s
/-- the walk: from this place of the method, with these locals, this stack, this world, it comes to an end with Q -/
def V (G : gT) (M : mT) (Q : Option Value → wT → Prop) (kc ks pc : Nat) (lc : List (Option Value)) (st : List Value) (w : wT) : Prop :=
  ∀ (p : Program) (l : Launch) (e : Env) (s : State) (m : MethodId) (args : Array Value) (below : List Frame) (meth : Method) (c : Code) (H : Heap) (locs : List Loc) (ls : Array Slot),
    Cx G M p s m args meth c → Hp G w H → va_S (gA G) s.heap H locs → lh G ls (mLn M) lc →
    W p l e (mRm M) s m args below meth c H locs kc ks (MQ below (mQ G Q) args s (mRm M).cells (mRm M).slots (gA G)) (F0 m pc ls (st.map (gre G)))
/-- a method's contract at these arguments in this world -/
def Meets (G : gT) (M : mT) (av : List Value) (w : wT) (Q : Option Value → wT → Prop) : Prop :=
  ∀ l : Launch, Met l (mY M) (mWs M) (mRm M) (fun v U => v = (av.map (gre G)).toArray ∧ Hp G w U.heap ∧ Sx G U) (mQ G Q) (mRm M).cells (mRm M).slots (gA G)
def lcOf : List Value → List (Option Value)
  | [] => []
  | v :: r => match v.category with
    | 2 => some v :: none :: lcOf r
    | _ => some v :: lcOf r
theorem lv_args_ge : ∀ (vs : List Value) (b : Nat) (q : Nat × Value), q ∈ lv_args b vs → b ≤ q.1 := by
  intro vs
  induction vs with
  | nil => intro b q h; cases h
  | cons v r ih =>
    intro b q h
    rcases List.mem_cons.mp h with h | h
    · subst h; exact Nat.le_refl _
    · have := ih _ q h
      split at this <;> omega
theorem lcOf_args (G : gT) : ∀ (vs : List Value) (b i : Nat) (v : Value), (lcOf vs)[i]? = some (some v) → (b + i, gre G v) ∈ lv_args b (vs.map (gre G)) := by
  intro vs
  induction vs with
  | nil => intro b i v h; simp [lcOf] at h
  | cons u r ih =>
    intro b i v h
    simp only [List.map_cons, lv_args, gre_cat]
    by_cases hc : u.category = 2
    · simp only [lcOf, hc] at h
      match i, h with
      | 0, h =>
        simp at h
        subst h
        exact List.mem_cons_self
      | 1, h => simp at h
      | i + 2, h =>
        simp at h
        refine List.mem_cons_of_mem _ ?_
        rw [if_pos hc]
        have := ih (b + 2) i v h
        rw [show b + (i + 2) = b + 2 + i by omega]
        exact this
    · have e : lcOf (u :: r) = some u :: lcOf r := by
        simp only [lcOf]
      rw [e] at h
      match i, h with
      | 0, h =>
        simp at h
        subst h
        exact List.mem_cons_self
      | i + 1, h =>
        simp at h
        refine List.mem_cons_of_mem _ ?_
        rw [if_neg hc]
        have := ih (b + 1) i v h
        rw [show b + (i + 1) = b + 1 + i by omega]
        exact this
theorem lg_sl_len (G : gT) : ∀ vs : List Value, (lg_sl (vs.map (gre G))).length = (lcOf vs).length := by
  intro vs
  induction vs with
  | nil => rfl
  | cons v r ih =>
    have e1 : lg_sl ((v :: r).map (gre G)) = (if (gre G v).category = 2 then [Slot.val (gre G v), Slot.second] else [Slot.val (gre G v)]) ++ lg_sl (r.map (gre G)) := by
      simp [lg_sl]
    rw [e1, List.length_append, ih, gre_cat]
    by_cases hc : v.category = 2
    · simp only [lcOf, hc, if_pos]
      simp; omega
    · have e : lcOf (v :: r) = some v :: lcOf r := by
        simp only [lcOf]
      rw [e, if_neg hc]
      simp; omega
theorem V.enter {G : gT} {M : mT} {av : List Value} {w : wT} {Q : Option Value → wT → Prop} {lc : List (Option Value)} (hpl : (plainName (mY M).cls && ((mY M).cls == mOwn M)) = true) (hlc : lcOf av ++ List.replicate (mLn M - (lcOf av).length) none = lc) (hn : (lcOf av).length ≤ mLn M) (h : V G M Q 0 0 0 lc [] w) : Meets G M av w Q := by
  intro l
  have hpl1 := (Bool.and_eq_true _ _ ▸ hpl).1
  have hpl2 : (mY M).cls = mOwn M := by
    have := (Bool.and_eq_true _ _ ▸ hpl).2
    simpa using this
  refine Met.ofW (cc := mC M) (maxL := mLn M) (ret := mRt M) hpl1 rfl ?_
  intro p e s m args below meth c s₁ B hml hv
  obtain ⟨rfl, hP, hX⟩ := hv
  have hts := atoms_spec (ws := mWs M) B.pre
  have hown : s.vm.findClass (mOwn M) = some m.cls := by rw [← hpl2]; exact findClass_of_methodNamed B.named
  have hl := lv_entry (av.map (gre G)) (n := mLn M) (by rw [lg_sl_len]; exact hn)
  rw [lg_entry_eq]
  refine h p l e s m _ below meth c s.heap [] _ ⟨B.exec, B.bytes, B.returns, hml, hown, fun w hw => hts w (List.mem_cons_of_mem _ hw), B.notSynchronized, (name_of_methodNamed B.named B.method).1, hX⟩ hP va_S.rf ⟨hl.1, hl.2.1, fun i v hi => ?_⟩
  subst hlc
  by_cases hi2 : i < (lcOf av).length
  · rw [List.getElem?_append_left hi2] at hi
    have := lcOf_args G av 0 i v hi
    rw [Nat.zero_add] at this
    exact hl.2.2 _ this
  · rw [List.getElem?_append_right (by omega)] at hi
    have := List.eq_of_mem_replicate (List.mem_of_getElem? hi)
    cases this
