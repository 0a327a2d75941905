/-- a decoded row: the instruction, its length, the next place; a jump's row: the next place and the target -/
abbrev dc (M : mT) (pc : Nat) (i : Instr) (n q : Nat) : Prop := decode (mC M) pc = .ok (i, n) ∧ pc + n = q
abbrev dj (M : mT) (pc : Nat) (i : Int → Instr) (q t : Nat) : Prop := ∃ off : Int, decode (mC M) pc = .ok (i off, 3) ∧ pc + 3 = q ∧ (pc : Int) + off = (t : Int)
section R5
variable {G : gT} {M : mT} {Q : Option Value → wT → Prop} {kc ks pc q t : Nat} {lc lc' : List (Option Value)} {st : List Value} {w : wT}
theorem V.eqw {w' : wT} (h : w = w') (k : V G M Q kc ks pc lc st w') : V G M Q kc ks pc lc st w := h ▸ k
theorem V.top {v v' : Value} (h : v = v') (k : V G M Q kc ks pc lc (v' :: st) w) : V G M Q kc ks pc lc (v :: st) w := h ▸ k
theorem V.topi {z z' : Int} (h : z = z') (k : V G M Q kc ks pc lc (vi z' :: st) w) : V G M Q kc ks pc lc (vi z :: st) w := h ▸ k
theorem V.topl {z z' : Int} (h : z = z') (k : V G M Q kc ks pc lc (vl z' :: st) w) : V G M Q kc ks pc lc (vl z :: st) w := h ▸ k
/-- a computed number gets a name -/
theorem V.geni {z : Int} (k : ∀ y : Int, y = z → V G M Q kc ks pc lc (vi y :: st) w) : V G M Q kc ks pc lc (vi z :: st) w := k z rfl
theorem V.genl {z : Int} (k : ∀ y : Int, y = z → V G M Q kc ks pc lc (vl y :: st) w) : V G M Q kc ks pc lc (vl z :: st) w := k z rfl
theorem V.weaken {Q' : Option Value → wT → Prop} (h : ∀ r w, Q' r w → Q r w) (k : V G M Q' kc ks pc lc st w) : V G M Q kc ks pc lc st w := by
  intro p l e s m args below meth c H locs ls C hP hS hl T hT X
  obtain ⟨t, h1, o, h2, h3, ⟨r, w', h4, h5, h6, h7⟩, h8⟩ := k p l e s m args below meth c H locs ls C hP hS hl T hT X
  exact ⟨t, h1, o, h2, h3, ⟨r, w', h4, h r w' h5, h6, h7⟩, h8⟩
theorem Vr_iadd {x y : Int32} (d : dc M pc .iadd 1 q) (k : V G M Q kc ks q lc (.int (x + y) :: st) w) : V G M Q kc ks pc lc (.int y :: .int x :: st) w := by
  obtain ⟨d, rfl⟩ := d
  intro p l e s m args below meth c H locs ls C hP hS hl
  have k := k p l e s m args below meth c H locs ls C hP hS hl
  exact lv_iadd C.1 C.2.1 d k
theorem Vr_isub {x y : Int32} (d : dc M pc .isub 1 q) (k : V G M Q kc ks q lc (.int (x - y) :: st) w) : V G M Q kc ks pc lc (.int y :: .int x :: st) w := by
  obtain ⟨d, rfl⟩ := d
  intro p l e s m args below meth c H locs ls C hP hS hl
  have k := k p l e s m args below meth c H locs ls C hP hS hl
  exact lv_isub C.1 C.2.1 d k
theorem Vr_imul {x y : Int32} (d : dc M pc .imul 1 q) (k : V G M Q kc ks q lc (.int (x * y) :: st) w) : V G M Q kc ks pc lc (.int y :: .int x :: st) w := by
  obtain ⟨d, rfl⟩ := d
  intro p l e s m args below meth c H locs ls C hP hS hl
  have k := k p l e s m args below meth c H locs ls C hP hS hl
  exact lv_imul C.1 C.2.1 d k
theorem Vr_iand {x y : Int32} (d : dc M pc .iand 1 q) (k : V G M Q kc ks q lc (.int (x &&& y) :: st) w) : V G M Q kc ks pc lc (.int y :: .int x :: st) w := by
  obtain ⟨d, rfl⟩ := d
  intro p l e s m args below meth c H locs ls C hP hS hl
  have k := k p l e s m args below meth c H locs ls C hP hS hl
  exact lv_iand C.1 C.2.1 d k
theorem Vr_ior {x y : Int32} (d : dc M pc .ior 1 q) (k : V G M Q kc ks q lc (.int (x ||| y) :: st) w) : V G M Q kc ks pc lc (.int y :: .int x :: st) w := by
  obtain ⟨d, rfl⟩ := d
  intro p l e s m args below meth c H locs ls C hP hS hl
  have k := k p l e s m args below meth c H locs ls C hP hS hl
  exact lv_ior C.1 C.2.1 d k
theorem Vr_ixor {x y : Int32} (d : dc M pc .ixor 1 q) (k : V G M Q kc ks q lc (.int (x ^^^ y) :: st) w) : V G M Q kc ks pc lc (.int y :: .int x :: st) w := by
  obtain ⟨d, rfl⟩ := d
  intro p l e s m args below meth c H locs ls C hP hS hl
  have k := k p l e s m args below meth c H locs ls C hP hS hl
  exact lv_ixor C.1 C.2.1 d k
theorem Vr_ishl {x y : Int32} (d : dc M pc .ishl 1 q) (k : V G M Q kc ks q lc (.int (x <<< (y &&& 31)) :: st) w) : V G M Q kc ks pc lc (.int y :: .int x :: st) w := by
  obtain ⟨d, rfl⟩ := d
  intro p l e s m args below meth c H locs ls C hP hS hl
  have k := k p l e s m args below meth c H locs ls C hP hS hl
  exact lv_ishl C.1 C.2.1 d k
theorem Vr_ishr {x y : Int32} (d : dc M pc .ishr 1 q) (k : V G M Q kc ks q lc (.int (x >>> (y &&& 31)) :: st) w) : V G M Q kc ks pc lc (.int y :: .int x :: st) w := by
  obtain ⟨d, rfl⟩ := d
  intro p l e s m args below meth c H locs ls C hP hS hl
  have k := k p l e s m args below meth c H locs ls C hP hS hl
  exact lv_ishr C.1 C.2.1 d k
theorem Vr_ladd {x y : Int64} (d : dc M pc .ladd 1 q) (k : V G M Q kc ks q lc (.long (x + y) :: st) w) : V G M Q kc ks pc lc (.long y :: .long x :: st) w := by
  obtain ⟨d, rfl⟩ := d
  intro p l e s m args below meth c H locs ls C hP hS hl
  have k := k p l e s m args below meth c H locs ls C hP hS hl
  exact lv_ladd C.1 C.2.1 d k
theorem Vr_lsub {x y : Int64} (d : dc M pc .lsub 1 q) (k : V G M Q kc ks q lc (.long (x - y) :: st) w) : V G M Q kc ks pc lc (.long y :: .long x :: st) w := by
  obtain ⟨d, rfl⟩ := d
  intro p l e s m args below meth c H locs ls C hP hS hl
  have k := k p l e s m args below meth c H locs ls C hP hS hl
  exact lv_lsub C.1 C.2.1 d k
theorem Vr_lmul {x y : Int64} (d : dc M pc .lmul 1 q) (k : V G M Q kc ks q lc (.long (x * y) :: st) w) : V G M Q kc ks pc lc (.long y :: .long x :: st) w := by
  obtain ⟨d, rfl⟩ := d
  intro p l e s m args below meth c H locs ls C hP hS hl
  have k := k p l e s m args below meth c H locs ls C hP hS hl
  exact lv_lmul C.1 C.2.1 d k
theorem Vr_land {x y : Int64} (d : dc M pc .land 1 q) (k : V G M Q kc ks q lc (.long (x &&& y) :: st) w) : V G M Q kc ks pc lc (.long y :: .long x :: st) w := by
  obtain ⟨d, rfl⟩ := d
  intro p l e s m args below meth c H locs ls C hP hS hl
  have k := k p l e s m args below meth c H locs ls C hP hS hl
  exact lv_land C.1 C.2.1 d k
theorem Vr_lor {x y : Int64} (d : dc M pc .lor 1 q) (k : V G M Q kc ks q lc (.long (x ||| y) :: st) w) : V G M Q kc ks pc lc (.long y :: .long x :: st) w := by
  obtain ⟨d, rfl⟩ := d
  intro p l e s m args below meth c H locs ls C hP hS hl
  have k := k p l e s m args below meth c H locs ls C hP hS hl
  exact lv_lor C.1 C.2.1 d k
theorem Vr_iushr {x y : Int32} (d : dc M pc .iushr 1 q) (k : V G M Q kc ks q lc (.int ((x.toUInt32 >>> (y.toUInt32 &&& Int32.toUInt32 31)).toInt32) :: st) w) : V G M Q kc ks pc lc (.int y :: .int x :: st) w := by
  obtain ⟨d, rfl⟩ := d
  intro p l e s m args below meth c H locs ls C hP hS hl
  have k := k p l e s m args below meth c H locs ls C hP hS hl
  exact lv_iushr C.1 C.2.1 d rfl k
theorem Vr_lshl {x : Int64} {y : Int32} (d : dc M pc .lshl 1 q) (k : V G M Q kc ks q lc (.long (x <<< (y.toInt64 &&& 63)) :: st) w) : V G M Q kc ks pc lc (.int y :: .long x :: st) w := by
  obtain ⟨d, rfl⟩ := d
  intro p l e s m args below meth c H locs ls C hP hS hl
  have k := k p l e s m args below meth c H locs ls C hP hS hl
  exact lv_lshl C.1 C.2.1 d rfl k
theorem Vr_lshr {x : Int64} {y : Int32} (d : dc M pc .lshr 1 q) (k : V G M Q kc ks q lc (.long (x >>> (y.toInt64 &&& 63)) :: st) w) : V G M Q kc ks pc lc (.int y :: .long x :: st) w := by
  obtain ⟨d, rfl⟩ := d
  intro p l e s m args below meth c H locs ls C hP hS hl
  have k := k p l e s m args below meth c H locs ls C hP hS hl
  exact lv_lshr C.1 C.2.1 d rfl k
theorem Vr_lushr {x : Int64} {y : Int32} (d : dc M pc .lushr 1 q) (k : V G M Q kc ks q lc (.long ((x.toUInt64 >>> (y.toInt64.toUInt64 &&& Int64.toUInt64 63)).toInt64) :: st) w) : V G M Q kc ks pc lc (.int y :: .long x :: st) w := by
  obtain ⟨d, rfl⟩ := d
  intro p l e s m args below meth c H locs ls C hP hS hl
  have k := k p l e s m args below meth c H locs ls C hP hS hl
  exact lv_lushr C.1 C.2.1 d rfl k
theorem Vr_ineg {x : Int32} (d : dc M pc .ineg 1 q) (k : V G M Q kc ks q lc (.int (-x) :: st) w) : V G M Q kc ks pc lc (.int x :: st) w := by
  obtain ⟨d, rfl⟩ := d
  intro p l e s m args below meth c H locs ls C hP hS hl
  have k := k p l e s m args below meth c H locs ls C hP hS hl
  exact lv_ineg C.1 C.2.1 d k
theorem Vr_i2l {x : Int32} (d : dc M pc .i2l 1 q) (k : V G M Q kc ks q lc (.long x.toInt64 :: st) w) : V G M Q kc ks pc lc (.int x :: st) w := by
  obtain ⟨d, rfl⟩ := d
  intro p l e s m args below meth c H locs ls C hP hS hl
  have k := k p l e s m args below meth c H locs ls C hP hS hl
  exact lv_i2l C.1 C.2.1 d rfl k
theorem Vr_l2i {x : Int64} (d : dc M pc .l2i 1 q) (k : V G M Q kc ks q lc (.int x.toInt32 :: st) w) : V G M Q kc ks pc lc (.long x :: st) w := by
  obtain ⟨d, rfl⟩ := d
  intro p l e s m args below meth c H locs ls C hP hS hl
  have k := k p l e s m args below meth c H locs ls C hP hS hl
  exact lv_l2i C.1 C.2.1 d rfl k
theorem Vr_i2c {x : Int32} (d : dc M pc .i2c 1 q) (k : V G M Q kc ks q lc (.int ((x.toUInt32 % 65536).toInt32) :: st) w) : V G M Q kc ks pc lc (.int x :: st) w := by
  obtain ⟨d, rfl⟩ := d
  intro p l e s m args below meth c H locs ls C hP hS hl
  have k := k p l e s m args below meth c H locs ls C hP hS hl
  exact lv_i2c C.1 C.2.1 d rfl k
theorem Vr_idiv {x y : Int32} (hne : ¬ y = 0) (d : dc M pc .idiv 1 q) (k : V G M Q kc ks q lc (.int (x / y) :: st) w) : V G M Q kc ks pc lc (.int y :: .int x :: st) w := by
  obtain ⟨d, rfl⟩ := d
  intro p l e s m args below meth c H locs ls C hP hS hl
  have k := k p l e s m args below meth c H locs ls C hP hS hl
  exact lv_idiv C.1 C.2.1 d hne k
theorem Vr_irem {x y : Int32} (hne : ¬ y = 0) (d : dc M pc .irem 1 q) (k : V G M Q kc ks q lc (.int (x - x / y * y) :: st) w) : V G M Q kc ks pc lc (.int y :: .int x :: st) w := by
  obtain ⟨d, rfl⟩ := d
  intro p l e s m args below meth c H locs ls C hP hS hl
  have k := k p l e s m args below meth c H locs ls C hP hS hl
  exact lv_irem C.1 C.2.1 d hne k
theorem Vr_ldiv {x y : Int64} (hne : ¬ y = 0) (d : dc M pc .ldiv 1 q) (k : V G M Q kc ks q lc (.long (x / y) :: st) w) : V G M Q kc ks pc lc (.long y :: .long x :: st) w := by
  obtain ⟨d, rfl⟩ := d
  intro p l e s m args below meth c H locs ls C hP hS hl
  have k := k p l e s m args below meth c H locs ls C hP hS hl
  exact lv_ldiv C.1 C.2.1 d hne k
theorem Vr_lcmp {x y : Int64} (d : dc M pc .lcmp 1 q) (k : V G M Q kc ks q lc (.int (lg_cmp x y) :: st) w) : V G M Q kc ks pc lc (.long y :: .long x :: st) w := by
  obtain ⟨d, rfl⟩ := d
  intro p l e s m args below meth c H locs ls C hP hS hl
  have k := k p l e s m args below meth c H locs ls C hP hS hl
  exact W.lcmp C.1 C.2.1 d k
theorem V_iconst {n : Int} (d : dc M pc (.iconst n) 1 q) (k : V G M Q kc ks q lc (vi n :: st) w) : V G M Q kc ks pc lc st w := by
  obtain ⟨d, rfl⟩ := d
  intro p l e s m args below meth c H locs ls C hP hS hl
  have k := k p l e s m args below meth c H locs ls C hP hS hl
  exact lv_iconst C.1 C.2.1 d rfl k
theorem V_bipush {n : Int} (hv : (Int8.ofInt n).toInt32 = Int32.ofInt n) (d : dc M pc (.bipush n) 2 q) (k : V G M Q kc ks q lc (vi n :: st) w) : V G M Q kc ks pc lc st w := by
  obtain ⟨d, rfl⟩ := d
  intro p l e s m args below meth c H locs ls C hP hS hl
  have k := k p l e s m args below meth c H locs ls C hP hS hl
  exact lv_bipush C.1 C.2.1 d hv k
theorem V_sipush {n : Int} (hv : (Int16.ofInt n).toInt32 = Int32.ofInt n) (d : dc M pc (.sipush n) 3 q) (k : V G M Q kc ks q lc (vi n :: st) w) : V G M Q kc ks pc lc st w := by
  obtain ⟨d, rfl⟩ := d
  intro p l e s m args below meth c H locs ls C hP hS hl
  have k := k p l e s m args below meth c H locs ls C hP hS hl
  exact lv_sipush C.1 C.2.1 d hv k
theorem V_lconst {n : Fin 2} {z : Int} (hv : Int64.ofNat (n : Nat) = Int64.ofInt z) (d : dc M pc (.lconst n) 1 q) (k : V G M Q kc ks q lc (vl z :: st) w) : V G M Q kc ks pc lc st w := by
  obtain ⟨d, rfl⟩ := d
  intro p l e s m args below meth c H locs ls C hP hS hl
  have k := k p l e s m args below meth c H locs ls C hP hS hl
  exact lv_lconst C.1 C.2.1 d hv k
theorem V_ldc {i : Nat} {z : Int} (hc : Cond.constant (mOwn M) i (Int32.ofInt z) ∈ aW) (d : dc M pc (.ldc i) 2 q) (k : V G M Q kc ks q lc (vi z :: st) w) : V G M Q kc ks pc lc st w := by
  obtain ⟨d, rfl⟩ := d
  intro p l e s m args below meth c H locs ls C hP hS hl
  have k := k p l e s m args below meth c H locs ls C hP hS hl
  exact lv_ldc C.1 C.2.1 C.2.2.2.2.1 (C.2.2.2.2.2.1 _ hc) d k
theorem V_ldcw {i : Nat} {z : Int} (hc : Cond.constant (mOwn M) i (Int32.ofInt z) ∈ aW) (d : dc M pc (.ldc_w i) 3 q) (k : V G M Q kc ks q lc (vi z :: st) w) : V G M Q kc ks pc lc st w := by
  obtain ⟨d, rfl⟩ := d
  intro p l e s m args below meth c H locs ls C hP hS hl
  have k := k p l e s m args below meth c H locs ls C hP hS hl
  exact lv_ldcw C.1 C.2.1 C.2.2.2.2.1 (C.2.2.2.2.2.1 _ hc) d k
theorem V_ldc2 {i : Nat} {z : Int} (hc : Cond.constantLong (mOwn M) i (Int64.ofInt z) ∈ aW) (d : dc M pc (.ldc2_w i) 3 q) (k : V G M Q kc ks q lc (vl z :: st) w) : V G M Q kc ks pc lc st w := by
  obtain ⟨d, rfl⟩ := d
  intro p l e s m args below meth c H locs ls C hP hS hl
  have k := k p l e s m args below meth c H locs ls C hP hS hl
  exact lv_ldc2 C.1 C.2.1 C.2.2.2.2.1 (C.2.2.2.2.2.1 _ hc) d k
theorem V_dup {v : Value} (hc : v.category = 1) (d : dc M pc .dup 1 q) (k : V G M Q kc ks q lc (v :: v :: st) w) : V G M Q kc ks pc lc (v :: st) w := by
  obtain ⟨d, rfl⟩ := d
  intro p l e s m args below meth c H locs ls C hP hS hl
  have k := k p l e s m args below meth c H locs ls C hP hS hl
  exact lv_dup C.1 C.2.1 d ((gre_cat G v).trans hc) k
theorem V_dup2 {v u : Value} (hv : v.category = 1) (hu : u.category = 1) (d : dc M pc .dup2 1 q) (k : V G M Q kc ks q lc (v :: u :: v :: u :: st) w) : V G M Q kc ks pc lc (v :: u :: st) w := by
  obtain ⟨d, rfl⟩ := d
  intro p l e s m args below meth c H locs ls C hP hS hl
  have k := k p l e s m args below meth c H locs ls C hP hS hl
  exact lv_dup2_11 C.1 C.2.1 d ((gre_cat G v).trans hv) ((gre_cat G u).trans hu) k
theorem V_pop {v : Value} (hc : v.category = 1) (d : dc M pc .pop 1 q) (k : V G M Q kc ks q lc st w) : V G M Q kc ks pc lc (v :: st) w := by
  obtain ⟨d, rfl⟩ := d
  intro p l e s m args below meth c H locs ls C hP hS hl
  have k := k p l e s m args below meth c H locs ls C hP hS hl
  exact lv_pop C.1 C.2.1 d ((gre_cat G v).trans hc) k
theorem V_iload {i : Nat} {a : Int} (h : lc[i]? = some (some (vi a))) (d : dc M pc (.iload i) 2 q) (k : V G M Q kc ks q lc (vi a :: st) w) : V G M Q kc ks pc lc st w := by
  obtain ⟨d, rfl⟩ := d
  intro p l e s m args below meth c H locs ls C hP hS hl
  have k := k p l e s m args below meth c H locs ls C hP hS hl
  exact lv_iload C.1 C.2.1 d (hl.2.2 i _ h) k
theorem V_iload_n {i : Fin 4} {a : Int} (h : lc[(i : Nat)]? = some (some (vi a))) (d : dc M pc (.iload_n i) 1 q) (k : V G M Q kc ks q lc (vi a :: st) w) : V G M Q kc ks pc lc st w := by
  obtain ⟨d, rfl⟩ := d
  intro p l e s m args below meth c H locs ls C hP hS hl
  have k := k p l e s m args below meth c H locs ls C hP hS hl
  exact lv_iload_n C.1 C.2.1 d rfl (hl.2.2 _ _ h) k
theorem V_lload {i : Nat} {a : Int} (h : lc[i]? = some (some (vl a))) (d : dc M pc (.lload i) 2 q) (k : V G M Q kc ks q lc (vl a :: st) w) : V G M Q kc ks pc lc st w := by
  obtain ⟨d, rfl⟩ := d
  intro p l e s m args below meth c H locs ls C hP hS hl
  have k := k p l e s m args below meth c H locs ls C hP hS hl
  exact lv_lload C.1 C.2.1 d (hl.2.2 i _ h) k
theorem V_lload_n {i : Fin 4} {a : Int} (h : lc[(i : Nat)]? = some (some (vl a))) (d : dc M pc (.lload_n i) 1 q) (k : V G M Q kc ks q lc (vl a :: st) w) : V G M Q kc ks pc lc st w := by
  obtain ⟨d, rfl⟩ := d
  intro p l e s m args below meth c H locs ls C hP hS hl
  have k := k p l e s m args below meth c H locs ls C hP hS hl
  exact lv_lload_n C.1 C.2.1 d rfl (hl.2.2 _ _ h) k
theorem V_aload {i : Nat} {a : Nat} (h : lc[i]? = some (some (.ref a))) (d : dc M pc (.aload i) 2 q) (k : V G M Q kc ks q lc (.ref a :: st) w) : V G M Q kc ks pc lc st w := by
  obtain ⟨d, rfl⟩ := d
  intro p l e s m args below meth c H locs ls C hP hS hl
  have k := k p l e s m args below meth c H locs ls C hP hS hl
  exact lv_aload C.1 C.2.1 d (hl.2.2 i _ h) k
theorem V_aload_n {i : Fin 4} {a : Nat} (h : lc[(i : Nat)]? = some (some (.ref a))) (d : dc M pc (.aload_n i) 1 q) (k : V G M Q kc ks q lc (.ref a :: st) w) : V G M Q kc ks pc lc st w := by
  obtain ⟨d, rfl⟩ := d
  intro p l e s m args below meth c H locs ls C hP hS hl
  have k := k p l e s m args below meth c H locs ls C hP hS hl
  exact lv_aload_n C.1 C.2.1 d rfl (hl.2.2 _ _ h) k
/-- a value stored at a local: what is known of the locals behind it -/
def lcR (i : Nat) (v : Value) (lc lc' : List (Option Value)) : Prop := ∀ (j : Nat) (u : Value), lc'[j]? = some (some u) → (j = i ∧ u = v) ∨ (j ≠ i ∧ lc[j]? = some (some u) ∧ ¬ (j + 1 = i ∧ u.category = 2) ∧ (v.category = 2 → j ≠ i + 1))
def la (G : gT) (lc : List (Option Value)) : List (Nat × Value) := (List.range lc.length).filterMap (fun i => match lc[i]? with
  | some (some v) => some (i, gre G v)
  | _ => none)
theorem la_of {G : gT} {lc : List (Option Value)} {i : Nat} {v : Value} (h : lc[i]? = some (some v)) : (i, gre G v) ∈ la G lc := by
  refine List.mem_filterMap.mpr ⟨i, List.mem_range.mpr (List.getElem?_eq_some_iff.mp h).1, ?_⟩
  rw [h]
theorem la_to {G : gT} {lc : List (Option Value)} {q : Nat × Value} (h : q ∈ la G lc) : ∃ v, lc[q.1]? = some (some v) ∧ q.2 = gre G v := by
  obtain ⟨i, -, h2⟩ := List.mem_filterMap.mp h
  split at h2
  · rename_i v hv
    cases h2
    exact ⟨v, hv, rfl⟩
  · cases h2
theorem lh.has {G : gT} {ls : Array Slot} {n : Nat} {lc : List (Option Value)} (h : lh G ls n lc) : lv_has ls n (la G lc) := ⟨h.1, h.2.1, fun q hq => by
  obtain ⟨v, h1, h2⟩ := la_to hq
  rw [h2]
  exact h.2.2 _ _ h1⟩
theorem lh.set1 {G : gT} {ls : Array Slot} {n i : Nat} {v : Value} {lc lc' : List (Option Value)} (hc : v.category = 1) (hr : lcR i v lc lc') (h : lv_has ls n ((i, gre G v) :: (la G lc).filter (fun q => !(q.1 == i) && !(q.1 + 1 == i && q.2.category == 2)))) : lh G ls n lc' := by
  refine ⟨h.1, h.2.1, fun j u hu => ?_⟩
  rcases hr j u hu with ⟨rfl, rfl⟩ | ⟨h1, h2, h3, -⟩
  · exact h.2.2 _ List.mem_cons_self
  · refine h.2.2 (j, gre G u) (List.mem_cons_of_mem _ (List.mem_filter.mpr ⟨la_of h2, ?_⟩))
    simp only [gre_cat]
    simp [h1]
    exact Classical.not_and_iff_not_or_not.mp h3
theorem lh.set2 {G : gT} {ls : Array Slot} {n i : Nat} {v : Value} {lc lc' : List (Option Value)} (hc : v.category = 2) (hr : lcR i v lc lc') (h : lv_has ls n ((i, gre G v) :: (la G lc).filter (fun q => !(q.1 == i) && (!(q.1 == i + 1) && !(q.1 + 1 == i && q.2.category == 2))))) : lh G ls n lc' := by
  refine ⟨h.1, h.2.1, fun j u hu => ?_⟩
  rcases hr j u hu with ⟨rfl, rfl⟩ | ⟨h1, h2, h3, h6⟩
  · exact h.2.2 _ List.mem_cons_self
  · refine h.2.2 (j, gre G u) (List.mem_cons_of_mem _ (List.mem_filter.mpr ⟨la_of h2, ?_⟩))
    simp only [gre_cat]
    simp [h1, h6 hc]
    exact Classical.not_and_iff_not_or_not.mp h3
theorem V_istore {i : Nat} {a : Int} (hn : i < mLn M) (hr : lcR i (vi a) lc lc') (d : dc M pc (.istore i) 2 q) (k : V G M Q kc ks q lc' st w) : V G M Q kc ks pc lc (vi a :: st) w := by
  obtain ⟨d, rfl⟩ := d
  intro p l e s m args below meth c H locs ls C hP hS hl
  exact lv_istore C.1 C.2.1 d hl.has hn rfl fun ls' hl' => k p l e s m args below meth c H locs ls' C hP hS (lh.set1 (v := vi a) rfl hr hl')
theorem V_istore_n {i : Fin 4} {a : Int} (hn : (i : Nat) < mLn M) (hr : lcR (i : Nat) (vi a) lc lc') (d : dc M pc (.istore_n i) 1 q) (k : V G M Q kc ks q lc' st w) : V G M Q kc ks pc lc (vi a :: st) w := by
  obtain ⟨d, rfl⟩ := d
  intro p l e s m args below meth c H locs ls C hP hS hl
  exact lv_istore_n C.1 C.2.1 d rfl hl.has hn rfl fun ls' hl' => k p l e s m args below meth c H locs ls' C hP hS (lh.set1 (v := vi a) rfl hr hl')
theorem V_lstore {i : Nat} {a : Int} (hn : i + 1 < mLn M) (hr : lcR i (vl a) lc lc') (d : dc M pc (.lstore i) 2 q) (k : V G M Q kc ks q lc' st w) : V G M Q kc ks pc lc (vl a :: st) w := by
  obtain ⟨d, rfl⟩ := d
  intro p l e s m args below meth c H locs ls C hP hS hl
  exact lv_lstore C.1 C.2.1 d hl.has hn rfl fun ls' hl' => k p l e s m args below meth c H locs ls' C hP hS (lh.set2 (v := vl a) rfl hr hl')
theorem V_lstore_n {i : Fin 4} {a : Int} (hn : (i : Nat) + 1 < mLn M) (hr : lcR (i : Nat) (vl a) lc lc') (d : dc M pc (.lstore_n i) 1 q) (k : V G M Q kc ks q lc' st w) : V G M Q kc ks pc lc (vl a :: st) w := by
  obtain ⟨d, rfl⟩ := d
  intro p l e s m args below meth c H locs ls C hP hS hl
  exact lv_lstore_n C.1 C.2.1 d rfl hl.has hn rfl fun ls' hl' => k p l e s m args below meth c H locs ls' C hP hS (lh.set2 (v := vl a) rfl hr hl')
theorem V_astore {i : Nat} {a : Nat} (hn : i < mLn M) (hr : lcR i (.ref a) lc lc') (d : dc M pc (.astore i) 2 q) (k : V G M Q kc ks q lc' st w) : V G M Q kc ks pc lc (.ref a :: st) w := by
  obtain ⟨d, rfl⟩ := d
  intro p l e s m args below meth c H locs ls C hP hS hl
  exact lv_astore C.1 C.2.1 d hl.has hn rfl fun ls' hl' => k p l e s m args below meth c H locs ls' C hP hS (lh.set1 (v := .ref a) rfl hr hl')
theorem V_astore_n {i : Fin 4} {a : Nat} (hn : (i : Nat) < mLn M) (hr : lcR (i : Nat) (.ref a) lc lc') (d : dc M pc (.astore_n i) 1 q) (k : V G M Q kc ks q lc' st w) : V G M Q kc ks pc lc (.ref a :: st) w := by
  obtain ⟨d, rfl⟩ := d
  intro p l e s m args below meth c H locs ls C hP hS hl
  exact lv_astore_n C.1 C.2.1 d rfl hl.has hn rfl fun ls' hl' => k p l e s m args below meth c H locs ls' C hP hS (lh.set1 (v := .ref a) rfl hr hl')
theorem V_iinc {i : Nat} {n a : Int} (hn : i < mLn M) (h : lc[i]? = some (some (vi a))) (hr : lcR i (vi (a + n)) lc lc') (d : dc M pc (.iinc i n) 3 q) (k : V G M Q kc ks q lc' st w) : V G M Q kc ks pc lc st w := by
  obtain ⟨d, rfl⟩ := d
  intro p l e s m args below meth c H locs ls C hP hS hl
  obtain ⟨j, hj⟩ := List.getElem?_of_mem (la_of (G := G) h)
  exact lv_iinc C.1 C.2.1 d hl.has hj (by rw [← Int32.ofInt_add]) hn rfl fun ls' hl' => k p l e s m args below meth c H locs ls' C hP hS (lh.set1 (v := vi (a + n)) rfl hr hl')
def nc (a : Option Value) : Bool := match a with
  | some v => v.category != 2
  | none => true
theorem lcR_set {i : Nat} {v : Value} {lc : List (Option Value)} (hv : v.category = 1) (h : ∀ a, i ≠ 0 → lc[i - 1]? = some a → nc a = true) : lcR i v lc (lc.set i (some v)) := by
  intro j u hu
  rw [List.getElem?_set] at hu
  by_cases e : i = j
  · subst e
    rw [if_pos rfl] at hu
    split at hu
    · exact Or.inl ⟨rfl, (Option.some.inj (Option.some.inj hu)).symm⟩
    · cases hu
  · rw [if_neg e] at hu
    refine Or.inr ⟨Ne.symm e, hu, fun ⟨h1, h2⟩ => ?_, fun h3 => by rw [hv] at h3; cases h3⟩
    have := h (some u) (by omega) (by rw [show i - 1 = j by omega]; exact hu)
    simp [nc, h2] at this
theorem lcR_set2 {i : Nat} {v : Value} {lc : List (Option Value)} (h : ∀ a, i ≠ 0 → lc[i - 1]? = some a → nc a = true) : lcR i v lc ((lc.set i (some v)).set (i + 1) none) := by
  intro j u hu
  rw [List.getElem?_set] at hu
  by_cases e2 : i + 1 = j
  · subst e2
    rw [if_pos rfl] at hu
    split at hu <;> cases hu
  · rw [if_neg e2, List.getElem?_set] at hu
    by_cases e : i = j
    · subst e
      rw [if_pos rfl] at hu
      split at hu
      · exact Or.inl ⟨rfl, (Option.some.inj (Option.some.inj hu)).symm⟩
      · cases hu
    · rw [if_neg e] at hu
      refine Or.inr ⟨Ne.symm e, hu, fun ⟨h1, h2⟩ => ?_, fun _ => Ne.symm e2⟩
      have := h (some u) (by omega) (by rw [show i - 1 = j by omega]; exact hu)
      simp [nc, h2] at this
theorem lcR_less {i : Nat} {v : Value} {lc l1 l2 : List (Option Value)} (h : lcR i v l1 l2) (h0 : ∀ (j : Nat) (u : Value), l1[j]? = some (some u) → lc[j]? = some (some u)) : lcR i v lc l2 := by
  intro j u hu
  rcases h j u hu with h | ⟨h1, h2, h3, h4⟩
  · exact Or.inl h
  · exact Or.inr ⟨h1, h0 j u h2, h3, h4⟩
theorem lcx {k : Nat} {lc : List (Option Value)} : ∀ (j : Nat) (u : Value), (lc.set k none)[j]? = some (some u) → lc[j]? = some (some u) := by
  intro j u h
  rw [List.getElem?_set] at h
  by_cases e : k = j
  · rw [if_pos e] at h
    split at h <;> cases h
  · rw [if_neg e] at h
    exact h
theorem s_0 {a0 : Option Value} {r : List (Option Value)} {v : Value} (hv : v.category = 1) : lcR 0 v (a0 :: r) (some v :: r) := lcR_set hv (fun a h9 _ => absurd rfl h9)
theorem t_0 {a0 b : Option Value} {r : List (Option Value)} {v : Value} : lcR 0 v (a0 :: b :: r) (some v :: none :: r) := lcR_set2 (fun a h9 _ => absurd rfl h9)
theorem s_1 {a0 a1 : Option Value} {r : List (Option Value)} {v : Value} (hv : v.category = 1) (h : nc a0 = true) : lcR 1 v (a0 :: a1 :: r) (a0 :: some v :: r) := lcR_set hv (fun a _ h9 => by cases h9; exact h)
theorem t_1 {a0 a1 b : Option Value} {r : List (Option Value)} {v : Value} (h : nc a0 = true) : lcR 1 v (a0 :: a1 :: b :: r) (a0 :: some v :: none :: r) := lcR_set2 (fun a _ h9 => by cases h9; exact h)
theorem sc_1 {a1 x : Option Value} {r : List (Option Value)} {v : Value} (hv : v.category = 1) : lcR 1 v (x :: a1 :: r) (none :: some v :: r) := lcR_less (l1 := none :: a1 :: r) (lcR_set hv (fun a _ h9 => by cases h9; rfl)) (lcx (k := 0) (lc := x :: a1 :: r))
theorem tc_1 {a1 x b : Option Value} {r : List (Option Value)} {v : Value} : lcR 1 v (x :: a1 :: b :: r) (none :: some v :: none :: r) := lcR_less (l1 := none :: a1 :: b :: r) (lcR_set2 (fun a _ h9 => by cases h9; rfl)) (lcx (k := 0) (lc := x :: a1 :: b :: r))
theorem s_2 {a0 a1 a2 : Option Value} {r : List (Option Value)} {v : Value} (hv : v.category = 1) (h : nc a1 = true) : lcR 2 v (a0 :: a1 :: a2 :: r) (a0 :: a1 :: some v :: r) := lcR_set hv (fun a _ h9 => by cases h9; exact h)
theorem t_2 {a0 a1 a2 b : Option Value} {r : List (Option Value)} {v : Value} (h : nc a1 = true) : lcR 2 v (a0 :: a1 :: a2 :: b :: r) (a0 :: a1 :: some v :: none :: r) := lcR_set2 (fun a _ h9 => by cases h9; exact h)
theorem sc_2 {a0 a2 x : Option Value} {r : List (Option Value)} {v : Value} (hv : v.category = 1) : lcR 2 v (a0 :: x :: a2 :: r) (a0 :: none :: some v :: r) := lcR_less (l1 := a0 :: none :: a2 :: r) (lcR_set hv (fun a _ h9 => by cases h9; rfl)) (lcx (k := 1) (lc := a0 :: x :: a2 :: r))
theorem tc_2 {a0 a2 x b : Option Value} {r : List (Option Value)} {v : Value} : lcR 2 v (a0 :: x :: a2 :: b :: r) (a0 :: none :: some v :: none :: r) := lcR_less (l1 := a0 :: none :: a2 :: b :: r) (lcR_set2 (fun a _ h9 => by cases h9; rfl)) (lcx (k := 1) (lc := a0 :: x :: a2 :: b :: r))
theorem s_3 {a0 a1 a2 a3 : Option Value} {r : List (Option Value)} {v : Value} (hv : v.category = 1) (h : nc a2 = true) : lcR 3 v (a0 :: a1 :: a2 :: a3 :: r) (a0 :: a1 :: a2 :: some v :: r) := lcR_set hv (fun a _ h9 => by cases h9; exact h)
theorem t_3 {a0 a1 a2 a3 b : Option Value} {r : List (Option Value)} {v : Value} (h : nc a2 = true) : lcR 3 v (a0 :: a1 :: a2 :: a3 :: b :: r) (a0 :: a1 :: a2 :: some v :: none :: r) := lcR_set2 (fun a _ h9 => by cases h9; exact h)
theorem sc_3 {a0 a1 a3 x : Option Value} {r : List (Option Value)} {v : Value} (hv : v.category = 1) : lcR 3 v (a0 :: a1 :: x :: a3 :: r) (a0 :: a1 :: none :: some v :: r) := lcR_less (l1 := a0 :: a1 :: none :: a3 :: r) (lcR_set hv (fun a _ h9 => by cases h9; rfl)) (lcx (k := 2) (lc := a0 :: a1 :: x :: a3 :: r))
theorem tc_3 {a0 a1 a3 x b : Option Value} {r : List (Option Value)} {v : Value} : lcR 3 v (a0 :: a1 :: x :: a3 :: b :: r) (a0 :: a1 :: none :: some v :: none :: r) := lcR_less (l1 := a0 :: a1 :: none :: a3 :: b :: r) (lcR_set2 (fun a _ h9 => by cases h9; rfl)) (lcx (k := 2) (lc := a0 :: a1 :: x :: a3 :: b :: r))
theorem s_4 {a0 a1 a2 a3 a4 : Option Value} {r : List (Option Value)} {v : Value} (hv : v.category = 1) (h : nc a3 = true) : lcR 4 v (a0 :: a1 :: a2 :: a3 :: a4 :: r) (a0 :: a1 :: a2 :: a3 :: some v :: r) := lcR_set hv (fun a _ h9 => by cases h9; exact h)
theorem t_4 {a0 a1 a2 a3 a4 b : Option Value} {r : List (Option Value)} {v : Value} (h : nc a3 = true) : lcR 4 v (a0 :: a1 :: a2 :: a3 :: a4 :: b :: r) (a0 :: a1 :: a2 :: a3 :: some v :: none :: r) := lcR_set2 (fun a _ h9 => by cases h9; exact h)
theorem sc_4 {a0 a1 a2 a4 x : Option Value} {r : List (Option Value)} {v : Value} (hv : v.category = 1) : lcR 4 v (a0 :: a1 :: a2 :: x :: a4 :: r) (a0 :: a1 :: a2 :: none :: some v :: r) := lcR_less (l1 := a0 :: a1 :: a2 :: none :: a4 :: r) (lcR_set hv (fun a _ h9 => by cases h9; rfl)) (lcx (k := 3) (lc := a0 :: a1 :: a2 :: x :: a4 :: r))
theorem tc_4 {a0 a1 a2 a4 x b : Option Value} {r : List (Option Value)} {v : Value} : lcR 4 v (a0 :: a1 :: a2 :: x :: a4 :: b :: r) (a0 :: a1 :: a2 :: none :: some v :: none :: r) := lcR_less (l1 := a0 :: a1 :: a2 :: none :: a4 :: b :: r) (lcR_set2 (fun a _ h9 => by cases h9; rfl)) (lcx (k := 3) (lc := a0 :: a1 :: a2 :: x :: a4 :: b :: r))
theorem s_5 {a0 a1 a2 a3 a4 a5 : Option Value} {r : List (Option Value)} {v : Value} (hv : v.category = 1) (h : nc a4 = true) : lcR 5 v (a0 :: a1 :: a2 :: a3 :: a4 :: a5 :: r) (a0 :: a1 :: a2 :: a3 :: a4 :: some v :: r) := lcR_set hv (fun a _ h9 => by cases h9; exact h)
theorem t_5 {a0 a1 a2 a3 a4 a5 b : Option Value} {r : List (Option Value)} {v : Value} (h : nc a4 = true) : lcR 5 v (a0 :: a1 :: a2 :: a3 :: a4 :: a5 :: b :: r) (a0 :: a1 :: a2 :: a3 :: a4 :: some v :: none :: r) := lcR_set2 (fun a _ h9 => by cases h9; exact h)
theorem sc_5 {a0 a1 a2 a3 a5 x : Option Value} {r : List (Option Value)} {v : Value} (hv : v.category = 1) : lcR 5 v (a0 :: a1 :: a2 :: a3 :: x :: a5 :: r) (a0 :: a1 :: a2 :: a3 :: none :: some v :: r) := lcR_less (l1 := a0 :: a1 :: a2 :: a3 :: none :: a5 :: r) (lcR_set hv (fun a _ h9 => by cases h9; rfl)) (lcx (k := 4) (lc := a0 :: a1 :: a2 :: a3 :: x :: a5 :: r))
theorem tc_5 {a0 a1 a2 a3 a5 x b : Option Value} {r : List (Option Value)} {v : Value} : lcR 5 v (a0 :: a1 :: a2 :: a3 :: x :: a5 :: b :: r) (a0 :: a1 :: a2 :: a3 :: none :: some v :: none :: r) := lcR_less (l1 := a0 :: a1 :: a2 :: a3 :: none :: a5 :: b :: r) (lcR_set2 (fun a _ h9 => by cases h9; rfl)) (lcx (k := 4) (lc := a0 :: a1 :: a2 :: a3 :: x :: a5 :: b :: r))
theorem s_6 {a0 a1 a2 a3 a4 a5 a6 : Option Value} {r : List (Option Value)} {v : Value} (hv : v.category = 1) (h : nc a5 = true) : lcR 6 v (a0 :: a1 :: a2 :: a3 :: a4 :: a5 :: a6 :: r) (a0 :: a1 :: a2 :: a3 :: a4 :: a5 :: some v :: r) := lcR_set hv (fun a _ h9 => by cases h9; exact h)
theorem t_6 {a0 a1 a2 a3 a4 a5 a6 b : Option Value} {r : List (Option Value)} {v : Value} (h : nc a5 = true) : lcR 6 v (a0 :: a1 :: a2 :: a3 :: a4 :: a5 :: a6 :: b :: r) (a0 :: a1 :: a2 :: a3 :: a4 :: a5 :: some v :: none :: r) := lcR_set2 (fun a _ h9 => by cases h9; exact h)
theorem sc_6 {a0 a1 a2 a3 a4 a6 x : Option Value} {r : List (Option Value)} {v : Value} (hv : v.category = 1) : lcR 6 v (a0 :: a1 :: a2 :: a3 :: a4 :: x :: a6 :: r) (a0 :: a1 :: a2 :: a3 :: a4 :: none :: some v :: r) := lcR_less (l1 := a0 :: a1 :: a2 :: a3 :: a4 :: none :: a6 :: r) (lcR_set hv (fun a _ h9 => by cases h9; rfl)) (lcx (k := 5) (lc := a0 :: a1 :: a2 :: a3 :: a4 :: x :: a6 :: r))
theorem tc_6 {a0 a1 a2 a3 a4 a6 x b : Option Value} {r : List (Option Value)} {v : Value} : lcR 6 v (a0 :: a1 :: a2 :: a3 :: a4 :: x :: a6 :: b :: r) (a0 :: a1 :: a2 :: a3 :: a4 :: none :: some v :: none :: r) := lcR_less (l1 := a0 :: a1 :: a2 :: a3 :: a4 :: none :: a6 :: b :: r) (lcR_set2 (fun a _ h9 => by cases h9; rfl)) (lcx (k := 5) (lc := a0 :: a1 :: a2 :: a3 :: a4 :: x :: a6 :: b :: r))
theorem s_7 {a0 a1 a2 a3 a4 a5 a6 a7 : Option Value} {r : List (Option Value)} {v : Value} (hv : v.category = 1) (h : nc a6 = true) : lcR 7 v (a0 :: a1 :: a2 :: a3 :: a4 :: a5 :: a6 :: a7 :: r) (a0 :: a1 :: a2 :: a3 :: a4 :: a5 :: a6 :: some v :: r) := lcR_set hv (fun a _ h9 => by cases h9; exact h)
theorem t_7 {a0 a1 a2 a3 a4 a5 a6 a7 b : Option Value} {r : List (Option Value)} {v : Value} (h : nc a6 = true) : lcR 7 v (a0 :: a1 :: a2 :: a3 :: a4 :: a5 :: a6 :: a7 :: b :: r) (a0 :: a1 :: a2 :: a3 :: a4 :: a5 :: a6 :: some v :: none :: r) := lcR_set2 (fun a _ h9 => by cases h9; exact h)
theorem sc_7 {a0 a1 a2 a3 a4 a5 a7 x : Option Value} {r : List (Option Value)} {v : Value} (hv : v.category = 1) : lcR 7 v (a0 :: a1 :: a2 :: a3 :: a4 :: a5 :: x :: a7 :: r) (a0 :: a1 :: a2 :: a3 :: a4 :: a5 :: none :: some v :: r) := lcR_less (l1 := a0 :: a1 :: a2 :: a3 :: a4 :: a5 :: none :: a7 :: r) (lcR_set hv (fun a _ h9 => by cases h9; rfl)) (lcx (k := 6) (lc := a0 :: a1 :: a2 :: a3 :: a4 :: a5 :: x :: a7 :: r))
theorem tc_7 {a0 a1 a2 a3 a4 a5 a7 x b : Option Value} {r : List (Option Value)} {v : Value} : lcR 7 v (a0 :: a1 :: a2 :: a3 :: a4 :: a5 :: x :: a7 :: b :: r) (a0 :: a1 :: a2 :: a3 :: a4 :: a5 :: none :: some v :: none :: r) := lcR_less (l1 := a0 :: a1 :: a2 :: a3 :: a4 :: a5 :: none :: a7 :: b :: r) (lcR_set2 (fun a _ h9 => by cases h9; rfl)) (lcx (k := 6) (lc := a0 :: a1 :: a2 :: a3 :: a4 :: a5 :: x :: a7 :: b :: r))
theorem s_8 {a0 a1 a2 a3 a4 a5 a6 a7 a8 : Option Value} {r : List (Option Value)} {v : Value} (hv : v.category = 1) (h : nc a7 = true) : lcR 8 v (a0 :: a1 :: a2 :: a3 :: a4 :: a5 :: a6 :: a7 :: a8 :: r) (a0 :: a1 :: a2 :: a3 :: a4 :: a5 :: a6 :: a7 :: some v :: r) := lcR_set hv (fun a _ h9 => by cases h9; exact h)
theorem t_8 {a0 a1 a2 a3 a4 a5 a6 a7 a8 b : Option Value} {r : List (Option Value)} {v : Value} (h : nc a7 = true) : lcR 8 v (a0 :: a1 :: a2 :: a3 :: a4 :: a5 :: a6 :: a7 :: a8 :: b :: r) (a0 :: a1 :: a2 :: a3 :: a4 :: a5 :: a6 :: a7 :: some v :: none :: r) := lcR_set2 (fun a _ h9 => by cases h9; exact h)
theorem sc_8 {a0 a1 a2 a3 a4 a5 a6 a8 x : Option Value} {r : List (Option Value)} {v : Value} (hv : v.category = 1) : lcR 8 v (a0 :: a1 :: a2 :: a3 :: a4 :: a5 :: a6 :: x :: a8 :: r) (a0 :: a1 :: a2 :: a3 :: a4 :: a5 :: a6 :: none :: some v :: r) := lcR_less (l1 := a0 :: a1 :: a2 :: a3 :: a4 :: a5 :: a6 :: none :: a8 :: r) (lcR_set hv (fun a _ h9 => by cases h9; rfl)) (lcx (k := 7) (lc := a0 :: a1 :: a2 :: a3 :: a4 :: a5 :: a6 :: x :: a8 :: r))
theorem tc_8 {a0 a1 a2 a3 a4 a5 a6 a8 x b : Option Value} {r : List (Option Value)} {v : Value} : lcR 8 v (a0 :: a1 :: a2 :: a3 :: a4 :: a5 :: a6 :: x :: a8 :: b :: r) (a0 :: a1 :: a2 :: a3 :: a4 :: a5 :: a6 :: none :: some v :: none :: r) := lcR_less (l1 := a0 :: a1 :: a2 :: a3 :: a4 :: a5 :: a6 :: none :: a8 :: b :: r) (lcR_set2 (fun a _ h9 => by cases h9; rfl)) (lcx (k := 7) (lc := a0 :: a1 :: a2 :: a3 :: a4 :: a5 :: a6 :: x :: a8 :: b :: r))
theorem s_9 {a0 a1 a2 a3 a4 a5 a6 a7 a8 a9 : Option Value} {r : List (Option Value)} {v : Value} (hv : v.category = 1) (h : nc a8 = true) : lcR 9 v (a0 :: a1 :: a2 :: a3 :: a4 :: a5 :: a6 :: a7 :: a8 :: a9 :: r) (a0 :: a1 :: a2 :: a3 :: a4 :: a5 :: a6 :: a7 :: a8 :: some v :: r) := lcR_set hv (fun a _ h9 => by cases h9; exact h)
theorem t_9 {a0 a1 a2 a3 a4 a5 a6 a7 a8 a9 b : Option Value} {r : List (Option Value)} {v : Value} (h : nc a8 = true) : lcR 9 v (a0 :: a1 :: a2 :: a3 :: a4 :: a5 :: a6 :: a7 :: a8 :: a9 :: b :: r) (a0 :: a1 :: a2 :: a3 :: a4 :: a5 :: a6 :: a7 :: a8 :: some v :: none :: r) := lcR_set2 (fun a _ h9 => by cases h9; exact h)
theorem sc_9 {a0 a1 a2 a3 a4 a5 a6 a7 a9 x : Option Value} {r : List (Option Value)} {v : Value} (hv : v.category = 1) : lcR 9 v (a0 :: a1 :: a2 :: a3 :: a4 :: a5 :: a6 :: a7 :: x :: a9 :: r) (a0 :: a1 :: a2 :: a3 :: a4 :: a5 :: a6 :: a7 :: none :: some v :: r) := lcR_less (l1 := a0 :: a1 :: a2 :: a3 :: a4 :: a5 :: a6 :: a7 :: none :: a9 :: r) (lcR_set hv (fun a _ h9 => by cases h9; rfl)) (lcx (k := 8) (lc := a0 :: a1 :: a2 :: a3 :: a4 :: a5 :: a6 :: a7 :: x :: a9 :: r))
theorem tc_9 {a0 a1 a2 a3 a4 a5 a6 a7 a9 x b : Option Value} {r : List (Option Value)} {v : Value} : lcR 9 v (a0 :: a1 :: a2 :: a3 :: a4 :: a5 :: a6 :: a7 :: x :: a9 :: b :: r) (a0 :: a1 :: a2 :: a3 :: a4 :: a5 :: a6 :: a7 :: none :: some v :: none :: r) := lcR_less (l1 := a0 :: a1 :: a2 :: a3 :: a4 :: a5 :: a6 :: a7 :: none :: a9 :: b :: r) (lcR_set2 (fun a _ h9 => by cases h9; rfl)) (lcx (k := 8) (lc := a0 :: a1 :: a2 :: a3 :: a4 :: a5 :: a6 :: a7 :: x :: a9 :: b :: r))
theorem s_10 {a0 a1 a2 a3 a4 a5 a6 a7 a8 a9 a10 : Option Value} {r : List (Option Value)} {v : Value} (hv : v.category = 1) (h : nc a9 = true) : lcR 10 v (a0 :: a1 :: a2 :: a3 :: a4 :: a5 :: a6 :: a7 :: a8 :: a9 :: a10 :: r) (a0 :: a1 :: a2 :: a3 :: a4 :: a5 :: a6 :: a7 :: a8 :: a9 :: some v :: r) := lcR_set hv (fun a _ h9 => by cases h9; exact h)
theorem t_10 {a0 a1 a2 a3 a4 a5 a6 a7 a8 a9 a10 b : Option Value} {r : List (Option Value)} {v : Value} (h : nc a9 = true) : lcR 10 v (a0 :: a1 :: a2 :: a3 :: a4 :: a5 :: a6 :: a7 :: a8 :: a9 :: a10 :: b :: r) (a0 :: a1 :: a2 :: a3 :: a4 :: a5 :: a6 :: a7 :: a8 :: a9 :: some v :: none :: r) := lcR_set2 (fun a _ h9 => by cases h9; exact h)
theorem sc_10 {a0 a1 a2 a3 a4 a5 a6 a7 a8 a10 x : Option Value} {r : List (Option Value)} {v : Value} (hv : v.category = 1) : lcR 10 v (a0 :: a1 :: a2 :: a3 :: a4 :: a5 :: a6 :: a7 :: a8 :: x :: a10 :: r) (a0 :: a1 :: a2 :: a3 :: a4 :: a5 :: a6 :: a7 :: a8 :: none :: some v :: r) := lcR_less (l1 := a0 :: a1 :: a2 :: a3 :: a4 :: a5 :: a6 :: a7 :: a8 :: none :: a10 :: r) (lcR_set hv (fun a _ h9 => by cases h9; rfl)) (lcx (k := 9) (lc := a0 :: a1 :: a2 :: a3 :: a4 :: a5 :: a6 :: a7 :: a8 :: x :: a10 :: r))
theorem tc_10 {a0 a1 a2 a3 a4 a5 a6 a7 a8 a10 x b : Option Value} {r : List (Option Value)} {v : Value} : lcR 10 v (a0 :: a1 :: a2 :: a3 :: a4 :: a5 :: a6 :: a7 :: a8 :: x :: a10 :: b :: r) (a0 :: a1 :: a2 :: a3 :: a4 :: a5 :: a6 :: a7 :: a8 :: none :: some v :: none :: r) := lcR_less (l1 := a0 :: a1 :: a2 :: a3 :: a4 :: a5 :: a6 :: a7 :: a8 :: none :: a10 :: b :: r) (lcR_set2 (fun a _ h9 => by cases h9; rfl)) (lcx (k := 9) (lc := a0 :: a1 :: a2 :: a3 :: a4 :: a5 :: a6 :: a7 :: a8 :: x :: a10 :: b :: r))
theorem s_11 {a0 a1 a2 a3 a4 a5 a6 a7 a8 a9 a10 a11 : Option Value} {r : List (Option Value)} {v : Value} (hv : v.category = 1) (h : nc a10 = true) : lcR 11 v (a0 :: a1 :: a2 :: a3 :: a4 :: a5 :: a6 :: a7 :: a8 :: a9 :: a10 :: a11 :: r) (a0 :: a1 :: a2 :: a3 :: a4 :: a5 :: a6 :: a7 :: a8 :: a9 :: a10 :: some v :: r) := lcR_set hv (fun a _ h9 => by cases h9; exact h)
theorem t_11 {a0 a1 a2 a3 a4 a5 a6 a7 a8 a9 a10 a11 b : Option Value} {r : List (Option Value)} {v : Value} (h : nc a10 = true) : lcR 11 v (a0 :: a1 :: a2 :: a3 :: a4 :: a5 :: a6 :: a7 :: a8 :: a9 :: a10 :: a11 :: b :: r) (a0 :: a1 :: a2 :: a3 :: a4 :: a5 :: a6 :: a7 :: a8 :: a9 :: a10 :: some v :: none :: r) := lcR_set2 (fun a _ h9 => by cases h9; exact h)
theorem sc_11 {a0 a1 a2 a3 a4 a5 a6 a7 a8 a9 a11 x : Option Value} {r : List (Option Value)} {v : Value} (hv : v.category = 1) : lcR 11 v (a0 :: a1 :: a2 :: a3 :: a4 :: a5 :: a6 :: a7 :: a8 :: a9 :: x :: a11 :: r) (a0 :: a1 :: a2 :: a3 :: a4 :: a5 :: a6 :: a7 :: a8 :: a9 :: none :: some v :: r) := lcR_less (l1 := a0 :: a1 :: a2 :: a3 :: a4 :: a5 :: a6 :: a7 :: a8 :: a9 :: none :: a11 :: r) (lcR_set hv (fun a _ h9 => by cases h9; rfl)) (lcx (k := 10) (lc := a0 :: a1 :: a2 :: a3 :: a4 :: a5 :: a6 :: a7 :: a8 :: a9 :: x :: a11 :: r))
theorem tc_11 {a0 a1 a2 a3 a4 a5 a6 a7 a8 a9 a11 x b : Option Value} {r : List (Option Value)} {v : Value} : lcR 11 v (a0 :: a1 :: a2 :: a3 :: a4 :: a5 :: a6 :: a7 :: a8 :: a9 :: x :: a11 :: b :: r) (a0 :: a1 :: a2 :: a3 :: a4 :: a5 :: a6 :: a7 :: a8 :: a9 :: none :: some v :: none :: r) := lcR_less (l1 := a0 :: a1 :: a2 :: a3 :: a4 :: a5 :: a6 :: a7 :: a8 :: a9 :: none :: a11 :: b :: r) (lcR_set2 (fun a _ h9 => by cases h9; rfl)) (lcx (k := 10) (lc := a0 :: a1 :: a2 :: a3 :: a4 :: a5 :: a6 :: a7 :: a8 :: a9 :: x :: a11 :: b :: r))
theorem s_12 {a0 a1 a2 a3 a4 a5 a6 a7 a8 a9 a10 a11 a12 : Option Value} {r : List (Option Value)} {v : Value} (hv : v.category = 1) (h : nc a11 = true) : lcR 12 v (a0 :: a1 :: a2 :: a3 :: a4 :: a5 :: a6 :: a7 :: a8 :: a9 :: a10 :: a11 :: a12 :: r) (a0 :: a1 :: a2 :: a3 :: a4 :: a5 :: a6 :: a7 :: a8 :: a9 :: a10 :: a11 :: some v :: r) := lcR_set hv (fun a _ h9 => by cases h9; exact h)
theorem t_12 {a0 a1 a2 a3 a4 a5 a6 a7 a8 a9 a10 a11 a12 b : Option Value} {r : List (Option Value)} {v : Value} (h : nc a11 = true) : lcR 12 v (a0 :: a1 :: a2 :: a3 :: a4 :: a5 :: a6 :: a7 :: a8 :: a9 :: a10 :: a11 :: a12 :: b :: r) (a0 :: a1 :: a2 :: a3 :: a4 :: a5 :: a6 :: a7 :: a8 :: a9 :: a10 :: a11 :: some v :: none :: r) := lcR_set2 (fun a _ h9 => by cases h9; exact h)
theorem sc_12 {a0 a1 a2 a3 a4 a5 a6 a7 a8 a9 a10 a12 x : Option Value} {r : List (Option Value)} {v : Value} (hv : v.category = 1) : lcR 12 v (a0 :: a1 :: a2 :: a3 :: a4 :: a5 :: a6 :: a7 :: a8 :: a9 :: a10 :: x :: a12 :: r) (a0 :: a1 :: a2 :: a3 :: a4 :: a5 :: a6 :: a7 :: a8 :: a9 :: a10 :: none :: some v :: r) := lcR_less (l1 := a0 :: a1 :: a2 :: a3 :: a4 :: a5 :: a6 :: a7 :: a8 :: a9 :: a10 :: none :: a12 :: r) (lcR_set hv (fun a _ h9 => by cases h9; rfl)) (lcx (k := 11) (lc := a0 :: a1 :: a2 :: a3 :: a4 :: a5 :: a6 :: a7 :: a8 :: a9 :: a10 :: x :: a12 :: r))
theorem tc_12 {a0 a1 a2 a3 a4 a5 a6 a7 a8 a9 a10 a12 x b : Option Value} {r : List (Option Value)} {v : Value} : lcR 12 v (a0 :: a1 :: a2 :: a3 :: a4 :: a5 :: a6 :: a7 :: a8 :: a9 :: a10 :: x :: a12 :: b :: r) (a0 :: a1 :: a2 :: a3 :: a4 :: a5 :: a6 :: a7 :: a8 :: a9 :: a10 :: none :: some v :: none :: r) := lcR_less (l1 := a0 :: a1 :: a2 :: a3 :: a4 :: a5 :: a6 :: a7 :: a8 :: a9 :: a10 :: none :: a12 :: b :: r) (lcR_set2 (fun a _ h9 => by cases h9; rfl)) (lcx (k := 11) (lc := a0 :: a1 :: a2 :: a3 :: a4 :: a5 :: a6 :: a7 :: a8 :: a9 :: a10 :: x :: a12 :: b :: r))
theorem s_13 {a0 a1 a2 a3 a4 a5 a6 a7 a8 a9 a10 a11 a12 a13 : Option Value} {r : List (Option Value)} {v : Value} (hv : v.category = 1) (h : nc a12 = true) : lcR 13 v (a0 :: a1 :: a2 :: a3 :: a4 :: a5 :: a6 :: a7 :: a8 :: a9 :: a10 :: a11 :: a12 :: a13 :: r) (a0 :: a1 :: a2 :: a3 :: a4 :: a5 :: a6 :: a7 :: a8 :: a9 :: a10 :: a11 :: a12 :: some v :: r) := lcR_set hv (fun a _ h9 => by cases h9; exact h)
theorem t_13 {a0 a1 a2 a3 a4 a5 a6 a7 a8 a9 a10 a11 a12 a13 b : Option Value} {r : List (Option Value)} {v : Value} (h : nc a12 = true) : lcR 13 v (a0 :: a1 :: a2 :: a3 :: a4 :: a5 :: a6 :: a7 :: a8 :: a9 :: a10 :: a11 :: a12 :: a13 :: b :: r) (a0 :: a1 :: a2 :: a3 :: a4 :: a5 :: a6 :: a7 :: a8 :: a9 :: a10 :: a11 :: a12 :: some v :: none :: r) := lcR_set2 (fun a _ h9 => by cases h9; exact h)
theorem sc_13 {a0 a1 a2 a3 a4 a5 a6 a7 a8 a9 a10 a11 a13 x : Option Value} {r : List (Option Value)} {v : Value} (hv : v.category = 1) : lcR 13 v (a0 :: a1 :: a2 :: a3 :: a4 :: a5 :: a6 :: a7 :: a8 :: a9 :: a10 :: a11 :: x :: a13 :: r) (a0 :: a1 :: a2 :: a3 :: a4 :: a5 :: a6 :: a7 :: a8 :: a9 :: a10 :: a11 :: none :: some v :: r) := lcR_less (l1 := a0 :: a1 :: a2 :: a3 :: a4 :: a5 :: a6 :: a7 :: a8 :: a9 :: a10 :: a11 :: none :: a13 :: r) (lcR_set hv (fun a _ h9 => by cases h9; rfl)) (lcx (k := 12) (lc := a0 :: a1 :: a2 :: a3 :: a4 :: a5 :: a6 :: a7 :: a8 :: a9 :: a10 :: a11 :: x :: a13 :: r))
theorem tc_13 {a0 a1 a2 a3 a4 a5 a6 a7 a8 a9 a10 a11 a13 x b : Option Value} {r : List (Option Value)} {v : Value} : lcR 13 v (a0 :: a1 :: a2 :: a3 :: a4 :: a5 :: a6 :: a7 :: a8 :: a9 :: a10 :: a11 :: x :: a13 :: b :: r) (a0 :: a1 :: a2 :: a3 :: a4 :: a5 :: a6 :: a7 :: a8 :: a9 :: a10 :: a11 :: none :: some v :: none :: r) := lcR_less (l1 := a0 :: a1 :: a2 :: a3 :: a4 :: a5 :: a6 :: a7 :: a8 :: a9 :: a10 :: a11 :: none :: a13 :: b :: r) (lcR_set2 (fun a _ h9 => by cases h9; rfl)) (lcx (k := 12) (lc := a0 :: a1 :: a2 :: a3 :: a4 :: a5 :: a6 :: a7 :: a8 :: a9 :: a10 :: a11 :: x :: a13 :: b :: r))
theorem s_14 {a0 a1 a2 a3 a4 a5 a6 a7 a8 a9 a10 a11 a12 a13 a14 : Option Value} {r : List (Option Value)} {v : Value} (hv : v.category = 1) (h : nc a13 = true) : lcR 14 v (a0 :: a1 :: a2 :: a3 :: a4 :: a5 :: a6 :: a7 :: a8 :: a9 :: a10 :: a11 :: a12 :: a13 :: a14 :: r) (a0 :: a1 :: a2 :: a3 :: a4 :: a5 :: a6 :: a7 :: a8 :: a9 :: a10 :: a11 :: a12 :: a13 :: some v :: r) := lcR_set hv (fun a _ h9 => by cases h9; exact h)
theorem t_14 {a0 a1 a2 a3 a4 a5 a6 a7 a8 a9 a10 a11 a12 a13 a14 b : Option Value} {r : List (Option Value)} {v : Value} (h : nc a13 = true) : lcR 14 v (a0 :: a1 :: a2 :: a3 :: a4 :: a5 :: a6 :: a7 :: a8 :: a9 :: a10 :: a11 :: a12 :: a13 :: a14 :: b :: r) (a0 :: a1 :: a2 :: a3 :: a4 :: a5 :: a6 :: a7 :: a8 :: a9 :: a10 :: a11 :: a12 :: a13 :: some v :: none :: r) := lcR_set2 (fun a _ h9 => by cases h9; exact h)
theorem sc_14 {a0 a1 a2 a3 a4 a5 a6 a7 a8 a9 a10 a11 a12 a14 x : Option Value} {r : List (Option Value)} {v : Value} (hv : v.category = 1) : lcR 14 v (a0 :: a1 :: a2 :: a3 :: a4 :: a5 :: a6 :: a7 :: a8 :: a9 :: a10 :: a11 :: a12 :: x :: a14 :: r) (a0 :: a1 :: a2 :: a3 :: a4 :: a5 :: a6 :: a7 :: a8 :: a9 :: a10 :: a11 :: a12 :: none :: some v :: r) := lcR_less (l1 := a0 :: a1 :: a2 :: a3 :: a4 :: a5 :: a6 :: a7 :: a8 :: a9 :: a10 :: a11 :: a12 :: none :: a14 :: r) (lcR_set hv (fun a _ h9 => by cases h9; rfl)) (lcx (k := 13) (lc := a0 :: a1 :: a2 :: a3 :: a4 :: a5 :: a6 :: a7 :: a8 :: a9 :: a10 :: a11 :: a12 :: x :: a14 :: r))
theorem tc_14 {a0 a1 a2 a3 a4 a5 a6 a7 a8 a9 a10 a11 a12 a14 x b : Option Value} {r : List (Option Value)} {v : Value} : lcR 14 v (a0 :: a1 :: a2 :: a3 :: a4 :: a5 :: a6 :: a7 :: a8 :: a9 :: a10 :: a11 :: a12 :: x :: a14 :: b :: r) (a0 :: a1 :: a2 :: a3 :: a4 :: a5 :: a6 :: a7 :: a8 :: a9 :: a10 :: a11 :: a12 :: none :: some v :: none :: r) := lcR_less (l1 := a0 :: a1 :: a2 :: a3 :: a4 :: a5 :: a6 :: a7 :: a8 :: a9 :: a10 :: a11 :: a12 :: none :: a14 :: b :: r) (lcR_set2 (fun a _ h9 => by cases h9; rfl)) (lcx (k := 13) (lc := a0 :: a1 :: a2 :: a3 :: a4 :: a5 :: a6 :: a7 :: a8 :: a9 :: a10 :: a11 :: a12 :: x :: a14 :: b :: r))
theorem s_15 {a0 a1 a2 a3 a4 a5 a6 a7 a8 a9 a10 a11 a12 a13 a14 a15 : Option Value} {r : List (Option Value)} {v : Value} (hv : v.category = 1) (h : nc a14 = true) : lcR 15 v (a0 :: a1 :: a2 :: a3 :: a4 :: a5 :: a6 :: a7 :: a8 :: a9 :: a10 :: a11 :: a12 :: a13 :: a14 :: a15 :: r) (a0 :: a1 :: a2 :: a3 :: a4 :: a5 :: a6 :: a7 :: a8 :: a9 :: a10 :: a11 :: a12 :: a13 :: a14 :: some v :: r) := lcR_set hv (fun a _ h9 => by cases h9; exact h)
theorem t_15 {a0 a1 a2 a3 a4 a5 a6 a7 a8 a9 a10 a11 a12 a13 a14 a15 b : Option Value} {r : List (Option Value)} {v : Value} (h : nc a14 = true) : lcR 15 v (a0 :: a1 :: a2 :: a3 :: a4 :: a5 :: a6 :: a7 :: a8 :: a9 :: a10 :: a11 :: a12 :: a13 :: a14 :: a15 :: b :: r) (a0 :: a1 :: a2 :: a3 :: a4 :: a5 :: a6 :: a7 :: a8 :: a9 :: a10 :: a11 :: a12 :: a13 :: a14 :: some v :: none :: r) := lcR_set2 (fun a _ h9 => by cases h9; exact h)
theorem sc_15 {a0 a1 a2 a3 a4 a5 a6 a7 a8 a9 a10 a11 a12 a13 a15 x : Option Value} {r : List (Option Value)} {v : Value} (hv : v.category = 1) : lcR 15 v (a0 :: a1 :: a2 :: a3 :: a4 :: a5 :: a6 :: a7 :: a8 :: a9 :: a10 :: a11 :: a12 :: a13 :: x :: a15 :: r) (a0 :: a1 :: a2 :: a3 :: a4 :: a5 :: a6 :: a7 :: a8 :: a9 :: a10 :: a11 :: a12 :: a13 :: none :: some v :: r) := lcR_less (l1 := a0 :: a1 :: a2 :: a3 :: a4 :: a5 :: a6 :: a7 :: a8 :: a9 :: a10 :: a11 :: a12 :: a13 :: none :: a15 :: r) (lcR_set hv (fun a _ h9 => by cases h9; rfl)) (lcx (k := 14) (lc := a0 :: a1 :: a2 :: a3 :: a4 :: a5 :: a6 :: a7 :: a8 :: a9 :: a10 :: a11 :: a12 :: a13 :: x :: a15 :: r))
theorem tc_15 {a0 a1 a2 a3 a4 a5 a6 a7 a8 a9 a10 a11 a12 a13 a15 x b : Option Value} {r : List (Option Value)} {v : Value} : lcR 15 v (a0 :: a1 :: a2 :: a3 :: a4 :: a5 :: a6 :: a7 :: a8 :: a9 :: a10 :: a11 :: a12 :: a13 :: x :: a15 :: b :: r) (a0 :: a1 :: a2 :: a3 :: a4 :: a5 :: a6 :: a7 :: a8 :: a9 :: a10 :: a11 :: a12 :: a13 :: none :: some v :: none :: r) := lcR_less (l1 := a0 :: a1 :: a2 :: a3 :: a4 :: a5 :: a6 :: a7 :: a8 :: a9 :: a10 :: a11 :: a12 :: a13 :: none :: a15 :: b :: r) (lcR_set2 (fun a _ h9 => by cases h9; rfl)) (lcx (k := 14) (lc := a0 :: a1 :: a2 :: a3 :: a4 :: a5 :: a6 :: a7 :: a8 :: a9 :: a10 :: a11 :: a12 :: a13 :: x :: a15 :: b :: r))
theorem s_16 {a0 a1 a2 a3 a4 a5 a6 a7 a8 a9 a10 a11 a12 a13 a14 a15 a16 : Option Value} {r : List (Option Value)} {v : Value} (hv : v.category = 1) (h : nc a15 = true) : lcR 16 v (a0 :: a1 :: a2 :: a3 :: a4 :: a5 :: a6 :: a7 :: a8 :: a9 :: a10 :: a11 :: a12 :: a13 :: a14 :: a15 :: a16 :: r) (a0 :: a1 :: a2 :: a3 :: a4 :: a5 :: a6 :: a7 :: a8 :: a9 :: a10 :: a11 :: a12 :: a13 :: a14 :: a15 :: some v :: r) := lcR_set hv (fun a _ h9 => by cases h9; exact h)
theorem t_16 {a0 a1 a2 a3 a4 a5 a6 a7 a8 a9 a10 a11 a12 a13 a14 a15 a16 b : Option Value} {r : List (Option Value)} {v : Value} (h : nc a15 = true) : lcR 16 v (a0 :: a1 :: a2 :: a3 :: a4 :: a5 :: a6 :: a7 :: a8 :: a9 :: a10 :: a11 :: a12 :: a13 :: a14 :: a15 :: a16 :: b :: r) (a0 :: a1 :: a2 :: a3 :: a4 :: a5 :: a6 :: a7 :: a8 :: a9 :: a10 :: a11 :: a12 :: a13 :: a14 :: a15 :: some v :: none :: r) := lcR_set2 (fun a _ h9 => by cases h9; exact h)
theorem sc_16 {a0 a1 a2 a3 a4 a5 a6 a7 a8 a9 a10 a11 a12 a13 a14 a16 x : Option Value} {r : List (Option Value)} {v : Value} (hv : v.category = 1) : lcR 16 v (a0 :: a1 :: a2 :: a3 :: a4 :: a5 :: a6 :: a7 :: a8 :: a9 :: a10 :: a11 :: a12 :: a13 :: a14 :: x :: a16 :: r) (a0 :: a1 :: a2 :: a3 :: a4 :: a5 :: a6 :: a7 :: a8 :: a9 :: a10 :: a11 :: a12 :: a13 :: a14 :: none :: some v :: r) := lcR_less (l1 := a0 :: a1 :: a2 :: a3 :: a4 :: a5 :: a6 :: a7 :: a8 :: a9 :: a10 :: a11 :: a12 :: a13 :: a14 :: none :: a16 :: r) (lcR_set hv (fun a _ h9 => by cases h9; rfl)) (lcx (k := 15) (lc := a0 :: a1 :: a2 :: a3 :: a4 :: a5 :: a6 :: a7 :: a8 :: a9 :: a10 :: a11 :: a12 :: a13 :: a14 :: x :: a16 :: r))
theorem tc_16 {a0 a1 a2 a3 a4 a5 a6 a7 a8 a9 a10 a11 a12 a13 a14 a16 x b : Option Value} {r : List (Option Value)} {v : Value} : lcR 16 v (a0 :: a1 :: a2 :: a3 :: a4 :: a5 :: a6 :: a7 :: a8 :: a9 :: a10 :: a11 :: a12 :: a13 :: a14 :: x :: a16 :: b :: r) (a0 :: a1 :: a2 :: a3 :: a4 :: a5 :: a6 :: a7 :: a8 :: a9 :: a10 :: a11 :: a12 :: a13 :: a14 :: none :: some v :: none :: r) := lcR_less (l1 := a0 :: a1 :: a2 :: a3 :: a4 :: a5 :: a6 :: a7 :: a8 :: a9 :: a10 :: a11 :: a12 :: a13 :: a14 :: none :: a16 :: b :: r) (lcR_set2 (fun a _ h9 => by cases h9; rfl)) (lcx (k := 15) (lc := a0 :: a1 :: a2 :: a3 :: a4 :: a5 :: a6 :: a7 :: a8 :: a9 :: a10 :: a11 :: a12 :: a13 :: a14 :: x :: a16 :: b :: r))
theorem s_17 {a0 a1 a2 a3 a4 a5 a6 a7 a8 a9 a10 a11 a12 a13 a14 a15 a16 a17 : Option Value} {r : List (Option Value)} {v : Value} (hv : v.category = 1) (h : nc a16 = true) : lcR 17 v (a0 :: a1 :: a2 :: a3 :: a4 :: a5 :: a6 :: a7 :: a8 :: a9 :: a10 :: a11 :: a12 :: a13 :: a14 :: a15 :: a16 :: a17 :: r) (a0 :: a1 :: a2 :: a3 :: a4 :: a5 :: a6 :: a7 :: a8 :: a9 :: a10 :: a11 :: a12 :: a13 :: a14 :: a15 :: a16 :: some v :: r) := lcR_set hv (fun a _ h9 => by cases h9; exact h)
theorem t_17 {a0 a1 a2 a3 a4 a5 a6 a7 a8 a9 a10 a11 a12 a13 a14 a15 a16 a17 b : Option Value} {r : List (Option Value)} {v : Value} (h : nc a16 = true) : lcR 17 v (a0 :: a1 :: a2 :: a3 :: a4 :: a5 :: a6 :: a7 :: a8 :: a9 :: a10 :: a11 :: a12 :: a13 :: a14 :: a15 :: a16 :: a17 :: b :: r) (a0 :: a1 :: a2 :: a3 :: a4 :: a5 :: a6 :: a7 :: a8 :: a9 :: a10 :: a11 :: a12 :: a13 :: a14 :: a15 :: a16 :: some v :: none :: r) := lcR_set2 (fun a _ h9 => by cases h9; exact h)
theorem sc_17 {a0 a1 a2 a3 a4 a5 a6 a7 a8 a9 a10 a11 a12 a13 a14 a15 a17 x : Option Value} {r : List (Option Value)} {v : Value} (hv : v.category = 1) : lcR 17 v (a0 :: a1 :: a2 :: a3 :: a4 :: a5 :: a6 :: a7 :: a8 :: a9 :: a10 :: a11 :: a12 :: a13 :: a14 :: a15 :: x :: a17 :: r) (a0 :: a1 :: a2 :: a3 :: a4 :: a5 :: a6 :: a7 :: a8 :: a9 :: a10 :: a11 :: a12 :: a13 :: a14 :: a15 :: none :: some v :: r) := lcR_less (l1 := a0 :: a1 :: a2 :: a3 :: a4 :: a5 :: a6 :: a7 :: a8 :: a9 :: a10 :: a11 :: a12 :: a13 :: a14 :: a15 :: none :: a17 :: r) (lcR_set hv (fun a _ h9 => by cases h9; rfl)) (lcx (k := 16) (lc := a0 :: a1 :: a2 :: a3 :: a4 :: a5 :: a6 :: a7 :: a8 :: a9 :: a10 :: a11 :: a12 :: a13 :: a14 :: a15 :: x :: a17 :: r))
theorem tc_17 {a0 a1 a2 a3 a4 a5 a6 a7 a8 a9 a10 a11 a12 a13 a14 a15 a17 x b : Option Value} {r : List (Option Value)} {v : Value} : lcR 17 v (a0 :: a1 :: a2 :: a3 :: a4 :: a5 :: a6 :: a7 :: a8 :: a9 :: a10 :: a11 :: a12 :: a13 :: a14 :: a15 :: x :: a17 :: b :: r) (a0 :: a1 :: a2 :: a3 :: a4 :: a5 :: a6 :: a7 :: a8 :: a9 :: a10 :: a11 :: a12 :: a13 :: a14 :: a15 :: none :: some v :: none :: r) := lcR_less (l1 := a0 :: a1 :: a2 :: a3 :: a4 :: a5 :: a6 :: a7 :: a8 :: a9 :: a10 :: a11 :: a12 :: a13 :: a14 :: a15 :: none :: a17 :: b :: r) (lcR_set2 (fun a _ h9 => by cases h9; rfl)) (lcx (k := 16) (lc := a0 :: a1 :: a2 :: a3 :: a4 :: a5 :: a6 :: a7 :: a8 :: a9 :: a10 :: a11 :: a12 :: a13 :: a14 :: a15 :: x :: a17 :: b :: r))
theorem s_18 {a0 a1 a2 a3 a4 a5 a6 a7 a8 a9 a10 a11 a12 a13 a14 a15 a16 a17 a18 : Option Value} {r : List (Option Value)} {v : Value} (hv : v.category = 1) (h : nc a17 = true) : lcR 18 v (a0 :: a1 :: a2 :: a3 :: a4 :: a5 :: a6 :: a7 :: a8 :: a9 :: a10 :: a11 :: a12 :: a13 :: a14 :: a15 :: a16 :: a17 :: a18 :: r) (a0 :: a1 :: a2 :: a3 :: a4 :: a5 :: a6 :: a7 :: a8 :: a9 :: a10 :: a11 :: a12 :: a13 :: a14 :: a15 :: a16 :: a17 :: some v :: r) := lcR_set hv (fun a _ h9 => by cases h9; exact h)
theorem t_18 {a0 a1 a2 a3 a4 a5 a6 a7 a8 a9 a10 a11 a12 a13 a14 a15 a16 a17 a18 b : Option Value} {r : List (Option Value)} {v : Value} (h : nc a17 = true) : lcR 18 v (a0 :: a1 :: a2 :: a3 :: a4 :: a5 :: a6 :: a7 :: a8 :: a9 :: a10 :: a11 :: a12 :: a13 :: a14 :: a15 :: a16 :: a17 :: a18 :: b :: r) (a0 :: a1 :: a2 :: a3 :: a4 :: a5 :: a6 :: a7 :: a8 :: a9 :: a10 :: a11 :: a12 :: a13 :: a14 :: a15 :: a16 :: a17 :: some v :: none :: r) := lcR_set2 (fun a _ h9 => by cases h9; exact h)
theorem sc_18 {a0 a1 a2 a3 a4 a5 a6 a7 a8 a9 a10 a11 a12 a13 a14 a15 a16 a18 x : Option Value} {r : List (Option Value)} {v : Value} (hv : v.category = 1) : lcR 18 v (a0 :: a1 :: a2 :: a3 :: a4 :: a5 :: a6 :: a7 :: a8 :: a9 :: a10 :: a11 :: a12 :: a13 :: a14 :: a15 :: a16 :: x :: a18 :: r) (a0 :: a1 :: a2 :: a3 :: a4 :: a5 :: a6 :: a7 :: a8 :: a9 :: a10 :: a11 :: a12 :: a13 :: a14 :: a15 :: a16 :: none :: some v :: r) := lcR_less (l1 := a0 :: a1 :: a2 :: a3 :: a4 :: a5 :: a6 :: a7 :: a8 :: a9 :: a10 :: a11 :: a12 :: a13 :: a14 :: a15 :: a16 :: none :: a18 :: r) (lcR_set hv (fun a _ h9 => by cases h9; rfl)) (lcx (k := 17) (lc := a0 :: a1 :: a2 :: a3 :: a4 :: a5 :: a6 :: a7 :: a8 :: a9 :: a10 :: a11 :: a12 :: a13 :: a14 :: a15 :: a16 :: x :: a18 :: r))
theorem tc_18 {a0 a1 a2 a3 a4 a5 a6 a7 a8 a9 a10 a11 a12 a13 a14 a15 a16 a18 x b : Option Value} {r : List (Option Value)} {v : Value} : lcR 18 v (a0 :: a1 :: a2 :: a3 :: a4 :: a5 :: a6 :: a7 :: a8 :: a9 :: a10 :: a11 :: a12 :: a13 :: a14 :: a15 :: a16 :: x :: a18 :: b :: r) (a0 :: a1 :: a2 :: a3 :: a4 :: a5 :: a6 :: a7 :: a8 :: a9 :: a10 :: a11 :: a12 :: a13 :: a14 :: a15 :: a16 :: none :: some v :: none :: r) := lcR_less (l1 := a0 :: a1 :: a2 :: a3 :: a4 :: a5 :: a6 :: a7 :: a8 :: a9 :: a10 :: a11 :: a12 :: a13 :: a14 :: a15 :: a16 :: none :: a18 :: b :: r) (lcR_set2 (fun a _ h9 => by cases h9; rfl)) (lcx (k := 17) (lc := a0 :: a1 :: a2 :: a3 :: a4 :: a5 :: a6 :: a7 :: a8 :: a9 :: a10 :: a11 :: a12 :: a13 :: a14 :: a15 :: a16 :: x :: a18 :: b :: r))
theorem s_19 {a0 a1 a2 a3 a4 a5 a6 a7 a8 a9 a10 a11 a12 a13 a14 a15 a16 a17 a18 a19 : Option Value} {r : List (Option Value)} {v : Value} (hv : v.category = 1) (h : nc a18 = true) : lcR 19 v (a0 :: a1 :: a2 :: a3 :: a4 :: a5 :: a6 :: a7 :: a8 :: a9 :: a10 :: a11 :: a12 :: a13 :: a14 :: a15 :: a16 :: a17 :: a18 :: a19 :: r) (a0 :: a1 :: a2 :: a3 :: a4 :: a5 :: a6 :: a7 :: a8 :: a9 :: a10 :: a11 :: a12 :: a13 :: a14 :: a15 :: a16 :: a17 :: a18 :: some v :: r) := lcR_set hv (fun a _ h9 => by cases h9; exact h)
theorem t_19 {a0 a1 a2 a3 a4 a5 a6 a7 a8 a9 a10 a11 a12 a13 a14 a15 a16 a17 a18 a19 b : Option Value} {r : List (Option Value)} {v : Value} (h : nc a18 = true) : lcR 19 v (a0 :: a1 :: a2 :: a3 :: a4 :: a5 :: a6 :: a7 :: a8 :: a9 :: a10 :: a11 :: a12 :: a13 :: a14 :: a15 :: a16 :: a17 :: a18 :: a19 :: b :: r) (a0 :: a1 :: a2 :: a3 :: a4 :: a5 :: a6 :: a7 :: a8 :: a9 :: a10 :: a11 :: a12 :: a13 :: a14 :: a15 :: a16 :: a17 :: a18 :: some v :: none :: r) := lcR_set2 (fun a _ h9 => by cases h9; exact h)
theorem sc_19 {a0 a1 a2 a3 a4 a5 a6 a7 a8 a9 a10 a11 a12 a13 a14 a15 a16 a17 a19 x : Option Value} {r : List (Option Value)} {v : Value} (hv : v.category = 1) : lcR 19 v (a0 :: a1 :: a2 :: a3 :: a4 :: a5 :: a6 :: a7 :: a8 :: a9 :: a10 :: a11 :: a12 :: a13 :: a14 :: a15 :: a16 :: a17 :: x :: a19 :: r) (a0 :: a1 :: a2 :: a3 :: a4 :: a5 :: a6 :: a7 :: a8 :: a9 :: a10 :: a11 :: a12 :: a13 :: a14 :: a15 :: a16 :: a17 :: none :: some v :: r) := lcR_less (l1 := a0 :: a1 :: a2 :: a3 :: a4 :: a5 :: a6 :: a7 :: a8 :: a9 :: a10 :: a11 :: a12 :: a13 :: a14 :: a15 :: a16 :: a17 :: none :: a19 :: r) (lcR_set hv (fun a _ h9 => by cases h9; rfl)) (lcx (k := 18) (lc := a0 :: a1 :: a2 :: a3 :: a4 :: a5 :: a6 :: a7 :: a8 :: a9 :: a10 :: a11 :: a12 :: a13 :: a14 :: a15 :: a16 :: a17 :: x :: a19 :: r))
theorem tc_19 {a0 a1 a2 a3 a4 a5 a6 a7 a8 a9 a10 a11 a12 a13 a14 a15 a16 a17 a19 x b : Option Value} {r : List (Option Value)} {v : Value} : lcR 19 v (a0 :: a1 :: a2 :: a3 :: a4 :: a5 :: a6 :: a7 :: a8 :: a9 :: a10 :: a11 :: a12 :: a13 :: a14 :: a15 :: a16 :: a17 :: x :: a19 :: b :: r) (a0 :: a1 :: a2 :: a3 :: a4 :: a5 :: a6 :: a7 :: a8 :: a9 :: a10 :: a11 :: a12 :: a13 :: a14 :: a15 :: a16 :: a17 :: none :: some v :: none :: r) := lcR_less (l1 := a0 :: a1 :: a2 :: a3 :: a4 :: a5 :: a6 :: a7 :: a8 :: a9 :: a10 :: a11 :: a12 :: a13 :: a14 :: a15 :: a16 :: a17 :: none :: a19 :: b :: r) (lcR_set2 (fun a _ h9 => by cases h9; rfl)) (lcx (k := 18) (lc := a0 :: a1 :: a2 :: a3 :: a4 :: a5 :: a6 :: a7 :: a8 :: a9 :: a10 :: a11 :: a12 :: a13 :: a14 :: a15 :: a16 :: a17 :: x :: a19 :: b :: r))
theorem s_20 {a0 a1 a2 a3 a4 a5 a6 a7 a8 a9 a10 a11 a12 a13 a14 a15 a16 a17 a18 a19 a20 : Option Value} {r : List (Option Value)} {v : Value} (hv : v.category = 1) (h : nc a19 = true) : lcR 20 v (a0 :: a1 :: a2 :: a3 :: a4 :: a5 :: a6 :: a7 :: a8 :: a9 :: a10 :: a11 :: a12 :: a13 :: a14 :: a15 :: a16 :: a17 :: a18 :: a19 :: a20 :: r) (a0 :: a1 :: a2 :: a3 :: a4 :: a5 :: a6 :: a7 :: a8 :: a9 :: a10 :: a11 :: a12 :: a13 :: a14 :: a15 :: a16 :: a17 :: a18 :: a19 :: some v :: r) := lcR_set hv (fun a _ h9 => by cases h9; exact h)
theorem t_20 {a0 a1 a2 a3 a4 a5 a6 a7 a8 a9 a10 a11 a12 a13 a14 a15 a16 a17 a18 a19 a20 b : Option Value} {r : List (Option Value)} {v : Value} (h : nc a19 = true) : lcR 20 v (a0 :: a1 :: a2 :: a3 :: a4 :: a5 :: a6 :: a7 :: a8 :: a9 :: a10 :: a11 :: a12 :: a13 :: a14 :: a15 :: a16 :: a17 :: a18 :: a19 :: a20 :: b :: r) (a0 :: a1 :: a2 :: a3 :: a4 :: a5 :: a6 :: a7 :: a8 :: a9 :: a10 :: a11 :: a12 :: a13 :: a14 :: a15 :: a16 :: a17 :: a18 :: a19 :: some v :: none :: r) := lcR_set2 (fun a _ h9 => by cases h9; exact h)
theorem sc_20 {a0 a1 a2 a3 a4 a5 a6 a7 a8 a9 a10 a11 a12 a13 a14 a15 a16 a17 a18 a20 x : Option Value} {r : List (Option Value)} {v : Value} (hv : v.category = 1) : lcR 20 v (a0 :: a1 :: a2 :: a3 :: a4 :: a5 :: a6 :: a7 :: a8 :: a9 :: a10 :: a11 :: a12 :: a13 :: a14 :: a15 :: a16 :: a17 :: a18 :: x :: a20 :: r) (a0 :: a1 :: a2 :: a3 :: a4 :: a5 :: a6 :: a7 :: a8 :: a9 :: a10 :: a11 :: a12 :: a13 :: a14 :: a15 :: a16 :: a17 :: a18 :: none :: some v :: r) := lcR_less (l1 := a0 :: a1 :: a2 :: a3 :: a4 :: a5 :: a6 :: a7 :: a8 :: a9 :: a10 :: a11 :: a12 :: a13 :: a14 :: a15 :: a16 :: a17 :: a18 :: none :: a20 :: r) (lcR_set hv (fun a _ h9 => by cases h9; rfl)) (lcx (k := 19) (lc := a0 :: a1 :: a2 :: a3 :: a4 :: a5 :: a6 :: a7 :: a8 :: a9 :: a10 :: a11 :: a12 :: a13 :: a14 :: a15 :: a16 :: a17 :: a18 :: x :: a20 :: r))
theorem tc_20 {a0 a1 a2 a3 a4 a5 a6 a7 a8 a9 a10 a11 a12 a13 a14 a15 a16 a17 a18 a20 x b : Option Value} {r : List (Option Value)} {v : Value} : lcR 20 v (a0 :: a1 :: a2 :: a3 :: a4 :: a5 :: a6 :: a7 :: a8 :: a9 :: a10 :: a11 :: a12 :: a13 :: a14 :: a15 :: a16 :: a17 :: a18 :: x :: a20 :: b :: r) (a0 :: a1 :: a2 :: a3 :: a4 :: a5 :: a6 :: a7 :: a8 :: a9 :: a10 :: a11 :: a12 :: a13 :: a14 :: a15 :: a16 :: a17 :: a18 :: none :: some v :: none :: r) := lcR_less (l1 := a0 :: a1 :: a2 :: a3 :: a4 :: a5 :: a6 :: a7 :: a8 :: a9 :: a10 :: a11 :: a12 :: a13 :: a14 :: a15 :: a16 :: a17 :: a18 :: none :: a20 :: b :: r) (lcR_set2 (fun a _ h9 => by cases h9; rfl)) (lcx (k := 19) (lc := a0 :: a1 :: a2 :: a3 :: a4 :: a5 :: a6 :: a7 :: a8 :: a9 :: a10 :: a11 :: a12 :: a13 :: a14 :: a15 :: a16 :: a17 :: a18 :: x :: a20 :: b :: r))
theorem s_21 {a0 a1 a2 a3 a4 a5 a6 a7 a8 a9 a10 a11 a12 a13 a14 a15 a16 a17 a18 a19 a20 a21 : Option Value} {r : List (Option Value)} {v : Value} (hv : v.category = 1) (h : nc a20 = true) : lcR 21 v (a0 :: a1 :: a2 :: a3 :: a4 :: a5 :: a6 :: a7 :: a8 :: a9 :: a10 :: a11 :: a12 :: a13 :: a14 :: a15 :: a16 :: a17 :: a18 :: a19 :: a20 :: a21 :: r) (a0 :: a1 :: a2 :: a3 :: a4 :: a5 :: a6 :: a7 :: a8 :: a9 :: a10 :: a11 :: a12 :: a13 :: a14 :: a15 :: a16 :: a17 :: a18 :: a19 :: a20 :: some v :: r) := lcR_set hv (fun a _ h9 => by cases h9; exact h)
theorem t_21 {a0 a1 a2 a3 a4 a5 a6 a7 a8 a9 a10 a11 a12 a13 a14 a15 a16 a17 a18 a19 a20 a21 b : Option Value} {r : List (Option Value)} {v : Value} (h : nc a20 = true) : lcR 21 v (a0 :: a1 :: a2 :: a3 :: a4 :: a5 :: a6 :: a7 :: a8 :: a9 :: a10 :: a11 :: a12 :: a13 :: a14 :: a15 :: a16 :: a17 :: a18 :: a19 :: a20 :: a21 :: b :: r) (a0 :: a1 :: a2 :: a3 :: a4 :: a5 :: a6 :: a7 :: a8 :: a9 :: a10 :: a11 :: a12 :: a13 :: a14 :: a15 :: a16 :: a17 :: a18 :: a19 :: a20 :: some v :: none :: r) := lcR_set2 (fun a _ h9 => by cases h9; exact h)
theorem sc_21 {a0 a1 a2 a3 a4 a5 a6 a7 a8 a9 a10 a11 a12 a13 a14 a15 a16 a17 a18 a19 a21 x : Option Value} {r : List (Option Value)} {v : Value} (hv : v.category = 1) : lcR 21 v (a0 :: a1 :: a2 :: a3 :: a4 :: a5 :: a6 :: a7 :: a8 :: a9 :: a10 :: a11 :: a12 :: a13 :: a14 :: a15 :: a16 :: a17 :: a18 :: a19 :: x :: a21 :: r) (a0 :: a1 :: a2 :: a3 :: a4 :: a5 :: a6 :: a7 :: a8 :: a9 :: a10 :: a11 :: a12 :: a13 :: a14 :: a15 :: a16 :: a17 :: a18 :: a19 :: none :: some v :: r) := lcR_less (l1 := a0 :: a1 :: a2 :: a3 :: a4 :: a5 :: a6 :: a7 :: a8 :: a9 :: a10 :: a11 :: a12 :: a13 :: a14 :: a15 :: a16 :: a17 :: a18 :: a19 :: none :: a21 :: r) (lcR_set hv (fun a _ h9 => by cases h9; rfl)) (lcx (k := 20) (lc := a0 :: a1 :: a2 :: a3 :: a4 :: a5 :: a6 :: a7 :: a8 :: a9 :: a10 :: a11 :: a12 :: a13 :: a14 :: a15 :: a16 :: a17 :: a18 :: a19 :: x :: a21 :: r))
theorem tc_21 {a0 a1 a2 a3 a4 a5 a6 a7 a8 a9 a10 a11 a12 a13 a14 a15 a16 a17 a18 a19 a21 x b : Option Value} {r : List (Option Value)} {v : Value} : lcR 21 v (a0 :: a1 :: a2 :: a3 :: a4 :: a5 :: a6 :: a7 :: a8 :: a9 :: a10 :: a11 :: a12 :: a13 :: a14 :: a15 :: a16 :: a17 :: a18 :: a19 :: x :: a21 :: b :: r) (a0 :: a1 :: a2 :: a3 :: a4 :: a5 :: a6 :: a7 :: a8 :: a9 :: a10 :: a11 :: a12 :: a13 :: a14 :: a15 :: a16 :: a17 :: a18 :: a19 :: none :: some v :: none :: r) := lcR_less (l1 := a0 :: a1 :: a2 :: a3 :: a4 :: a5 :: a6 :: a7 :: a8 :: a9 :: a10 :: a11 :: a12 :: a13 :: a14 :: a15 :: a16 :: a17 :: a18 :: a19 :: none :: a21 :: b :: r) (lcR_set2 (fun a _ h9 => by cases h9; rfl)) (lcx (k := 20) (lc := a0 :: a1 :: a2 :: a3 :: a4 :: a5 :: a6 :: a7 :: a8 :: a9 :: a10 :: a11 :: a12 :: a13 :: a14 :: a15 :: a16 :: a17 :: a18 :: a19 :: x :: a21 :: b :: r))
theorem Vr_icmpeq {x y : Int32} (d : dj M pc (.if_icmp .eq) q t) (kt : x = y → V G M Q kc ks t lc st w) (kf : ¬ x = y → V G M Q kc ks q lc st w) : V G M Q kc ks pc lc (.int y :: .int x :: st) w := by
  obtain ⟨off, d, rfl, ht⟩ := d
  intro p l e s m args below meth c H locs ls C hP hS hl
  exact lv_icmp_eq C.1 C.2.1 d ht (fun h => kt h p l e s m args below meth c H locs ls C hP hS hl) (fun h => kf h p l e s m args below meth c H locs ls C hP hS hl)
theorem Vr_icmpne {x y : Int32} (d : dj M pc (.if_icmp .ne) q t) (kt : ¬ x = y → V G M Q kc ks t lc st w) (kf : x = y → V G M Q kc ks q lc st w) : V G M Q kc ks pc lc (.int y :: .int x :: st) w := by
  obtain ⟨off, d, rfl, ht⟩ := d
  intro p l e s m args below meth c H locs ls C hP hS hl
  exact lv_icmp_ne C.1 C.2.1 d ht (fun h => kt h p l e s m args below meth c H locs ls C hP hS hl) (fun h => kf h p l e s m args below meth c H locs ls C hP hS hl)
theorem Vr_icmplt {x y : Int32} (d : dj M pc (.if_icmp .lt) q t) (kt : x < y → V G M Q kc ks t lc st w) (kf : ¬ x < y → V G M Q kc ks q lc st w) : V G M Q kc ks pc lc (.int y :: .int x :: st) w := by
  obtain ⟨off, d, rfl, ht⟩ := d
  intro p l e s m args below meth c H locs ls C hP hS hl
  exact lv_icmp_lt C.1 C.2.1 d ht (fun h => kt h p l e s m args below meth c H locs ls C hP hS hl) (fun h => kf h p l e s m args below meth c H locs ls C hP hS hl)
theorem Vr_icmpge {x y : Int32} (d : dj M pc (.if_icmp .ge) q t) (kt : y ≤ x → V G M Q kc ks t lc st w) (kf : ¬ y ≤ x → V G M Q kc ks q lc st w) : V G M Q kc ks pc lc (.int y :: .int x :: st) w := by
  obtain ⟨off, d, rfl, ht⟩ := d
  intro p l e s m args below meth c H locs ls C hP hS hl
  exact lv_icmp_ge C.1 C.2.1 d ht (fun h => kt h p l e s m args below meth c H locs ls C hP hS hl) (fun h => kf h p l e s m args below meth c H locs ls C hP hS hl)
theorem Vr_icmpgt {x y : Int32} (d : dj M pc (.if_icmp .gt) q t) (kt : y < x → V G M Q kc ks t lc st w) (kf : ¬ y < x → V G M Q kc ks q lc st w) : V G M Q kc ks pc lc (.int y :: .int x :: st) w := by
  obtain ⟨off, d, rfl, ht⟩ := d
  intro p l e s m args below meth c H locs ls C hP hS hl
  exact lv_icmp_gt C.1 C.2.1 d ht (fun h => kt h p l e s m args below meth c H locs ls C hP hS hl) (fun h => kf h p l e s m args below meth c H locs ls C hP hS hl)
theorem Vr_icmple {x y : Int32} (d : dj M pc (.if_icmp .le) q t) (kt : x ≤ y → V G M Q kc ks t lc st w) (kf : ¬ x ≤ y → V G M Q kc ks q lc st w) : V G M Q kc ks pc lc (.int y :: .int x :: st) w := by
  obtain ⟨off, d, rfl, ht⟩ := d
  intro p l e s m args below meth c H locs ls C hP hS hl
  exact lv_icmp_le C.1 C.2.1 d ht (fun h => kt h p l e s m args below meth c H locs ls C hP hS hl) (fun h => kf h p l e s m args below meth c H locs ls C hP hS hl)
theorem Vr_ifeq {x : Int32} (d : dj M pc (.ifCond .eq) q t) (kt : x = 0 → V G M Q kc ks t lc st w) (kf : ¬ x = 0 → V G M Q kc ks q lc st w) : V G M Q kc ks pc lc (.int x :: st) w := by
  obtain ⟨off, d, rfl, ht⟩ := d
  intro p l e s m args below meth c H locs ls C hP hS hl
  exact lv_if_eq C.1 C.2.1 d ht (fun h => kt h p l e s m args below meth c H locs ls C hP hS hl) (fun h => kf h p l e s m args below meth c H locs ls C hP hS hl)
theorem Vr_ifne {x : Int32} (d : dj M pc (.ifCond .ne) q t) (kt : ¬ x = 0 → V G M Q kc ks t lc st w) (kf : x = 0 → V G M Q kc ks q lc st w) : V G M Q kc ks pc lc (.int x :: st) w := by
  obtain ⟨off, d, rfl, ht⟩ := d
  intro p l e s m args below meth c H locs ls C hP hS hl
  exact lv_if_ne C.1 C.2.1 d ht (fun h => kt h p l e s m args below meth c H locs ls C hP hS hl) (fun h => kf h p l e s m args below meth c H locs ls C hP hS hl)
theorem Vr_iflt {x : Int32} (d : dj M pc (.ifCond .lt) q t) (kt : x < 0 → V G M Q kc ks t lc st w) (kf : ¬ x < 0 → V G M Q kc ks q lc st w) : V G M Q kc ks pc lc (.int x :: st) w := by
  obtain ⟨off, d, rfl, ht⟩ := d
  intro p l e s m args below meth c H locs ls C hP hS hl
  exact lv_if_lt C.1 C.2.1 d ht (fun h => kt h p l e s m args below meth c H locs ls C hP hS hl) (fun h => kf h p l e s m args below meth c H locs ls C hP hS hl)
theorem Vr_ifge {x : Int32} (d : dj M pc (.ifCond .ge) q t) (kt : 0 ≤ x → V G M Q kc ks t lc st w) (kf : ¬ 0 ≤ x → V G M Q kc ks q lc st w) : V G M Q kc ks pc lc (.int x :: st) w := by
  obtain ⟨off, d, rfl, ht⟩ := d
  intro p l e s m args below meth c H locs ls C hP hS hl
  exact lv_if_ge C.1 C.2.1 d ht (fun h => kt h p l e s m args below meth c H locs ls C hP hS hl) (fun h => kf h p l e s m args below meth c H locs ls C hP hS hl)
theorem Vr_ifgt {x : Int32} (d : dj M pc (.ifCond .gt) q t) (kt : 0 < x → V G M Q kc ks t lc st w) (kf : ¬ 0 < x → V G M Q kc ks q lc st w) : V G M Q kc ks pc lc (.int x :: st) w := by
  obtain ⟨off, d, rfl, ht⟩ := d
  intro p l e s m args below meth c H locs ls C hP hS hl
  exact lv_if_gt C.1 C.2.1 d ht (fun h => kt h p l e s m args below meth c H locs ls C hP hS hl) (fun h => kf h p l e s m args below meth c H locs ls C hP hS hl)
theorem Vr_ifle {x : Int32} (d : dj M pc (.ifCond .le) q t) (kt : x ≤ 0 → V G M Q kc ks t lc st w) (kf : ¬ x ≤ 0 → V G M Q kc ks q lc st w) : V G M Q kc ks pc lc (.int x :: st) w := by
  obtain ⟨off, d, rfl, ht⟩ := d
  intro p l e s m args below meth c H locs ls C hP hS hl
  exact lv_if_le C.1 C.2.1 d ht (fun h => kt h p l e s m args below meth c H locs ls C hP hS hl) (fun h => kf h p l e s m args below meth c H locs ls C hP hS hl)
theorem V_goto (d : dj M pc .goto q t) (k : V G M Q kc ks t lc st w) : V G M Q kc ks pc lc st w := by
  obtain ⟨off, d, rfl, ht⟩ := d
  intro p l e s m args below meth c H locs ls C hP hS hl
  exact lv_goto C.1 C.2.1 d ht (k p l e s m args below meth c H locs ls C hP hS hl)
end R5
