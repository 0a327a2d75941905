section R6
variable {G : gT} {M : mT} {Q : Option Value → wT → Prop} {kc ks pc q t : Nat} {lc lc' : List (Option Value)} {st : List Value} {w : wT}
theorem i32_lt {a b : Int} (ra : -2147483648 ≤ a ∧ a < 2147483648) (rb : -2147483648 ≤ b ∧ b < 2147483648) : Int32.ofInt a < Int32.ofInt b ↔ a < b := by
  rw [Int32.lt_iff_toInt_lt, Int32.toInt_ofInt_of_le (by omega) (by omega), Int32.toInt_ofInt_of_le (by omega) (by omega)]
theorem i32_le {a b : Int} (ra : -2147483648 ≤ a ∧ a < 2147483648) (rb : -2147483648 ≤ b ∧ b < 2147483648) : Int32.ofInt a ≤ Int32.ofInt b ↔ a ≤ b := by
  rw [Int32.le_iff_toInt_le, Int32.toInt_ofInt_of_le (by omega) (by omega), Int32.toInt_ofInt_of_le (by omega) (by omega)]
theorem i32_eq {a b : Int} (ra : -2147483648 ≤ a ∧ a < 2147483648) (rb : -2147483648 ≤ b ∧ b < 2147483648) : Int32.ofInt a = Int32.ofInt b ↔ a = b := by
  rw [← Int32.toInt_inj, Int32.toInt_ofInt_of_le (by omega) (by omega), Int32.toInt_ofInt_of_le (by omega) (by omega)]
theorem i64_lt {a b : Int} (ra : -9223372036854775808 ≤ a ∧ a < 9223372036854775808) (rb : -9223372036854775808 ≤ b ∧ b < 9223372036854775808) : Int64.ofInt a < Int64.ofInt b ↔ a < b := by
  rw [Int64.lt_iff_toInt_lt, Int64.toInt_ofInt_of_le (by omega) (by omega), Int64.toInt_ofInt_of_le (by omega) (by omega)]
theorem i64_eq {a b : Int} (ra : -9223372036854775808 ≤ a ∧ a < 9223372036854775808) (rb : -9223372036854775808 ≤ b ∧ b < 9223372036854775808) : Int64.ofInt a = Int64.ofInt b ↔ a = b := by
  rw [← Int64.toInt_inj, Int64.toInt_ofInt_of_le (by omega) (by omega), Int64.toInt_ofInt_of_le (by omega) (by omega)]
theorem i32_clamp {i : Int} (h : 0 ≤ i ∧ i < 2147483648) : (Int32.ofInt i).toNatClampNeg = i.toNat := by
  show (Int32.ofInt i).toInt.toNat = i.toNat
  rw [Int32.toInt_ofInt_of_le (by omega) (by omega)]
theorem i32_in {i : Int} {n : Nat} (h : 0 ≤ i ∧ i < n) (hn : n < 2147483648) : vp_in (Int32.ofInt i) n := by
  have e := i32_clamp (i := i) (by omega)
  intro hx
  rcases hx with hx | hx
  · have : Int32.ofInt i < Int32.ofInt 0 := hx
    rw [i32_lt (by omega) (by omega)] at this
    omega
  · rw [e] at hx
    omega
theorem i64_of {a : Int} (ra : -2147483648 ≤ a ∧ a < 2147483648) : (Int32.ofInt a).toInt64 = Int64.ofInt a := by
  apply Int64.toInt.inj
  rw [Int32.toInt_toInt64, Int32.toInt_ofInt_of_le (by omega) (by omega), Int64.toInt_ofInt_of_le (by omega) (by omega)]
theorem V_iadd {a b : Int} (d : dc M pc .iadd 1 q) (k : V G M Q kc ks q lc (vi (a + b) :: st) w) : V G M Q kc ks pc lc (vi b :: vi a :: st) w := Vr_iadd (x := Int32.ofInt a) (y := Int32.ofInt b) d (by rw [← Int32.ofInt_add]; exact k)
theorem V_isub {a b : Int} (d : dc M pc .isub 1 q) (k : V G M Q kc ks q lc (vi (a - b) :: st) w) : V G M Q kc ks pc lc (vi b :: vi a :: st) w := Vr_isub (x := Int32.ofInt a) (y := Int32.ofInt b) d (by rw [← Int32.ofInt_sub]; exact k)
theorem V_imul {a b : Int} (d : dc M pc .imul 1 q) (k : V G M Q kc ks q lc (vi (a * b) :: st) w) : V G M Q kc ks pc lc (vi b :: vi a :: st) w := Vr_imul (x := Int32.ofInt a) (y := Int32.ofInt b) d (by rw [← Int32.ofInt_mul]; exact k)
theorem V_ladd {a b : Int} (d : dc M pc .ladd 1 q) (k : V G M Q kc ks q lc (vl (a + b) :: st) w) : V G M Q kc ks pc lc (vl b :: vl a :: st) w := Vr_ladd (x := Int64.ofInt a) (y := Int64.ofInt b) d (by rw [← Int64.ofInt_add]; exact k)
theorem V_lsub {a b : Int} (d : dc M pc .lsub 1 q) (k : V G M Q kc ks q lc (vl (a - b) :: st) w) : V G M Q kc ks pc lc (vl b :: vl a :: st) w := Vr_lsub (x := Int64.ofInt a) (y := Int64.ofInt b) d (by rw [← Int64.ofInt_sub]; exact k)
theorem V_lmul {a b : Int} (d : dc M pc .lmul 1 q) (k : V G M Q kc ks q lc (vl (a * b) :: st) w) : V G M Q kc ks pc lc (vl b :: vl a :: st) w := Vr_lmul (x := Int64.ofInt a) (y := Int64.ofInt b) d (by rw [← Int64.ofInt_mul]; exact k)
theorem V_ineg {a : Int} (d : dc M pc .ineg 1 q) (k : V G M Q kc ks q lc (vi (-a) :: st) w) : V G M Q kc ks pc lc (vi a :: st) w := Vr_ineg (x := Int32.ofInt a) d (by rw [← Int32.ofInt_neg]; exact k)
theorem V_i2l {a : Int} (d : dc M pc .i2l 1 q) (k : V G M Q kc ks q lc (vl a :: st) w) (ra : -2147483648 ≤ a ∧ a < 2147483648 := by omega) : V G M Q kc ks pc lc (vi a :: st) w := Vr_i2l (x := Int32.ofInt a) d (by rw [i64_of ra]; exact k)
theorem V_l2i {a : Int} (d : dc M pc .l2i 1 q) (k : V G M Q kc ks q lc (vi a :: st) w) : V G M Q kc ks pc lc (vl a :: st) w := Vr_l2i (x := Int64.ofInt a) d (by rw [Int64.toInt32_ofInt]; exact k)
theorem i32_div {a b : Int} (hb : 0 < b ∧ b < 2147483648) (ra : -2147483648 ≤ a ∧ a < 2147483648) : Int32.ofInt a / Int32.ofInt b = Int32.ofInt (a.tdiv b) := (Int32.ofInt_tdiv (by show (-2147483648 : Int) ≤ a; omega) (by show a ≤ (2147483647 : Int); omega) (by show (-2147483648 : Int) ≤ b; omega) (by show b ≤ (2147483647 : Int); omega)).symm
theorem i64_div {a b : Int} (hb : 0 < b ∧ b < 9223372036854775808) (ra : -9223372036854775808 ≤ a ∧ a < 9223372036854775808) : Int64.ofInt a / Int64.ofInt b = Int64.ofInt (a.tdiv b) := (Int64.ofInt_tdiv (by show (-9223372036854775808 : Int) ≤ a; omega) (by show a ≤ (9223372036854775807 : Int); omega) (by show (-9223372036854775808 : Int) ≤ b; omega) (by show b ≤ (9223372036854775807 : Int); omega)).symm
theorem i32_ne0 {b : Int} (hb : 0 < b ∧ b < 2147483648) : ¬ Int32.ofInt b = 0 := by
  intro h
  have := (i32_eq (a := b) (b := 0) (by omega) (by omega)).mp h
  omega
theorem i64_ne0 {b : Int} (hb : 0 < b ∧ b < 9223372036854775808) : ¬ Int64.ofInt b = 0 := by
  intro h
  have := (i64_eq (a := b) (b := 0) (by omega) (by omega)).mp h
  omega
theorem V_idiv {a b : Int} (d : dc M pc .idiv 1 q) (k : V G M Q kc ks q lc (vi (a.tdiv b) :: st) w) (hb : 0 < b ∧ b < 2147483648 := by omega) (ra : -2147483648 ≤ a ∧ a < 2147483648 := by omega) : V G M Q kc ks pc lc (vi b :: vi a :: st) w := Vr_idiv (x := Int32.ofInt a) (y := Int32.ofInt b) (i32_ne0 hb) d (by rw [i32_div hb ra]; exact k)
theorem V_irem {a b : Int} (d : dc M pc .irem 1 q) (k : V G M Q kc ks q lc (vi (a.tmod b) :: st) w) (hb : 0 < b ∧ b < 2147483648 := by omega) (ra : -2147483648 ≤ a ∧ a < 2147483648 := by omega) : V G M Q kc ks pc lc (vi b :: vi a :: st) w := Vr_irem (x := Int32.ofInt a) (y := Int32.ofInt b) (i32_ne0 hb) d (by
  rw [i32_div hb ra, ← Int32.ofInt_mul, ← Int32.ofInt_sub, show a - a.tdiv b * b = a.tmod b by rw [Int.tmod_def, Int.mul_comm]]
  exact k)
theorem V_ldiv {a b : Int} (d : dc M pc .ldiv 1 q) (k : V G M Q kc ks q lc (vl (a.tdiv b) :: st) w) (hb : 0 < b ∧ b < 9223372036854775808 := by omega) (ra : -9223372036854775808 ≤ a ∧ a < 9223372036854775808 := by omega) : V G M Q kc ks pc lc (vl b :: vl a :: st) w := Vr_ldiv (x := Int64.ofInt a) (y := Int64.ofInt b) (i64_ne0 hb) d (by rw [i64_div hb ra]; exact k)
def iAnd (a b : Int) : Int := (Int32.ofInt a &&& Int32.ofInt b).toInt
def iOr (a b : Int) : Int := (Int32.ofInt a ||| Int32.ofInt b).toInt
def iXor (a b : Int) : Int := (Int32.ofInt a ^^^ Int32.ofInt b).toInt
def iShl (a b : Int) : Int := (Int32.ofInt a <<< (Int32.ofInt b &&& 31)).toInt
def iShr (a b : Int) : Int := (Int32.ofInt a >>> (Int32.ofInt b &&& 31)).toInt
def iUshr (a b : Int) : Int := (((Int32.ofInt a).toUInt32 >>> ((Int32.ofInt b).toUInt32 &&& Int32.toUInt32 31)).toInt32).toInt
def lAnd (a b : Int) : Int := (Int64.ofInt a &&& Int64.ofInt b).toInt
def lOr (a b : Int) : Int := (Int64.ofInt a ||| Int64.ofInt b).toInt
def lShl (a b : Int) : Int := (Int64.ofInt a <<< ((Int32.ofInt b).toInt64 &&& 63)).toInt
def lShr (a b : Int) : Int := (Int64.ofInt a >>> ((Int32.ofInt b).toInt64 &&& 63)).toInt
def lUshr (a b : Int) : Int := (((Int64.ofInt a).toUInt64 >>> ((Int32.ofInt b).toInt64.toUInt64 &&& Int64.toUInt64 63)).toInt64).toInt
def iChr (a : Int) : Int := (((Int32.ofInt a).toUInt32 % 65536).toInt32).toInt
theorem V_iand {a b : Int} (d : dc M pc .iand 1 q) (k : V G M Q kc ks q lc (vi (iAnd a b) :: st) w) : V G M Q kc ks pc lc (vi b :: vi a :: st) w := Vr_iand (x := Int32.ofInt a) (y := Int32.ofInt b) d (by unfold iAnd vi at k; rw [Int32.ofInt_toInt] at k; exact k)
theorem V_ior {a b : Int} (d : dc M pc .ior 1 q) (k : V G M Q kc ks q lc (vi (iOr a b) :: st) w) : V G M Q kc ks pc lc (vi b :: vi a :: st) w := Vr_ior (x := Int32.ofInt a) (y := Int32.ofInt b) d (by unfold iOr vi at k; rw [Int32.ofInt_toInt] at k; exact k)
theorem V_ixor {a b : Int} (d : dc M pc .ixor 1 q) (k : V G M Q kc ks q lc (vi (iXor a b) :: st) w) : V G M Q kc ks pc lc (vi b :: vi a :: st) w := Vr_ixor (x := Int32.ofInt a) (y := Int32.ofInt b) d (by unfold iXor vi at k; rw [Int32.ofInt_toInt] at k; exact k)
theorem V_ishl {a b : Int} (d : dc M pc .ishl 1 q) (k : V G M Q kc ks q lc (vi (iShl a b) :: st) w) : V G M Q kc ks pc lc (vi b :: vi a :: st) w := Vr_ishl (x := Int32.ofInt a) (y := Int32.ofInt b) d (by unfold iShl vi at k; rw [Int32.ofInt_toInt] at k; exact k)
theorem V_ishr {a b : Int} (d : dc M pc .ishr 1 q) (k : V G M Q kc ks q lc (vi (iShr a b) :: st) w) : V G M Q kc ks pc lc (vi b :: vi a :: st) w := Vr_ishr (x := Int32.ofInt a) (y := Int32.ofInt b) d (by unfold iShr vi at k; rw [Int32.ofInt_toInt] at k; exact k)
theorem V_iushr {a b : Int} (d : dc M pc .iushr 1 q) (k : V G M Q kc ks q lc (vi (iUshr a b) :: st) w) : V G M Q kc ks pc lc (vi b :: vi a :: st) w := Vr_iushr (x := Int32.ofInt a) (y := Int32.ofInt b) d (by unfold iUshr vi at k; rw [Int32.ofInt_toInt] at k; exact k)
theorem V_land {a b : Int} (d : dc M pc .land 1 q) (k : V G M Q kc ks q lc (vl (lAnd a b) :: st) w) : V G M Q kc ks pc lc (vl b :: vl a :: st) w := Vr_land (x := Int64.ofInt a) (y := Int64.ofInt b) d (by unfold lAnd vl at k; rw [Int64.ofInt_toInt] at k; exact k)
theorem V_lor {a b : Int} (d : dc M pc .lor 1 q) (k : V G M Q kc ks q lc (vl (lOr a b) :: st) w) : V G M Q kc ks pc lc (vl b :: vl a :: st) w := Vr_lor (x := Int64.ofInt a) (y := Int64.ofInt b) d (by unfold lOr vl at k; rw [Int64.ofInt_toInt] at k; exact k)
theorem V_lshl {a b : Int} (d : dc M pc .lshl 1 q) (k : V G M Q kc ks q lc (vl (lShl a b) :: st) w) : V G M Q kc ks pc lc (vi b :: vl a :: st) w := Vr_lshl (x := Int64.ofInt a) (y := Int32.ofInt b) d (by unfold lShl vl at k; rw [Int64.ofInt_toInt] at k; exact k)
theorem V_lshr {a b : Int} (d : dc M pc .lshr 1 q) (k : V G M Q kc ks q lc (vl (lShr a b) :: st) w) : V G M Q kc ks pc lc (vi b :: vl a :: st) w := Vr_lshr (x := Int64.ofInt a) (y := Int32.ofInt b) d (by unfold lShr vl at k; rw [Int64.ofInt_toInt] at k; exact k)
theorem V_lushr {a b : Int} (d : dc M pc .lushr 1 q) (k : V G M Q kc ks q lc (vl (lUshr a b) :: st) w) : V G M Q kc ks pc lc (vi b :: vl a :: st) w := Vr_lushr (x := Int64.ofInt a) (y := Int32.ofInt b) d (by unfold lUshr vl at k; rw [Int64.ofInt_toInt] at k; exact k)
theorem V_i2c {a : Int} (d : dc M pc .i2c 1 q) (k : V G M Q kc ks q lc (vi (iChr a) :: st) w) : V G M Q kc ks pc lc (vi a :: st) w := Vr_i2c (x := Int32.ofInt a) d (by unfold iChr vi at k; rw [Int32.ofInt_toInt] at k; exact k)
theorem V_icmpeq {a b : Int} (d : dj M pc (.if_icmp .eq) q t) (kt : a = b → V G M Q kc ks t lc st w) (kf : ¬ a = b → V G M Q kc ks q lc st w) (ra : -2147483648 ≤ a ∧ a < 2147483648 := by omega) (rb : -2147483648 ≤ b ∧ b < 2147483648 := by omega) : V G M Q kc ks pc lc (vi b :: vi a :: st) w := Vr_icmpeq (x := Int32.ofInt a) (y := Int32.ofInt b) d (fun h => kt (by rwa [i32_eq ra rb] at h)) (fun h => kf (by rwa [i32_eq ra rb] at h))
theorem V_icmpne {a b : Int} (d : dj M pc (.if_icmp .ne) q t) (kt : ¬ a = b → V G M Q kc ks t lc st w) (kf : a = b → V G M Q kc ks q lc st w) (ra : -2147483648 ≤ a ∧ a < 2147483648 := by omega) (rb : -2147483648 ≤ b ∧ b < 2147483648 := by omega) : V G M Q kc ks pc lc (vi b :: vi a :: st) w := Vr_icmpne (x := Int32.ofInt a) (y := Int32.ofInt b) d (fun h => kt (by rwa [i32_eq ra rb] at h)) (fun h => kf (by rwa [i32_eq ra rb] at h))
theorem V_icmplt {a b : Int} (d : dj M pc (.if_icmp .lt) q t) (kt : a < b → V G M Q kc ks t lc st w) (kf : ¬ a < b → V G M Q kc ks q lc st w) (ra : -2147483648 ≤ a ∧ a < 2147483648 := by omega) (rb : -2147483648 ≤ b ∧ b < 2147483648 := by omega) : V G M Q kc ks pc lc (vi b :: vi a :: st) w := Vr_icmplt (x := Int32.ofInt a) (y := Int32.ofInt b) d (fun h => kt (by rwa [i32_lt ra rb] at h)) (fun h => kf (by rwa [i32_lt ra rb] at h))
theorem V_icmpge {a b : Int} (d : dj M pc (.if_icmp .ge) q t) (kt : b ≤ a → V G M Q kc ks t lc st w) (kf : ¬ b ≤ a → V G M Q kc ks q lc st w) (ra : -2147483648 ≤ a ∧ a < 2147483648 := by omega) (rb : -2147483648 ≤ b ∧ b < 2147483648 := by omega) : V G M Q kc ks pc lc (vi b :: vi a :: st) w := Vr_icmpge (x := Int32.ofInt a) (y := Int32.ofInt b) d (fun h => kt (by rwa [i32_le rb ra] at h)) (fun h => kf (by rwa [i32_le rb ra] at h))
theorem V_icmpgt {a b : Int} (d : dj M pc (.if_icmp .gt) q t) (kt : b < a → V G M Q kc ks t lc st w) (kf : ¬ b < a → V G M Q kc ks q lc st w) (ra : -2147483648 ≤ a ∧ a < 2147483648 := by omega) (rb : -2147483648 ≤ b ∧ b < 2147483648 := by omega) : V G M Q kc ks pc lc (vi b :: vi a :: st) w := Vr_icmpgt (x := Int32.ofInt a) (y := Int32.ofInt b) d (fun h => kt (by rwa [i32_lt rb ra] at h)) (fun h => kf (by rwa [i32_lt rb ra] at h))
theorem V_icmple {a b : Int} (d : dj M pc (.if_icmp .le) q t) (kt : a ≤ b → V G M Q kc ks t lc st w) (kf : ¬ a ≤ b → V G M Q kc ks q lc st w) (ra : -2147483648 ≤ a ∧ a < 2147483648 := by omega) (rb : -2147483648 ≤ b ∧ b < 2147483648 := by omega) : V G M Q kc ks pc lc (vi b :: vi a :: st) w := Vr_icmple (x := Int32.ofInt a) (y := Int32.ofInt b) d (fun h => kt (by rwa [i32_le ra rb] at h)) (fun h => kf (by rwa [i32_le ra rb] at h))
theorem V_ifeq {a : Int} (d : dj M pc (.ifCond .eq) q t) (kt : a = 0 → V G M Q kc ks t lc st w) (kf : ¬ a = 0 → V G M Q kc ks q lc st w) (ra : -2147483648 ≤ a ∧ a < 2147483648 := by omega) : V G M Q kc ks pc lc (vi a :: st) w := Vr_ifeq (x := Int32.ofInt a) d (fun h => kt (by have h : Int32.ofInt a = Int32.ofInt 0 := h; rwa [i32_eq (b := 0) ra (by omega)] at h)) (fun h => kf (by have h : ¬ Int32.ofInt a = Int32.ofInt 0 := h; rwa [i32_eq (b := 0) ra (by omega)] at h))
theorem V_ifne {a : Int} (d : dj M pc (.ifCond .ne) q t) (kt : ¬ a = 0 → V G M Q kc ks t lc st w) (kf : a = 0 → V G M Q kc ks q lc st w) (ra : -2147483648 ≤ a ∧ a < 2147483648 := by omega) : V G M Q kc ks pc lc (vi a :: st) w := Vr_ifne (x := Int32.ofInt a) d (fun h => kt (by have h : ¬ Int32.ofInt a = Int32.ofInt 0 := h; rwa [i32_eq (b := 0) ra (by omega)] at h)) (fun h => kf (by have h : Int32.ofInt a = Int32.ofInt 0 := h; rwa [i32_eq (b := 0) ra (by omega)] at h))
theorem V_iflt {a : Int} (d : dj M pc (.ifCond .lt) q t) (kt : a < 0 → V G M Q kc ks t lc st w) (kf : ¬ a < 0 → V G M Q kc ks q lc st w) (ra : -2147483648 ≤ a ∧ a < 2147483648 := by omega) : V G M Q kc ks pc lc (vi a :: st) w := Vr_iflt (x := Int32.ofInt a) d (fun h => kt (by have h : Int32.ofInt a < Int32.ofInt 0 := h; rwa [i32_lt (b := 0) ra (by omega)] at h)) (fun h => kf (by have h : ¬ Int32.ofInt a < Int32.ofInt 0 := h; rwa [i32_lt (b := 0) ra (by omega)] at h))
theorem V_ifge {a : Int} (d : dj M pc (.ifCond .ge) q t) (kt : 0 ≤ a → V G M Q kc ks t lc st w) (kf : ¬ 0 ≤ a → V G M Q kc ks q lc st w) (ra : -2147483648 ≤ a ∧ a < 2147483648 := by omega) : V G M Q kc ks pc lc (vi a :: st) w := Vr_ifge (x := Int32.ofInt a) d (fun h => kt (by have h : Int32.ofInt 0 ≤ Int32.ofInt a := h; rwa [i32_le (a := 0) (by omega) ra] at h)) (fun h => kf (by have h : ¬ Int32.ofInt 0 ≤ Int32.ofInt a := h; rwa [i32_le (a := 0) (by omega) ra] at h))
theorem V_ifgt {a : Int} (d : dj M pc (.ifCond .gt) q t) (kt : 0 < a → V G M Q kc ks t lc st w) (kf : ¬ 0 < a → V G M Q kc ks q lc st w) (ra : -2147483648 ≤ a ∧ a < 2147483648 := by omega) : V G M Q kc ks pc lc (vi a :: st) w := Vr_ifgt (x := Int32.ofInt a) d (fun h => kt (by have h : Int32.ofInt 0 < Int32.ofInt a := h; rwa [i32_lt (a := 0) (by omega) ra] at h)) (fun h => kf (by have h : ¬ Int32.ofInt 0 < Int32.ofInt a := h; rwa [i32_lt (a := 0) (by omega) ra] at h))
theorem V_ifle {a : Int} (d : dj M pc (.ifCond .le) q t) (kt : a ≤ 0 → V G M Q kc ks t lc st w) (kf : ¬ a ≤ 0 → V G M Q kc ks q lc st w) (ra : -2147483648 ≤ a ∧ a < 2147483648 := by omega) : V G M Q kc ks pc lc (vi a :: st) w := Vr_ifle (x := Int32.ofInt a) d (fun h => kt (by have h : Int32.ofInt a ≤ Int32.ofInt 0 := h; rwa [i32_le (b := 0) ra (by omega)] at h)) (fun h => kf (by have h : ¬ Int32.ofInt a ≤ Int32.ofInt 0 := h; rwa [i32_le (b := 0) ra (by omega)] at h))
theorem lcmp_of {a b : Int} (ra : -9223372036854775808 ≤ a ∧ a < 9223372036854775808) (rb : -9223372036854775808 ≤ b ∧ b < 9223372036854775808) : lg_cmp (Int64.ofInt a) (Int64.ofInt b) = Int32.ofInt (if b < a then 1 else if a = b then 0 else -1) := by
  unfold lg_cmp
  by_cases h1 : b < a
  · rw [if_pos ((i64_lt rb ra).mpr h1), if_pos h1]; rfl
  · rw [if_neg (fun h => h1 ((i64_lt rb ra).mp h)), if_neg h1]
    by_cases h2 : a = b
    · rw [if_pos ((i64_eq ra rb).mpr h2), if_pos h2]; rfl
    · rw [if_neg (fun h => h2 ((i64_eq ra rb).mp h)), if_neg h2]; rfl
theorem icmp_r {a b : Int} : -2147483648 ≤ (if b < a then 1 else if a = b then 0 else -1 : Int) ∧ (if b < a then 1 else if a = b then 0 else -1 : Int) < 2147483648 := by
  split
  · omega
  · split <;> omega
theorem V_lcmpeq {a b : Int} {q1 : Nat} (d1 : dc M pc .lcmp 1 q1) (d : dj M q1 (.ifCond .eq) q t) (kt : a = b → V G M Q kc ks t lc st w) (kf : ¬ a = b → V G M Q kc ks q lc st w) (ra : -9223372036854775808 ≤ a ∧ a < 9223372036854775808 := by omega) (rb : -9223372036854775808 ≤ b ∧ b < 9223372036854775808 := by omega) : V G M Q kc ks pc lc (vl b :: vl a :: st) w := by
  refine Vr_lcmp (x := Int64.ofInt a) (y := Int64.ofInt b) d1 ?_
  rw [lcmp_of ra rb]
  refine V_ifeq d (fun h => kt ?_) (fun h => kf ?_) icmp_r
  · split at h
    · omega
    · split at h <;> omega
  · split at h
    · omega
    · split at h <;> omega
theorem V_lcmpne {a b : Int} {q1 : Nat} (d1 : dc M pc .lcmp 1 q1) (d : dj M q1 (.ifCond .ne) q t) (kt : ¬ a = b → V G M Q kc ks t lc st w) (kf : a = b → V G M Q kc ks q lc st w) (ra : -9223372036854775808 ≤ a ∧ a < 9223372036854775808 := by omega) (rb : -9223372036854775808 ≤ b ∧ b < 9223372036854775808 := by omega) : V G M Q kc ks pc lc (vl b :: vl a :: st) w := by
  refine Vr_lcmp (x := Int64.ofInt a) (y := Int64.ofInt b) d1 ?_
  rw [lcmp_of ra rb]
  refine V_ifne d (fun h => kt ?_) (fun h => kf ?_) icmp_r
  · split at h
    · omega
    · split at h <;> omega
  · split at h
    · omega
    · split at h <;> omega
theorem V_lcmplt {a b : Int} {q1 : Nat} (d1 : dc M pc .lcmp 1 q1) (d : dj M q1 (.ifCond .lt) q t) (kt : a < b → V G M Q kc ks t lc st w) (kf : ¬ a < b → V G M Q kc ks q lc st w) (ra : -9223372036854775808 ≤ a ∧ a < 9223372036854775808 := by omega) (rb : -9223372036854775808 ≤ b ∧ b < 9223372036854775808 := by omega) : V G M Q kc ks pc lc (vl b :: vl a :: st) w := by
  refine Vr_lcmp (x := Int64.ofInt a) (y := Int64.ofInt b) d1 ?_
  rw [lcmp_of ra rb]
  refine V_iflt d (fun h => kt ?_) (fun h => kf ?_) icmp_r
  · split at h
    · omega
    · split at h <;> omega
  · split at h
    · omega
    · split at h <;> omega
theorem V_lcmpge {a b : Int} {q1 : Nat} (d1 : dc M pc .lcmp 1 q1) (d : dj M q1 (.ifCond .ge) q t) (kt : b ≤ a → V G M Q kc ks t lc st w) (kf : ¬ b ≤ a → V G M Q kc ks q lc st w) (ra : -9223372036854775808 ≤ a ∧ a < 9223372036854775808 := by omega) (rb : -9223372036854775808 ≤ b ∧ b < 9223372036854775808 := by omega) : V G M Q kc ks pc lc (vl b :: vl a :: st) w := by
  refine Vr_lcmp (x := Int64.ofInt a) (y := Int64.ofInt b) d1 ?_
  rw [lcmp_of ra rb]
  refine V_ifge d (fun h => kt ?_) (fun h => kf ?_) icmp_r
  · split at h
    · omega
    · split at h <;> omega
  · split at h
    · omega
    · split at h <;> omega
theorem V_lcmpgt {a b : Int} {q1 : Nat} (d1 : dc M pc .lcmp 1 q1) (d : dj M q1 (.ifCond .gt) q t) (kt : b < a → V G M Q kc ks t lc st w) (kf : ¬ b < a → V G M Q kc ks q lc st w) (ra : -9223372036854775808 ≤ a ∧ a < 9223372036854775808 := by omega) (rb : -9223372036854775808 ≤ b ∧ b < 9223372036854775808 := by omega) : V G M Q kc ks pc lc (vl b :: vl a :: st) w := by
  refine Vr_lcmp (x := Int64.ofInt a) (y := Int64.ofInt b) d1 ?_
  rw [lcmp_of ra rb]
  refine V_ifgt d (fun h => kt ?_) (fun h => kf ?_) icmp_r
  · split at h
    · omega
    · split at h <;> omega
  · split at h
    · omega
    · split at h <;> omega
theorem V_lcmple {a b : Int} {q1 : Nat} (d1 : dc M pc .lcmp 1 q1) (d : dj M q1 (.ifCond .le) q t) (kt : a ≤ b → V G M Q kc ks t lc st w) (kf : ¬ a ≤ b → V G M Q kc ks q lc st w) (ra : -9223372036854775808 ≤ a ∧ a < 9223372036854775808 := by omega) (rb : -9223372036854775808 ≤ b ∧ b < 9223372036854775808 := by omega) : V G M Q kc ks pc lc (vl b :: vl a :: st) w := by
  refine Vr_lcmp (x := Int64.ofInt a) (y := Int64.ofInt b) d1 ?_
  rw [lcmp_of ra rb]
  refine V_ifle d (fun h => kt ?_) (fun h => kf ?_) icmp_r
  · split at h
    · omega
    · split at h <;> omega
  · split at h
    · omega
    · split at h <;> omega
theorem V_tabIn {dflt lo hi a : Int} {offs : Array Int} {n : Nat} {off : Int} (d : dc M pc (.tableswitch dflt lo hi offs) n q) (h1 : lo ≤ a ∧ a ≤ hi) (ho : offs[(a - lo).toNat]? = some off) (ht : (pc : Int) + off = (t : Int)) (k : V G M Q kc ks t lc st w) (ra : -2147483648 ≤ a ∧ a < 2147483648 := by omega) : V G M Q kc ks pc lc (vi a :: st) w := by
  obtain ⟨d, rfl⟩ := d
  intro p l e s m args below meth c H locs ls C hP hS hl
  have e : (Int32.ofInt a).toInt = a := Int32.toInt_ofInt_of_le (by omega) (by omega)
  exact lv_tableIn C.1 C.2.1 d (by rw [e]; omega) (by rw [e]; omega) (by rw [e]; exact ho) ht (k p l _ s m args below meth c H locs ls C hP hS hl)
theorem V_tabOut {dflt lo hi a : Int} {offs : Array Int} {n : Nat} (d : dc M pc (.tableswitch dflt lo hi offs) n q) (h1 : a < lo ∨ hi < a) (ht : (pc : Int) + dflt = (t : Int)) (k : V G M Q kc ks t lc st w) (ra : -2147483648 ≤ a ∧ a < 2147483648 := by omega) : V G M Q kc ks pc lc (vi a :: st) w := by
  obtain ⟨d, rfl⟩ := d
  intro p l e s m args below meth c H locs ls C hP hS hl
  have e : (Int32.ofInt a).toInt = a := Int32.toInt_ofInt_of_le (by omega) (by omega)
  exact lv_tableOut C.1 C.2.1 d (by rw [e]; exact h1) ht (k p l _ s m args below meth c H locs ls C hP hS hl)
end R6
