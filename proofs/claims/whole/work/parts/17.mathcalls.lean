theorem mcode_min : prog_16_method_69_code = Lib.Math.min.code := by decide +kernel
theorem mcode_max : prog_16_method_65_code = Lib.Math.max.code := by decide +kernel
theorem mcode_abs : prog_16_method_59_code = Lib.Math.abs.code := by decide +kernel
theorem mcode_minl : prog_16_method_70_code = Lib.MathLoose.min_long.code := by decide +kernel
theorem mcode_maxl : prog_16_method_66_code = Lib.MathLoose.max_long.code := by decide +kernel
section R17
variable {G : gT} {M N : mT} {Q : Option Value → wT → Prop} {kc ks pc q t i n : Nat} {lc lc' : List (Option Value)} {st rest : List Value} {w : wT}
theorem V_mmin {a b : Int} (hL : sLk (mOwn M) i mJ9_min_7cf53 2) (d : dc M pc (.invokestatic i) 3 q) (kk : V G M Q kc ks q lc (vi (min a b) :: rest) w) (ra : -2147483648 ≤ a ∧ a < 2147483648 := by omega) (rb : -2147483648 ≤ b ∧ b < 2147483648 := by omega) (hR : 1 ≤ (mRm M).frames ∧ (rest.map fun v => v.category).sum + 13 ≤ (mRm M).locals := by exact ⟨Nat.le_of_ble_eq_true rfl, Nat.le_of_ble_eq_true rfl⟩) (hk : eOk M kc ks := by decide) : V G M Q kc ks pc lc (vi b :: vi a :: rest) w := by
  obtain ⟨d, rfl⟩ := d
  obtain ⟨⟨h1, h2, -⟩, h3, h4⟩ := hL
  intro p l e s m args below meth c H locs ls Cc hP hS hl
  have hts := Cc.2.2.2.2.2.1
  have hcd : Cond.code Lib.Math.min.name Lib.Math.min.code 2 (some .int) ∈ aW := by rw [← mcode_min]; exact h1
  refine va_mmin Cc.1 Cc.2.1 (Cc.2.2.2.1.trans hl.1.symm) Cc.2.2.2.2.1 (hts _ h3) (hts _ h4) (hts _ h2) (hts _ hcd) hR.1 (by rw [catsum]; exact hR.2) hk.1 hk.2 d ?_
  have := kk p l e s m args below meth c H locs ls Cc hP hS hl
  have e2 : (if Int32.ofInt b < Int32.ofInt a then Int32.ofInt b else Int32.ofInt a) = Int32.ofInt (min a b) := by
    by_cases h : b < a
    · rw [if_pos ((i32_lt rb ra).mpr h), show min a b = b by omega]
    · rw [if_neg (fun h' => h ((i32_lt rb ra).mp h')), show min a b = a by omega]
  rw [e2]
  exact this
theorem V_mmax {a b : Int} (hL : sLk (mOwn M) i mJ9_max_7cf53 2) (d : dc M pc (.invokestatic i) 3 q) (kk : V G M Q kc ks q lc (vi (max a b) :: rest) w) (ra : -2147483648 ≤ a ∧ a < 2147483648 := by omega) (rb : -2147483648 ≤ b ∧ b < 2147483648 := by omega) (hR : 1 ≤ (mRm M).frames ∧ (rest.map fun v => v.category).sum + 13 ≤ (mRm M).locals := by exact ⟨Nat.le_of_ble_eq_true rfl, Nat.le_of_ble_eq_true rfl⟩) (hk : eOk M kc ks := by decide) : V G M Q kc ks pc lc (vi b :: vi a :: rest) w := by
  obtain ⟨d, rfl⟩ := d
  obtain ⟨⟨h1, h2, -⟩, h3, h4⟩ := hL
  intro p l e s m args below meth c H locs ls Cc hP hS hl
  have hts := Cc.2.2.2.2.2.1
  have hcd : Cond.code Lib.Math.max.name Lib.Math.max.code 2 (some .int) ∈ aW := by rw [← mcode_max]; exact h1
  refine va_mmax Cc.1 Cc.2.1 (Cc.2.2.2.1.trans hl.1.symm) Cc.2.2.2.2.1 (hts _ h3) (hts _ h4) (hts _ h2) (hts _ hcd) hR.1 (by rw [catsum]; exact hR.2) hk.1 hk.2 d ?_
  have := kk p l e s m args below meth c H locs ls Cc hP hS hl
  have e2 : (if Int32.ofInt a < Int32.ofInt b then Int32.ofInt b else Int32.ofInt a) = Int32.ofInt (max a b) := by
    by_cases h : a < b
    · rw [if_pos ((i32_lt ra rb).mpr h), show max a b = b by omega]
    · rw [if_neg (fun h' => h ((i32_lt ra rb).mp h')), show max a b = a by omega]
  rw [e2]
  exact this
theorem V_mabs {a : Int} (hL : sLk (mOwn M) i mJ9_abs_0f7a4 1) (d : dc M pc (.invokestatic i) 3 q) (kk : V G M Q kc ks q lc (vi (if a < 0 then -a else a) :: rest) w) (ra : -2147483648 ≤ a ∧ a < 2147483648 := by omega) (hR : 1 ≤ (mRm M).frames ∧ (rest.map fun v => v.category).sum + 13 ≤ (mRm M).locals := by exact ⟨Nat.le_of_ble_eq_true rfl, Nat.le_of_ble_eq_true rfl⟩) (hk : eOk M kc ks := by decide) : V G M Q kc ks pc lc (vi a :: rest) w := by
  obtain ⟨d, rfl⟩ := d
  obtain ⟨⟨h1, h2, -⟩, h3, h4⟩ := hL
  intro p l e s m args below meth c H locs ls Cc hP hS hl
  have hts := Cc.2.2.2.2.2.1
  have hcd : Cond.code Lib.Math.abs.name Lib.Math.abs.code 1 (some .int) ∈ aW := by rw [← mcode_abs]; exact h1
  refine va_mabs Cc.1 Cc.2.1 (Cc.2.2.2.1.trans hl.1.symm) Cc.2.2.2.2.1 (hts _ h3) (hts _ h4) (hts _ h2) (hts _ hcd) hR.1 (by rw [catsum]; exact hR.2) hk.1 hk.2 d ?_
  have := kk p l e s m args below meth c H locs ls Cc hP hS hl
  have e2 : (if 0 ≤ Int32.ofInt a then Int32.ofInt a else 0 - Int32.ofInt a) = Int32.ofInt (if a < 0 then -a else a) := by
    have h0 : (0 : Int32) = Int32.ofInt 0 := rfl
    rw [h0]
    by_cases h : a < 0
    · rw [if_neg (fun h1 => absurd ((i32_le (a := 0) (by omega) ra).mp h1) (by omega)), if_pos h, ← Int32.ofInt_sub]
      congr 1
      omega
    · rw [if_pos ((i32_le (a := 0) (by omega) ra).mpr (by omega)), if_neg h]
  rw [e2]
  exact this
theorem V_mmaxl {a b : Int} (hL : sLk (mOwn M) i mJ9_max_f86c9 2) (d : dc M pc (.invokestatic i) 3 q) (kk : V G M Q kc ks q lc (vl (max a b) :: rest) w) (ra : -9223372036854775808 ≤ a ∧ a < 9223372036854775808 := by omega) (rb : -9223372036854775808 ≤ b ∧ b < 9223372036854775808 := by omega) (hR : 1 ≤ (mRm M).frames ∧ (rest.map fun v => v.category).sum + 15 ≤ (mRm M).locals := by exact ⟨Nat.le_of_ble_eq_true rfl, Nat.le_of_ble_eq_true rfl⟩) (hk : eOk M kc ks := by decide) : V G M Q kc ks pc lc (vl b :: vl a :: rest) w := by
  obtain ⟨d, rfl⟩ := d
  obtain ⟨⟨h1, h2, -⟩, h3, h4⟩ := hL
  intro p l e s m args below meth c H locs ls Cc hP hS hl
  have hts := Cc.2.2.2.2.2.1
  have hcd : Cond.code Lib.MathLoose.max_long.x Lib.MathLoose.max_long.code 4 (some .long) ∈ aW := by rw [← mcode_maxl]; exact h1
  refine va_mmax_long Cc.1 Cc.2.1 (Cc.2.2.2.1.trans hl.1.symm) Cc.2.2.2.2.1 (hts _ h3) (hts _ h4) (hts _ h2) (hts _ hcd) hR.1 (by rw [catsum]; exact hR.2) hk.1 hk.2 d ?_
  have := kk p l e s m args below meth c H locs ls Cc hP hS hl
  have e2 : (if Int64.ofInt b < Int64.ofInt a then Int64.ofInt a else Int64.ofInt b) = Int64.ofInt (max a b) := by
    by_cases h : b < a
    · rw [if_pos ((i64_lt rb ra).mpr h), show max a b = a by omega]
    · rw [if_neg (fun h' => h ((i64_lt rb ra).mp h')), show max a b = b by omega]
  rw [e2]
  exact this
theorem V_mminl {a b : Int} (hL : sLk (mOwn M) i mJ9_min_f86c9 2) (d : dc M pc (.invokestatic i) 3 q) (kk : V G M Q kc ks q lc (vl (min a b) :: rest) w) (ra : -9223372036854775808 ≤ a ∧ a < 9223372036854775808 := by omega) (rb : -9223372036854775808 ≤ b ∧ b < 9223372036854775808 := by omega) (hR : 1 ≤ (mRm M).frames ∧ (rest.map fun v => v.category).sum + 15 ≤ (mRm M).locals := by exact ⟨Nat.le_of_ble_eq_true rfl, Nat.le_of_ble_eq_true rfl⟩) (hk : eOk M kc ks := by decide) : V G M Q kc ks pc lc (vl b :: vl a :: rest) w := by
  obtain ⟨d, rfl⟩ := d
  obtain ⟨⟨h1, h2, -⟩, h3, h4⟩ := hL
  intro p l e s m args below meth c H locs ls Cc hP hS hl
  have hts := Cc.2.2.2.2.2.1
  have hcd : Cond.code Lib.MathLoose.min_long.x Lib.MathLoose.min_long.code 4 (some .long) ∈ aW := by rw [← mcode_minl]; exact h1
  refine va_mmin_long Cc.1 Cc.2.1 (Cc.2.2.2.1.trans hl.1.symm) Cc.2.2.2.2.1 (hts _ h3) (hts _ h4) (hts _ h2) (hts _ hcd) hR.1 (by rw [catsum]; exact hR.2) hk.1 hk.2 d ?_
  have := kk p l e s m args below meth c H locs ls Cc hP hS hl
  have e2 : (if Int64.ofInt b < Int64.ofInt a then Int64.ofInt b else Int64.ofInt a) = Int64.ofInt (min a b) := by
    by_cases h : b < a
    · rw [if_pos ((i64_lt rb ra).mpr h), show min a b = b by omega]
    · rw [if_neg (fun h' => h ((i64_lt rb ra).mp h')), show min a b = a by omega]
  rw [e2]
  exact this
end R17

