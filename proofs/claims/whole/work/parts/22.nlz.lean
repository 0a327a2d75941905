theorem of_nat64 (n : Nat) : Int64.ofInt (n : Int) = lN n := Int64.ofInt_eq_ofNat
theorem of_nat32 (n : Nat) : Int32.ofInt (n : Int) = nI n := Int32.ofInt_eq_ofNat
theorem cu64 : ∀ k, k < 64 → ((nI k).toInt64.toUInt64 &&& Int64.toUInt64 63) = UInt64.ofNat k := by decide +kernel
theorem c64 : ∀ k, k < 64 → ((nI k).toInt64 &&& 63) = lN k := by decide +kernel
theorem sm64 : ∀ k, k < 64 → (BitVec.ofNat 64 k).smod 64 = BitVec.ofNat 64 k := by decide +kernel
theorem cu32 : ∀ k, k < 32 → ((nI k).toUInt32 &&& Int32.toUInt32 31) = UInt32.ofNat k := by decide +kernel
theorem c32 : ∀ k, k < 32 → (nI k &&& 31) = nI k := by decide +kernel
theorem sm32 : ∀ k, k < 32 → (BitVec.ofNat 32 k).smod 32 = BitVec.ofNat 32 k := by decide +kernel
theorem tn64 {n : Nat} (h : n < 2 ^ 64) : (lN n).toBitVec.toNat = n := by
  show (BitVec.ofNat 64 n).toNat = n
  rw [BitVec.toNat_ofNat, Nat.mod_eq_of_lt h]
theorem tn32 {n : Nat} (h : n < 2 ^ 32) : (nI n).toBitVec.toNat = n := by
  show (BitVec.ofNat 32 n).toNat = n
  rw [BitVec.toNat_ofNat, Nat.mod_eq_of_lt h]
theorem lN_int {n : Nat} (h : n < 2 ^ 63) : (lN n).toInt = n := by
  rw [← of_nat64]
  exact Int64.toInt_ofInt_of_le (by omega) (by omega)
theorem nI_int {n : Nat} (h : n < 2 ^ 31) : (nI n).toInt = n := by
  rw [← of_nat32]
  exact Int32.toInt_ofInt_of_le (by omega) (by omega)
theorem lUshr_nn {a : Int} {k : Nat} (ha : 0 ≤ a ∧ a < 9223372036854775808) (hk : k < 64) : lUshr a k = a / 2 ^ k := by
  obtain ⟨n, rfl⟩ := Int.eq_ofNat_of_zero_le ha.1
  unfold lUshr
  rw [of_nat64, of_nat32, cu64 k hk]
  have e : ((lN n).toUInt64 >>> UInt64.ofNat k).toInt64 = lN (n / 2 ^ k) := by
    apply Int64.toBitVec_inj.mp
    apply BitVec.eq_of_toNat_eq
    show ((lN n).toUInt64 >>> UInt64.ofNat k).toNat = (BitVec.ofNat 64 _).toNat
    have h1 : (UInt64.ofNat k).toNat = k := by
      show (BitVec.ofNat 64 k).toNat = k
      rw [BitVec.toNat_ofNat, Nat.mod_eq_of_lt (by omega)]
    have h2 : (lN n).toUInt64.toNat = n := tn64 (by omega)
    rw [UInt64.toNat_shiftRight, h1, h2, Nat.mod_eq_of_lt hk, Nat.shiftRight_eq_div_pow, BitVec.toNat_ofNat, Nat.mod_eq_of_lt (Nat.lt_of_le_of_lt (Nat.div_le_self _ _) (by omega))]
  rw [e, lN_int (Nat.lt_of_le_of_lt (Nat.div_le_self _ _) (by omega)), Int.natCast_ediv, Int.natCast_pow]
  rfl
theorem iUshr_nn {a : Int} {k : Nat} (ha : 0 ≤ a ∧ a < 2147483648) (hk : k < 32) : iUshr a k = a / 2 ^ k := by
  obtain ⟨n, rfl⟩ := Int.eq_ofNat_of_zero_le ha.1
  unfold iUshr
  rw [of_nat32, of_nat32, cu32 k hk]
  have e : ((nI n).toUInt32 >>> UInt32.ofNat k).toInt32 = nI (n / 2 ^ k) := by
    apply Int32.toBitVec_inj.mp
    apply BitVec.eq_of_toNat_eq
    show ((nI n).toUInt32 >>> UInt32.ofNat k).toNat = (BitVec.ofNat 32 _).toNat
    have h1 : (UInt32.ofNat k).toNat = k := by
      show (BitVec.ofNat 32 k).toNat = k
      rw [BitVec.toNat_ofNat, Nat.mod_eq_of_lt (by omega)]
    have h2 : (nI n).toUInt32.toNat = n := tn32 (by omega)
    rw [UInt32.toNat_shiftRight, h1, h2, Nat.mod_eq_of_lt hk, Nat.shiftRight_eq_div_pow, BitVec.toNat_ofNat, Nat.mod_eq_of_lt (Nat.lt_of_le_of_lt (Nat.div_le_self _ _) (by omega))]
  rw [e, nI_int (Nat.lt_of_le_of_lt (Nat.div_le_self _ _) (by omega)), Int.natCast_ediv, Int.natCast_pow]
  rfl
theorem lShl_1 {k : Nat} (hk : k < 63) : lShl 1 k = 2 ^ k := by
  unfold lShl
  have h1 : Int64.ofInt 1 = lN 1 := rfl
  rw [h1, of_nat32, c64 k (by omega)]
  have e : lN 1 <<< lN k = lN (2 ^ k) := by
    apply Int64.toBitVec_inj.mp
    rw [Int64.toBitVec_shiftLeft]
    show (BitVec.ofNat 64 1) <<< ((BitVec.ofNat 64 k).smod 64) = BitVec.ofNat 64 (2 ^ k)
    rw [sm64 k (by omega)]
    apply BitVec.eq_of_toNat_eq
    rw [BitVec.shiftLeft_eq', BitVec.toNat_shiftLeft, BitVec.toNat_ofNat, BitVec.toNat_ofNat, BitVec.toNat_ofNat, Nat.mod_eq_of_lt (show k < 2 ^ 64 by omega), Nat.shiftLeft_eq, Nat.mod_eq_of_lt (show 1 < 2 ^ 64 by decide), Nat.one_mul]
  rw [e, lN_int (Nat.pow_lt_pow_right (by decide) hk), Int.natCast_pow]
  rfl
section P22
variable {G : gT} {F : fT} {A : nT}
/-- zeros ahead of an int: how far a number above it is -/
theorem p_J6_nlz {x : Int} (hx : -2147483648 ≤ x ∧ x < 2147483648) : Meets G mJ6_numberOfLeadingZeros_0f7a4 [vi x] (sw F A) (fun r w => ∃ z : Int, r = some (vi z) ∧ w = sw F A ∧ 0 ≤ z ∧ z ≤ 32 ∧ (x < 0 → z = 0) ∧ (0 < x → z ≤ 31 ∧ x < 2 ^ (32 - z).toNat)) := by
  refine L_ent [some (vi x), none] rfl ?_
  refine L_iload_n eJ6_numberOfLeadingZeros_0f7a4_0 rfl ?_
  -- at 1: .ifCond .gt 14
  refine V_ifgt eJ6_numberOfLeadingZeros_0f7a4_1 (fun h => ?_) (fun h => ?_)
  · have S5 : ∀ (y : Int) (s : Nat), 0 ≤ y → y < 4 → s ≤ 30 → x < (y + 1) * 2 ^ s → V G mJ6_numberOfLeadingZeros_0f7a4 (fun r w => ∃ z : Int, r = some (vi z) ∧ w = sw F A ∧ 0 ≤ z ∧ z ≤ 32 ∧ (x < 0 → z = 0) ∧ (0 < x → z ≤ 31 ∧ x < 2 ^ (32 - z).toNat)) 0 0 73 [some (vi y), some (vi (31 - s))] [] (sw F A) := by
      intro y s h0 h1 h2 h3
      refine L_iload_n eJ6_numberOfLeadingZeros_0f7a4_73 rfl ?_
      refine L_iload_n eJ6_numberOfLeadingZeros_0f7a4_74 rfl ?_
      refine V_iconst eJ6_numberOfLeadingZeros_0f7a4_75 ?_
      refine V_iushr eJ6_numberOfLeadingZeros_0f7a4_76 ?_
      refine V_isub eJ6_numberOfLeadingZeros_0f7a4_77 ?_
      -- at 78: .ireturn
      rw [show (1 : Int) = ((1 : Nat) : Int) from rfl, iUshr_nn (by omega) (by omega)]
      refine V_ireturn eJ6_numberOfLeadingZeros_0f7a4_78 ⟨_, rfl, rfl, by omega, by omega, fun _ => by omega, fun _ => ⟨by omega, ?_⟩⟩
      rcases (show y / 2 ^ 1 = 0 ∨ y / 2 ^ 1 = 1 by omega) with e | e
      · rw [e, show (32 - (31 - (s : Int) - 0)).toNat = s + 1 by omega, Int.pow_succ]
        have := Int.mul_le_mul_of_nonneg_right (show y + 1 ≤ 2 by omega) (show (0 : Int) ≤ 2 ^ s from Int.pow_nonneg (by omega))
        omega
      · rw [e, show (32 - (31 - (s : Int) - 1)).toNat = s + 1 + 1 by omega, Int.pow_succ, Int.pow_succ]
        have := Int.mul_le_mul_of_nonneg_right (show y + 1 ≤ 4 by omega) (show (0 : Int) ≤ 2 ^ s from Int.pow_nonneg (by omega))
        omega
    have STEP : ∀ (y : Int) (s k : Nat), 0 ≤ y → x < (y + 1) * 2 ^ s → x < (y / 2 ^ k + 1) * 2 ^ (s + k) := by
      intro y s k h0 h1
      have hk : (0 : Int) < 2 ^ k := Int.pow_pos (by omega)
      have hs : (0 : Int) ≤ 2 ^ s := Int.pow_nonneg (by omega)
      have h2 : y + 1 ≤ (y / 2 ^ k + 1) * 2 ^ k := by
        have := Int.lt_mul_ediv_self_add (x := y) hk
        rw [Int.add_mul, Int.one_mul, Int.mul_comm]
        omega
      have h3 := Int.mul_le_mul_of_nonneg_right h2 hs
      rw [Int.mul_assoc, ← Int.pow_add, Nat.add_comm k s] at h3
      omega
    have S4 : ∀ (y : Int) (s : Nat), 0 ≤ y → y < 16 → s ≤ 28 → x < (y + 1) * 2 ^ s → V G mJ6_numberOfLeadingZeros_0f7a4 (fun r w => ∃ z : Int, r = some (vi z) ∧ w = sw F A ∧ 0 ≤ z ∧ z ≤ 32 ∧ (x < 0 → z = 0) ∧ (0 < x → z ≤ 31 ∧ x < 2 ^ (32 - z).toNat)) 0 0 61 [some (vi y), some (vi (31 - s))] [] (sw F A) := by
      intro y s h0 h1 h2 h3
      refine L_iload_n eJ6_numberOfLeadingZeros_0f7a4_61 rfl ?_
      refine V_iconst eJ6_numberOfLeadingZeros_0f7a4_62 ?_
      -- at 63: .if_icmp .lt 10
      refine V_icmplt eJ6_numberOfLeadingZeros_0f7a4_63 (fun h4 => ?_) (fun h4 => ?_)
      · exact S5 y s h0 (by omega) (by omega) h3
      · refine L_iinc eJ6_numberOfLeadingZeros_0f7a4_66 rfl (s_1 rfl rfl) ?_
        refine L_iload_n eJ6_numberOfLeadingZeros_0f7a4_69 rfl ?_
        refine V_iconst eJ6_numberOfLeadingZeros_0f7a4_70 ?_
        refine V_iushr eJ6_numberOfLeadingZeros_0f7a4_71 ?_
        rw [show (2 : Int) = ((2 : Nat) : Int) from rfl, iUshr_nn (by omega) (by omega)]
        refine L_istore_n eJ6_numberOfLeadingZeros_0f7a4_72 (s_0 rfl) ?_
        have := S5 (y / 2 ^ 2) (s + 2) (by omega) (by omega) (by omega) (STEP y s 2 h0 h3)
        rw [show (31 - ((s + 2 : Nat) : Int)) = 31 - (s : Int) + -2 by omega] at this
        exact this
    have S3 : ∀ (y : Int) (s : Nat), 0 ≤ y → y < 256 → s ≤ 24 → x < (y + 1) * 2 ^ s → V G mJ6_numberOfLeadingZeros_0f7a4 (fun r w => ∃ z : Int, r = some (vi z) ∧ w = sw F A ∧ 0 ≤ z ∧ z ≤ 32 ∧ (x < 0 → z = 0) ∧ (0 < x → z ≤ 31 ∧ x < 2 ^ (32 - z).toNat)) 0 0 48 [some (vi y), some (vi (31 - s))] [] (sw F A) := by
      intro y s h0 h1 h2 h3
      refine L_iload_n eJ6_numberOfLeadingZeros_0f7a4_48 rfl ?_
      refine L_bipush eJ6_numberOfLeadingZeros_0f7a4_49 rfl ?_
      -- at 51: .if_icmp .lt 10
      refine V_icmplt eJ6_numberOfLeadingZeros_0f7a4_51 (fun h4 => ?_) (fun h4 => ?_)
      · exact S4 y s h0 (by omega) (by omega) h3
      · refine L_iinc eJ6_numberOfLeadingZeros_0f7a4_54 rfl (s_1 rfl rfl) ?_
        refine L_iload_n eJ6_numberOfLeadingZeros_0f7a4_57 rfl ?_
        refine V_iconst eJ6_numberOfLeadingZeros_0f7a4_58 ?_
        refine V_iushr eJ6_numberOfLeadingZeros_0f7a4_59 ?_
        rw [show (4 : Int) = ((4 : Nat) : Int) from rfl, iUshr_nn (by omega) (by omega)]
        refine L_istore_n eJ6_numberOfLeadingZeros_0f7a4_60 (s_0 rfl) ?_
        have := S4 (y / 2 ^ 4) (s + 4) (by omega) (by omega) (by omega) (STEP y s 4 h0 h3)
        rw [show (31 - ((s + 4 : Nat) : Int)) = 31 - (s : Int) + -4 by omega] at this
        exact this
    have S2 : ∀ (y : Int) (s : Nat), 0 ≤ y → y < 65536 → s ≤ 16 → x < (y + 1) * 2 ^ s → V G mJ6_numberOfLeadingZeros_0f7a4 (fun r w => ∃ z : Int, r = some (vi z) ∧ w = sw F A ∧ 0 ≤ z ∧ z ≤ 32 ∧ (x < 0 → z = 0) ∧ (0 < x → z ≤ 31 ∧ x < 2 ^ (32 - z).toNat)) 0 0 33 [some (vi y), some (vi (31 - s))] [] (sw F A) := by
      intro y s h0 h1 h2 h3
      refine L_iload_n eJ6_numberOfLeadingZeros_0f7a4_33 rfl ?_
      refine L_sipush eJ6_numberOfLeadingZeros_0f7a4_34 rfl ?_
      -- at 37: .if_icmp .lt 11
      refine V_icmplt eJ6_numberOfLeadingZeros_0f7a4_37 (fun h4 => ?_) (fun h4 => ?_)
      · exact S3 y s h0 (by omega) (by omega) h3
      · refine L_iinc eJ6_numberOfLeadingZeros_0f7a4_40 rfl (s_1 rfl rfl) ?_
        refine L_iload_n eJ6_numberOfLeadingZeros_0f7a4_43 rfl ?_
        refine L_bipush eJ6_numberOfLeadingZeros_0f7a4_44 rfl ?_
        refine V_iushr eJ6_numberOfLeadingZeros_0f7a4_46 ?_
        rw [show (8 : Int) = ((8 : Nat) : Int) from rfl, iUshr_nn (by omega) (by omega)]
        refine L_istore_n eJ6_numberOfLeadingZeros_0f7a4_47 (s_0 rfl) ?_
        have := S3 (y / 2 ^ 8) (s + 8) (by omega) (by omega) (by omega) (STEP y s 8 h0 h3)
        rw [show (31 - ((s + 8 : Nat) : Int)) = 31 - (s : Int) + -8 by omega] at this
        exact this
    refine L_bipush eJ6_numberOfLeadingZeros_0f7a4_15 rfl ?_
    refine L_istore_n eJ6_numberOfLeadingZeros_0f7a4_17 (s_1 rfl rfl) ?_
    refine L_iload_n eJ6_numberOfLeadingZeros_0f7a4_18 rfl ?_
    refine L_ldcw eJ6_numberOfLeadingZeros_0f7a4_19 k_J6_264 ?_
    -- at 22: .if_icmp .lt 11
    refine V_icmplt eJ6_numberOfLeadingZeros_0f7a4_22 (fun h4 => ?_) (fun h4 => ?_)
    · exact S2 x 0 (by omega) (by omega) (by omega) (by omega)
    · refine L_iinc eJ6_numberOfLeadingZeros_0f7a4_25 rfl (s_1 rfl rfl) ?_
      refine L_iload_n eJ6_numberOfLeadingZeros_0f7a4_28 rfl ?_
      refine L_bipush eJ6_numberOfLeadingZeros_0f7a4_29 rfl ?_
      refine V_iushr eJ6_numberOfLeadingZeros_0f7a4_31 ?_
      rw [show (16 : Int) = ((16 : Nat) : Int) from rfl, iUshr_nn (by omega) (by omega)]
      refine L_istore_n eJ6_numberOfLeadingZeros_0f7a4_32 (s_0 rfl) ?_
      exact S2 (x / 2 ^ 16) 16 (by omega) (by omega) (by omega) (STEP x 0 16 (by omega) (by omega))
  · refine L_iload_n eJ6_numberOfLeadingZeros_0f7a4_4 rfl ?_
    refine V_ifne eJ6_numberOfLeadingZeros_0f7a4_5 (fun h5 => ?_) (fun h5 => ?_)
    · refine V_iconst eJ6_numberOfLeadingZeros_0f7a4_13 ?_
      exact V_ireturn eJ6_numberOfLeadingZeros_0f7a4_14 ⟨_, rfl, rfl, by omega, by omega, fun _ => by omega, fun h9 => absurd h9 h⟩
    · refine L_bipush eJ6_numberOfLeadingZeros_0f7a4_8 rfl ?_
      refine V_goto eJ6_numberOfLeadingZeros_0f7a4_10 ?_
      exact V_ireturn eJ6_numberOfLeadingZeros_0f7a4_14 ⟨_, rfl, rfl, by omega, by omega, fun _ => by omega, fun h9 => absurd h9 h⟩
theorem p_J13_nlz {x : Int} (hx : 0 < x ∧ x < 9000000000000000000) : Meets G mJ13_numberOfLeadingZeros_95d88 [vl x] (sw F A) (fun r w => ∃ z : Int, r = some (vi z) ∧ w = sw F A ∧ 0 ≤ z ∧ z ≤ 64 ∧ x < 2 ^ (64 - z).toNat) := by
  refine L_ent [some (vl x), none, none] rfl ?_
  refine L_lload_n eJ13_numberOfLeadingZeros_95d88_0 rfl ?_
  refine L_bipush eJ13_numberOfLeadingZeros_95d88_1 rfl ?_
  refine V_lushr eJ13_numberOfLeadingZeros_95d88_3 ?_
  rw [show (32 : Int) = ((32 : Nat) : Int) from rfl, lUshr_nn (by omega) (by omega)]
  refine V_l2i eJ13_numberOfLeadingZeros_95d88_4 ?_
  refine L_istore_n eJ13_numberOfLeadingZeros_95d88_5 (s_2 rfl rfl) ?_
  refine L_iload_n eJ13_numberOfLeadingZeros_95d88_6 rfl ?_
  -- at 7: .ifCond .ne 14
  refine V_ifne eJ13_numberOfLeadingZeros_95d88_7 (fun h => ?_) (fun h => ?_)
  · refine L_iload_n eJ13_numberOfLeadingZeros_95d88_21 rfl ?_
    refine V_callS v_J13_308 eJ13_numberOfLeadingZeros_95d88_22 rfl (p_J6_nlz (x := x / 2 ^ 32) (by omega)) (fun r w hq => ?_)
    obtain ⟨z, rfl, rfl, h0, h1, -, h2⟩ := hq
    obtain ⟨h3, h4⟩ := h2 (by omega)
    refine V_ireturn eJ13_numberOfLeadingZeros_95d88_25 ⟨z, rfl, rfl, h0, by omega, ?_⟩
    rw [show (64 - z).toNat = (32 - z).toNat + 32 by omega, Int.pow_add]
    generalize (2 : Int) ^ (32 - z).toNat = p at h4
    omega
  · refine L_bipush eJ13_numberOfLeadingZeros_95d88_10 rfl ?_
    refine L_lload_n eJ13_numberOfLeadingZeros_95d88_12 rfl ?_
    refine V_l2i eJ13_numberOfLeadingZeros_95d88_13 ?_
    have e : ∃ y : Int, -2147483648 ≤ y ∧ y < 2147483648 ∧ vi x = vi y ∧ (y = x ∨ y = x - 4294967296 ∧ y < 0) := by
      by_cases h5 : x < 2147483648
      · exact ⟨x, by omega, by omega, rfl, Or.inl rfl⟩
      · refine ⟨x - 4294967296, by omega, by omega, ?_, Or.inr (by omega)⟩
        unfold vi
        rw [Int32.ofInt_sub, show Int32.ofInt 4294967296 = 0 by decide]
        simp
    obtain ⟨y, h1, h2, e, hy⟩ := e
    rw [e]
    refine V_callS (rest := [vi 32]) v_J13_308 eJ13_numberOfLeadingZeros_95d88_14 rfl (p_J6_nlz (x := y) ⟨h1, h2⟩) (fun r w hq => ?_)
    obtain ⟨z, rfl, rfl, h3, h4, h7, h5⟩ := hq
    refine V_iadd eJ13_numberOfLeadingZeros_95d88_17 ?_
    refine V_goto eJ13_numberOfLeadingZeros_95d88_18 ?_
    refine V_ireturn eJ13_numberOfLeadingZeros_95d88_25 ⟨_, rfl, rfl, by omega, by omega, ?_⟩
    rcases hy with hy | ⟨hy, hy2⟩
    · obtain ⟨h8, h9⟩ := h5 (by omega)
      rw [show (64 - (32 + z)).toNat = (32 - z).toNat by omega, ← hy]
      exact h9
    · rw [h7 hy2]
      show x < 2 ^ 32
      omega
/-- a power of two that is not below the root -/
theorem pw_sq {x : Int} {e : Nat} (h : x < 2 ^ e) {k : Nat} (hk : e ≤ 2 * k) : x < 2 ^ k * 2 ^ k := by
  rw [← Int.pow_add]
  have : (2 : Int) ^ e ≤ 2 ^ (k + k) := by
    have := Nat.pow_le_pow_right (n := 2) (by decide) (show e ≤ k + k by omega)
    exact_mod_cast this
  omega
/-- Newton's step from above: not below the root, and half as far from it -/
theorem newton {n r R : Int} (hR : R * R ≤ n) (hR2 : n < (R + 1) * (R + 1)) (h0 : 0 ≤ R) (hr : R ≤ r) (hr0 : 0 < r) : R ≤ (r + n / r) / 2 ∧ (R < r → (r + n / r) / 2 - R ≤ (r - R) / 2) ∧ (r ≤ (r + n / r) / 2 → r = R) := by
  have h1 : 2 * R - r ≤ n / r := by
    rw [Int.le_ediv_iff_mul_le hr0]
    have : (2 * R - r) * r = R * R - (r - R) * (r - R) := by
      rw [Int.sub_mul, Int.mul_sub, Int.sub_mul, Int.sub_mul, Int.mul_assoc, Int.mul_comm r R]
      omega
    have := sq_le (a := 0) (b := r - R) (by omega) (by omega)
    omega
  refine ⟨by omega, fun h2 => ?_, fun h2 => ?_⟩
  · have h3 : n / r < R + 1 := by
      rw [Int.ediv_lt_iff_lt_mul hr0]
      have := Int.mul_le_mul_of_nonneg_left (show R + 1 ≤ r by omega) (show 0 ≤ R + 1 by omega)
      omega
    omega
  · have h3 : r ≤ n / r := by omega
    rw [Int.le_ediv_iff_mul_le hr0] at h3
    have : r < R + 1 := sq_lt (by omega) (by omega)
    omega
/-- the class's root, by Newton's steps -/
theorem p_X10_root {n : Int} (hn : 0 ≤ n ∧ n < 9000000000000000000) : Pu G mX10_root [vl n] F A (vl (rt n)) := by
  refine L_ent [some (vl n), none, none, none, none, none, none] rfl ?_
  refine L_lload_n eX10_root_0 rfl ?_
  refine L_lconst0 eX10_root_1 ?_
  -- at 2: .lcmp
  refine V_lcmpgt eX10_root_2 eX10_root_3 (fun h => ?_) (fun h => ?_)
  · refine L_lconst1 eX10_root_8 ?_
    refine L_bipush eX10_root_9 rfl ?_
    refine L_lload_n eX10_root_11 rfl ?_
    refine V_callS (rest := [vi 65, vl 1]) v_X10_346 eX10_root_12 rfl (p_J13_nlz (by omega)) (fun r w hq => ?_)
    obtain ⟨z, rfl, rfl, h0, h1, h2⟩ := hq
    refine V_isub eX10_root_15 ?_
    refine V_iconst eX10_root_16 ?_
    refine V_idiv eX10_root_17 ?_
    rw [Int.tdiv_eq_ediv_of_nonneg (by omega)]
    obtain ⟨k, hk⟩ := Int.eq_ofNat_of_zero_le (show 0 ≤ (65 - z) / 2 by omega)
    rw [hk]
    refine V_lshl eX10_root_18 ?_
    rw [lShl_1 (by omega)]
    have hsq := pw_sq h2 (k := k) (by omega)
    have hb : (2 : Int) ^ k ≤ 4294967296 := by
      have h8 : 2 ^ k ≤ 4294967296 := Nat.pow_le_pow_right (n := 2) (by decide) (show k ≤ 32 by omega)
      have h9 : (2 : Int) ^ k = ((2 ^ k : Nat) : Int) := by rw [Int.natCast_pow]; rfl
      rw [h9]
      omega
    have hp : (0 : Int) < 2 ^ k := Int.pow_pos (by omega)
    generalize (2 : Int) ^ k = r0 at hsq hb hp
    have a1 := rt_le hn.1
    have a2 := rt_lt hn.1
    have a3 := rt_nn n
    have hR1 : rt n < r0 := sq_lt (by omega) (by omega)
    have LOOP : ∀ (c : Nat) (i r : Int) (x y : Option Value), i + c < 64 → 0 ≤ i → rt n ≤ r → 0 < r → r ≤ 4294967296 → r - rt n < 2 ^ c → V G mX10_root (fun r' w => r' = some (vl (rt n)) ∧ w = sw F A) 0 0 23 [some (vl n), none, some (vl r), none, some (vi i), x, y] [] (sw F A) := by
      intro c
      induction c with
      | zero =>
        intro i r x y h3 h4 h5 h6 h7 h8
        have e : r = rt n := by omega
        obtain ⟨n1, n2, n3⟩ := newton a1 a2 a3 h5 h6
        have hq : 0 ≤ n / r := Int.ediv_nonneg hn.1 (by omega)
        have hq2 : n / r ≤ n := Int.ediv_le_self _ hn.1
        refine L_iload eX10_root_23 rfl ?_
        refine L_bipush eX10_root_25 rfl ?_
        -- at 27: .if_icmp .ge 32
        refine V_icmpge eX10_root_27 (fun h9 => ?_) (fun h9 => ?_)
        · omega
        · refine L_lload_n eX10_root_30 rfl ?_
          refine L_lload_n eX10_root_31 rfl ?_
          refine L_lload_n eX10_root_32 rfl ?_
          refine V_ldiv eX10_root_33 ?_
          rw [Int.tdiv_eq_ediv_of_nonneg hn.1]
          refine V_ladd eX10_root_34 ?_
          refine L_ldc2 eX10_root_35 k_X10_352 ?_
          refine V_ldiv eX10_root_38 ?_
          rw [Int.tdiv_eq_ediv_of_nonneg (by omega)]
          refine L_lstore eX10_root_39 (t_5 rfl) ?_
          refine L_lload eX10_root_41 rfl ?_
          refine L_lload_n eX10_root_43 rfl ?_
          -- at 44: .lcmp
          refine V_lcmplt eX10_root_44 eX10_root_45 (fun h10 => ?_) (fun h10 => ?_)
          · omega
          · refine L_lload_n eX10_root_48 rfl ?_
            -- at 49: .lreturn
            exact V_lreturn eX10_root_49 ⟨by rw [e], rfl⟩
      | succ c ih =>
        intro i r x y h3 h4 h5 h6 h7 h8
        obtain ⟨n1, n2, n3⟩ := newton a1 a2 a3 h5 h6
        have hq : 0 ≤ n / r := Int.ediv_nonneg hn.1 (by omega)
        have hq2 : n / r ≤ n := Int.ediv_le_self _ hn.1
        refine L_iload eX10_root_23 rfl ?_
        refine L_bipush eX10_root_25 rfl ?_
        -- at 27: .if_icmp .ge 32
        refine V_icmpge eX10_root_27 (fun h9 => ?_) (fun h9 => ?_)
        · omega
        · refine L_lload_n eX10_root_30 rfl ?_
          refine L_lload_n eX10_root_31 rfl ?_
          refine L_lload_n eX10_root_32 rfl ?_
          refine V_ldiv eX10_root_33 ?_
          rw [Int.tdiv_eq_ediv_of_nonneg hn.1]
          refine V_ladd eX10_root_34 ?_
          refine L_ldc2 eX10_root_35 k_X10_352 ?_
          refine V_ldiv eX10_root_38 ?_
          rw [Int.tdiv_eq_ediv_of_nonneg (by omega)]
          refine L_lstore eX10_root_39 (t_5 rfl) ?_
          refine L_lload eX10_root_41 rfl ?_
          refine L_lload_n eX10_root_43 rfl ?_
          -- at 44: .lcmp
          refine V_lcmplt eX10_root_44 eX10_root_45 (fun h10 => ?_) (fun h10 => ?_)
          · refine L_lload eX10_root_50 rfl ?_
            refine L_lstore_n eX10_root_52 (t_2 rfl) ?_
            refine L_iinc eX10_root_53 rfl (s_4 rfl rfl) ?_
            refine V_goto eX10_root_56 ?_
            have hc : (2 : Int) ^ (c + 1) = 2 ^ c * 2 := Int.pow_succ ..
            rw [hc] at h8
            have hlt : rt n < r := by omega
            have := n2 hlt
            have h11 : 0 < (r + n / r) / 2 := by
              by_cases h12 : rt n = 0
              · rw [h12] at a2
                omega
              · omega
            exact ih (i + 1) _ _ _ (by omega) (by omega) n1 h11 (by omega) (by omega)
          · refine L_lload_n eX10_root_48 rfl ?_
            -- at 49: .lreturn
            exact V_lreturn eX10_root_49 ⟨by rw [n3 (by omega)], rfl⟩
    refine L_lstore_n eX10_root_19 (t_2 rfl) ?_
    refine V_iconst eX10_root_20 ?_
    refine L_istore eX10_root_21 (s_4 rfl rfl) ?_
    exact LOOP 33 0 r0 _ _ (by omega) (by omega) (by omega) hp hb (by omega)
  · have e : n = 0 := by omega
    subst e
    refine L_lconst0 eX10_root_6 ?_
    -- at 7: .lreturn
    exact V_lreturn eX10_root_7 ⟨by rw [rt_eq (r := 0) (by omega) (by omega) (by omega) (by omega)], rfl⟩
end P22

