/-! small SETS as numbers, bit by bit -/
section P92
theorem ofI_n (a : Nat) : Int32.ofInt (a : Int) = nI a := by
  apply Int32.toBitVec_inj.1
  show BitVec.ofInt 32 (a : Int) = BitVec.ofNat 32 a
  exact BitVec.ofInt_natCast 32 a
theorem nI_and (a b : Nat) : nI a &&& nI b = nI (a &&& b) := by
  apply Int32.toBitVec_inj.1
  show BitVec.ofNat 32 a &&& BitVec.ofNat 32 b = BitVec.ofNat 32 (a &&& b)
  apply BitVec.eq_of_getLsbD_eq
  intro i hi
  simp [hi]
theorem nI_or (a b : Nat) : nI a ||| nI b = nI (a ||| b) := by
  apply Int32.toBitVec_inj.1
  show BitVec.ofNat 32 a ||| BitVec.ofNat 32 b = BitVec.ofNat 32 (a ||| b)
  apply BitVec.eq_of_getLsbD_eq
  intro i hi
  simp [hi]
theorem iAnd_n {a b : Nat} (ha : a < 256) (hb : b < 256) : iAnd a b = ((a &&& b : Nat) : Int) := by
  unfold iAnd
  rw [ofI_n, ofI_n, nI_and, nI_toInt]
  exact Nat.lt_of_le_of_lt Nat.and_le_left (by omega)
theorem iOr_n {a b : Nat} (ha : a < 256) (hb : b < 256) : iOr a b = ((a ||| b : Nat) : Int) := by
  unfold iOr
  rw [ofI_n, ofI_n, nI_or, nI_toInt]
  exact Nat.lt_trans (Nat.or_lt_two_pow (n := 8) ha hb) (by decide)
theorem shl1 : ∀ k : Fin 9, iShl 1 (k.val : Int) = ((2 ^ k.val : Nat) : Int) := by decide +kernel
theorem iShl1 {k : Nat} (h : k ≤ 8) : iShl 1 (k : Int) = ((2 ^ k : Nat) : Int) := shl1 ⟨k, by omega⟩
theorem bit256 : ∀ m : Fin 256, ∀ k : Fin 8, iAnd (iShr (m.val : Int) (k.val : Int)) 1 = if m.val.testBit k.val then 1 else 0 := by decide +kernel
theorem iBit {m k : Nat} (hm : m < 256) (hk : k < 8) : iAnd (iShr (m : Int) (k : Int)) 1 = if m.testBit k then 1 else 0 := bit256 ⟨m, hm⟩ ⟨k, hk⟩
theorem clr256 : ∀ m : Fin 256, ∀ k : Fin 8, iAnd (m.val : Int) (iXor (iShl 1 (k.val : Int)) (-1)) = ((if m.val.testBit k.val then m.val ^^^ 2 ^ k.val else m.val : Nat) : Int) := by decide +kernel
theorem iClr {m k : Nat} (hm : m < 256) (hk : k < 8) : iAnd (m : Int) (iXor (iShl 1 (k : Int)) (-1)) = ((if m.testBit k then m ^^^ 2 ^ k else m : Nat) : Int) := clr256 ⟨m, hm⟩ ⟨k, hk⟩
theorem lt256 : ∀ m : Fin 256, ∀ k : Fin 8, m.val.testBit k.val = true → m.val ^^^ 2 ^ k.val < m.val := by decide +kernel
theorem xor_lt {m k : Nat} (hm : m < 256) (hk : k < 8) (h : m.testBit k = true) : m ^^^ 2 ^ k < m := lt256 ⟨m, hm⟩ ⟨k, hk⟩ h
theorem ex256 : ∀ m : Fin 256, m.val ≠ 0 → ∃ k : Fin 8, m.val.testBit k.val = true := by decide +kernel
def pcN (m : Nat) : Nat := (m.testBit 0).toNat + (m.testBit 1).toNat + (m.testBit 2).toNat + (m.testBit 3).toNat + (m.testBit 4).toNat + (m.testBit 5).toNat
theorem pc_le : ∀ h : Fin 7, ∀ m : Fin 64, m.val < 2 ^ h.val → pcN m.val ≤ h.val := by decide +kernel
def bc1 (x : Int) : Int := x - iAnd (iUshr x 1) 1431655765
def bc2 (x : Int) : Int := iAnd x 858993459 + iAnd (iUshr x 2) 858993459
def bc3 (x : Int) : Int := iAnd (x + iUshr x 4) 252645135
def bc4 (x : Int) : Int := x + iUshr x 8
def bc5 (x : Int) : Int := x + iUshr x 16
theorem bc64 : ∀ m : Fin 64, iAnd (bc5 (bc4 (bc3 (bc2 (bc1 (m.val : Int)))))) 63 = (pcN m.val : Int) := by decide +kernel
end P92
section Q92
variable {G : gT} {F : fT} {A : nT}
theorem p_J6_bitCount {m : Nat} (hm : m < 64) : Pu G mJ6_bitCount_0f7a4 [vi (m : Int)] F A (vi (pcN m : Int)) := by
  refine L_ent [some (vi (m : Int))] rfl ?_
  refine L_iload_n eJ6_bitCount_0f7a4_0 rfl ?_
  refine L_iload_n eJ6_bitCount_0f7a4_1 rfl ?_
  refine V_iconst eJ6_bitCount_0f7a4_2 ?_
  refine V_iushr eJ6_bitCount_0f7a4_3 ?_
  refine L_ldcw eJ6_bitCount_0f7a4_4 k_J6_265 ?_
  refine V_iand eJ6_bitCount_0f7a4_7 ?_
  refine V_isub eJ6_bitCount_0f7a4_8 ?_
  refine L_istore_n eJ6_bitCount_0f7a4_9 (s_0 rfl) ?_
  refine L_iload_n eJ6_bitCount_0f7a4_10 rfl ?_
  refine L_ldcw eJ6_bitCount_0f7a4_11 k_J6_266 ?_
  refine V_iand eJ6_bitCount_0f7a4_14 ?_
  refine L_iload_n eJ6_bitCount_0f7a4_15 rfl ?_
  refine V_iconst eJ6_bitCount_0f7a4_16 ?_
  refine V_iushr eJ6_bitCount_0f7a4_17 ?_
  refine L_ldcw eJ6_bitCount_0f7a4_18 k_J6_266 ?_
  refine V_iand eJ6_bitCount_0f7a4_21 ?_
  refine V_iadd eJ6_bitCount_0f7a4_22 ?_
  refine L_istore_n eJ6_bitCount_0f7a4_23 (s_0 rfl) ?_
  refine L_iload_n eJ6_bitCount_0f7a4_24 rfl ?_
  refine L_iload_n eJ6_bitCount_0f7a4_25 rfl ?_
  refine V_iconst eJ6_bitCount_0f7a4_26 ?_
  refine V_iushr eJ6_bitCount_0f7a4_27 ?_
  refine V_iadd eJ6_bitCount_0f7a4_28 ?_
  refine L_ldcw eJ6_bitCount_0f7a4_29 k_J6_267 ?_
  refine V_iand eJ6_bitCount_0f7a4_32 ?_
  refine L_istore_n eJ6_bitCount_0f7a4_33 (s_0 rfl) ?_
  refine L_iload_n eJ6_bitCount_0f7a4_34 rfl ?_
  refine L_iload_n eJ6_bitCount_0f7a4_35 rfl ?_
  refine L_bipush eJ6_bitCount_0f7a4_36 rfl ?_
  refine V_iushr eJ6_bitCount_0f7a4_38 ?_
  refine V_iadd eJ6_bitCount_0f7a4_39 ?_
  refine L_istore_n eJ6_bitCount_0f7a4_40 (s_0 rfl) ?_
  refine L_iload_n eJ6_bitCount_0f7a4_41 rfl ?_
  refine L_iload_n eJ6_bitCount_0f7a4_42 rfl ?_
  refine L_bipush eJ6_bitCount_0f7a4_43 rfl ?_
  refine V_iushr eJ6_bitCount_0f7a4_45 ?_
  refine V_iadd eJ6_bitCount_0f7a4_46 ?_
  refine L_istore_n eJ6_bitCount_0f7a4_47 (s_0 rfl) ?_
  refine L_iload_n eJ6_bitCount_0f7a4_48 rfl ?_
  refine L_bipush eJ6_bitCount_0f7a4_49 rfl ?_
  refine V_iand eJ6_bitCount_0f7a4_51 ?_
  exact V_ireturn eJ6_bitCount_0f7a4_52 ⟨congrArg (fun z => some (vi z)) (bc64 ⟨m, hm⟩), rfl⟩
theorem p_X11_ones {m : Nat} (hm : m < 64) : Pu G mX11_ones [vi (m : Int)] F A (vi (pcN m : Int)) := by
  have hb : ∀ k : Nat, k < 6 → iAnd (iShr (m : Int) (k : Int)) 1 = ((m.testBit k).toNat : Int) := fun k hk => by
    rw [iBit (by omega) (by omega)]
    cases m.testBit k <;> rfl
  refine L_ent [some (vi (m : Int)), none, none] rfl ?_
  generalize hQ : (fun (r' : Option Value) (w : wT) => r' = some (vi (pcN m : Int)) ∧ w = sw F A) = Q
  refine V_iconst eX11_ones_0 ?_
  refine L_istore_n eX11_ones_1 (s_1 rfl rfl) ?_
  refine V_iconst eX11_ones_2 ?_
  refine L_istore_n eX11_ones_3 (s_2 rfl rfl) ?_
  have LOOP : ∀ (r k : Nat) (z : Int), k + r = 6 → z = sI (fun j => ((m.testBit j).toNat : Int)) k → V G mX11_ones Q 0 0 4 [some (vi (m : Int)), some (vi z), some (vi (k : Int))] [] (sw F A) := by
    intro r
    induction r with
    | zero =>
      intro k z e1 e2
      refine L_iload_n eX11_ones_4 rfl ?_
      refine L_bipush eX11_ones_5 rfl ?_
      -- at 7: .if_icmp .ge 17
      refine V_icmpge eX11_ones_7 (fun h2 => ?_) (fun h2 => ?_)
      · have e : k = 6 := by omega
        subst e
        refine L_iload_n eX11_ones_24 rfl ?_
        -- at 25: .ireturn
        exact V_ireturn eX11_ones_25 (by rw [← hQ, e2]; refine ⟨?_, rfl⟩; unfold pcN; simp [sI])
      · omega
    | succ r ih =>
      intro k z e1 e2
      refine L_iload_n eX11_ones_4 rfl ?_
      refine L_bipush eX11_ones_5 rfl ?_
      -- at 7: .if_icmp .ge 17
      refine V_icmpge eX11_ones_7 (fun h2 => ?_) (fun h2 => ?_)
      · omega
      · refine L_iload_n eX11_ones_10 rfl ?_
        refine L_iload_n eX11_ones_11 rfl ?_
        refine L_iload_n eX11_ones_12 rfl ?_
        refine V_ishr eX11_ones_13 ?_
        refine V_iconst eX11_ones_14 ?_
        refine V_iand eX11_ones_15 ?_
        rw [hb k (by omega)]
        refine V_iadd eX11_ones_16 ?_
        refine L_istore_n eX11_ones_17 (s_1 rfl rfl) ?_
        refine L_iinc eX11_ones_18 rfl (s_2 rfl rfl) ?_
        refine V_goto eX11_ones_21 ?_
        exact ih (k + 1) _ (by omega) (by rw [sI, e2])
  exact LOOP 6 0 0 (by omega) rfl
end Q92

