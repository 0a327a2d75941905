/-! the words, as their String tells them -/
def wdC (j : Nat) (k : Int) : Int := ((sBy.getD j []).getD k.toNat 0).toInt
theorem wd_c : ∀ j : Fin 8, ∀ k : Fin 7, k.val < sLn.getD j.val 0 → iChr (iAnd (((sBy.getD j.val []).getD k.val 0).toInt) 255) = ((sBy.getD j.val []).getD k.val 0).toInt ∧ narrow .char (.int (Int32.ofInt (((sBy.getD j.val []).getD k.val 0).toInt))) = .int (Int32.ofInt (((sBy.getD j.val []).getD k.val 0).toInt)) ∧ 97 ≤ ((sBy.getD j.val []).getD k.val 0).toInt ∧ ((sBy.getD j.val []).getD k.val 0).toInt ≤ 122 := by decide +kernel
theorem wd_l : ∀ j : Fin 8, iShr ((sLn.getD j.val 0 : Nat) : Int) 0 = ((sLn.getD j.val 0 : Nat) : Int) ∧ 2 ≤ sLn.getD j.val 0 ∧ sLn.getD j.val 0 ≤ 7 := by decide +kernel
theorem wdC_b {j : Nat} {k : Int} (hj : j < 8) (hk : 0 ≤ k ∧ k < sLn.getD j 0) : iChr (iAnd (wdC j k) 255) = wdC j k ∧ narrow .char (.int (Int32.ofInt (wdC j k))) = .int (Int32.ofInt (wdC j k)) ∧ 97 ≤ wdC j k ∧ wdC j k ≤ 122 := by
  have hl := (wd_l ⟨j, hj⟩).2.2
  exact wd_c ⟨j, hj⟩ ⟨k.toNat, by have : sLn.getD j 0 ≤ 7 := hl; omega⟩ (by show k.toNat < sLn.getD j 0; omega)
section P98
variable {G : gT} {F : fT} {A : nT} {j : Nat}
theorem p_J0_coder (hj : j < 8) : Pu G mJ0_coder_7d493 [.ref (1200 + j)] F A (vi 0) := by
  refine L_ent [some (.ref (1200 + j))] rfl ?_
  refine V_getsZ z_J0_38 eJ0_coder_7d493_0 ?_
  -- at 3: .ifCond .eq 10
  refine V_ifeq eJ0_coder_7d493_3 (fun h2 => ?_) (fun h2 => ?_)
  · omega
  · refine L_aload_n eJ0_coder_7d493_6 rfl ?_
    refine V_getSc hj z_J0_15 eJ0_coder_7d493_7 ?_
    refine V_goto eJ0_coder_7d493_10 ?_
    exact V_zreturn rfl eJ0_coder_7d493_14 ⟨rfl, rfl⟩
theorem p_J0_isLatin1 (hj : j < 8) : Pu G mJ0_isLatin1_aae02 [.ref (1200 + j)] F A (vi 1) := by
  refine L_ent [some (.ref (1200 + j))] rfl ?_
  refine V_getsZ z_J0_38 eJ0_isLatin1_aae02_0 ?_
  -- at 3: .ifCond .eq 14
  refine V_ifeq eJ0_isLatin1_aae02_3 (fun h2 => ?_) (fun h2 => ?_)
  · omega
  · refine L_aload_n eJ0_isLatin1_aae02_6 rfl ?_
    refine V_getSc hj z_J0_15 eJ0_isLatin1_aae02_7 ?_
    -- at 10: .ifCond .ne 7
    refine V_ifne eJ0_isLatin1_aae02_10 (fun h3 => ?_) (fun h3 => ?_)
    · omega
    · refine V_iconst eJ0_isLatin1_aae02_13 ?_
      refine V_goto eJ0_isLatin1_aae02_14 ?_
      exact V_zreturn rfl eJ0_isLatin1_aae02_18 ⟨rfl, rfl⟩
theorem p_J0_length (hj : j < 8) : Pu G mJ0_length_8abf5 [.ref (1200 + j)] F A (vi (sLn.getD j 0)) := by
  refine L_ent [some (.ref (1200 + j))] rfl ?_
  refine L_aload_n eJ0_length_8abf5_0 rfl ?_
  refine V_getSv hj z_J0_9 eJ0_length_8abf5_1 ?_
  refine V_lenB hj eJ0_length_8abf5_4 ?_
  refine L_aload_n eJ0_length_8abf5_5 rfl ?_
  refine C_t1 hj (p_J0_coder hj) v_J0_335 eJ0_length_8abf5_6 rfl ?_
  refine V_ishr eJ0_length_8abf5_9 ?_
  exact V_ireturn eJ0_length_8abf5_10 ⟨congrArg (fun z => some (vi z)) (wd_l ⟨j, hj⟩).1, rfl⟩
theorem p_J3_checkIndex {k n : Int} {v : Value} (hv : v = .null ∨ v = .ref 1400) (hk : 0 ≤ k ∧ k < n) (hn : n < 100) : Pu G mJ3_checkIndex_8e157 [vi k, vi n, v] F A (vi k) := by
  rcases hv with rfl | rfl
  · refine L_ent [some (vi k), some (vi n), some .null] rfl ?_
    refine L_iload_n eJ3_checkIndex_8e157_0 rfl ?_
    refine V_iflt eJ3_checkIndex_8e157_1 (fun h => ?_) (fun h => ?_)
    · omega
    · refine L_iload_n eJ3_checkIndex_8e157_4 rfl ?_
      refine L_iload_n eJ3_checkIndex_8e157_5 rfl ?_
      refine V_icmplt eJ3_checkIndex_8e157_6 (fun h => ?_) (fun h => ?_)
      · refine L_iload_n eJ3_checkIndex_8e157_16 rfl ?_
        exact V_ireturn eJ3_checkIndex_8e157_17 ⟨rfl, rfl⟩
      · omega
  · refine L_ent [some (vi k), some (vi n), some (.ref 1400)] rfl ?_
    refine L_iload_n eJ3_checkIndex_8e157_0 rfl ?_
    refine V_iflt eJ3_checkIndex_8e157_1 (fun h => ?_) (fun h => ?_)
    · omega
    · refine L_iload_n eJ3_checkIndex_8e157_4 rfl ?_
      refine L_iload_n eJ3_checkIndex_8e157_5 rfl ?_
      refine V_icmplt eJ3_checkIndex_8e157_6 (fun h => ?_) (fun h => ?_)
      · refine L_iload_n eJ3_checkIndex_8e157_16 rfl ?_
        exact V_ireturn eJ3_checkIndex_8e157_17 ⟨rfl, rfl⟩
      · omega
theorem p_J0_checkIndex {k n : Int} (hk : 0 ≤ k ∧ k < n) (hn : n < 100) : Mu G mJ0_checkIndex_df160 [vi k, vi n] F A none F A := by
  refine L_ent [some (vi k), some (vi n)] rfl ?_
  refine L_iload_n eJ0_checkIndex_df160_0 rfl ?_
  refine L_iload_n eJ0_checkIndex_df160_1 rfl ?_
  refine V_getsQ z_J0_1053 eJ0_checkIndex_df160_2 (fun v hv => ?_)
  refine C_s1 (p_J3_checkIndex hv hk hn) v_J0_1059 eJ0_checkIndex_df160_5 rfl ?_
  refine L_pop eJ0_checkIndex_df160_8 ?_
  exact V_return eJ0_checkIndex_df160_9 ⟨rfl, rfl⟩
theorem p_J1_charAt {k : Int} (hj : j < 8) (hk : 0 ≤ k ∧ k < sLn.getD j 0) : Pu G mJ1_charAt_3b067 [.ref (1300 + j), vi k] F A (vi (wdC j k)) := by
  have hl := (wd_l ⟨j, hj⟩).2.2
  have hl' : sLn.getD j 0 ≤ 7 := hl
  have hw := wdC_b hj hk
  refine L_ent [some (.ref (1300 + j)), some (vi k)] rfl ?_
  refine L_iload_n eJ1_charAt_3b067_0 rfl ?_
  refine L_aload_n eJ1_charAt_3b067_1 rfl ?_
  refine V_lenB hj eJ1_charAt_3b067_2 ?_
  refine C_s0 (p_J0_checkIndex hk (by omega)) v_J1_9 eJ1_charAt_3b067_3 rfl ?_
  refine L_aload_n eJ1_charAt_3b067_6 rfl ?_
  refine L_iload_n eJ1_charAt_3b067_7 rfl ?_
  refine V_baloadS hj (by omega) eJ1_charAt_3b067_8 ?_
  refine L_sipush eJ1_charAt_3b067_9 rfl ?_
  refine V_iand eJ1_charAt_3b067_12 ?_
  refine V_i2c eJ1_charAt_3b067_13 ?_
  rw [show ((sBy.getD j []).getD k.toNat 0).toInt = wdC j k from rfl, hw.1]
  exact V_zreturn hw.2.1 eJ1_charAt_3b067_14 ⟨rfl, rfl⟩
theorem p_J0_charAt {k : Int} (hj : j < 8) (hk : 0 ≤ k ∧ k < sLn.getD j 0) : Pu G mJ0_charAt_5068e [.ref (1200 + j), vi k] F A (vi (wdC j k)) := by
  have hw := wdC_b hj hk
  refine L_ent [some (.ref (1200 + j)), some (vi k)] rfl ?_
  refine L_aload_n eJ0_charAt_5068e_0 rfl ?_
  refine C_t1 hj (p_J0_isLatin1 hj) v_J0_492 eJ0_charAt_5068e_1 rfl ?_
  refine V_ifeq eJ0_charAt_5068e_4 (fun h2 => ?_) (fun h2 => ?_)
  · omega
  · refine L_aload_n eJ0_charAt_5068e_7 rfl ?_
    refine V_getSv hj z_J0_9 eJ0_charAt_5068e_8 ?_
    refine L_iload_n eJ0_charAt_5068e_11 rfl ?_
    refine C_s1 (p_J1_charAt hj hk) v_J0_495 eJ0_charAt_5068e_12 rfl ?_
    exact V_zreturn hw.2.1 eJ0_charAt_5068e_15 ⟨rfl, rfl⟩
end P98

