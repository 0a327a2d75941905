/-! bytes of a number -/
section P97
theorem s64u : ∀ k, k < 64 → ((nI k).toInt64.toUInt64 &&& Int64.toUInt64 63) = UInt64.ofNat k := by decide +kernel
theorem s64s : ∀ k, k < 64 → (((nI k).toInt64 &&& 63).toBitVec.smod 64).toNat = k := by decide +kernel
theorem b255 : ∀ i, i < 64 → (255#64).getLsbD i = decide (i < 8) := by decide +kernel
theorem byt_eq (x : Int64) {k : Nat} (hk : k + 8 ≤ 64) : (x.toUInt64 >>> ((nI k).toInt64.toUInt64 &&& Int64.toUInt64 63)).toInt64 &&& 255 = (x >>> ((nI k).toInt64 &&& 63)) &&& 255 := by
  have e : (x.toUInt64 >>> ((nI k).toInt64.toUInt64 &&& Int64.toUInt64 63)).toInt64.toBitVec = x.toBitVec >>> k := by
    rw [s64u k (by omega)]
    apply BitVec.eq_of_toNat_eq
    show (x.toUInt64 >>> UInt64.ofNat k).toNat = _
    have h1 : (UInt64.ofNat k).toNat = k := by
      show (BitVec.ofNat 64 k).toNat = k
      rw [BitVec.toNat_ofNat, Nat.mod_eq_of_lt (by omega)]
    rw [UInt64.toNat_shiftRight, h1, Nat.mod_eq_of_lt (by omega), BitVec.toNat_ushiftRight]
    rfl
  have f : (x >>> ((nI k).toInt64 &&& 63)).toBitVec = x.toBitVec.sshiftRight k := by
    rw [Int64.toBitVec_shiftRight]
    show x.toBitVec.sshiftRight (((nI k).toInt64 &&& 63).toBitVec.smod 64).toNat = _
    rw [s64s k (by omega)]
  rw [← Int64.toBitVec_inj, Int64.toBitVec_and, Int64.toBitVec_and, e, f]
  show x.toBitVec >>> k &&& 255#64 = x.toBitVec.sshiftRight k &&& 255#64
  apply BitVec.eq_of_getLsbD_eq
  intro i hi
  rw [BitVec.getLsbD_and, BitVec.getLsbD_and, b255 i hi, BitVec.getLsbD_ushiftRight, BitVec.getLsbD_sshiftRight]
  by_cases c : i < 8
  · have d : k + i < 64 := by omega
    have g : ¬ 64 ≤ i := by omega
    simp [d, g]
  · simp [c]
theorem byt_b (x : Int64) : ∃ m : Nat, m < 256 ∧ x &&& 255 = lN m := ⟨x.toBitVec.toNat % 2 ^ 8, Nat.mod_lt _ (by decide), Int64.toBitVec_inj.mp (BitVec.eq_of_toNat_eq (by
  show (x.toBitVec &&& 255#64).toNat = (BitVec.ofNat 64 (x.toBitVec.toNat % 2 ^ 8)).toNat
  rw [BitVec.toNat_and, show (255#64).toNat = 2 ^ 8 - 1 from by decide, Nat.and_two_pow_sub_one_eq_mod, BitVec.toNat_ofNat]
  omega))⟩
def bY (z i : Int) : Int := lAnd (lUshr z (8 * i)) 255
theorem bY_b {z i : Int} : 0 ≤ bY z i ∧ bY z i ≤ 255 := by
  unfold bY lAnd
  obtain ⟨m, hm, e⟩ := byt_b (Int64.ofInt (lUshr z (8 * i)))
  rw [show Int64.ofInt 255 = 255 from rfl, e, show (lN m).toInt = (m : Int) from lg_ofNat_toInt (by omega)]
  omega
theorem bY_s {z i : Int} (hi : 0 ≤ i ∧ i < 8) : lAnd (lShr z (8 * i)) 255 = bY z i := by
  obtain ⟨k, ek⟩ : ∃ k : Nat, 8 * i = k := ⟨(8 * i).toNat, by omega⟩
  unfold bY lAnd lShr lUshr
  rw [Int64.ofInt_toInt, Int64.ofInt_toInt, show Int64.ofInt 255 = 255 from rfl, ek, ofI_n, byt_eq (Int64.ofInt z) (k := k) (by omega)]
def fdF (B : Int → Int) (t p n z : Int) : Int → Int := fun j => if t ≤ j ∧ j < t + p then bY z (n - 1 - (j - t)) else B j
theorem fdF_0 {B : Int → Int} {t n z : Int} : fdF B t 0 n z = B := by
  funext j
  unfold fdF
  rw [if_neg (by omega)]
theorem fdF_s {B : Int → Int} {t p n z : Int} (hp : 0 ≤ p) : uI (fdF B t p n z) (t + p) (bY z (n - 1 - p)) = fdF B t (p + 1) n z := by
  funext j
  simp only [uI, fdF]
  by_cases c : j = t + p
  · rw [if_pos c, if_pos (by omega), c, show n - 1 - (t + p - t) = n - 1 - p by omega]
  · rw [if_neg c]
    by_cases d : t ≤ j ∧ j < t + p
    · rw [if_pos d, if_pos (by omega)]
    · rw [if_neg d, if_neg (by omega)]
end P97
section Q97
variable {F : fT} {A : nT}
theorem p_X7_append {G : gT} {n z t : Int} (h1 : F 28 1 = t) (ht : 0 ≤ t) (hn : 1 ≤ n ∧ n ≤ 8) (hs : t + n ≤ 160) : Mu G mX7_append [.ref 28, vi n, vl z] F A none (uF F 28 1 (t + n)) (sA A 29 (fdF (A 29) t n n z)) := by
  refine L_ent [some (.ref 28), some (vi n), some (vl z), none, none] rfl ?_
  generalize hQ : (fun (r' : Option Value) (w : wT) => r' = none ∧ w = sw (uF F 28 1 (t + n)) (sA A 29 (fdF (A 29) t n n z))) = Q
  have LOOP : ∀ (r : Nat) (p : Int), p + r = n → 0 ≤ p → V G mX7_append Q 0 0 5 [some (.ref 28), some (vi n), some (vl z), none, some (vi (n - 1 - p))] [] (sw (uF F 28 1 (t + p)) (sA A 29 (fdF (A 29) t p n z))) := by
    intro r
    induction r with
    | zero =>
      intro p e1 e2
      have e : p = n := by omega
      subst e
      refine L_iload eX7_append_5 rfl ?_
      -- at 7: .ifCond .lt 50
      refine V_iflt eX7_append_7 (fun h2 => ?_) (fun h2 => ?_)
      · refine V_return eX7_append_57 ?_
        rw [← hQ]
        exact ⟨rfl, rfl⟩
      · omega
    | succ r ih =>
      intro p e1 e2
      have es : uF F 28 1 (t + p) 28 1 = t + p := uF_eq
      refine L_iload eX7_append_5 rfl ?_
      -- at 7: .ifCond .lt 50
      refine V_iflt eX7_append_7 (fun h2 => ?_) (fun h2 => ?_)
      · omega
      · refine L_aload_n eX7_append_10 rfl ?_
        refine L_get eX7_append_11 f_X7_15.g rfl rfl ?_
        refine L_sipush eX7_append_14 rfl ?_
        -- at 17: .if_icmp .ge 40
        refine V_icmpge eX7_append_17 (fun h3 => ?_) (fun h3 => ?_)
        · omega
        · refine L_aload_n eX7_append_20 rfl ?_
          refine L_getR (r := 29) eX7_append_21 f_X7_9.g rfl rfl (by decide) ?_
          refine L_aload_n eX7_append_24 rfl ?_
          refine L_get eX7_append_25 f_X7_15.g rfl rfl ?_
          rw [es]
          refine L_lload_n eX7_append_28 rfl ?_
          refine L_bipush eX7_append_29 rfl ?_
          refine L_iload eX7_append_31 rfl ?_
          refine V_imul eX7_append_33 ?_
          refine V_lushr eX7_append_34 ?_
          refine L_ldc2 eX7_append_35 k_X7_31 ?_
          refine V_land eX7_append_38 ?_
          refine V_l2i eX7_append_39 ?_
          refine L_iast eX7_append_40 rfl ?_
          refine L_aload_n eX7_append_41 rfl ?_
          refine L_dup eX7_append_42 ?_
          refine L_get eX7_append_43 f_X7_15.g rfl rfl ?_
          refine V_iconst eX7_append_46 ?_
          refine V_iadd eX7_append_47 ?_
          refine L_put eX7_append_48 f_X7_15 rfl rfl ?_
          refine L_iinc eX7_append_51 rfl (s_4 rfl rfl) ?_
          refine V_goto eX7_append_54 ?_
          rw [show lAnd (lUshr z (8 * (n - 1 - p))) 255 = bY z (n - 1 - p) from rfl, sA_eq, sA_sA, fdF_s e2, uF_eq, uF_uF]
          have := ih (p + 1) (by omega) (by omega)
          rw [show n - 1 - (p + 1) = n - 1 - p + -1 by omega, show t + (p + 1) = t + p + 1 by omega] at this
          exact this
  refine L_iload_n eX7_append_0 rfl ?_
  refine V_iconst eX7_append_1 ?_
  refine V_isub eX7_append_2 ?_
  refine L_istore eX7_append_3 (s_4 rfl rfl) ?_
  have := LOOP n.toNat 0 (by omega) (by omega)
  rw [fdF_0, sA_self, show t + 0 = F 28 1 by omega, uF_self, show n - 1 - 0 = n - 1 by omega] at this
  exact this
theorem pr_feed (h : Iv F A) {n z : Int} (hn : i32 n) (hz : -9223372036854775808 ≤ z ∧ z < 9223372036854775808) : Pr mX10_feed mX11_feed [vi n, vl z] F A := by
  unfold i32 at hn
  have htx := h.tx
  by_cases h1 : 1 ≤ n ∧ n ≤ 8
  · by_cases h2 : F 28 1 + n ≤ 160
    · obtain ⟨F1, eF1⟩ : ∃ F1, F1 = uF F 28 1 (F 28 1 + n) := ⟨_, rfl⟩
      obtain ⟨A1, eA1⟩ : ∃ A1, A1 = sA A 29 (fdF (A 29) (F 28 1) n n z) := ⟨_, rfl⟩
      have f16 : F1 66 16 = F 28 1 := by rw [eF1, uF_ne (by decide)]; exact htx.1
      have a73 : A1 73 = A 73 := by rw [eA1]; exact sA_ne (by decide)
      obtain ⟨t, et⟩ : ∃ t, F 28 1 = t := ⟨_, rfl⟩
      refine ⟨vi (F 28 1 + n), F1, A1, uF F1 66 16 (F 28 1 + n), sA A1 73 (fdF (A1 73) (F 28 1) n n z), fun G => ?_, fun G => ?_, ?_, ty_v⟩
      · rw [eF1, eA1]
        refine L_ent [some (.ref 0), some (vi n), some (vl z), none] rfl ?_
        refine L_iload_n eX10_feed_0 rfl ?_
        refine V_iconst eX10_feed_1 ?_
        refine V_icmplt eX10_feed_2 (fun h2 => ?_) (fun h2 => ?_)
        · (exfalso; omega)
        · refine L_iload_n eX10_feed_5 rfl ?_
          refine L_bipush eX10_feed_6 rfl ?_
          refine V_icmple eX10_feed_8 (fun h8 => ?_) (fun h8 => ?_)
          · refine L_aload_n eX10_feed_15 rfl ?_
            refine L_getR (r := 28) eX10_feed_16 f_X10_25.g rfl rfl (by decide) ?_
            refine L_get eX10_feed_19 f_X10_97.g rfl rfl ?_
            refine L_iload_n eX10_feed_22 rfl ?_
            refine V_iadd eX10_feed_23 ?_
            refine L_sipush eX10_feed_24 rfl ?_
            refine V_icmple eX10_feed_27 (fun h27 => ?_) (fun h27 => ?_)
            · refine L_aload_n eX10_feed_34 rfl ?_
              refine L_getR (r := 28) eX10_feed_35 f_X10_25.g rfl rfl (by decide) ?_
              refine L_iload_n eX10_feed_38 rfl ?_
              refine L_lload_n eX10_feed_39 rfl ?_
              refine C_v0 (p_X7_append rfl (by omega) (by omega) (by omega)) v_X10_100 eX10_feed_40 rfl rfl ?_
              refine L_aload_n eX10_feed_43 rfl ?_
              refine L_getR (r := 28) eX10_feed_44 f_X10_25.g rfl rfl (by decide) ?_
              refine L_get eX10_feed_47 f_X10_97.g rfl rfl ?_
              exact V_ireturn eX10_feed_50 ((by first | (exfalso; omega) | (rw [uF_eq]; exact ⟨rfl, rfl⟩)))
            · (exfalso; omega)
          · (exfalso; omega)
      · rw [et] at f16 h2 htx ⊢
        clear eF1 eA1
        generalize hQ : (fun (r' : Option Value) (w : wT) => r' = some (vi (t + n)) ∧ w = sw (uF F1 66 16 (t + n)) (sA A1 73 (fdF (A1 73) t n n z))) = Q
        have LOOP : ∀ (r : Nat) (p : Int), p + r = n → 0 ≤ p → V G mX11_feed Q 0 0 37 [some (.ref 66), some (vi n), some (vl z), none, some (vi (n - 1 - p))] [] (sw (uF F1 66 16 (t + p)) (sA A1 73 (fdF (A1 73) t p n z))) := by
          intro r
          induction r with
          | zero =>
            intro p e1 e2
            have e : p = n := by omega
            subst e
            refine L_iload eX11_feed_37 rfl ?_
            -- at 39: .ifCond .lt 40
            refine V_iflt eX11_feed_39 (fun h3 => ?_) (fun h3 => ?_)
            · refine L_aload_n eX11_feed_79 rfl ?_
              refine L_get eX11_feed_80 f_X11_156.g rfl rfl ?_
              -- at 83: .ireturn
              exact V_ireturn eX11_feed_83 (by rw [← hQ, uF_eq]; exact ⟨rfl, rfl⟩)
            · omega
          | succ r ih =>
            intro p e1 e2
            have es : uF F1 66 16 (t + p) 66 16 = t + p := uF_eq
            refine L_iload eX11_feed_37 rfl ?_
            -- at 39: .ifCond .lt 40
            refine V_iflt eX11_feed_39 (fun h3 => ?_) (fun h3 => ?_)
            · omega
            · refine L_aload_n eX11_feed_42 rfl ?_
              refine L_getR (r := 73) eX11_feed_43 f_X11_28.g rfl rfl (by decide) ?_
              refine L_aload_n eX11_feed_46 rfl ?_
              refine L_get eX11_feed_47 f_X11_156.g rfl rfl ?_
              rw [es]
              refine L_lload_n eX11_feed_50 rfl ?_
              refine L_bipush eX11_feed_51 rfl ?_
              refine L_iload eX11_feed_53 rfl ?_
              refine V_imul eX11_feed_55 ?_
              refine V_lshr eX11_feed_56 ?_
              refine L_ldc2 eX11_feed_57 k_X11_159 ?_
              refine V_land eX11_feed_60 ?_
              refine V_l2i eX11_feed_61 ?_
              refine L_iast eX11_feed_62 rfl ?_
              refine L_aload_n eX11_feed_63 rfl ?_
              refine L_dup eX11_feed_64 ?_
              refine L_get eX11_feed_65 f_X11_156.g rfl rfl ?_
              refine V_iconst eX11_feed_68 ?_
              refine V_iadd eX11_feed_69 ?_
              refine L_put eX11_feed_70 f_X11_156 rfl rfl ?_
              refine L_iinc eX11_feed_73 rfl (s_4 rfl rfl) ?_
              refine V_goto eX11_feed_76 ?_
              rw [bY_s (by omega), sA_eq, sA_sA, fdF_s e2, uF_eq, uF_uF]
              have := ih (p + 1) (by omega) (by omega)
              rw [show n - 1 - (p + 1) = n - 1 - p + -1 by omega, show t + (p + 1) = t + p + 1 by omega] at this
              exact this
        have go : V G mX11_feed Q 0 0 32 [some (.ref 66), some (vi n), some (vl z), none, none] [] (sw F1 A1) := by
          refine L_iload_n eX11_feed_32 rfl ?_
          refine V_iconst eX11_feed_33 ?_
          refine V_isub eX11_feed_34 ?_
          refine L_istore eX11_feed_35 (s_4 rfl rfl) ?_
          have := LOOP n.toNat 0 (by omega) (by omega)
          rw [fdF_0, sA_self, show t + 0 = F1 66 16 by omega, uF_self, show n - 1 - 0 = n - 1 by omega] at this
          exact this
        refine L_ent [some (.ref 66), some (vi n), some (vl z), none, none] rfl ?_
        rw [hQ]
        refine L_iload_n eX11_feed_0 rfl ?_
        refine V_i2l eX11_feed_1 ?_
        refine L_lconst1 eX11_feed_2 ?_
        refine L_ldc2 eX11_feed_3 k_X11_150 ?_
        refine C_s1 (p_X11_in (by omega) (by omega) (by omega)) v_X11_152 eX11_feed_6 rfl ?_
        refine V_ifneB eX11_feed_9 (fun h9 => ?_) (fun h9 => ?_)
        · refine L_aload_n eX11_feed_16 rfl ?_
          refine L_get eX11_feed_17 f_X11_156.g rfl rfl ?_
          refine L_iload_n eX11_feed_20 rfl ?_
          refine V_iadd eX11_feed_21 ?_
          refine L_sipush eX11_feed_22 rfl ?_
          refine V_icmple eX11_feed_25 (fun h25 => ?_) (fun h25 => ?_)
          · exact go
          · (exfalso; omega)
        · (exfalso; omega)
      · have ff : ∀ o k, (o ≠ 28 ∨ k ≠ 1) → (o ≠ 66 ∨ k ≠ 16) → uF F1 66 16 (F 28 1 + n) o k = F o k := fun o k a b => by rw [uF_ne (by omega), eF1, uF_ne (by omega)]
        have fa : ∀ o, o ≠ 29 → o ≠ 73 → sA A1 73 (fdF (A1 73) (F 28 1) n n z) o = A o := fun o a b => by rw [sA_ne b, eA1, sA_ne a]
        have g28 : uF F1 66 16 (F 28 1 + n) 28 1 = F 28 1 + n := by rw [uF_ne (by decide), eF1, uF_eq]
        have g16 : uF F1 66 16 (F 28 1 + n) 66 16 = F 28 1 + n := uF_eq
        refine h.fr ⟨fun o k e => ?_, fun o e => ?_⟩ ?_ ?_ ?_ ?_ ?_ ?_ ?_ ?_ ?_ ?_ ?_
        · have := kRF_in e
          exact ff o k (by omega) (by omega)
        · have := kRA_in e
          exact fa o (by omega) (by omega)
        · rw [ff 66 11 (by decide) (by decide), ff 66 12 (by decide) (by decide), ff 0 12 (by decide) (by decide), ff 0 13 (by decide) (by decide)]; exact h.ear
        · rw [ff 66 13 (by decide) (by decide), ff 66 14 (by decide) (by decide), ff 0 14 (by decide) (by decide), ff 0 15 (by decide) (by decide)]; exact h.post
        · rw [g28, g16]; omega
        · rw [g28, sA_eq, sA_ne (by decide), eA1, sA_eq, sA_ne (by decide)]
          intro i a b
          unfold fdF
          have hb := bY_b (z := z) (i := n - 1 - (i - F 28 1))
          by_cases c : F 28 1 ≤ i ∧ i < F 28 1 + n
          · rw [if_pos c, if_pos c]
            exact ⟨rfl, hb⟩
          · rw [if_neg c, if_neg c]
            exact h.txb i a (by omega)
        · rw [ff 66 21 (by decide) (by decide), ff 0 16 (by decide) (by decide)]; exact h.fa
        · rw [ff 66 49 (by decide) (by decide), ff 59 0 (by decide) (by decide)]; exact h.hn
        · rw [ff 59 0 (by decide) (by decide), fa 93 (by decide) (by decide), fa 60 (by decide) (by decide)]; exact h.hd
        · rw [ff 66 50 (by decide) (by decide), ff 59 1 (by decide) (by decide)]; exact h.cn
        · rw [ff 59 1 (by decide) (by decide), fa 94 (by decide) (by decide), fa 61 (by decide) (by decide)]; exact h.ct
        · rw [ff 66 55 (by decide) (by decide), ff 63 0 (by decide) (by decide)]; exact h.fn
        · rw [ff 63 0 (by decide) (by decide), fa 97 (by decide) (by decide), fa 98 (by decide) (by decide), fa 64 (by decide) (by decide), fa 65 (by decide) (by decide)]; exact h.fi
    · refine ⟨vi (-1004), F, A, F, A, fun G => ?_, fun G => ?_, h, ty_v⟩
      · refine L_ent [some (.ref 0), some (vi n), some (vl z), none] rfl ?_
        refine L_iload_n eX10_feed_0 rfl ?_
        refine V_iconst eX10_feed_1 ?_
        refine V_icmplt eX10_feed_2 (fun h2 => ?_) (fun h2 => ?_)
        · (exfalso; omega)
        · refine L_iload_n eX10_feed_5 rfl ?_
          refine L_bipush eX10_feed_6 rfl ?_
          refine V_icmple eX10_feed_8 (fun h8 => ?_) (fun h8 => ?_)
          · refine L_aload_n eX10_feed_15 rfl ?_
            refine L_getR (r := 28) eX10_feed_16 f_X10_25.g rfl rfl (by decide) ?_
            refine L_get eX10_feed_19 f_X10_97.g rfl rfl ?_
            refine L_iload_n eX10_feed_22 rfl ?_
            refine V_iadd eX10_feed_23 ?_
            refine L_sipush eX10_feed_24 rfl ?_
            refine V_icmple eX10_feed_27 (fun h27 => ?_) (fun h27 => ?_)
            · (exfalso; omega)
            · refine L_sipush eX10_feed_30 rfl ?_
              exact V_ireturn eX10_feed_33 ((by first | (exfalso; omega) | exact ⟨rfl, rfl⟩))
          · (exfalso; omega)
      · refine L_ent [some (.ref 66), some (vi n), some (vl z), none, none] rfl ?_
        refine L_iload_n eX11_feed_0 rfl ?_
        refine V_i2l eX11_feed_1 ?_
        refine L_lconst1 eX11_feed_2 ?_
        refine L_ldc2 eX11_feed_3 k_X11_150 ?_
        refine C_s1 (p_X11_in (by omega) (by omega) (by omega)) v_X11_152 eX11_feed_6 rfl ?_
        refine V_ifneB eX11_feed_9 (fun h9 => ?_) (fun h9 => ?_)
        · refine L_aload_n eX11_feed_16 rfl ?_
          refine L_get eX11_feed_17 f_X11_156.g rfl rfl ?_
          refine L_iload_n eX11_feed_20 rfl ?_
          refine V_iadd eX11_feed_21 ?_
          refine L_sipush eX11_feed_22 rfl ?_
          refine V_icmple eX11_feed_25 (fun h25 => ?_) (fun h25 => ?_)
          · (exfalso; omega)
          · refine L_sipush eX11_feed_28 rfl ?_
            exact V_ireturn eX11_feed_31 ((by first | (exfalso; omega) | exact ⟨rfl, rfl⟩))
        · (exfalso; omega)
  · refine ⟨vi (-1002), F, A, F, A, fun G => ?_, fun G => ?_, h, ty_v⟩
    · refine L_ent [some (.ref 0), some (vi n), some (vl z), none] rfl ?_
      refine L_iload_n eX10_feed_0 rfl ?_
      refine V_iconst eX10_feed_1 ?_
      refine V_icmplt eX10_feed_2 (fun h2 => ?_) (fun h2 => ?_)
      · refine L_sipush eX10_feed_11 rfl ?_
        exact V_ireturn eX10_feed_14 ((by first | (exfalso; omega) | exact ⟨rfl, rfl⟩))
      · refine L_iload_n eX10_feed_5 rfl ?_
        refine L_bipush eX10_feed_6 rfl ?_
        refine V_icmple eX10_feed_8 (fun h8 => ?_) (fun h8 => ?_)
        · (exfalso; omega)
        · refine L_sipush eX10_feed_11 rfl ?_
          exact V_ireturn eX10_feed_14 ((by first | (exfalso; omega) | exact ⟨rfl, rfl⟩))
    · refine L_ent [some (.ref 66), some (vi n), some (vl z), none, none] rfl ?_
      refine L_iload_n eX11_feed_0 rfl ?_
      refine V_i2l eX11_feed_1 ?_
      refine L_lconst1 eX11_feed_2 ?_
      refine L_ldc2 eX11_feed_3 k_X11_150 ?_
      refine C_s1 (p_X11_in (by omega) (by omega) (by omega)) v_X11_152 eX11_feed_6 rfl ?_
      refine V_ifneB eX11_feed_9 (fun h9 => ?_) (fun h9 => ?_)
      · (exfalso; omega)
      · refine L_sipush eX11_feed_12 rfl ?_
        exact V_ireturn eX11_feed_15 ((by first | (exfalso; omega) | exact ⟨rfl, rfl⟩))
end Q97

