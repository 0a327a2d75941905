/-! IMAGES: kept, and gone back to -/
def gbF (F : fT) (A : nT) (b : Int) : fT := uF (uF (uF (uF (uF F 66 40 (-1)) 66 0 (A 99 b)) 66 1 (A 99 (b + 1))) 66 5 (A 99 (b + 2))) 66 6 (A 99 (b + 3))
def gbS (A : nT) (A' : nT) (b : Int) : Prop := (∀ o, o < 67 ∨ 72 < o → A' o = A o) ∧ (eqO 12 (A' 67) (fun i => A 99 (b + 4 + i))) ∧ (eqO 12 (A' 68) (fun i => A 99 (b + 16 + i))) ∧ (eqO 12 (A' 69) (fun i => A 99 (b + 28 + i))) ∧ (eqO 5 (A' 72) (fun i => A 99 (b + 40 + i))) ∧ (eqO 61 (A' 70) (fun i => A 99 (b + 45 + i))) ∧ (eqO 61 (A' 71) (fun i => A 99 (b + 106 + i)))
theorem gbS.fo {A : nT} {A' : nT} {b : Int} (h : gbS A A' b) : ∀ o, o < 67 ∨ 72 < o → A' o = A o := h.1
theorem gbS.str {A : nT} {A' : nT} {b : Int} (h : gbS A A' b) : eqO 12 (A' 67) (fun i => A 99 (b + 4 + i)) := h.2.1
theorem gbS.stf {A : nT} {A' : nT} {b : Int} (h : gbS A A' b) : eqO 12 (A' 68) (fun i => A 99 (b + 16 + i)) := h.2.2.1
theorem gbS.wr {A : nT} {A' : nT} {b : Int} (h : gbS A A' b) : eqO 12 (A' 69) (fun i => A 99 (b + 28 + i)) := h.2.2.2.1
theorem gbS.lw {A : nT} {A' : nT} {b : Int} (h : gbS A A' b) : eqO 5 (A' 72) (fun i => A 99 (b + 40 + i)) := h.2.2.2.2.1
theorem gbS.wx {A : nT} {A' : nT} {b : Int} (h : gbS A A' b) : eqO 61 (A' 70) (fun i => A 99 (b + 45 + i)) := h.2.2.2.2.2.1
theorem gbS.wy {A : nT} {A' : nT} {b : Int} (h : gbS A A' b) : eqO 61 (A' 71) (fun i => A 99 (b + 106 + i)) := h.2.2.2.2.2.2
theorem gbS.mk {A : nT} {A' : nT} {b : Int} (qfo : ∀ o, o < 67 ∨ 72 < o → A' o = A o) (qstr : eqO 12 (A' 67) (fun i => A 99 (b + 4 + i))) (qstf : eqO 12 (A' 68) (fun i => A 99 (b + 16 + i))) (qwr : eqO 12 (A' 69) (fun i => A 99 (b + 28 + i))) (qlw : eqO 5 (A' 72) (fun i => A 99 (b + 40 + i))) (qwx : eqO 61 (A' 70) (fun i => A 99 (b + 45 + i))) (qwy : eqO 61 (A' 71) (fun i => A 99 (b + 106 + i))) : gbS A A' b := ⟨qfo, qstr, qstf, qwr, qlw, qwx, qwy⟩
section R77
variable {G : gT} {F : fT} {A : nT}
theorem p_X11_goBack {z : Int} (hz : z = 0 ∨ z = 1) (hk : A 100 z = 1) : Meets G mX11_goBack [.ref 66, vi z] (sw F A) (fun r w => ∃ A', r = some (vi 1) ∧ w = sw (gbF F A (170 * z)) A' ∧ gbS A A' (170 * z)) := by
  refine L_ent [some (.ref 66), some (vi z), none, none] rfl ?_
  generalize hQ : (fun (r : Option Value) (w : wT) => ∃ A', r = some (vi 1) ∧ w = sw (gbF F A (170 * z)) A' ∧ gbS A A' (170 * z)) = Q
  have LOOP3 : ∀ (r : Nat) (k : Int) (A' : nT), 61 - k < r → 0 ≤ k → k ≤ 61 → (∀ o, o < 67 ∨ 72 < o → A' o = A o) → (∀ i, 0 ≤ i → i < 12 → A' 67 i = A 99 (170 * z + 4 + i) ∧ A' 68 i = A 99 (170 * z + 16 + i) ∧ A' 69 i = A 99 (170 * z + 28 + i)) → (∀ i, 0 ≤ i → i < 5 → A' 72 i = A 99 (170 * z + 40 + i)) → (∀ i, 0 ≤ i → i < k → A' 70 i = A 99 (170 * z + 45 + i) ∧ A' 71 i = A 99 (170 * z + 106 + i)) → V G mX11_goBack Q 0 0 180 [some (.ref 66), some (vi z), some (vi (170 * z)), some (vi k)] [] (sw (gbF F A (170 * z)) A') := by
    intro r
    induction r with
    | zero => intro k A' e1; omega
    | succ r ih =>
      intro k A' e1 e2 e3 fo a1 a2 a3
      have e99 : A' 99 = A 99 := fo 99 (by omega)
      refine L_iload_n eX11_goBack_180 rfl ?_
      refine L_bipush eX11_goBack_181 rfl ?_
      -- at 183: .if_icmp .ge 43
      refine V_icmpge eX11_goBack_183 (fun h2 => ?_) (fun h2 => ?_)
      · have e : k = 61 := by omega
        subst e
        refine V_iconst eX11_goBack_226 ?_
        refine V_ireturn eX11_goBack_227 ?_
        rw [← hQ]
        exact ⟨A', rfl, rfl, gbS.mk fo (fun i a b => (a1 i a b).1) (fun i a b => (a1 i a b).2.1) (fun i a b => (a1 i a b).2.2) a2 (fun i a b => (a3 i a b).1) (fun i a b => (a3 i a b).2)⟩
      · refine L_aload_n eX11_goBack_186 rfl ?_
        refine L_getR (r := 70) eX11_goBack_187 f_X11_19.g rfl rfl (by decide) ?_
        refine L_iload_n eX11_goBack_190 rfl ?_
        refine L_aload_n eX11_goBack_191 rfl ?_
        refine L_getR (r := 99) eX11_goBack_192 f_X11_115.g rfl rfl (by decide) ?_
        refine L_iload_n eX11_goBack_195 rfl ?_
        refine L_bipush eX11_goBack_196 rfl ?_
        refine V_iadd eX11_goBack_198 ?_
        refine L_iload_n eX11_goBack_199 rfl ?_
        refine V_iadd eX11_goBack_200 ?_
        refine L_iald eX11_goBack_201 rfl ?_
        refine L_iast eX11_goBack_202 rfl ?_
        refine L_aload_n eX11_goBack_203 rfl ?_
        refine L_getR (r := 71) eX11_goBack_204 f_X11_22.g rfl rfl (by decide) ?_
        refine L_iload_n eX11_goBack_207 rfl ?_
        refine L_aload_n eX11_goBack_208 rfl ?_
        refine L_getR (r := 99) eX11_goBack_209 f_X11_115.g rfl rfl (by decide) ?_
        refine L_iload_n eX11_goBack_212 rfl ?_
        refine L_bipush eX11_goBack_213 rfl ?_
        refine V_iadd eX11_goBack_215 ?_
        refine L_iload_n eX11_goBack_216 rfl ?_
        refine V_iadd eX11_goBack_217 ?_
        refine L_iald eX11_goBack_218 rfl ?_
        refine L_iast eX11_goBack_219 rfl ?_
        refine L_iinc eX11_goBack_220 rfl (s_3 rfl rfl) ?_
        refine V_goto eX11_goBack_223 ?_
        refine ih _ _ (by omega) (by omega) (by omega) (fun o ho => by rw [sA_ne (by omega), sA_ne (by omega)]; exact fo o ho) (fun i a b => ?_) (fun i a b => ?_) (fun i a b => ?_)
        · simpa [sA, uI] using a1 i a b
        · simpa [sA, uI] using a2 i a b
        · by_cases c : i = k
          · subst c
            simp [sA, uI, e99]
          · have := a3 i a (by omega)
            simp [sA, uI, e99, c, this]
  have LOOP2 : ∀ (r : Nat) (k : Int) (A' : nT), 5 - k < r → 0 ≤ k → k ≤ 5 → (∀ o, o < 67 ∨ 72 < o → A' o = A o) → (∀ i, 0 ≤ i → i < 12 → A' 67 i = A 99 (170 * z + 4 + i) ∧ A' 68 i = A 99 (170 * z + 16 + i) ∧ A' 69 i = A 99 (170 * z + 28 + i)) → (∀ i, 0 ≤ i → i < k → A' 72 i = A 99 (170 * z + 40 + i)) → V G mX11_goBack Q 0 0 150 [some (.ref 66), some (vi z), some (vi (170 * z)), some (vi k)] [] (sw (gbF F A (170 * z)) A') := by
    intro r
    induction r with
    | zero => intro k A' e1; omega
    | succ r ih =>
      intro k A' e1 e2 e3 fo a1 a2
      have e99 : A' 99 = A 99 := fo 99 (by omega)
      refine L_iload_n eX11_goBack_150 rfl ?_
      refine V_iconst eX11_goBack_151 ?_
      -- at 152: .if_icmp .ge 26
      refine V_icmpge eX11_goBack_152 (fun h2 => ?_) (fun h2 => ?_)
      · have e : k = 5 := by omega
        subst e
        refine V_iconst eX11_goBack_178 ?_
        refine L_istore_n eX11_goBack_179 (s_3 rfl rfl) ?_
        exact LOOP3 62 0 A' (by omega) (by omega) (by omega) fo a1 a2 (fun i a b => by omega)
      · refine L_aload_n eX11_goBack_155 rfl ?_
        refine L_getR (r := 72) eX11_goBack_156 f_X11_25.g rfl rfl (by decide) ?_
        refine L_iload_n eX11_goBack_159 rfl ?_
        refine L_aload_n eX11_goBack_160 rfl ?_
        refine L_getR (r := 99) eX11_goBack_161 f_X11_115.g rfl rfl (by decide) ?_
        refine L_iload_n eX11_goBack_164 rfl ?_
        refine L_bipush eX11_goBack_165 rfl ?_
        refine V_iadd eX11_goBack_167 ?_
        refine L_iload_n eX11_goBack_168 rfl ?_
        refine V_iadd eX11_goBack_169 ?_
        refine L_iald eX11_goBack_170 rfl ?_
        refine L_iast eX11_goBack_171 rfl ?_
        refine L_iinc eX11_goBack_172 rfl (s_3 rfl rfl) ?_
        refine V_goto eX11_goBack_175 ?_
        refine ih _ _ (by omega) (by omega) (by omega) (fun o ho => by rw [sA_ne (by omega)]; exact fo o ho) (fun i a b => ?_) (fun i a b => ?_)
        · simpa [sA, uI] using a1 i a b
        · by_cases c : i = k
          · subst c
            simp [sA, uI, e99]
          · have := a2 i a (by omega)
            simp [sA, uI, e99, c, this]
  have LOOP1 : ∀ (r : Nat) (k : Int) (A' : nT), 12 - k < r → 0 ≤ k → k ≤ 12 → (∀ o, o < 67 ∨ 72 < o → A' o = A o) → (∀ i, 0 ≤ i → i < k → A' 67 i = A 99 (170 * z + 4 + i) ∧ A' 68 i = A 99 (170 * z + 16 + i) ∧ A' 69 i = A 99 (170 * z + 28 + i)) → V G mX11_goBack Q 0 0 86 [some (.ref 66), some (vi z), some (vi (170 * z)), some (vi k)] [] (sw (gbF F A (170 * z)) A') := by
    intro r
    induction r with
    | zero => intro k A' e1; omega
    | succ r ih =>
      intro k A' e1 e2 e3 fo a1
      have e99 : A' 99 = A 99 := fo 99 (by omega)
      refine L_iload_n eX11_goBack_86 rfl ?_
      refine L_bipush eX11_goBack_87 rfl ?_
      -- at 89: .if_icmp .ge 59
      refine V_icmpge eX11_goBack_89 (fun h2 => ?_) (fun h2 => ?_)
      · have e : k = 12 := by omega
        subst e
        refine V_iconst eX11_goBack_148 ?_
        refine L_istore_n eX11_goBack_149 (s_3 rfl rfl) ?_
        exact LOOP2 6 0 A' (by omega) (by omega) (by omega) fo a1 (fun i a b => by omega)
      · refine L_aload_n eX11_goBack_92 rfl ?_
        refine L_getR (r := 67) eX11_goBack_93 f_X11_7.g rfl rfl (by decide) ?_
        refine L_iload_n eX11_goBack_96 rfl ?_
        refine L_aload_n eX11_goBack_97 rfl ?_
        refine L_getR (r := 99) eX11_goBack_98 f_X11_115.g rfl rfl (by decide) ?_
        refine L_iload_n eX11_goBack_101 rfl ?_
        refine V_iconst eX11_goBack_102 ?_
        refine V_iadd eX11_goBack_103 ?_
        refine L_iload_n eX11_goBack_104 rfl ?_
        refine V_iadd eX11_goBack_105 ?_
        refine L_iald eX11_goBack_106 rfl ?_
        refine L_iast eX11_goBack_107 rfl ?_
        refine L_aload_n eX11_goBack_108 rfl ?_
        refine L_getR (r := 68) eX11_goBack_109 f_X11_13.g rfl rfl (by decide) ?_
        refine L_iload_n eX11_goBack_112 rfl ?_
        refine L_aload_n eX11_goBack_113 rfl ?_
        refine L_getR (r := 99) eX11_goBack_114 f_X11_115.g rfl rfl (by decide) ?_
        refine L_iload_n eX11_goBack_117 rfl ?_
        refine L_bipush eX11_goBack_118 rfl ?_
        refine V_iadd eX11_goBack_120 ?_
        refine L_iload_n eX11_goBack_121 rfl ?_
        refine V_iadd eX11_goBack_122 ?_
        refine L_iald eX11_goBack_123 rfl ?_
        refine L_iast eX11_goBack_124 rfl ?_
        refine L_aload_n eX11_goBack_125 rfl ?_
        refine L_getR (r := 69) eX11_goBack_126 f_X11_16.g rfl rfl (by decide) ?_
        refine L_iload_n eX11_goBack_129 rfl ?_
        refine L_aload_n eX11_goBack_130 rfl ?_
        refine L_getR (r := 99) eX11_goBack_131 f_X11_115.g rfl rfl (by decide) ?_
        refine L_iload_n eX11_goBack_134 rfl ?_
        refine L_bipush eX11_goBack_135 rfl ?_
        refine V_iadd eX11_goBack_137 ?_
        refine L_iload_n eX11_goBack_138 rfl ?_
        refine V_iadd eX11_goBack_139 ?_
        refine L_iald eX11_goBack_140 rfl ?_
        refine L_iast eX11_goBack_141 rfl ?_
        refine L_iinc eX11_goBack_142 rfl (s_3 rfl rfl) ?_
        refine V_goto eX11_goBack_145 ?_
        refine ih _ _ (by omega) (by omega) (by omega) (fun o ho => by rw [sA_ne (by omega), sA_ne (by omega), sA_ne (by omega)]; exact fo o ho) (fun i a b => ?_)
        by_cases c : i = k
        · subst c
          simp [sA, uI, e99]
        · have := a1 i a (by omega)
          simp [sA, uI, e99, c, this]
  have go : V G mX11_goBack Q 0 0 27 [some (.ref 66), some (vi z), none, none] [] (sw F A) := by
    refine L_sipush eX11_goBack_27 rfl ?_
    refine L_iload_n eX11_goBack_30 rfl ?_
    refine V_imul eX11_goBack_31 ?_
    refine L_istore_n eX11_goBack_32 (s_2 rfl rfl) ?_
    refine L_aload_n eX11_goBack_33 rfl ?_
    refine V_iconst eX11_goBack_34 ?_
    refine L_put eX11_goBack_35 f_X11_72 rfl rfl ?_
    refine L_aload_n eX11_goBack_38 rfl ?_
    refine L_aload_n eX11_goBack_39 rfl ?_
    refine L_getR (r := 99) eX11_goBack_40 f_X11_115.g rfl rfl (by decide) ?_
    refine L_iload_n eX11_goBack_43 rfl ?_
    refine L_iald eX11_goBack_44 rfl ?_
    refine L_put eX11_goBack_45 f_X11_121 rfl rfl ?_
    refine L_aload_n eX11_goBack_48 rfl ?_
    refine L_aload_n eX11_goBack_49 rfl ?_
    refine L_getR (r := 99) eX11_goBack_50 f_X11_115.g rfl rfl (by decide) ?_
    refine L_iload_n eX11_goBack_53 rfl ?_
    refine V_iconst eX11_goBack_54 ?_
    refine V_iadd eX11_goBack_55 ?_
    refine L_iald eX11_goBack_56 rfl ?_
    refine L_put eX11_goBack_57 f_X11_124 rfl rfl ?_
    refine L_aload_n eX11_goBack_60 rfl ?_
    refine L_aload_n eX11_goBack_61 rfl ?_
    refine L_getR (r := 99) eX11_goBack_62 f_X11_115.g rfl rfl (by decide) ?_
    refine L_iload_n eX11_goBack_65 rfl ?_
    refine V_iconst eX11_goBack_66 ?_
    refine V_iadd eX11_goBack_67 ?_
    refine L_iald eX11_goBack_68 rfl ?_
    refine L_put eX11_goBack_69 f_X11_127 rfl rfl ?_
    refine L_aload_n eX11_goBack_72 rfl ?_
    refine L_aload_n eX11_goBack_73 rfl ?_
    refine L_getR (r := 99) eX11_goBack_74 f_X11_115.g rfl rfl (by decide) ?_
    refine L_iload_n eX11_goBack_77 rfl ?_
    refine V_iconst eX11_goBack_78 ?_
    refine V_iadd eX11_goBack_79 ?_
    refine L_iald eX11_goBack_80 rfl ?_
    refine L_put eX11_goBack_81 f_X11_130 rfl rfl ?_
    refine V_iconst eX11_goBack_84 ?_
    refine L_istore_n eX11_goBack_85 (s_3 rfl rfl) ?_
    exact LOOP1 13 0 A (by omega) (by omega) (by omega) (fun o _ => rfl) (fun i a b => by omega)
  refine L_iload_n eX11_goBack_0 rfl ?_
  refine V_i2l eX11_goBack_1 ?_
  refine L_lconst0 eX11_goBack_2 ?_
  refine L_lconst1 eX11_goBack_3 ?_
  refine C_s1 (p_X11_in (by omega) (by omega) (by omega)) v_X11_152 eX11_goBack_4 rfl ?_
  refine V_ifneB eX11_goBack_7 (fun h7 => ?_) (fun h7 => ?_)
  · refine L_aload_n eX11_goBack_14 rfl ?_
    refine L_getR (r := 100) eX11_goBack_15 f_X11_118.g rfl rfl (by decide) ?_
    refine L_iload_n eX11_goBack_18 rfl ?_
    refine L_zald eX11_goBack_19 rfl ?_
    refine V_ifne eX11_goBack_20 (fun h20 => ?_) (fun h20 => ?_)
    · exact go
    · (exfalso; omega)
  · (exfalso; omega)
end R77
/-- what is so and the THROWS are as they were -/
def kzF (o k : Nat) : Bool := Nat.ble o 9 || Nat.ble 28 o
def kzA (o : Nat) : Bool := Nat.ble o 9 || (Nat.ble 28 o && !(o == 99) && !(o == 100))
def kz' (F : fT) (A : nT) (F' : fT) (A' : nT) : Prop := (∀ o k, kzF o k = true → F' o k = F o k) ∧ ∀ o, kzA o = true → A' o = A o
section S77
variable {F F' : fT} {A A' : nT}
theorem kz'.Qt (hk : kz' F A F' A') {g : Int} {s : rS} : cTs F' A' 2 g s = cTs F A 2 g s := by
  show tsS (wtF (A' 3) (A' 4)) (bdF (A' 3) (A' 4)) (F' 2 1) (A' 9 0) (A' 9 1) (F' 2 0).toNat (A' 9 2).toNat (A' 7) (A' 8) g (F' 6 0).toNat s = tsS (wtF (A 3) (A 4)) (bdF (A 3) (A 4)) (F 2 1) (A 9 0) (A 9 1) (F 2 0).toNat (A 9 2).toNat (A 7) (A 8) g (F 6 0).toNat s
  rw [hk.1 2 0 rfl, hk.1 2 1 rfl, hk.1 6 0 rfl, hk.2 3 rfl, hk.2 4 rfl, hk.2 7 rfl, hk.2 8 rfl, hk.2 9 rfl]
theorem kz'.Qn (hk : kz' F A F' A') : inN F' = inN F := by
  unfold inN
  rw [hk.1 2 0 rfl, hk.1 6 0 rfl]
theorem kz'.Qk (hk : kz' F A F' A') (h : tsK F A) : tsK F' A' := by
  unfold tsK at *
  rw [hk.Qt, hk.Qn, hk.1 66 40 rfl, hk.2 84 rfl, hk.2 85 rfl]
  exact h
theorem kz'.Qf (hk : kz' F A F' A') (h : flK F A) : flK F' A' := by
  unfold flK at *
  rw [hk.Qt, hk.Qn, hk.1 2 0 rfl, hk.1 2 1 rfl, hk.1 6 0 rfl, hk.1 0 11 rfl, hk.2 3 rfl, hk.2 4 rfl, hk.2 9 rfl, hk.1 42 0 rfl, hk.1 42 1 rfl, hk.1 42 2 rfl, hk.1 42 3 rfl, hk.2 43 rfl, hk.2 44 rfl, hk.2 45 rfl]
  exact h
theorem kz'.Ql (hk : kz' F A F' A') {s : Int} : loS F' A' s = loS F A s := by
  have e1 : ∀ l, tsL F' A' l = tsL F A l := fun l => by
    unfold tsL
    rw [hk.1 2 0 rfl, hk.1 2 1 rfl, hk.1 6 0 rfl, hk.1 0 11 rfl, hk.2 4 rfl, hk.2 7 rfl, hk.2 8 rfl, hk.2 9 rfl]
  have e2 : ∀ l, spL F' A' l = spL F A l := fun l => by
    unfold spL
    rw [e1, hk.1 2 0 rfl, hk.1 6 0 rfl]
  have e3 : loT F' A' s = loT F A s := by
    funext b l
    unfold loT
    rw [e2]
  unfold loS
  rw [e3, hk.1 2 0 rfl]
theorem kz'.Qr (hk : kz' F A F' A') (h : srK F A) : srK F' A' := by
  unfold srK at *
  rw [hk.Ql, hk.1 52 0 rfl, hk.1 52 1 rfl, hk.2 53 rfl, hk.1 2 0 rfl]
  exact h
theorem kz'.Qe (hk : kz' F A F' A') (h : eqS F A) : eqS F' A' := by
  unfold eqS at *
  rw [hk.1 66 0 rfl, hk.1 66 1 rfl, hk.1 66 5 rfl, hk.1 66 6 rfl, hk.1 2 0 rfl, hk.1 2 1 rfl, hk.1 6 0 rfl, hk.1 6 1 rfl, hk.2 67 rfl, hk.2 68 rfl, hk.2 69 rfl, hk.2 70 rfl, hk.2 71 rfl, hk.2 72 rfl, hk.2 3 rfl, hk.2 4 rfl, hk.2 5 rfl, hk.2 7 rfl, hk.2 8 rfl, hk.2 9 rfl]
  exact h
/-- an IMAGE has changed -/
theorem Iv.fk (h : Iv F A) (f : ∀ o k, (o < 10 ∨ 27 < o) → F' o k = F o k) (g : ∀ o, (o < 10 ∨ 27 < o) → (o ≠ 99 ∧ o ≠ 100) → A' o = A o) (i0 : imK F' A' 10 0) (i1 : imK F' A' 19 1) : Iv F' A' := by
  have hk : kz' F A F' A' := by
    refine ⟨fun o k e => f o k ?_, fun o e => ?_⟩
    · unfold kzF at e
      simp at e
      omega
    · unfold kzA at e
      simp at e
      exact g o (by omega) (by omega)
  refine Iv.mk (h.ok.fr (hk.1 _ _ rfl) (hk.1 _ _ rfl) (hk.1 _ _ rfl) (hk.2 _ rfl) (hk.2 _ rfl) (hk.2 _ rfl) (hk.2 _ rfl) (hk.2 _ rfl) (hk.2 _ rfl)) (hk.Qe h.s) ?_ ?_ ?_ ?_ ?_ ?_ ?_ ?_ ?_ ?_ ?_ ?_ i0 i1 ?_ (hk.Qk h.ts) (hk.Qr h.sr) ?_ ?_ ?_
  · rw [hk.1 66 10 rfl, hk.1 0 11 rfl]; exact h.giv
  · rw [hk.1 66 11 rfl, hk.1 66 12 rfl, hk.1 0 12 rfl, hk.1 0 13 rfl]; exact h.ear
  · rw [hk.1 66 13 rfl, hk.1 66 14 rfl, hk.1 0 14 rfl, hk.1 0 15 rfl]; exact h.post
  · rw [hk.1 66 16 rfl, hk.1 28 1 rfl]; exact h.tx
  · rw [hk.1 28 1 rfl, hk.2 73 rfl, hk.2 29 rfl]; exact h.txb
  · rw [hk.1 66 21 rfl, hk.1 0 16 rfl]; exact h.fa
  · rw [hk.1 66 49 rfl, hk.1 59 0 rfl]; exact h.hn
  · rw [hk.1 59 0 rfl, hk.2 93 rfl, hk.2 60 rfl]; exact h.hd
  · rw [hk.1 66 50 rfl, hk.1 59 1 rfl]; exact h.cn
  · rw [hk.1 59 1 rfl, hk.2 94 rfl, hk.2 61 rfl]; exact h.ct
  · rw [hk.1 66 55 rfl, hk.1 63 0 rfl]; exact h.fn
  · rw [hk.1 63 0 rfl, hk.2 97 rfl, hk.2 98 rfl, hk.2 64 rfl, hk.2 65 rfl]; exact h.fi
  · rw [hk.1 0 17 rfl]; exact h.fl.imp id (fun e => ⟨e.1, hk.Qf e.2⟩)
  · rw [hk.2 43 rfl, hk.2 44 rfl]; exact h.b1
  · rw [hk.2 48 rfl, hk.2 49 rfl]; exact h.b2
  · rw [hk.2 84 rfl, hk.2 85 rfl]; exact h.b3
end S77
section T77
variable {F : fT} {A : nT}
theorem pw_keep0 (h : Iv F A) : Pw mX10_keep mX11_keep [vi 0] F A := by
  obtain ⟨F1, A1, hM, cp⟩ := p_X6_copyFrom (F := F) (A := A) (s := 10) (t := 1) (by unfold isSe; omega) (Or.inl rfl) (by decide)
  intro G
  refine ⟨_, (?_ : Mu G mX10_keep [.ref 0, vi 0] F A (some (vi 1)) (uF F1 10 3 1) A1), ?_⟩
  · refine L_ent [some (.ref 0), some (vi 0), none] rfl ?_
    refine L_iload_n eX10_keep_0 rfl ?_
    refine V_iflt eX10_keep_1 (fun h1 => ?_) (fun h1 => ?_)
    · refine L_sipush eX10_keep_9 rfl ?_
      exact V_ireturn eX10_keep_12 ((by first | (exfalso; omega) | exact ⟨rfl, rfl⟩))
    · refine L_iload_n eX10_keep_4 rfl ?_
      refine V_iconst eX10_keep_5 ?_
      refine V_icmple eX10_keep_6 (fun h6 => ?_) (fun h6 => ?_)
      · refine L_iload_n eX10_keep_13 rfl ?_
        refine V_ifne eX10_keep_14 (fun h14 => ?_) (fun h14 => ?_)
        · (exfalso; omega)
        · refine L_aload_n eX10_keep_17 rfl ?_
          refine L_getR (r := 10) eX10_keep_18 f_X10_16.g rfl rfl (by decide) ?_
          refine V_goto eX10_keep_21 ?_
          refine L_astore_n eX10_keep_28 (s_2 rfl rfl) ?_
          refine L_aload_n eX10_keep_29 rfl ?_
          refine L_aload_n eX10_keep_30 rfl ?_
          refine L_getR (r := 1) eX10_keep_31 f_X10_10.g rfl rfl (by decide) ?_
          refine C_v0 (hM G) v_X10_312 eX10_keep_34 rfl rfl ?_
          refine L_aload_n eX10_keep_37 rfl ?_
          refine V_iconst eX10_keep_38 ?_
          refine L_putZ eX10_keep_39 f_X10_315 rfl rfl ?_
          refine V_iconst eX10_keep_42 ?_
          exact V_ireturn eX10_keep_43 ((by first | (exfalso; omega) | exact ⟨rfl, rfl⟩))
      · refine L_sipush eX10_keep_9 rfl ?_
        exact V_ireturn eX10_keep_12 ((by first | (exfalso; omega) | exact ⟨rfl, rfl⟩))
  · intro r w e
    refine ⟨vi 1, uF F1 10 3 1, A1, e.1, e.2, ty_v, _, p_X11_keep (by omega), fun r' w' e' => ?_⟩
    obtain ⟨I, er, ew, hI, fo⟩ := e'
    refine ⟨_, _, er, ew, ?_⟩
    have hn : 1 ≤ F 2 0 ∧ F 2 0 ≤ 12 := h.ok.n
    have hT : 1 ≤ F 6 0 ∧ F 6 0 ≤ 60 := h.ok.T
    have f66 : ∀ k, uF F1 10 3 1 66 k = F 66 k := fun k => by rw [uF_ne (by omega), cp.fo _ _ (by omega) (by omega)]
    have hkr : ∀ o', o' ≠ 11 → o' ≠ 15 → ∀ k, (o' ≠ 10 ∨ k ≠ 3) → uF F1 10 3 1 o' k = F o' k := fun o' a b k c => by rw [uF_ne (by omega), cp.fo _ _ (by omega) (by omega)]
    have haa : ∀ o', o' ≠ 99 → o' ≠ 100 → (o' < 12 ∨ 18 < o') → sA (sA A1 99 I) 100 (uI (A1 100) 0 1) o' = A o' := fun o' a b c => by rw [sA_ne (by omega), sA_ne (by omega), cp.ao _ (by omega)]
    have okI : sOK (uF F1 10 3 1) (sA (sA A1 99 I) 100 (uI (A1 100) 0 1)) 10 := by
      have := cp.ok h.ok
      exact this.fr (uF_ne (by decide)) (uF_ne (by decide)) (uF_ne (by decide)) (by rw [sA_ne (by decide), sA_ne (by decide)]) (by rw [sA_ne (by decide), sA_ne (by decide)]) (by rw [sA_ne (by decide), sA_ne (by decide)]) (by rw [sA_ne (by decide), sA_ne (by decide)]) (by rw [sA_ne (by decide), sA_ne (by decide)]) (by rw [sA_ne (by decide), sA_ne (by decide)])
    have i99 : sA (sA A1 99 I) 100 (uI (A1 100) 0 1) 99 = I := by rw [sA_ne (by decide), sA_eq]
    have i100 : sA (sA A1 99 I) 100 (uI (A1 100) 0 1) 100 = uI (A 100) 0 1 := by rw [sA_eq, cp.ao 100 (by omega)]
    have hs := h.s
    have eI : eqI (uF F1 10 3 1) (sA (sA A1 99 I) 100 (uI (A1 100) 0 1)) 10 (170 * 0) := by
      refine eqI.mk okI ?_ ?_ ?_ ?_ ?_ ?_ ?_ ?_ ?_ ?_
      · rw [i99, hI.n, f66, hs.n, uF_ne (by decide), cp.n]
      · rw [i99, hI.len, f66, hs.len, uF_ne (by decide), cp.len]
      · rw [i99, hI.T, f66, hs.T, uF_ne (by decide), cp.T]
      · rw [i99, hI.cl, f66, hs.cl, uF_ne (by decide), cp.cl]
      · rw [i99, uF_ne (by decide), cp.n, sA_ne (by decide), sA_ne (by decide)]
        intro i a b
        have b' : i < F 2 0 := b
        rw [hI.str i a (by omega), cp.str i a (by omega), cp.ao 67 (by omega)]
        exact hs.str i a b
      · rw [i99, uF_ne (by decide), cp.n, sA_ne (by decide), sA_ne (by decide)]
        intro i a b
        have b' : i < F 2 0 := b
        rw [hI.stf i a (by omega), cp.stf i a (by omega), cp.ao 68 (by omega)]
        exact hs.stf i a b
      · rw [i99, uF_ne (by decide), cp.n, sA_ne (by decide), sA_ne (by decide)]
        intro i a b
        have b' : i < F 2 0 := b
        rw [hI.wr i a (by omega), cp.wr i a (by omega), cp.ao 69 (by omega)]
        exact hs.wr i a b
      · rw [i99, sA_ne (by decide), sA_ne (by decide)]
        intro i a b
        rw [hI.lw i a (by omega), cp.lw i a (by omega), cp.ao 72 (by omega)]
        exact hs.lw i a b
      · rw [i99, uF_ne (by decide), cp.T, sA_ne (by decide), sA_ne (by decide)]
        intro i a b
        have b' : i < F 6 0 + 1 := b
        rw [hI.wx i a (by omega), cp.wx i a (by omega), cp.ao 70 (by omega)]
        exact hs.wx i a b
      · rw [i99, uF_ne (by decide), cp.T, sA_ne (by decide), sA_ne (by decide)]
        intro i a b
        have b' : i < F 6 0 + 1 := b
        rw [hI.wy i a (by omega), cp.wy i a (by omega), cp.ao 71 (by omega)]
        exact hs.wy i a b
    have imS1 : imK (uF F1 10 3 1) (sA (sA A1 99 I) 100 (uI (A1 100) 0 1)) 10 0 := by
      refine ⟨by rw [uF_eq, i100, uI_eq], Or.inr ⟨uF_eq, eI⟩⟩
    have imS2 : imK (uF F1 10 3 1) (sA (sA A1 99 I) 100 (uI (A1 100) 0 1)) 19 1 := by
      have ho := h.i1
      unfold imK at *
      rw [i100, uI_ne (by decide), hkr 19 (by decide) (by decide) 3 (by decide)]
      refine ⟨ho.1, ho.2.imp id (fun e => ⟨e.1, ?_⟩)⟩
      have e2 := e.2
      have hj : ∀ j : Int, 0 ≤ j → j < 170 → I (170 * 1 + j) = A 99 (170 * 1 + j) := fun j a b => by rw [fo _ (by omega), cp.ao 99 (by omega)]
      have hok := sOK.fr (F' := uF F1 10 3 1) (A' := sA (sA A1 99 I) 100 (uI (A1 100) 0 1)) e2.ok (hkr _ (by decide) (by decide) _ (by decide)) (hkr _ (by decide) (by decide) _ (by decide)) (hkr _ (by decide) (by decide) _ (by decide)) (haa _ (by decide) (by decide) (by decide)) (haa _ (by decide) (by decide) (by decide)) (haa _ (by decide) (by decide) (by decide)) (haa _ (by decide) (by decide) (by decide)) (haa _ (by decide) (by decide) (by decide)) (haa _ (by decide) (by decide) (by decide))
      have kn : 1 ≤ F (19 + 1) 0 ∧ F (19 + 1) 0 ≤ 12 := e2.ok.n
      have kT : 1 ≤ F (19 + 5) 0 ∧ F (19 + 5) 0 ≤ 60 := e2.ok.T
      refine eqI.mk hok ?_ ?_ ?_ ?_ ?_ ?_ ?_ ?_ ?_ ?_
      · have e3 := e2.n
        have := hj 0 (by omega) (by omega)
        rw [Int.add_zero] at this
        rw [i99, this, e3, hkr _ (by decide) (by decide) _ (by decide)]
      · rw [i99, hj 1 (by omega) (by omega), e2.len, hkr _ (by decide) (by decide) _ (by decide)]
      · rw [i99, hj 2 (by omega) (by omega), e2.T, hkr _ (by decide) (by decide) _ (by decide)]
      · rw [i99, hj 3 (by omega) (by omega), e2.cl, hkr _ (by decide) (by decide) _ (by decide)]
      · rw [i99, hkr _ (by decide) (by decide) _ (by decide), haa _ (by decide) (by decide) (by decide)]
        intro i a b
        rw [← e2.str i a b]
        simp only [Int.add_assoc]
        exact hj _ (by omega) (by omega)
      · rw [i99, hkr _ (by decide) (by decide) _ (by decide), haa _ (by decide) (by decide) (by decide)]
        intro i a b
        rw [← e2.stf i a b]
        simp only [Int.add_assoc]
        exact hj _ (by omega) (by omega)
      · rw [i99, hkr _ (by decide) (by decide) _ (by decide), haa _ (by decide) (by decide) (by decide)]
        intro i a b
        rw [← e2.wr i a b]
        simp only [Int.add_assoc]
        exact hj _ (by omega) (by omega)
      · rw [i99, haa _ (by decide) (by decide) (by decide)]
        intro i a b
        rw [← e2.lw i a b]
        simp only [Int.add_assoc]
        exact hj _ (by omega) (by omega)
      · rw [i99, hkr _ (by decide) (by decide) _ (by decide), haa _ (by decide) (by decide) (by decide)]
        intro i a b
        rw [← e2.wx i a b]
        simp only [Int.add_assoc]
        exact hj _ (by omega) (by omega)
      · rw [i99, hkr _ (by decide) (by decide) _ (by decide), haa _ (by decide) (by decide) (by decide)]
        intro i a b
        rw [← e2.wy i a b]
        simp only [Int.add_assoc]
        exact hj _ (by omega) (by omega)
    refine h.fk (fun o' k a => ?_) (fun o' a b => ?_) imS1 imS2
    · exact hkr o' (by omega) (by omega) k (by omega)
    · exact haa o' (by omega) (by omega) (by omega)
theorem pw_keep1 (h : Iv F A) : Pw mX10_keep mX11_keep [vi 1] F A := by
  obtain ⟨F1, A1, hM, cp⟩ := p_X6_copyFrom (F := F) (A := A) (s := 19) (t := 1) (by unfold isSe; omega) (Or.inl rfl) (by decide)
  intro G
  refine ⟨_, (?_ : Mu G mX10_keep [.ref 0, vi 1] F A (some (vi 1)) (uF F1 19 3 1) A1), ?_⟩
  · refine L_ent [some (.ref 0), some (vi 1), none] rfl ?_
    refine L_iload_n eX10_keep_0 rfl ?_
    refine V_iflt eX10_keep_1 (fun h1 => ?_) (fun h1 => ?_)
    · refine L_sipush eX10_keep_9 rfl ?_
      exact V_ireturn eX10_keep_12 ((by first | (exfalso; omega) | exact ⟨rfl, rfl⟩))
    · refine L_iload_n eX10_keep_4 rfl ?_
      refine V_iconst eX10_keep_5 ?_
      refine V_icmple eX10_keep_6 (fun h6 => ?_) (fun h6 => ?_)
      · refine L_iload_n eX10_keep_13 rfl ?_
        refine V_ifne eX10_keep_14 (fun h14 => ?_) (fun h14 => ?_)
        · refine L_aload_n eX10_keep_24 rfl ?_
          refine L_getR (r := 19) eX10_keep_25 f_X10_19.g rfl rfl (by decide) ?_
          refine L_astore_n eX10_keep_28 (s_2 rfl rfl) ?_
          refine L_aload_n eX10_keep_29 rfl ?_
          refine L_aload_n eX10_keep_30 rfl ?_
          refine L_getR (r := 1) eX10_keep_31 f_X10_10.g rfl rfl (by decide) ?_
          refine C_v0 (hM G) v_X10_312 eX10_keep_34 rfl rfl ?_
          refine L_aload_n eX10_keep_37 rfl ?_
          refine V_iconst eX10_keep_38 ?_
          refine L_putZ eX10_keep_39 f_X10_315 rfl rfl ?_
          refine V_iconst eX10_keep_42 ?_
          exact V_ireturn eX10_keep_43 ((by first | (exfalso; omega) | exact ⟨rfl, rfl⟩))
        · (exfalso; omega)
      · refine L_sipush eX10_keep_9 rfl ?_
        exact V_ireturn eX10_keep_12 ((by first | (exfalso; omega) | exact ⟨rfl, rfl⟩))
  · intro r w e
    refine ⟨vi 1, uF F1 19 3 1, A1, e.1, e.2, ty_v, _, p_X11_keep (by omega), fun r' w' e' => ?_⟩
    obtain ⟨I, er, ew, hI, fo⟩ := e'
    refine ⟨_, _, er, ew, ?_⟩
    have hn : 1 ≤ F 2 0 ∧ F 2 0 ≤ 12 := h.ok.n
    have hT : 1 ≤ F 6 0 ∧ F 6 0 ≤ 60 := h.ok.T
    have f66 : ∀ k, uF F1 19 3 1 66 k = F 66 k := fun k => by rw [uF_ne (by omega), cp.fo _ _ (by omega) (by omega)]
    have hkr : ∀ o', o' ≠ 20 → o' ≠ 24 → ∀ k, (o' ≠ 19 ∨ k ≠ 3) → uF F1 19 3 1 o' k = F o' k := fun o' a b k c => by rw [uF_ne (by omega), cp.fo _ _ (by omega) (by omega)]
    have haa : ∀ o', o' ≠ 99 → o' ≠ 100 → (o' < 21 ∨ 27 < o') → sA (sA A1 99 I) 100 (uI (A1 100) 1 1) o' = A o' := fun o' a b c => by rw [sA_ne (by omega), sA_ne (by omega), cp.ao _ (by omega)]
    have okI : sOK (uF F1 19 3 1) (sA (sA A1 99 I) 100 (uI (A1 100) 1 1)) 19 := by
      have := cp.ok h.ok
      exact this.fr (uF_ne (by decide)) (uF_ne (by decide)) (uF_ne (by decide)) (by rw [sA_ne (by decide), sA_ne (by decide)]) (by rw [sA_ne (by decide), sA_ne (by decide)]) (by rw [sA_ne (by decide), sA_ne (by decide)]) (by rw [sA_ne (by decide), sA_ne (by decide)]) (by rw [sA_ne (by decide), sA_ne (by decide)]) (by rw [sA_ne (by decide), sA_ne (by decide)])
    have i99 : sA (sA A1 99 I) 100 (uI (A1 100) 1 1) 99 = I := by rw [sA_ne (by decide), sA_eq]
    have i100 : sA (sA A1 99 I) 100 (uI (A1 100) 1 1) 100 = uI (A 100) 1 1 := by rw [sA_eq, cp.ao 100 (by omega)]
    have hs := h.s
    have eI : eqI (uF F1 19 3 1) (sA (sA A1 99 I) 100 (uI (A1 100) 1 1)) 19 (170 * 1) := by
      refine eqI.mk okI ?_ ?_ ?_ ?_ ?_ ?_ ?_ ?_ ?_ ?_
      · rw [i99, hI.n, f66, hs.n, uF_ne (by decide), cp.n]
      · rw [i99, hI.len, f66, hs.len, uF_ne (by decide), cp.len]
      · rw [i99, hI.T, f66, hs.T, uF_ne (by decide), cp.T]
      · rw [i99, hI.cl, f66, hs.cl, uF_ne (by decide), cp.cl]
      · rw [i99, uF_ne (by decide), cp.n, sA_ne (by decide), sA_ne (by decide)]
        intro i a b
        have b' : i < F 2 0 := b
        rw [hI.str i a (by omega), cp.str i a (by omega), cp.ao 67 (by omega)]
        exact hs.str i a b
      · rw [i99, uF_ne (by decide), cp.n, sA_ne (by decide), sA_ne (by decide)]
        intro i a b
        have b' : i < F 2 0 := b
        rw [hI.stf i a (by omega), cp.stf i a (by omega), cp.ao 68 (by omega)]
        exact hs.stf i a b
      · rw [i99, uF_ne (by decide), cp.n, sA_ne (by decide), sA_ne (by decide)]
        intro i a b
        have b' : i < F 2 0 := b
        rw [hI.wr i a (by omega), cp.wr i a (by omega), cp.ao 69 (by omega)]
        exact hs.wr i a b
      · rw [i99, sA_ne (by decide), sA_ne (by decide)]
        intro i a b
        rw [hI.lw i a (by omega), cp.lw i a (by omega), cp.ao 72 (by omega)]
        exact hs.lw i a b
      · rw [i99, uF_ne (by decide), cp.T, sA_ne (by decide), sA_ne (by decide)]
        intro i a b
        have b' : i < F 6 0 + 1 := b
        rw [hI.wx i a (by omega), cp.wx i a (by omega), cp.ao 70 (by omega)]
        exact hs.wx i a b
      · rw [i99, uF_ne (by decide), cp.T, sA_ne (by decide), sA_ne (by decide)]
        intro i a b
        have b' : i < F 6 0 + 1 := b
        rw [hI.wy i a (by omega), cp.wy i a (by omega), cp.ao 71 (by omega)]
        exact hs.wy i a b
    have imS1 : imK (uF F1 19 3 1) (sA (sA A1 99 I) 100 (uI (A1 100) 1 1)) 19 1 := by
      refine ⟨by rw [uF_eq, i100, uI_eq], Or.inr ⟨uF_eq, eI⟩⟩
    have imS2 : imK (uF F1 19 3 1) (sA (sA A1 99 I) 100 (uI (A1 100) 1 1)) 10 0 := by
      have ho := h.i0
      unfold imK at *
      rw [i100, uI_ne (by decide), hkr 10 (by decide) (by decide) 3 (by decide)]
      refine ⟨ho.1, ho.2.imp id (fun e => ⟨e.1, ?_⟩)⟩
      have e2 := e.2
      have hj : ∀ j : Int, 0 ≤ j → j < 170 → I (170 * 0 + j) = A 99 (170 * 0 + j) := fun j a b => by rw [fo _ (by omega), cp.ao 99 (by omega)]
      have hok := sOK.fr (F' := uF F1 19 3 1) (A' := sA (sA A1 99 I) 100 (uI (A1 100) 1 1)) e2.ok (hkr _ (by decide) (by decide) _ (by decide)) (hkr _ (by decide) (by decide) _ (by decide)) (hkr _ (by decide) (by decide) _ (by decide)) (haa _ (by decide) (by decide) (by decide)) (haa _ (by decide) (by decide) (by decide)) (haa _ (by decide) (by decide) (by decide)) (haa _ (by decide) (by decide) (by decide)) (haa _ (by decide) (by decide) (by decide)) (haa _ (by decide) (by decide) (by decide))
      have kn : 1 ≤ F (10 + 1) 0 ∧ F (10 + 1) 0 ≤ 12 := e2.ok.n
      have kT : 1 ≤ F (10 + 5) 0 ∧ F (10 + 5) 0 ≤ 60 := e2.ok.T
      refine eqI.mk hok ?_ ?_ ?_ ?_ ?_ ?_ ?_ ?_ ?_ ?_
      · have e3 := e2.n
        have := hj 0 (by omega) (by omega)
        rw [Int.add_zero] at this
        rw [i99, this, e3, hkr _ (by decide) (by decide) _ (by decide)]
      · rw [i99, hj 1 (by omega) (by omega), e2.len, hkr _ (by decide) (by decide) _ (by decide)]
      · rw [i99, hj 2 (by omega) (by omega), e2.T, hkr _ (by decide) (by decide) _ (by decide)]
      · rw [i99, hj 3 (by omega) (by omega), e2.cl, hkr _ (by decide) (by decide) _ (by decide)]
      · rw [i99, hkr _ (by decide) (by decide) _ (by decide), haa _ (by decide) (by decide) (by decide)]
        intro i a b
        rw [← e2.str i a b]
        simp only [Int.add_assoc]
        exact hj _ (by omega) (by omega)
      · rw [i99, hkr _ (by decide) (by decide) _ (by decide), haa _ (by decide) (by decide) (by decide)]
        intro i a b
        rw [← e2.stf i a b]
        simp only [Int.add_assoc]
        exact hj _ (by omega) (by omega)
      · rw [i99, hkr _ (by decide) (by decide) _ (by decide), haa _ (by decide) (by decide) (by decide)]
        intro i a b
        rw [← e2.wr i a b]
        simp only [Int.add_assoc]
        exact hj _ (by omega) (by omega)
      · rw [i99, haa _ (by decide) (by decide) (by decide)]
        intro i a b
        rw [← e2.lw i a b]
        simp only [Int.add_assoc]
        exact hj _ (by omega) (by omega)
      · rw [i99, hkr _ (by decide) (by decide) _ (by decide), haa _ (by decide) (by decide) (by decide)]
        intro i a b
        rw [← e2.wx i a b]
        simp only [Int.add_assoc]
        exact hj _ (by omega) (by omega)
      · rw [i99, hkr _ (by decide) (by decide) _ (by decide), haa _ (by decide) (by decide) (by decide)]
        intro i a b
        rw [← e2.wy i a b]
        simp only [Int.add_assoc]
        exact hj _ (by omega) (by omega)
    refine h.fk (fun o' k a => ?_) (fun o' a b => ?_) imS2 imS1
    · exact hkr o' (by omega) (by omega) k (by omega)
    · exact haa o' (by omega) (by omega) (by omega)
theorem pw_goBack0 (h : Iv F A) : Pw mX10_goBack mX11_goBack [vi 0] F A := by
  rcases h.i0 with ⟨e1, e2⟩
  rcases e2 with e2 | ⟨e3, eI⟩
  · refine Pr.w ⟨vi (-1003), F, A, F, A, fun G => ?_, fun G => ?_, h, ty_v⟩
    · refine L_ent [some (.ref 0), some (vi 0), none] rfl ?_
      refine L_iload_n eX10_goBack_0 rfl ?_
      refine V_iflt eX10_goBack_1 (fun h1 => ?_) (fun h1 => ?_)
      · refine L_sipush eX10_goBack_9 rfl ?_
        exact V_ireturn eX10_goBack_12 ((by first | (exfalso; omega) | exact ⟨rfl, rfl⟩))
      · refine L_iload_n eX10_goBack_4 rfl ?_
        refine V_iconst eX10_goBack_5 ?_
        refine V_icmple eX10_goBack_6 (fun h6 => ?_) (fun h6 => ?_)
        · refine L_iload_n eX10_goBack_13 rfl ?_
          refine V_ifne eX10_goBack_14 (fun h14 => ?_) (fun h14 => ?_)
          · (exfalso; omega)
          · refine L_aload_n eX10_goBack_17 rfl ?_
            refine L_getR (r := 10) eX10_goBack_18 f_X10_16.g rfl rfl (by decide) ?_
            refine V_goto eX10_goBack_21 ?_
            refine L_astore_n eX10_goBack_28 (s_2 rfl rfl) ?_
            refine L_aload_n eX10_goBack_29 rfl ?_
            refine L_get eX10_goBack_30 f_X10_315.g rfl rfl ?_
            refine V_ifne eX10_goBack_33 (fun h33 => ?_) (fun h33 => ?_)
            · (exfalso; omega)
            · refine L_sipush eX10_goBack_36 rfl ?_
              exact V_ireturn eX10_goBack_39 ((by first | (exfalso; omega) | exact ⟨rfl, rfl⟩))
        · refine L_sipush eX10_goBack_9 rfl ?_
          exact V_ireturn eX10_goBack_12 ((by first | (exfalso; omega) | exact ⟨rfl, rfl⟩))
    · rw [e2] at e1
      refine L_ent [some (.ref 66), some (vi 0), none, none] rfl ?_
      refine L_iload_n eX11_goBack_0 rfl ?_
      refine V_i2l eX11_goBack_1 ?_
      refine L_lconst0 eX11_goBack_2 ?_
      refine L_lconst1 eX11_goBack_3 ?_
      refine C_s1 (p_X11_in (by omega) (by omega) (by omega)) v_X11_152 eX11_goBack_4 rfl ?_
      refine V_ifneB eX11_goBack_7 (fun h7 => ?_) (fun h7 => ?_)
      · refine L_aload_n eX11_goBack_14 rfl ?_
        refine L_getR (r := 100) eX11_goBack_15 f_X11_118.g rfl rfl (by decide) ?_
        refine L_iload_n eX11_goBack_18 rfl ?_
        refine L_zald eX11_goBack_19 rfl ?_
        refine V_ifne eX11_goBack_20 (fun h20 => ?_) (fun h20 => ?_)
        · (exfalso; omega)
        · refine L_sipush eX11_goBack_23 rfl ?_
          exact V_ireturn eX11_goBack_26 ((by first | (exfalso; omega) | exact ⟨rfl, rfl⟩))
      · refine L_sipush eX11_goBack_10 rfl ?_
        exact V_ireturn eX11_goBack_13 ((by first | (exfalso; omega) | exact ⟨rfl, rfl⟩))
  · obtain ⟨F1, A1, hM, cp⟩ := p_X6_copyFrom (F := F) (A := A) (s := 1) (t := 10) (Or.inl rfl) (by unfold isSe; omega) (by decide)
    intro G
    refine ⟨_, (?_ : Mu G mX10_goBack [.ref 0, vi 0] F A (some (vi 1)) (uF (uF F1 0 17 0) 52 0 (-1)) A1), ?_⟩
    · refine L_ent [some (.ref 0), some (vi 0), none] rfl ?_
      refine L_iload_n eX10_goBack_0 rfl ?_
      refine V_iflt eX10_goBack_1 (fun h1 => ?_) (fun h1 => ?_)
      · refine L_sipush eX10_goBack_9 rfl ?_
        exact V_ireturn eX10_goBack_12 ((by first | (exfalso; omega) | exact ⟨rfl, rfl⟩))
      · refine L_iload_n eX10_goBack_4 rfl ?_
        refine V_iconst eX10_goBack_5 ?_
        refine V_icmple eX10_goBack_6 (fun h6 => ?_) (fun h6 => ?_)
        · refine L_iload_n eX10_goBack_13 rfl ?_
          refine V_ifne eX10_goBack_14 (fun h14 => ?_) (fun h14 => ?_)
          · (exfalso; omega)
          · refine L_aload_n eX10_goBack_17 rfl ?_
            refine L_getR (r := 10) eX10_goBack_18 f_X10_16.g rfl rfl (by decide) ?_
            refine V_goto eX10_goBack_21 ?_
            refine L_astore_n eX10_goBack_28 (s_2 rfl rfl) ?_
            refine L_aload_n eX10_goBack_29 rfl ?_
            refine L_get eX10_goBack_30 f_X10_315.g rfl rfl ?_
            refine V_ifne eX10_goBack_33 (fun h33 => ?_) (fun h33 => ?_)
            · refine L_aload_n eX10_goBack_40 rfl ?_
              refine L_getR (r := 1) eX10_goBack_41 f_X10_10.g rfl rfl (by decide) ?_
              refine L_aload_n eX10_goBack_44 rfl ?_
              refine C_v0 (hM G) v_X10_312 eX10_goBack_45 rfl rfl ?_
              refine L_aload_n eX10_goBack_48 rfl ?_
              refine C_v0 p_X10_setChanged v_X10_123 eX10_goBack_49 rfl rfl ?_
              refine V_iconst eX10_goBack_52 ?_
              exact V_ireturn eX10_goBack_53 ((by first | (exfalso; omega) | exact ⟨rfl, rfl⟩))
            · (exfalso; omega)
        · refine L_sipush eX10_goBack_9 rfl ?_
          exact V_ireturn eX10_goBack_12 ((by first | (exfalso; omega) | exact ⟨rfl, rfl⟩))
    · intro r w e
      have e100 : A1 100 0 = 1 := by rw [cp.ao 100 (by omega), ← e1, e3]
      refine ⟨vi 1, uF (uF F1 0 17 0) 52 0 (-1), A1, e.1, e.2, ty_v, _, p_X11_goBack (by omega) e100, fun r' w' e' => ?_⟩
      obtain ⟨A', er, ew, gs⟩ := e'
      refine ⟨_, _, er, ew, ?_⟩
      have f66 : ∀ o k, (o ≠ 66 ∨ k ≠ 40 ∧ k ≠ 0 ∧ k ≠ 1 ∧ k ≠ 5 ∧ k ≠ 6) → (o ≠ 0 ∨ k ≠ 17) → (o ≠ 52 ∨ k ≠ 0) → gbF (uF (uF F1 0 17 0) 52 0 (-1)) A1 (170 * 0) o k = F1 o k := fun o k a b c => by
        unfold gbF
        rw [uF_ne (by omega), uF_ne (by omega), uF_ne (by omega), uF_ne (by omega), uF_ne (by omega), uF_ne (by omega), uF_ne (by omega)]
      have kn : 1 ≤ F (10 + 1) 0 ∧ F (10 + 1) 0 ≤ 12 := eI.ok.n
      have kT : 1 ≤ F (10 + 5) 0 ∧ F (10 + 5) 0 ≤ 60 := eI.ok.T
      have a99 : A1 99 = A 99 := cp.ao 99 (by omega)
      refine h.fs ⟨fun o k e => ?_, fun o e => ?_⟩ ?_ ?_ ?_ ?_ ?_ ?_ ?_ ?_
      · have := kSF_in e
        rw [f66 o k (by omega) (by omega) (by omega), cp.fo _ _ (by omega) (by omega)]
      · have := kSA_in e
        rw [gs.fo o (by omega), cp.ao o (by omega)]
      · exact (cp.ok eI.ok).fr (f66 _ _ (by decide) (by decide) (by decide)) (f66 _ _ (by decide) (by decide) (by decide)) (f66 _ _ (by decide) (by decide) (by decide)) (gs.fo _ (by decide)) (gs.fo _ (by decide)) (gs.fo _ (by decide)) (gs.fo _ (by decide)) (gs.fo _ (by decide)) (gs.fo _ (by decide))
      · have g2 : gbF (uF (uF F1 0 17 0) 52 0 (-1)) A1 (170 * 0) 2 0 = F (10 + 1) 0 := by rw [f66 2 0 (by decide) (by decide) (by decide)]; exact cp.n
        have g6 : gbF (uF (uF F1 0 17 0) 52 0 (-1)) A1 (170 * 0) 6 0 = F (10 + 5) 0 := by rw [f66 6 0 (by decide) (by decide) (by decide)]; exact cp.T
        have g3 : A' 3 = A1 3 := gs.fo 3 (by decide)
        have g4 : A' 4 = A1 4 := gs.fo 4 (by decide)
        have g5 : A' 5 = A1 5 := gs.fo 5 (by decide)
        have g7 : A' 7 = A1 7 := gs.fo 7 (by decide)
        have g8 : A' 8 = A1 8 := gs.fo 8 (by decide)
        have g9 : A' 9 = A1 9 := gs.fo 9 (by decide)
        refine eqS.mk ?_ ?_ ?_ ?_ ?_ ?_ ?_ ?_ ?_ ?_
        · rw [g2, ← eI.n, ← a99]
          simp [gbF, uF]
        · rw [show gbF (uF (uF F1 0 17 0) 52 0 (-1)) A1 (170 * 0) 2 1 = F (10 + 1) 1 by rw [f66 2 1 (by decide) (by decide) (by decide)]; exact cp.len, ← eI.len, ← a99]
          simp [gbF, uF]
        · rw [g6, ← eI.T, ← a99]
          simp [gbF, uF]
        · rw [show gbF (uF (uF F1 0 17 0) 52 0 (-1)) A1 (170 * 0) 6 1 = F (10 + 5) 1 by rw [f66 6 1 (by decide) (by decide) (by decide)]; exact cp.cl, ← eI.cl, ← a99]
          simp [gbF, uF]
        · rw [g2, g3]
          intro i a b
          rw [gs.str i a (by omega), show A1 3 i = _ from cp.str i a (by omega), ← eI.str i a b, a99]
        · rw [g2, g4]
          intro i a b
          rw [gs.stf i a (by omega), show A1 4 i = _ from cp.stf i a (by omega), ← eI.stf i a b, a99]
        · rw [g2, g5]
          intro i a b
          rw [gs.wr i a (by omega), show A1 5 i = _ from cp.wr i a (by omega), ← eI.wr i a b, a99]
        · rw [g6, g7]
          intro i a b
          rw [gs.wx i a (by omega), show A1 7 i = _ from cp.wx i a (by omega), ← eI.wx i a b, a99]
        · rw [g6, g8]
          intro i a b
          rw [gs.wy i a (by omega), show A1 8 i = _ from cp.wy i a (by omega), ← eI.wy i a b, a99]
        · rw [g9]
          intro i a b
          rw [gs.lw i a (by omega), show A1 9 i = _ from cp.lw i a (by omega), ← eI.lw i a b, a99]
      · rw [f66 66 16 (by decide) (by decide) (by decide), f66 28 1 (by decide) (by decide) (by decide), cp.fo _ _ (by decide) (by decide), cp.fo _ _ (by decide) (by decide)]
        exact h.tx
      · rw [f66 28 1 (by decide) (by decide) (by decide), cp.fo _ _ (by decide) (by decide), gs.fo 73 (by decide), gs.fo 29 (by decide), cp.ao 73 (by decide), cp.ao 29 (by decide)]
        exact h.txb
      · rw [f66 66 21 (by decide) (by decide) (by decide), f66 0 16 (by decide) (by decide) (by decide), cp.fo _ _ (by decide) (by decide), cp.fo _ _ (by decide) (by decide)]
        exact h.fa
      · simp [gbF, uF]
      · simp [gbF, uF]
      · simp [gbF, uF]
theorem pw_goBack1 (h : Iv F A) : Pw mX10_goBack mX11_goBack [vi 1] F A := by
  rcases h.i1 with ⟨e1, e2⟩
  rcases e2 with e2 | ⟨e3, eI⟩
  · refine Pr.w ⟨vi (-1003), F, A, F, A, fun G => ?_, fun G => ?_, h, ty_v⟩
    · refine L_ent [some (.ref 0), some (vi 1), none] rfl ?_
      refine L_iload_n eX10_goBack_0 rfl ?_
      refine V_iflt eX10_goBack_1 (fun h1 => ?_) (fun h1 => ?_)
      · refine L_sipush eX10_goBack_9 rfl ?_
        exact V_ireturn eX10_goBack_12 ((by first | (exfalso; omega) | exact ⟨rfl, rfl⟩))
      · refine L_iload_n eX10_goBack_4 rfl ?_
        refine V_iconst eX10_goBack_5 ?_
        refine V_icmple eX10_goBack_6 (fun h6 => ?_) (fun h6 => ?_)
        · refine L_iload_n eX10_goBack_13 rfl ?_
          refine V_ifne eX10_goBack_14 (fun h14 => ?_) (fun h14 => ?_)
          · refine L_aload_n eX10_goBack_24 rfl ?_
            refine L_getR (r := 19) eX10_goBack_25 f_X10_19.g rfl rfl (by decide) ?_
            refine L_astore_n eX10_goBack_28 (s_2 rfl rfl) ?_
            refine L_aload_n eX10_goBack_29 rfl ?_
            refine L_get eX10_goBack_30 f_X10_315.g rfl rfl ?_
            refine V_ifne eX10_goBack_33 (fun h33 => ?_) (fun h33 => ?_)
            · (exfalso; omega)
            · refine L_sipush eX10_goBack_36 rfl ?_
              exact V_ireturn eX10_goBack_39 ((by first | (exfalso; omega) | exact ⟨rfl, rfl⟩))
          · (exfalso; omega)
        · refine L_sipush eX10_goBack_9 rfl ?_
          exact V_ireturn eX10_goBack_12 ((by first | (exfalso; omega) | exact ⟨rfl, rfl⟩))
    · rw [e2] at e1
      refine L_ent [some (.ref 66), some (vi 1), none, none] rfl ?_
      refine L_iload_n eX11_goBack_0 rfl ?_
      refine V_i2l eX11_goBack_1 ?_
      refine L_lconst0 eX11_goBack_2 ?_
      refine L_lconst1 eX11_goBack_3 ?_
      refine C_s1 (p_X11_in (by omega) (by omega) (by omega)) v_X11_152 eX11_goBack_4 rfl ?_
      refine V_ifneB eX11_goBack_7 (fun h7 => ?_) (fun h7 => ?_)
      · refine L_aload_n eX11_goBack_14 rfl ?_
        refine L_getR (r := 100) eX11_goBack_15 f_X11_118.g rfl rfl (by decide) ?_
        refine L_iload_n eX11_goBack_18 rfl ?_
        refine L_zald eX11_goBack_19 rfl ?_
        refine V_ifne eX11_goBack_20 (fun h20 => ?_) (fun h20 => ?_)
        · (exfalso; omega)
        · refine L_sipush eX11_goBack_23 rfl ?_
          exact V_ireturn eX11_goBack_26 ((by first | (exfalso; omega) | exact ⟨rfl, rfl⟩))
      · refine L_sipush eX11_goBack_10 rfl ?_
        exact V_ireturn eX11_goBack_13 ((by first | (exfalso; omega) | exact ⟨rfl, rfl⟩))
  · obtain ⟨F1, A1, hM, cp⟩ := p_X6_copyFrom (F := F) (A := A) (s := 1) (t := 19) (Or.inl rfl) (by unfold isSe; omega) (by decide)
    intro G
    refine ⟨_, (?_ : Mu G mX10_goBack [.ref 0, vi 1] F A (some (vi 1)) (uF (uF F1 0 17 0) 52 0 (-1)) A1), ?_⟩
    · refine L_ent [some (.ref 0), some (vi 1), none] rfl ?_
      refine L_iload_n eX10_goBack_0 rfl ?_
      refine V_iflt eX10_goBack_1 (fun h1 => ?_) (fun h1 => ?_)
      · refine L_sipush eX10_goBack_9 rfl ?_
        exact V_ireturn eX10_goBack_12 ((by first | (exfalso; omega) | exact ⟨rfl, rfl⟩))
      · refine L_iload_n eX10_goBack_4 rfl ?_
        refine V_iconst eX10_goBack_5 ?_
        refine V_icmple eX10_goBack_6 (fun h6 => ?_) (fun h6 => ?_)
        · refine L_iload_n eX10_goBack_13 rfl ?_
          refine V_ifne eX10_goBack_14 (fun h14 => ?_) (fun h14 => ?_)
          · refine L_aload_n eX10_goBack_24 rfl ?_
            refine L_getR (r := 19) eX10_goBack_25 f_X10_19.g rfl rfl (by decide) ?_
            refine L_astore_n eX10_goBack_28 (s_2 rfl rfl) ?_
            refine L_aload_n eX10_goBack_29 rfl ?_
            refine L_get eX10_goBack_30 f_X10_315.g rfl rfl ?_
            refine V_ifne eX10_goBack_33 (fun h33 => ?_) (fun h33 => ?_)
            · refine L_aload_n eX10_goBack_40 rfl ?_
              refine L_getR (r := 1) eX10_goBack_41 f_X10_10.g rfl rfl (by decide) ?_
              refine L_aload_n eX10_goBack_44 rfl ?_
              refine C_v0 (hM G) v_X10_312 eX10_goBack_45 rfl rfl ?_
              refine L_aload_n eX10_goBack_48 rfl ?_
              refine C_v0 p_X10_setChanged v_X10_123 eX10_goBack_49 rfl rfl ?_
              refine V_iconst eX10_goBack_52 ?_
              exact V_ireturn eX10_goBack_53 ((by first | (exfalso; omega) | exact ⟨rfl, rfl⟩))
            · (exfalso; omega)
          · (exfalso; omega)
        · refine L_sipush eX10_goBack_9 rfl ?_
          exact V_ireturn eX10_goBack_12 ((by first | (exfalso; omega) | exact ⟨rfl, rfl⟩))
    · intro r w e
      have e100 : A1 100 1 = 1 := by rw [cp.ao 100 (by omega), ← e1, e3]
      refine ⟨vi 1, uF (uF F1 0 17 0) 52 0 (-1), A1, e.1, e.2, ty_v, _, p_X11_goBack (by omega) e100, fun r' w' e' => ?_⟩
      obtain ⟨A', er, ew, gs⟩ := e'
      refine ⟨_, _, er, ew, ?_⟩
      have f66 : ∀ o k, (o ≠ 66 ∨ k ≠ 40 ∧ k ≠ 0 ∧ k ≠ 1 ∧ k ≠ 5 ∧ k ≠ 6) → (o ≠ 0 ∨ k ≠ 17) → (o ≠ 52 ∨ k ≠ 0) → gbF (uF (uF F1 0 17 0) 52 0 (-1)) A1 (170 * 1) o k = F1 o k := fun o k a b c => by
        unfold gbF
        rw [uF_ne (by omega), uF_ne (by omega), uF_ne (by omega), uF_ne (by omega), uF_ne (by omega), uF_ne (by omega), uF_ne (by omega)]
      have kn : 1 ≤ F (19 + 1) 0 ∧ F (19 + 1) 0 ≤ 12 := eI.ok.n
      have kT : 1 ≤ F (19 + 5) 0 ∧ F (19 + 5) 0 ≤ 60 := eI.ok.T
      have a99 : A1 99 = A 99 := cp.ao 99 (by omega)
      refine h.fs ⟨fun o k e => ?_, fun o e => ?_⟩ ?_ ?_ ?_ ?_ ?_ ?_ ?_ ?_
      · have := kSF_in e
        rw [f66 o k (by omega) (by omega) (by omega), cp.fo _ _ (by omega) (by omega)]
      · have := kSA_in e
        rw [gs.fo o (by omega), cp.ao o (by omega)]
      · exact (cp.ok eI.ok).fr (f66 _ _ (by decide) (by decide) (by decide)) (f66 _ _ (by decide) (by decide) (by decide)) (f66 _ _ (by decide) (by decide) (by decide)) (gs.fo _ (by decide)) (gs.fo _ (by decide)) (gs.fo _ (by decide)) (gs.fo _ (by decide)) (gs.fo _ (by decide)) (gs.fo _ (by decide))
      · have g2 : gbF (uF (uF F1 0 17 0) 52 0 (-1)) A1 (170 * 1) 2 0 = F (19 + 1) 0 := by rw [f66 2 0 (by decide) (by decide) (by decide)]; exact cp.n
        have g6 : gbF (uF (uF F1 0 17 0) 52 0 (-1)) A1 (170 * 1) 6 0 = F (19 + 5) 0 := by rw [f66 6 0 (by decide) (by decide) (by decide)]; exact cp.T
        have g3 : A' 3 = A1 3 := gs.fo 3 (by decide)
        have g4 : A' 4 = A1 4 := gs.fo 4 (by decide)
        have g5 : A' 5 = A1 5 := gs.fo 5 (by decide)
        have g7 : A' 7 = A1 7 := gs.fo 7 (by decide)
        have g8 : A' 8 = A1 8 := gs.fo 8 (by decide)
        have g9 : A' 9 = A1 9 := gs.fo 9 (by decide)
        refine eqS.mk ?_ ?_ ?_ ?_ ?_ ?_ ?_ ?_ ?_ ?_
        · rw [g2, ← eI.n, ← a99]
          simp [gbF, uF]
        · rw [show gbF (uF (uF F1 0 17 0) 52 0 (-1)) A1 (170 * 1) 2 1 = F (19 + 1) 1 by rw [f66 2 1 (by decide) (by decide) (by decide)]; exact cp.len, ← eI.len, ← a99]
          simp [gbF, uF]
        · rw [g6, ← eI.T, ← a99]
          simp [gbF, uF]
        · rw [show gbF (uF (uF F1 0 17 0) 52 0 (-1)) A1 (170 * 1) 6 1 = F (19 + 5) 1 by rw [f66 6 1 (by decide) (by decide) (by decide)]; exact cp.cl, ← eI.cl, ← a99]
          simp [gbF, uF]
        · rw [g2, g3]
          intro i a b
          rw [gs.str i a (by omega), show A1 3 i = _ from cp.str i a (by omega), ← eI.str i a b, a99]
        · rw [g2, g4]
          intro i a b
          rw [gs.stf i a (by omega), show A1 4 i = _ from cp.stf i a (by omega), ← eI.stf i a b, a99]
        · rw [g2, g5]
          intro i a b
          rw [gs.wr i a (by omega), show A1 5 i = _ from cp.wr i a (by omega), ← eI.wr i a b, a99]
        · rw [g6, g7]
          intro i a b
          rw [gs.wx i a (by omega), show A1 7 i = _ from cp.wx i a (by omega), ← eI.wx i a b, a99]
        · rw [g6, g8]
          intro i a b
          rw [gs.wy i a (by omega), show A1 8 i = _ from cp.wy i a (by omega), ← eI.wy i a b, a99]
        · rw [g9]
          intro i a b
          rw [gs.lw i a (by omega), show A1 9 i = _ from cp.lw i a (by omega), ← eI.lw i a b, a99]
      · rw [f66 66 16 (by decide) (by decide) (by decide), f66 28 1 (by decide) (by decide) (by decide), cp.fo _ _ (by decide) (by decide), cp.fo _ _ (by decide) (by decide)]
        exact h.tx
      · rw [f66 28 1 (by decide) (by decide) (by decide), cp.fo _ _ (by decide) (by decide), gs.fo 73 (by decide), gs.fo 29 (by decide), cp.ao 73 (by decide), cp.ao 29 (by decide)]
        exact h.txb
      · rw [f66 66 21 (by decide) (by decide) (by decide), f66 0 16 (by decide) (by decide) (by decide), cp.fo _ _ (by decide) (by decide), cp.fo _ _ (by decide) (by decide)]
        exact h.fa
      · simp [gbF, uF]
      · simp [gbF, uF]
      · simp [gbF, uF]
theorem pw_keep (h : Iv F A) {z : Int} (hz : i32 z) : Pw mX10_keep mX11_keep [vi z] F A := by
  unfold i32 at hz
  by_cases h0 : z = 0
  · subst h0
    exact pw_keep0 h
  · by_cases h1 : z = 1
    · subst h1
      exact pw_keep1 h
    · refine Pr.w ⟨vi (-1001), F, A, F, A, fun G => ?_, fun G => ?_, h, ty_v⟩
      · refine L_ent [some (.ref 0), some (vi z), none] rfl ?_
        refine L_iload_n eX10_keep_0 rfl ?_
        refine V_iflt eX10_keep_1 (fun h1 => ?_) (fun h1 => ?_)
        · refine L_sipush eX10_keep_9 rfl ?_
          exact V_ireturn eX10_keep_12 ((by first | (exfalso; omega) | exact ⟨rfl, rfl⟩))
        · refine L_iload_n eX10_keep_4 rfl ?_
          refine V_iconst eX10_keep_5 ?_
          refine V_icmple eX10_keep_6 (fun h6 => ?_) (fun h6 => ?_)
          · (exfalso; omega)
          · refine L_sipush eX10_keep_9 rfl ?_
            exact V_ireturn eX10_keep_12 ((by first | (exfalso; omega) | exact ⟨rfl, rfl⟩))
      · refine L_ent [some (.ref 66), some (vi z), none, none] rfl ?_
        refine L_iload_n eX11_keep_0 rfl ?_
        refine V_i2l eX11_keep_1 ?_
        refine L_lconst0 eX11_keep_2 ?_
        refine L_lconst1 eX11_keep_3 ?_
        refine C_s1 (p_X11_in (by omega) (by omega) (by omega)) v_X11_152 eX11_keep_4 rfl ?_
        refine V_ifneB eX11_keep_7 (fun h7 => ?_) (fun h7 => ?_)
        · (exfalso; omega)
        · refine L_sipush eX11_keep_10 rfl ?_
          exact V_ireturn eX11_keep_13 ((by first | (exfalso; omega) | exact ⟨rfl, rfl⟩))
theorem pw_goBack (h : Iv F A) {z : Int} (hz : i32 z) : Pw mX10_goBack mX11_goBack [vi z] F A := by
  unfold i32 at hz
  by_cases h0 : z = 0
  · subst h0
    exact pw_goBack0 h
  · by_cases h1 : z = 1
    · subst h1
      exact pw_goBack1 h
    · refine Pr.w ⟨vi (-1001), F, A, F, A, fun G => ?_, fun G => ?_, h, ty_v⟩
      · refine L_ent [some (.ref 0), some (vi z), none] rfl ?_
        refine L_iload_n eX10_goBack_0 rfl ?_
        refine V_iflt eX10_goBack_1 (fun h1 => ?_) (fun h1 => ?_)
        · refine L_sipush eX10_goBack_9 rfl ?_
          exact V_ireturn eX10_goBack_12 ((by first | (exfalso; omega) | exact ⟨rfl, rfl⟩))
        · refine L_iload_n eX10_goBack_4 rfl ?_
          refine V_iconst eX10_goBack_5 ?_
          refine V_icmple eX10_goBack_6 (fun h6 => ?_) (fun h6 => ?_)
          · (exfalso; omega)
          · refine L_sipush eX10_goBack_9 rfl ?_
            exact V_ireturn eX10_goBack_12 ((by first | (exfalso; omega) | exact ⟨rfl, rfl⟩))
      · refine L_ent [some (.ref 66), some (vi z), none, none] rfl ?_
        refine L_iload_n eX11_goBack_0 rfl ?_
        refine V_i2l eX11_goBack_1 ?_
        refine L_lconst0 eX11_goBack_2 ?_
        refine L_lconst1 eX11_goBack_3 ?_
        refine C_s1 (p_X11_in (by omega) (by omega) (by omega)) v_X11_152 eX11_goBack_4 rfl ?_
        refine V_ifneB eX11_goBack_7 (fun h7 => ?_) (fun h7 => ?_)
        · (exfalso; omega)
        · refine L_sipush eX11_goBack_10 rfl ?_
          exact V_ireturn eX11_goBack_13 ((by first | (exfalso; omega) | exact ⟨rfl, rfl⟩))
end T77

