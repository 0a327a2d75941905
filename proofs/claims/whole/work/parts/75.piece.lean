section R75
variable {F : fT} {A : nT}
def pcR (S T W : Int → Int) (i w : Int) : Int := if w = 0 then S i else if w = 1 then T i else if w = 2 then wtF S T (i + 1) else if w = 3 then bdF S T (i + 1) else if w = 4 then W i else if w = 5 then (if 0 < i ∧ S i < S (i - 1) then 1 else 0) else -1002
theorem p_X11_oneI {G : gT} {z : Int} (h : z = 0 ∨ z = 1) : Pu G mX11_one [vi z] F A (vi z) := by
  refine L_ent [some (vi z)] rfl ?_
  refine L_iload_n eX11_one_0 rfl ?_
  refine V_ifeq eX11_one_1 (fun h1 => ?_) (fun h1 => ?_)
  · refine V_iconst eX11_one_8 ?_
    exact V_ireturn eX11_one_9 ⟨by rw [h1], rfl⟩
  · refine V_iconst eX11_one_4 ?_
    refine V_goto eX11_one_5 ?_
    exact V_ireturn eX11_one_9 ⟨by rw [show z = 1 by omega], rfl⟩
theorem pr_piece (h : Iv F A) {i w : Int} (hi : i32 i) (hw : i32 w) : Pr mX10_piece mX11_piece [vi i, vi w] F A := by
  unfold i32 at hi hw
  have hn : 1 ≤ F 2 0 ∧ F 2 0 ≤ 12 := h.ok.n
  have e0 := h.s.n
  by_cases h1 : 0 ≤ i ∧ i < F 2 0
  · have hpl : plK (F 2 0) (A 3) (A 4) := h.ok.pl
    have hpl2 := h.m.2.2.2.1
    have bi := (hpl i (by omega) (by omega)).1
    have bj : 0 < i → 1 ≤ A 3 (i - 1) ∧ A 3 (i - 1) ≤ 16 := fun c => (hpl (i - 1) (by omega) (by omega)).1
    have bi2 := (hpl2 i (by omega) (by omega)).1
    have bj2 : 0 < i → 1 ≤ A 67 (i - 1) ∧ A 67 (i - 1) ≤ 16 := fun c => (hpl2 (i - 1) (by omega) (by omega)).1
    have ec : pcR (A 67) (A 68) (A 69) i w = pcR (A 3) (A 4) (A 5) i w := by
      unfold pcR wtF bdF
      rw [show i + 1 - 1 = i by omega, h.s.str i (by omega) (by omega), h.s.stf i (by omega) (by omega), h.s.wr i (by omega) (by omega)]
      by_cases c : 0 < i
      · rw [h.s.str (i - 1) (by omega) (by omega)]
      · have c1 : ¬ (0 < i ∧ A 3 i < A 67 (i - 1)) := fun d => c d.1
        have c2 : ¬ (0 < i ∧ A 3 i < A 3 (i - 1)) := fun d => c d.1
        rw [if_neg c1, if_neg c2]
    refine ⟨vi (pcR (A 3) (A 4) (A 5) i w), F, A, F, A, fun G => ?_, fun G => ?_, h, ty_v⟩
    · refine L_ent [some (.ref 0), some (vi i), some (vi w), none] rfl ?_
      unfold pcR
      refine L_aload_n eX10_piece_0 rfl ?_
      refine L_getR (r := 1) eX10_piece_1 f_X10_10.g rfl rfl (by decide) ?_
      refine L_getR (r := 2) eX10_piece_4 f_X10_112 rfl rfl (by decide) ?_
      refine L_astore_n eX10_piece_7 (s_3 rfl rfl) ?_
      refine L_iload_n eX10_piece_8 rfl ?_
      refine V_iflt eX10_piece_9 (fun h9 => ?_) (fun h9 => ?_)
      · (exfalso; omega)
      · refine L_iload_n eX10_piece_12 rfl ?_
        refine L_aload_n eX10_piece_13 rfl ?_
        refine L_get eX10_piece_14 f_X10_126.g rfl rfl ?_
        refine V_icmplt eX10_piece_17 (fun h17 => ?_) (fun h17 => ?_)
        · refine L_iload_n eX10_piece_24 rfl ?_
          rcases (show (w < 0 ∨ 5 < w) ∨ w = 0 ∨ w = 1 ∨ w = 2 ∨ w = 3 ∨ w = 4 ∨ w = 5 by omega) with hsw | hsw | hsw | hsw | hsw | hsw | hsw
          · refine V_tabOut eX10_piece_25 hsw rfl ?_
            refine L_sipush eX10_piece_128 rfl ?_
            exact V_ireturn eX10_piece_131 ((by first | (exfalso; omega) | (refine ⟨?_, rfl⟩; (repeat (first | rw [if_pos (by omega)] | rw [if_neg (by omega)])); done) | (refine ⟨?_, rfl⟩; (repeat (first | rw [if_pos (by omega)] | rw [if_neg (by omega)])); rw [Int.max_eq_right (by omega)])))
          · subst hsw
            refine V_tabIn eX10_piece_25 (by omega) rfl rfl ?_
            refine L_aload_n eX10_piece_64 rfl ?_
            refine L_getR (r := 3) eX10_piece_65 f_X10_143 rfl rfl (by decide) ?_
            refine L_iload_n eX10_piece_68 rfl ?_
            refine L_iald eX10_piece_69 rfl ?_
            exact V_ireturn eX10_piece_70 ((by first | (exfalso; omega) | (refine ⟨?_, rfl⟩; (repeat (first | rw [if_pos (by omega)] | rw [if_neg (by omega)])); done) | (refine ⟨?_, rfl⟩; (repeat (first | rw [if_pos (by omega)] | rw [if_neg (by omega)])); rw [Int.max_eq_right (by omega)])))
          · subst hsw
            refine V_tabIn eX10_piece_25 (by omega) rfl rfl ?_
            refine L_aload_n eX10_piece_71 rfl ?_
            refine L_getR (r := 4) eX10_piece_72 f_X10_147 rfl rfl (by decide) ?_
            refine L_iload_n eX10_piece_75 rfl ?_
            refine L_iald eX10_piece_76 rfl ?_
            exact V_ireturn eX10_piece_77 ((by first | (exfalso; omega) | (refine ⟨?_, rfl⟩; (repeat (first | rw [if_pos (by omega)] | rw [if_neg (by omega)])); done) | (refine ⟨?_, rfl⟩; (repeat (first | rw [if_pos (by omega)] | rw [if_neg (by omega)])); rw [Int.max_eq_right (by omega)])))
          · subst hsw
            refine V_tabIn eX10_piece_25 (by omega) rfl rfl ?_
            refine L_aload_n eX10_piece_78 rfl ?_
            refine L_iload_n eX10_piece_79 rfl ?_
            refine V_iconst eX10_piece_80 ?_
            refine V_iadd eX10_piece_81 ?_
            refine C_v1 (p_X3_weightOf (Or.inl rfl) (n := F 2 0) hpl (by omega) (by omega)) v_X10_150 eX10_piece_82 rfl rfl ?_
            exact V_ireturn eX10_piece_85 ((by first | (exfalso; omega) | (refine ⟨?_, rfl⟩; (repeat (first | rw [if_pos (by omega)] | rw [if_neg (by omega)])); done) | (refine ⟨?_, rfl⟩; (repeat (first | rw [if_pos (by omega)] | rw [if_neg (by omega)])); rw [Int.max_eq_right (by omega)])))
          · subst hsw
            refine V_tabIn eX10_piece_25 (by omega) rfl rfl ?_
            refine L_aload_n eX10_piece_86 rfl ?_
            refine L_iload_n eX10_piece_87 rfl ?_
            refine V_iconst eX10_piece_88 ?_
            refine V_iadd eX10_piece_89 ?_
            refine C_v1 (p_X3_bendsOf (Or.inl rfl) (n := F 2 0) hpl (by omega) (by omega)) v_X10_154 eX10_piece_90 rfl rfl ?_
            exact V_ireturn eX10_piece_93 ((by first | (exfalso; omega) | (refine ⟨?_, rfl⟩; (repeat (first | rw [if_pos (by omega)] | rw [if_neg (by omega)])); done) | (refine ⟨?_, rfl⟩; (repeat (first | rw [if_pos (by omega)] | rw [if_neg (by omega)])); rw [Int.max_eq_right (by omega)])))
          · subst hsw
            refine V_tabIn eX10_piece_25 (by omega) rfl rfl ?_
            refine L_aload_n eX10_piece_94 rfl ?_
            refine L_getR (r := 5) eX10_piece_95 f_X10_157 rfl rfl (by decide) ?_
            refine L_iload_n eX10_piece_98 rfl ?_
            refine L_iald eX10_piece_99 rfl ?_
            exact V_ireturn eX10_piece_100 ((by first | (exfalso; omega) | (refine ⟨?_, rfl⟩; (repeat (first | rw [if_pos (by omega)] | rw [if_neg (by omega)])); done) | (refine ⟨?_, rfl⟩; (repeat (first | rw [if_pos (by omega)] | rw [if_neg (by omega)])); rw [Int.max_eq_right (by omega)])))
          · subst hsw
            refine V_tabIn eX10_piece_25 (by omega) rfl rfl ?_
            refine L_iload_n eX10_piece_101 rfl ?_
            refine V_ifle eX10_piece_102 (fun h102 => ?_) (fun h102 => ?_)
            · refine V_iconst eX10_piece_126 ?_
              exact V_ireturn eX10_piece_127 ((by first | (exfalso; omega) | (refine ⟨?_, rfl⟩; (repeat (first | rw [if_pos (by omega)] | rw [if_neg (by omega)])); done) | (refine ⟨?_, rfl⟩; (repeat (first | rw [if_pos (by omega)] | rw [if_neg (by omega)])); rw [Int.max_eq_right (by omega)])))
            · refine L_aload_n eX10_piece_105 rfl ?_
              refine L_getR (r := 3) eX10_piece_106 f_X10_143 rfl rfl (by decide) ?_
              refine L_iload_n eX10_piece_109 rfl ?_
              refine V_iconst eX10_piece_110 ?_
              refine V_isub eX10_piece_111 ?_
              refine L_iald eX10_piece_112 rfl ?_
              refine L_aload_n eX10_piece_113 rfl ?_
              refine L_getR (r := 3) eX10_piece_114 f_X10_143 rfl rfl (by decide) ?_
              refine L_iload_n eX10_piece_117 rfl ?_
              refine L_iald eX10_piece_118 rfl ?_
              refine V_icmple eX10_piece_119 (fun h119 => ?_) (fun h119 => ?_)
              · refine V_iconst eX10_piece_126 ?_
                exact V_ireturn eX10_piece_127 ((by first | (exfalso; omega) | (refine ⟨?_, rfl⟩; (repeat (first | rw [if_pos (by omega)] | rw [if_neg (by omega)])); done) | (refine ⟨?_, rfl⟩; (repeat (first | rw [if_pos (by omega)] | rw [if_neg (by omega)])); rw [Int.max_eq_right (by omega)])))
              · refine V_iconst eX10_piece_122 ?_
                refine V_goto eX10_piece_123 ?_
                exact V_ireturn eX10_piece_127 ((by first | (exfalso; omega) | (refine ⟨?_, rfl⟩; (repeat (first | rw [if_pos (by omega)] | rw [if_neg (by omega)])); done) | (refine ⟨?_, rfl⟩; (repeat (first | rw [if_pos (by omega)] | rw [if_neg (by omega)])); rw [Int.max_eq_right (by omega)])))
        · (exfalso; omega)
    · rw [← ec]
      refine L_ent [some (.ref 66), some (vi i), some (vi w)] rfl ?_
      unfold pcR
      refine L_iload_n eX11_piece_0 rfl ?_
      refine V_i2l eX11_piece_1 ?_
      refine L_lconst0 eX11_piece_2 ?_
      refine L_aload_n eX11_piece_3 rfl ?_
      refine L_get eX11_piece_4 f_X11_121.g rfl rfl ?_
      refine V_iconst eX11_piece_7 ?_
      refine V_isub eX11_piece_8 ?_
      refine V_i2l eX11_piece_9 ?_
      refine C_s1 (p_X11_in (by omega) (by omega) (by omega)) v_X11_152 eX11_piece_10 rfl ?_
      refine V_ifneB eX11_piece_13 (fun h13 => ?_) (fun h13 => ?_)
      · refine L_iload_n eX11_piece_20 rfl ?_
        rcases (show (w < 0 ∨ 5 < w) ∨ w = 0 ∨ w = 1 ∨ w = 2 ∨ w = 3 ∨ w = 4 ∨ w = 5 by omega) with hsw | hsw | hsw | hsw | hsw | hsw | hsw
        · refine V_tabOut eX11_piece_21 hsw rfl ?_
          refine L_sipush eX11_piece_127 rfl ?_
          exact V_ireturn eX11_piece_130 ((by first | (exfalso; omega) | (refine ⟨?_, rfl⟩; (repeat (first | rw [if_pos (by omega)] | rw [if_neg (by omega)])); done) | (refine ⟨?_, rfl⟩; (repeat (first | rw [if_pos (by omega)] | rw [if_neg (by omega)])); rw [Int.max_eq_right (by omega)])))
        · subst hsw
          refine V_tabIn eX11_piece_21 (by omega) rfl rfl ?_
          refine L_aload_n eX11_piece_60 rfl ?_
          refine L_getR (r := 67) eX11_piece_61 f_X11_7.g rfl rfl (by decide) ?_
          refine L_iload_n eX11_piece_64 rfl ?_
          refine L_iald eX11_piece_65 rfl ?_
          exact V_ireturn eX11_piece_66 ((by first | (exfalso; omega) | (refine ⟨?_, rfl⟩; (repeat (first | rw [if_pos (by omega)] | rw [if_neg (by omega)])); done) | (refine ⟨?_, rfl⟩; (repeat (first | rw [if_pos (by omega)] | rw [if_neg (by omega)])); rw [Int.max_eq_right (by omega)])))
        · subst hsw
          refine V_tabIn eX11_piece_21 (by omega) rfl rfl ?_
          refine L_aload_n eX11_piece_67 rfl ?_
          refine L_getR (r := 68) eX11_piece_68 f_X11_13.g rfl rfl (by decide) ?_
          refine L_iload_n eX11_piece_71 rfl ?_
          refine L_iald eX11_piece_72 rfl ?_
          exact V_ireturn eX11_piece_73 ((by first | (exfalso; omega) | (refine ⟨?_, rfl⟩; (repeat (first | rw [if_pos (by omega)] | rw [if_neg (by omega)])); done) | (refine ⟨?_, rfl⟩; (repeat (first | rw [if_pos (by omega)] | rw [if_neg (by omega)])); rw [Int.max_eq_right (by omega)])))
        · subst hsw
          refine V_tabIn eX11_piece_21 (by omega) rfl rfl ?_
          refine L_aload_n eX11_piece_74 rfl ?_
          refine L_iload_n eX11_piece_75 rfl ?_
          refine V_iconst eX11_piece_76 ?_
          refine V_iadd eX11_piece_77 ?_
          refine C_v1 (p_X11_weightOf (n := F 66 0) hpl2 (by omega) (by omega)) v_X11_254 eX11_piece_78 rfl rfl ?_
          exact V_ireturn eX11_piece_81 ((by first | (exfalso; omega) | (refine ⟨?_, rfl⟩; (repeat (first | rw [if_pos (by omega)] | rw [if_neg (by omega)])); done) | (refine ⟨?_, rfl⟩; (repeat (first | rw [if_pos (by omega)] | rw [if_neg (by omega)])); rw [Int.max_eq_right (by omega)])))
        · subst hsw
          refine V_tabIn eX11_piece_21 (by omega) rfl rfl ?_
          refine L_aload_n eX11_piece_82 rfl ?_
          refine L_iload_n eX11_piece_83 rfl ?_
          refine V_iconst eX11_piece_84 ?_
          refine V_iadd eX11_piece_85 ?_
          refine C_v1 (p_X11_bendsOf (n := F 66 0) hpl2 (by omega) (by omega)) v_X11_257 eX11_piece_86 rfl rfl ?_
          exact V_ireturn eX11_piece_89 ((by first | (exfalso; omega) | (refine ⟨?_, rfl⟩; (repeat (first | rw [if_pos (by omega)] | rw [if_neg (by omega)])); done) | (refine ⟨?_, rfl⟩; (repeat (first | rw [if_pos (by omega)] | rw [if_neg (by omega)])); rw [Int.max_eq_right (by omega)])))
        · subst hsw
          refine V_tabIn eX11_piece_21 (by omega) rfl rfl ?_
          refine L_aload_n eX11_piece_90 rfl ?_
          refine L_getR (r := 69) eX11_piece_91 f_X11_16.g rfl rfl (by decide) ?_
          refine L_iload_n eX11_piece_94 rfl ?_
          refine L_iald eX11_piece_95 rfl ?_
          exact V_ireturn eX11_piece_96 ((by first | (exfalso; omega) | (refine ⟨?_, rfl⟩; (repeat (first | rw [if_pos (by omega)] | rw [if_neg (by omega)])); done) | (refine ⟨?_, rfl⟩; (repeat (first | rw [if_pos (by omega)] | rw [if_neg (by omega)])); rw [Int.max_eq_right (by omega)])))
        · subst hsw
          refine V_tabIn eX11_piece_21 (by omega) rfl rfl ?_
          refine L_iload_n eX11_piece_97 rfl ?_
          refine V_ifle eX11_piece_98 (fun h98 => ?_) (fun h98 => ?_)
          · (refine V_iconst eX11_piece_122 ?_; refine C_s1 (p_X11_oneI (Or.inl rfl)) v_X11_181 eX11_piece_123 rfl ?_; exact V_ireturn eX11_piece_126 (by refine ⟨?_, rfl⟩; rw [if_neg (by omega), if_neg (by omega), if_neg (by omega), if_neg (by omega), if_neg (by omega), if_pos (by omega), if_neg (by omega)]))
          · refine L_aload_n eX11_piece_101 rfl ?_
            refine L_getR (r := 67) eX11_piece_102 f_X11_7.g rfl rfl (by decide) ?_
            refine L_iload_n eX11_piece_105 rfl ?_
            refine V_iconst eX11_piece_106 ?_
            refine V_isub eX11_piece_107 ?_
            refine L_iald eX11_piece_108 rfl ?_
            refine L_aload_n eX11_piece_109 rfl ?_
            refine L_getR (r := 67) eX11_piece_110 f_X11_7.g rfl rfl (by decide) ?_
            refine L_iload_n eX11_piece_113 rfl ?_
            refine L_iald eX11_piece_114 rfl ?_
            refine V_icmple eX11_piece_115 (fun h115 => ?_) (fun h115 => ?_)
            · (refine V_iconst eX11_piece_122 ?_; refine C_s1 (p_X11_oneI (Or.inl rfl)) v_X11_181 eX11_piece_123 rfl ?_; exact V_ireturn eX11_piece_126 (by refine ⟨?_, rfl⟩; rw [if_neg (by omega), if_neg (by omega), if_neg (by omega), if_neg (by omega), if_neg (by omega), if_pos (by omega), if_neg (by omega)]))
            · (refine V_iconst eX11_piece_118 ?_; refine V_goto eX11_piece_119 ?_; refine C_s1 (p_X11_oneI (Or.inr rfl)) v_X11_181 eX11_piece_123 rfl ?_; exact V_ireturn eX11_piece_126 (by refine ⟨?_, rfl⟩; rw [if_neg (by omega), if_neg (by omega), if_neg (by omega), if_neg (by omega), if_neg (by omega), if_pos (by omega), if_pos (by omega)]))
      · (exfalso; omega)
  · refine ⟨vi (-1001), F, A, F, A, fun G => ?_, fun G => ?_, h, ty_v⟩
    · refine L_ent [some (.ref 0), some (vi i), some (vi w), none] rfl ?_
      refine L_aload_n eX10_piece_0 rfl ?_
      refine L_getR (r := 1) eX10_piece_1 f_X10_10.g rfl rfl (by decide) ?_
      refine L_getR (r := 2) eX10_piece_4 f_X10_112 rfl rfl (by decide) ?_
      refine L_astore_n eX10_piece_7 (s_3 rfl rfl) ?_
      refine L_iload_n eX10_piece_8 rfl ?_
      refine V_iflt eX10_piece_9 (fun h9 => ?_) (fun h9 => ?_)
      · refine L_sipush eX10_piece_20 rfl ?_
        exact V_ireturn eX10_piece_23 ((by first | (exfalso; omega) | exact ⟨rfl, rfl⟩))
      · refine L_iload_n eX10_piece_12 rfl ?_
        refine L_aload_n eX10_piece_13 rfl ?_
        refine L_get eX10_piece_14 f_X10_126.g rfl rfl ?_
        refine V_icmplt eX10_piece_17 (fun h17 => ?_) (fun h17 => ?_)
        · (exfalso; omega)
        · refine L_sipush eX10_piece_20 rfl ?_
          exact V_ireturn eX10_piece_23 ((by first | (exfalso; omega) | exact ⟨rfl, rfl⟩))
    · refine L_ent [some (.ref 66), some (vi i), some (vi w)] rfl ?_
      refine L_iload_n eX11_piece_0 rfl ?_
      refine V_i2l eX11_piece_1 ?_
      refine L_lconst0 eX11_piece_2 ?_
      refine L_aload_n eX11_piece_3 rfl ?_
      refine L_get eX11_piece_4 f_X11_121.g rfl rfl ?_
      refine V_iconst eX11_piece_7 ?_
      refine V_isub eX11_piece_8 ?_
      refine V_i2l eX11_piece_9 ?_
      refine C_s1 (p_X11_in (by omega) (by omega) (by omega)) v_X11_152 eX11_piece_10 rfl ?_
      refine V_ifneB eX11_piece_13 (fun h13 => ?_) (fun h13 => ?_)
      · (exfalso; omega)
      · refine L_sipush eX11_piece_16 rfl ?_
        exact V_ireturn eX11_piece_19 ((by first | (exfalso; omega) | exact ⟨rfl, rfl⟩))
/-- all STRANDS -/
theorem p_X3_strandsInAll {G : gT} {p : Nat} (hp : isPl p) {n : Nat} (h0 : F p 0 = n) (hn : n ≤ 12) : Pu G mX3_strandsInAll [.ref p] F A (vi (sI (fun j => A (p + 1) j) n)) := by
  refine L_ent [some (.ref p), none, none] rfl ?_
  generalize hQ : (fun (r' : Option Value) (w : wT) => r' = some (vi (sI (fun j => A (p + 1) j) n)) ∧ w = sw F A) = Q
  refine V_iconst eX3_strandsInAll_0 ?_
  refine L_istore_n eX3_strandsInAll_1 (s_1 rfl rfl) ?_
  refine V_iconst eX3_strandsInAll_2 ?_
  refine L_istore_n eX3_strandsInAll_3 (s_2 rfl rfl) ?_
  have LOOP : ∀ (r j : Nat) (i : Int), n < r + j → j ≤ n → i = j → V G mX3_strandsInAll Q 0 0 4 [some (.ref p), some (vi (sI (fun j => A (p + 1) j) j)), some (vi i)] [] (sw F A) := by
    intro r
    induction r with
    | zero => intro j i e1 e2; omega
    | succ r ih =>
      intro j i e1 e2 ei
      refine L_iload_n eX3_strandsInAll_4 rfl ?_
      refine L_aload_n eX3_strandsInAll_5 rfl ?_
      refine L_get eX3_strandsInAll_6 f_X3_9.g hp.k (hp.i (by decide)) ?_
      -- at 9: .if_icmp .ge 18
      refine V_icmpge eX3_strandsInAll_9 (fun h2 => ?_) (fun h2 => ?_)
      · have e : j = n := by omega
        subst e
        refine L_iload_n eX3_strandsInAll_27 rfl ?_
        -- at 28: .ireturn
        exact V_ireturn eX3_strandsInAll_28 (by rw [← hQ]; exact ⟨rfl, rfl⟩)
      · subst ei
        refine L_iload_n eX3_strandsInAll_12 rfl ?_
        refine L_aload_n eX3_strandsInAll_13 rfl ?_
        refine L_getR eX3_strandsInAll_14 f_X3_18.g hp.k hp.r2 (by omega) ?_
        refine L_iload_n eX3_strandsInAll_17 rfl ?_
        refine L_iald eX3_strandsInAll_18 hp.k1 ?_
        refine V_iadd eX3_strandsInAll_19 ?_
        refine L_istore_n eX3_strandsInAll_20 (s_1 rfl rfl) ?_
        refine L_iinc eX3_strandsInAll_21 rfl (s_2 rfl rfl) ?_
        refine V_goto eX3_strandsInAll_24 ?_
        exact ih (j + 1) _ (by omega) (by omega) (by omega)
  exact LOOP (n + 1) 0 0 (by omega) (by omega) (by omega)
theorem p_X11_allStrands {G : gT} {n : Nat} (h0 : F 66 0 = n) (hn : n ≤ 12) : Pu G mX11_allStrands [.ref 66] F A (vi (sI (fun j => A 67 j) n)) := by
  refine L_ent [some (.ref 66), none, none] rfl ?_
  generalize hQ : (fun (r' : Option Value) (w : wT) => r' = some (vi (sI (fun j => A 67 j) n)) ∧ w = sw F A) = Q
  refine V_iconst eX11_allStrands_0 ?_
  refine L_istore_n eX11_allStrands_1 (s_1 rfl rfl) ?_
  refine V_iconst eX11_allStrands_2 ?_
  refine L_istore_n eX11_allStrands_3 (s_2 rfl rfl) ?_
  have LOOP : ∀ (r j : Nat) (i : Int), n < r + j → j ≤ n → i = j → V G mX11_allStrands Q 0 0 4 [some (.ref 66), some (vi (sI (fun j => A 67 j) j)), some (vi i)] [] (sw F A) := by
    intro r
    induction r with
    | zero => intro j i e1 e2; omega
    | succ r ih =>
      intro j i e1 e2 ei
      refine L_iload_n eX11_allStrands_4 rfl ?_
      refine L_aload_n eX11_allStrands_5 rfl ?_
      refine L_get eX11_allStrands_6 f_X11_121.g rfl rfl ?_
      -- at 9: .if_icmp .ge 18
      refine V_icmpge eX11_allStrands_9 (fun h2 => ?_) (fun h2 => ?_)
      · have e : j = n := by omega
        subst e
        refine L_iload_n eX11_allStrands_27 rfl ?_
        -- at 28: .ireturn
        exact V_ireturn eX11_allStrands_28 (by rw [← hQ]; exact ⟨rfl, rfl⟩)
      · subst ei
        refine L_iload_n eX11_allStrands_12 rfl ?_
        refine L_aload_n eX11_allStrands_13 rfl ?_
        refine L_getR (r := 67) eX11_allStrands_14 f_X11_7.g rfl rfl (by decide) ?_
        refine L_iload_n eX11_allStrands_17 rfl ?_
        refine L_iald eX11_allStrands_18 rfl ?_
        refine V_iadd eX11_allStrands_19 ?_
        refine L_istore_n eX11_allStrands_20 (s_1 rfl rfl) ?_
        refine L_iinc eX11_allStrands_21 rfl (s_2 rfl rfl) ?_
        refine V_goto eX11_allStrands_24 ?_
        exact ih (j + 1) _ (by omega) (by omega) (by omega)
  exact LOOP (n + 1) 0 0 (by omega) (by omega) (by omega)
def ctR (a b c d e f g h i j w : Int) : Int := if w = 0 then a else if w = 1 then b else if w = 2 then c else if w = 3 then d else if w = 4 then e else if w = 5 then f else if w = 6 then g else if w = 7 then h else if w = 8 then i else if w = 9 then j else -1002
theorem pr_count (h : Iv F A) {w : Int} (hw : i32 w) : Pr mX10_count mX11_count [vi w] F A := by
  unfold i32 at hw
  obtain ⟨n, T, en, eT, hn, hT⟩ := iv_nat h
  have e0 : F 66 0 = n := by rw [h.s.n]; exact en
  have es : sI (fun j => A 67 j) n = sI (fun j => A 3 j) n := sI_c n (fun j hj => h.s.str j (by omega) (by omega))
  refine ⟨vi (ctR (F 2 0) (F 2 1) (F 6 0) (F 6 1) (F 28 1) (sI (fun j => A 3 j) n) (F 59 0) (F 59 1) (F 63 0) (F 0 11) w), F, A, F, A, fun G => ?_, fun G => ?_, h, ty_v⟩
  · refine L_ent [some (.ref 0), some (vi w)] rfl ?_
    unfold ctR
    refine L_iload_n eX10_count_0 rfl ?_
    rcases (show (w < 0 ∨ 9 < w) ∨ w = 0 ∨ w = 1 ∨ w = 2 ∨ w = 3 ∨ w = 4 ∨ w = 5 ∨ w = 6 ∨ w = 7 ∨ w = 8 ∨ w = 9 by omega) with hsw | hsw | hsw | hsw | hsw | hsw | hsw | hsw | hsw | hsw | hsw
    · refine V_tabOut eX10_count_1 hsw rfl ?_
      refine L_sipush eX10_count_148 rfl ?_
      exact V_ireturn eX10_count_151 ((by first | (exfalso; omega) | (refine ⟨?_, rfl⟩; (repeat (first | rw [if_pos (by omega)] | rw [if_neg (by omega)])); done) | (refine ⟨?_, rfl⟩; (repeat (first | rw [if_pos (by omega)] | rw [if_neg (by omega)])); rw [Int.max_eq_right (by omega)])))
    · subst hsw
      refine V_tabIn eX10_count_1 (by omega) rfl rfl ?_
      refine L_aload_n eX10_count_56 rfl ?_
      refine L_getR (r := 1) eX10_count_57 f_X10_10.g rfl rfl (by decide) ?_
      refine L_getR (r := 2) eX10_count_60 f_X10_112 rfl rfl (by decide) ?_
      refine L_get eX10_count_63 f_X10_126.g rfl rfl ?_
      exact V_ireturn eX10_count_66 ((by first | (exfalso; omega) | (refine ⟨?_, rfl⟩; (repeat (first | rw [if_pos (by omega)] | rw [if_neg (by omega)])); done) | (refine ⟨?_, rfl⟩; (repeat (first | rw [if_pos (by omega)] | rw [if_neg (by omega)])); rw [Int.max_eq_right (by omega)])))
    · subst hsw
      refine V_tabIn eX10_count_1 (by omega) rfl rfl ?_
      refine L_aload_n eX10_count_67 rfl ?_
      refine L_getR (r := 1) eX10_count_68 f_X10_10.g rfl rfl (by decide) ?_
      refine L_getR (r := 2) eX10_count_71 f_X10_112 rfl rfl (by decide) ?_
      refine L_get eX10_count_74 f_X10_173.g rfl rfl ?_
      exact V_ireturn eX10_count_77 ((by first | (exfalso; omega) | (refine ⟨?_, rfl⟩; (repeat (first | rw [if_pos (by omega)] | rw [if_neg (by omega)])); done) | (refine ⟨?_, rfl⟩; (repeat (first | rw [if_pos (by omega)] | rw [if_neg (by omega)])); rw [Int.max_eq_right (by omega)])))
    · subst hsw
      refine V_tabIn eX10_count_1 (by omega) rfl rfl ?_
      refine L_aload_n eX10_count_78 rfl ?_
      refine L_getR (r := 1) eX10_count_79 f_X10_10.g rfl rfl (by decide) ?_
      refine L_getR (r := 6) eX10_count_82 f_X10_130 rfl rfl (by decide) ?_
      refine L_get eX10_count_85 f_X10_138.g rfl rfl ?_
      exact V_ireturn eX10_count_88 ((by first | (exfalso; omega) | (refine ⟨?_, rfl⟩; (repeat (first | rw [if_pos (by omega)] | rw [if_neg (by omega)])); done) | (refine ⟨?_, rfl⟩; (repeat (first | rw [if_pos (by omega)] | rw [if_neg (by omega)])); rw [Int.max_eq_right (by omega)])))
    · subst hsw
      refine V_tabIn eX10_count_1 (by omega) rfl rfl ?_
      refine L_aload_n eX10_count_89 rfl ?_
      refine L_getR (r := 1) eX10_count_90 f_X10_10.g rfl rfl (by decide) ?_
      refine L_getR (r := 6) eX10_count_93 f_X10_130 rfl rfl (by decide) ?_
      refine L_get eX10_count_96 f_X10_176.g rfl rfl ?_
      exact V_ireturn eX10_count_99 ((by first | (exfalso; omega) | (refine ⟨?_, rfl⟩; (repeat (first | rw [if_pos (by omega)] | rw [if_neg (by omega)])); done) | (refine ⟨?_, rfl⟩; (repeat (first | rw [if_pos (by omega)] | rw [if_neg (by omega)])); rw [Int.max_eq_right (by omega)])))
    · subst hsw
      refine V_tabIn eX10_count_1 (by omega) rfl rfl ?_
      refine L_aload_n eX10_count_100 rfl ?_
      refine L_getR (r := 28) eX10_count_101 f_X10_25.g rfl rfl (by decide) ?_
      refine L_get eX10_count_104 f_X10_97.g rfl rfl ?_
      exact V_ireturn eX10_count_107 ((by first | (exfalso; omega) | (refine ⟨?_, rfl⟩; (repeat (first | rw [if_pos (by omega)] | rw [if_neg (by omega)])); done) | (refine ⟨?_, rfl⟩; (repeat (first | rw [if_pos (by omega)] | rw [if_neg (by omega)])); rw [Int.max_eq_right (by omega)])))
    · subst hsw
      refine V_tabIn eX10_count_1 (by omega) rfl rfl ?_
      refine L_aload_n eX10_count_108 rfl ?_
      refine L_getR (r := 1) eX10_count_109 f_X10_10.g rfl rfl (by decide) ?_
      refine L_getR (r := 2) eX10_count_112 f_X10_112 rfl rfl (by decide) ?_
      refine C_v1 (p_X3_strandsInAll (Or.inl rfl) (n := n) en hn.2) v_X10_179 eX10_count_115 rfl rfl ?_
      exact V_ireturn eX10_count_118 ((by first | (exfalso; omega) | (refine ⟨?_, rfl⟩; (repeat (first | rw [if_pos (by omega)] | rw [if_neg (by omega)])); done) | (refine ⟨?_, rfl⟩; (repeat (first | rw [if_pos (by omega)] | rw [if_neg (by omega)])); rw [Int.max_eq_right (by omega)])))
    · subst hsw
      refine V_tabIn eX10_count_1 (by omega) rfl rfl ?_
      refine L_aload_n eX10_count_119 rfl ?_
      refine L_getR (r := 59) eX10_count_120 f_X10_63.g rfl rfl (by decide) ?_
      refine L_get eX10_count_123 f_X10_182.g rfl rfl ?_
      exact V_ireturn eX10_count_126 ((by first | (exfalso; omega) | (refine ⟨?_, rfl⟩; (repeat (first | rw [if_pos (by omega)] | rw [if_neg (by omega)])); done) | (refine ⟨?_, rfl⟩; (repeat (first | rw [if_pos (by omega)] | rw [if_neg (by omega)])); rw [Int.max_eq_right (by omega)])))
    · subst hsw
      refine V_tabIn eX10_count_1 (by omega) rfl rfl ?_
      refine L_aload_n eX10_count_127 rfl ?_
      refine L_getR (r := 59) eX10_count_128 f_X10_63.g rfl rfl (by decide) ?_
      refine L_get eX10_count_131 f_X10_185.g rfl rfl ?_
      exact V_ireturn eX10_count_134 ((by first | (exfalso; omega) | (refine ⟨?_, rfl⟩; (repeat (first | rw [if_pos (by omega)] | rw [if_neg (by omega)])); done) | (refine ⟨?_, rfl⟩; (repeat (first | rw [if_pos (by omega)] | rw [if_neg (by omega)])); rw [Int.max_eq_right (by omega)])))
    · subst hsw
      refine V_tabIn eX10_count_1 (by omega) rfl rfl ?_
      refine L_aload_n eX10_count_135 rfl ?_
      refine L_getR (r := 63) eX10_count_136 f_X10_70.g rfl rfl (by decide) ?_
      refine L_get eX10_count_139 f_X10_188.g rfl rfl ?_
      exact V_ireturn eX10_count_142 ((by first | (exfalso; omega) | (refine ⟨?_, rfl⟩; (repeat (first | rw [if_pos (by omega)] | rw [if_neg (by omega)])); done) | (refine ⟨?_, rfl⟩; (repeat (first | rw [if_pos (by omega)] | rw [if_neg (by omega)])); rw [Int.max_eq_right (by omega)])))
    · subst hsw
      refine V_tabIn eX10_count_1 (by omega) rfl rfl ?_
      refine L_aload_n eX10_count_143 rfl ?_
      refine L_get eX10_count_144 f_X10_74.g rfl rfl ?_
      exact V_ireturn eX10_count_147 ((by first | (exfalso; omega) | (refine ⟨?_, rfl⟩; (repeat (first | rw [if_pos (by omega)] | rw [if_neg (by omega)])); done) | (refine ⟨?_, rfl⟩; (repeat (first | rw [if_pos (by omega)] | rw [if_neg (by omega)])); rw [Int.max_eq_right (by omega)])))
  · rw [← es, ← h.s.n, ← h.s.len, ← h.s.T, ← h.s.cl, ← h.tx.1, ← h.hn.1, ← h.cn.1, ← h.fn.1, ← h.giv.1]
    refine L_ent [some (.ref 66), some (vi w)] rfl ?_
    unfold ctR
    refine L_iload_n eX11_count_0 rfl ?_
    rcases (show (w < 0 ∨ 9 < w) ∨ w = 0 ∨ w = 1 ∨ w = 2 ∨ w = 3 ∨ w = 4 ∨ w = 5 ∨ w = 6 ∨ w = 7 ∨ w = 8 ∨ w = 9 by omega) with hsw | hsw | hsw | hsw | hsw | hsw | hsw | hsw | hsw | hsw | hsw
    · refine V_tabOut eX11_count_1 hsw rfl ?_
      refine L_sipush eX11_count_106 rfl ?_
      exact V_ireturn eX11_count_109 ((by first | (exfalso; omega) | (refine ⟨?_, rfl⟩; (repeat (first | rw [if_pos (by omega)] | rw [if_neg (by omega)])); done) | (refine ⟨?_, rfl⟩; (repeat (first | rw [if_pos (by omega)] | rw [if_neg (by omega)])); rw [Int.max_eq_right (by omega)])))
    · subst hsw
      refine V_tabIn eX11_count_1 (by omega) rfl rfl ?_
      refine L_aload_n eX11_count_56 rfl ?_
      refine L_get eX11_count_57 f_X11_121.g rfl rfl ?_
      exact V_ireturn eX11_count_60 ((by first | (exfalso; omega) | (refine ⟨?_, rfl⟩; (repeat (first | rw [if_pos (by omega)] | rw [if_neg (by omega)])); done) | (refine ⟨?_, rfl⟩; (repeat (first | rw [if_pos (by omega)] | rw [if_neg (by omega)])); rw [Int.max_eq_right (by omega)])))
    · subst hsw
      refine V_tabIn eX11_count_1 (by omega) rfl rfl ?_
      refine L_aload_n eX11_count_61 rfl ?_
      refine L_get eX11_count_62 f_X11_124.g rfl rfl ?_
      exact V_ireturn eX11_count_65 ((by first | (exfalso; omega) | (refine ⟨?_, rfl⟩; (repeat (first | rw [if_pos (by omega)] | rw [if_neg (by omega)])); done) | (refine ⟨?_, rfl⟩; (repeat (first | rw [if_pos (by omega)] | rw [if_neg (by omega)])); rw [Int.max_eq_right (by omega)])))
    · subst hsw
      refine V_tabIn eX11_count_1 (by omega) rfl rfl ?_
      refine L_aload_n eX11_count_66 rfl ?_
      refine L_get eX11_count_67 f_X11_127.g rfl rfl ?_
      exact V_ireturn eX11_count_70 ((by first | (exfalso; omega) | (refine ⟨?_, rfl⟩; (repeat (first | rw [if_pos (by omega)] | rw [if_neg (by omega)])); done) | (refine ⟨?_, rfl⟩; (repeat (first | rw [if_pos (by omega)] | rw [if_neg (by omega)])); rw [Int.max_eq_right (by omega)])))
    · subst hsw
      refine V_tabIn eX11_count_1 (by omega) rfl rfl ?_
      refine L_aload_n eX11_count_71 rfl ?_
      refine L_get eX11_count_72 f_X11_130.g rfl rfl ?_
      exact V_ireturn eX11_count_75 ((by first | (exfalso; omega) | (refine ⟨?_, rfl⟩; (repeat (first | rw [if_pos (by omega)] | rw [if_neg (by omega)])); done) | (refine ⟨?_, rfl⟩; (repeat (first | rw [if_pos (by omega)] | rw [if_neg (by omega)])); rw [Int.max_eq_right (by omega)])))
    · subst hsw
      refine V_tabIn eX11_count_1 (by omega) rfl rfl ?_
      refine L_aload_n eX11_count_76 rfl ?_
      refine L_get eX11_count_77 f_X11_156.g rfl rfl ?_
      exact V_ireturn eX11_count_80 ((by first | (exfalso; omega) | (refine ⟨?_, rfl⟩; (repeat (first | rw [if_pos (by omega)] | rw [if_neg (by omega)])); done) | (refine ⟨?_, rfl⟩; (repeat (first | rw [if_pos (by omega)] | rw [if_neg (by omega)])); rw [Int.max_eq_right (by omega)])))
    · subst hsw
      refine V_tabIn eX11_count_1 (by omega) rfl rfl ?_
      refine L_aload_n eX11_count_81 rfl ?_
      refine C_v1 (p_X11_allStrands (n := n) e0 hn.2) v_X11_272 eX11_count_82 rfl rfl ?_
      exact V_ireturn eX11_count_85 ((by first | (exfalso; omega) | (refine ⟨?_, rfl⟩; (repeat (first | rw [if_pos (by omega)] | rw [if_neg (by omega)])); done) | (refine ⟨?_, rfl⟩; (repeat (first | rw [if_pos (by omega)] | rw [if_neg (by omega)])); rw [Int.max_eq_right (by omega)])))
    · subst hsw
      refine V_tabIn eX11_count_1 (by omega) rfl rfl ?_
      refine L_aload_n eX11_count_86 rfl ?_
      refine L_get eX11_count_87 f_X11_275.g rfl rfl ?_
      exact V_ireturn eX11_count_90 ((by first | (exfalso; omega) | (refine ⟨?_, rfl⟩; (repeat (first | rw [if_pos (by omega)] | rw [if_neg (by omega)])); done) | (refine ⟨?_, rfl⟩; (repeat (first | rw [if_pos (by omega)] | rw [if_neg (by omega)])); rw [Int.max_eq_right (by omega)])))
    · subst hsw
      refine V_tabIn eX11_count_1 (by omega) rfl rfl ?_
      refine L_aload_n eX11_count_91 rfl ?_
      refine L_get eX11_count_92 f_X11_278.g rfl rfl ?_
      exact V_ireturn eX11_count_95 ((by first | (exfalso; omega) | (refine ⟨?_, rfl⟩; (repeat (first | rw [if_pos (by omega)] | rw [if_neg (by omega)])); done) | (refine ⟨?_, rfl⟩; (repeat (first | rw [if_pos (by omega)] | rw [if_neg (by omega)])); rw [Int.max_eq_right (by omega)])))
    · subst hsw
      refine V_tabIn eX11_count_1 (by omega) rfl rfl ?_
      refine L_aload_n eX11_count_96 rfl ?_
      refine L_get eX11_count_97 f_X11_281.g rfl rfl ?_
      exact V_ireturn eX11_count_100 ((by first | (exfalso; omega) | (refine ⟨?_, rfl⟩; (repeat (first | rw [if_pos (by omega)] | rw [if_neg (by omega)])); done) | (refine ⟨?_, rfl⟩; (repeat (first | rw [if_pos (by omega)] | rw [if_neg (by omega)])); rw [Int.max_eq_right (by omega)])))
    · subst hsw
      refine V_tabIn eX11_count_1 (by omega) rfl rfl ?_
      refine L_aload_n eX11_count_101 rfl ?_
      refine L_get eX11_count_102 f_X11_133.g rfl rfl ?_
      exact V_ireturn eX11_count_105 ((by first | (exfalso; omega) | (refine ⟨?_, rfl⟩; (repeat (first | rw [if_pos (by omega)] | rw [if_neg (by omega)])); done) | (refine ⟨?_, rfl⟩; (repeat (first | rw [if_pos (by omega)] | rw [if_neg (by omega)])); rw [Int.max_eq_right (by omega)])))
theorem lawB {w : Int} (h : 0 ≤ w ∧ w ≤ 4) : ((w = 2 ∨ w = 4 → (stV 3).getD w.toNat 0 = 1) ∧ (w = 3 → (stV 3).getD w.toNat 0 = 10) ∧ (w = 0 ∨ w = 1 → (stV 3).getD w.toNat 0 = 0)) ∧ (w = 2 → (stV 4).getD w.toNat 0 = 8) ∧ (w = 3 → (stV 4).getD w.toNat 0 = 2000) ∧ (w = 4 → (stV 4).getD w.toNat 0 = 30000) ∧ (w = 0 ∨ w = 1 → (stV 4).getD w.toNat 0 = 50) := by
  rcases (show w = 0 ∨ w = 1 ∨ w = 2 ∨ w = 3 ∨ w = 4 by omega) with e | e | e | e | e <;> subst e <;> decide
theorem pr_law (h : Iv F A) {w v : Int} (hw : i32 w) (hv : i32 v) : Pr mX10_law mX11_law [vi w, vi v] F A := by
  unfold i32 at hw hv
  by_cases h0 : 0 ≤ w ∧ w ≤ 4
  · have hb := lawB h0
    by_cases h1 : (stV 3).getD w.toNat 0 ≤ v ∧ v ≤ (stV 4).getD w.toNat 0
    · have e72 : sA A 9 (uI (A 9) w v) 72 = A 72 := sA_ne (by decide)
      have ew : A 72 w = A 9 w := h.s.lw w (by omega) (by omega)
      refine ⟨vi (A 9 w), uF (uF F 0 17 0) 52 0 (-1), sA A 9 (uI (A 9) w v), uF (uF (uF F 0 17 0) 52 0 (-1)) 66 40 (-1), sA (sA A 9 (uI (A 9) w v)) 72 (uI (A 72) w v), fun G => ?_, fun G => ?_, ?_, ty_v⟩
      · refine L_ent [some (.ref 0), some (vi w), some (vi v), none] rfl ?_
        refine L_iload_n eX10_law_0 rfl ?_
        refine V_iflt eX10_law_1 (fun h1 => ?_) (fun h1 => ?_)
        · refine L_sipush eX10_law_27 rfl ?_
          exact V_ireturn eX10_law_30 ((by first | (exfalso; omega) | exact ⟨rfl, rfl⟩))
        · refine L_iload_n eX10_law_4 rfl ?_
          refine V_iconst eX10_law_5 ?_
          refine V_icmpge eX10_law_6 (fun h6 => ?_) (fun h6 => ?_)
          · refine L_sipush eX10_law_27 rfl ?_
            exact V_ireturn eX10_law_30 ((by first | (exfalso; omega) | exact ⟨rfl, rfl⟩))
          · refine L_iload_n eX10_law_9 rfl ?_
            refine L_gets (j := 3) eX10_law_10 z_X10_160 ?_
            refine L_iload_n eX10_law_13 rfl ?_
            refine L_ialdS (j := 3) eX10_law_14 (by decide) ?_ (by show 0 ≤ _ ∧ _ < ((5 : Nat) : Int); omega)
            refine V_icmplt eX10_law_15 (fun h15 => ?_) (fun h15 => ?_)
            · refine L_sipush eX10_law_27 rfl ?_
              exact V_ireturn eX10_law_30 ((by first | (exfalso; omega) | exact ⟨rfl, rfl⟩))
            · refine L_iload_n eX10_law_18 rfl ?_
              refine L_gets (j := 4) eX10_law_19 z_X10_163 ?_
              refine L_iload_n eX10_law_22 rfl ?_
              refine L_ialdS (j := 4) eX10_law_23 (by decide) ?_ (by show 0 ≤ _ ∧ _ < ((5 : Nat) : Int); omega)
              refine V_icmple eX10_law_24 (fun h24 => ?_) (fun h24 => ?_)
              · refine L_aload_n eX10_law_31 rfl ?_
                refine L_getR (r := 1) eX10_law_32 f_X10_10.g rfl rfl (by decide) ?_
                refine L_getR (r := 9) eX10_law_35 f_X10_166 rfl rfl (by decide) ?_
                refine L_iload_n eX10_law_38 rfl ?_
                refine L_iald eX10_law_39 rfl ?_
                refine L_istore_n eX10_law_40 (s_3 rfl rfl) ?_
                refine L_aload_n eX10_law_41 rfl ?_
                refine L_getR (r := 1) eX10_law_42 f_X10_10.g rfl rfl (by decide) ?_
                refine L_getR (r := 9) eX10_law_45 f_X10_166 rfl rfl (by decide) ?_
                refine L_iload_n eX10_law_48 rfl ?_
                refine L_iload_n eX10_law_49 rfl ?_
                refine L_iast eX10_law_50 rfl ?_
                refine L_aload_n eX10_law_51 rfl ?_
                refine C_v0 p_X10_setChanged v_X10_123 eX10_law_52 rfl rfl ?_
                refine L_iload_n eX10_law_55 rfl ?_
                exact V_ireturn eX10_law_56 ((by first | (exfalso; omega) | exact ⟨rfl, rfl⟩))
              · refine L_sipush eX10_law_27 rfl ?_
                exact V_ireturn eX10_law_30 ((by first | (exfalso; omega) | exact ⟨rfl, rfl⟩))
      · rw [← ew]
        refine L_ent [some (.ref 66), some (vi w), some (vi v), none, none] rfl ?_
        generalize sA A 9 (uI (A 9) w v) = A1 at *
        rw [← e72]
        refine L_iload_n eX11_law_0 rfl ?_
        refine V_i2l eX11_law_1 ?_
        refine L_lconst0 eX11_law_2 ?_
        refine L_ldc2 eX11_law_3 k_X11_260 ?_
        refine C_s1 (p_X11_in (by omega) (by omega) (by omega)) v_X11_152 eX11_law_6 rfl ?_
        refine V_ifneB eX11_law_9 (fun h9 => ?_) (fun h9 => ?_)
        · refine L_iload_n eX11_law_16 rfl ?_
          refine V_iconst eX11_law_17 ?_
          refine V_icmpeq eX11_law_18 (fun h18 => ?_) (fun h18 => ?_)
          · refine V_iconst eX11_law_26 ?_
            refine V_goto eX11_law_27 ?_
            refine L_istore_n eX11_law_41 (s_3 rfl rfl) ?_
            refine L_iload_n eX11_law_42 rfl ?_
            refine V_i2l eX11_law_43 ?_
            refine L_iload_n eX11_law_44 rfl ?_
            refine V_i2l eX11_law_45 ?_
            refine L_iload_n eX11_law_46 rfl ?_
            refine V_iconst eX11_law_47 ?_
            refine V_icmpne eX11_law_48 (fun h48 => ?_) (fun h48 => ?_)
            · refine L_iload_n eX11_law_57 rfl ?_
              refine V_iconst eX11_law_58 ?_
              refine V_icmpne eX11_law_59 (fun h59 => ?_) (fun h59 => ?_)
              · refine L_iload_n eX11_law_68 rfl ?_
                refine V_iconst eX11_law_69 ?_
                refine V_icmpne eX11_law_70 (fun h70 => ?_) (fun h70 => ?_)
                · refine L_ldc2 eX11_law_79 k_X11_266 ?_
                  refine C_s1 (p_X11_in (by omega) (by omega) (by omega)) v_X11_152 eX11_law_82 rfl ?_
                  refine V_ifneB eX11_law_85 (fun h85 => ?_) (fun h85 => ?_)
                  · refine L_aload_n eX11_law_92 rfl ?_
                    refine L_getR (r := 72) eX11_law_93 f_X11_25.g rfl rfl (by decide) ?_
                    refine L_iload_n eX11_law_96 rfl ?_
                    refine L_iald eX11_law_97 rfl ?_
                    refine L_istore eX11_law_98 (s_4 rfl rfl) ?_
                    refine L_aload_n eX11_law_100 rfl ?_
                    refine L_getR (r := 72) eX11_law_101 f_X11_25.g rfl rfl (by decide) ?_
                    refine L_iload_n eX11_law_104 rfl ?_
                    refine L_iload_n eX11_law_105 rfl ?_
                    refine L_iast eX11_law_106 rfl ?_
                    refine L_aload_n eX11_law_107 rfl ?_
                    refine V_iconst eX11_law_108 ?_
                    refine L_put eX11_law_109 f_X11_72 rfl rfl ?_
                    refine L_iload eX11_law_112 rfl ?_
                    exact V_ireturn eX11_law_114 ((by first | (exfalso; omega) | exact ⟨rfl, rfl⟩))
                  · refine L_sipush eX11_law_88 rfl ?_
                    exact V_ireturn eX11_law_91 ((by first | (exfalso; omega) | exact ⟨rfl, rfl⟩))
                · refine L_ldc2 eX11_law_73 k_X11_264 ?_
                  refine V_goto eX11_law_76 ?_
                  refine C_s1 (p_X11_in (by omega) (by omega) (by omega)) v_X11_152 eX11_law_82 rfl ?_
                  refine V_ifneB eX11_law_85 (fun h85 => ?_) (fun h85 => ?_)
                  · refine L_aload_n eX11_law_92 rfl ?_
                    refine L_getR (r := 72) eX11_law_93 f_X11_25.g rfl rfl (by decide) ?_
                    refine L_iload_n eX11_law_96 rfl ?_
                    refine L_iald eX11_law_97 rfl ?_
                    refine L_istore eX11_law_98 (s_4 rfl rfl) ?_
                    refine L_aload_n eX11_law_100 rfl ?_
                    refine L_getR (r := 72) eX11_law_101 f_X11_25.g rfl rfl (by decide) ?_
                    refine L_iload_n eX11_law_104 rfl ?_
                    refine L_iload_n eX11_law_105 rfl ?_
                    refine L_iast eX11_law_106 rfl ?_
                    refine L_aload_n eX11_law_107 rfl ?_
                    refine V_iconst eX11_law_108 ?_
                    refine L_put eX11_law_109 f_X11_72 rfl rfl ?_
                    refine L_iload eX11_law_112 rfl ?_
                    exact V_ireturn eX11_law_114 ((by first | (exfalso; omega) | exact ⟨rfl, rfl⟩))
                  · refine L_sipush eX11_law_88 rfl ?_
                    exact V_ireturn eX11_law_91 ((by first | (exfalso; omega) | exact ⟨rfl, rfl⟩))
              · refine L_ldc2 eX11_law_62 k_X11_262 ?_
                refine V_goto eX11_law_65 ?_
                refine C_s1 (p_X11_in (by omega) (by omega) (by omega)) v_X11_152 eX11_law_82 rfl ?_
                refine V_ifneB eX11_law_85 (fun h85 => ?_) (fun h85 => ?_)
                · refine L_aload_n eX11_law_92 rfl ?_
                  refine L_getR (r := 72) eX11_law_93 f_X11_25.g rfl rfl (by decide) ?_
                  refine L_iload_n eX11_law_96 rfl ?_
                  refine L_iald eX11_law_97 rfl ?_
                  refine L_istore eX11_law_98 (s_4 rfl rfl) ?_
                  refine L_aload_n eX11_law_100 rfl ?_
                  refine L_getR (r := 72) eX11_law_101 f_X11_25.g rfl rfl (by decide) ?_
                  refine L_iload_n eX11_law_104 rfl ?_
                  refine L_iload_n eX11_law_105 rfl ?_
                  refine L_iast eX11_law_106 rfl ?_
                  refine L_aload_n eX11_law_107 rfl ?_
                  refine V_iconst eX11_law_108 ?_
                  refine L_put eX11_law_109 f_X11_72 rfl rfl ?_
                  refine L_iload eX11_law_112 rfl ?_
                  exact V_ireturn eX11_law_114 ((by first | (exfalso; omega) | exact ⟨rfl, rfl⟩))
                · refine L_sipush eX11_law_88 rfl ?_
                  exact V_ireturn eX11_law_91 ((by first | (exfalso; omega) | exact ⟨rfl, rfl⟩))
            · refine L_ldc2 eX11_law_51 k_X11_150 ?_
              refine V_goto eX11_law_54 ?_
              refine C_s1 (p_X11_in (by omega) (by omega) (by omega)) v_X11_152 eX11_law_82 rfl ?_
              refine V_ifneB eX11_law_85 (fun h85 => ?_) (fun h85 => ?_)
              · refine L_aload_n eX11_law_92 rfl ?_
                refine L_getR (r := 72) eX11_law_93 f_X11_25.g rfl rfl (by decide) ?_
                refine L_iload_n eX11_law_96 rfl ?_
                refine L_iald eX11_law_97 rfl ?_
                refine L_istore eX11_law_98 (s_4 rfl rfl) ?_
                refine L_aload_n eX11_law_100 rfl ?_
                refine L_getR (r := 72) eX11_law_101 f_X11_25.g rfl rfl (by decide) ?_
                refine L_iload_n eX11_law_104 rfl ?_
                refine L_iload_n eX11_law_105 rfl ?_
                refine L_iast eX11_law_106 rfl ?_
                refine L_aload_n eX11_law_107 rfl ?_
                refine V_iconst eX11_law_108 ?_
                refine L_put eX11_law_109 f_X11_72 rfl rfl ?_
                refine L_iload eX11_law_112 rfl ?_
                exact V_ireturn eX11_law_114 ((by first | (exfalso; omega) | exact ⟨rfl, rfl⟩))
              · refine L_sipush eX11_law_88 rfl ?_
                exact V_ireturn eX11_law_91 ((by first | (exfalso; omega) | exact ⟨rfl, rfl⟩))
          · refine L_iload_n eX11_law_21 rfl ?_
            refine V_iconst eX11_law_22 ?_
            refine V_icmpne eX11_law_23 (fun h23 => ?_) (fun h23 => ?_)
            · refine L_iload_n eX11_law_30 rfl ?_
              refine V_iconst eX11_law_31 ?_
              refine V_icmpne eX11_law_32 (fun h32 => ?_) (fun h32 => ?_)
              · refine V_iconst eX11_law_40 ?_
                refine L_istore_n eX11_law_41 (s_3 rfl rfl) ?_
                refine L_iload_n eX11_law_42 rfl ?_
                refine V_i2l eX11_law_43 ?_
                refine L_iload_n eX11_law_44 rfl ?_
                refine V_i2l eX11_law_45 ?_
                refine L_iload_n eX11_law_46 rfl ?_
                refine V_iconst eX11_law_47 ?_
                refine V_icmpne eX11_law_48 (fun h48 => ?_) (fun h48 => ?_)
                · refine L_iload_n eX11_law_57 rfl ?_
                  refine V_iconst eX11_law_58 ?_
                  refine V_icmpne eX11_law_59 (fun h59 => ?_) (fun h59 => ?_)
                  · refine L_iload_n eX11_law_68 rfl ?_
                    refine V_iconst eX11_law_69 ?_
                    refine V_icmpne eX11_law_70 (fun h70 => ?_) (fun h70 => ?_)
                    · refine L_ldc2 eX11_law_79 k_X11_266 ?_
                      refine C_s1 (p_X11_in (by omega) (by omega) (by omega)) v_X11_152 eX11_law_82 rfl ?_
                      refine V_ifneB eX11_law_85 (fun h85 => ?_) (fun h85 => ?_)
                      · refine L_aload_n eX11_law_92 rfl ?_
                        refine L_getR (r := 72) eX11_law_93 f_X11_25.g rfl rfl (by decide) ?_
                        refine L_iload_n eX11_law_96 rfl ?_
                        refine L_iald eX11_law_97 rfl ?_
                        refine L_istore eX11_law_98 (s_4 rfl rfl) ?_
                        refine L_aload_n eX11_law_100 rfl ?_
                        refine L_getR (r := 72) eX11_law_101 f_X11_25.g rfl rfl (by decide) ?_
                        refine L_iload_n eX11_law_104 rfl ?_
                        refine L_iload_n eX11_law_105 rfl ?_
                        refine L_iast eX11_law_106 rfl ?_
                        refine L_aload_n eX11_law_107 rfl ?_
                        refine V_iconst eX11_law_108 ?_
                        refine L_put eX11_law_109 f_X11_72 rfl rfl ?_
                        refine L_iload eX11_law_112 rfl ?_
                        exact V_ireturn eX11_law_114 ((by first | (exfalso; omega) | exact ⟨rfl, rfl⟩))
                      · refine L_sipush eX11_law_88 rfl ?_
                        exact V_ireturn eX11_law_91 ((by first | (exfalso; omega) | exact ⟨rfl, rfl⟩))
                    · refine L_ldc2 eX11_law_73 k_X11_264 ?_
                      refine V_goto eX11_law_76 ?_
                      refine C_s1 (p_X11_in (by omega) (by omega) (by omega)) v_X11_152 eX11_law_82 rfl ?_
                      refine V_ifneB eX11_law_85 (fun h85 => ?_) (fun h85 => ?_)
                      · refine L_aload_n eX11_law_92 rfl ?_
                        refine L_getR (r := 72) eX11_law_93 f_X11_25.g rfl rfl (by decide) ?_
                        refine L_iload_n eX11_law_96 rfl ?_
                        refine L_iald eX11_law_97 rfl ?_
                        refine L_istore eX11_law_98 (s_4 rfl rfl) ?_
                        refine L_aload_n eX11_law_100 rfl ?_
                        refine L_getR (r := 72) eX11_law_101 f_X11_25.g rfl rfl (by decide) ?_
                        refine L_iload_n eX11_law_104 rfl ?_
                        refine L_iload_n eX11_law_105 rfl ?_
                        refine L_iast eX11_law_106 rfl ?_
                        refine L_aload_n eX11_law_107 rfl ?_
                        refine V_iconst eX11_law_108 ?_
                        refine L_put eX11_law_109 f_X11_72 rfl rfl ?_
                        refine L_iload eX11_law_112 rfl ?_
                        exact V_ireturn eX11_law_114 ((by first | (exfalso; omega) | exact ⟨rfl, rfl⟩))
                      · refine L_sipush eX11_law_88 rfl ?_
                        exact V_ireturn eX11_law_91 ((by first | (exfalso; omega) | exact ⟨rfl, rfl⟩))
                  · refine L_ldc2 eX11_law_62 k_X11_262 ?_
                    refine V_goto eX11_law_65 ?_
                    refine C_s1 (p_X11_in (by omega) (by omega) (by omega)) v_X11_152 eX11_law_82 rfl ?_
                    refine V_ifneB eX11_law_85 (fun h85 => ?_) (fun h85 => ?_)
                    · refine L_aload_n eX11_law_92 rfl ?_
                      refine L_getR (r := 72) eX11_law_93 f_X11_25.g rfl rfl (by decide) ?_
                      refine L_iload_n eX11_law_96 rfl ?_
                      refine L_iald eX11_law_97 rfl ?_
                      refine L_istore eX11_law_98 (s_4 rfl rfl) ?_
                      refine L_aload_n eX11_law_100 rfl ?_
                      refine L_getR (r := 72) eX11_law_101 f_X11_25.g rfl rfl (by decide) ?_
                      refine L_iload_n eX11_law_104 rfl ?_
                      refine L_iload_n eX11_law_105 rfl ?_
                      refine L_iast eX11_law_106 rfl ?_
                      refine L_aload_n eX11_law_107 rfl ?_
                      refine V_iconst eX11_law_108 ?_
                      refine L_put eX11_law_109 f_X11_72 rfl rfl ?_
                      refine L_iload eX11_law_112 rfl ?_
                      exact V_ireturn eX11_law_114 ((by first | (exfalso; omega) | exact ⟨rfl, rfl⟩))
                    · refine L_sipush eX11_law_88 rfl ?_
                      exact V_ireturn eX11_law_91 ((by first | (exfalso; omega) | exact ⟨rfl, rfl⟩))
                · refine L_ldc2 eX11_law_51 k_X11_150 ?_
                  refine V_goto eX11_law_54 ?_
                  refine C_s1 (p_X11_in (by omega) (by omega) (by omega)) v_X11_152 eX11_law_82 rfl ?_
                  refine V_ifneB eX11_law_85 (fun h85 => ?_) (fun h85 => ?_)
                  · refine L_aload_n eX11_law_92 rfl ?_
                    refine L_getR (r := 72) eX11_law_93 f_X11_25.g rfl rfl (by decide) ?_
                    refine L_iload_n eX11_law_96 rfl ?_
                    refine L_iald eX11_law_97 rfl ?_
                    refine L_istore eX11_law_98 (s_4 rfl rfl) ?_
                    refine L_aload_n eX11_law_100 rfl ?_
                    refine L_getR (r := 72) eX11_law_101 f_X11_25.g rfl rfl (by decide) ?_
                    refine L_iload_n eX11_law_104 rfl ?_
                    refine L_iload_n eX11_law_105 rfl ?_
                    refine L_iast eX11_law_106 rfl ?_
                    refine L_aload_n eX11_law_107 rfl ?_
                    refine V_iconst eX11_law_108 ?_
                    refine L_put eX11_law_109 f_X11_72 rfl rfl ?_
                    refine L_iload eX11_law_112 rfl ?_
                    exact V_ireturn eX11_law_114 ((by first | (exfalso; omega) | exact ⟨rfl, rfl⟩))
                  · refine L_sipush eX11_law_88 rfl ?_
                    exact V_ireturn eX11_law_91 ((by first | (exfalso; omega) | exact ⟨rfl, rfl⟩))
              · refine L_bipush eX11_law_35 rfl ?_
                refine V_goto eX11_law_37 ?_
                refine L_istore_n eX11_law_41 (s_3 rfl rfl) ?_
                refine L_iload_n eX11_law_42 rfl ?_
                refine V_i2l eX11_law_43 ?_
                refine L_iload_n eX11_law_44 rfl ?_
                refine V_i2l eX11_law_45 ?_
                refine L_iload_n eX11_law_46 rfl ?_
                refine V_iconst eX11_law_47 ?_
                refine V_icmpne eX11_law_48 (fun h48 => ?_) (fun h48 => ?_)
                · refine L_iload_n eX11_law_57 rfl ?_
                  refine V_iconst eX11_law_58 ?_
                  refine V_icmpne eX11_law_59 (fun h59 => ?_) (fun h59 => ?_)
                  · refine L_iload_n eX11_law_68 rfl ?_
                    refine V_iconst eX11_law_69 ?_
                    refine V_icmpne eX11_law_70 (fun h70 => ?_) (fun h70 => ?_)
                    · refine L_ldc2 eX11_law_79 k_X11_266 ?_
                      refine C_s1 (p_X11_in (by omega) (by omega) (by omega)) v_X11_152 eX11_law_82 rfl ?_
                      refine V_ifneB eX11_law_85 (fun h85 => ?_) (fun h85 => ?_)
                      · refine L_aload_n eX11_law_92 rfl ?_
                        refine L_getR (r := 72) eX11_law_93 f_X11_25.g rfl rfl (by decide) ?_
                        refine L_iload_n eX11_law_96 rfl ?_
                        refine L_iald eX11_law_97 rfl ?_
                        refine L_istore eX11_law_98 (s_4 rfl rfl) ?_
                        refine L_aload_n eX11_law_100 rfl ?_
                        refine L_getR (r := 72) eX11_law_101 f_X11_25.g rfl rfl (by decide) ?_
                        refine L_iload_n eX11_law_104 rfl ?_
                        refine L_iload_n eX11_law_105 rfl ?_
                        refine L_iast eX11_law_106 rfl ?_
                        refine L_aload_n eX11_law_107 rfl ?_
                        refine V_iconst eX11_law_108 ?_
                        refine L_put eX11_law_109 f_X11_72 rfl rfl ?_
                        refine L_iload eX11_law_112 rfl ?_
                        exact V_ireturn eX11_law_114 ((by first | (exfalso; omega) | exact ⟨rfl, rfl⟩))
                      · refine L_sipush eX11_law_88 rfl ?_
                        exact V_ireturn eX11_law_91 ((by first | (exfalso; omega) | exact ⟨rfl, rfl⟩))
                    · refine L_ldc2 eX11_law_73 k_X11_264 ?_
                      refine V_goto eX11_law_76 ?_
                      refine C_s1 (p_X11_in (by omega) (by omega) (by omega)) v_X11_152 eX11_law_82 rfl ?_
                      refine V_ifneB eX11_law_85 (fun h85 => ?_) (fun h85 => ?_)
                      · refine L_aload_n eX11_law_92 rfl ?_
                        refine L_getR (r := 72) eX11_law_93 f_X11_25.g rfl rfl (by decide) ?_
                        refine L_iload_n eX11_law_96 rfl ?_
                        refine L_iald eX11_law_97 rfl ?_
                        refine L_istore eX11_law_98 (s_4 rfl rfl) ?_
                        refine L_aload_n eX11_law_100 rfl ?_
                        refine L_getR (r := 72) eX11_law_101 f_X11_25.g rfl rfl (by decide) ?_
                        refine L_iload_n eX11_law_104 rfl ?_
                        refine L_iload_n eX11_law_105 rfl ?_
                        refine L_iast eX11_law_106 rfl ?_
                        refine L_aload_n eX11_law_107 rfl ?_
                        refine V_iconst eX11_law_108 ?_
                        refine L_put eX11_law_109 f_X11_72 rfl rfl ?_
                        refine L_iload eX11_law_112 rfl ?_
                        exact V_ireturn eX11_law_114 ((by first | (exfalso; omega) | exact ⟨rfl, rfl⟩))
                      · refine L_sipush eX11_law_88 rfl ?_
                        exact V_ireturn eX11_law_91 ((by first | (exfalso; omega) | exact ⟨rfl, rfl⟩))
                  · refine L_ldc2 eX11_law_62 k_X11_262 ?_
                    refine V_goto eX11_law_65 ?_
                    refine C_s1 (p_X11_in (by omega) (by omega) (by omega)) v_X11_152 eX11_law_82 rfl ?_
                    refine V_ifneB eX11_law_85 (fun h85 => ?_) (fun h85 => ?_)
                    · refine L_aload_n eX11_law_92 rfl ?_
                      refine L_getR (r := 72) eX11_law_93 f_X11_25.g rfl rfl (by decide) ?_
                      refine L_iload_n eX11_law_96 rfl ?_
                      refine L_iald eX11_law_97 rfl ?_
                      refine L_istore eX11_law_98 (s_4 rfl rfl) ?_
                      refine L_aload_n eX11_law_100 rfl ?_
                      refine L_getR (r := 72) eX11_law_101 f_X11_25.g rfl rfl (by decide) ?_
                      refine L_iload_n eX11_law_104 rfl ?_
                      refine L_iload_n eX11_law_105 rfl ?_
                      refine L_iast eX11_law_106 rfl ?_
                      refine L_aload_n eX11_law_107 rfl ?_
                      refine V_iconst eX11_law_108 ?_
                      refine L_put eX11_law_109 f_X11_72 rfl rfl ?_
                      refine L_iload eX11_law_112 rfl ?_
                      exact V_ireturn eX11_law_114 ((by first | (exfalso; omega) | exact ⟨rfl, rfl⟩))
                    · refine L_sipush eX11_law_88 rfl ?_
                      exact V_ireturn eX11_law_91 ((by first | (exfalso; omega) | exact ⟨rfl, rfl⟩))
                · refine L_ldc2 eX11_law_51 k_X11_150 ?_
                  refine V_goto eX11_law_54 ?_
                  refine C_s1 (p_X11_in (by omega) (by omega) (by omega)) v_X11_152 eX11_law_82 rfl ?_
                  refine V_ifneB eX11_law_85 (fun h85 => ?_) (fun h85 => ?_)
                  · refine L_aload_n eX11_law_92 rfl ?_
                    refine L_getR (r := 72) eX11_law_93 f_X11_25.g rfl rfl (by decide) ?_
                    refine L_iload_n eX11_law_96 rfl ?_
                    refine L_iald eX11_law_97 rfl ?_
                    refine L_istore eX11_law_98 (s_4 rfl rfl) ?_
                    refine L_aload_n eX11_law_100 rfl ?_
                    refine L_getR (r := 72) eX11_law_101 f_X11_25.g rfl rfl (by decide) ?_
                    refine L_iload_n eX11_law_104 rfl ?_
                    refine L_iload_n eX11_law_105 rfl ?_
                    refine L_iast eX11_law_106 rfl ?_
                    refine L_aload_n eX11_law_107 rfl ?_
                    refine V_iconst eX11_law_108 ?_
                    refine L_put eX11_law_109 f_X11_72 rfl rfl ?_
                    refine L_iload eX11_law_112 rfl ?_
                    exact V_ireturn eX11_law_114 ((by first | (exfalso; omega) | exact ⟨rfl, rfl⟩))
                  · refine L_sipush eX11_law_88 rfl ?_
                    exact V_ireturn eX11_law_91 ((by first | (exfalso; omega) | exact ⟨rfl, rfl⟩))
            · refine V_iconst eX11_law_26 ?_
              refine V_goto eX11_law_27 ?_
              refine L_istore_n eX11_law_41 (s_3 rfl rfl) ?_
              refine L_iload_n eX11_law_42 rfl ?_
              refine V_i2l eX11_law_43 ?_
              refine L_iload_n eX11_law_44 rfl ?_
              refine V_i2l eX11_law_45 ?_
              refine L_iload_n eX11_law_46 rfl ?_
              refine V_iconst eX11_law_47 ?_
              refine V_icmpne eX11_law_48 (fun h48 => ?_) (fun h48 => ?_)
              · refine L_iload_n eX11_law_57 rfl ?_
                refine V_iconst eX11_law_58 ?_
                refine V_icmpne eX11_law_59 (fun h59 => ?_) (fun h59 => ?_)
                · refine L_iload_n eX11_law_68 rfl ?_
                  refine V_iconst eX11_law_69 ?_
                  refine V_icmpne eX11_law_70 (fun h70 => ?_) (fun h70 => ?_)
                  · refine L_ldc2 eX11_law_79 k_X11_266 ?_
                    refine C_s1 (p_X11_in (by omega) (by omega) (by omega)) v_X11_152 eX11_law_82 rfl ?_
                    refine V_ifneB eX11_law_85 (fun h85 => ?_) (fun h85 => ?_)
                    · refine L_aload_n eX11_law_92 rfl ?_
                      refine L_getR (r := 72) eX11_law_93 f_X11_25.g rfl rfl (by decide) ?_
                      refine L_iload_n eX11_law_96 rfl ?_
                      refine L_iald eX11_law_97 rfl ?_
                      refine L_istore eX11_law_98 (s_4 rfl rfl) ?_
                      refine L_aload_n eX11_law_100 rfl ?_
                      refine L_getR (r := 72) eX11_law_101 f_X11_25.g rfl rfl (by decide) ?_
                      refine L_iload_n eX11_law_104 rfl ?_
                      refine L_iload_n eX11_law_105 rfl ?_
                      refine L_iast eX11_law_106 rfl ?_
                      refine L_aload_n eX11_law_107 rfl ?_
                      refine V_iconst eX11_law_108 ?_
                      refine L_put eX11_law_109 f_X11_72 rfl rfl ?_
                      refine L_iload eX11_law_112 rfl ?_
                      exact V_ireturn eX11_law_114 ((by first | (exfalso; omega) | exact ⟨rfl, rfl⟩))
                    · refine L_sipush eX11_law_88 rfl ?_
                      exact V_ireturn eX11_law_91 ((by first | (exfalso; omega) | exact ⟨rfl, rfl⟩))
                  · refine L_ldc2 eX11_law_73 k_X11_264 ?_
                    refine V_goto eX11_law_76 ?_
                    refine C_s1 (p_X11_in (by omega) (by omega) (by omega)) v_X11_152 eX11_law_82 rfl ?_
                    refine V_ifneB eX11_law_85 (fun h85 => ?_) (fun h85 => ?_)
                    · refine L_aload_n eX11_law_92 rfl ?_
                      refine L_getR (r := 72) eX11_law_93 f_X11_25.g rfl rfl (by decide) ?_
                      refine L_iload_n eX11_law_96 rfl ?_
                      refine L_iald eX11_law_97 rfl ?_
                      refine L_istore eX11_law_98 (s_4 rfl rfl) ?_
                      refine L_aload_n eX11_law_100 rfl ?_
                      refine L_getR (r := 72) eX11_law_101 f_X11_25.g rfl rfl (by decide) ?_
                      refine L_iload_n eX11_law_104 rfl ?_
                      refine L_iload_n eX11_law_105 rfl ?_
                      refine L_iast eX11_law_106 rfl ?_
                      refine L_aload_n eX11_law_107 rfl ?_
                      refine V_iconst eX11_law_108 ?_
                      refine L_put eX11_law_109 f_X11_72 rfl rfl ?_
                      refine L_iload eX11_law_112 rfl ?_
                      exact V_ireturn eX11_law_114 ((by first | (exfalso; omega) | exact ⟨rfl, rfl⟩))
                    · refine L_sipush eX11_law_88 rfl ?_
                      exact V_ireturn eX11_law_91 ((by first | (exfalso; omega) | exact ⟨rfl, rfl⟩))
                · refine L_ldc2 eX11_law_62 k_X11_262 ?_
                  refine V_goto eX11_law_65 ?_
                  refine C_s1 (p_X11_in (by omega) (by omega) (by omega)) v_X11_152 eX11_law_82 rfl ?_
                  refine V_ifneB eX11_law_85 (fun h85 => ?_) (fun h85 => ?_)
                  · refine L_aload_n eX11_law_92 rfl ?_
                    refine L_getR (r := 72) eX11_law_93 f_X11_25.g rfl rfl (by decide) ?_
                    refine L_iload_n eX11_law_96 rfl ?_
                    refine L_iald eX11_law_97 rfl ?_
                    refine L_istore eX11_law_98 (s_4 rfl rfl) ?_
                    refine L_aload_n eX11_law_100 rfl ?_
                    refine L_getR (r := 72) eX11_law_101 f_X11_25.g rfl rfl (by decide) ?_
                    refine L_iload_n eX11_law_104 rfl ?_
                    refine L_iload_n eX11_law_105 rfl ?_
                    refine L_iast eX11_law_106 rfl ?_
                    refine L_aload_n eX11_law_107 rfl ?_
                    refine V_iconst eX11_law_108 ?_
                    refine L_put eX11_law_109 f_X11_72 rfl rfl ?_
                    refine L_iload eX11_law_112 rfl ?_
                    exact V_ireturn eX11_law_114 ((by first | (exfalso; omega) | exact ⟨rfl, rfl⟩))
                  · refine L_sipush eX11_law_88 rfl ?_
                    exact V_ireturn eX11_law_91 ((by first | (exfalso; omega) | exact ⟨rfl, rfl⟩))
              · refine L_ldc2 eX11_law_51 k_X11_150 ?_
                refine V_goto eX11_law_54 ?_
                refine C_s1 (p_X11_in (by omega) (by omega) (by omega)) v_X11_152 eX11_law_82 rfl ?_
                refine V_ifneB eX11_law_85 (fun h85 => ?_) (fun h85 => ?_)
                · refine L_aload_n eX11_law_92 rfl ?_
                  refine L_getR (r := 72) eX11_law_93 f_X11_25.g rfl rfl (by decide) ?_
                  refine L_iload_n eX11_law_96 rfl ?_
                  refine L_iald eX11_law_97 rfl ?_
                  refine L_istore eX11_law_98 (s_4 rfl rfl) ?_
                  refine L_aload_n eX11_law_100 rfl ?_
                  refine L_getR (r := 72) eX11_law_101 f_X11_25.g rfl rfl (by decide) ?_
                  refine L_iload_n eX11_law_104 rfl ?_
                  refine L_iload_n eX11_law_105 rfl ?_
                  refine L_iast eX11_law_106 rfl ?_
                  refine L_aload_n eX11_law_107 rfl ?_
                  refine V_iconst eX11_law_108 ?_
                  refine L_put eX11_law_109 f_X11_72 rfl rfl ?_
                  refine L_iload eX11_law_112 rfl ?_
                  exact V_ireturn eX11_law_114 ((by first | (exfalso; omega) | exact ⟨rfl, rfl⟩))
                · refine L_sipush eX11_law_88 rfl ?_
                  exact V_ireturn eX11_law_91 ((by first | (exfalso; omega) | exact ⟨rfl, rfl⟩))
        · refine L_sipush eX11_law_12 rfl ?_
          exact V_ireturn eX11_law_15 ((by first | (exfalso; omega) | exact ⟨rfl, rfl⟩))
      · refine h.fs ⟨fun o k e => ?_, fun o e => ?_⟩ ?_ ?_ ?_ ?_ ?_ ?_ ?_ ?_
        · have := kSF_in e
          rw [uF_ne (by omega), uF_ne (by omega), uF_ne (by omega)]
        · have := kSA_in e
          rw [sA_ne (by omega), sA_ne (by omega)]
        · have hk := h.ok
          unfold sOK at *
          simp [uF, sA] at hk ⊢
          refine ⟨hk.1, hk.2.1, hk.2.2.1, hk.2.2.2.1, ?_, hk.2.2.2.2.2⟩
          have hl := hk.2.2.2.2.1
          unfold lwK at *
          simp only [uI]
          rcases (show w = 0 ∨ w = 1 ∨ w = 2 ∨ w = 3 ∨ w = 4 by omega) with e | e | e | e | e <;> subst e <;> simp at hb h1 hl ⊢ <;> omega
        · have hs := h.s
          unfold eqS at *
          simp [uF, sA] at hs ⊢
          refine ⟨hs.1, hs.2.1, hs.2.2.1, hs.2.2.2.1, hs.2.2.2.2.1, hs.2.2.2.2.2.1, hs.2.2.2.2.2.2.1, hs.2.2.2.2.2.2.2.1, hs.2.2.2.2.2.2.2.2.1, ?_⟩
          intro i a b
          simp only [uI]
          by_cases c : i = w
          · rw [if_pos c, if_pos c]
          · rw [if_neg c, if_neg c]
            exact h.s.lw i a b
        · simpa [uF] using h.tx
        · simpa [uF, sA] using h.txb
        · simpa [uF] using h.fa
        · simp [uF]
        · simp [uF]
        · simp [uF]
    · refine ⟨vi (-1002), F, A, F, A, fun G => ?_, fun G => ?_, h, ty_v⟩
      · refine L_ent [some (.ref 0), some (vi w), some (vi v), none] rfl ?_
        refine L_iload_n eX10_law_0 rfl ?_
        refine V_iflt eX10_law_1 (fun h1 => ?_) (fun h1 => ?_)
        · refine L_sipush eX10_law_27 rfl ?_
          exact V_ireturn eX10_law_30 ((by first | (exfalso; omega) | exact ⟨rfl, rfl⟩))
        · refine L_iload_n eX10_law_4 rfl ?_
          refine V_iconst eX10_law_5 ?_
          refine V_icmpge eX10_law_6 (fun h6 => ?_) (fun h6 => ?_)
          · refine L_sipush eX10_law_27 rfl ?_
            exact V_ireturn eX10_law_30 ((by first | (exfalso; omega) | exact ⟨rfl, rfl⟩))
          · refine L_iload_n eX10_law_9 rfl ?_
            refine L_gets (j := 3) eX10_law_10 z_X10_160 ?_
            refine L_iload_n eX10_law_13 rfl ?_
            refine L_ialdS (j := 3) eX10_law_14 (by decide) ?_ (by show 0 ≤ _ ∧ _ < ((5 : Nat) : Int); omega)
            refine V_icmplt eX10_law_15 (fun h15 => ?_) (fun h15 => ?_)
            · refine L_sipush eX10_law_27 rfl ?_
              exact V_ireturn eX10_law_30 ((by first | (exfalso; omega) | exact ⟨rfl, rfl⟩))
            · refine L_iload_n eX10_law_18 rfl ?_
              refine L_gets (j := 4) eX10_law_19 z_X10_163 ?_
              refine L_iload_n eX10_law_22 rfl ?_
              refine L_ialdS (j := 4) eX10_law_23 (by decide) ?_ (by show 0 ≤ _ ∧ _ < ((5 : Nat) : Int); omega)
              refine V_icmple eX10_law_24 (fun h24 => ?_) (fun h24 => ?_)
              · (exfalso; omega)
              · refine L_sipush eX10_law_27 rfl ?_
                exact V_ireturn eX10_law_30 ((by first | (exfalso; omega) | exact ⟨rfl, rfl⟩))
      · refine L_ent [some (.ref 66), some (vi w), some (vi v), none, none] rfl ?_
        refine L_iload_n eX11_law_0 rfl ?_
        refine V_i2l eX11_law_1 ?_
        refine L_lconst0 eX11_law_2 ?_
        refine L_ldc2 eX11_law_3 k_X11_260 ?_
        refine C_s1 (p_X11_in (by omega) (by omega) (by omega)) v_X11_152 eX11_law_6 rfl ?_
        refine V_ifneB eX11_law_9 (fun h9 => ?_) (fun h9 => ?_)
        · refine L_iload_n eX11_law_16 rfl ?_
          refine V_iconst eX11_law_17 ?_
          refine V_icmpeq eX11_law_18 (fun h18 => ?_) (fun h18 => ?_)
          · refine V_iconst eX11_law_26 ?_
            refine V_goto eX11_law_27 ?_
            refine L_istore_n eX11_law_41 (s_3 rfl rfl) ?_
            refine L_iload_n eX11_law_42 rfl ?_
            refine V_i2l eX11_law_43 ?_
            refine L_iload_n eX11_law_44 rfl ?_
            refine V_i2l eX11_law_45 ?_
            refine L_iload_n eX11_law_46 rfl ?_
            refine V_iconst eX11_law_47 ?_
            refine V_icmpne eX11_law_48 (fun h48 => ?_) (fun h48 => ?_)
            · refine L_iload_n eX11_law_57 rfl ?_
              refine V_iconst eX11_law_58 ?_
              refine V_icmpne eX11_law_59 (fun h59 => ?_) (fun h59 => ?_)
              · refine L_iload_n eX11_law_68 rfl ?_
                refine V_iconst eX11_law_69 ?_
                refine V_icmpne eX11_law_70 (fun h70 => ?_) (fun h70 => ?_)
                · refine L_ldc2 eX11_law_79 k_X11_266 ?_
                  refine C_s1 (p_X11_in (by omega) (by omega) (by omega)) v_X11_152 eX11_law_82 rfl ?_
                  refine V_ifneB eX11_law_85 (fun h85 => ?_) (fun h85 => ?_)
                  · (exfalso; omega)
                  · refine L_sipush eX11_law_88 rfl ?_
                    exact V_ireturn eX11_law_91 ((by first | (exfalso; omega) | exact ⟨rfl, rfl⟩))
                · refine L_ldc2 eX11_law_73 k_X11_264 ?_
                  refine V_goto eX11_law_76 ?_
                  refine C_s1 (p_X11_in (by omega) (by omega) (by omega)) v_X11_152 eX11_law_82 rfl ?_
                  refine V_ifneB eX11_law_85 (fun h85 => ?_) (fun h85 => ?_)
                  · (exfalso; omega)
                  · refine L_sipush eX11_law_88 rfl ?_
                    exact V_ireturn eX11_law_91 ((by first | (exfalso; omega) | exact ⟨rfl, rfl⟩))
              · refine L_ldc2 eX11_law_62 k_X11_262 ?_
                refine V_goto eX11_law_65 ?_
                refine C_s1 (p_X11_in (by omega) (by omega) (by omega)) v_X11_152 eX11_law_82 rfl ?_
                refine V_ifneB eX11_law_85 (fun h85 => ?_) (fun h85 => ?_)
                · (exfalso; omega)
                · refine L_sipush eX11_law_88 rfl ?_
                  exact V_ireturn eX11_law_91 ((by first | (exfalso; omega) | exact ⟨rfl, rfl⟩))
            · refine L_ldc2 eX11_law_51 k_X11_150 ?_
              refine V_goto eX11_law_54 ?_
              refine C_s1 (p_X11_in (by omega) (by omega) (by omega)) v_X11_152 eX11_law_82 rfl ?_
              refine V_ifneB eX11_law_85 (fun h85 => ?_) (fun h85 => ?_)
              · (exfalso; omega)
              · refine L_sipush eX11_law_88 rfl ?_
                exact V_ireturn eX11_law_91 ((by first | (exfalso; omega) | exact ⟨rfl, rfl⟩))
          · refine L_iload_n eX11_law_21 rfl ?_
            refine V_iconst eX11_law_22 ?_
            refine V_icmpne eX11_law_23 (fun h23 => ?_) (fun h23 => ?_)
            · refine L_iload_n eX11_law_30 rfl ?_
              refine V_iconst eX11_law_31 ?_
              refine V_icmpne eX11_law_32 (fun h32 => ?_) (fun h32 => ?_)
              · refine V_iconst eX11_law_40 ?_
                refine L_istore_n eX11_law_41 (s_3 rfl rfl) ?_
                refine L_iload_n eX11_law_42 rfl ?_
                refine V_i2l eX11_law_43 ?_
                refine L_iload_n eX11_law_44 rfl ?_
                refine V_i2l eX11_law_45 ?_
                refine L_iload_n eX11_law_46 rfl ?_
                refine V_iconst eX11_law_47 ?_
                refine V_icmpne eX11_law_48 (fun h48 => ?_) (fun h48 => ?_)
                · refine L_iload_n eX11_law_57 rfl ?_
                  refine V_iconst eX11_law_58 ?_
                  refine V_icmpne eX11_law_59 (fun h59 => ?_) (fun h59 => ?_)
                  · refine L_iload_n eX11_law_68 rfl ?_
                    refine V_iconst eX11_law_69 ?_
                    refine V_icmpne eX11_law_70 (fun h70 => ?_) (fun h70 => ?_)
                    · refine L_ldc2 eX11_law_79 k_X11_266 ?_
                      refine C_s1 (p_X11_in (by omega) (by omega) (by omega)) v_X11_152 eX11_law_82 rfl ?_
                      refine V_ifneB eX11_law_85 (fun h85 => ?_) (fun h85 => ?_)
                      · (exfalso; omega)
                      · refine L_sipush eX11_law_88 rfl ?_
                        exact V_ireturn eX11_law_91 ((by first | (exfalso; omega) | exact ⟨rfl, rfl⟩))
                    · refine L_ldc2 eX11_law_73 k_X11_264 ?_
                      refine V_goto eX11_law_76 ?_
                      refine C_s1 (p_X11_in (by omega) (by omega) (by omega)) v_X11_152 eX11_law_82 rfl ?_
                      refine V_ifneB eX11_law_85 (fun h85 => ?_) (fun h85 => ?_)
                      · (exfalso; omega)
                      · refine L_sipush eX11_law_88 rfl ?_
                        exact V_ireturn eX11_law_91 ((by first | (exfalso; omega) | exact ⟨rfl, rfl⟩))
                  · refine L_ldc2 eX11_law_62 k_X11_262 ?_
                    refine V_goto eX11_law_65 ?_
                    refine C_s1 (p_X11_in (by omega) (by omega) (by omega)) v_X11_152 eX11_law_82 rfl ?_
                    refine V_ifneB eX11_law_85 (fun h85 => ?_) (fun h85 => ?_)
                    · (exfalso; omega)
                    · refine L_sipush eX11_law_88 rfl ?_
                      exact V_ireturn eX11_law_91 ((by first | (exfalso; omega) | exact ⟨rfl, rfl⟩))
                · refine L_ldc2 eX11_law_51 k_X11_150 ?_
                  refine V_goto eX11_law_54 ?_
                  refine C_s1 (p_X11_in (by omega) (by omega) (by omega)) v_X11_152 eX11_law_82 rfl ?_
                  refine V_ifneB eX11_law_85 (fun h85 => ?_) (fun h85 => ?_)
                  · (exfalso; omega)
                  · refine L_sipush eX11_law_88 rfl ?_
                    exact V_ireturn eX11_law_91 ((by first | (exfalso; omega) | exact ⟨rfl, rfl⟩))
              · refine L_bipush eX11_law_35 rfl ?_
                refine V_goto eX11_law_37 ?_
                refine L_istore_n eX11_law_41 (s_3 rfl rfl) ?_
                refine L_iload_n eX11_law_42 rfl ?_
                refine V_i2l eX11_law_43 ?_
                refine L_iload_n eX11_law_44 rfl ?_
                refine V_i2l eX11_law_45 ?_
                refine L_iload_n eX11_law_46 rfl ?_
                refine V_iconst eX11_law_47 ?_
                refine V_icmpne eX11_law_48 (fun h48 => ?_) (fun h48 => ?_)
                · refine L_iload_n eX11_law_57 rfl ?_
                  refine V_iconst eX11_law_58 ?_
                  refine V_icmpne eX11_law_59 (fun h59 => ?_) (fun h59 => ?_)
                  · refine L_iload_n eX11_law_68 rfl ?_
                    refine V_iconst eX11_law_69 ?_
                    refine V_icmpne eX11_law_70 (fun h70 => ?_) (fun h70 => ?_)
                    · refine L_ldc2 eX11_law_79 k_X11_266 ?_
                      refine C_s1 (p_X11_in (by omega) (by omega) (by omega)) v_X11_152 eX11_law_82 rfl ?_
                      refine V_ifneB eX11_law_85 (fun h85 => ?_) (fun h85 => ?_)
                      · (exfalso; omega)
                      · refine L_sipush eX11_law_88 rfl ?_
                        exact V_ireturn eX11_law_91 ((by first | (exfalso; omega) | exact ⟨rfl, rfl⟩))
                    · refine L_ldc2 eX11_law_73 k_X11_264 ?_
                      refine V_goto eX11_law_76 ?_
                      refine C_s1 (p_X11_in (by omega) (by omega) (by omega)) v_X11_152 eX11_law_82 rfl ?_
                      refine V_ifneB eX11_law_85 (fun h85 => ?_) (fun h85 => ?_)
                      · (exfalso; omega)
                      · refine L_sipush eX11_law_88 rfl ?_
                        exact V_ireturn eX11_law_91 ((by first | (exfalso; omega) | exact ⟨rfl, rfl⟩))
                  · refine L_ldc2 eX11_law_62 k_X11_262 ?_
                    refine V_goto eX11_law_65 ?_
                    refine C_s1 (p_X11_in (by omega) (by omega) (by omega)) v_X11_152 eX11_law_82 rfl ?_
                    refine V_ifneB eX11_law_85 (fun h85 => ?_) (fun h85 => ?_)
                    · (exfalso; omega)
                    · refine L_sipush eX11_law_88 rfl ?_
                      exact V_ireturn eX11_law_91 ((by first | (exfalso; omega) | exact ⟨rfl, rfl⟩))
                · refine L_ldc2 eX11_law_51 k_X11_150 ?_
                  refine V_goto eX11_law_54 ?_
                  refine C_s1 (p_X11_in (by omega) (by omega) (by omega)) v_X11_152 eX11_law_82 rfl ?_
                  refine V_ifneB eX11_law_85 (fun h85 => ?_) (fun h85 => ?_)
                  · (exfalso; omega)
                  · refine L_sipush eX11_law_88 rfl ?_
                    exact V_ireturn eX11_law_91 ((by first | (exfalso; omega) | exact ⟨rfl, rfl⟩))
            · refine V_iconst eX11_law_26 ?_
              refine V_goto eX11_law_27 ?_
              refine L_istore_n eX11_law_41 (s_3 rfl rfl) ?_
              refine L_iload_n eX11_law_42 rfl ?_
              refine V_i2l eX11_law_43 ?_
              refine L_iload_n eX11_law_44 rfl ?_
              refine V_i2l eX11_law_45 ?_
              refine L_iload_n eX11_law_46 rfl ?_
              refine V_iconst eX11_law_47 ?_
              refine V_icmpne eX11_law_48 (fun h48 => ?_) (fun h48 => ?_)
              · refine L_iload_n eX11_law_57 rfl ?_
                refine V_iconst eX11_law_58 ?_
                refine V_icmpne eX11_law_59 (fun h59 => ?_) (fun h59 => ?_)
                · refine L_iload_n eX11_law_68 rfl ?_
                  refine V_iconst eX11_law_69 ?_
                  refine V_icmpne eX11_law_70 (fun h70 => ?_) (fun h70 => ?_)
                  · refine L_ldc2 eX11_law_79 k_X11_266 ?_
                    refine C_s1 (p_X11_in (by omega) (by omega) (by omega)) v_X11_152 eX11_law_82 rfl ?_
                    refine V_ifneB eX11_law_85 (fun h85 => ?_) (fun h85 => ?_)
                    · (exfalso; omega)
                    · refine L_sipush eX11_law_88 rfl ?_
                      exact V_ireturn eX11_law_91 ((by first | (exfalso; omega) | exact ⟨rfl, rfl⟩))
                  · refine L_ldc2 eX11_law_73 k_X11_264 ?_
                    refine V_goto eX11_law_76 ?_
                    refine C_s1 (p_X11_in (by omega) (by omega) (by omega)) v_X11_152 eX11_law_82 rfl ?_
                    refine V_ifneB eX11_law_85 (fun h85 => ?_) (fun h85 => ?_)
                    · (exfalso; omega)
                    · refine L_sipush eX11_law_88 rfl ?_
                      exact V_ireturn eX11_law_91 ((by first | (exfalso; omega) | exact ⟨rfl, rfl⟩))
                · refine L_ldc2 eX11_law_62 k_X11_262 ?_
                  refine V_goto eX11_law_65 ?_
                  refine C_s1 (p_X11_in (by omega) (by omega) (by omega)) v_X11_152 eX11_law_82 rfl ?_
                  refine V_ifneB eX11_law_85 (fun h85 => ?_) (fun h85 => ?_)
                  · (exfalso; omega)
                  · refine L_sipush eX11_law_88 rfl ?_
                    exact V_ireturn eX11_law_91 ((by first | (exfalso; omega) | exact ⟨rfl, rfl⟩))
              · refine L_ldc2 eX11_law_51 k_X11_150 ?_
                refine V_goto eX11_law_54 ?_
                refine C_s1 (p_X11_in (by omega) (by omega) (by omega)) v_X11_152 eX11_law_82 rfl ?_
                refine V_ifneB eX11_law_85 (fun h85 => ?_) (fun h85 => ?_)
                · (exfalso; omega)
                · refine L_sipush eX11_law_88 rfl ?_
                  exact V_ireturn eX11_law_91 ((by first | (exfalso; omega) | exact ⟨rfl, rfl⟩))
        · refine L_sipush eX11_law_12 rfl ?_
          exact V_ireturn eX11_law_15 ((by first | (exfalso; omega) | exact ⟨rfl, rfl⟩))
  · refine ⟨vi (-1002), F, A, F, A, fun G => ?_, fun G => ?_, h, ty_v⟩
    · refine L_ent [some (.ref 0), some (vi w), some (vi v), none] rfl ?_
      refine L_iload_n eX10_law_0 rfl ?_
      refine V_iflt eX10_law_1 (fun h1 => ?_) (fun h1 => ?_)
      · refine L_sipush eX10_law_27 rfl ?_
        exact V_ireturn eX10_law_30 ((by first | (exfalso; omega) | exact ⟨rfl, rfl⟩))
      · refine L_iload_n eX10_law_4 rfl ?_
        refine V_iconst eX10_law_5 ?_
        refine V_icmpge eX10_law_6 (fun h6 => ?_) (fun h6 => ?_)
        · refine L_sipush eX10_law_27 rfl ?_
          exact V_ireturn eX10_law_30 ((by first | (exfalso; omega) | exact ⟨rfl, rfl⟩))
        · (exfalso; omega)
    · refine L_ent [some (.ref 66), some (vi w), some (vi v), none, none] rfl ?_
      refine L_iload_n eX11_law_0 rfl ?_
      refine V_i2l eX11_law_1 ?_
      refine L_lconst0 eX11_law_2 ?_
      refine L_ldc2 eX11_law_3 k_X11_260 ?_
      refine C_s1 (p_X11_in (by omega) (by omega) (by omega)) v_X11_152 eX11_law_6 rfl ?_
      refine V_ifneB eX11_law_9 (fun h9 => ?_) (fun h9 => ?_)
      · (exfalso; omega)
      · refine L_sipush eX11_law_12 rfl ?_
        exact V_ireturn eX11_law_15 ((by first | (exfalso; omega) | exact ⟨rfl, rfl⟩))
end R75

