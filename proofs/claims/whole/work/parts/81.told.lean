section P81
variable {F F' : fT} {A A' : nT}
theorem sI_b2 {f : Nat → Int} {B : Int} : ∀ m : Nat, (∀ j, j < m → 0 ≤ f j ∧ f j ≤ B) → 0 ≤ sI f m ∧ sI f m ≤ B * m := by
  intro m
  induction m with
  | zero => intro _; exact ⟨Int.le_refl _, by show (0 : Int) ≤ B * ((0 : Nat) : Int); simp⟩
  | succ m ih =>
    intro h
    have a := ih (fun j hj => h j (by omega))
    have b := h m (by omega)
    have c : B * ((m + 1 : Nat) : Int) = B * m + B := by
      rw [Int.natCast_succ, Int.mul_add, Int.mul_one]
    rw [sI, c]
    omega
noncomputable def dsF (F : fT) (A : nT) (n : Nat) (g : Int) (j : Nat) : Int := aI ((cTs F A 2 g zr).1 (13 * (j + 1) + n) - A 64 j) + aI ((cTs F A 2 g zr).2 (13 * (j + 1) + n) - A 65 j)
noncomputable def dsH (F : fT) (A : nT) (n m : Nat) (g : Int) : Int := sI (dsF F A n g) m
theorem aI_b {z B : Int} (h : -B ≤ z ∧ z ≤ B) : 0 ≤ aI z ∧ aI z ≤ B := by
  unfold aI
  by_cases c : z < 0
  · rw [if_pos c]; omega
  · rw [if_neg c]; omega
theorem pw_told (h : Iv F A) {w : Int} (hw : i32 w) : Pw mX10_told mX11_told [vi w] F A := by
  unfold i32 at hw
  have hfn := h.fn
  by_cases h1 : 0 ≤ w ∧ w ≤ 1
  · by_cases h2 : F 63 0 = 0
    · refine Pr.w ⟨vi (-1003), F, A, F, A, fun G => ?_, fun G => ?_, h, ty_v⟩
      · refine L_ent [some (.ref 0), some (vi w), none, none, none, none] rfl ?_
        refine L_iload_n eX10_told_0 rfl ?_
        refine V_iflt eX10_told_1 (fun h1 => ?_) (fun h1 => ?_)
        · refine L_sipush eX10_told_9 rfl ?_
          exact V_ireturn eX10_told_12 ((by first | (exfalso; omega) | exact ⟨rfl, rfl⟩))
        · refine L_iload_n eX10_told_4 rfl ?_
          refine V_iconst eX10_told_5 ?_
          refine V_icmple eX10_told_6 (fun h6 => ?_) (fun h6 => ?_)
          · refine L_aload_n eX10_told_13 rfl ?_
            refine L_getR (r := 63) eX10_told_14 f_X10_70.g rfl rfl (by decide) ?_
            refine L_get eX10_told_17 f_X10_188.g rfl rfl ?_
            refine V_ifne eX10_told_20 (fun h20 => ?_) (fun h20 => ?_)
            · (exfalso; omega)
            · refine L_sipush eX10_told_23 rfl ?_
              exact V_ireturn eX10_told_26 ((by first | (exfalso; omega) | exact ⟨rfl, rfl⟩))
          · refine L_sipush eX10_told_9 rfl ?_
            exact V_ireturn eX10_told_12 ((by first | (exfalso; omega) | exact ⟨rfl, rfl⟩))
      · refine L_ent [some (.ref 66), some (vi w), none, none, none, none, none, none, none] rfl ?_
        refine L_iload_n eX11_told_0 rfl ?_
        refine V_i2l eX11_told_1 ?_
        refine L_lconst0 eX11_told_2 ?_
        refine L_lconst1 eX11_told_3 ?_
        refine C_s1 (p_X11_in (by omega) (by omega) (by omega)) v_X11_152 eX11_told_4 rfl ?_
        refine V_ifneB eX11_told_7 (fun h7 => ?_) (fun h7 => ?_)
        · refine L_aload_n eX11_told_14 rfl ?_
          refine L_get eX11_told_15 f_X11_281.g rfl rfl ?_
          refine V_ifne eX11_told_18 (fun h18 => ?_) (fun h18 => ?_)
          · (exfalso; omega)
          · refine L_sipush eX11_told_21 rfl ?_
            exact V_ireturn eX11_told_24 ((by first | (exfalso; omega) | exact ⟨rfl, rfl⟩))
        · refine L_sipush eX11_told_10 rfl ?_
          exact V_ireturn eX11_told_13 ((by first | (exfalso; omega) | exact ⟨rfl, rfl⟩))
    · obtain ⟨n, T, en, eT, hn, hT⟩ := iv_nat h
      obtain ⟨S, eS⟩ : ∃ S : Nat, F 63 0 = S := ⟨(F 63 0).toNat, by omega⟩
      have hS : 1 ≤ S ∧ S ≤ 60 := by omega
      have hst : ∀ g : Int, 10 ≤ g → g ≤ 200 → ∀ j : Nat, j < T → ab 130000 ((cTs F A 2 g zr).1 (13 * ((j : Int) + 1) + n)) ∧ ab 130000 ((cTs F A 2 g zr).2 (13 * ((j : Int) + 1) + n)) := fun g a b j hj => by
        exact cTs_b h.ok.c ⟨a, b⟩ zr_b _ (by omega) (by omega)
      have hdf : ∀ g : Int, 10 ≤ g → g ≤ 200 → ∀ j : Nat, j < min S T → 0 ≤ dsF F A n g j ∧ dsF F A n g j ≤ 280000 := fun g a b j hj => by
        have h1 := hst g a b j (by omega)
        have h2 := (h.fi j (by omega) (by omega)).2.2
        unfold ab at h1 h2
        have a1 := aI_b (z := (cTs F A 2 g zr).1 (13 * ((j : Int) + 1) + n) - A 64 j) (B := 140000) (by omega)
        have a2 := aI_b (z := (cTs F A 2 g zr).2 (13 * ((j : Int) + 1) + n) - A 65 j) (B := 140000) (by omega)
        unfold dsF
        omega
      have hds : ∀ g : Int, 10 ≤ g → g ≤ 200 → ∀ m : Nat, m ≤ min S T → 0 ≤ dsH F A n m g ∧ dsH F A n m g ≤ 16800000 := fun g a b m hm => by
        have := sI_b2 (f := dsF F A n g) (B := 280000) m (fun j hj => hdf g a b j (by omega))
        unfold dsH
        omega
      have hnn := bsS_1 (v := dsH F A n (min S T)) 20 10 (-1, 0) (by omega) (Or.inl (by omega))
      have C : ∀ G : gT, Meets G mX10_told [.ref 0, vi w] (sw F A) (fun r' w' => ∃ F1 A1, r' = some (vi (if w = 0 then (bsS (fun _ => True) (dsH F A n (min S T)) 20 10 (-1, 0)).1 else (bsS (fun _ => True) (dsH F A n (min S T)) 20 10 (-1, 0)).2)) ∧ w' = sw F1 A1 ∧ Iv F1 A1 ∧ kp F A F1 A1) := by
        intro G
        refine L_ent [some (.ref 0), some (vi w), none, none, none, none] rfl ?_
        generalize hQ : (fun (r' : Option Value) (w' : wT) => ∃ F1 A1, r' = some (vi (if w = 0 then (bsS (fun _ => True) (dsH F A n (min S T)) 20 10 (-1, 0)).1 else (bsS (fun _ => True) (dsH F A n (min S T)) 20 10 (-1, 0)).2)) ∧ w' = sw F1 A1 ∧ Iv F1 A1 ∧ kp F A F1 A1) = Q
        have LOOP : ∀ (r : Nat) (g b l : Int) (s : Int × Int) (F' : fT) (A' : nT) (x5 : Option Value), g = 210 - 10 * r → r ≤ 20 → nbR b l s → bsS (fun _ => True) (dsH F A n (min S T)) r g s = bsS (fun _ => True) (dsH F A n (min S T)) 20 10 (-1, 0) → (s.1 < 0 ∨ 0 ≤ s.2 ∧ s.2 ≤ 16800000) → Iv F' A' → kp F A F' A' → V G mX10_told Q 0 0 37 [some (.ref 0), some (vi w), some (vi b), some (vi l), some (vi g), x5] [] (sw F' A') := by
          intro r
          induction r with
          | zero =>
            intro g b l s F' A' x5 e1 e2 e3 e4 e5 h' hk
            have e4' : s = bsS (fun _ => True) (dsH F A n (min S T)) 20 10 (-1, 0) := e4
            rw [← e4'] at hnn
            unfold nbR at e3
            refine L_iload eX10_told_37 rfl ?_
            refine L_sipush eX10_told_39 rfl ?_
            -- at 42: .if_icmp .gt 64
            refine V_icmpgt eX10_told_42 (fun h2 => ?_) (fun h2 => ?_)
            · refine L_iload_n eX10_told_106 rfl ?_
              -- at 107: .ifCond .ne 7
              refine V_ifne eX10_told_107 (fun h3 => ?_) (fun h3 => ?_)
              · refine L_iload_n eX10_told_114 rfl ?_
                -- at 115: .ireturn
                exact V_ireturn eX10_told_115 (by rw [← hQ, ← e4', if_neg (by omega), show s.2 = l by omega]; exact ⟨F', A', rfl, rfl, h', hk⟩)
              · refine L_iload_n eX10_told_110 rfl ?_
                refine V_goto eX10_told_111 ?_
                exact V_ireturn eX10_told_115 (by rw [← hQ, ← e4', if_pos (by omega), e3.1]; exact ⟨F', A', rfl, rfl, h', hk⟩)
            · omega
          | succ r ih =>
            intro g b l s F' A' x5 e1 e2 e3 e4 e5 h' hk
            obtain ⟨F1, A1, hM, i1, k1, ef, ag, ec, -⟩ := fly_g h h' hk en eT hn hT (g := g) (by omega)
            have hD := fun (G : gT) => p_X0_distance (G := G) (F := F1) (A := A1) (f := 47) (n := n) (T := T) (S := S) (Or.inr rfl) i1.b2 ef.1 ef.2.1 hn.2 hT.2 (by rw [k1.1 63 0 rfl]; exact eS) hS.2 (fun i a b => by rw [k1.2 64 rfl, k1.2 65 rfl]; exact (h.fi i a (by omega)).2.2)
            have eD : sI (fun j => aI (A1 48 (13 * ((j : Int) + 1) + n) - A1 64 j) + aI (A1 49 (13 * ((j : Int) + 1) + n) - A1 65 j)) (min S T) = dsH F A n (min S T) g := by
              refine sI_c _ (fun j hj => ?_)
              have a := ag_at (X' := (cTs F A 2 g zr).1) (Y' := (cTs F A 2 g zr).2) ag hn.2 (k := n) (t := (j : Int) + 1) (by omega) (by omega)
              unfold dsF
              rw [a.1, a.2, k1.2 64 rfl, k1.2 65 rfl]
            rw [show A1 (47 + 1) = A1 48 from rfl, show A1 (47 + 2) = A1 49 from rfl, eD] at hD
            have hdb := hds g (by omega) (by omega) (min S T) (Nat.le_refl _)
            have e3' := e3
            unfold nbR at e3'
            refine L_iload eX10_told_37 rfl ?_
            refine L_sipush eX10_told_39 rfl ?_
            -- at 42: .if_icmp .gt 64
            refine V_icmpgt eX10_told_42 (fun h2 => ?_) (fun h2 => ?_)
            · omega
            · refine L_aload_n eX10_told_45 rfl ?_
              refine L_getR (r := 47) eX10_told_46 f_X10_50.g rfl rfl (by decide) ?_
              refine L_aload_n eX10_told_49 rfl ?_
              refine L_getR (r := 1) eX10_told_50 f_X10_10.g rfl rfl (by decide) ?_
              refine L_getR (r := 2) eX10_told_53 f_X10_112 rfl rfl (by decide) ?_
              refine L_aload_n eX10_told_56 rfl ?_
              refine L_getR (r := 1) eX10_told_57 f_X10_10.g rfl rfl (by decide) ?_
              refine L_getR (r := 6) eX10_told_60 f_X10_130 rfl rfl (by decide) ?_
              refine L_aload_n eX10_told_63 rfl ?_
              refine L_getR (r := 1) eX10_told_64 f_X10_10.g rfl rfl (by decide) ?_
              refine L_getR (r := 9) eX10_told_67 f_X10_166 rfl rfl (by decide) ?_
              refine L_iload eX10_told_70 rfl ?_
              refine C_v0 (hM G) v_X10_255 eX10_told_72 rfl rfl ?_
              refine L_aload_n eX10_told_75 rfl ?_
              refine L_getR (r := 63) eX10_told_76 f_X10_70.g rfl rfl (by decide) ?_
              refine L_aload_n eX10_told_79 rfl ?_
              refine L_getR (r := 47) eX10_told_80 f_X10_50.g rfl rfl (by decide) ?_
              refine C_v1 (hD G) v_X10_308 eX10_told_83 rfl rfl ?_
              refine L_istore eX10_told_86 (s_5 rfl rfl) ?_
              refine L_iload eX10_told_88 rfl ?_
              refine L_iload_n eX10_told_90 rfl ?_
              -- at 91: .if_icmp .ge 9
              refine V_icmpge eX10_told_91 (fun h3 => ?_) (fun h3 => ?_)
              · have hneg : ¬ (True ∧ (s.1 < 0 ∨ dsH F A n (min S T) g < s.2)) := fun c => by omega
                rw [bsS_n hneg] at e4
                refine L_iinc eX10_told_100 rfl (s_4 rfl rfl) ?_
                refine V_goto eX10_told_103 ?_
                exact ih _ _ _ s _ _ _ (by omega) (by omega) e3 e4 e5 i1 k1
              · have hpos : True ∧ (s.1 < 0 ∨ dsH F A n (min S T) g < s.2) := ⟨trivial, by omega⟩
                rw [bsS_p hpos] at e4
                refine L_iload eX10_told_94 rfl ?_
                refine L_istore_n eX10_told_96 (s_3 rfl rfl) ?_
                refine L_iload eX10_told_97 rfl ?_
                refine L_istore_n eX10_told_99 (s_2 rfl rfl) ?_
                refine L_iinc eX10_told_100 rfl (s_4 rfl rfl) ?_
                refine V_goto eX10_told_103 ?_
                exact ih _ _ _ (g, dsH F A n (min S T) g) _ _ _ (by omega) (by omega) ⟨rfl, Or.inr ⟨by show 0 ≤ g; omega, rfl⟩⟩ e4 (Or.inr hdb) i1 k1
        have go : V G mX10_told Q 0 0 27 [some (.ref 0), some (vi w), none, none, none, none] [] (sw F A) := by
          refine V_iconst eX10_told_27 ?_
          refine L_istore_n eX10_told_28 (s_2 rfl rfl) ?_
          refine L_ldcw eX10_told_29 k_X10_285 ?_
          refine L_istore_n eX10_told_32 (s_3 rfl rfl) ?_
          refine L_bipush eX10_told_33 rfl ?_
          refine L_istore eX10_told_35 (s_4 rfl rfl) ?_
          exact LOOP 20 10 (-1) _ (-1, 0) F A _ (by omega) (by omega) ⟨rfl, Or.inl ⟨by decide, rfl, rfl⟩⟩ rfl (Or.inl (by decide)) h kp.rfl'
        refine L_iload_n eX10_told_0 rfl ?_
        refine V_iflt eX10_told_1 (fun h1 => ?_) (fun h1 => ?_)
        · (exfalso; omega)
        · refine L_iload_n eX10_told_4 rfl ?_
          refine V_iconst eX10_told_5 ?_
          refine V_icmple eX10_told_6 (fun h6 => ?_) (fun h6 => ?_)
          · refine L_aload_n eX10_told_13 rfl ?_
            refine L_getR (r := 63) eX10_told_14 f_X10_70.g rfl rfl (by decide) ?_
            refine L_get eX10_told_17 f_X10_188.g rfl rfl ?_
            refine V_ifne eX10_told_20 (fun h20 => ?_) (fun h20 => ?_)
            · exact go
            · (exfalso; omega)
          · (exfalso; omega)
      intro G
      refine ⟨_, C G, fun r' w' e => ?_⟩
      obtain ⟨F0, A0, er, ew, i0, k0⟩ := e
      refine ⟨_, F0, A0, er, ew, ty_v, (fun r' w' => ∃ F1 A1, r' = some (vi (if w = 0 then (bsS (fun _ => True) (dsH F A n (min S T)) 20 10 (-1, 0)).1 else (bsS (fun _ => True) (dsH F A n (min S T)) 20 10 (-1, 0)).2)) ∧ w' = sw F1 A1 ∧ Iv F1 A1), ?_, fun r' w' e' => e'⟩
      refine L_ent [some (.ref 66), some (vi w), none, none, none, none, none, none, none] rfl ?_
      generalize hQ : (fun (r' : Option Value) (w' : wT) => ∃ F1 A1, r' = some (vi (if w = 0 then (bsS (fun _ => True) (dsH F A n (min S T)) 20 10 (-1, 0)).1 else (bsS (fun _ => True) (dsH F A n (min S T)) 20 10 (-1, 0)).2)) ∧ w' = sw F1 A1 ∧ Iv F1 A1) = Q
      have LOOP : ∀ (r : Nat) (g : Int) (s : Int × Int) (F' : fT) (A' : nT) (x6 x8 : Option Value), g = 210 - 10 * r → r ≤ 20 → -1 ≤ s.1 ∧ s.1 ≤ 200 → bsS (fun _ => True) (dsH F A n (min S T)) r g s = bsS (fun _ => True) (dsH F A n (min S T)) 20 10 (-1, 0) → (0 ≤ s.2 ∧ s.2 ≤ 16800000) → Iv F' A' → kp F A F' A' → V G mX11_told Q 0 0 33 [some (.ref 66), some (vi w), some (vi s.1), some (vl s.2), none, some (vi g), x6, none, x8] [] (sw F' A') := by
        intro r
        induction r with
        | zero =>
          intro g s F' A' x6 x8 e1 e2 e3 e4 e5 h' hk
          have e4' : s = bsS (fun _ => True) (dsH F A n (min S T)) 20 10 (-1, 0) := e4
          refine L_iload eX11_told_33 rfl ?_
          refine L_sipush eX11_told_35 rfl ?_
          -- at 38: .if_icmp .gt 124
          refine V_icmpgt eX11_told_38 (fun h2 => ?_) (fun h2 => ?_)
          · refine L_iload_n eX11_told_162 rfl ?_
            -- at 163: .ifCond .ne 7
            refine V_ifne eX11_told_163 (fun h3 => ?_) (fun h3 => ?_)
            · refine L_lload_n eX11_told_170 rfl ?_
              refine V_l2i eX11_told_171 ?_
              exact V_ireturn eX11_told_172 (by rw [← hQ, ← e4', if_neg (by omega)]; exact ⟨F', A', rfl, rfl, h'⟩)
            · refine L_iload_n eX11_told_166 rfl ?_
              refine V_goto eX11_told_167 ?_
              exact V_ireturn eX11_told_172 (by rw [← hQ, ← e4', if_pos (by omega)]; exact ⟨F', A', rfl, rfl, h'⟩)
          · omega
        | succ r ih =>
          intro g s F' A' x6 x8 e1 e2 e3 e4 e5 h' hk
          obtain ⟨F1, A1, hM, i1, k1, -, f0, f5, ag⟩ := toss_g h h' hk en eT (g := g) (by omega)
          have f55 : F1 66 55 = S := by rw [k1.1 66 55 rfl, hfn.1]; exact eS
          have hdb := hds g (by omega) (by omega)
          have fin : ∀ (x8 : Option Value), V G mX11_told Q 0 0 139 [some (.ref 66), some (vi w), some (vi s.1), some (vl s.2), none, some (vi g), some (vl (dsH F A n (min S T) g)), none, x8] [] (sw F1 A1) := by
            intro x8
            have hd1 := hdb (min S T) (Nat.le_refl _)
            have neg : ¬ (True ∧ (s.1 < 0 ∨ dsH F A n (min S T) g < s.2)) → V G mX11_told Q 0 0 156 [some (.ref 66), some (vi w), some (vi s.1), some (vl s.2), none, some (vi g), some (vl (dsH F A n (min S T) g)), none, x8] [] (sw F1 A1) := fun hneg => by
              rw [bsS_n hneg] at e4
              refine L_iinc eX11_told_156 rfl (s_5 rfl rfl) ?_
              refine V_goto eX11_told_159 ?_
              exact ih _ s _ _ _ _ (by omega) (by omega) e3 e4 e5 i1 k1
            have pos : (True ∧ (s.1 < 0 ∨ dsH F A n (min S T) g < s.2)) → V G mX11_told Q 0 0 150 [some (.ref 66), some (vi w), some (vi s.1), some (vl s.2), none, some (vi g), some (vl (dsH F A n (min S T) g)), none, x8] [] (sw F1 A1) := fun hpos => by
              rw [bsS_p hpos] at e4
              refine L_iload eX11_told_150 rfl ?_
              refine L_istore_n eX11_told_152 (s_2 rfl rfl) ?_
              refine L_lload eX11_told_153 rfl ?_
              refine L_lstore_n eX11_told_155 (t_3 rfl) ?_
              refine L_iinc eX11_told_156 rfl (s_5 rfl rfl) ?_
              refine V_goto eX11_told_159 ?_
              exact ih _ (g, dsH F A n (min S T) g) _ _ _ _ (by omega) (by omega) (by show -1 ≤ g ∧ g ≤ 200; omega) e4 hd1 i1 k1
            refine L_iload_n eX11_told_139 rfl ?_
            -- at 140: .ifCond .lt 10
            refine V_iflt eX11_told_140 (fun h5 => ?_) (fun h5 => ?_)
            · exact pos ⟨trivial, by omega⟩
            · refine L_lload eX11_told_143 rfl ?_
              refine L_lload_n eX11_told_145 rfl ?_
              -- at 146: .lcmp
              refine V_lcmpge eX11_told_146 eX11_told_147 (fun h6 => ?_) (fun h6 => ?_)
              · exact neg (fun c => by omega)
              · exact pos ⟨trivial, by omega⟩
          have INN : ∀ (q j : Nat) (t : Int), min S T < q + j → j ≤ min S T → t = j + 1 → V G mX11_told Q 0 0 53 [some (.ref 66), some (vi w), some (vi s.1), some (vl s.2), none, some (vi g), some (vl (dsH F A n j g)), none, some (vi t)] [] (sw F1 A1) := by
            intro q
            induction q with
            | zero => intro j t q1 q2; omega
            | succ q ihq =>
              intro j t q1 q2 et
              have hdj := hdb j q2
              refine L_iload eX11_told_53 rfl ?_
              refine L_aload_n eX11_told_55 rfl ?_
              refine L_get eX11_told_56 f_X11_127.g rfl rfl ?_
              -- at 59: .if_icmp .gt 80
              refine V_icmpgt eX11_told_59 (fun h3 => ?_) (fun h3 => ?_)
              · have e : j = min S T := by omega
                subst e
                exact fin _
              · refine L_iload eX11_told_62 rfl ?_
                refine L_aload_n eX11_told_64 rfl ?_
                refine L_get eX11_told_65 f_X11_281.g rfl rfl ?_
                -- at 68: .if_icmp .gt 71
                refine V_icmpgt eX11_told_68 (fun h4 => ?_) (fun h4 => ?_)
                · have e : j = min S T := by omega
                  subst e
                  exact fin _
                · have hst1 := hst g (by omega) (by omega) j (by omega)
                  have a := ag_at (X' := (cTs F A 2 g zr).1) (Y' := (cTs F A 2 g zr).2) ag hn.2 (k := n) (t := (j : Int) + 1) (by omega) (by omega)
                  have h97 : A1 97 ((j : Int) + 1 - 1) = A 64 j := by
                    rw [k1.2 97 rfl, show (j : Int) + 1 - 1 = j by omega]
                    exact (h.fi j (by omega) (by omega)).1
                  have h98 : A1 98 ((j : Int) + 1 - 1) = A 65 j := by
                    rw [k1.2 98 rfl, show (j : Int) + 1 - 1 = j by omega]
                    exact (h.fi j (by omega) (by omega)).2.1
                  have hfb := (h.fi j (by omega) (by omega)).2.2
                  unfold ab at hst1 hfb
                  subst et
                  have ih2 := ihq (j + 1) ((j : Int) + 1 + 1) (by omega) (by omega) (by omega)
                  have e5 : dsH F A n (j + 1) g = dsH F A n j g + ((if (A1 84 (13 * ((j : Int) + 1) + F1 66 0) - A1 97 ((j : Int) + 1 - 1)) < 0 then -(A1 84 (13 * ((j : Int) + 1) + F1 66 0) - A1 97 ((j : Int) + 1 - 1)) else A1 84 (13 * ((j : Int) + 1) + F1 66 0) - A1 97 ((j : Int) + 1 - 1)) + (if (A1 85 (13 * ((j : Int) + 1) + F1 66 0) - A1 98 ((j : Int) + 1 - 1)) < 0 then -(A1 85 (13 * ((j : Int) + 1) + F1 66 0) - A1 98 ((j : Int) + 1 - 1)) else A1 85 (13 * ((j : Int) + 1) + F1 66 0) - A1 98 ((j : Int) + 1 - 1))) := by
                    rw [h97, h98, f0, a.1, a.2]
                    rfl
                  rw [e5] at ih2
                  rw [← a.1, ← a.2] at hst1
                  rw [← h97, ← h98] at hfb
                  rw [← f0] at hst1
                  refine L_lload eX11_told_71 rfl ?_
                  refine L_aload_n eX11_told_73 rfl ?_
                  refine L_getR (r := 84) eX11_told_74 f_X11_65.g rfl rfl (by decide) ?_
                  refine L_aload_n eX11_told_77 rfl ?_
                  refine L_get eX11_told_78 f_X11_121.g rfl rfl ?_
                  refine L_iload eX11_told_81 rfl ?_
                  refine C_s1 p_X11_cell v_X11_284 eX11_told_83 rfl ?_
                  refine L_lald eX11_told_86 rfl ?_
                  refine L_aload_n eX11_told_87 rfl ?_
                  refine L_getR (r := 97) eX11_told_88 f_X11_109.g rfl rfl (by decide) ?_
                  refine L_iload eX11_told_91 rfl ?_
                  refine V_iconst eX11_told_93 ?_
                  refine V_isub eX11_told_94 ?_
                  refine L_iald eX11_told_95 rfl ?_
                  refine V_i2l eX11_told_96 ?_
                  refine V_lsub eX11_told_97 ?_
                  refine C_s1 (p_X11_size (by omega)) v_X11_427 eX11_told_98 rfl ?_
                  refine L_aload_n eX11_told_101 rfl ?_
                  refine L_getR (r := 85) eX11_told_102 f_X11_69.g rfl rfl (by decide) ?_
                  refine L_aload_n eX11_told_105 rfl ?_
                  refine L_get eX11_told_106 f_X11_121.g rfl rfl ?_
                  refine L_iload eX11_told_109 rfl ?_
                  refine C_s1 p_X11_cell v_X11_284 eX11_told_111 rfl ?_
                  refine L_lald eX11_told_114 rfl ?_
                  refine L_aload_n eX11_told_115 rfl ?_
                  refine L_getR (r := 98) eX11_told_116 f_X11_112.g rfl rfl (by decide) ?_
                  refine L_iload eX11_told_119 rfl ?_
                  refine V_iconst eX11_told_121 ?_
                  refine V_isub eX11_told_122 ?_
                  refine L_iald eX11_told_123 rfl ?_
                  refine V_i2l eX11_told_124 ?_
                  refine V_lsub eX11_told_125 ?_
                  refine C_s1 (p_X11_size (by omega)) v_X11_427 eX11_told_126 rfl ?_
                  refine V_ladd eX11_told_129 ?_
                  refine V_ladd eX11_told_130 ?_
                  refine L_lstore eX11_told_131 (t_6 rfl) ?_
                  refine L_iinc eX11_told_133 rfl (s_8 rfl rfl) ?_
                  refine V_goto eX11_told_136 ?_
                  exact ih2
          refine L_iload eX11_told_33 rfl ?_
          refine L_sipush eX11_told_35 rfl ?_
          -- at 38: .if_icmp .gt 124
          refine V_icmpgt eX11_told_38 (fun h2 => ?_) (fun h2 => ?_)
          · omega
          · refine L_aload_n eX11_told_41 rfl ?_
            refine L_iload eX11_told_42 rfl ?_
            refine C_v0 (hM G) v_X11_311 eX11_told_44 rfl rfl ?_
            refine L_lconst0 eX11_told_47 ?_
            refine L_lstore eX11_told_48 (t_6 rfl) ?_
            refine V_iconst eX11_told_50 ?_
            refine L_istore eX11_told_51 (s_8 rfl rfl) ?_
            exact INN (min S T + 1) 0 1 (by omega) (by omega) (by omega)
      have go : V G mX11_told Q 0 0 25 [some (.ref 66), some (vi w), none, none, none, none, none, none, none] [] (sw F0 A0) := by
        refine V_iconst eX11_told_25 ?_
        refine L_istore_n eX11_told_26 (s_2 rfl rfl) ?_
        refine L_lconst0 eX11_told_27 ?_
        refine L_lstore_n eX11_told_28 (t_3 rfl) ?_
        refine L_bipush eX11_told_29 rfl ?_
        refine L_istore eX11_told_31 (s_5 rfl rfl) ?_
        exact LOOP 20 10 (-1, 0) F0 A0 _ _ (by omega) (by omega) (by decide) rfl (by decide) i0 k0
      have f55 : F0 66 55 = S := by rw [k0.1 66 55 rfl, hfn.1]; exact eS
      refine L_iload_n eX11_told_0 rfl ?_
      refine V_i2l eX11_told_1 ?_
      refine L_lconst0 eX11_told_2 ?_
      refine L_lconst1 eX11_told_3 ?_
      refine C_s1 (p_X11_in (by omega) (by omega) (by omega)) v_X11_152 eX11_told_4 rfl ?_
      refine V_ifneB eX11_told_7 (fun h7 => ?_) (fun h7 => ?_)
      · refine L_aload_n eX11_told_14 rfl ?_
        refine L_get eX11_told_15 f_X11_281.g rfl rfl ?_
        refine V_ifne eX11_told_18 (fun h18 => ?_) (fun h18 => ?_)
        · exact go
        · (exfalso; omega)
      · (exfalso; omega)
  · refine Pr.w ⟨vi (-1002), F, A, F, A, fun G => ?_, fun G => ?_, h, ty_v⟩
    · refine L_ent [some (.ref 0), some (vi w), none, none, none, none] rfl ?_
      refine L_iload_n eX10_told_0 rfl ?_
      refine V_iflt eX10_told_1 (fun h1 => ?_) (fun h1 => ?_)
      · refine L_sipush eX10_told_9 rfl ?_
        exact V_ireturn eX10_told_12 ((by first | (exfalso; omega) | exact ⟨rfl, rfl⟩))
      · refine L_iload_n eX10_told_4 rfl ?_
        refine V_iconst eX10_told_5 ?_
        refine V_icmple eX10_told_6 (fun h6 => ?_) (fun h6 => ?_)
        · (exfalso; omega)
        · refine L_sipush eX10_told_9 rfl ?_
          exact V_ireturn eX10_told_12 ((by first | (exfalso; omega) | exact ⟨rfl, rfl⟩))
    · refine L_ent [some (.ref 66), some (vi w), none, none, none, none, none, none, none] rfl ?_
      refine L_iload_n eX11_told_0 rfl ?_
      refine V_i2l eX11_told_1 ?_
      refine L_lconst0 eX11_told_2 ?_
      refine L_lconst1 eX11_told_3 ?_
      refine C_s1 (p_X11_in (by omega) (by omega) (by omega)) v_X11_152 eX11_told_4 rfl ?_
      refine V_ifneB eX11_told_7 (fun h7 => ?_) (fun h7 => ?_)
      · (exfalso; omega)
      · refine L_sipush eX11_told_10 rfl ?_
        exact V_ireturn eX11_told_13 ((by first | (exfalso; omega) | exact ⟨rfl, rfl⟩))
end P81

