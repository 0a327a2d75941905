def ldR (n : Nat) (st : Int × List Int) (i : Int) : Int := if st.1 = -1 ∨ i = -1 then st.1 else if 0 ≤ i ∧ i < n then stL st.2 i else -1
section P91
variable {F F' : fT} {A A' : nT} {n T : Nat} {s i : Int} {st : Int × List Int} {l : List Int}
theorem spL_b (h : Iv F A) (en : F 2 0 = n) (eT : F 6 0 = T) (hn : 1 ≤ n ∧ n ≤ 12) (hT : 1 ≤ T ∧ T ≤ 60) : 0 ≤ spL F A l ∧ spL F A l < 400000 := by
  have hok := h.ok
  have hpl : plK n (stL l) (A 4) := fun i a b => by
    have h1 := hok.pl i a (by rw [show F (1 + 1) 0 = (n : Int) from en]; exact b)
    have h2 := ltT_b (l.getD i.toNat 0)
    unfold stL
    exact ⟨by omega, h1.2⟩
  have hl := hok.lw
  have hlen : 20 ≤ F 2 1 ∧ F 2 1 ≤ 200 := hok.len
  have hw : okW (wtF (stL l) (A 4)) (bdF (stL l) (A 4)) (F 2 1) (A 9 0) (A 9 1) n := ⟨by omega, fun k h1 h2 => (wt_b hpl (k := k) (by omega)).1, fun k h1 h2 => bd_b hpl (k := k) (by omega), by omega, hl.1.1, hl.2.1⟩
  have hb : bA (tsL F A l) := by
    have := ts_b (R := (A 9 2).toNat) (T := T) (wx := A 7) (wy := A 8) hw zr_b (by omega) h.giv.2 (fun t a b => hok.wy t (by omega) (by rw [show F (1 + 5) 0 = (T : Int) from eT]; exact b)) T (Nat.le_refl _)
    unfold tsL tsS
    rw [en, eT, Int.toNat_natCast, Int.toNat_natCast]
    exact this
  have := sp_b (n := n) (T := T) h hn hT.2 (X := (tsL F A l).1) (Y := (tsL F A l).2) hb
  unfold spL
  rw [en, eT, Int.toNat_natCast, Int.toNat_natCast]
  exact this
theorem loS_b (h : Iv F A) (en : F 2 0 = n) (eT : F 6 0 = T) (hn : 1 ≤ n ∧ n ≤ 12) (hT : 1 ≤ T ∧ T ≤ 60) : -1 ≤ (loS F A s).1 ∧ (loS F A s).1 < 400000 := by
  have gen : ∀ (L : List (List Int)) (st : Int × List Int), -1 ≤ st.1 ∧ st.1 < 400000 → -1 ≤ (L.foldl (loT F A s) st).1 ∧ (L.foldl (loT F A s) st).1 < 400000 := by
    intro L
    induction L with
    | nil => intro st q; exact q
    | cons l L ih =>
      intro st q
      rw [List.foldl_cons]
      refine ih _ ?_
      unfold loT
      have hb := spL_b (l := l) h en eT hn hT
      by_cases c : smL l ≤ s ∧ st.1 < spL F A l
      · rw [if_pos c]
        show -1 ≤ spL F A l ∧ spL F A l < 400000
        omega
      · rw [if_neg c]; exact q
  exact gen _ _ (by show -1 ≤ (-1 : Int) ∧ (-1 : Int) < 400000; omega)
theorem m_loudest (h : Iv F A) (en : F 2 0 = n) (eT : F 6 0 = T) (hn : 1 ≤ n ∧ n ≤ 8) (hT : 1 ≤ T ∧ T ≤ 60) (hs : 1 ≤ s ∧ s ≤ 96) (hi : i32 i) (G : gT) : Meets G mX11_loudest [.ref 66, vi s, vi i] (sw F A) (fun r w => ∃ F2 A2, r = some (vi (ldR n (loS F A s) i)) ∧ w = sw F2 A2 ∧ Iv F2 A2) := by
  unfold i32 at hi
  refine L_ent [some (.ref 66), some (vi s), some (vi i), none, none, none, none, none, none, none] rfl ?_
  generalize hQ : (fun (r : Option Value) (w : wT) => ∃ F2 A2, r = some (vi (ldR n (loS F A s) i)) ∧ w = sw F2 A2 ∧ Iv F2 A2) = Q
  have f66 : F 66 0 = n := by rw [h.s.n]; exact en
  have lob := loS_b (s := s) h en eT (by omega) hT
  -- the end
  have fin : ∀ (F' : fT) (A' : nT) (l : List Int) (x6 x7 x8 x9 : Option Value), lmK F A F' A' n (loS F A s) l → V G mX11_loudest Q 0 0 289 [some (.ref 66), some (vi s), some (vi i), some (vl (loS F A s).1), none, some (vi 0), x6, x7, x8, x9] [] (sw F' A') := by
    intro F' A' l x6 x7 x8 x9 K
    have f0 : F' 66 0 = n := by rw [K.kf 66 0 (by decide)]; exact f66
    have RS : ∀ (r : Nat) (k : Int) (x7 x8 x9 : Option Value), k + r = n → 0 ≤ k → V G mX11_loudest Q 0 0 292 [some (.ref 66), some (vi s), some (vi i), some (vl (loS F A s).1), none, some (vi 0), some (vi k), x7, x8, x9] [] (sw F' (sA A' 67 (fun j => if 0 ≤ j ∧ j < k then A' 88 j else A' 67 j))) := by
      intro r
      induction r with
      | zero =>
        intro k x7 x8 x9 e1 e2
        have e : k = n := by omega
        have e67 : (fun j => if 0 ≤ j ∧ j < k then A' 88 j else A' 67 j) = A 67 := by
          funext j
          by_cases c : 0 ≤ j ∧ j < k
          · rw [if_pos c]; exact K.hl j c.1 (by omega)
          · rw [if_neg c]; exact K.so j (by omega)
        rw [e67]
        have hkp : kp F A (uF F' 66 40 (-1)) (sA A' 67 (A 67)) := by
          refine ⟨fun o k e => ?_, fun o e => ?_⟩
          · have := kF_ne e
            rw [uF_ne (by omega)]
            exact K.kf o k (by omega)
          · have := kA_ne e
            by_cases c : o = 67
            · rw [c, sA_eq]
            · rw [sA_ne c]
              exact K.ka o c (by omega)
        have hiv : Iv (uF F' 66 40 (-1)) (sA A' 67 (A 67)) := by
          refine hkp.Qv h ?_ (Or.inl uF_eq) ?_ ?_ ?_ ?_
          · rw [uF_ne (by decide), K.kf 0 17 (by decide)]
            exact h.fl.imp id (fun e => ⟨e.1, hkp.Qf e.2 (fun k => by rw [uF_ne (by omega)]; exact K.kf 42 k (by omega)) (by rw [sA_ne (by decide)]; exact K.ka _ (by decide) (by decide)) (by rw [sA_ne (by decide)]; exact K.ka _ (by decide) (by decide)) (by rw [sA_ne (by decide)]; exact K.ka _ (by decide) (by decide))⟩)
          · exact hkp.Qr h.sr (by rw [uF_ne (by decide)]; exact K.kf _ _ (by decide)) (by rw [uF_ne (by decide)]; exact K.kf _ _ (by decide)) (by rw [sA_ne (by decide)]; exact K.ka _ (by decide) (by decide))
          · rw [sA_ne (by decide), sA_ne (by decide), K.ka 43 (by decide) (by decide), K.ka 44 (by decide) (by decide)]; exact h.b1
          · rw [sA_ne (by decide), sA_ne (by decide), K.ka 48 (by decide) (by decide), K.ka 49 (by decide) (by decide)]; exact h.b2
          · rw [sA_ne (by decide), sA_ne (by decide)]; exact K.b3
        have fi : ∀ z : Int, z = ldR n (loS F A s) i → Q (some (vi z)) (sw (uF F' 66 40 (-1)) (sA A' 67 (A 67))) := fun z ez => by
          rw [← hQ, ez]
          exact ⟨_, _, rfl, rfl, hiv⟩
        have f02 : uF F' 66 40 (-1) 66 0 = n := by rw [uF_ne (by decide)]; exact f0
        have e90 : sA A' 67 (A 67) 90 = A' 90 := sA_ne (by decide)
        refine L_iload eX11_loudest_292 rfl ?_
        refine L_aload_n eX11_loudest_294 rfl ?_
        refine L_get eX11_loudest_295 f_X11_121.g rfl rfl ?_
        -- at 298: .if_icmp .ge 23
        refine V_icmpge eX11_loudest_298 (fun h2 => ?_) (fun h2 => ?_)
        · by_cases c1 : (loS F A s).1 = -1 ∨ i = -1
          · have er : ldR n (loS F A s) i = (loS F A s).1 := if_pos c1
            refine L_aload_n eX11_loudest_321 rfl ?_
            refine V_iconst eX11_loudest_322 ?_
            refine L_put eX11_loudest_323 f_X11_72 rfl rfl ?_
            refine L_lload_n eX11_loudest_326 rfl ?_
            refine L_lconst0 eX11_loudest_327 ?_
            refine V_lcmplt eX11_loudest_328 eX11_loudest_329 (fun h328 => ?_) (fun h328 => ?_)
            · refine L_lload_n eX11_loudest_337 rfl ?_
              refine V_l2i eX11_loudest_338 ?_
              refine V_goto eX11_loudest_339 ?_
              exact V_ireturn eX11_loudest_371 ((fi _ er.symm))
            · refine L_iload_n eX11_loudest_332 rfl ?_
              refine V_iconst eX11_loudest_333 ?_
              refine V_icmpne eX11_loudest_334 (fun h334 => ?_) (fun h334 => ?_)
              · (exfalso; omega)
              · refine L_lload_n eX11_loudest_337 rfl ?_
                refine V_l2i eX11_loudest_338 ?_
                refine V_goto eX11_loudest_339 ?_
                exact V_ireturn eX11_loudest_371 ((fi _ er.symm))
          · by_cases c2 : 0 ≤ i ∧ i < n
            · have hbe := K.be (by omega) i c2.1 c2.2
              have er : ldR n (loS F A s) i = ltT (A' 90 i) := by
                unfold ldR
                rw [if_neg c1, if_pos c2, hbe.2]
              refine L_aload_n eX11_loudest_321 rfl ?_
              refine V_iconst eX11_loudest_322 ?_
              refine L_put eX11_loudest_323 f_X11_72 rfl rfl ?_
              refine L_lload_n eX11_loudest_326 rfl ?_
              refine L_lconst0 eX11_loudest_327 ?_
              refine V_lcmplt eX11_loudest_328 eX11_loudest_329 (fun h328 => ?_) (fun h328 => ?_)
              · (exfalso; omega)
              · refine L_iload_n eX11_loudest_332 rfl ?_
                refine V_iconst eX11_loudest_333 ?_
                refine V_icmpne eX11_loudest_334 (fun h334 => ?_) (fun h334 => ?_)
                · refine L_iload_n eX11_loudest_342 rfl ?_
                  refine V_i2l eX11_loudest_343 ?_
                  refine L_lconst0 eX11_loudest_344 ?_
                  refine L_aload_n eX11_loudest_345 rfl ?_
                  refine L_get eX11_loudest_346 f_X11_121.g rfl rfl ?_
                  refine V_iconst eX11_loudest_349 ?_
                  refine V_isub eX11_loudest_350 ?_
                  refine V_i2l eX11_loudest_351 ?_
                  refine C_s1 (p_X11_in (by omega) (by omega) (by omega)) v_X11_152 eX11_loudest_352 rfl ?_
                  refine V_ifeqB eX11_loudest_355 (fun h355 => ?_) (fun h355 => ?_)
                  · (exfalso; omega)
                  · refine L_aload_n eX11_loudest_358 rfl ?_
                    refine L_getR (r := 90) eX11_loudest_359 f_X11_87.g rfl rfl (by decide) ?_
                    refine L_iload_n eX11_loudest_362 rfl ?_
                    refine L_ialdE eX11_loudest_363 rfl e90 ?_
                    refine C_s1 (p_X11_listed (by omega)) v_X11_371 eX11_loudest_364 rfl ?_
                    refine V_goto eX11_loudest_367 ?_
                    exact V_ireturn eX11_loudest_371 ((fi _ er.symm))
                · (exfalso; omega)
            · have er : ldR n (loS F A s) i = -1 := by
                unfold ldR
                rw [if_neg c1, if_neg c2]
              refine L_aload_n eX11_loudest_321 rfl ?_
              refine V_iconst eX11_loudest_322 ?_
              refine L_put eX11_loudest_323 f_X11_72 rfl rfl ?_
              refine L_lload_n eX11_loudest_326 rfl ?_
              refine L_lconst0 eX11_loudest_327 ?_
              refine V_lcmplt eX11_loudest_328 eX11_loudest_329 (fun h328 => ?_) (fun h328 => ?_)
              · (exfalso; omega)
              · refine L_iload_n eX11_loudest_332 rfl ?_
                refine V_iconst eX11_loudest_333 ?_
                refine V_icmpne eX11_loudest_334 (fun h334 => ?_) (fun h334 => ?_)
                · refine L_iload_n eX11_loudest_342 rfl ?_
                  refine V_i2l eX11_loudest_343 ?_
                  refine L_lconst0 eX11_loudest_344 ?_
                  refine L_aload_n eX11_loudest_345 rfl ?_
                  refine L_get eX11_loudest_346 f_X11_121.g rfl rfl ?_
                  refine V_iconst eX11_loudest_349 ?_
                  refine V_isub eX11_loudest_350 ?_
                  refine V_i2l eX11_loudest_351 ?_
                  refine C_s1 (p_X11_in (by omega) (by omega) (by omega)) v_X11_152 eX11_loudest_352 rfl ?_
                  refine V_ifeqB eX11_loudest_355 (fun h355 => ?_) (fun h355 => ?_)
                  · refine V_iconst eX11_loudest_370 ?_
                    exact V_ireturn eX11_loudest_371 ((fi _ er.symm))
                  · (exfalso; omega)
                · (exfalso; omega)
        · omega
      | succ r ih =>
        intro k x7 x8 x9 e1 e2
        have e88 : sA A' 67 (fun j => if 0 ≤ j ∧ j < k then A' 88 j else A' 67 j) 88 = A' 88 := sA_ne (by decide)
        refine L_iload eX11_loudest_292 rfl ?_
        refine L_aload_n eX11_loudest_294 rfl ?_
        refine L_get eX11_loudest_295 f_X11_121.g rfl rfl ?_
        -- at 298: .if_icmp .ge 23
        refine V_icmpge eX11_loudest_298 (fun h2 => ?_) (fun h2 => ?_)
        · omega
        · refine L_aload_n eX11_loudest_301 rfl ?_
          refine L_getR (r := 67) eX11_loudest_302 f_X11_7.g rfl rfl (by decide) ?_
          refine L_iload eX11_loudest_305 rfl ?_
          refine L_aload_n eX11_loudest_307 rfl ?_
          refine L_getR (r := 88) eX11_loudest_308 f_X11_81.g rfl rfl (by decide) ?_
          refine L_iload eX11_loudest_311 rfl ?_
          refine L_ialdE eX11_loudest_313 rfl e88 ?_
          refine L_iast eX11_loudest_314 rfl ?_
          refine L_iinc eX11_loudest_315 rfl (s_6 rfl rfl) ?_
          refine V_goto eX11_loudest_318 ?_
          rw [sA_sA, sA_eq, show uI (fun j => if 0 ≤ j ∧ j < k then A' 88 j else A' 67 j) k (A' 88 k) = (fun j => if 0 ≤ j ∧ j < k + 1 then A' 88 j else A' 67 j) by
            funext j
            simp only [uI]
            by_cases c : j = k
            · rw [if_pos c, if_pos (by omega), c]
            · rw [if_neg c]
              by_cases d : 0 ≤ j ∧ j < k
              · rw [if_pos d, if_pos (by omega)]
              · rw [if_neg d, if_neg (by omega)]]
          exact ih _ _ _ _ (by omega) (by omega)
    have rs0 := fun x7 x8 x9 => RS n 0 x7 x8 x9 (by omega) (by omega)
    rw [show (fun j => if 0 ≤ j ∧ j < (0 : Int) then A' 88 j else A' 67 j) = A' 67 by funext j; rw [if_neg (by omega)], sA_self] at rs0
    refine V_iconst eX11_loudest_289 ?_
    refine L_istore eX11_loudest_290 (s_6 rfl rfl) ?_
    exact rs0 _ _ _
  have LOOP : ∀ (r : Nat) (F' : fT) (A' : nT) (st : Int × List Int) (l : List Int) (x6 x7 x8 x9 : Option Value), lmK F A F' A' n st l → (rwS r l).foldl (loT F A s) st = loS F A s → enR r l = true → V G mX11_loudest Q 0 0 71 [some (.ref 66), some (vi s), some (vi i), some (vl st.1), none, some (vi 1), x6, x7, x8, x9] [] (sw F' A') := by
    intro r
    induction r with
    | zero => intro F' A' st l x6 x7 x8 x9 K ef er; exact absurd er (by simp [enR])
    | succ r ih =>
      intro F' A' st l x6 x7 x8 x9 K ef er
      obtain ⟨F2, A2, hv, K2⟩ := m_row (s := s) (i := i) h en eT hn hT hs K
      have f02 : F2 66 0 = n := by rw [K2.kf 66 0 (by decide)]; exact f66
      rw [show (rwS (r + 1) l).foldl (loT F A s) st = (match nxR l with | some l' => rwS r l' | none => []).foldl (loT F A s) (loT F A s st l) by cases hx : nxR l <;> simp [rwS, hx]] at ef
      refine L_iload eX11_loudest_71 rfl ?_
      -- at 73: .ifCond .eq 216
      refine V_ifeq eX11_loudest_73 (fun h2 => ?_) (fun h2 => ?_)
      · omega
      · refine hv G Q _ _ _ _ (fun x6 x7 x8 x9 => ?_)
        rcases m_next (s := s) (i := i) f02 hn K2 with ⟨b1, b2⟩ | ⟨A3, l', b1, K3, b2⟩
        · rw [b1] at ef
          rw [show List.foldl (loT F A s) (loT F A s st l) [] = loT F A s st l from rfl] at ef
          refine b2 G Q _ _ _ _ (fun x7 x8 x9 => ?_)
          rw [ef] at K2 ⊢
          refine L_iload eX11_loudest_71 rfl ?_
          -- at 73: .ifCond .eq 216
          refine V_ifeq eX11_loudest_73 (fun h3 => ?_) (fun h3 => ?_)
          · exact fin _ _ _ _ _ _ _ K2
          · omega
        · rw [b1] at ef
          refine b2 G Q _ _ _ _ (fun x7 x8 x9 => ?_)
          refine ih _ _ _ _ _ _ _ _ K3 ef ?_
          rw [enR, b1] at er
          exact er
  -- the beginning
  have INI : ∀ (r : Nat) (k : Int) (H P : Int → Int), k + r = n → 0 ≤ k → (∀ j : Int, 0 ≤ j → j < k → H j = A 67 j ∧ P j = 0) → V G mX11_loudest Q 0 0 31 [some (.ref 66), some (vi s), some (vi i), some (vi k), none, none, none, none, none, none] [] (sw F (s2 A 87 H P)) := by
    intro r
    induction r with
    | zero =>
      intro k H P e1 e2 q
      have e : k = n := by omega
      refine L_iload_n eX11_loudest_31 rfl ?_
      refine L_aload_n eX11_loudest_32 rfl ?_
      refine L_get eX11_loudest_33 f_X11_121.g rfl rfl ?_
      -- at 36: .if_icmp .ge 28
      refine V_icmpge eX11_loudest_36 (fun h2 => ?_) (fun h2 => ?_)
      · refine L_ldc2 eX11_loudest_64 k_X11_369 ?_
        refine L_lstore_n eX11_loudest_67 (t_3 rfl) ?_
        refine V_iconst eX11_loudest_68 ?_
        refine L_istore eX11_loudest_69 (s_5 rfl rfl) ?_
        refine LOOP 495 F (s2 A 87 H P) (-1, []) (List.replicate n 0) _ _ _ _ ?_ ?_ (en_8 n hn.2)
        · have h88 : s2 A 87 H P 88 = H := s2_1
          have h89 : s2 A 87 H P 89 = P := s2_2
          refine lmK.mk (fun _ _ _ => rfl) (fun o p q => s2_o (by omega)) ?_ ?_ ?_ ?_ ?_ ?_ (by show -1 ≤ (-1 : Int) ∧ (-1 : Int) < 400000; omega) (fun p => absurd rfl p)
          · rw [s2_o (by decide), s2_o (by decide)]; exact h.b3
          · exact h.m.2.2.2.2.2.2.2
          · intro j _
            rw [s2_o (by decide)]
          · rw [h88]
            exact fun j a b => (q j a (by omega)).1
          · rw [h89]
            intro j a b
            rw [(q j a (by omega)).2]
            omega
          · rw [h89]
            exact lS_rep n 0 (fun j a b => (q j a (by omega)).2)
        · unfold loS
          rw [en, Int.toNat_natCast]
      · omega
    | succ r ih =>
      intro k H P e1 e2 q
      refine L_iload_n eX11_loudest_31 rfl ?_
      refine L_aload_n eX11_loudest_32 rfl ?_
      refine L_get eX11_loudest_33 f_X11_121.g rfl rfl ?_
      -- at 36: .if_icmp .ge 28
      refine V_icmpge eX11_loudest_36 (fun h2 => ?_) (fun h2 => ?_)
      · omega
      · refine L_aload_n eX11_loudest_39 rfl ?_
        refine L_getR (r := 88) eX11_loudest_40 f_X11_81.g rfl rfl (by decide) ?_
        refine L_iload_n eX11_loudest_43 rfl ?_
        refine L_aload_n eX11_loudest_44 rfl ?_
        refine L_getR (r := 67) eX11_loudest_45 f_X11_7.g rfl rfl (by decide) ?_
        refine L_iload_n eX11_loudest_48 rfl ?_
        refine Z_ialdo eX11_loudest_49 rfl (by decide) ?_
        refine Z_iast1 (f := 87) eX11_loudest_50 rfl ?_
        refine L_aload_n eX11_loudest_51 rfl ?_
        refine L_getR (r := 89) eX11_loudest_52 f_X11_84.g rfl rfl (by decide) ?_
        refine L_iload_n eX11_loudest_55 rfl ?_
        refine V_iconst eX11_loudest_56 ?_
        refine Z_iast2 (f := 87) eX11_loudest_57 rfl ?_
        refine L_iinc eX11_loudest_58 rfl (s_3 rfl rfl) ?_
        refine V_goto eX11_loudest_61 ?_
        refine ih _ _ _ (by omega) (by omega) (fun j a b => ?_)
        simp only [uI]
        by_cases c : j = k
        · rw [if_pos c, if_pos c, c]
          exact ⟨rfl, rfl⟩
        · rw [if_neg c, if_neg c]
          exact q j a (by omega)
  have go : V G mX11_loudest Q 0 0 29 [some (.ref 66), some (vi s), some (vi i), none, none, none, none, none, none, none] [] (sw F A) := by
    refine V_iconst eX11_loudest_29 ?_
    refine L_istore_n eX11_loudest_30 (s_3 rfl rfl) ?_
    have := INI n 0 (A 88) (A 89) (by omega) (by omega) (fun j a b => by omega)
    rw [show s2 A 87 (A 88) (A 89) = A from s2_self] at this
    exact this
  refine L_iload_n eX11_loudest_0 rfl ?_
  refine V_i2l eX11_loudest_1 ?_
  refine L_lconst1 eX11_loudest_2 ?_
  refine L_ldc2 eX11_loudest_3 k_X11_367 ?_
  refine C_s1 (p_X11_in (by omega) (by omega) (by omega)) v_X11_152 eX11_loudest_6 rfl ?_
  refine V_ifneB eX11_loudest_9 (fun h9 => ?_) (fun h9 => ?_)
  · refine L_aload_n eX11_loudest_16 rfl ?_
    refine L_get eX11_loudest_17 f_X11_121.g rfl rfl ?_
    refine L_bipush eX11_loudest_20 rfl ?_
    refine V_icmple eX11_loudest_22 (fun h22 => ?_) (fun h22 => ?_)
    · exact go
    · (exfalso; omega)
  · (exfalso; omega)
theorem pw_loudest (h : Iv F A) {s i : Int} (hs : i32 s) (hi : i32 i) : Pw mX10_loudest mX11_loudest [vi s, vi i] F A := by
  unfold i32 at hs
  have hi' := hi
  unfold i32 at hi'
  obtain ⟨n, T, en, eT, hn, hT⟩ := iv_nat h
  have f66 : F 66 0 = n := by rw [h.s.n]; exact en
  by_cases h1 : 1 ≤ s ∧ s ≤ 96
  · by_cases h2 : n ≤ 8
    · intro G
      refine ⟨(fun r w => ∃ F1 A1, r = some (vi (ldR n (loS F A s) i)) ∧ w = sw F1 A1 ∧ Iv F1 A1 ∧ kp F A F1 A1), ?_, fun r w e => ?_⟩
      · refine L_ent [some (.ref 0), some (vi s), some (vi i)] rfl ?_
        generalize hQ : (fun (r : Option Value) (w : wT) => ∃ F1 A1, r = some (vi (ldR n (loS F A s) i)) ∧ w = sw F1 A1 ∧ Iv F1 A1 ∧ kp F A F1 A1) = Q
        have fin : ∀ (F1 : fT) (A1 : nT), Iv F1 A1 → kp F A F1 A1 → F1 52 0 = s → V G mX10_loudest Q 0 0 65 [some (.ref 0), some (vi s), some (vi i)] [] (sw F1 A1) := by
          intro F1 A1 i1 k1 e52
          have lob := loS_b (s := s) h en eT hn hT
          have hsr : F1 52 1 = (loS F A s).1 ∧ (F1 52 1 ≠ -1 → eqO n (A1 53) (stL (loS F A s).2)) := by
            have := i1.sr
            unfold srK at this
            rw [k1.Ql, e52, k1.1 2 0 rfl, en] at this
            rcases this with q | q
            · omega
            · exact q.2.2
          have e2 : F1 2 0 = n := by rw [k1.1 2 0 rfl]; exact en
          have fi : ∀ z : Int, z = ldR n (loS F A s) i → Q (some (vi z)) (sw F1 A1) := fun z ez => by
            rw [← hQ, ez]
            exact ⟨_, _, rfl, rfl, i1, k1⟩
          have g1 := hsr.1
          by_cases c1 : (loS F A s).1 = -1 ∨ i = -1
          · have er : ldR n (loS F A s) i = (loS F A s).1 := if_pos c1
            refine L_iload_n eX10_loudest_65 rfl ?_
            refine V_iconst eX10_loudest_66 ?_
            refine V_icmpne eX10_loudest_67 (fun h67 => ?_) (fun h67 => ?_)
            · refine L_iload_n eX10_loudest_78 rfl ?_
              refine V_iflt eX10_loudest_79 (fun h79 => ?_) (fun h79 => ?_)
              · refine V_iconst eX10_loudest_107 ?_
                exact V_ireturn eX10_loudest_108 ((fi _ (by rw [er]; omega)))
              · refine L_iload_n eX10_loudest_82 rfl ?_
                refine L_aload_n eX10_loudest_83 rfl ?_
                refine L_getR (r := 1) eX10_loudest_84 f_X10_10.g rfl rfl (by decide) ?_
                refine L_getR (r := 2) eX10_loudest_87 f_X10_112 rfl rfl (by decide) ?_
                refine L_get eX10_loudest_90 f_X10_126.g rfl rfl ?_
                refine V_icmpge eX10_loudest_93 (fun h93 => ?_) (fun h93 => ?_)
                · refine V_iconst eX10_loudest_107 ?_
                  exact V_ireturn eX10_loudest_108 ((fi _ (by rw [er]; omega)))
                · refine L_aload_n eX10_loudest_96 rfl ?_
                  refine L_getR (r := 52) eX10_loudest_97 f_X10_56.g rfl rfl (by decide) ?_
                  refine L_get eX10_loudest_100 f_X10_266.g rfl rfl ?_
                  refine V_iconst eX10_loudest_103 ?_
                  refine V_icmpne eX10_loudest_104 (fun h104 => ?_) (fun h104 => ?_)
                  · (exfalso; omega)
                  · refine V_iconst eX10_loudest_107 ?_
                    exact V_ireturn eX10_loudest_108 ((fi _ (by rw [er]; omega)))
            · refine L_aload_n eX10_loudest_70 rfl ?_
              refine L_getR (r := 52) eX10_loudest_71 f_X10_56.g rfl rfl (by decide) ?_
              refine L_get eX10_loudest_74 f_X10_266.g rfl rfl ?_
              exact V_ireturn eX10_loudest_77 ((fi _ (by rw [er]; omega)))
          · by_cases c2 : 0 ≤ i ∧ i < n
            · have er : ldR n (loS F A s) i = A1 53 i := by
                unfold ldR
                rw [if_neg c1, if_pos c2, hsr.2 (by omega) i c2.1 c2.2]
              refine L_iload_n eX10_loudest_65 rfl ?_
              refine V_iconst eX10_loudest_66 ?_
              refine V_icmpne eX10_loudest_67 (fun h67 => ?_) (fun h67 => ?_)
              · refine L_iload_n eX10_loudest_78 rfl ?_
                refine V_iflt eX10_loudest_79 (fun h79 => ?_) (fun h79 => ?_)
                · (exfalso; omega)
                · refine L_iload_n eX10_loudest_82 rfl ?_
                  refine L_aload_n eX10_loudest_83 rfl ?_
                  refine L_getR (r := 1) eX10_loudest_84 f_X10_10.g rfl rfl (by decide) ?_
                  refine L_getR (r := 2) eX10_loudest_87 f_X10_112 rfl rfl (by decide) ?_
                  refine L_get eX10_loudest_90 f_X10_126.g rfl rfl ?_
                  refine V_icmpge eX10_loudest_93 (fun h93 => ?_) (fun h93 => ?_)
                  · (exfalso; omega)
                  · refine L_aload_n eX10_loudest_96 rfl ?_
                    refine L_getR (r := 52) eX10_loudest_97 f_X10_56.g rfl rfl (by decide) ?_
                    refine L_get eX10_loudest_100 f_X10_266.g rfl rfl ?_
                    refine V_iconst eX10_loudest_103 ?_
                    refine V_icmpne eX10_loudest_104 (fun h104 => ?_) (fun h104 => ?_)
                    · refine L_aload_n eX10_loudest_109 rfl ?_
                      refine L_getR (r := 52) eX10_loudest_110 f_X10_56.g rfl rfl (by decide) ?_
                      refine L_getR (r := 53) eX10_loudest_113 f_X10_269 rfl rfl (by decide) ?_
                      refine L_iload_n eX10_loudest_116 rfl ?_
                      refine L_iald eX10_loudest_117 rfl ?_
                      exact V_ireturn eX10_loudest_118 ((fi _ er.symm))
                    · (exfalso; omega)
              · (exfalso; omega)
            · have er : ldR n (loS F A s) i = -1 := by
                unfold ldR
                rw [if_neg c1, if_neg c2]
              refine L_iload_n eX10_loudest_65 rfl ?_
              refine V_iconst eX10_loudest_66 ?_
              refine V_icmpne eX10_loudest_67 (fun h67 => ?_) (fun h67 => ?_)
              · refine L_iload_n eX10_loudest_78 rfl ?_
                refine V_iflt eX10_loudest_79 (fun h79 => ?_) (fun h79 => ?_)
                · refine V_iconst eX10_loudest_107 ?_
                  exact V_ireturn eX10_loudest_108 ((fi _ er.symm))
                · refine L_iload_n eX10_loudest_82 rfl ?_
                  refine L_aload_n eX10_loudest_83 rfl ?_
                  refine L_getR (r := 1) eX10_loudest_84 f_X10_10.g rfl rfl (by decide) ?_
                  refine L_getR (r := 2) eX10_loudest_87 f_X10_112 rfl rfl (by decide) ?_
                  refine L_get eX10_loudest_90 f_X10_126.g rfl rfl ?_
                  refine V_icmpge eX10_loudest_93 (fun h93 => ?_) (fun h93 => ?_)
                  · refine V_iconst eX10_loudest_107 ?_
                    exact V_ireturn eX10_loudest_108 ((fi _ er.symm))
                  · refine L_aload_n eX10_loudest_96 rfl ?_
                    refine L_getR (r := 52) eX10_loudest_97 f_X10_56.g rfl rfl (by decide) ?_
                    refine L_get eX10_loudest_100 f_X10_266.g rfl rfl ?_
                    refine V_iconst eX10_loudest_103 ?_
                    refine V_icmpne eX10_loudest_104 (fun h104 => ?_) (fun h104 => ?_)
                    · (exfalso; omega)
                    · refine V_iconst eX10_loudest_107 ?_
                      exact V_ireturn eX10_loudest_108 ((fi _ er.symm))
              · (exfalso; omega)
        have hsr0 : F 52 0 = -1 ∨ 1 ≤ F 52 0 ∧ F 52 0 ≤ 96 := by
          rcases h.sr with q | q
          · exact Or.inl q
          · exact Or.inr q.1
        have run : V G mX10_loudest Q 0 0 45 [some (.ref 0), some (vi s), some (vi i)] [] (sw F A) := by
          refine L_aload_n eX10_loudest_45 rfl ?_
          refine L_getR (r := 52) eX10_loudest_46 f_X10_56.g rfl rfl (by decide) ?_
          refine L_aload_n eX10_loudest_49 rfl ?_
          refine L_getR (r := 1) eX10_loudest_50 f_X10_10.g rfl rfl (by decide) ?_
          refine L_aload_n eX10_loudest_53 rfl ?_
          refine L_getR (r := 47) eX10_loudest_54 f_X10_50.g rfl rfl (by decide) ?_
          refine L_aload_n eX10_loudest_57 rfl ?_
          refine L_get eX10_loudest_58 f_X10_74.g rfl rfl ?_
          refine L_iload_n eX10_loudest_61 rfl ?_
          refine C_vq (c_run h en eT ⟨hn.1, h2⟩ hT h1 G) v_X10_262 eX10_loudest_62 rfl rfl (fun r' w' e' => ?_)
          obtain ⟨F1, A1, er, ew, i1, k1, e52⟩ := e'
          subst er ew
          exact fin F1 A1 i1 k1 e52
        refine L_iload_n eX10_loudest_0 rfl ?_
        refine V_iconst eX10_loudest_1 ?_
        refine V_icmplt eX10_loudest_2 (fun h2 => ?_) (fun h2 => ?_)
        · (exfalso; omega)
        · refine L_iload_n eX10_loudest_5 rfl ?_
          refine L_bipush eX10_loudest_6 rfl ?_
          refine V_icmple eX10_loudest_8 (fun h8 => ?_) (fun h8 => ?_)
          · refine L_aload_n eX10_loudest_15 rfl ?_
            refine L_getR (r := 1) eX10_loudest_16 f_X10_10.g rfl rfl (by decide) ?_
            refine L_getR (r := 2) eX10_loudest_19 f_X10_112 rfl rfl (by decide) ?_
            refine L_get eX10_loudest_22 f_X10_126.g rfl rfl ?_
            refine L_bipush eX10_loudest_25 rfl ?_
            refine V_icmple eX10_loudest_27 (fun h27 => ?_) (fun h27 => ?_)
            · refine L_aload_n eX10_loudest_34 rfl ?_
              refine L_getR (r := 52) eX10_loudest_35 f_X10_56.g rfl rfl (by decide) ?_
              refine L_get eX10_loudest_38 f_X10_259.g rfl rfl ?_
              refine L_iload_n eX10_loudest_41 rfl ?_
              refine V_icmpeq eX10_loudest_42 (fun h42 => ?_) (fun h42 => ?_)
              · exact fin F A h kp.rfl' (by omega)
              · exact run
            · (exfalso; omega)
          · (exfalso; omega)
      · obtain ⟨F1, A1, er, ew, i1, k1⟩ := e
        have hna := k1.na en eT
        have hm := m_loudest (s := s) (i := i) i1 hna.1 hna.2 ⟨hn.1, h2⟩ hT h1 hi G
        rw [k1.Ql] at hm
        exact ⟨_, F1, A1, er, ew, ty_v, _, hm, fun r' w' e' => e'⟩
    · refine Pr.w ⟨vi (-1003), F, A, F, A, fun G => ?_, fun G => ?_, h, ty_v⟩
      · refine L_ent [some (.ref 0), some (vi s), some (vi i)] rfl ?_
        refine L_iload_n eX10_loudest_0 rfl ?_
        refine V_iconst eX10_loudest_1 ?_
        refine V_icmplt eX10_loudest_2 (fun h2 => ?_) (fun h2 => ?_)
        · (exfalso; omega)
        · refine L_iload_n eX10_loudest_5 rfl ?_
          refine L_bipush eX10_loudest_6 rfl ?_
          refine V_icmple eX10_loudest_8 (fun h8 => ?_) (fun h8 => ?_)
          · refine L_aload_n eX10_loudest_15 rfl ?_
            refine L_getR (r := 1) eX10_loudest_16 f_X10_10.g rfl rfl (by decide) ?_
            refine L_getR (r := 2) eX10_loudest_19 f_X10_112 rfl rfl (by decide) ?_
            refine L_get eX10_loudest_22 f_X10_126.g rfl rfl ?_
            refine L_bipush eX10_loudest_25 rfl ?_
            refine V_icmple eX10_loudest_27 (fun h27 => ?_) (fun h27 => ?_)
            · (exfalso; omega)
            · refine L_sipush eX10_loudest_30 rfl ?_
              exact V_ireturn eX10_loudest_33 ((by first | (exfalso; omega) | exact ⟨rfl, rfl⟩))
          · (exfalso; omega)
      · refine L_ent [some (.ref 66), some (vi s), some (vi i), none, none, none, none, none, none, none] rfl ?_
        refine L_iload_n eX11_loudest_0 rfl ?_
        refine V_i2l eX11_loudest_1 ?_
        refine L_lconst1 eX11_loudest_2 ?_
        refine L_ldc2 eX11_loudest_3 k_X11_367 ?_
        refine C_s1 (p_X11_in (by omega) (by omega) (by omega)) v_X11_152 eX11_loudest_6 rfl ?_
        refine V_ifneB eX11_loudest_9 (fun h9 => ?_) (fun h9 => ?_)
        · refine L_aload_n eX11_loudest_16 rfl ?_
          refine L_get eX11_loudest_17 f_X11_121.g rfl rfl ?_
          refine L_bipush eX11_loudest_20 rfl ?_
          refine V_icmple eX11_loudest_22 (fun h22 => ?_) (fun h22 => ?_)
          · (exfalso; omega)
          · refine L_sipush eX11_loudest_25 rfl ?_
            exact V_ireturn eX11_loudest_28 ((by first | (exfalso; omega) | exact ⟨rfl, rfl⟩))
        · (exfalso; omega)
  · refine Pr.w ⟨vi (-1002), F, A, F, A, fun G => ?_, fun G => ?_, h, ty_v⟩
    · refine L_ent [some (.ref 0), some (vi s), some (vi i)] rfl ?_
      refine L_iload_n eX10_loudest_0 rfl ?_
      refine V_iconst eX10_loudest_1 ?_
      refine V_icmplt eX10_loudest_2 (fun h2 => ?_) (fun h2 => ?_)
      · refine L_sipush eX10_loudest_11 rfl ?_
        exact V_ireturn eX10_loudest_14 ((by first | (exfalso; omega) | exact ⟨rfl, rfl⟩))
      · refine L_iload_n eX10_loudest_5 rfl ?_
        refine L_bipush eX10_loudest_6 rfl ?_
        refine V_icmple eX10_loudest_8 (fun h8 => ?_) (fun h8 => ?_)
        · (exfalso; omega)
        · refine L_sipush eX10_loudest_11 rfl ?_
          exact V_ireturn eX10_loudest_14 ((by first | (exfalso; omega) | exact ⟨rfl, rfl⟩))
    · refine L_ent [some (.ref 66), some (vi s), some (vi i), none, none, none, none, none, none, none] rfl ?_
      refine L_iload_n eX11_loudest_0 rfl ?_
      refine V_i2l eX11_loudest_1 ?_
      refine L_lconst1 eX11_loudest_2 ?_
      refine L_ldc2 eX11_loudest_3 k_X11_367 ?_
      refine C_s1 (p_X11_in (by omega) (by omega) (by omega)) v_X11_152 eX11_loudest_6 rfl ?_
      refine V_ifneB eX11_loudest_9 (fun h9 => ?_) (fun h9 => ?_)
      · (exfalso; omega)
      · refine L_sipush eX11_loudest_12 rfl ?_
        exact V_ireturn eX11_loudest_15 ((by first | (exfalso; omega) | exact ⟨rfl, rfl⟩))
end P91

