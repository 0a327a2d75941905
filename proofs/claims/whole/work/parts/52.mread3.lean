/-! the reference lays its CRACKS into rows -/
def lsF (L : List (Int × Int)) (p : Int × Int → Int) (f : Int → Int) : Int → Int := fun i => if i < 0 then f i else match L[i.toNat]? with
  | some e => p e
  | none => f i
theorem lsF_nil {p : Int × Int → Int} {f : Int → Int} : lsF [] p f = f := by
  funext i
  unfold lsF
  split <;> simp
theorem lsF_add {L : List (Int × Int)} {p : Int × Int → Int} {f : Int → Int} {e : Int × Int} : uI (lsF L p f) L.length (p e) = lsF (L ++ [e]) p f := by
  funext i
  unfold uI lsF
  by_cases h : i < 0
  · rw [if_pos h, if_pos h, if_neg (by omega)]
  · rw [if_neg h, if_neg h]
    by_cases h2 : i = L.length
    · rw [if_pos h2]
      have e : i.toNat = L.length := by omega
      rw [e]
      simp
    · rw [if_neg h2]
      by_cases h3 : i.toNat < L.length
      · rw [List.getElem?_append_left h3]
      · rw [List.getElem?_eq_none (by omega), List.getElem?_eq_none (by simp; omega)]
theorem lsF_at {L : List (Int × Int)} {p : Int × Int → Int} {f : Int → Int} {i : Nat} (h : i < L.length) : lsF L p f i = p L[i] := by
  unfold lsF
  rw [if_neg (by omega), show ((i : Int).toNat) = i by omega, List.getElem?_eq_getElem h]
theorem ckI_len {X Y : Int → Int} {p t : Int} : ∀ i : Nat, (ckI X Y p t i).length ≤ i := by
  intro i
  induction i with
  | zero => exact Nat.le_refl _
  | succ i ih =>
    rw [ckI, List.length_append]
    split <;> simp <;> omega
theorem ckL_len {X Y : Int → Int} {p : Int} {n : Nat} (hn : n ≤ 12) : ∀ j : Nat, (ckL X Y p n j).length ≤ 12 * j := by
  intro j
  induction j with
  | zero => exact Nat.le_refl _
  | succ j ih =>
    rw [ckL, List.length_append]
    have := ckI_len (X := X) (Y := Y) (p := p) (t := j + 1) n
    omega
def fcW (F : fT) (A : nT) (L : List (Int × Int)) : wT := sw (uF F 66 41 L.length) (s2 A 85 (lsF L Prod.fst (A 86)) (lsF L Prod.snd (A 87)))
theorem fcW_nil {F : fT} {A : nT} : fcW F A [] = sw (uF F 66 41 0) A := by
  unfold fcW
  rw [lsF_nil, lsF_nil, show s2 A 85 (A 86) (A 87) = A from s2_self]
  rfl
theorem fcW_add {F : fT} {A : nT} {L : List (Int × Int)} {t k : Int} : sw (uF F 66 41 (L.length + 1)) (s2 A 85 (uI (lsF L Prod.fst (A 86)) L.length t) (uI (lsF L Prod.snd (A 87)) L.length k)) = fcW F A (L ++ [(t, k)]) := by
  unfold fcW
  rw [← lsF_add (p := Prod.fst) (e := (t, k)), ← lsF_add (p := Prod.snd) (e := (t, k)), List.length_append]
  rfl
section P52
variable {G : gT} {F : fT} {A : nT}
theorem p_X11_speedOf2 {k t : Int} {P R : Int → Int} (hb : bA (A 84, A 85)) (hk : 0 ≤ k ∧ k ≤ 12) (ht : 1 ≤ t ∧ t ≤ 60) : Pu G mX11_speedOf [.ref 66, vi k, vi t] F (s2 A 85 P R) (vl (rt (mv (A 84) (A 85) k t))) := by
  have e1 : s2 A 85 P R 84 = A 84 := s2_o (by decide)
  have e2 : s2 A 85 P R 85 = A 85 := s2_o (by decide)
  have h := p_X11_speedOf (G := G) (F := F) (A := s2 A 85 P R) (k := k) (t := t) (by rw [e1, e2]; exact hb) hk ht
  rw [e1, e2] at h
  exact h
theorem p_X11_findCracks {n T : Nat} (hb : bA (A 84, A 85)) (hp : 10 ≤ A 72 3 ∧ A 72 3 ≤ 2000) (h0 : F 66 0 = n) (h1 : F 66 5 = T) (hn : n ≤ 12) (hT : T ≤ 60) : Mu G mX11_findCracks [.ref 66] F A none (uF F 66 41 (ckL (A 84) (A 85) (A 72 3) n T).length) (s2 A 85 (lsF (ckL (A 84) (A 85) (A 72 3) n T) Prod.fst (A 86)) (lsF (ckL (A 84) (A 85) (A 72 3) n T) Prod.snd (A 87))) := by
  refine L_ent [some (.ref 66), none, none, none] rfl ?_
  generalize hQ : (fun (r' : Option Value) (w : wT) => r' = none ∧ w = sw (uF F 66 41 (ckL (A 84) (A 85) (A 72 3) n T).length) (s2 A 85 (lsF (ckL (A 84) (A 85) (A 72 3) n T) Prod.fst (A 86)) (lsF (ckL (A 84) (A 85) (A 72 3) n T) Prod.snd (A 87)))) = Q
  refine L_aload_n eX11_findCracks_0 rfl ?_
  refine V_iconst eX11_findCracks_1 ?_
  refine L_put eX11_findCracks_2 f_X11_326 rfl rfl ?_
  refine V_iconst eX11_findCracks_5 ?_
  refine L_istore_n eX11_findCracks_6 (s_1 rfl rfl) ?_
  rw [← fcW_nil]
  have LOOP : ∀ (r j : Nat) (t : Int) (x2 x3 : Option Value), T < r + j → j ≤ T → t = j + 1 → V G mX11_findCracks Q 0 0 7 [some (.ref 66), some (vi t), x2, x3] [] (fcW F A (ckL (A 84) (A 85) (A 72 3) n j)) := by
    intro r
    induction r with
    | zero => intro j t x2 x3 e1 e2; omega
    | succ r ih =>
      intro j t x2 x3 e1 e2 et
      have f5 : uF F 66 41 (ckL (A 84) (A 85) (A 72 3) n j).length 66 5 = T := by rw [uF_ne (by decide)]; exact h1
      unfold fcW
      refine L_iload_n eX11_findCracks_7 rfl ?_
      refine L_aload_n eX11_findCracks_8 rfl ?_
      refine L_get eX11_findCracks_9 f_X11_127.g rfl rfl ?_
      -- at 12: .if_icmp .gt 106
      refine V_icmpgt eX11_findCracks_12 (fun h2 => ?_) (fun h2 => ?_)
      · have e : j = T := by omega
        subst e
        exact V_return eX11_findCracks_118 (by rw [← hQ]; exact ⟨rfl, rfl⟩)
      · have hLj := ckL_len (X := A 84) (Y := A 85) (p := A 72 3) hn j
        have IN : ∀ (r i : Nat) (k : Int) (x3 : Option Value), n < r + i → i ≤ n → k = i + 1 → V G mX11_findCracks Q 0 0 17 [some (.ref 66), some (vi t), some (vi k), x3] [] (fcW F A (ckL (A 84) (A 85) (A 72 3) n j ++ ckI (A 84) (A 85) (A 72 3) t i)) := by
          intro r
          induction r with
          | zero => intro i k x3 e3 e4; omega
          | succ r ihr =>
            intro i k x3 e3 e4 ek
            have ihn := fun x2 x3 => ih (j + 1) (t + 1) x2 x3
            rw [ckL, ← et] at ihn
            have ihi := fun x3 => ihr (i + 1) (k + 1) x3
            have hs : ckI (A 84) (A 85) (A 72 3) t (i + 1) = ckI (A 84) (A 85) (A 72 3) t i ++ (if ckP (A 84) (A 85) (A 72 3) k t then [(t, k)] else []) := by rw [ek]; rfl
            rw [hs, ← List.append_assoc] at ihi
            have hLi := ckI_len (X := A 84) (Y := A 85) (p := A 72 3) (t := t) i
            have hL2 : (ckL (A 84) (A 85) (A 72 3) n j ++ ckI (A 84) (A 85) (A 72 3) t i).length ≤ 12 * j + i := by rw [List.length_append]; omega
            have ihe : i = n → fcW F A (ckL (A 84) (A 85) (A 72 3) n j ++ ckI (A 84) (A 85) (A 72 3) t i) = fcW F A (ckL (A 84) (A 85) (A 72 3) n j ++ ckI (A 84) (A 85) (A 72 3) t n) := fun e => by rw [e]
            generalize ckL (A 84) (A 85) (A 72 3) n j ++ ckI (A 84) (A 85) (A 72 3) t i = L at ihi hL2 ihe
            have f0 : uF F 66 41 L.length 66 0 = n := by rw [uF_ne (by decide)]; exact h0
            have f41 : uF F 66 41 L.length 66 41 = L.length := uF_eq
            unfold fcW at ihe ⊢
            refine L_iload_n eX11_findCracks_17 rfl ?_
            refine L_aload_n eX11_findCracks_18 rfl ?_
            refine L_get eX11_findCracks_19 f_X11_121.g rfl rfl ?_
            -- at 22: .if_icmp .gt 90
            refine V_icmpgt eX11_findCracks_22 (fun h3 => ?_) (fun h3 => ?_)
            · rw [ihe (by omega)]
              refine L_iinc eX11_findCracks_112 rfl (s_1 rfl rfl) ?_
              refine V_goto eX11_findCracks_115 ?_
              exact ihn _ _ (by omega) (by omega) (by omega)
            · have hm := mv_b hb (k := k) (t := t) (by omega) (by omega)
              have hm2 := hm.2.2.2.2
              have hge := rt_ge (n := mv (A 84) (A 85) k t) (r := A 72 3) hm2.1 (by omega)
              refine L_aload_n eX11_findCracks_25 rfl ?_
              refine L_iload_n eX11_findCracks_26 rfl ?_
              refine L_iload_n eX11_findCracks_27 rfl ?_
              refine C_v1 (p_X11_speedOf2 hb (by omega) (by omega)) v_X11_314 eX11_findCracks_28 rfl rfl ?_
              refine L_aload_n eX11_findCracks_31 rfl ?_
              refine L_getR (r := 72) eX11_findCracks_32 f_X11_25.g rfl rfl (by decide) ?_
              refine V_iconst eX11_findCracks_35 ?_
              refine Z_ialdo eX11_findCracks_36 rfl (by decide) ?_
              refine V_i2l eX11_findCracks_37 ?_
              -- at 38: .lcmp
              refine V_lcmplt eX11_findCracks_38 eX11_findCracks_39 (fun h4 => ?_) (fun h4 => ?_)
              · rw [if_neg (fun hc => by have := hge.mpr hc.1.2; omega), List.append_nil] at ihi
                unfold fcW at ihi
                refine V_iconst eX11_findCracks_46 ?_
                refine L_istore_n eX11_findCracks_47 (s_3 rfl rfl) ?_
                refine L_iload_n eX11_findCracks_48 rfl ?_
                -- at 49: .ifCond .eq 57
                refine V_ifeq eX11_findCracks_49 (fun h5 => ?_) (fun h5 => ?_)
                · refine L_iinc eX11_findCracks_106 rfl (s_2 rfl rfl) ?_
                  refine V_goto eX11_findCracks_109 ?_
                  exact ihi _ (by omega) (by omega) (by omega)
                · omega
              · have hf : A 72 3 * A 72 3 ≤ mv (A 84) (A 85) k t := hge.mp (by omega)
                have CR : (ckP (A 84) (A 85) (A 72 3) k t) → ∀ x3, V G mX11_findCracks Q 0 0 76 [some (.ref 66), some (vi t), some (vi k), x3] [] (sw (uF F 66 41 L.length) (s2 A 85 (lsF L Prod.fst (A 86)) (lsF L Prod.snd (A 87)))) := by
                  intro hc x3
                  rw [if_pos hc, ← fcW_add] at ihi
                  refine L_aload_n eX11_findCracks_76 rfl ?_
                  refine L_getR (r := 86) eX11_findCracks_77 f_X11_75.g rfl rfl (by decide) ?_
                  refine L_aload_n eX11_findCracks_80 rfl ?_
                  refine L_get eX11_findCracks_81 f_X11_326.g rfl rfl ?_
                  refine V.topi f41 ?_
                  refine L_iload_n eX11_findCracks_84 rfl ?_
                  refine Z_iast1 (f := 85) eX11_findCracks_85 rfl ?_
                  refine L_aload_n eX11_findCracks_86 rfl ?_
                  refine L_getR (r := 87) eX11_findCracks_87 f_X11_78.g rfl rfl (by decide) ?_
                  refine L_aload_n eX11_findCracks_90 rfl ?_
                  refine L_get eX11_findCracks_91 f_X11_326.g rfl rfl ?_
                  refine V.topi f41 ?_
                  refine L_iload_n eX11_findCracks_94 rfl ?_
                  refine Z_iast2 (f := 85) eX11_findCracks_95 rfl ?_
                  refine L_aload_n eX11_findCracks_96 rfl ?_
                  refine L_dup eX11_findCracks_97 ?_
                  refine L_get eX11_findCracks_98 f_X11_326.g rfl rfl ?_
                  refine V.topi f41 ?_
                  refine V_iconst eX11_findCracks_101 ?_
                  refine V_iadd eX11_findCracks_102 ?_
                  refine L_put eX11_findCracks_103 f_X11_326 rfl rfl ?_
                  rw [uF_uF]
                  refine L_iinc eX11_findCracks_106 rfl (s_2 rfl rfl) ?_
                  refine V_goto eX11_findCracks_109 ?_
                  exact ihi _ (by omega) (by omega) (by omega)
                refine V_iconst eX11_findCracks_42 ?_
                refine V_goto eX11_findCracks_43 ?_
                refine L_istore_n eX11_findCracks_47 (s_3 rfl rfl) ?_
                refine L_iload_n eX11_findCracks_48 rfl ?_
                -- at 49: .ifCond .eq 57
                refine V_ifeq eX11_findCracks_49 (fun h5 => ?_) (fun h5 => ?_)
                · omega
                · refine L_iload_n eX11_findCracks_52 rfl ?_
                  refine V_iconst eX11_findCracks_53 ?_
                  -- at 54: .if_icmp .eq 22
                  refine V_icmpeq eX11_findCracks_54 (fun h6 => ?_) (fun h6 => ?_)
                  · exact CR ⟨⟨by omega, hf⟩, fun hc => by omega⟩ _
                  · have hn1 := mv_b hb (k := k) (t := t - 1) (by omega) (by omega)
                    have hn2 := hn1.2.2.2.2
                    have hge2 := rt_ge (n := mv (A 84) (A 85) k (t - 1)) (r := A 72 3) hn2.1 (by omega)
                    refine L_aload_n eX11_findCracks_57 rfl ?_
                    refine L_iload_n eX11_findCracks_58 rfl ?_
                    refine L_iload_n eX11_findCracks_59 rfl ?_
                    refine V_iconst eX11_findCracks_60 ?_
                    refine V_isub eX11_findCracks_61 ?_
                    refine C_v1 (p_X11_speedOf2 hb (by omega) (by omega)) v_X11_314 eX11_findCracks_62 rfl rfl ?_
                    refine L_aload_n eX11_findCracks_65 rfl ?_
                    refine L_getR (r := 72) eX11_findCracks_66 f_X11_25.g rfl rfl (by decide) ?_
                    refine V_iconst eX11_findCracks_69 ?_
                    refine Z_ialdo eX11_findCracks_70 rfl (by decide) ?_
                    refine V_i2l eX11_findCracks_71 ?_
                    -- at 72: .lcmp
                    refine V_lcmpge eX11_findCracks_72 eX11_findCracks_73 (fun h7 => ?_) (fun h7 => ?_)
                    · rw [if_neg (fun hc => hc.2 ⟨by omega, hge2.mp (by omega)⟩), List.append_nil] at ihi
                      unfold fcW at ihi
                      refine L_iinc eX11_findCracks_106 rfl (s_2 rfl rfl) ?_
                      refine V_goto eX11_findCracks_109 ?_
                      exact ihi _ (by omega) (by omega) (by omega)
                    · exact CR ⟨⟨by omega, hf⟩, fun hc => by have := hge2.mpr hc.2; omega⟩ _
        refine V_iconst eX11_findCracks_15 ?_
        refine L_istore_n eX11_findCracks_16 (s_2 rfl rfl) ?_
        have := IN (n + 1) 0 1 x3 (by omega) (by omega) (by omega)
        rw [ckI, List.append_nil] at this
        exact this
  exact LOOP (T + 1) 0 1 _ _ (by omega) (by omega) (by omega)
end P52

