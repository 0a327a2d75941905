/-- the best of the HANDS from g on -/
noncomputable def bsS (C : Int → Prop) (v : Int → Int) : Nat → Int → Int × Int → Int × Int
  | 0, _, s => s
  | r + 1, g, s => bsS C v r (g + 10) (@ite _ (C g ∧ (s.1 < 0 ∨ v g < s.2)) (Classical.propDecidable _) (g, v g) s)
theorem bsS_p {C : Int → Prop} {v : Int → Int} {r : Nat} {g : Int} {s : Int × Int} (h : C g ∧ (s.1 < 0 ∨ v g < s.2)) : bsS C v (r + 1) g s = bsS C v r (g + 10) (g, v g) := by
  rw [bsS, if_pos h]
theorem bsS_n {C : Int → Prop} {v : Int → Int} {r : Nat} {g : Int} {s : Int × Int} (h : ¬ (C g ∧ (s.1 < 0 ∨ v g < s.2))) : bsS C v (r + 1) g s = bsS C v r (g + 10) s := by
  rw [bsS, if_neg h]
theorem bsS_1 {v : Int → Int} : ∀ (r : Nat) (g : Int) (s : Int × Int), 0 ≤ g → 0 < r ∨ 0 ≤ s.1 → 0 ≤ (bsS (fun _ => True) v r g s).1 := by
  intro r
  induction r with
  | zero => intro g s hg h; exact h.resolve_left (by omega)
  | succ r ih =>
    intro g s hg h
    by_cases c : s.1 < 0 ∨ v g < s.2
    · rw [bsS_p ⟨trivial, c⟩]
      exact ih _ _ (by omega) (Or.inr hg)
    · rw [bsS_n (fun d => c d.2)]
      exact ih _ _ (by omega) (Or.inr (by omega))
section P80
variable {F F' : fT} {A A' : nT}
theorem ntS_v {g : Int → Int} {a : Int} : ∀ m : Nat, g (ntS g a (m + 1)) = mnF (fun i => g (a + 1 + i)) (g a) m := by
  intro m
  induction m with
  | zero =>
    show g (if g (a + (0 : Nat)) < g (ntS g a 0) then a + (0 : Nat) else ntS g a 0) = g a
    by_cases c : g (a + (0 : Nat)) < g (ntS g a 0)
    · rw [if_pos c]
      rw [show a + ((0 : Nat) : Int) = a by omega]
    · rw [if_neg c]
      rfl
  | succ m ih =>
    show g (if g (a + ((m + 1 : Nat) : Int)) < g (ntS g a (m + 1)) then a + ((m + 1 : Nat) : Int) else ntS g a (m + 1)) = min (mnF (fun i => g (a + 1 + i)) (g a) m) (g (a + 1 + m))
    rw [show a + ((m + 1 : Nat) : Int) = a + 1 + m by omega]
    by_cases c : g (a + 1 + m) < g (ntS g a (m + 1))
    · rw [if_pos c]
      rw [ih] at c
      omega
    · rw [if_neg c]
      rw [ih] at c ⊢
      omega
noncomputable def nrH (F : fT) (A : nT) (n T : Nat) (x y g : Int) : Int := mnF (fun i => rt (qP (cTs F A 2 g zr).1 (cTs F A 2 g zr).2 x y n (1 + 1 + i))) (rt (qP (cTs F A 2 g zr).1 (cTs F A 2 g zr).2 x y n 1)) (T - 1)
noncomputable def alH (F : fT) (A : nT) (n T : Nat) (x y g : Int) : Int := rt (gN (qP (cTs F A 2 g zr).1 (cTs F A 2 g zr).2 x y) n 9223372036854775807 (T + 1))
theorem qP_h {n T : Nat} {x y k t : Int} {X Y : Int → Int} {s : rS} (h : agP (inI n T n) (X, Y) s) (hn : n ≤ 12) (hk : 0 ≤ k ∧ k ≤ n) (ht : 0 ≤ t ∧ t ≤ T) : qP X Y x y k t = qP s.1 s.2 x y k t := qP_c (X' := s.1) (Y' := s.2) h hn hk ht
/-- the value of the nearest TICK -/
theorem nt_c {n T : Nat} {x y g : Int} {X Y : Int → Int} (ag : agP (inI n T n) (X, Y) (cTs F A 2 g zr)) (hn : n ≤ 12) (hT : 1 ≤ T) : rt (qP X Y x y n (ntS (fun t => rt (qP X Y x y n t)) 1 ((T : Int) - 1 + 1).toNat)) = nrH F A n T x y g := by
  have e1 : ((T : Int) - 1 + 1).toNat = T - 1 + 1 := by omega
  rw [e1]
  have e2 := ntS_v (g := fun t => rt (qP X Y x y n t)) (a := 1) (T - 1)
  rw [e2]
  unfold nrH
  rw [qP_h ag hn (k := n) (t := 1) (by omega) (by omega)]
  exact mnF_c (T - 1) (fun j hj => by rw [qP_h ag hn (k := n) (t := 1 + 1 + j) (by omega) (by omega)])
theorem al_c {n T : Nat} {x y g : Int} {X Y : Int → Int} (ag : agP (inI n T n) (X, Y) (cTs F A 2 g zr)) (hn : n ≤ 12) : rt (gN (qP X Y x y) n 9223372036854775807 (T + 1)) = alH F A n T x y g := by
  unfold alH
  rw [gN_c (v := qP X Y x y) (v' := qP (cTs F A 2 g zr).1 (cTs F A 2 g zr).2 x y) (n := n) (a := 9223372036854775807) (T := T + 1) (fun k t a b c d => qP_h ag hn ⟨a, b⟩ (by omega)) (T + 1) (Nat.le_refl _)]
/-- the reference's way to the same -/
theorem al_m {n T : Nat} {x y g : Int} {X Y : Int → Int} (ag : agP (inI n T n) (X, Y) (cTs F A 2 g zr)) (hb : bA (X, Y)) (hx : ab 5000 x) (hy : ab 5000 y) (hn : n ≤ 12) : gN (fun k t => rt (qP X Y x y k t)) n (rt (qP X Y x y 0 0)) (T + 1) = alH F A n T x y g := by
  have q0 := (qP_b hb hx hy (k := 0) (t := 0) (by omega) (by omega)).2.2
  have e2 := gN_00 (v := qP X Y x y) (n := n) (a := 9223372036854775807) (T := T) (by omega)
  have e3 := (rt_gN (v := qP X Y x y) (n := n) (a := qP X Y x y 0 0) qP_nn (fun k t => qP_nn) (T + 1)).2
  rw [← e3, ← e2, al_c ag hn]
def nbR (b l : Int) (s : Int × Int) : Prop := b = s.1 ∧ (s.1 < 0 ∧ s.1 = -1 ∧ l = 2147483647 ∨ 0 ≤ s.1 ∧ l = s.2)
theorem pw_bestAim (h : Iv F A) {x y z : Int} (hx : i32 x) (hy : i32 y) (hz : i32 z) : Pw mX10_bestAim mX11_bestAim [vi x, vi y, vi z] F A := by
  unfold i32 at hx hy hz
  by_cases h1 : ((-5000 ≤ x ∧ x ≤ 5000) ∧ (-5000 ≤ y ∧ y ≤ 5000)) ∧ (0 ≤ z ∧ z ≤ 9999)
  · obtain ⟨n, T, en, eT, hn, hT⟩ := iv_nat h
    have hax : ab 5000 x := by unfold ab; omega
    have hay : ab 5000 y := by unfold ab; omega
    have hear := h.ear
    have C : ∀ G : gT, Meets G mX10_bestAim [.ref 0, vi x, vi y, vi z] (sw F A) (fun r w => ∃ F1 A1, r = some (vi (bsS (fun g => z ≤ alH F A n T (F 0 12) (F 0 13) g) (nrH F A n T x y) 20 10 (-1, 0)).1) ∧ w = sw F1 A1 ∧ Iv F1 A1 ∧ kp F A F1 A1) := by
      intro G
      refine L_ent [some (.ref 0), some (vi x), some (vi y), some (vi z), none, none, none, none] rfl ?_
      generalize hQ : (fun (r : Option Value) (w : wT) => ∃ F1 A1, r = some (vi (bsS (fun g => z ≤ alH F A n T (F 0 12) (F 0 13) g) (nrH F A n T x y) 20 10 (-1, 0)).1) ∧ w = sw F1 A1 ∧ Iv F1 A1 ∧ kp F A F1 A1) = Q
      have LOOP : ∀ (r : Nat) (g b l : Int) (s : Int × Int) (F' : fT) (A' : nT) (x7 : Option Value), g = 210 - 10 * r → r ≤ 20 → nbR b l s → bsS (fun g => z ≤ alH F A n T (F 0 12) (F 0 13) g) (nrH F A n T x y) r g s = bsS (fun g => z ≤ alH F A n T (F 0 12) (F 0 13) g) (nrH F A n T x y) 20 10 (-1, 0) → (s.1 < 0 ∨ 0 ≤ s.2 ∧ s.2 < 200000) → Iv F' A' → kp F A F' A' → V G mX10_bestAim Q 0 0 35 [some (.ref 0), some (vi x), some (vi y), some (vi z), some (vi b), some (vi l), some (vi g), x7] [] (sw F' A') := by
        intro r
        induction r with
        | zero =>
          intro g b l s F' A' x7 e1 e2 e3 e4 e5 h' hk
          refine L_iload eX10_bestAim_35 rfl ?_
          refine L_sipush eX10_bestAim_37 rfl ?_
          -- at 40: .if_icmp .gt 108
          refine V_icmpgt eX10_bestAim_40 (fun h2 => ?_) (fun h2 => ?_)
          · refine L_iload eX10_bestAim_148 rfl ?_
            -- at 150: .ireturn
            exact V_ireturn eX10_bestAim_150 (by rw [← hQ, ← e4, e3.1]; exact ⟨F', A', rfl, rfl, h', hk⟩)
          · omega
        | succ r ih =>
          intro g b l s F' A' x7 e1 e2 e3 e4 e5 h' hk
          obtain ⟨F1, A1, hM, i1, k1, ef, ag, ec, -⟩ := fly_g h h' hk en eT hn hT (g := g) (by omega)
          have hNt := fun (G : gT) => p_X1_nearestTick (G := G) (F := F1) (A := A1) (f := 47) (n := n) (T := T) (x := x) (y := y) (a := 1) (b := F1 47 1) (Or.inr rfl) i1.b2 ef.1 hn.2 hT.2 hax hay (by omega) (by omega)
          have hnb := ntS_b (g := fun t => rt (qP (A1 48) (A1 49) x y n t)) (a := 1) (F1 47 1 - 1 + 1).toNat
          have hFa := fun (G : gT) => p_X1_farOf (G := G) (F := F1) (A := A1) (f := 47) (k := F1 47 0) (t := ntS (fun t => rt (qP (A1 48) (A1 49) x y n t)) 1 (F1 47 1 - 1 + 1).toNat) (x := x) (y := y) (Or.inr rfl) i1.b2 (by omega) (by omega) hax hay
          have hAl := fun (G : gT) => p_X1_leastFar (G := G) (F := F1) (A := A1) (f := 47) (n := n) (T := T) (x := F1 0 12) (y := F1 0 13) (Or.inr rfl) i1.b2 ef.1 ef.2.1 hn.2 hT.2 i1.ear.2.2.1 i1.ear.2.2.2
          have hqb := (qP_b i1.b2 hax hay (k := F1 47 0) (t := ntS (fun t => rt (qP (A1 48) (A1 49) x y n t)) 1 (F1 47 1 - 1 + 1).toNat) (by omega) (by omega)).2.2.2.2
          have eN := nt_c (x := x) (y := y) ag hn.2 hT.1
          rw [← ef.2.1] at eN
          rw [show A1 (47 + 1) = A1 48 from rfl, show A1 (47 + 2) = A1 49 from rfl] at hFa hAl
          have eN2 : rt (qP (A1 48) (A1 49) x y (F1 47 0) (ntS (fun t => rt (qP (A1 48) (A1 49) x y n t)) 1 (F1 47 1 - 1 + 1).toNat)) = nrH F A n T x y g := by rw [ef.1]; exact eN
          rw [al_c ag hn.2, k1.1 0 12 rfl, k1.1 0 13 rfl] at hAl
          rw [eN2] at hFa hqb
          have hal0 : 0 ≤ alH F A n T (F 0 12) (F 0 13) g ∧ alH F A n T (F 0 12) (F 0 13) g < 200000 := by
            have q0 := (qP_b i1.b2 hear.2.2.1 hear.2.2.2 (k := 0) (t := 0) (by omega) (by omega)).2.2.2.2
            have a1 := al_m ag i1.b2 hear.2.2.1 hear.2.2.2 hn.2
            have a2 := gN_le0 (v := fun k t => rt (qP (A1 48) (A1 49) (F 0 12) (F 0 13) k t)) (n := n) (a := rt (qP (A1 48) (A1 49) (F 0 12) (F 0 13) 0 0)) (T + 1)
            have a3 : 0 ≤ alH F A n T (F 0 12) (F 0 13) g := rt_nn _
            rw [a1] at a2
            omega
          rw [← k1.1 0 12 rfl, ← k1.1 0 13 rfl] at hAl
          have hear1 := k1.1 0 12 rfl
          have hear2 := k1.1 0 13 rfl
          have e3' := e3
          unfold nbR at e3'
          refine L_iload eX10_bestAim_35 rfl ?_
          refine L_sipush eX10_bestAim_37 rfl ?_
          -- at 40: .if_icmp .gt 108
          refine V_icmpgt eX10_bestAim_40 (fun h2 => ?_) (fun h2 => ?_)
          · omega
          · refine L_aload_n eX10_bestAim_43 rfl ?_
            refine L_getR (r := 47) eX10_bestAim_44 f_X10_50.g rfl rfl (by decide) ?_
            refine L_aload_n eX10_bestAim_47 rfl ?_
            refine L_getR (r := 1) eX10_bestAim_48 f_X10_10.g rfl rfl (by decide) ?_
            refine L_getR (r := 2) eX10_bestAim_51 f_X10_112 rfl rfl (by decide) ?_
            refine L_aload_n eX10_bestAim_54 rfl ?_
            refine L_getR (r := 1) eX10_bestAim_55 f_X10_10.g rfl rfl (by decide) ?_
            refine L_getR (r := 6) eX10_bestAim_58 f_X10_130 rfl rfl (by decide) ?_
            refine L_aload_n eX10_bestAim_61 rfl ?_
            refine L_getR (r := 1) eX10_bestAim_62 f_X10_10.g rfl rfl (by decide) ?_
            refine L_getR (r := 9) eX10_bestAim_65 f_X10_166 rfl rfl (by decide) ?_
            refine L_iload eX10_bestAim_68 rfl ?_
            refine C_v0 (hM G) v_X10_255 eX10_bestAim_70 rfl rfl ?_
            refine L_aload_n eX10_bestAim_73 rfl ?_
            refine L_getR (r := 47) eX10_bestAim_74 f_X10_50.g rfl rfl (by decide) ?_
            refine L_aload_n eX10_bestAim_77 rfl ?_
            refine L_getR (r := 47) eX10_bestAim_78 f_X10_50.g rfl rfl (by decide) ?_
            refine L_get eX10_bestAim_81 f_X10_276.g rfl rfl ?_
            refine L_aload_n eX10_bestAim_84 rfl ?_
            refine L_getR (r := 47) eX10_bestAim_85 f_X10_50.g rfl rfl (by decide) ?_
            refine L_iload_n eX10_bestAim_88 rfl ?_
            refine L_iload_n eX10_bestAim_89 rfl ?_
            refine V_iconst eX10_bestAim_90 ?_
            refine L_aload_n eX10_bestAim_91 rfl ?_
            refine L_getR (r := 47) eX10_bestAim_92 f_X10_50.g rfl rfl (by decide) ?_
            refine L_get eX10_bestAim_95 f_X10_286.g rfl rfl ?_
            refine C_v1 (hNt G) v_X10_272 eX10_bestAim_98 rfl rfl ?_
            refine L_iload_n eX10_bestAim_101 rfl ?_
            refine L_iload_n eX10_bestAim_102 rfl ?_
            refine C_v1 (hFa G) v_X10_279 eX10_bestAim_103 rfl rfl ?_
            refine L_istore eX10_bestAim_106 (s_7 rfl rfl) ?_
            refine L_iload eX10_bestAim_108 rfl ?_
            refine L_iload eX10_bestAim_110 rfl ?_
            -- at 112: .if_icmp .ge 30
            refine V_icmpge eX10_bestAim_112 (fun h3 => ?_) (fun h3 => ?_)
            · have hneg : ¬ (z ≤ alH F A n T (F 0 12) (F 0 13) g ∧ (s.1 < 0 ∨ nrH F A n T x y g < s.2)) := by omega
              rw [bsS_n hneg] at e4
              refine L_iinc eX10_bestAim_142 rfl (s_6 rfl rfl) ?_
              refine V_goto eX10_bestAim_145 ?_
              exact ih _ _ _ s _ _ _ (by omega) (by omega) e3 e4 e5 i1 k1
            · refine L_aload_n eX10_bestAim_115 rfl ?_
              refine L_getR (r := 47) eX10_bestAim_116 f_X10_50.g rfl rfl (by decide) ?_
              refine L_aload_n eX10_bestAim_119 rfl ?_
              refine L_get eX10_bestAim_120 f_X10_78.g rfl rfl ?_
              refine L_aload_n eX10_bestAim_123 rfl ?_
              refine L_get eX10_bestAim_124 f_X10_81.g rfl rfl ?_
              refine C_v1 (hAl G) v_X10_282 eX10_bestAim_127 rfl rfl ?_
              rw [hear1, hear2]
              refine L_iload_n eX10_bestAim_130 rfl ?_
              -- at 131: .if_icmp .lt 11
              refine V_icmplt eX10_bestAim_131 (fun h4 => ?_) (fun h4 => ?_)
              · have hneg : ¬ (z ≤ alH F A n T (F 0 12) (F 0 13) g ∧ (s.1 < 0 ∨ nrH F A n T x y g < s.2)) := by omega
                rw [bsS_n hneg] at e4
                refine L_iinc eX10_bestAim_142 rfl (s_6 rfl rfl) ?_
                refine V_goto eX10_bestAim_145 ?_
                exact ih _ _ _ s _ _ _ (by omega) (by omega) e3 e4 e5 i1 k1
              · have hpos : z ≤ alH F A n T (F 0 12) (F 0 13) g ∧ (s.1 < 0 ∨ nrH F A n T x y g < s.2) := by omega
                rw [bsS_p hpos] at e4
                refine L_iload eX10_bestAim_134 rfl ?_
                refine L_istore eX10_bestAim_136 (s_5 rfl rfl) ?_
                refine L_iload eX10_bestAim_138 rfl ?_
                refine L_istore eX10_bestAim_140 (s_4 rfl rfl) ?_
                refine L_iinc eX10_bestAim_142 rfl (s_6 rfl rfl) ?_
                refine V_goto eX10_bestAim_145 ?_
                exact ih _ _ _ (g, nrH F A n T x y g) _ _ _ (by omega) (by omega) ⟨rfl, Or.inr ⟨by show 0 ≤ g; omega, rfl⟩⟩ e4 (Or.inr (by show 0 ≤ nrH F A n T x y g ∧ nrH F A n T x y g < 200000; omega)) i1 k1
      have go : V G mX10_bestAim Q 0 0 23 [some (.ref 0), some (vi x), some (vi y), some (vi z), none, none, none, none] [] (sw F A) := by
        refine V_iconst eX10_bestAim_23 ?_
        refine L_istore eX10_bestAim_24 (s_4 rfl rfl) ?_
        refine L_ldcw eX10_bestAim_26 k_X10_285 ?_
        refine L_istore eX10_bestAim_29 (s_5 rfl rfl) ?_
        refine L_bipush eX10_bestAim_31 rfl ?_
        refine L_istore eX10_bestAim_33 (s_6 rfl rfl) ?_
        exact LOOP 20 10 (-1) _ (-1, 0) F A _ (by omega) (by omega) ⟨rfl, Or.inl ⟨by decide, rfl, rfl⟩⟩ rfl (Or.inl (by decide)) h kp.rfl'
      refine L_iload_n eX10_bestAim_0 rfl ?_
      refine L_iload_n eX10_bestAim_1 rfl ?_
      refine C_s1 (p_X10_isPlace (by omega) (by omega)) v_X10_248 eX10_bestAim_2 rfl ?_
      refine V_ifeqB eX10_bestAim_5 (fun h5 => ?_) (fun h5 => ?_)
      · (exfalso; omega)
      · refine L_iload_n eX10_bestAim_8 rfl ?_
        refine V_iflt eX10_bestAim_9 (fun h9 => ?_) (fun h9 => ?_)
        · (exfalso; omega)
        · refine L_iload_n eX10_bestAim_12 rfl ?_
          refine L_sipush eX10_bestAim_13 rfl ?_
          refine V_icmple eX10_bestAim_16 (fun h16 => ?_) (fun h16 => ?_)
          · exact go
          · (exfalso; omega)
    intro G
    refine ⟨_, C G, fun r w e => ?_⟩
    obtain ⟨F0, A0, er, ew, i0, k0⟩ := e
    refine ⟨_, F0, A0, er, ew, ty_v, (fun r w => ∃ F1 A1, r = some (vi (bsS (fun g => z ≤ alH F A n T (F 0 12) (F 0 13) g) (nrH F A n T x y) 20 10 (-1, 0)).1) ∧ w = sw F1 A1 ∧ Iv F1 A1), ?_, fun r' w' e' => e'⟩
    refine L_ent [some (.ref 66), some (vi x), some (vi y), some (vi z), none, none, none, none, none, none, none, none, none] rfl ?_
    generalize hQ : (fun (r : Option Value) (w : wT) => ∃ F1 A1, r = some (vi (bsS (fun g => z ≤ alH F A n T (F 0 12) (F 0 13) g) (nrH F A n T x y) 20 10 (-1, 0)).1) ∧ w = sw F1 A1 ∧ Iv F1 A1) = Q
    have LOOP : ∀ (r : Nat) (g : Int) (s : Int × Int) (F' : fT) (A' : nT) (x8 x10 x11 : Option Value), g = 210 - 10 * r → r ≤ 20 → -1 ≤ s.1 ∧ s.1 ≤ 200 → bsS (fun g => z ≤ alH F A n T (F 0 12) (F 0 13) g) (nrH F A n T x y) r g s = bsS (fun g => z ≤ alH F A n T (F 0 12) (F 0 13) g) (nrH F A n T x y) 20 10 (-1, 0) → (0 ≤ s.2 ∧ s.2 < 200000) → Iv F' A' → kp F A F' A' → V G mX11_bestAim Q 0 0 34 [some (.ref 66), some (vi x), some (vi y), some (vi z), some (vi s.1), some (vl s.2), none, some (vi g), x8, none, x10, x11, none] [] (sw F' A') := by
      intro r
      induction r with
      | zero =>
        intro g s F' A' x8 x10 x11 e1 e2 e3 e4 e5 h' hk
        refine L_iload eX11_bestAim_34 rfl ?_
        refine L_sipush eX11_bestAim_36 rfl ?_
        -- at 39: .if_icmp .gt 116
        refine V_icmpgt eX11_bestAim_39 (fun h2 => ?_) (fun h2 => ?_)
        · refine L_iload eX11_bestAim_155 rfl ?_
          -- at 157: .ireturn
          exact V_ireturn eX11_bestAim_157 (by rw [← hQ, ← e4]; exact ⟨F', A', rfl, rfl, h'⟩)
        · omega
      | succ r ih =>
        intro g s F' A' x8 x10 x11 e1 e2 e3 e4 e5 h' hk
        obtain ⟨F1, A1, hM, i1, k1, -, f0, f5, ag⟩ := toss_g h h' hk en eT (g := g) (by omega)
        have hFf : ∀ (t : Int), 1 ≤ t → t ≤ T → Pu G mX11_farFrom [.ref 66, vi (F1 66 0), vi t, vi x, vi y] F1 A1 (vl (rt (qP (cTs F A 2 g zr).1 (cTs F A 2 g zr).2 x y n t))) := fun t a b => by
          rw [f0, ← qP_h ag hn.2 (k := n) (t := t) (by omega) (by omega)]
          exact p_X11_farFrom i1.b3 (by omega) (by omega) hax hay
        have hqb : ∀ t : Int, 1 ≤ t → t ≤ T → 0 ≤ rt (qP (cTs F A 2 g zr).1 (cTs F A 2 g zr).2 x y n t) ∧ rt (qP (cTs F A 2 g zr).1 (cTs F A 2 g zr).2 x y n t) < 200000 := fun t a b => by
          rw [← qP_h ag hn.2 (k := n) (t := t) (by omega) (by omega)]
          exact (qP_b i1.b3 hax hay (k := n) (t := t) (by omega) (by omega)).2.2.2.2
        have hearM : F1 66 11 = F 0 12 ∧ F1 66 12 = F 0 13 := by
          rw [i1.ear.1, i1.ear.2.1, k1.1 0 12 rfl, k1.1 0 13 rfl]
          exact ⟨rfl, rfl⟩
        have hAm : Pu G mX11_aloneBy [.ref 66, vi (F1 66 11), vi (F1 66 12)] F1 A1 (vl (alH F A n T (F 0 12) (F 0 13) g)) := by
          rw [hearM.1, hearM.2, ← al_m ag i1.b3 hear.2.2.1 hear.2.2.2 hn.2]
          exact p_X11_aloneBy i1.b3 f0 f5 hn.2 hT.2 hear.2.2.1 hear.2.2.2
        have hal0 : 0 ≤ alH F A n T (F 0 12) (F 0 13) g ∧ alH F A n T (F 0 12) (F 0 13) g < 200000 := by
          have q0 := (qP_b i1.b3 hear.2.2.1 hear.2.2.2 (k := 0) (t := 0) (by omega) (by omega)).2.2.2.2
          have a1 := al_m ag i1.b3 hear.2.2.1 hear.2.2.2 hn.2
          have a2 := gN_le0 (v := fun k t => rt (qP (A1 84) (A1 85) (F 0 12) (F 0 13) k t)) (n := n) (a := rt (qP (A1 84) (A1 85) (F 0 12) (F 0 13) 0 0)) (T + 1)
          have a3 : 0 ≤ alH F A n T (F 0 12) (F 0 13) g := rt_nn _
          rw [a1] at a2
          omega
        have hnr : ∀ j : Nat, j ≤ T - 1 → 0 ≤ mnF (fun i => rt (qP (cTs F A 2 g zr).1 (cTs F A 2 g zr).2 x y n (1 + 1 + i))) (rt (qP (cTs F A 2 g zr).1 (cTs F A 2 g zr).2 x y n 1)) j ∧ mnF (fun i => rt (qP (cTs F A 2 g zr).1 (cTs F A 2 g zr).2 x y n (1 + 1 + i))) (rt (qP (cTs F A 2 g zr).1 (cTs F A 2 g zr).2 x y n 1)) j ≤ 199999 := fun j hj => mnF_b (by have := hqb 1 (by omega) (by omega); omega) j (fun i hi => by have := hqb (1 + 1 + i) (by omega) (by omega); omega)
        have fin : ∀ x10 x11 : Option Value, V G mX11_bestAim Q 0 0 110 [some (.ref 66), some (vi x), some (vi y), some (vi z), some (vi s.1), some (vl s.2), none, some (vi g), some (vl (nrH F A n T x y g)), none, x10, x11, none] [] (sw F1 A1) := by
          intro x10 x11
          have hnrb := hnr (T - 1) (Nat.le_refl _)
          rw [show mnF (fun i => rt (qP (cTs F A 2 g zr).1 (cTs F A 2 g zr).2 x y n (1 + 1 + i))) (rt (qP (cTs F A 2 g zr).1 (cTs F A 2 g zr).2 x y n 1)) (T - 1) = nrH F A n T x y g from rfl] at hnrb
          have neg : ¬ (z ≤ alH F A n T (F 0 12) (F 0 13) g ∧ (s.1 < 0 ∨ nrH F A n T x y g < s.2)) → V G mX11_bestAim Q 0 0 149 [some (.ref 66), some (vi x), some (vi y), some (vi z), some (vi s.1), some (vl s.2), none, some (vi g), some (vl (nrH F A n T x y g)), none, x10, x11, none] [] (sw F1 A1) := fun hneg => by
            rw [bsS_n hneg] at e4
            refine L_iinc eX11_bestAim_149 rfl (s_7 rfl rfl) ?_
            refine V_goto eX11_bestAim_152 ?_
            exact ih _ s _ _ _ _ _ (by omega) (by omega) e3 e4 e5 i1 k1
          have pos : (z ≤ alH F A n T (F 0 12) (F 0 13) g ∧ (s.1 < 0 ∨ nrH F A n T x y g < s.2)) → V G mX11_bestAim Q 0 0 141 [some (.ref 66), some (vi x), some (vi y), some (vi z), some (vi s.1), some (vl s.2), none, some (vi g), some (vl (nrH F A n T x y g)), none, x10, x11, none] [] (sw F1 A1) := fun hpos => by
            rw [bsS_p hpos] at e4
            refine L_iload eX11_bestAim_141 rfl ?_
            refine L_istore eX11_bestAim_143 (s_4 rfl rfl) ?_
            refine L_lload eX11_bestAim_145 rfl ?_
            refine L_lstore eX11_bestAim_147 (t_5 rfl) ?_
            refine L_iinc eX11_bestAim_149 rfl (s_7 rfl rfl) ?_
            refine V_goto eX11_bestAim_152 ?_
            exact ih _ (g, nrH F A n T x y g) _ _ _ _ _ (by omega) (by omega) (by show -1 ≤ g ∧ g ≤ 200; omega) e4 (by show 0 ≤ nrH F A n T x y g ∧ nrH F A n T x y g < 200000; omega) i1 k1
          refine L_aload_n eX11_bestAim_110 rfl ?_
          refine L_aload_n eX11_bestAim_111 rfl ?_
          refine L_get eX11_bestAim_112 f_X11_329.g rfl rfl ?_
          refine L_aload_n eX11_bestAim_115 rfl ?_
          refine L_get eX11_bestAim_116 f_X11_136.g rfl rfl ?_
          refine C_v1 hAm v_X11_382 eX11_bestAim_119 rfl rfl ?_
          refine L_iload_n eX11_bestAim_122 rfl ?_
          refine V_i2l eX11_bestAim_123 ?_
          -- at 124: .lcmp
          refine V_lcmplt eX11_bestAim_124 eX11_bestAim_125 (fun h5 => ?_) (fun h5 => ?_)
          · exact neg (by omega)
          · refine L_iload eX11_bestAim_128 rfl ?_
            -- at 130: .ifCond .lt 11
            refine V_iflt eX11_bestAim_130 (fun h6 => ?_) (fun h6 => ?_)
            · exact pos (by omega)
            · refine L_lload eX11_bestAim_133 rfl ?_
              refine L_lload eX11_bestAim_135 rfl ?_
              -- at 137: .lcmp
              refine V_lcmpge eX11_bestAim_137 eX11_bestAim_138 (fun h7 => ?_) (fun h7 => ?_)
              · exact neg (by omega)
              · exact pos (by omega)
        have INN : ∀ (q j : Nat) (t : Int) (x11 : Option Value), T < q + j + 1 → j + 1 ≤ T → t = j + 2 → V G mX11_bestAim Q 0 0 64 [some (.ref 66), some (vi x), some (vi y), some (vi z), some (vi s.1), some (vl s.2), none, some (vi g), some (vl (mnF (fun i => rt (qP (cTs F A 2 g zr).1 (cTs F A 2 g zr).2 x y n (1 + 1 + i))) (rt (qP (cTs F A 2 g zr).1 (cTs F A 2 g zr).2 x y n 1)) j)), none, some (vi t), x11, none] [] (sw F1 A1) := by
          intro q
          induction q with
          | zero => intro j t x11 q1 q2; omega
          | succ q ihq =>
            intro j t x11 q1 q2 et
            have hnj := hnr j (by omega)
            refine L_iload eX11_bestAim_64 rfl ?_
            refine L_aload_n eX11_bestAim_66 rfl ?_
            refine L_get eX11_bestAim_67 f_X11_127.g rfl rfl ?_
            -- at 70: .if_icmp .gt 40
            refine V_icmpgt eX11_bestAim_70 (fun h3 => ?_) (fun h3 => ?_)
            · have e : j = T - 1 := by omega
              subst e
              exact fin _ _
            · have hq2 := hqb t (by omega) (by omega)
              have ih2 := fun x11 => ihq (j + 1) (t + 1) x11 (by omega) (by omega) (by omega)
              have hst : mnF (fun i => rt (qP (cTs F A 2 g zr).1 (cTs F A 2 g zr).2 x y n (1 + 1 + i))) (rt (qP (cTs F A 2 g zr).1 (cTs F A 2 g zr).2 x y n 1)) (j + 1) = min (mnF (fun i => rt (qP (cTs F A 2 g zr).1 (cTs F A 2 g zr).2 x y n (1 + 1 + i))) (rt (qP (cTs F A 2 g zr).1 (cTs F A 2 g zr).2 x y n 1)) j) (rt (qP (cTs F A 2 g zr).1 (cTs F A 2 g zr).2 x y n t)) := by
                rw [mnF, show (1 + 1 + (j : Int)) = t by omega]
              rw [hst] at ih2
              refine L_aload_n eX11_bestAim_73 rfl ?_
              refine L_aload_n eX11_bestAim_74 rfl ?_
              refine L_get eX11_bestAim_75 f_X11_121.g rfl rfl ?_
              refine L_iload eX11_bestAim_78 rfl ?_
              refine L_iload_n eX11_bestAim_80 rfl ?_
              refine L_iload_n eX11_bestAim_81 rfl ?_
              refine C_v1 (hFf t (by omega) (by omega)) v_X11_378 eX11_bestAim_82 rfl rfl ?_
              refine L_lstore eX11_bestAim_85 (t_11 rfl) ?_
              refine L_lload eX11_bestAim_87 rfl ?_
              refine L_lload eX11_bestAim_89 rfl ?_
              -- at 91: .lcmp
              refine V_lcmpge eX11_bestAim_91 eX11_bestAim_92 (fun h4 => ?_) (fun h4 => ?_)
              · rw [Int.min_eq_left (by omega)] at ih2
                refine L_lload eX11_bestAim_100 rfl ?_
                refine L_lstore eX11_bestAim_102 (t_8 rfl) ?_
                refine L_iinc eX11_bestAim_104 rfl (s_10 rfl rfl) ?_
                refine V_goto eX11_bestAim_107 ?_
                exact ih2 _
              · rw [Int.min_eq_right (by omega)] at ih2
                refine L_lload eX11_bestAim_95 rfl ?_
                refine V_goto eX11_bestAim_97 ?_
                refine L_lstore eX11_bestAim_102 (t_8 rfl) ?_
                refine L_iinc eX11_bestAim_104 rfl (s_10 rfl rfl) ?_
                refine V_goto eX11_bestAim_107 ?_
                exact ih2 _
        refine L_iload eX11_bestAim_34 rfl ?_
        refine L_sipush eX11_bestAim_36 rfl ?_
        -- at 39: .if_icmp .gt 116
        refine V_icmpgt eX11_bestAim_39 (fun h2 => ?_) (fun h2 => ?_)
        · omega
        · refine L_aload_n eX11_bestAim_42 rfl ?_
          refine L_iload eX11_bestAim_43 rfl ?_
          refine C_v0 (hM G) v_X11_311 eX11_bestAim_45 rfl rfl ?_
          refine L_aload_n eX11_bestAim_48 rfl ?_
          refine L_aload_n eX11_bestAim_49 rfl ?_
          refine L_get eX11_bestAim_50 f_X11_121.g rfl rfl ?_
          refine V_iconst eX11_bestAim_53 ?_
          refine L_iload_n eX11_bestAim_54 rfl ?_
          refine L_iload_n eX11_bestAim_55 rfl ?_
          refine C_v1 (hFf 1 (by omega) (by omega)) v_X11_378 eX11_bestAim_56 rfl rfl ?_
          refine L_lstore eX11_bestAim_59 (t_8 rfl) ?_
          refine V_iconst eX11_bestAim_61 ?_
          refine L_istore eX11_bestAim_62 (s_10 rfl rfl) ?_
          exact INN T 0 2 x11 (by omega) (by omega) (by omega)
    have go : V G mX11_bestAim Q 0 0 24 [some (.ref 66), some (vi x), some (vi y), some (vi z), none, none, none, none, none, none, none, none, none] [] (sw F0 A0) := by
      refine V_iconst eX11_bestAim_24 ?_
      refine L_istore eX11_bestAim_25 (s_4 rfl rfl) ?_
      refine L_lconst0 eX11_bestAim_27 ?_
      refine L_lstore eX11_bestAim_28 (t_5 rfl) ?_
      refine L_bipush eX11_bestAim_30 rfl ?_
      refine L_istore eX11_bestAim_32 (s_7 rfl rfl) ?_
      exact LOOP 20 10 (-1, 0) F0 A0 _ _ _ (by omega) (by omega) (by decide) rfl (by decide) i0 k0
    refine L_iload_n eX11_bestAim_0 rfl ?_
    refine L_iload_n eX11_bestAim_1 rfl ?_
    refine C_s1 (p_X11_isPlace (by omega) (by omega)) v_X11_363 eX11_bestAim_2 rfl ?_
    refine V_ifeqB eX11_bestAim_5 (fun h5 => ?_) (fun h5 => ?_)
    · (exfalso; omega)
    · refine L_iload_n eX11_bestAim_8 rfl ?_
      refine V_i2l eX11_bestAim_9 ?_
      refine L_lconst0 eX11_bestAim_10 ?_
      refine L_ldc2 eX11_bestAim_11 k_X11_385 ?_
      refine C_s1 (p_X11_in (by omega) (by omega) (by omega)) v_X11_152 eX11_bestAim_14 rfl ?_
      refine V_ifneB eX11_bestAim_17 (fun h17 => ?_) (fun h17 => ?_)
      · exact go
      · (exfalso; omega)
  · refine Pr.w ⟨vi (-1002), F, A, F, A, fun G => ?_, fun G => ?_, h, ty_v⟩
    · refine L_ent [some (.ref 0), some (vi x), some (vi y), some (vi z), none, none, none, none] rfl ?_
      refine L_iload_n eX10_bestAim_0 rfl ?_
      refine L_iload_n eX10_bestAim_1 rfl ?_
      refine C_s1 (p_X10_isPlace (by omega) (by omega)) v_X10_248 eX10_bestAim_2 rfl ?_
      refine V_ifeqB eX10_bestAim_5 (fun h5 => ?_) (fun h5 => ?_)
      · refine L_sipush eX10_bestAim_19 rfl ?_
        exact V_ireturn eX10_bestAim_22 ((by first | (exfalso; omega) | exact ⟨rfl, rfl⟩))
      · refine L_iload_n eX10_bestAim_8 rfl ?_
        refine V_iflt eX10_bestAim_9 (fun h9 => ?_) (fun h9 => ?_)
        · refine L_sipush eX10_bestAim_19 rfl ?_
          exact V_ireturn eX10_bestAim_22 ((by first | (exfalso; omega) | exact ⟨rfl, rfl⟩))
        · refine L_iload_n eX10_bestAim_12 rfl ?_
          refine L_sipush eX10_bestAim_13 rfl ?_
          refine V_icmple eX10_bestAim_16 (fun h16 => ?_) (fun h16 => ?_)
          · (exfalso; omega)
          · refine L_sipush eX10_bestAim_19 rfl ?_
            exact V_ireturn eX10_bestAim_22 ((by first | (exfalso; omega) | exact ⟨rfl, rfl⟩))
    · refine L_ent [some (.ref 66), some (vi x), some (vi y), some (vi z), none, none, none, none, none, none, none, none, none] rfl ?_
      refine L_iload_n eX11_bestAim_0 rfl ?_
      refine L_iload_n eX11_bestAim_1 rfl ?_
      refine C_s1 (p_X11_isPlace (by omega) (by omega)) v_X11_363 eX11_bestAim_2 rfl ?_
      refine V_ifeqB eX11_bestAim_5 (fun h5 => ?_) (fun h5 => ?_)
      · refine L_sipush eX11_bestAim_20 rfl ?_
        exact V_ireturn eX11_bestAim_23 ((by first | (exfalso; omega) | exact ⟨rfl, rfl⟩))
      · refine L_iload_n eX11_bestAim_8 rfl ?_
        refine V_i2l eX11_bestAim_9 ?_
        refine L_lconst0 eX11_bestAim_10 ?_
        refine L_ldc2 eX11_bestAim_11 k_X11_385 ?_
        refine C_s1 (p_X11_in (by omega) (by omega) (by omega)) v_X11_152 eX11_bestAim_14 rfl ?_
        refine V_ifneB eX11_bestAim_17 (fun h17 => ?_) (fun h17 => ?_)
        · (exfalso; omega)
        · refine L_sipush eX11_bestAim_20 rfl ?_
          exact V_ireturn eX11_bestAim_23 ((by first | (exfalso; omega) | exact ⟨rfl, rfl⟩))
end P80

