def cpy (f g : Nat → Int) (sp dp n : Nat) : Nat → Int := fun k => if dp ≤ k ∧ k < dp + n then f (sp + (k - dp)) else g k
section R9
variable {G : gT} {M N : mT} {Q Q' : Option Value → wT → Prop} {kc ks pc q t i n : Nat} {lc lc' : List (Option Value)} {st rest : List Value} {w : wT}
theorem cpy_real {f g : Nat → Int} {sp dp n : Nat} : va_cpy (fun k => Int32.ofInt (f k)) (fun k => Int32.ofInt (g k)) sp dp n = fun k => Int32.ofInt (cpy f g sp dp n k) := by
  funext k
  simp only [va_cpy, cpy]
  split <;> rfl
theorem V_acopy {o1 o2 n1 n2 : Nat} {f g : Nat → Int} {sp dp n : Int} (h1 : Cond.methodLink (mOwn M) i arraycopyName ∈ aW) (h2 : Cond.native arraycopyName ∈ aW) (h3 : Cond.static arraycopyName ∈ aW) (h4 : Cond.initialized "java/lang/System" ∈ aW) (ho1 : o1 < w.1) (hw1 : w.2 o1 = .inl (0, n1, f)) (ho2 : o2 < w.1) (hw2 : w.2 o2 = .inl (0, n2, g)) (d : dc M pc (.invokestatic i) 3 q)
    (kk : V G M Q kc ks q lc rest (put w o2 (.inl (0, n2, cpy f g sp.toNat dp.toNat n.toNat)))) (hb : 0 ≤ sp ∧ 0 ≤ dp ∧ 0 ≤ n ∧ sp + n ≤ n1 ∧ dp + n ≤ n2 ∧ n1 < 2147483648 ∧ n2 < 2147483648 := by omega) (hR : 1 ≤ (mRm M).frames ∧ (rest.map fun v => v.category).sum + 18 ≤ (mRm M).locals := by exact ⟨Nat.le_of_ble_eq_true rfl, Nat.le_of_ble_eq_true rfl⟩) : V G M Q kc ks pc lc (vi n :: vi dp :: .ref o2 :: vi sp :: .ref o1 :: rest) w := by
  obtain ⟨d, rfl⟩ := d
  intro p l e s m args below meth c H locs ls Cc hP hS hl
  have hts := Cc.2.2.2.2.2.1
  have hK := Cc.2.2.2.2.2.2.2.2.1
  have hD := wls_D (G := G) hP.2.2
  have ha0 : (wls G w)[o1]? = some (gad G o1, .inl (gtc G 0, n1, .inl (fun k => Int32.ofInt (f k)))) := by rw [wls_get ho1, hw1]; rfl
  have ha1 : (wls G w)[o2]? = some (gad G o2, .inl (gtc G 0, n2, .inl (fun k => Int32.ofInt (g k)))) := by rw [wls_get ho2, hw2]; rfl
  have cs := i32_clamp (i := sp) (by omega)
  have cd := i32_clamp (i := dp) (by omega)
  have cn := i32_clamp (i := n) (by omega)
  have ts : (Int32.ofInt sp).toInt = sp := Int32.toInt_ofInt_of_le (by omega) (by omega)
  have td : (Int32.ofInt dp).toInt = dp := Int32.toInt_ofInt_of_le (by omega) (by omega)
  have tn : (Int32.ofInt n).toInt = n := Int32.toInt_ofInt_of_le (by omega) (by omega)
  have nn : ∀ z : Int, 0 ≤ z ∧ z < 2147483648 → ¬ Int32.ofInt z < 0 := by
    intro z hz h
    have h : Int32.ofInt z < Int32.ofInt 0 := h
    rw [i32_lt (by omega) (by omega)] at h
    omega
  intro T hT X
  have hc0 : H[gad G o1]? = some (vp_cell (gtc G 0) (n1, .inl (fun k => Int32.ofInt (f k)))) := hP.1 o1 _ ha0
  have hc1 : H[gad G o2]? = some (vp_cell (gtc G 0) (n2, .inl (fun k => Int32.ofInt (g k)))) := hP.1 o2 _ ha1
  obtain ⟨-, k0, hk0, cm0, hkk0⟩ := (hK.2 0 _ rfl).1 n1 (fun j => .int (Int32.ofInt (f j)))
  obtain ⟨-, k1, hk1, cm1, hkk1⟩ := (hK.2 0 _ rfl).1 n2 (fun j => .int (Int32.ofInt (g j)))
  obtain ⟨vm', X', step⟩ := X.arraycopy Cc.1 Cc.2.2.2.2.1 (hts _ h1) (hts _ h2) (hts _ h3) (hts _ h4) (src := gad G o1) (dst := gad G o2) (cs := vp_cell (gtc G 0) (n1, .inl (fun k => Int32.ofInt (f k)))) (cd := vp_cell (gtc G 0) (n2, .inl (fun k => Int32.ofInt (g k)))) (srcPos := Int32.ofInt sp) (destPos := Int32.ofInt dp) (n := Int32.ofInt n) (by rw [hT]; exact hc0) (by rw [hT]; exact hc1)
    (fun _ h => by cases h) (fun _ h => by cases h) (fun h => by cases h) (fun h => by cases h) hk0 hk1 hkk0 hkk1 (by simp [refKind]) (nn sp (by omega)) (nn dp (by omega)) (nn n (by omega))
    (by rw [ts, tn]; show ¬ _ > ((arrV (gtc G 0) n1 (fun j => .int (Int32.ofInt (f j)))).slots.size : Int); rw [arrV_size]; omega)
    (by rw [td, tn]; show ¬ _ > ((arrV (gtc G 0) n2 (fun j => .int (Int32.ofInt (g j)))).slots.size : Int); rw [arrV_size]; omega)
    (fun vm₁ _ j hj => by
      rw [cn] at hj
      have e : (vp_cell (gtc G 0) (n1, .inl (fun k => Int32.ofInt (f k)))).slots.getD ((Int32.ofInt sp).toNatClampNeg + j) .null = .int (Int32.ofInt (f (sp.toNat + j))) := by
        rw [cs]
        show (arrV (gtc G 0) n1 (fun j => .int (Int32.ofInt (f j)))).slots.getD _ _ = _
        rw [Array.getD_eq_getD_getElem?, arrV_read _ _ (by omega)]
        rfl
      refine ⟨?_, ?_⟩
      · rw [e]
        rfl
      · rw [e]
        exact trivial)
    (g := F0 m pc ls ((vi n :: vi dp :: .ref o2 :: vi sp :: .ref o1 :: rest).map (gre G))) rfl (hl.1.trans Cc.2.2.2.1.symm) (rest := rest.map (gre G)) rfl (by rw [Cc.2.1]; exact d) hR.1 (by rw [catsum]; show 2 * 0 + _ + 18 ≤ _; omega)
  have e1 : copied (vp_cell (gtc G 0) (n1, .inl (fun k => Int32.ofInt (f k)))) (vp_cell (gtc G 0) (n2, .inl (fun k => Int32.ofInt (g k)))) (Int32.ofInt sp) (Int32.ofInt dp) (Int32.ofInt n) = vp_cell (gtc G 0) (n2, .inl (fun k => Int32.ofInt (cpy f g sp.toNat dp.toNat n.toNat k))) := by
    have := va_copied (fun z => .int z) (gtc G 0) (gtc G 0) (fun k => Int32.ofInt (f k)) (fun k => Int32.ofInt (g k)) (n0 := n1) (n1 := n2) (sp := (Int32.ofInt sp).toNatClampNeg) (dp := (Int32.ofInt dp).toNatClampNeg) (n := (Int32.ofInt n).toNatClampNeg) (by rw [cs, cn]; omega)
    refine Eq.trans this ?_
    rw [cs, cd, cn, cpy_real]
    rfl
  rw [e1] at X' step
  have hlt : gad G o2 < H.size := (Array.getElem?_eq_some_iff.mp hc1).1
  obtain ⟨t, a1, b1⟩ := kk p l e s m args below meth c _ _ ls Cc (hP.put (H1 := H.setIfInBounds (gad G o2) (vp_cell (gtc G 0) (n2, .inl (fun k => Int32.ofInt (cpy f g sp.toNat dp.toNat n.toNat k))))) ho2 (show (H.setIfInBounds (gad G o2) _)[gad G o2]? = some _ by simp [Array.getElem?_setIfInBounds, hlt]) (by simp) (fun q hq => by simp [Array.getElem?_setIfInBounds, Ne.symm hq])) ⟨by simp; exact hS.1, fun q g1 g2 => by
      have : q ≠ gad G o2 := fun e => g2 (by rw [e]; exact hD.2 o2 _ ha1)
      simp [Array.getElem?_setIfInBounds, Ne.symm this]
      exact hS.2.1 q g1 g2, fun q hq => by
      rcases List.mem_append.mp hq with h | h
      · exact hS.2.2 q h
      · obtain ⟨z, -, hz⟩ := List.mem_map.mp h
        rw [← hz]
        exact hD.2 o2 _ ha1⟩ hl _ (by rw [← hT]; rfl) X'
  exact ⟨t, step t a1, b1⟩
theorem gad_sp {i : Nat} (h : 1000 ≤ i) : gad G i = gsp G i := by rw [gad, if_neg (by omega)]
theorem V_ldcS {j : Nat} {tx : String} (hq : (mOwn M, i, tx, j) ∈ sRf) (d : dc M pc (.ldc i) 2 q) (kk : V G M Q kc ks q lc (.ref (1200 + j) :: st) w) : V G M Q kc ks pc lc st w := by
  obtain ⟨d, rfl⟩ := d
  intro p l e s m args below meth c H locs ls Cc hP hS hl
  have hR := Cc.2.2.2.2.2.2.2.2.2.1.1 _ hq
  refine va_ldcS Cc.1 Cc.2.1 Cc.2.2.2.2.1 hR d ?_
  have := kk p l e s m args below meth c H locs ls Cc hP hS hl
  rwa [List.map_cons, gre_ref, gad_sp (by omega)] at this
theorem V_getSc {j : Nat} (hj : j < 8) (hc : Cond.fieldLink (mOwn M) i "java/lang/String" "coder" "B" ∈ aW) (d : dc M pc (.getfield i) 3 q) (kk : V G M Q kc ks q lc (vi 0 :: st) w) : V G M Q kc ks pc lc (.ref (1200 + j) :: st) w := by
  obtain ⟨d, rfl⟩ := d
  intro p l e s m args below meth c H locs ls Cc hP hS hl
  have hR := (Cc.2.2.2.2.2.2.2.2.2.2.1.2.2.1.1 j hj).2.1
  rw [List.map_cons, gre_ref, gad_sp (by omega)]
  exact vk_getf Cc.1 Cc.2.1 hR hS Cc.2.2.2.2.1 (Cc.2.2.2.2.2.1 _ hc) (fun _ h => h) d (kk p l e s m args below meth c H locs ls Cc hP hS hl)
theorem V_getSv {j : Nat} (hj : j < 8) (hc : Cond.fieldLink (mOwn M) i "java/lang/String" "value" "[B" ∈ aW) (d : dc M pc (.getfield i) 3 q) (kk : V G M Q kc ks q lc (.ref (1300 + j) :: st) w) : V G M Q kc ks pc lc (.ref (1200 + j) :: st) w := by
  obtain ⟨d, rfl⟩ := d
  intro p l e s m args below meth c H locs ls Cc hP hS hl
  have hR := (Cc.2.2.2.2.2.2.2.2.2.2.1.2.2.1.1 j hj).2.2.1
  have := kk p l e s m args below meth c H locs ls Cc hP hS hl
  rw [List.map_cons, gre_ref, gad_sp (by omega)] at this
  rw [List.map_cons, gre_ref, gad_sp (by omega)]
  exact vk_getf Cc.1 Cc.2.1 hR hS Cc.2.2.2.2.1 (Cc.2.2.2.2.2.1 _ hc) (fun _ h => h) d this
theorem sLn_lt {j : Nat} (hj : j < 8) : sLn.getD j 0 < 10 := by
  rcases (show j = 0 ∨ j = 1 ∨ j = 2 ∨ j = 3 ∨ j = 4 ∨ j = 5 ∨ j = 6 ∨ j = 7 by omega) with rfl | rfl | rfl | rfl | rfl | rfl | rfl | rfl <;> decide
theorem V_lenB {j : Nat} (hj : j < 8) (d : dc M pc .arraylength 1 q) (kk : V G M Q kc ks q lc (vi (sLn.getD j 0) :: st) w) : V G M Q kc ks pc lc (.ref (1300 + j) :: st) w := by
  obtain ⟨d, rfl⟩ := d
  intro p l e s m args below meth c H locs ls Cc hP hS hl
  have hR := (Cc.2.2.2.2.2.2.2.2.2.2.1.2.2.1.1 j hj).2.2.2
  rw [List.map_cons, gre_ref, gad_sp (by omega)]
  exact va_tlen Cc.1 Cc.2.1 hR hS Int32.ofInt_eq_ofNat.symm d (kk p l e s m args below meth c H locs ls Cc hP hS hl)
theorem V_baloadS {j : Nat} {k : Int} (hj : j < 8) (hk : 0 ≤ k ∧ k < sLn.getD j 0) (d : dc M pc .baload 1 q) (kk : V G M Q kc ks q lc (vi (((sBy.getD j []).getD k.toNat 0).toInt) :: st) w) : V G M Q kc ks pc lc (vi k :: .ref (1300 + j) :: st) w := by
  obtain ⟨d, rfl⟩ := d
  intro p l e s m args below meth c H locs ls Cc hP hS hl
  have h10 := sLn_lt hj
  have hR := (Cc.2.2.2.2.2.2.2.2.2.2.1.2.2.1.1 j hj).2.2.2
  rw [List.map_cons, List.map_cons, gre_ref, gad_sp (by omega)]
  refine va_tb Cc.1 Cc.2.1 hR hS (i32_in hk (by omega)) rfl d ?_
  have := kk p l e s m args below meth c H locs ls Cc hP hS hl
  rw [List.map_cons, gre_vi, Int32.ofInt_toInt] at this
  show W _ _ _ _ _ _ _ _ _ _ _ _ _ _ _ (F0 m (pc + 1) ls (.int ((sBy.getD j []).getD (Int32.ofInt k).toNatClampNeg 0) :: st.map (gre G)))
  rw [i32_clamp (by omega)]
  exact this
theorem V_getsZ (hc : Cond.fieldLink (mOwn M) i "java/lang/String" "COMPACT_STRINGS" "Z" ∈ aW) (d : dc M pc (.getstatic i) 3 q) (kk : V G M Q kc ks q lc (vi 1 :: st) w) : V G M Q kc ks pc lc st w := by
  obtain ⟨d, rfl⟩ := d
  intro p l e s m args below meth c H locs ls Cc hP hS hl
  have hR := Cc.2.2.2.2.2.2.2.2.2.2.1.2.2.2.1
  exact va_gets Cc.1 Cc.2.1 hR hS Cc.2.2.2.2.1 (Cc.2.2.2.2.2.1 _ hc) (fun _ h => h) d (kk p l e s m args below meth c H locs ls Cc hP hS hl)
theorem V_getsQ (hc : Cond.fieldLink (mOwn M) i "jdk/internal/util/Preconditions" "SIOOBE_FORMATTER" "Ljava/util/function/BiFunction;" ∈ aW) (d : dc M pc (.getstatic i) 3 q) (kk : ∀ v, v = .null ∨ v = .ref 1400 → V G M Q kc ks q lc (v :: st) w) : V G M Q kc ks pc lc st w := by
  obtain ⟨d, rfl⟩ := d
  intro p l e s m args below meth c H locs ls Cc hP hS hl
  have hR := Cc.2.2.2.2.2.2.2.2.2.2.1.2.2.2.2
  exact va_gets Cc.1 Cc.2.1 hR.1 hS Cc.2.2.2.2.1 (Cc.2.2.2.2.2.1 _ hc) (fun _ h => h) d (kk _ hR.2 p l e s m args below meth c H locs ls Cc hP hS hl)
end R9
