/-- a method that answers r and leaves the world with these numbers -/
abbrev Mu (G : gT) (N : mT) (av : List Value) (F : fT) (A : nT) (r : Option Value) (F' : fT) (A' : nT) : Prop := Meets G N av (sw F A) (fun r' w => r' = r ∧ w = sw F' A')
/-- it only reads -/
abbrev Pu (G : gT) (N : mT) (av : List Value) (F : fT) (A : nT) (v : Value) : Prop := Mu G N av F A (some v) F A
abbrev zOk (N : mT) : Prop := (mRm N).cells = 0 ∧ (mRm N).slots = 0
theorem kz {M N : mT} {kc ks : Nat} (hz : zOk N) (h : eOk M kc ks) : kOk M N kc ks := ⟨by rw [hz.1]; exact h.1, by rw [hz.2]; exact h.2⟩
section R14
variable {G : gT} {M N : mT} {Q : Option Value → wT → Prop} {kc ks pc q t i n : Nat} {lc lc' : List (Option Value)} {st rest : List Value} {F F' : fT} {A A' : nT}
theorem C_v1 {o ci : Nat} {As : List Value} {v : Value} (hM : Mu G N (.ref o :: As) F A (some v) F' A') (hL : vLk (mOwn M) i N n ci) (d : dc M pc (.invokevirtual i) 3 q) (hK : sK o = (3, ci)) (hst : st = As.reverse ++ .ref o :: rest) (kk : V G M Q kc ks q lc (v :: rest) (sw F' A')) (hn : As.length = n := by rfl) (hR : rOk M N := by decide) (hz : zOk N := by decide) (hk : eOk M kc ks := by decide) (hc : (rest.map fun v => v.category).sum ≤ 8 := by exact Nat.le_of_ble_eq_true rfl) : V G M Q kc ks pc lc st (sw F A) := by
  refine S_callV hL d hK hst hM (fun r w' h => ?_) hn hR (kz hz hk) hc
  obtain ⟨rfl, rfl⟩ := h
  rw [hz.1, hz.2]
  exact kk
theorem C_v0 {o ci : Nat} {As : List Value} (hM : Mu G N (.ref o :: As) F A none F' A') (hL : vLk (mOwn M) i N n ci) (d : dc M pc (.invokevirtual i) 3 q) (hK : sK o = (3, ci)) (hst : st = As.reverse ++ .ref o :: rest) (kk : V G M Q kc ks q lc rest (sw F' A')) (hn : As.length = n := by rfl) (hR : rOk M N := by decide) (hz : zOk N := by decide) (hk : eOk M kc ks := by decide) (hc : (rest.map fun v => v.category).sum ≤ 8 := by exact Nat.le_of_ble_eq_true rfl) : V G M Q kc ks pc lc st (sw F A) := by
  refine S_callV hL d hK hst hM (fun r w' h => ?_) hn hR (kz hz hk) hc
  obtain ⟨rfl, rfl⟩ := h
  rw [hz.1, hz.2]
  exact kk
theorem C_s1 {As : List Value} {v : Value} (hM : Mu G N As F A (some v) F' A') (hL : sLk (mOwn M) i N n) (d : dc M pc (.invokestatic i) 3 q) (hst : st = As.reverse ++ rest) (kk : V G M Q kc ks q lc (v :: rest) (sw F' A')) (hn : As.length = n := by rfl) (hR : rOk M N := by decide) (hz : zOk N := by decide) (hk : eOk M kc ks := by decide) (hc : (rest.map fun v => v.category).sum ≤ 8 := by exact Nat.le_of_ble_eq_true rfl) : V G M Q kc ks pc lc st (sw F A) := by
  refine V_callS hL d hst hM (fun r w' h => ?_) hn hR (kz hz hk) hc
  obtain ⟨rfl, rfl⟩ := h
  rw [hz.1, hz.2]
  exact kk
theorem C_s0 {As : List Value} (hM : Mu G N As F A none F' A') (hL : sLk (mOwn M) i N n) (d : dc M pc (.invokestatic i) 3 q) (hst : st = As.reverse ++ rest) (kk : V G M Q kc ks q lc rest (sw F' A')) (hn : As.length = n := by rfl) (hR : rOk M N := by decide) (hz : zOk N := by decide) (hk : eOk M kc ks := by decide) (hc : (rest.map fun v => v.category).sum ≤ 8 := by exact Nat.le_of_ble_eq_true rfl) : V G M Q kc ks pc lc st (sw F A) := by
  refine V_callS hL d hst hM (fun r w' h => ?_) hn hR (kz hz hk) hc
  obtain ⟨rfl, rfl⟩ := h
  rw [hz.1, hz.2]
  exact kk
theorem C_n1 {As : List Value} {v : Value} (hM : Mu G N As F A (some v) F' A') (hL : sNk (mOwn M) i N n) (d : dc M pc (.invokestatic i) 3 q) (hst : st = As.reverse ++ rest) (kk : V G M Q kc ks q lc (v :: rest) (sw F' A')) (hn : As.length = n := by rfl) (hR : rOk M N := by decide) (hz : zOk N := by decide) (hk : eOk M kc ks := by decide) (hc : (rest.map fun v => v.category).sum ≤ 8 := by exact Nat.le_of_ble_eq_true rfl) : V G M Q kc ks pc lc st (sw F A) := by
  refine V_callSN hL d hst hM (fun r w' h => ?_) hn hR (kz hz hk) hc
  obtain ⟨rfl, rfl⟩ := h
  rw [hz.1, hz.2]
  exact kk
theorem C_t1 {j : Nat} {As : List Value} {v : Value} (hj : j < 8) (hM : Mu G N (.ref (1200 + j) :: As) F A (some v) F' A') (hL : tLk (mOwn M) i N n) (d : dc M pc (.invokevirtual i) 3 q) (hst : st = As.reverse ++ .ref (1200 + j) :: rest) (kk : V G M Q kc ks q lc (v :: rest) (sw F' A')) (hn : As.length = n := by rfl) (hR : rOk M N := by decide) (hz : zOk N := by decide) (hk : eOk M kc ks := by decide) (hc : (rest.map fun v => v.category).sum ≤ 8 := by exact Nat.le_of_ble_eq_true rfl) : V G M Q kc ks pc lc st (sw F A) := by
  refine V_callT hj hL d hst hM (fun r w' h => ?_) hn hR (kz hz hk) hc
  obtain ⟨rfl, rfl⟩ := h
  rw [hz.1, hz.2]
  exact kk
/-- a general end of the callee -/
theorem C_vq {o ci : Nat} {As : List Value} {Q' : Option Value → wT → Prop} (hM : Meets G N (.ref o :: As) (sw F A) Q') (hL : vLk (mOwn M) i N n ci) (d : dc M pc (.invokevirtual i) 3 q) (hK : sK o = (3, ci)) (hst : st = As.reverse ++ .ref o :: rest) (kk : ∀ r w', Q' r w' → V G M Q kc ks q lc (r.toList ++ rest) w') (hn : As.length = n := by rfl) (hR : rOk M N := by decide) (hz : zOk N := by decide) (hk : eOk M kc ks := by decide) (hc : (rest.map fun v => v.category).sum ≤ 8 := by exact Nat.le_of_ble_eq_true rfl) : V G M Q kc ks pc lc st (sw F A) := by
  refine S_callV hL d hK hst hM (fun r w' h => ?_) hn hR (kz hz hk) hc
  rw [hz.1, hz.2]
  exact kk r w' h
end R14
/-- a Flight at f: its rows follow it -/
def isFl (f : Nat) : Prop := f = 42 ∨ f = 47
theorem isFl.k {f : Nat} (h : isFl f) : sK f = (3, 1) := by rcases h with rfl | rfl <;> rfl
theorem isFl.i {f : Nat} (h : isFl f) {k : Nat} (hk : k < 4) : sR f k = 0 := by
  rcases h with rfl | rfl <;> (rcases (show k = 0 ∨ k = 1 ∨ k = 2 ∨ k = 3 by omega) with rfl | rfl | rfl | rfl <;> rfl)
theorem isFl.r4 {f : Nat} (h : isFl f) : sR f 4 = f + 1 := by rcases h with rfl | rfl <;> rfl
theorem isFl.r5 {f : Nat} (h : isFl f) : sR f 5 = f + 2 := by rcases h with rfl | rfl <;> rfl
theorem isFl.r6 {f : Nat} (h : isFl f) : sR f 6 = f + 3 := by rcases h with rfl | rfl <;> rfl
theorem isFl.r7 {f : Nat} (h : isFl f) : sR f 7 = f + 4 := by rcases h with rfl | rfl <;> rfl
theorem isFl.k1 {f : Nat} (h : isFl f) : sK (f + 1) = (0, 793) := by rcases h with rfl | rfl <;> rfl
theorem isFl.k2 {f : Nat} (h : isFl f) : sK (f + 2) = (0, 793) := by rcases h with rfl | rfl <;> rfl
theorem isFl.k3 {f : Nat} (h : isFl f) : sK (f + 3) = (0, 13) := by rcases h with rfl | rfl <;> rfl
theorem isFl.k4 {f : Nat} (h : isFl f) : sK (f + 4) = (0, 13) := by rcases h with rfl | rfl <;> rfl
/-- a Plait at p -/
def isPl (p : Nat) : Prop := p = 2 ∨ p = 11 ∨ p = 20 ∨ p = 31 ∨ p = 55
theorem isPl.k {p : Nat} (h : isPl p) : sK p = (3, 3) := by rcases h with rfl | rfl | rfl | rfl | rfl <;> rfl
theorem isPl.i {p : Nat} (h : isPl p) {k : Nat} (hk : k < 2) : sR p k = 0 := by
  rcases (show k = 0 ∨ k = 1 by omega) with rfl | rfl <;> (rcases h with rfl | rfl | rfl | rfl | rfl <;> rfl)
theorem isPl.r2 {p : Nat} (h : isPl p) : sR p 2 = p + 1 := by rcases h with rfl | rfl | rfl | rfl | rfl <;> rfl
theorem isPl.r3 {p : Nat} (h : isPl p) : sR p 3 = p + 2 := by rcases h with rfl | rfl | rfl | rfl | rfl <;> rfl
theorem isPl.r4 {p : Nat} (h : isPl p) : sR p 4 = p + 3 := by rcases h with rfl | rfl | rfl | rfl | rfl <;> rfl
theorem isPl.k1 {p : Nat} (h : isPl p) : sK (p + 1) = (0, 12) := by rcases h with rfl | rfl | rfl | rfl | rfl <;> rfl
theorem isPl.k2 {p : Nat} (h : isPl p) : sK (p + 2) = (0, 12) := by rcases h with rfl | rfl | rfl | rfl | rfl <;> rfl
theorem isPl.k3 {p : Nat} (h : isPl p) : sK (p + 3) = (0, 12) := by rcases h with rfl | rfl | rfl | rfl | rfl <;> rfl
/-- a Way at y -/
def isWy (y : Nat) : Prop := y = 6 ∨ y = 15 ∨ y = 24
theorem isWy.k {y : Nat} (h : isWy y) : sK y = (3, 8) := by rcases h with rfl | rfl | rfl <;> rfl
theorem isWy.i {y : Nat} (h : isWy y) {k : Nat} (hk : k < 2) : sR y k = 0 := by
  rcases (show k = 0 ∨ k = 1 by omega) with rfl | rfl <;> (rcases h with rfl | rfl | rfl <;> rfl)
theorem isWy.r2 {y : Nat} (h : isWy y) : sR y 2 = y + 1 := by rcases h with rfl | rfl | rfl <;> rfl
theorem isWy.r3 {y : Nat} (h : isWy y) : sR y 3 = y + 2 := by rcases h with rfl | rfl | rfl <;> rfl
theorem isWy.k1 {y : Nat} (h : isWy y) : sK (y + 1) = (0, 61) := by rcases h with rfl | rfl | rfl <;> rfl
theorem isWy.k2 {y : Nat} (h : isWy y) : sK (y + 2) = (0, 61) := by rcases h with rfl | rfl | rfl <;> rfl
/-- a Setup at s -/
def isSe (s : Nat) : Prop := s = 1 ∨ s = 10 ∨ s = 19
theorem isSe.k {s : Nat} (h : isSe s) : sK s = (3, 6) := by rcases h with rfl | rfl | rfl <;> rfl
theorem isSe.i3 {s : Nat} (h : isSe s) : sR s 3 = 0 := by rcases h with rfl | rfl | rfl <;> rfl
theorem isSe.r0 {s : Nat} (h : isSe s) : sR s 0 = s + 1 := by rcases h with rfl | rfl | rfl <;> rfl
theorem isSe.r1 {s : Nat} (h : isSe s) : sR s 1 = s + 5 := by rcases h with rfl | rfl | rfl <;> rfl
theorem isSe.r2 {s : Nat} (h : isSe s) : sR s 2 = s + 8 := by rcases h with rfl | rfl | rfl <;> rfl
theorem isSe.pl {s : Nat} (h : isSe s) : isPl (s + 1) := by rcases h with rfl | rfl | rfl <;> simp [isPl]
theorem isSe.wy {s : Nat} (h : isSe s) : isWy (s + 5) := by rcases h with rfl | rfl | rfl <;> simp [isWy]
theorem isSe.k8 {s : Nat} (h : isSe s) : sK (s + 8) = (0, 5) := by rcases h with rfl | rfl | rfl <;> rfl
