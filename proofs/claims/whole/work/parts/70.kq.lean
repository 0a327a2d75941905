/-! what a call keeps that leaves alone what is so and the IMAGES -/
def kG (o k : Nat) : Bool := (Nat.ble 1 o && Nat.ble o 27) || (o == 66 && Nat.ble k 6)
def kB (o : Nat) : Bool := (Nat.ble 1 o && Nat.ble o 27) || (Nat.ble 67 o && Nat.ble o 72) || o == 99 || o == 100
def kq (F : fT) (A : nT) (F' : fT) (A' : nT) : Prop := (∀ o k, kG o k = true → F' o k = F o k) ∧ ∀ o, kB o = true → A' o = A o
theorem kG_in {o k : Nat} (h : kG o k = true) : 1 ≤ o ∧ o ≤ 27 ∨ o = 66 ∧ k ≤ 6 := by
  unfold kG at h
  simp at h
  omega
theorem kB_in {o : Nat} (h : kB o = true) : 1 ≤ o ∧ o ≤ 27 ∨ 67 ≤ o ∧ o ≤ 72 ∨ o = 99 ∨ o = 100 := by
  unfold kB at h
  simp at h
  omega
theorem kq.rfl' {F : fT} {A : nT} : kq F A F A := ⟨fun _ _ _ => rfl, fun _ _ => rfl⟩
theorem kq.tr {F F' F2 : fT} {A A' A2 : nT} (h : kq F A F' A') (h2 : kq F' A' F2 A2) : kq F A F2 A2 := ⟨fun o k e => (h2.1 o k e).trans (h.1 o k e), fun o e => (h2.2 o e).trans (h.2 o e)⟩
section P70
variable {F F' : fT} {A A' : nT}
theorem kq.Qs (hk : kq F A F' A') (h : sOK F A 1) : sOK F' A' 1 := h.fr (hk.1 _ _ rfl) (hk.1 _ _ rfl) (hk.1 _ _ rfl) (hk.2 _ rfl) (hk.2 _ rfl) (hk.2 _ rfl) (hk.2 _ rfl) (hk.2 _ rfl) (hk.2 _ rfl)
theorem kq.Qe (hk : kq F A F' A') (h : eqS F A) : eqS F' A' := by
  unfold eqS at *
  rw [hk.1 66 0 rfl, hk.1 66 1 rfl, hk.1 66 5 rfl, hk.1 66 6 rfl, hk.1 2 0 rfl, hk.1 2 1 rfl, hk.1 6 0 rfl, hk.1 6 1 rfl, hk.2 67 rfl, hk.2 68 rfl, hk.2 69 rfl, hk.2 70 rfl, hk.2 71 rfl, hk.2 72 rfl, hk.2 3 rfl, hk.2 4 rfl, hk.2 5 rfl, hk.2 7 rfl, hk.2 8 rfl, hk.2 9 rfl]
  exact h
theorem kq.im0 (hk : kq F A F' A') (h : imK F A 10 0) : imK F' A' 10 0 := by
  have h2 := fun (e : eqI F A 10 (170 * 0)) => eqI.fr (F' := F') (A' := A') e (hk.1 _ _ rfl) (hk.1 _ _ rfl) (hk.1 _ _ rfl) (hk.1 _ _ rfl) (hk.2 _ rfl) (hk.2 _ rfl) (hk.2 _ rfl) (hk.2 _ rfl) (hk.2 _ rfl) (hk.2 _ rfl) (hk.2 _ rfl)
  unfold imK at *
  rw [hk.1 10 3 rfl, hk.2 100 rfl]
  exact ⟨h.1, h.2.imp id (fun e => ⟨e.1, h2 e.2⟩)⟩
theorem kq.im1 (hk : kq F A F' A') (h : imK F A 19 1) : imK F' A' 19 1 := by
  have h2 := fun (e : eqI F A 19 (170 * 1)) => eqI.fr (F' := F') (A' := A') e (hk.1 _ _ rfl) (hk.1 _ _ rfl) (hk.1 _ _ rfl) (hk.1 _ _ rfl) (hk.2 _ rfl) (hk.2 _ rfl) (hk.2 _ rfl) (hk.2 _ rfl) (hk.2 _ rfl) (hk.2 _ rfl) (hk.2 _ rfl)
  unfold imK at *
  rw [hk.1 19 3 rfl, hk.2 100 rfl]
  exact ⟨h.1, h.2.imp id (fun e => ⟨e.1, h2 e.2⟩)⟩
theorem kq.Qt (hk : kq F A F' A') {g : Int} {s : rS} : cTs F' A' 2 g s = cTs F A 2 g s := by
  show tsS (wtF (A' 3) (A' 4)) (bdF (A' 3) (A' 4)) (F' 2 1) (A' 9 0) (A' 9 1) (F' 2 0).toNat (A' 9 2).toNat (A' 7) (A' 8) g (F' 6 0).toNat s = tsS (wtF (A 3) (A 4)) (bdF (A 3) (A 4)) (F 2 1) (A 9 0) (A 9 1) (F 2 0).toNat (A 9 2).toNat (A 7) (A 8) g (F 6 0).toNat s
  rw [hk.1 2 0 rfl, hk.1 2 1 rfl, hk.1 6 0 rfl, hk.2 3 rfl, hk.2 4 rfl, hk.2 7 rfl, hk.2 8 rfl, hk.2 9 rfl]
theorem kq.Qn (hk : kq F A F' A') : inN F' = inN F := by
  unfold inN
  rw [hk.1 2 0 rfl, hk.1 6 0 rfl]
theorem kq.Qk (hk : kq F A F' A') (h : tsK F A) (h40 : F' 66 40 = F 66 40) (a3 : A' 84 = A 84) (a4 : A' 85 = A 85) : tsK F' A' := by
  unfold tsK at *
  rw [hk.Qt, hk.Qn, h40, a3, a4]
  exact h
end P70
section R70
variable {G : gT} {F : fT} {A : nT}
theorem p_X10_setChanged : Mu G mX10_setChanged [.ref 0] F A none (uF (uF F 0 17 0) 52 0 (-1)) A := by
  refine L_ent [some (.ref 0)] rfl ?_
  refine L_aload_n eX10_setChanged_0 rfl ?_
  refine V_iconst eX10_setChanged_1 ?_
  refine L_putZ eX10_setChanged_2 f_X10_93 rfl rfl ?_
  refine L_aload_n eX10_setChanged_5 rfl ?_
  refine L_getR (r := 52) eX10_setChanged_6 f_X10_56.g rfl rfl (by decide) ?_
  refine V_iconst eX10_setChanged_9 ?_
  refine L_put eX10_setChanged_10 f_X10_259 rfl rfl ?_
  exact V_return eX10_setChanged_13 ⟨rfl, rfl⟩
end R70

