/-! what a call that only reads keeps -/
/-- all int fields but those of the THROWS that are kept -/
def kF (o k : Nat) : Bool := !(o == 0 && k == 17) && !(o == 42) && !(o == 47) && !(o == 52) && !(o == 55) && !(o == 66 && (k == 40 || k == 41))
/-- all rows but those of the THROWS that are kept -/
def kA (o : Nat) : Bool := Nat.ble o 42 || (Nat.ble 59 o && Nat.ble o 83) || (Nat.ble 93 o && Nat.ble o 94) || Nat.ble 97 o
def kp (F : fT) (A : nT) (F' : fT) (A' : nT) : Prop := (∀ o k, kF o k = true → F' o k = F o k) ∧ ∀ o, kA o = true → A' o = A o
theorem kp.rfl' {F : fT} {A : nT} : kp F A F A := ⟨fun _ _ _ => rfl, fun _ _ => rfl⟩
theorem kp.tr {F F' F2 : fT} {A A' A2 : nT} (h : kp F A F' A') (h2 : kp F' A' F2 A2) : kp F A F2 A2 := ⟨fun o k e => (h2.1 o k e).trans (h.1 o k e), fun o e => (h2.2 o e).trans (h.2 o e)⟩
section P61
variable {F F' : fT} {A A' : nT}
theorem sOK.fr {o : Nat} (h : sOK F A o) (e10 : F' (o + 1) 0 = F (o + 1) 0) (e11 : F' (o + 1) 1 = F (o + 1) 1) (e5 : F' (o + 5) 0 = F (o + 5) 0) (a2 : A' (o + 2) = A (o + 2)) (a3 : A' (o + 3) = A (o + 3)) (a4 : A' (o + 4) = A (o + 4)) (a6 : A' (o + 6) = A (o + 6)) (a7 : A' (o + 7) = A (o + 7)) (a8 : A' (o + 8) = A (o + 8)) : sOK F' A' o := by
  unfold sOK at *
  rw [e10, e11, e5, a2, a3, a4, a6, a7, a8]
  exact h
theorem eqI.fr {o : Nat} {b : Int} (h : eqI F A o b) (e10 : F' (o + 1) 0 = F (o + 1) 0) (e11 : F' (o + 1) 1 = F (o + 1) 1) (e5 : F' (o + 5) 0 = F (o + 5) 0) (e51 : F' (o + 5) 1 = F (o + 5) 1) (a2 : A' (o + 2) = A (o + 2)) (a3 : A' (o + 3) = A (o + 3)) (a4 : A' (o + 4) = A (o + 4)) (a6 : A' (o + 6) = A (o + 6)) (a7 : A' (o + 7) = A (o + 7)) (a8 : A' (o + 8) = A (o + 8)) (ai : A' 99 = A 99) : eqI F' A' o b := by
  have hk := sOK.fr (F' := F') (A' := A') h.ok e10 e11 e5 a2 a3 a4 a6 a7 a8
  unfold eqI at *
  rw [e10, e11, e5, e51, a2, a3, a4, a6, a7, a8, ai]
  exact ⟨hk, h.2⟩
theorem kp.Qs (hk : kp F A F' A') (h : sOK F A 1) : sOK F' A' 1 := h.fr (hk.1 _ _ rfl) (hk.1 _ _ rfl) (hk.1 _ _ rfl) (hk.2 _ rfl) (hk.2 _ rfl) (hk.2 _ rfl) (hk.2 _ rfl) (hk.2 _ rfl) (hk.2 _ rfl)
theorem kp.Qe (hk : kp F A F' A') (h : eqS F A) : eqS F' A' := by
  unfold eqS at *
  rw [hk.1 66 0 rfl, hk.1 66 1 rfl, hk.1 66 5 rfl, hk.1 66 6 rfl, hk.1 2 0 rfl, hk.1 2 1 rfl, hk.1 6 0 rfl, hk.1 6 1 rfl, hk.2 67 rfl, hk.2 68 rfl, hk.2 69 rfl, hk.2 70 rfl, hk.2 71 rfl, hk.2 72 rfl, hk.2 3 rfl, hk.2 4 rfl, hk.2 5 rfl, hk.2 7 rfl, hk.2 8 rfl, hk.2 9 rfl]
  exact h
theorem kp.im0 (hk : kp F A F' A') (h : imK F A 10 0) : imK F' A' 10 0 := by
  have h2 := fun (e : eqI F A 10 (170 * 0)) => eqI.fr (F' := F') (A' := A') e (hk.1 _ _ rfl) (hk.1 _ _ rfl) (hk.1 _ _ rfl) (hk.1 _ _ rfl) (hk.2 _ rfl) (hk.2 _ rfl) (hk.2 _ rfl) (hk.2 _ rfl) (hk.2 _ rfl) (hk.2 _ rfl) (hk.2 _ rfl)
  unfold imK at *
  rw [hk.1 10 3 rfl, hk.2 100 rfl]
  exact ⟨h.1, h.2.imp id (fun e => ⟨e.1, h2 e.2⟩)⟩
theorem kp.im1 (hk : kp F A F' A') (h : imK F A 19 1) : imK F' A' 19 1 := by
  have h2 := fun (e : eqI F A 19 (170 * 1)) => eqI.fr (F' := F') (A' := A') e (hk.1 _ _ rfl) (hk.1 _ _ rfl) (hk.1 _ _ rfl) (hk.1 _ _ rfl) (hk.2 _ rfl) (hk.2 _ rfl) (hk.2 _ rfl) (hk.2 _ rfl) (hk.2 _ rfl) (hk.2 _ rfl) (hk.2 _ rfl)
  unfold imK at *
  rw [hk.1 19 3 rfl, hk.2 100 rfl]
  exact ⟨h.1, h.2.imp id (fun e => ⟨e.1, h2 e.2⟩)⟩
theorem kp.Qt (hk : kp F A F' A') {g : Int} {s : rS} : cTs F' A' 2 g s = cTs F A 2 g s := by
  show tsS (wtF (A' 3) (A' 4)) (bdF (A' 3) (A' 4)) (F' 2 1) (A' 9 0) (A' 9 1) (F' 2 0).toNat (A' 9 2).toNat (A' 7) (A' 8) g (F' 6 0).toNat s = tsS (wtF (A 3) (A 4)) (bdF (A 3) (A 4)) (F 2 1) (A 9 0) (A 9 1) (F 2 0).toNat (A 9 2).toNat (A 7) (A 8) g (F 6 0).toNat s
  rw [hk.1 2 0 rfl, hk.1 2 1 rfl, hk.1 6 0 rfl, hk.2 3 rfl, hk.2 4 rfl, hk.2 7 rfl, hk.2 8 rfl, hk.2 9 rfl]
theorem kp.Qn (hk : kp F A F' A') : inN F' = inN F := by
  unfold inN
  rw [hk.1 2 0 rfl, hk.1 6 0 rfl]
theorem kp.Qf (hk : kp F A F' A') (h : flK F A) (h42 : ∀ k, F' 42 k = F 42 k) (a3 : A' 43 = A 43) (a4 : A' 44 = A 44) (a5 : A' 45 = A 45) : flK F' A' := by
  unfold flK at *
  rw [hk.Qt, hk.Qn, hk.1 2 0 rfl, hk.1 2 1 rfl, hk.1 6 0 rfl, hk.1 0 11 rfl, hk.2 3 rfl, hk.2 4 rfl, hk.2 9 rfl, h42, h42, h42, h42, a3, a4, a5]
  exact h
theorem kp.Qk (hk : kp F A F' A') (h : tsK F A) (h40 : F' 66 40 = F 66 40) (a3 : A' 84 = A 84) (a4 : A' 85 = A 85) : tsK F' A' := by
  unfold tsK at *
  rw [hk.Qt, hk.Qn, h40, a3, a4]
  exact h
theorem kp.Ql (hk : kp F A F' A') {s : Int} : loS F' A' s = loS F A s := by
  have e1 : ∀ l, tsL F' A' l = tsL F A l := fun l => by
    unfold tsL
    rw [hk.1 2 0 rfl, hk.1 2 1 rfl, hk.1 6 0 rfl, hk.1 0 11 rfl, hk.2 4 rfl, hk.2 7 rfl, hk.2 8 rfl, hk.2 9 rfl]
  have e2 : ∀ l, spL F' A' l = spL F A l := fun l => by
    unfold spL
    rw [e1, hk.1 2 0 rfl, hk.1 6 0 rfl]
  have e3 : loT F' A' s = loT F A s := by
    funext b l
    unfold loT
    rw [e2]
  unfold loS
  rw [e3, hk.1 2 0 rfl]
theorem kp.Qr (hk : kp F A F' A') (h : srK F A) (e0 : F' 52 0 = F 52 0) (e1 : F' 52 1 = F 52 1) (a3 : A' 53 = A 53) : srK F' A' := by
  unfold srK at *
  rw [hk.Ql, e0, e1, a3, hk.1 2 0 rfl]
  exact h
theorem kp.Qv (hk : kp F A F' A') (h : Iv F A) (fl : F' 0 17 = 0 ∨ F' 0 17 = 1 ∧ flK F' A') (ts : tsK F' A') (sr : srK F' A') (b1 : bA (A' 43, A' 44)) (b2 : bA (A' 48, A' 49)) (b3 : bA (A' 84, A' 85)) : Iv F' A' := by
  have hs := hk.Qs h.ok
  have he := hk.Qe h.s
  have h0 := hk.im0 h.i0
  have h1 := hk.im1 h.i1
  refine Iv.mk hs he ?_ ?_ ?_ ?_ ?_ ?_ ?_ ?_ ?_ ?_ ?_ ?_ h0 h1 fl ts sr b1 b2 b3
  · rw [hk.1 66 10 rfl, hk.1 0 11 rfl]; exact h.giv
  · rw [hk.1 66 11 rfl, hk.1 66 12 rfl, hk.1 0 12 rfl, hk.1 0 13 rfl]; exact h.ear
  · rw [hk.1 66 13 rfl, hk.1 66 14 rfl, hk.1 0 14 rfl, hk.1 0 15 rfl]; exact h.post
  · rw [hk.1 66 16 rfl, hk.1 28 1 rfl]; exact h.tx
  · rw [hk.1 28 1 rfl, hk.2 73 rfl, hk.2 29 rfl]; exact h.txb
  · rw [hk.1 66 21 rfl, hk.1 0 16 rfl]; exact h.fa
  · rw [hk.1 66 49 rfl, hk.1 59 0 rfl]; exact h.hn
  · rw [hk.1 59 0 rfl, hk.2 93 rfl, hk.2 60 rfl]; exact h.hd
  · rw [hk.1 66 50 rfl, hk.1 59 1 rfl]; exact h.cn
  · rw [hk.1 59 1 rfl, hk.2 94 rfl, hk.2 61 rfl]; exact h.ct
  · rw [hk.1 66 55 rfl, hk.1 63 0 rfl]; exact h.fn
  · rw [hk.1 63 0 rfl, hk.2 97 rfl, hk.2 98 rfl, hk.2 64 rfl, hk.2 65 rfl]; exact h.fi
end P61

