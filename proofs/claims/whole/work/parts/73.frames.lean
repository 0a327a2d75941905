/-! frames: kr keeps what is so, the IMAGES and the THROWS; ks keeps all but what is so, the text and the THROWS' flags -/
def kRF (o k : Nat) : Bool := (Nat.ble 1 o && Nat.ble o 27) || (o == 66 && (Nat.ble k 6 || k == 10 || k == 40)) || (o == 0 && (k == 11 || k == 17)) || o == 42 || o == 52
def kRA (o : Nat) : Bool := (Nat.ble 1 o && Nat.ble o 27) || (Nat.ble 42 o && Nat.ble o 58) || (Nat.ble 67 o && Nat.ble o 72) || (Nat.ble 84 o && Nat.ble o 85) || o == 99 || o == 100
def kr (F : fT) (A : nT) (F' : fT) (A' : nT) : Prop := (∀ o k, kRF o k = true → F' o k = F o k) ∧ ∀ o, kRA o = true → A' o = A o
theorem kRF_in {o k : Nat} (h : kRF o k = true) : 1 ≤ o ∧ o ≤ 27 ∨ o = 66 ∧ (k ≤ 6 ∨ k = 10 ∨ k = 40) ∨ o = 0 ∧ (k = 11 ∨ k = 17) ∨ o = 42 ∨ o = 52 := by
  unfold kRF at h
  simp at h
  omega
theorem kRA_in {o : Nat} (h : kRA o = true) : 1 ≤ o ∧ o ≤ 27 ∨ 42 ≤ o ∧ o ≤ 58 ∨ 67 ≤ o ∧ o ≤ 72 ∨ 84 ≤ o ∧ o ≤ 85 ∨ o = 99 ∨ o = 100 := by
  unfold kRA at h
  simp at h
  omega
def kSF (o k : Nat) : Bool := (Nat.ble 10 o && Nat.ble o 27) || (o == 66 && (Nat.ble 10 k && Nat.ble k 15 || k == 49 || k == 50 || k == 55)) || (o == 0 && Nat.ble 11 k && Nat.ble k 15) || o == 59 || o == 63
def kSA (o : Nat) : Bool := (Nat.ble 10 o && Nat.ble o 27) || (Nat.ble 43 o && Nat.ble o 44) || (Nat.ble 48 o && Nat.ble o 49) || (Nat.ble 60 o && Nat.ble o 61) || (Nat.ble 64 o && Nat.ble o 65) || (Nat.ble 84 o && Nat.ble o 85) || (Nat.ble 93 o && Nat.ble o 94) || (Nat.ble 97 o && Nat.ble o 100)
def ks' (F : fT) (A : nT) (F' : fT) (A' : nT) : Prop := (∀ o k, kSF o k = true → F' o k = F o k) ∧ ∀ o, kSA o = true → A' o = A o
theorem kSF_in {o k : Nat} (h : kSF o k = true) : 10 ≤ o ∧ o ≤ 27 ∨ o = 66 ∧ (10 ≤ k ∧ k ≤ 15 ∨ k = 49 ∨ k = 50 ∨ k = 55) ∨ o = 0 ∧ 11 ≤ k ∧ k ≤ 15 ∨ o = 59 ∨ o = 63 := by
  unfold kSF at h
  simp at h
  omega
theorem kSA_in {o : Nat} (h : kSA o = true) : 10 ≤ o ∧ o ≤ 27 ∨ 43 ≤ o ∧ o ≤ 44 ∨ 48 ≤ o ∧ o ≤ 49 ∨ 60 ≤ o ∧ o ≤ 61 ∨ 64 ≤ o ∧ o ≤ 65 ∨ 84 ≤ o ∧ o ≤ 85 ∨ 93 ≤ o ∧ o ≤ 94 ∨ 97 ≤ o ∧ o ≤ 100 := by
  unfold kSA at h
  simp at h
  omega
section P73
variable {F F' : fT} {A A' : nT}
theorem kr.q (hk : kr F A F' A') : kq F A F' A' := by
  refine ⟨fun o k e => hk.1 o k ?_, fun o e => hk.2 o ?_⟩
  · have := kG_in e
    unfold kRF
    simp
    omega
  · have := kB_in e
    unfold kRA
    simp
    omega
theorem kr.Qf (hk : kr F A F' A') (h : flK F A) : flK F' A' := by
  unfold flK at *
  rw [hk.q.Qt, hk.q.Qn, hk.1 2 0 rfl, hk.1 2 1 rfl, hk.1 6 0 rfl, hk.1 0 11 rfl, hk.2 3 rfl, hk.2 4 rfl, hk.2 9 rfl, hk.1 42 0 rfl, hk.1 42 1 rfl, hk.1 42 2 rfl, hk.1 42 3 rfl, hk.2 43 rfl, hk.2 44 rfl, hk.2 45 rfl]
  exact h
theorem kr.Ql (hk : kr F A F' A') {s : Int} : loS F' A' s = loS F A s := by
  have e1 : ∀ l, tsL F' A' l = tsL F A l := fun l => by
    unfold tsL
    rw [hk.1 2 0 rfl, hk.1 2 1 rfl, hk.1 6 0 rfl, hk.1 0 11 rfl, hk.2 4 rfl, hk.2 7 rfl, hk.2 8 rfl, hk.2 9 rfl]
  have e2 : ∀ l, spL F' A' l = spL F A l := fun l => by
    unfold spL
    rw [e1, hk.1 2 0 rfl, hk.1 6 0 rfl]
  have e3 : loT F' A' s = loT F A s := by
    funext b l
    unfold loT
    rw [e2]
  unfold loS
  rw [e3, hk.1 2 0 rfl]
theorem kr.Qr (hk : kr F A F' A') (h : srK F A) : srK F' A' := by
  unfold srK at *
  rw [hk.Ql, hk.1 52 0 rfl, hk.1 52 1 rfl, hk.2 53 rfl, hk.1 2 0 rfl]
  exact h
/-- what isn't of a THROW has changed -/
theorem Iv.fr (h : Iv F A) (hk : kr F A F' A')
    (ear : F' 66 11 = F' 0 12 ∧ F' 66 12 = F' 0 13 ∧ ab 5000 (F' 0 12) ∧ ab 5000 (F' 0 13))
    (post : F' 66 13 = F' 0 14 ∧ F' 66 14 = F' 0 15 ∧ ab 5000 (F' 0 14) ∧ ab 5000 (F' 0 15))
    (tx : F' 66 16 = F' 28 1 ∧ 0 ≤ F' 28 1 ∧ F' 28 1 ≤ 160)
    (txb : ∀ i : Int, 0 ≤ i → i < F' 28 1 → A' 73 i = A' 29 i ∧ 0 ≤ A' 29 i ∧ A' 29 i ≤ 255)
    (fa : F' 66 21 = F' 0 16)
    (hn : F' 66 49 = F' 59 0 ∧ 0 ≤ F' 59 0 ∧ F' 59 0 ≤ 6)
    (hd : ∀ i : Int, 0 ≤ i → i < F' 59 0 → A' 93 i = A' 60 i ∧ 1 ≤ A' 60 i ∧ A' 60 i ≤ 999)
    (cn : F' 66 50 = F' 59 1 ∧ 0 ≤ F' 59 1 ∧ F' 59 1 ≤ 8)
    (ct : ∀ i : Int, 0 ≤ i → i < F' 59 1 → A' 94 i = A' 61 i ∧ 1 ≤ A' 61 i ∧ A' 61 i ≤ 999)
    (fn : F' 66 55 = F' 63 0 ∧ 0 ≤ F' 63 0 ∧ F' 63 0 ≤ 60)
    (fi : ∀ i : Int, 0 ≤ i → i < F' 63 0 → A' 97 i = A' 64 i ∧ A' 98 i = A' 65 i ∧ ab 9999 (A' 64 i) ∧ ab 9999 (A' 65 i)) : Iv F' A' := by
  refine Iv.mk (hk.q.Qs h.ok) (hk.q.Qe h.s) ?_ ear post tx txb fa hn hd cn ct fn fi (hk.q.im0 h.i0) (hk.q.im1 h.i1) ?_ (hk.q.Qk h.ts (hk.1 66 40 rfl) (hk.2 84 rfl) (hk.2 85 rfl)) (hk.Qr h.sr) ?_ ?_ ?_
  · rw [hk.1 66 10 rfl, hk.1 0 11 rfl]
    exact h.giv
  · rw [hk.1 0 17 rfl]
    exact h.fl.imp id (fun e => ⟨e.1, hk.Qf e.2⟩)
  · rw [hk.2 43 rfl, hk.2 44 rfl]
    exact h.b1
  · rw [hk.2 48 rfl, hk.2 49 rfl]
    exact h.b2
  · rw [hk.2 84 rfl, hk.2 85 rfl]
    exact h.b3
theorem ks'.im0 (hk : ks' F A F' A') (h : imK F A 10 0) : imK F' A' 10 0 := by
  have h2 := fun (e : eqI F A 10 (170 * 0)) => eqI.fr (F' := F') (A' := A') e (hk.1 _ _ rfl) (hk.1 _ _ rfl) (hk.1 _ _ rfl) (hk.1 _ _ rfl) (hk.2 _ rfl) (hk.2 _ rfl) (hk.2 _ rfl) (hk.2 _ rfl) (hk.2 _ rfl) (hk.2 _ rfl) (hk.2 _ rfl)
  unfold imK at *
  rw [hk.1 10 3 rfl, hk.2 100 rfl]
  exact ⟨h.1, h.2.imp id (fun e => ⟨e.1, h2 e.2⟩)⟩
theorem ks'.im1 (hk : ks' F A F' A') (h : imK F A 19 1) : imK F' A' 19 1 := by
  have h2 := fun (e : eqI F A 19 (170 * 1)) => eqI.fr (F' := F') (A' := A') e (hk.1 _ _ rfl) (hk.1 _ _ rfl) (hk.1 _ _ rfl) (hk.1 _ _ rfl) (hk.2 _ rfl) (hk.2 _ rfl) (hk.2 _ rfl) (hk.2 _ rfl) (hk.2 _ rfl) (hk.2 _ rfl) (hk.2 _ rfl)
  unfold imK at *
  rw [hk.1 19 3 rfl, hk.2 100 rfl]
  exact ⟨h.1, h.2.imp id (fun e => ⟨e.1, h2 e.2⟩)⟩
/-- what is so has changed, and no THROW is kept -/
theorem Iv.fs (h : Iv F A) (hk : ks' F A F' A') (ok : sOK F' A' 1) (s : eqS F' A')
    (tx : F' 66 16 = F' 28 1 ∧ 0 ≤ F' 28 1 ∧ F' 28 1 ≤ 160)
    (txb : ∀ i : Int, 0 ≤ i → i < F' 28 1 → A' 73 i = A' 29 i ∧ 0 ≤ A' 29 i ∧ A' 29 i ≤ 255)
    (fa : F' 66 21 = F' 0 16) (e17 : F' 0 17 = 0) (e40 : F' 66 40 = -1) (e52 : F' 52 0 = -1) : Iv F' A' := by
  refine Iv.mk ok s ?_ ?_ ?_ tx txb fa ?_ ?_ ?_ ?_ ?_ ?_ (hk.im0 h.i0) (hk.im1 h.i1) (Or.inl e17) (Or.inl e40) (Or.inl e52) ?_ ?_ ?_
  · rw [hk.1 66 10 rfl, hk.1 0 11 rfl]; exact h.giv
  · rw [hk.1 66 11 rfl, hk.1 66 12 rfl, hk.1 0 12 rfl, hk.1 0 13 rfl]; exact h.ear
  · rw [hk.1 66 13 rfl, hk.1 66 14 rfl, hk.1 0 14 rfl, hk.1 0 15 rfl]; exact h.post
  · rw [hk.1 66 49 rfl, hk.1 59 0 rfl]; exact h.hn
  · rw [hk.1 59 0 rfl, hk.2 93 rfl, hk.2 60 rfl]; exact h.hd
  · rw [hk.1 66 50 rfl, hk.1 59 1 rfl]; exact h.cn
  · rw [hk.1 59 1 rfl, hk.2 94 rfl, hk.2 61 rfl]; exact h.ct
  · rw [hk.1 66 55 rfl, hk.1 63 0 rfl]; exact h.fn
  · rw [hk.1 63 0 rfl, hk.2 97 rfl, hk.2 98 rfl, hk.2 64 rfl, hk.2 65 rfl]; exact h.fi
  · rw [hk.2 43 rfl, hk.2 44 rfl]; exact h.b1
  · rw [hk.2 48 rfl, hk.2 49 rfl]; exact h.b2
  · rw [hk.2 84 rfl, hk.2 85 rfl]; exact h.b3
end P73

