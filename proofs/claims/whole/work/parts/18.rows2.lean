/-! reading and writing two rows (f + 1, f + 2), others beside them -/
section R18
variable {G : gT} {M N : mT} {Q : Option Value → wT → Prop} {kc ks pc q t : Nat} {lc lc' : List (Option Value)} {st rest : List Value} {F F' : fT} {A A' : nT} {f n : Nat} {X Y : Int → Int} {i x : Int}
theorem Z_iald1 (d : dc M pc .iaload 1 q) (hK : sK (f + 1) = (0, n)) (kk : V G M Q kc ks q lc (vi (X i) :: st) (sw F (s2 A f X Y))) (hi : 0 ≤ i ∧ i < n := by omega) (hn : n < 2147483648 := by omega) : V G M Q kc ks pc lc (vi i :: .ref (f + 1) :: st) (sw F (s2 A f X Y)) := L_ialdE d hK s2_1 kk hi hn
theorem Z_iald2 (d : dc M pc .iaload 1 q) (hK : sK (f + 2) = (0, n)) (kk : V G M Q kc ks q lc (vi (Y i) :: st) (sw F (s2 A f X Y))) (hi : 0 ≤ i ∧ i < n := by omega) (hn : n < 2147483648 := by omega) : V G M Q kc ks pc lc (vi i :: .ref (f + 2) :: st) (sw F (s2 A f X Y)) := L_ialdE d hK s2_2 kk hi hn
theorem Z_lald1 (d : dc M pc .laload 1 q) (hK : sK (f + 1) = (1, n)) (kk : V G M Q kc ks q lc (vl (X i) :: st) (sw F (s2 A f X Y))) (hi : 0 ≤ i ∧ i < n := by omega) (hn : n < 2147483648 := by omega) : V G M Q kc ks pc lc (vi i :: .ref (f + 1) :: st) (sw F (s2 A f X Y)) := L_laldE d hK s2_1 kk hi hn
theorem Z_lald2 (d : dc M pc .laload 1 q) (hK : sK (f + 2) = (1, n)) (kk : V G M Q kc ks q lc (vl (Y i) :: st) (sw F (s2 A f X Y))) (hi : 0 ≤ i ∧ i < n := by omega) (hn : n < 2147483648 := by omega) : V G M Q kc ks pc lc (vi i :: .ref (f + 2) :: st) (sw F (s2 A f X Y)) := L_laldE d hK s2_2 kk hi hn
theorem Z_ialdo {o : Nat} (d : dc M pc .iaload 1 q) (hK : sK o = (0, n)) (ho : o ≠ f + 1 ∧ o ≠ f + 2) (kk : V G M Q kc ks q lc (vi (A o i) :: st) (sw F (s2 A f X Y))) (hi : 0 ≤ i ∧ i < n := by omega) (hn : n < 2147483648 := by omega) : V G M Q kc ks pc lc (vi i :: .ref o :: st) (sw F (s2 A f X Y)) := L_ialdE d hK (s2_o ho) kk hi hn
theorem Z_laldo {o : Nat} (d : dc M pc .laload 1 q) (hK : sK o = (1, n)) (ho : o ≠ f + 1 ∧ o ≠ f + 2) (kk : V G M Q kc ks q lc (vl (A o i) :: st) (sw F (s2 A f X Y))) (hi : 0 ≤ i ∧ i < n := by omega) (hn : n < 2147483648 := by omega) : V G M Q kc ks pc lc (vi i :: .ref o :: st) (sw F (s2 A f X Y)) := L_laldE d hK (s2_o ho) kk hi hn
theorem Z_iast1 (d : dc M pc .iastore 1 q) (hK : sK (f + 1) = (0, n)) (kk : V G M Q kc ks q lc st (sw F (s2 A f (uI X i x) Y))) (hi : 0 ≤ i ∧ i < n := by omega) (hn : n < 2147483648 := by omega) : V G M Q kc ks pc lc (vi x :: vi i :: .ref (f + 1) :: st) (sw F (s2 A f X Y)) := L_iast d hK (by rw [s2_1, s2_u1]; exact kk) hi hn
theorem Z_iast2 (d : dc M pc .iastore 1 q) (hK : sK (f + 2) = (0, n)) (kk : V G M Q kc ks q lc st (sw F (s2 A f X (uI Y i x)))) (hi : 0 ≤ i ∧ i < n := by omega) (hn : n < 2147483648 := by omega) : V G M Q kc ks pc lc (vi x :: vi i :: .ref (f + 2) :: st) (sw F (s2 A f X Y)) := L_iast d hK (by rw [s2_2, s2_u2]; exact kk) hi hn
theorem Z_last1 (d : dc M pc .lastore 1 q) (hK : sK (f + 1) = (1, n)) (kk : V G M Q kc ks q lc st (sw F (s2 A f (uI X i x) Y))) (hi : 0 ≤ i ∧ i < n := by omega) (hn : n < 2147483648 := by omega) : V G M Q kc ks pc lc (vl x :: vi i :: .ref (f + 1) :: st) (sw F (s2 A f X Y)) := L_last d hK (by rw [s2_1, s2_u1]; exact kk) hi hn
theorem Z_last2 (d : dc M pc .lastore 1 q) (hK : sK (f + 2) = (1, n)) (kk : V G M Q kc ks q lc st (sw F (s2 A f X (uI Y i x)))) (hi : 0 ≤ i ∧ i < n := by omega) (hn : n < 2147483648 := by omega) : V G M Q kc ks pc lc (vl x :: vi i :: .ref (f + 2) :: st) (sw F (s2 A f X Y)) := L_last d hK (by rw [s2_2, s2_u2]; exact kk) hi hn
end R18
theorem uI_uI {f : Int → Int} {i x y : Int} : uI (uI f i x) i y = uI f i y := by
  funext j
  by_cases h : j = i
  · simp [uI, h]
  · simp [uI, h]

