/-! what holds between two calls: the class (below 66) and the reference (66 and on) tell the same -/
def eqO (m : Int) (f g : Int → Int) : Prop := ∀ i : Int, 0 ≤ i → i < m → f i = g i
def zr : rS := (fun _ => 0, fun _ => 0)
theorem zr_b : bA zr := fun i _ _ => ⟨by show ab 130000 0; unfold ab; omega, by show ab 130000 0; unfold ab; omega⟩
/-- the Setup at o keeps its bounds -/
def sOK (F : fT) (A : nT) (o : Nat) : Prop := (1 ≤ F (o + 1) 0 ∧ F (o + 1) 0 ≤ 12) ∧ (20 ≤ F (o + 1) 1 ∧ F (o + 1) 1 ≤ 200) ∧ (1 ≤ F (o + 5) 0 ∧ F (o + 5) 0 ≤ 60) ∧ (plK (F (o + 1) 0) (A (o + 2)) (A (o + 3))) ∧ (lwK (A (o + 8))) ∧ (∀ t : Int, 0 ≤ t → t ≤ F (o + 5) 0 → ab 59940 (A (o + 6) t) ∧ ab 59940 (A (o + 7) t)) ∧ (A (o + 6) 0 = 0 ∧ A (o + 7) 0 = 0) ∧ (∀ i : Int, 1 ≤ i → i < F (o + 1) 0 → 0 ≤ A (o + 4) i ∧ A (o + 4) i ≤ 30000)
theorem sOK.n {F : fT} {A : nT} {o : Nat} (h : sOK F A o) : 1 ≤ F (o + 1) 0 ∧ F (o + 1) 0 ≤ 12 := h.1
theorem sOK.len {F : fT} {A : nT} {o : Nat} (h : sOK F A o) : 20 ≤ F (o + 1) 1 ∧ F (o + 1) 1 ≤ 200 := h.2.1
theorem sOK.T {F : fT} {A : nT} {o : Nat} (h : sOK F A o) : 1 ≤ F (o + 5) 0 ∧ F (o + 5) 0 ≤ 60 := h.2.2.1
theorem sOK.pl {F : fT} {A : nT} {o : Nat} (h : sOK F A o) : plK (F (o + 1) 0) (A (o + 2)) (A (o + 3)) := h.2.2.2.1
theorem sOK.lw {F : fT} {A : nT} {o : Nat} (h : sOK F A o) : lwK (A (o + 8)) := h.2.2.2.2.1
theorem sOK.wy {F : fT} {A : nT} {o : Nat} (h : sOK F A o) : ∀ t : Int, 0 ≤ t → t ≤ F (o + 5) 0 → ab 59940 (A (o + 6) t) ∧ ab 59940 (A (o + 7) t) := h.2.2.2.2.2.1
theorem sOK.w0 {F : fT} {A : nT} {o : Nat} (h : sOK F A o) : A (o + 6) 0 = 0 ∧ A (o + 7) 0 = 0 := h.2.2.2.2.2.2.1
theorem sOK.wr {F : fT} {A : nT} {o : Nat} (h : sOK F A o) : ∀ i : Int, 1 ≤ i → i < F (o + 1) 0 → 0 ≤ A (o + 4) i ∧ A (o + 4) i ≤ 30000 := h.2.2.2.2.2.2.2
theorem sOK.mk {F : fT} {A : nT} {o : Nat} (qn : 1 ≤ F (o + 1) 0 ∧ F (o + 1) 0 ≤ 12) (qlen : 20 ≤ F (o + 1) 1 ∧ F (o + 1) 1 ≤ 200) (qT : 1 ≤ F (o + 5) 0 ∧ F (o + 5) 0 ≤ 60) (qpl : plK (F (o + 1) 0) (A (o + 2)) (A (o + 3))) (qlw : lwK (A (o + 8))) (qwy : ∀ t : Int, 0 ≤ t → t ≤ F (o + 5) 0 → ab 59940 (A (o + 6) t) ∧ ab 59940 (A (o + 7) t)) (qw0 : A (o + 6) 0 = 0 ∧ A (o + 7) 0 = 0) (qwr : ∀ i : Int, 1 ≤ i → i < F (o + 1) 0 → 0 ≤ A (o + 4) i ∧ A (o + 4) i ≤ 30000) : sOK F A o := ⟨qn, qlen, qT, qpl, qlw, qwy, qw0, qwr⟩
theorem sOK.c {F : fT} {A : nT} (h : sOK F A 1) : cOK F A 2 := ⟨h.n, h.len, h.T, h.pl, h.lw, h.wy⟩
/-- what is so -/
def eqS (F : fT) (A : nT) : Prop := (F 66 0 = F 2 0) ∧ (F 66 1 = F 2 1) ∧ (F 66 5 = F 6 0) ∧ (F 66 6 = F 6 1) ∧ (eqO (F 2 0) (A 67) (A 3)) ∧ (eqO (F 2 0) (A 68) (A 4)) ∧ (eqO (F 2 0) (A 69) (A 5)) ∧ (eqO (F 6 0 + 1) (A 70) (A 7)) ∧ (eqO (F 6 0 + 1) (A 71) (A 8)) ∧ (eqO 5 (A 72) (A 9))
theorem eqS.n {F : fT} {A : nT} (h : eqS F A) : F 66 0 = F 2 0 := h.1
theorem eqS.len {F : fT} {A : nT} (h : eqS F A) : F 66 1 = F 2 1 := h.2.1
theorem eqS.T {F : fT} {A : nT} (h : eqS F A) : F 66 5 = F 6 0 := h.2.2.1
theorem eqS.cl {F : fT} {A : nT} (h : eqS F A) : F 66 6 = F 6 1 := h.2.2.2.1
theorem eqS.str {F : fT} {A : nT} (h : eqS F A) : eqO (F 2 0) (A 67) (A 3) := h.2.2.2.2.1
theorem eqS.stf {F : fT} {A : nT} (h : eqS F A) : eqO (F 2 0) (A 68) (A 4) := h.2.2.2.2.2.1
theorem eqS.wr {F : fT} {A : nT} (h : eqS F A) : eqO (F 2 0) (A 69) (A 5) := h.2.2.2.2.2.2.1
theorem eqS.wx {F : fT} {A : nT} (h : eqS F A) : eqO (F 6 0 + 1) (A 70) (A 7) := h.2.2.2.2.2.2.2.1
theorem eqS.wy {F : fT} {A : nT} (h : eqS F A) : eqO (F 6 0 + 1) (A 71) (A 8) := h.2.2.2.2.2.2.2.2.1
theorem eqS.lw {F : fT} {A : nT} (h : eqS F A) : eqO 5 (A 72) (A 9) := h.2.2.2.2.2.2.2.2.2
theorem eqS.mk {F : fT} {A : nT} (qn : F 66 0 = F 2 0) (qlen : F 66 1 = F 2 1) (qT : F 66 5 = F 6 0) (qcl : F 66 6 = F 6 1) (qstr : eqO (F 2 0) (A 67) (A 3)) (qstf : eqO (F 2 0) (A 68) (A 4)) (qwr : eqO (F 2 0) (A 69) (A 5)) (qwx : eqO (F 6 0 + 1) (A 70) (A 7)) (qwy : eqO (F 6 0 + 1) (A 71) (A 8)) (qlw : eqO 5 (A 72) (A 9)) : eqS F A := ⟨qn, qlen, qT, qcl, qstr, qstf, qwr, qwx, qwy, qlw⟩
/-- an IMAGE -/
def eqI (F : fT) (A : nT) (o : Nat) (b : Int) : Prop := (sOK F A o) ∧ (A 99 b = F (o + 1) 0) ∧ (A 99 (b + 1) = F (o + 1) 1) ∧ (A 99 (b + 2) = F (o + 5) 0) ∧ (A 99 (b + 3) = F (o + 5) 1) ∧ (eqO (F (o + 1) 0) (fun i => A 99 (b + 4 + i)) (A (o + 2))) ∧ (eqO (F (o + 1) 0) (fun i => A 99 (b + 16 + i)) (A (o + 3))) ∧ (eqO (F (o + 1) 0) (fun i => A 99 (b + 28 + i)) (A (o + 4))) ∧ (eqO 5 (fun i => A 99 (b + 40 + i)) (A (o + 8))) ∧ (eqO (F (o + 5) 0 + 1) (fun i => A 99 (b + 45 + i)) (A (o + 6))) ∧ (eqO (F (o + 5) 0 + 1) (fun i => A 99 (b + 106 + i)) (A (o + 7)))
theorem eqI.ok {F : fT} {A : nT} {o : Nat} {b : Int} (h : eqI F A o b) : sOK F A o := h.1
theorem eqI.n {F : fT} {A : nT} {o : Nat} {b : Int} (h : eqI F A o b) : A 99 b = F (o + 1) 0 := h.2.1
theorem eqI.len {F : fT} {A : nT} {o : Nat} {b : Int} (h : eqI F A o b) : A 99 (b + 1) = F (o + 1) 1 := h.2.2.1
theorem eqI.T {F : fT} {A : nT} {o : Nat} {b : Int} (h : eqI F A o b) : A 99 (b + 2) = F (o + 5) 0 := h.2.2.2.1
theorem eqI.cl {F : fT} {A : nT} {o : Nat} {b : Int} (h : eqI F A o b) : A 99 (b + 3) = F (o + 5) 1 := h.2.2.2.2.1
theorem eqI.str {F : fT} {A : nT} {o : Nat} {b : Int} (h : eqI F A o b) : eqO (F (o + 1) 0) (fun i => A 99 (b + 4 + i)) (A (o + 2)) := h.2.2.2.2.2.1
theorem eqI.stf {F : fT} {A : nT} {o : Nat} {b : Int} (h : eqI F A o b) : eqO (F (o + 1) 0) (fun i => A 99 (b + 16 + i)) (A (o + 3)) := h.2.2.2.2.2.2.1
theorem eqI.wr {F : fT} {A : nT} {o : Nat} {b : Int} (h : eqI F A o b) : eqO (F (o + 1) 0) (fun i => A 99 (b + 28 + i)) (A (o + 4)) := h.2.2.2.2.2.2.2.1
theorem eqI.lw {F : fT} {A : nT} {o : Nat} {b : Int} (h : eqI F A o b) : eqO 5 (fun i => A 99 (b + 40 + i)) (A (o + 8)) := h.2.2.2.2.2.2.2.2.1
theorem eqI.wx {F : fT} {A : nT} {o : Nat} {b : Int} (h : eqI F A o b) : eqO (F (o + 5) 0 + 1) (fun i => A 99 (b + 45 + i)) (A (o + 6)) := h.2.2.2.2.2.2.2.2.2.1
theorem eqI.wy {F : fT} {A : nT} {o : Nat} {b : Int} (h : eqI F A o b) : eqO (F (o + 5) 0 + 1) (fun i => A 99 (b + 106 + i)) (A (o + 7)) := h.2.2.2.2.2.2.2.2.2.2
theorem eqI.mk {F : fT} {A : nT} {o : Nat} {b : Int} (qok : sOK F A o) (qn : A 99 b = F (o + 1) 0) (qlen : A 99 (b + 1) = F (o + 1) 1) (qT : A 99 (b + 2) = F (o + 5) 0) (qcl : A 99 (b + 3) = F (o + 5) 1) (qstr : eqO (F (o + 1) 0) (fun i => A 99 (b + 4 + i)) (A (o + 2))) (qstf : eqO (F (o + 1) 0) (fun i => A 99 (b + 16 + i)) (A (o + 3))) (qwr : eqO (F (o + 1) 0) (fun i => A 99 (b + 28 + i)) (A (o + 4))) (qlw : eqO 5 (fun i => A 99 (b + 40 + i)) (A (o + 8))) (qwx : eqO (F (o + 5) 0 + 1) (fun i => A 99 (b + 45 + i)) (A (o + 6))) (qwy : eqO (F (o + 5) 0 + 1) (fun i => A 99 (b + 106 + i)) (A (o + 7))) : eqI F A o b := ⟨qok, qn, qlen, qT, qcl, qstr, qstf, qwr, qlw, qwx, qwy⟩
def imK (F : fT) (A : nT) (o : Nat) (i : Int) : Prop := F o 3 = A 100 i ∧ (F o 3 = 0 ∨ F o 3 = 1 ∧ eqI F A o (170 * i))
/-- the cells of the THROW that is so -/
def inN (F : fT) : Int → Prop := inI (F 2 0) (F 6 0) (F 2 0)
/-- the class's THROW, kept -/
def flK (F : fT) (A : nT) : Prop := (F 42 0 = F 2 0) ∧ (F 42 1 = F 6 0) ∧ (F 42 2 = A 9 3) ∧ (F 42 3 = F 2 1) ∧ (∀ k : Int, 1 ≤ k → k ≤ F 2 0 → A 45 k = wtF (A 3) (A 4) k) ∧ (agP (inN F) (A 43, A 44) (cTs F A 2 (F 0 11) zr))
theorem flK.n {F : fT} {A : nT} (h : flK F A) : F 42 0 = F 2 0 := h.1
theorem flK.T {F : fT} {A : nT} (h : flK F A) : F 42 1 = F 6 0 := h.2.1
theorem flK.pc {F : fT} {A : nT} (h : flK F A) : F 42 2 = A 9 3 := h.2.2.1
theorem flK.len {F : fT} {A : nT} (h : flK F A) : F 42 3 = F 2 1 := h.2.2.2.1
theorem flK.wt {F : fT} {A : nT} (h : flK F A) : ∀ k : Int, 1 ≤ k → k ≤ F 2 0 → A 45 k = wtF (A 3) (A 4) k := h.2.2.2.2.1
theorem flK.ag {F : fT} {A : nT} (h : flK F A) : agP (inN F) (A 43, A 44) (cTs F A 2 (F 0 11) zr) := h.2.2.2.2.2
theorem flK.mk {F : fT} {A : nT} (qn : F 42 0 = F 2 0) (qT : F 42 1 = F 6 0) (qpc : F 42 2 = A 9 3) (qlen : F 42 3 = F 2 1) (qwt : ∀ k : Int, 1 ≤ k → k ≤ F 2 0 → A 45 k = wtF (A 3) (A 4) k) (qag : agP (inN F) (A 43, A 44) (cTs F A 2 (F 0 11) zr)) : flK F A := ⟨qn, qT, qpc, qlen, qwt, qag⟩
/-- the reference's THROW, kept -/
def tsK (F : fT) (A : nT) : Prop := F 66 40 = -1 ∨ (10 ≤ F 66 40 ∧ F 66 40 ≤ 200) ∧ agP (inN F) (A 84, A 85) (cTs F A 2 (F 66 40) zr)
/-- rows of STRANDS, by their places in the list -/
def nxR : List Int → Option (List Int)
  | [] => none
  | a :: r => match nxR r with
    | some r' => some (a :: r')
    | none => if a = 4 then none else some (List.replicate (r.length + 1) (a + 1))
def rwS : Nat → List Int → List (List Int)
  | 0, _ => []
  | k + 1, l => l :: (match nxR l with
    | some l' => rwS k l'
    | none => [])
def stL (l : List Int) : Int → Int := fun i => ltT (l.getD i.toNat 0)
def smL (l : List Int) : Int := (l.map ltT).sum
def tsL (F : fT) (A : nT) (l : List Int) : rS := tsS (wtF (stL l) (A 4)) (bdF (stL l) (A 4)) (F 2 1) (A 9 0) (A 9 1) (F 2 0).toNat (A 9 2).toNat (A 7) (A 8) (F 0 11) (F 6 0).toNat zr
def spL (F : fT) (A : nT) (l : List Int) : Int := rt (gM (mv (tsL F A l).1 (tsL F A l).2) (F 2 0).toNat (F 6 0).toNat)
def loT (F : fT) (A : nT) (s : Int) (b : Int × List Int) (l : List Int) : Int × List Int := if smL l ≤ s ∧ b.1 < spL F A l then (spL F A l, l) else b
def loS (F : fT) (A : nT) (s : Int) : Int × List Int := (rwS 495 (List.replicate (F 2 0).toNat 0)).foldl (loT F A s) (-1, [])
def srK (F : fT) (A : nT) : Prop := F 52 0 = -1 ∨ (1 ≤ F 52 0 ∧ F 52 0 ≤ 96) ∧ F 2 0 ≤ 8 ∧ F 52 1 = (loS F A (F 52 0)).1 ∧ (F 52 1 ≠ -1 → eqO (F 2 0) (A 53) (stL (loS F A (F 52 0)).2))
def Iv (F : fT) (A : nT) : Prop := (sOK F A 1) ∧ (eqS F A) ∧ (F 66 10 = F 0 11 ∧ 10 ≤ F 0 11 ∧ F 0 11 ≤ 200) ∧ (F 66 11 = F 0 12 ∧ F 66 12 = F 0 13 ∧ ab 5000 (F 0 12) ∧ ab 5000 (F 0 13)) ∧ (F 66 13 = F 0 14 ∧ F 66 14 = F 0 15 ∧ ab 5000 (F 0 14) ∧ ab 5000 (F 0 15)) ∧ (F 66 16 = F 28 1 ∧ 0 ≤ F 28 1 ∧ F 28 1 ≤ 160) ∧ (∀ i : Int, 0 ≤ i → i < F 28 1 → A 73 i = A 29 i ∧ 0 ≤ A 29 i ∧ A 29 i ≤ 255) ∧ (F 66 21 = F 0 16) ∧ (F 66 49 = F 59 0 ∧ 0 ≤ F 59 0 ∧ F 59 0 ≤ 6) ∧ (∀ i : Int, 0 ≤ i → i < F 59 0 → A 93 i = A 60 i ∧ 1 ≤ A 60 i ∧ A 60 i ≤ 999) ∧ (F 66 50 = F 59 1 ∧ 0 ≤ F 59 1 ∧ F 59 1 ≤ 8) ∧ (∀ i : Int, 0 ≤ i → i < F 59 1 → A 94 i = A 61 i ∧ 1 ≤ A 61 i ∧ A 61 i ≤ 999) ∧ (F 66 55 = F 63 0 ∧ 0 ≤ F 63 0 ∧ F 63 0 ≤ 60) ∧ (∀ i : Int, 0 ≤ i → i < F 63 0 → A 97 i = A 64 i ∧ A 98 i = A 65 i ∧ ab 9999 (A 64 i) ∧ ab 9999 (A 65 i)) ∧ (imK F A 10 0) ∧ (imK F A 19 1) ∧ (F 0 17 = 0 ∨ F 0 17 = 1 ∧ flK F A) ∧ (tsK F A) ∧ (srK F A) ∧ (bA (A 43, A 44)) ∧ (bA (A 48, A 49)) ∧ (bA (A 84, A 85))
theorem Iv.ok {F : fT} {A : nT} (h : Iv F A) : sOK F A 1 := h.1
theorem Iv.s {F : fT} {A : nT} (h : Iv F A) : eqS F A := h.2.1
theorem Iv.giv {F : fT} {A : nT} (h : Iv F A) : F 66 10 = F 0 11 ∧ 10 ≤ F 0 11 ∧ F 0 11 ≤ 200 := h.2.2.1
theorem Iv.ear {F : fT} {A : nT} (h : Iv F A) : F 66 11 = F 0 12 ∧ F 66 12 = F 0 13 ∧ ab 5000 (F 0 12) ∧ ab 5000 (F 0 13) := h.2.2.2.1
theorem Iv.post {F : fT} {A : nT} (h : Iv F A) : F 66 13 = F 0 14 ∧ F 66 14 = F 0 15 ∧ ab 5000 (F 0 14) ∧ ab 5000 (F 0 15) := h.2.2.2.2.1
theorem Iv.tx {F : fT} {A : nT} (h : Iv F A) : F 66 16 = F 28 1 ∧ 0 ≤ F 28 1 ∧ F 28 1 ≤ 160 := h.2.2.2.2.2.1
theorem Iv.txb {F : fT} {A : nT} (h : Iv F A) : ∀ i : Int, 0 ≤ i → i < F 28 1 → A 73 i = A 29 i ∧ 0 ≤ A 29 i ∧ A 29 i ≤ 255 := h.2.2.2.2.2.2.1
theorem Iv.fa {F : fT} {A : nT} (h : Iv F A) : F 66 21 = F 0 16 := h.2.2.2.2.2.2.2.1
theorem Iv.hn {F : fT} {A : nT} (h : Iv F A) : F 66 49 = F 59 0 ∧ 0 ≤ F 59 0 ∧ F 59 0 ≤ 6 := h.2.2.2.2.2.2.2.2.1
theorem Iv.hd {F : fT} {A : nT} (h : Iv F A) : ∀ i : Int, 0 ≤ i → i < F 59 0 → A 93 i = A 60 i ∧ 1 ≤ A 60 i ∧ A 60 i ≤ 999 := h.2.2.2.2.2.2.2.2.2.1
theorem Iv.cn {F : fT} {A : nT} (h : Iv F A) : F 66 50 = F 59 1 ∧ 0 ≤ F 59 1 ∧ F 59 1 ≤ 8 := h.2.2.2.2.2.2.2.2.2.2.1
theorem Iv.ct {F : fT} {A : nT} (h : Iv F A) : ∀ i : Int, 0 ≤ i → i < F 59 1 → A 94 i = A 61 i ∧ 1 ≤ A 61 i ∧ A 61 i ≤ 999 := h.2.2.2.2.2.2.2.2.2.2.2.1
theorem Iv.fn {F : fT} {A : nT} (h : Iv F A) : F 66 55 = F 63 0 ∧ 0 ≤ F 63 0 ∧ F 63 0 ≤ 60 := h.2.2.2.2.2.2.2.2.2.2.2.2.1
theorem Iv.fi {F : fT} {A : nT} (h : Iv F A) : ∀ i : Int, 0 ≤ i → i < F 63 0 → A 97 i = A 64 i ∧ A 98 i = A 65 i ∧ ab 9999 (A 64 i) ∧ ab 9999 (A 65 i) := h.2.2.2.2.2.2.2.2.2.2.2.2.2.1
theorem Iv.i0 {F : fT} {A : nT} (h : Iv F A) : imK F A 10 0 := h.2.2.2.2.2.2.2.2.2.2.2.2.2.2.1
theorem Iv.i1 {F : fT} {A : nT} (h : Iv F A) : imK F A 19 1 := h.2.2.2.2.2.2.2.2.2.2.2.2.2.2.2.1
theorem Iv.fl {F : fT} {A : nT} (h : Iv F A) : F 0 17 = 0 ∨ F 0 17 = 1 ∧ flK F A := h.2.2.2.2.2.2.2.2.2.2.2.2.2.2.2.2.1
theorem Iv.ts {F : fT} {A : nT} (h : Iv F A) : tsK F A := h.2.2.2.2.2.2.2.2.2.2.2.2.2.2.2.2.2.1
theorem Iv.sr {F : fT} {A : nT} (h : Iv F A) : srK F A := h.2.2.2.2.2.2.2.2.2.2.2.2.2.2.2.2.2.2.1
theorem Iv.b1 {F : fT} {A : nT} (h : Iv F A) : bA (A 43, A 44) := h.2.2.2.2.2.2.2.2.2.2.2.2.2.2.2.2.2.2.2.1
theorem Iv.b2 {F : fT} {A : nT} (h : Iv F A) : bA (A 48, A 49) := h.2.2.2.2.2.2.2.2.2.2.2.2.2.2.2.2.2.2.2.2.1
theorem Iv.b3 {F : fT} {A : nT} (h : Iv F A) : bA (A 84, A 85) := h.2.2.2.2.2.2.2.2.2.2.2.2.2.2.2.2.2.2.2.2.2
theorem Iv.mk {F : fT} {A : nT} (qok : sOK F A 1) (qs : eqS F A) (qgiv : F 66 10 = F 0 11 ∧ 10 ≤ F 0 11 ∧ F 0 11 ≤ 200) (qear : F 66 11 = F 0 12 ∧ F 66 12 = F 0 13 ∧ ab 5000 (F 0 12) ∧ ab 5000 (F 0 13)) (qpost : F 66 13 = F 0 14 ∧ F 66 14 = F 0 15 ∧ ab 5000 (F 0 14) ∧ ab 5000 (F 0 15)) (qtx : F 66 16 = F 28 1 ∧ 0 ≤ F 28 1 ∧ F 28 1 ≤ 160) (qtxb : ∀ i : Int, 0 ≤ i → i < F 28 1 → A 73 i = A 29 i ∧ 0 ≤ A 29 i ∧ A 29 i ≤ 255) (qfa : F 66 21 = F 0 16) (qhn : F 66 49 = F 59 0 ∧ 0 ≤ F 59 0 ∧ F 59 0 ≤ 6) (qhd : ∀ i : Int, 0 ≤ i → i < F 59 0 → A 93 i = A 60 i ∧ 1 ≤ A 60 i ∧ A 60 i ≤ 999) (qcn : F 66 50 = F 59 1 ∧ 0 ≤ F 59 1 ∧ F 59 1 ≤ 8) (qct : ∀ i : Int, 0 ≤ i → i < F 59 1 → A 94 i = A 61 i ∧ 1 ≤ A 61 i ∧ A 61 i ≤ 999) (qfn : F 66 55 = F 63 0 ∧ 0 ≤ F 63 0 ∧ F 63 0 ≤ 60) (qfi : ∀ i : Int, 0 ≤ i → i < F 63 0 → A 97 i = A 64 i ∧ A 98 i = A 65 i ∧ ab 9999 (A 64 i) ∧ ab 9999 (A 65 i)) (qi0 : imK F A 10 0) (qi1 : imK F A 19 1) (qfl : F 0 17 = 0 ∨ F 0 17 = 1 ∧ flK F A) (qts : tsK F A) (qsr : srK F A) (qb1 : bA (A 43, A 44)) (qb2 : bA (A 48, A 49)) (qb3 : bA (A 84, A 85)) : Iv F A := ⟨qok, qs, qgiv, qear, qpost, qtx, qtxb, qfa, qhn, qhd, qcn, qct, qfn, qfi, qi0, qi1, qfl, qts, qsr, qb1, qb2, qb3⟩
theorem Iv.m {F : fT} {A : nT} (h : Iv F A) : mOK F A := by
  have hk := h.ok
  have hs := h.s
  have hlw : lwK (A 72) := by
    have h0 := hs.lw 0 (by omega) (by omega)
    have h1 := hs.lw 1 (by omega) (by omega)
    have h2 := hs.lw 2 (by omega) (by omega)
    have h3 := hs.lw 3 (by omega) (by omega)
    have h4 := hs.lw 4 (by omega) (by omega)
    have hl := hk.lw
    unfold lwK at hl ⊢
    rw [h0, h1, h2, h3, h4]
    exact hl
  refine ⟨by rw [hs.n]; exact hk.n, by rw [hs.len]; exact hk.len, by rw [hs.T]; exact hk.T, ?_, hlw, ?_, h.b3, ?_, ?_⟩
  · intro i a b
    rw [hs.n] at b
    rw [hs.str i a b, hs.stf i a b]
    exact hk.pl i a b
  · intro t a b
    rw [hs.T] at b
    rw [hs.wx t a (by omega), hs.wy t a (by omega)]
    exact hk.wy t a b
  · rcases h.ts with e | e <;> omega
  · rcases h.ts with e | e <;> omega
/-- both throw alike -/
theorem Iv.mc {F : fT} {A : nT} (hk : sOK F A 1) (hs : eqS F A) {g : Int} {s : rS} : mTs F A g s = cTs F A 2 g s := by
  have hn := hk.n
  have hT := hk.T
  have ew : ∀ k : Int, 1 ≤ k → k ≤ ((F 2 0).toNat : Int) → A 67 (k - 1) = A 3 (k - 1) ∧ A 68 (k - 1) = A 4 (k - 1) := fun k a b => by
    have hn' : (1 : Int) ≤ F 2 0 := hn.1
    exact ⟨hs.str _ (by omega) (by omega), hs.stf _ (by omega) (by omega)⟩
  unfold mTs cTs
  rw [hs.n, hs.len, hs.T, hs.lw 0 (by omega) (by omega), hs.lw 1 (by omega) (by omega), hs.lw 2 (by omega) (by omega)]
  refine ts_cong ?_ ?_ ?_
  · intro k a b
    unfold wtF
    rw [(ew k a b).1, (ew k a b).2]
  · intro k a b
    unfold bdF
    rw [(ew k a b).1, (ew k a b).2]
  · intro t a b
    have hT' : (1 : Int) ≤ F 6 0 := hT.1
    exact ⟨hs.wx t (by omega) (by omega), hs.wy t (by omega) (by omega)⟩
theorem Iv.ag {F : fT} {A : nT} (hk : sOK F A 1) {g : Int} {s s' : rS} : agP (inN F) (cTs F A 2 g s) (cTs F A 2 g s') := by
  have hn : 1 ≤ F 2 0 ∧ F 2 0 ≤ 12 := hk.n
  have hT : 1 ≤ F 6 0 ∧ F 6 0 ≤ 60 := hk.T
  have h := ag_ts (n := (F 2 0).toNat) (R := (A 9 2).toNat) (T := (F 6 0).toNat) (wt := wtF (A (2 + 1)) (A (2 + 2))) (bd := bdF (A (2 + 1)) (A (2 + 2))) (wx := A 7) (wy := A 8) (len := F 2 1) (air := A 9 0) (fall := A 9 1) (g := g) (s := s) (s' := s') (by omega)
  rw [show (((F 2 0).toNat : Nat) : Int) = F 2 0 by omega, show (((F 6 0).toNat : Nat) : Int) = F 6 0 by omega] at h
  exact h

