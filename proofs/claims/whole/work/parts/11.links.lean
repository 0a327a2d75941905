theorem tW1 {w : Cond} (p : Nat) (h : tables_1_1[p]? = some w) (g : goodWord w = true) : w ∈ aW := aW_of (List.mem_append_right _ (by unfold tables_1; exact List.mem_append_left _ (List.mem_of_getElem? h))) g
theorem tW2 {w : Cond} (p : Nat) (h : tables_1_2[p]? = some w) (g : goodWord w = true) : w ∈ aW := aW_of (List.mem_append_right _ (by unfold tables_1; exact List.mem_append_right _ (List.mem_append_left _ (List.mem_of_getElem? h)))) g
theorem tW3 {w : Cond} (p : Nat) (h : tables_1_3[p]? = some w) (g : goodWord w = true) : w ∈ aW := aW_of (List.mem_append_right _ (by unfold tables_1; exact List.mem_append_right _ (List.mem_append_right _ (List.mem_append_left _ (List.mem_of_getElem? h))))) g
theorem tW4 {w : Cond} (p : Nat) (h : tables_1_4[p]? = some w) (g : goodWord w = true) : w ∈ aW := aW_of (List.mem_append_right _ (by unfold tables_1; exact List.mem_append_right _ (List.mem_append_right _ (List.mem_append_right _ (List.mem_append_left _ (List.mem_of_getElem? h)))))) g
theorem tW5 {w : Cond} (p : Nat) (h : tables_1_5[p]? = some w) (g : goodWord w = true) : w ∈ aW := aW_of (List.mem_append_right _ (by unfold tables_1; exact List.mem_append_right _ (List.mem_append_right _ (List.mem_append_right _ (List.mem_append_right _ (List.mem_append_left _ (List.mem_of_getElem? h))))))) g
theorem tW6 {w : Cond} (p : Nat) (h : tables_1_6[p]? = some w) (g : goodWord w = true) : w ∈ aW := aW_of (List.mem_append_right _ (by unfold tables_1; exact List.mem_append_right _ (List.mem_append_right _ (List.mem_append_right _ (List.mem_append_right _ (List.mem_append_right _ (List.mem_append_left _ (List.mem_of_getElem? h)))))))) g
theorem tW7 {w : Cond} (p : Nat) (h : tables_1_7[p]? = some w) (g : goodWord w = true) : w ∈ aW := aW_of (List.mem_append_right _ (by unfold tables_1; exact List.mem_append_right _ (List.mem_append_right _ (List.mem_append_right _ (List.mem_append_right _ (List.mem_append_right _ (List.mem_append_right _ ((List.mem_of_getElem? h))))))))) g
theorem sW {w : Cond} (p : Nat) (h : (k2_sels lw_privs)[p]? = some w) (g : goodWord w = true) : w ∈ aW := aW_of (List.mem_append_left _ (List.mem_of_getElem? h)) g
/-- a field that is only read from another class -/
def gLk (own : String) (i ci k : Nat) : Prop := ∃ C T N ty, cOk ci C T N ty ∧ k < N ∧ Cond.fieldLink own i C (T k).2.1 (T k).2.2.1 ∈ aW
theorem fLk.g {own : String} {i ci k : Nat} {ty : FieldType} {fin : Bool} (h : fLk own i ci k ty fin) : gLk own i ci k := by
  obtain ⟨C, T, N, ty', h1, h2, h3, -⟩ := h
  exact ⟨C, T, N, ty', h1, h2, h3⟩
theorem gLk.V {G : gT} {M : mT} {Q : Option Value → wT → Prop} {kc ks pc q : Nat} {lc : List (Option Value)} {st : List Value} {w : wT} {o ci k i : Nat} {f : Nat → Value} (hL : gLk (mOwn M) i ci k) (ho : o < w.1) (hw : w.2 o = .inr (ci, f)) (d : dc M pc (.getfield i) 3 q) (kk : V G M Q kc ks q lc (f k :: st) w) : V G M Q kc ks pc lc (.ref o :: st) w := by
  obtain ⟨d, rfl⟩ := d
  obtain ⟨C, T, N, ty', ⟨h1, h2, h3, h4, h5, h6, h7, h8⟩, h9, h10⟩ := hL
  intro p l e s m args below meth c H locs ls Cc hP hS hl
  have he : (wls G w)[o]? = some (gad G o, .inr (ci, (List.range N).map (fun k => gre G (f k)))) := by rw [wls_get ho, hw, ← h7]; rfl
  exact va_get (C := C) (T := T) (N := N) Cc.1 Cc.2.1 Cc.2.2.2.2.2.1 h2 Cc.2.2.2.2.1 Cc.2.2.2.2.2.2.2.2.1 hP.1 o he h1 k h9 (Cc.2.2.2.2.2.1 _ h10) (fun x hx => by rw [h8 k h9] at hx; exact hx) (nfs_get h9) d (kk p l e s m args below meth c H locs ls Cc hP hS hl)
set_option maxRecDepth 100000 in
theorem f_X10_10 : fLk RX10 10 10 0 (.object "WhipCrack$Setup") true := ⟨RX10, TX10, 18, tyX10, okX10, by decide, (tW2 66 rfl rfl), rfl, rfl, fun _ => rfl⟩
set_option maxRecDepth 100000 in
theorem f_X10_16 : fLk RX10 16 10 1 (.object "WhipCrack$Setup") true := ⟨RX10, TX10, 18, tyX10, okX10, by decide, (tW2 67 rfl rfl), rfl, rfl, fun _ => rfl⟩
set_option maxRecDepth 100000 in
theorem f_X10_19 : fLk RX10 19 10 2 (.object "WhipCrack$Setup") true := ⟨RX10, TX10, 18, tyX10, okX10, by decide, (tW2 68 rfl rfl), rfl, rfl, fun _ => rfl⟩
set_option maxRecDepth 100000 in
theorem f_X10_25 : fLk RX10 25 10 3 (.object "WhipCrack$Text") true := ⟨RX10, TX10, 18, tyX10, okX10, by decide, (tW2 69 rfl rfl), rfl, rfl, fun _ => rfl⟩
set_option maxRecDepth 100000 in
theorem f_X10_32 : fLk RX10 32 10 4 (.object "WhipCrack$PlaitReader") true := ⟨RX10, TX10, 18, tyX10, okX10, by decide, (tW2 70 rfl rfl), rfl, rfl, fun _ => rfl⟩
set_option maxRecDepth 100000 in
theorem f_X10_39 : fLk RX10 39 10 5 (.object "WhipCrack$WayReader") true := ⟨RX10, TX10, 18, tyX10, okX10, by decide, (tW2 71 rfl rfl), rfl, rfl, fun _ => rfl⟩
set_option maxRecDepth 100000 in
theorem f_X10_46 : fLk RX10 46 10 6 (.object "WhipCrack$Flight") true := ⟨RX10, TX10, 18, tyX10, okX10, by decide, (tW2 72 rfl rfl), rfl, rfl, fun _ => rfl⟩
set_option maxRecDepth 100000 in
theorem f_X10_50 : fLk RX10 50 10 7 (.object "WhipCrack$Flight") true := ⟨RX10, TX10, 18, tyX10, okX10, by decide, (tW2 73 rfl rfl), rfl, rfl, fun _ => rfl⟩
set_option maxRecDepth 100000 in
theorem f_X10_56 : fLk RX10 56 10 8 (.object "WhipCrack$Search") true := ⟨RX10, TX10, 18, tyX10, okX10, by decide, (tW2 74 rfl rfl), rfl, rfl, fun _ => rfl⟩
set_option maxRecDepth 100000 in
theorem f_X10_63 : fLk RX10 63 10 9 (.object "WhipCrack$Hides") true := ⟨RX10, TX10, 18, tyX10, okX10, by decide, (tW2 75 rfl rfl), rfl, rfl, fun _ => rfl⟩
set_option maxRecDepth 100000 in
theorem f_X10_70 : fLk RX10 70 10 10 (.object "WhipCrack$Film") true := ⟨RX10, TX10, 18, tyX10, okX10, by decide, (tW2 76 rfl rfl), rfl, rfl, fun _ => rfl⟩
set_option maxRecDepth 100000 in
theorem f_X10_74 : fLk RX10 74 10 11 .int false := ⟨RX10, TX10, 18, tyX10, okX10, by decide, (tW2 77 rfl rfl), rfl, rfl, fun _ => rfl⟩
set_option maxRecDepth 100000 in
theorem f_X10_78 : fLk RX10 78 10 12 .int false := ⟨RX10, TX10, 18, tyX10, okX10, by decide, (tW2 78 rfl rfl), rfl, rfl, fun _ => rfl⟩
set_option maxRecDepth 100000 in
theorem f_X10_81 : fLk RX10 81 10 13 .int false := ⟨RX10, TX10, 18, tyX10, okX10, by decide, (tW2 79 rfl rfl), rfl, rfl, fun _ => rfl⟩
set_option maxRecDepth 100000 in
theorem f_X10_84 : fLk RX10 84 10 14 .int false := ⟨RX10, TX10, 18, tyX10, okX10, by decide, (tW2 80 rfl rfl), rfl, rfl, fun _ => rfl⟩
set_option maxRecDepth 100000 in
theorem f_X10_87 : fLk RX10 87 10 15 .int false := ⟨RX10, TX10, 18, tyX10, okX10, by decide, (tW2 81 rfl rfl), rfl, rfl, fun _ => rfl⟩
set_option maxRecDepth 100000 in
theorem f_X10_90 : fLk RX10 90 10 16 .int false := ⟨RX10, TX10, 18, tyX10, okX10, by decide, (tW2 82 rfl rfl), rfl, rfl, fun _ => rfl⟩
set_option maxRecDepth 100000 in
theorem f_X10_93 : fLk RX10 93 10 17 .boolean false := ⟨RX10, TX10, 18, tyX10, okX10, by decide, (tW2 83 rfl rfl), rfl, rfl, fun _ => rfl⟩
set_option maxRecDepth 100000 in
theorem f_X10_97 : fLk RX10 97 7 1 .int false := ⟨RX7, TX7, 6, tyX7, okX7, by decide, (tW1 124 rfl rfl), rfl, rfl, fun h => by cases h⟩
set_option maxRecDepth 100000 in
theorem f_X10_112 : gLk RX10 112 6 0 := ⟨RX6, TX6, 4, tyX6, okX6, by decide, (tW1 98 rfl rfl)⟩
set_option maxRecDepth 100000 in
theorem f_X10_116 : gLk RX10 116 4 0 := ⟨RX4, TX4, 2, tyX4, okX4, by decide, (tW1 158 rfl rfl)⟩
set_option maxRecDepth 100000 in
theorem f_X10_126 : fLk RX10 126 3 0 .int false := ⟨RX3, TX3, 5, tyX3, okX3, by decide, (tW1 45 rfl rfl), rfl, rfl, fun h => by cases h⟩
set_option maxRecDepth 100000 in
theorem f_X10_130 : gLk RX10 130 6 1 := ⟨RX6, TX6, 4, tyX6, okX6, by decide, (tW1 101 rfl rfl)⟩
set_option maxRecDepth 100000 in
theorem f_X10_138 : fLk RX10 138 8 0 .int false := ⟨RX8, TX8, 4, tyX8, okX8, by decide, (tW1 79 rfl rfl), rfl, rfl, fun h => by cases h⟩
set_option maxRecDepth 100000 in
theorem f_X10_143 : gLk RX10 143 3 2 := ⟨RX3, TX3, 5, tyX3, okX3, by decide, (tW1 53 rfl rfl)⟩
set_option maxRecDepth 100000 in
theorem f_X10_147 : gLk RX10 147 3 3 := ⟨RX3, TX3, 5, tyX3, okX3, by decide, (tW1 55 rfl rfl)⟩
set_option maxRecDepth 100000 in
theorem f_X10_157 : gLk RX10 157 3 4 := ⟨RX3, TX3, 5, tyX3, okX3, by decide, (tW1 57 rfl rfl)⟩
set_option maxRecDepth 100000 in
theorem z_X10_160 : Cond.fieldLink RX10 160 RX10 "LAW_LEAST" "[I" ∈ aW := (tW3 121 rfl rfl)
set_option maxRecDepth 100000 in
theorem z_X10_163 : Cond.fieldLink RX10 163 RX10 "LAW_MOST" "[I" ∈ aW := (tW3 123 rfl rfl)
set_option maxRecDepth 100000 in
theorem f_X10_166 : gLk RX10 166 6 2 := ⟨RX6, TX6, 4, tyX6, okX6, by decide, (tW1 104 rfl rfl)⟩
set_option maxRecDepth 100000 in
theorem f_X10_173 : fLk RX10 173 3 1 .int false := ⟨RX3, TX3, 5, tyX3, okX3, by decide, (tW1 49 rfl rfl), rfl, rfl, fun h => by cases h⟩
set_option maxRecDepth 100000 in
theorem f_X10_176 : fLk RX10 176 8 1 .int false := ⟨RX8, TX8, 4, tyX8, okX8, by decide, (tW1 82 rfl rfl), rfl, rfl, fun h => by cases h⟩
set_option maxRecDepth 100000 in
theorem f_X10_182 : fLk RX10 182 2 0 .int false := ⟨RX2, TX2, 5, tyX2, okX2, by decide, (tW2 32 rfl rfl), rfl, rfl, fun h => by cases h⟩
set_option maxRecDepth 100000 in
theorem f_X10_185 : fLk RX10 185 2 1 .int false := ⟨RX2, TX2, 5, tyX2, okX2, by decide, (tW2 34 rfl rfl), rfl, rfl, fun h => by cases h⟩
set_option maxRecDepth 100000 in
theorem f_X10_188 : fLk RX10 188 0 0 .int false := ⟨RX0, TX0, 3, tyX0, okX0, by decide, (tW2 56 rfl rfl), rfl, rfl, fun h => by cases h⟩
set_option maxRecDepth 100000 in
theorem f_X10_259 : fLk RX10 259 5 0 .int false := ⟨RX5, TX5, 5, tyX5, okX5, by decide, (tW2 7 rfl rfl), rfl, rfl, fun h => by cases h⟩
set_option maxRecDepth 100000 in
theorem f_X10_266 : fLk RX10 266 5 1 .int false := ⟨RX5, TX5, 5, tyX5, okX5, by decide, (tW2 9 rfl rfl), rfl, rfl, fun h => by cases h⟩
set_option maxRecDepth 100000 in
theorem f_X10_269 : gLk RX10 269 5 2 := ⟨RX5, TX5, 5, tyX5, okX5, by decide, (tW2 11 rfl rfl)⟩
set_option maxRecDepth 100000 in
theorem f_X10_276 : fLk RX10 276 1 0 .int false := ⟨RX1, TX1, 8, tyX1, okX1, by decide, (tW1 210 rfl rfl), rfl, rfl, fun h => by cases h⟩
set_option maxRecDepth 100000 in
theorem f_X10_286 : fLk RX10 286 1 1 .int false := ⟨RX1, TX1, 8, tyX1, okX1, by decide, (tW1 213 rfl rfl), rfl, rfl, fun h => by cases h⟩
set_option maxRecDepth 100000 in
theorem f_X10_315 : fLk RX10 315 6 3 .boolean false := ⟨RX6, TX6, 4, tyX6, okX6, by decide, (tW1 106 rfl rfl), rfl, rfl, fun h => by cases h⟩
set_option maxRecDepth 100000 in
theorem f_X10_318 : fLk RX10 318 7 5 .int false := ⟨RX7, TX7, 6, tyX7, okX7, by decide, (tW1 135 rfl rfl), rfl, rfl, fun h => by cases h⟩
set_option maxRecDepth 100000 in
theorem f_X10_319 : fLk RX10 319 7 4 .int false := ⟨RX7, TX7, 6, tyX7, okX7, by decide, (tW1 133 rfl rfl), rfl, rfl, fun h => by cases h⟩
set_option maxRecDepth 100000 in
theorem f_X10_325 : fLk RX10 325 1 2 .int false := ⟨RX1, TX1, 8, tyX1, okX1, by decide, (tW1 215 rfl rfl), rfl, rfl, fun h => by cases h⟩
set_option maxRecDepth 100000 in
theorem z_X10_340 : Cond.fieldLink RX10 340 RX10 "WEARS" "[I" ∈ aW := (tW4 194 rfl rfl)
set_option maxRecDepth 100000 in
theorem f_X0_9 : fLk RX0 9 0 0 .int false := ⟨RX0, TX0, 3, tyX0, okX0, by decide, (tW2 55 rfl rfl), rfl, rfl, fun _ => rfl⟩
set_option maxRecDepth 100000 in
theorem f_X0_15 : fLk RX0 15 0 1 (.array .int) true := ⟨RX0, TX0, 3, tyX0, okX0, by decide, (tW2 57 rfl rfl), rfl, rfl, fun _ => rfl⟩
set_option maxRecDepth 100000 in
theorem f_X0_19 : fLk RX0 19 0 2 (.array .int) true := ⟨RX0, TX0, 3, tyX0, okX0, by decide, (tW2 58 rfl rfl), rfl, rfl, fun _ => rfl⟩
set_option maxRecDepth 100000 in
theorem f_X0_22 : fLk RX0 22 1 1 .int false := ⟨RX1, TX1, 8, tyX1, okX1, by decide, (tW1 212 rfl rfl), rfl, rfl, fun h => by cases h⟩
set_option maxRecDepth 100000 in
theorem f_X0_33 : fLk RX0 33 1 0 .int false := ⟨RX1, TX1, 8, tyX1, okX1, by decide, (tW1 209 rfl rfl), rfl, rfl, fun h => by cases h⟩
set_option maxRecDepth 100000 in
theorem f_X1_9 : fLk RX1 9 1 0 .int false := ⟨RX1, TX1, 8, tyX1, okX1, by decide, (tW1 208 rfl rfl), rfl, rfl, fun _ => rfl⟩
set_option maxRecDepth 100000 in
theorem f_X1_15 : fLk RX1 15 1 1 .int false := ⟨RX1, TX1, 8, tyX1, okX1, by decide, (tW1 211 rfl rfl), rfl, rfl, fun _ => rfl⟩
set_option maxRecDepth 100000 in
theorem f_X1_18 : fLk RX1 18 1 2 .int false := ⟨RX1, TX1, 8, tyX1, okX1, by decide, (tW1 214 rfl rfl), rfl, rfl, fun _ => rfl⟩
set_option maxRecDepth 100000 in
theorem f_X1_21 : fLk RX1 21 1 3 .int false := ⟨RX1, TX1, 8, tyX1, okX1, by decide, (tW1 216 rfl rfl), rfl, rfl, fun _ => rfl⟩
set_option maxRecDepth 100000 in
theorem f_X1_24 : fLk RX1 24 1 4 (.array .int) true := ⟨RX1, TX1, 8, tyX1, okX1, by decide, (tW1 217 rfl rfl), rfl, rfl, fun _ => rfl⟩
set_option maxRecDepth 100000 in
theorem f_X1_28 : fLk RX1 28 1 5 (.array .int) true := ⟨RX1, TX1, 8, tyX1, okX1, by decide, (tW1 218 rfl rfl), rfl, rfl, fun _ => rfl⟩
set_option maxRecDepth 100000 in
theorem f_X1_31 : fLk RX1 31 1 6 (.array .int) true := ⟨RX1, TX1, 8, tyX1, okX1, by decide, (tW1 219 rfl rfl), rfl, rfl, fun _ => rfl⟩
set_option maxRecDepth 100000 in
theorem f_X1_34 : fLk RX1 34 1 7 (.array .int) true := ⟨RX1, TX1, 8, tyX1, okX1, by decide, (tW1 220 rfl rfl), rfl, rfl, fun _ => rfl⟩
set_option maxRecDepth 100000 in
theorem f_X1_37 : fLk RX1 37 3 0 .int false := ⟨RX3, TX3, 5, tyX3, okX3, by decide, (tW1 42 rfl rfl), rfl, rfl, fun h => by cases h⟩
set_option maxRecDepth 100000 in
theorem f_X1_42 : fLk RX1 42 8 0 .int false := ⟨RX8, TX8, 4, tyX8, okX8, by decide, (tW1 77 rfl rfl), rfl, rfl, fun h => by cases h⟩
set_option maxRecDepth 100000 in
theorem f_X1_45 : fLk RX1 45 3 1 .int false := ⟨RX3, TX3, 5, tyX3, okX3, by decide, (tW1 48 rfl rfl), rfl, rfl, fun h => by cases h⟩
set_option maxRecDepth 100000 in
theorem f_X1_56 : gLk RX1 56 8 2 := ⟨RX8, TX8, 4, tyX8, okX8, by decide, (tW1 84 rfl rfl)⟩
set_option maxRecDepth 100000 in
theorem f_X1_57 : gLk RX1 57 8 3 := ⟨RX8, TX8, 4, tyX8, okX8, by decide, (tW1 86 rfl rfl)⟩
set_option maxRecDepth 100000 in
theorem f_X2_9 : fLk RX2 9 2 0 .int false := ⟨RX2, TX2, 5, tyX2, okX2, by decide, (tW2 31 rfl rfl), rfl, rfl, fun _ => rfl⟩
set_option maxRecDepth 100000 in
theorem f_X2_15 : fLk RX2 15 2 1 .int false := ⟨RX2, TX2, 5, tyX2, okX2, by decide, (tW2 33 rfl rfl), rfl, rfl, fun _ => rfl⟩
set_option maxRecDepth 100000 in
theorem f_X2_18 : fLk RX2 18 2 2 (.array .int) true := ⟨RX2, TX2, 5, tyX2, okX2, by decide, (tW2 35 rfl rfl), rfl, rfl, fun _ => rfl⟩
set_option maxRecDepth 100000 in
theorem f_X2_22 : fLk RX2 22 2 3 (.array .int) true := ⟨RX2, TX2, 5, tyX2, okX2, by decide, (tW2 36 rfl rfl), rfl, rfl, fun _ => rfl⟩
set_option maxRecDepth 100000 in
theorem f_X2_25 : fLk RX2 25 2 4 (.array .int) true := ⟨RX2, TX2, 5, tyX2, okX2, by decide, (tW2 37 rfl rfl), rfl, rfl, fun _ => rfl⟩
set_option maxRecDepth 100000 in
theorem f_X3_9 : fLk RX3 9 3 0 .int false := ⟨RX3, TX3, 5, tyX3, okX3, by decide, (tW1 41 rfl rfl), rfl, rfl, fun _ => rfl⟩
set_option maxRecDepth 100000 in
theorem f_X3_15 : fLk RX3 15 3 1 .int false := ⟨RX3, TX3, 5, tyX3, okX3, by decide, (tW1 46 rfl rfl), rfl, rfl, fun _ => rfl⟩
set_option maxRecDepth 100000 in
theorem f_X3_18 : fLk RX3 18 3 2 (.array .int) true := ⟨RX3, TX3, 5, tyX3, okX3, by decide, (tW1 50 rfl rfl), rfl, rfl, fun _ => rfl⟩
set_option maxRecDepth 100000 in
theorem f_X3_22 : fLk RX3 22 3 3 (.array .int) true := ⟨RX3, TX3, 5, tyX3, okX3, by decide, (tW1 54 rfl rfl), rfl, rfl, fun _ => rfl⟩
set_option maxRecDepth 100000 in
theorem f_X3_25 : fLk RX3 25 3 4 (.array .int) true := ⟨RX3, TX3, 5, tyX3, okX3, by decide, (tW1 56 rfl rfl), rfl, rfl, fun _ => rfl⟩
set_option maxRecDepth 100000 in
theorem z_X3_34 : Cond.fieldLinkNest RX3 34 RX10 "HEFT" "[I" RX10 ∈ nW := by decide +kernel
set_option maxRecDepth 100000 in
theorem z_X3_37 : Cond.fieldLinkNest RX3 37 RX10 "STIFF" "[I" RX10 ∈ nW := by decide +kernel
set_option maxRecDepth 100000 in
theorem f_X4_12 : fLk RX4 12 4 0 (.object "WhipCrack$Plait") true := ⟨RX4, TX4, 2, tyX4, okX4, by decide, (tW1 157 rfl rfl), rfl, rfl, fun _ => rfl⟩
set_option maxRecDepth 100000 in
theorem f_X4_18 : fLk RX4 18 4 1 .boolean false := ⟨RX4, TX4, 2, tyX4, okX4, by decide, (tW1 159 rfl rfl), rfl, rfl, fun _ => rfl⟩
set_option maxRecDepth 100000 in
theorem f_X4_27 : fLk RX4 27 3 0 .int false := ⟨RX3, TX3, 5, tyX3, okX3, by decide, (tW1 43 rfl rfl), rfl, rfl, fun h => by cases h⟩
set_option maxRecDepth 100000 in
theorem f_X4_31 : fLk RX4 31 3 1 .int false := ⟨RX3, TX3, 5, tyX3, okX3, by decide, (tW1 47 rfl rfl), rfl, rfl, fun h => by cases h⟩
set_option maxRecDepth 100000 in
theorem f_X4_46 : fLk RX4 46 7 1 .int false := ⟨RX7, TX7, 6, tyX7, okX7, by decide, (tW1 125 rfl rfl), rfl, rfl, fun h => by cases h⟩
set_option maxRecDepth 100000 in
theorem f_X4_69 : fLk RX4 69 7 2 .int false := ⟨RX7, TX7, 6, tyX7, okX7, by decide, (tW1 128 rfl rfl), rfl, rfl, fun h => by cases h⟩
set_option maxRecDepth 100000 in
theorem f_X4_84 : fLk RX4 84 7 3 .int false := ⟨RX7, TX7, 6, tyX7, okX7, by decide, (tW1 131 rfl rfl), rfl, rfl, fun h => by cases h⟩
set_option maxRecDepth 100000 in
theorem f_X4_89 : gLk RX4 89 3 2 := ⟨RX3, TX3, 5, tyX3, okX3, by decide, (tW1 52 rfl rfl)⟩
set_option maxRecDepth 100000 in
theorem f_X5_9 : fLk RX5 9 5 0 .int false := ⟨RX5, TX5, 5, tyX5, okX5, by decide, (tW2 6 rfl rfl), rfl, rfl, fun _ => rfl⟩
set_option maxRecDepth 100000 in
theorem f_X5_15 : fLk RX5 15 5 1 .int false := ⟨RX5, TX5, 5, tyX5, okX5, by decide, (tW2 8 rfl rfl), rfl, rfl, fun _ => rfl⟩
set_option maxRecDepth 100000 in
theorem f_X5_18 : fLk RX5 18 5 2 (.array .int) true := ⟨RX5, TX5, 5, tyX5, okX5, by decide, (tW2 10 rfl rfl), rfl, rfl, fun _ => rfl⟩
set_option maxRecDepth 100000 in
theorem f_X5_22 : fLk RX5 22 5 3 (.array .int) true := ⟨RX5, TX5, 5, tyX5, okX5, by decide, (tW2 12 rfl rfl), rfl, rfl, fun _ => rfl⟩
set_option maxRecDepth 100000 in
theorem f_X5_28 : fLk RX5 28 5 4 (.object "WhipCrack$Plait") true := ⟨RX5, TX5, 5, tyX5, okX5, by decide, (tW2 13 rfl rfl), rfl, rfl, fun _ => rfl⟩
set_option maxRecDepth 100000 in
theorem f_X5_32 : gLk RX5 32 6 0 := ⟨RX6, TX6, 4, tyX6, okX6, by decide, (tW1 97 rfl rfl)⟩
set_option maxRecDepth 100000 in
theorem f_X5_39 : fLk RX5 39 3 0 .int false := ⟨RX3, TX3, 5, tyX3, okX3, by decide, (tW1 44 rfl rfl), rfl, rfl, fun h => by cases h⟩
set_option maxRecDepth 100000 in
theorem f_X5_49 : gLk RX5 49 6 1 := ⟨RX6, TX6, 4, tyX6, okX6, by decide, (tW1 100 rfl rfl)⟩
set_option maxRecDepth 100000 in
theorem f_X5_53 : gLk RX5 53 6 2 := ⟨RX6, TX6, 4, tyX6, okX6, by decide, (tW1 103 rfl rfl)⟩
set_option maxRecDepth 100000 in
theorem f_X5_73 : gLk RX5 73 3 2 := ⟨RX3, TX3, 5, tyX3, okX3, by decide, (tW1 51 rfl rfl)⟩
set_option maxRecDepth 100000 in
theorem z_X5_76 : Cond.fieldLinkNest RX5 76 RX10 "ROW_STRANDS" "[I" RX10 ∈ nW := by decide +kernel
set_option maxRecDepth 100000 in
theorem f_X6_12 : fLk RX6 12 6 0 (.object "WhipCrack$Plait") true := ⟨RX6, TX6, 4, tyX6, okX6, by decide, (tW1 96 rfl rfl), rfl, rfl, fun _ => rfl⟩
set_option maxRecDepth 100000 in
theorem f_X6_21 : fLk RX6 21 6 1 (.object "WhipCrack$Way") true := ⟨RX6, TX6, 4, tyX6, okX6, by decide, (tW1 99 rfl rfl), rfl, rfl, fun _ => rfl⟩
set_option maxRecDepth 100000 in
theorem f_X6_25 : fLk RX6 25 6 2 (.array .int) true := ⟨RX6, TX6, 4, tyX6, okX6, by decide, (tW1 102 rfl rfl), rfl, rfl, fun _ => rfl⟩
set_option maxRecDepth 100000 in
theorem f_X6_29 : fLk RX6 29 6 3 .boolean false := ⟨RX6, TX6, 4, tyX6, okX6, by decide, (tW1 105 rfl rfl), rfl, rfl, fun _ => rfl⟩
set_option maxRecDepth 100000 in
theorem f_X7_9 : fLk RX7 9 7 0 (.array .int) true := ⟨RX7, TX7, 6, tyX7, okX7, by decide, (tW1 122 rfl rfl), rfl, rfl, fun _ => rfl⟩
set_option maxRecDepth 100000 in
theorem f_X7_15 : fLk RX7 15 7 1 .int false := ⟨RX7, TX7, 6, tyX7, okX7, by decide, (tW1 123 rfl rfl), rfl, rfl, fun _ => rfl⟩
set_option maxRecDepth 100000 in
theorem f_X7_19 : fLk RX7 19 7 2 .int false := ⟨RX7, TX7, 6, tyX7, okX7, by decide, (tW1 127 rfl rfl), rfl, rfl, fun _ => rfl⟩
set_option maxRecDepth 100000 in
theorem f_X7_22 : fLk RX7 22 7 3 .int false := ⟨RX7, TX7, 6, tyX7, okX7, by decide, (tW1 130 rfl rfl), rfl, rfl, fun _ => rfl⟩
set_option maxRecDepth 100000 in
theorem f_X7_25 : fLk RX7 25 7 4 .int false := ⟨RX7, TX7, 6, tyX7, okX7, by decide, (tW1 132 rfl rfl), rfl, rfl, fun _ => rfl⟩
set_option maxRecDepth 100000 in
theorem f_X7_28 : fLk RX7 28 7 5 .int false := ⟨RX7, TX7, 6, tyX7, okX7, by decide, (tW1 134 rfl rfl), rfl, rfl, fun _ => rfl⟩
set_option maxRecDepth 100000 in
theorem f_X8_9 : fLk RX8 9 8 0 .int false := ⟨RX8, TX8, 4, tyX8, okX8, by decide, (tW1 76 rfl rfl), rfl, rfl, fun _ => rfl⟩
set_option maxRecDepth 100000 in
theorem f_X8_15 : fLk RX8 15 8 1 .int false := ⟨RX8, TX8, 4, tyX8, okX8, by decide, (tW1 80 rfl rfl), rfl, rfl, fun _ => rfl⟩
set_option maxRecDepth 100000 in
theorem f_X8_18 : fLk RX8 18 8 2 (.array .int) true := ⟨RX8, TX8, 4, tyX8, okX8, by decide, (tW1 83 rfl rfl), rfl, rfl, fun _ => rfl⟩
set_option maxRecDepth 100000 in
theorem f_X8_22 : fLk RX8 22 8 3 (.array .int) true := ⟨RX8, TX8, 4, tyX8, okX8, by decide, (tW1 85 rfl rfl), rfl, rfl, fun _ => rfl⟩
set_option maxRecDepth 100000 in
theorem f_X9_9 : fLk RX9 9 9 0 (.array .int) true := ⟨RX9, TX9, 10, tyX9, okX9, by decide, (tW1 171 rfl rfl), rfl, rfl, fun _ => rfl⟩
set_option maxRecDepth 100000 in
theorem f_X9_15 : fLk RX9 15 9 1 (.array .int) true := ⟨RX9, TX9, 10, tyX9, okX9, by decide, (tW1 172 rfl rfl), rfl, rfl, fun _ => rfl⟩
set_option maxRecDepth 100000 in
theorem f_X9_18 : fLk RX9 18 9 2 (.array .int) true := ⟨RX9, TX9, 10, tyX9, okX9, by decide, (tW1 173 rfl rfl), rfl, rfl, fun _ => rfl⟩
set_option maxRecDepth 100000 in
theorem f_X9_21 : fLk RX9 21 9 3 .int false := ⟨RX9, TX9, 10, tyX9, okX9, by decide, (tW1 174 rfl rfl), rfl, rfl, fun _ => rfl⟩
set_option maxRecDepth 100000 in
theorem f_X9_25 : fLk RX9 25 9 4 .int false := ⟨RX9, TX9, 10, tyX9, okX9, by decide, (tW1 175 rfl rfl), rfl, rfl, fun _ => rfl⟩
set_option maxRecDepth 100000 in
theorem f_X9_28 : fLk RX9 28 9 5 (.array .int) true := ⟨RX9, TX9, 10, tyX9, okX9, by decide, (tW1 176 rfl rfl), rfl, rfl, fun _ => rfl⟩
set_option maxRecDepth 100000 in
theorem f_X9_31 : fLk RX9 31 9 6 (.array .int) true := ⟨RX9, TX9, 10, tyX9, okX9, by decide, (tW1 177 rfl rfl), rfl, rfl, fun _ => rfl⟩
set_option maxRecDepth 100000 in
theorem f_X9_34 : fLk RX9 34 9 7 (.array .int) true := ⟨RX9, TX9, 10, tyX9, okX9, by decide, (tW1 178 rfl rfl), rfl, rfl, fun _ => rfl⟩
set_option maxRecDepth 100000 in
theorem f_X9_37 : fLk RX9 37 9 8 .int false := ⟨RX9, TX9, 10, tyX9, okX9, by decide, (tW1 179 rfl rfl), rfl, rfl, fun _ => rfl⟩
set_option maxRecDepth 100000 in
theorem f_X9_40 : fLk RX9 40 9 9 .boolean false := ⟨RX9, TX9, 10, tyX9, okX9, by decide, (tW1 180 rfl rfl), rfl, rfl, fun _ => rfl⟩
set_option maxRecDepth 100000 in
theorem f_X9_61 : fLk RX9 61 7 1 .int false := ⟨RX7, TX7, 6, tyX7, okX7, by decide, (tW1 126 rfl rfl), rfl, rfl, fun h => by cases h⟩
set_option maxRecDepth 100000 in
theorem f_X9_68 : fLk RX9 68 8 0 .int false := ⟨RX8, TX8, 4, tyX8, okX8, by decide, (tW1 78 rfl rfl), rfl, rfl, fun h => by cases h⟩
set_option maxRecDepth 100000 in
theorem f_X9_71 : fLk RX9 71 8 1 .int false := ⟨RX8, TX8, 4, tyX8, okX8, by decide, (tW1 81 rfl rfl), rfl, rfl, fun h => by cases h⟩
set_option maxRecDepth 100000 in
theorem f_X9_110 : fLk RX9 110 7 2 .int false := ⟨RX7, TX7, 6, tyX7, okX7, by decide, (tW1 129 rfl rfl), rfl, rfl, fun h => by cases h⟩
set_option maxRecDepth 100000 in
theorem f_X11_7 : fLk RX11 7 11 2 (.array .int) true := ⟨RX11, TX11, 60, tyX11, okX11, by decide, (tW5 59 rfl rfl), rfl, rfl, fun _ => rfl⟩
set_option maxRecDepth 100000 in
theorem f_X11_13 : fLk RX11 13 11 3 (.array .int) true := ⟨RX11, TX11, 60, tyX11, okX11, by decide, (tW5 60 rfl rfl), rfl, rfl, fun _ => rfl⟩
set_option maxRecDepth 100000 in
theorem f_X11_16 : fLk RX11 16 11 4 (.array .int) true := ⟨RX11, TX11, 60, tyX11, okX11, by decide, (tW5 61 rfl rfl), rfl, rfl, fun _ => rfl⟩
set_option maxRecDepth 100000 in
theorem f_X11_19 : fLk RX11 19 11 7 (.array .int) true := ⟨RX11, TX11, 60, tyX11, okX11, by decide, (tW5 64 rfl rfl), rfl, rfl, fun _ => rfl⟩
set_option maxRecDepth 100000 in
theorem f_X11_22 : fLk RX11 22 11 8 (.array .int) true := ⟨RX11, TX11, 60, tyX11, okX11, by decide, (tW5 65 rfl rfl), rfl, rfl, fun _ => rfl⟩
set_option maxRecDepth 100000 in
theorem f_X11_25 : fLk RX11 25 11 9 (.array .int) true := ⟨RX11, TX11, 60, tyX11, okX11, by decide, (tW5 66 rfl rfl), rfl, rfl, fun _ => rfl⟩
set_option maxRecDepth 100000 in
theorem f_X11_28 : fLk RX11 28 11 15 (.array .int) true := ⟨RX11, TX11, 60, tyX11, okX11, by decide, (tW5 72 rfl rfl), rfl, rfl, fun _ => rfl⟩
set_option maxRecDepth 100000 in
theorem f_X11_31 : fLk RX11 31 11 21 .int false := ⟨RX11, TX11, 60, tyX11, okX11, by decide, (tW5 78 rfl rfl), rfl, rfl, fun _ => rfl⟩
set_option maxRecDepth 100000 in
theorem f_X11_35 : fLk RX11 35 11 25 (.array .int) true := ⟨RX11, TX11, 60, tyX11, okX11, by decide, (tW5 82 rfl rfl), rfl, rfl, fun _ => rfl⟩
set_option maxRecDepth 100000 in
theorem f_X11_38 : fLk RX11 38 11 26 (.array .int) true := ⟨RX11, TX11, 60, tyX11, okX11, by decide, (tW5 83 rfl rfl), rfl, rfl, fun _ => rfl⟩
set_option maxRecDepth 100000 in
theorem f_X11_41 : fLk RX11 41 11 28 (.array .int) true := ⟨RX11, TX11, 60, tyX11, okX11, by decide, (tW5 85 rfl rfl), rfl, rfl, fun _ => rfl⟩
set_option maxRecDepth 100000 in
theorem f_X11_44 : fLk RX11 44 11 29 (.array .int) true := ⟨RX11, TX11, 60, tyX11, okX11, by decide, (tW5 86 rfl rfl), rfl, rfl, fun _ => rfl⟩
set_option maxRecDepth 100000 in
theorem f_X11_47 : fLk RX11 47 11 30 (.array .int) true := ⟨RX11, TX11, 60, tyX11, okX11, by decide, (tW5 87 rfl rfl), rfl, rfl, fun _ => rfl⟩
set_option maxRecDepth 100000 in
theorem f_X11_50 : fLk RX11 50 11 31 (.array .int) true := ⟨RX11, TX11, 60, tyX11, okX11, by decide, (tW5 88 rfl rfl), rfl, rfl, fun _ => rfl⟩
set_option maxRecDepth 100000 in
theorem f_X11_53 : fLk RX11 53 11 32 (.array .int) true := ⟨RX11, TX11, 60, tyX11, okX11, by decide, (tW5 89 rfl rfl), rfl, rfl, fun _ => rfl⟩
set_option maxRecDepth 100000 in
theorem f_X11_56 : fLk RX11 56 11 33 (.array .int) true := ⟨RX11, TX11, 60, tyX11, okX11, by decide, (tW5 90 rfl rfl), rfl, rfl, fun _ => rfl⟩
set_option maxRecDepth 100000 in
theorem f_X11_59 : fLk RX11 59 11 34 (.array .int) true := ⟨RX11, TX11, 60, tyX11, okX11, by decide, (tW5 91 rfl rfl), rfl, rfl, fun _ => rfl⟩
set_option maxRecDepth 100000 in
theorem f_X11_62 : fLk RX11 62 11 35 (.array .int) true := ⟨RX11, TX11, 60, tyX11, okX11, by decide, (tW5 92 rfl rfl), rfl, rfl, fun _ => rfl⟩
set_option maxRecDepth 100000 in
theorem f_X11_65 : fLk RX11 65 11 38 (.array .long) true := ⟨RX11, TX11, 60, tyX11, okX11, by decide, (tW5 95 rfl rfl), rfl, rfl, fun _ => rfl⟩
set_option maxRecDepth 100000 in
theorem f_X11_69 : fLk RX11 69 11 39 (.array .long) true := ⟨RX11, TX11, 60, tyX11, okX11, by decide, (tW5 96 rfl rfl), rfl, rfl, fun _ => rfl⟩
set_option maxRecDepth 100000 in
theorem f_X11_72 : fLk RX11 72 11 40 .int false := ⟨RX11, TX11, 60, tyX11, okX11, by decide, (tW5 97 rfl rfl), rfl, rfl, fun _ => rfl⟩
set_option maxRecDepth 100000 in
theorem f_X11_75 : fLk RX11 75 11 42 (.array .int) true := ⟨RX11, TX11, 60, tyX11, okX11, by decide, (tW5 99 rfl rfl), rfl, rfl, fun _ => rfl⟩
set_option maxRecDepth 100000 in
theorem f_X11_78 : fLk RX11 78 11 43 (.array .int) true := ⟨RX11, TX11, 60, tyX11, okX11, by decide, (tW5 100 rfl rfl), rfl, rfl, fun _ => rfl⟩
set_option maxRecDepth 100000 in
theorem f_X11_81 : fLk RX11 81 11 44 (.array .int) true := ⟨RX11, TX11, 60, tyX11, okX11, by decide, (tW5 101 rfl rfl), rfl, rfl, fun _ => rfl⟩
set_option maxRecDepth 100000 in
theorem f_X11_84 : fLk RX11 84 11 45 (.array .int) true := ⟨RX11, TX11, 60, tyX11, okX11, by decide, (tW5 102 rfl rfl), rfl, rfl, fun _ => rfl⟩
set_option maxRecDepth 100000 in
theorem f_X11_87 : fLk RX11 87 11 46 (.array .int) true := ⟨RX11, TX11, 60, tyX11, okX11, by decide, (tW5 103 rfl rfl), rfl, rfl, fun _ => rfl⟩
set_option maxRecDepth 100000 in
theorem f_X11_90 : fLk RX11 90 11 47 (.array .long) true := ⟨RX11, TX11, 60, tyX11, okX11, by decide, (tW5 104 rfl rfl), rfl, rfl, fun _ => rfl⟩
set_option maxRecDepth 100000 in
theorem f_X11_93 : fLk RX11 93 11 48 (.array .long) true := ⟨RX11, TX11, 60, tyX11, okX11, by decide, (tW5 105 rfl rfl), rfl, rfl, fun _ => rfl⟩
set_option maxRecDepth 100000 in
theorem f_X11_96 : fLk RX11 96 11 51 (.array .int) true := ⟨RX11, TX11, 60, tyX11, okX11, by decide, (tW5 108 rfl rfl), rfl, rfl, fun _ => rfl⟩
set_option maxRecDepth 100000 in
theorem f_X11_99 : fLk RX11 99 11 52 (.array .int) true := ⟨RX11, TX11, 60, tyX11, okX11, by decide, (tW5 109 rfl rfl), rfl, rfl, fun _ => rfl⟩
set_option maxRecDepth 100000 in
theorem f_X11_102 : fLk RX11 102 11 53 (.array .boolean) true := ⟨RX11, TX11, 60, tyX11, okX11, by decide, (tW5 110 rfl rfl), rfl, rfl, fun _ => rfl⟩
set_option maxRecDepth 100000 in
theorem f_X11_106 : fLk RX11 106 11 54 (.array .boolean) true := ⟨RX11, TX11, 60, tyX11, okX11, by decide, (tW5 111 rfl rfl), rfl, rfl, fun _ => rfl⟩
set_option maxRecDepth 100000 in
theorem f_X11_109 : fLk RX11 109 11 56 (.array .int) true := ⟨RX11, TX11, 60, tyX11, okX11, by decide, (tW5 113 rfl rfl), rfl, rfl, fun _ => rfl⟩
set_option maxRecDepth 100000 in
theorem f_X11_112 : fLk RX11 112 11 57 (.array .int) true := ⟨RX11, TX11, 60, tyX11, okX11, by decide, (tW5 114 rfl rfl), rfl, rfl, fun _ => rfl⟩
set_option maxRecDepth 100000 in
theorem f_X11_115 : fLk RX11 115 11 58 (.array .int) true := ⟨RX11, TX11, 60, tyX11, okX11, by decide, (tW5 115 rfl rfl), rfl, rfl, fun _ => rfl⟩
set_option maxRecDepth 100000 in
theorem f_X11_118 : fLk RX11 118 11 59 (.array .boolean) true := ⟨RX11, TX11, 60, tyX11, okX11, by decide, (tW5 116 rfl rfl), rfl, rfl, fun _ => rfl⟩
set_option maxRecDepth 100000 in
theorem f_X11_121 : fLk RX11 121 11 0 .int false := ⟨RX11, TX11, 60, tyX11, okX11, by decide, (tW5 57 rfl rfl), rfl, rfl, fun _ => rfl⟩
set_option maxRecDepth 100000 in
theorem f_X11_124 : fLk RX11 124 11 1 .int false := ⟨RX11, TX11, 60, tyX11, okX11, by decide, (tW5 58 rfl rfl), rfl, rfl, fun _ => rfl⟩
set_option maxRecDepth 100000 in
theorem f_X11_127 : fLk RX11 127 11 5 .int false := ⟨RX11, TX11, 60, tyX11, okX11, by decide, (tW5 62 rfl rfl), rfl, rfl, fun _ => rfl⟩
set_option maxRecDepth 100000 in
theorem f_X11_130 : fLk RX11 130 11 6 .int false := ⟨RX11, TX11, 60, tyX11, okX11, by decide, (tW5 63 rfl rfl), rfl, rfl, fun _ => rfl⟩
set_option maxRecDepth 100000 in
theorem f_X11_133 : fLk RX11 133 11 10 .int false := ⟨RX11, TX11, 60, tyX11, okX11, by decide, (tW5 67 rfl rfl), rfl, rfl, fun _ => rfl⟩
set_option maxRecDepth 100000 in
theorem f_X11_136 : fLk RX11 136 11 12 .int false := ⟨RX11, TX11, 60, tyX11, okX11, by decide, (tW5 69 rfl rfl), rfl, rfl, fun _ => rfl⟩
set_option maxRecDepth 100000 in
theorem f_X11_139 : fLk RX11 139 11 13 .int false := ⟨RX11, TX11, 60, tyX11, okX11, by decide, (tW5 70 rfl rfl), rfl, rfl, fun _ => rfl⟩
set_option maxRecDepth 100000 in
theorem f_X11_156 : fLk RX11 156 11 16 .int false := ⟨RX11, TX11, 60, tyX11, okX11, by decide, (tW5 73 rfl rfl), rfl, rfl, fun _ => rfl⟩
set_option maxRecDepth 100000 in
theorem f_X11_161 : fLk RX11 161 11 17 .int false := ⟨RX11, TX11, 60, tyX11, okX11, by decide, (tW5 74 rfl rfl), rfl, rfl, fun _ => rfl⟩
set_option maxRecDepth 100000 in
theorem f_X11_164 : fLk RX11 164 11 20 .int false := ⟨RX11, TX11, 60, tyX11, okX11, by decide, (tW5 77 rfl rfl), rfl, rfl, fun _ => rfl⟩
set_option maxRecDepth 100000 in
theorem f_X11_171 : fLk RX11 171 11 18 .int false := ⟨RX11, TX11, 60, tyX11, okX11, by decide, (tW5 75 rfl rfl), rfl, rfl, fun _ => rfl⟩
set_option maxRecDepth 100000 in
theorem f_X11_178 : fLk RX11 178 11 19 .int false := ⟨RX11, TX11, 60, tyX11, okX11, by decide, (tW5 76 rfl rfl), rfl, rfl, fun _ => rfl⟩
set_option maxRecDepth 100000 in
theorem f_X11_197 : fLk RX11 197 11 22 .int false := ⟨RX11, TX11, 60, tyX11, okX11, by decide, (tW5 79 rfl rfl), rfl, rfl, fun _ => rfl⟩
set_option maxRecDepth 100000 in
theorem f_X11_210 : fLk RX11 210 11 23 .int false := ⟨RX11, TX11, 60, tyX11, okX11, by decide, (tW5 80 rfl rfl), rfl, rfl, fun _ => rfl⟩
set_option maxRecDepth 100000 in
theorem f_X11_213 : fLk RX11 213 11 24 .boolean false := ⟨RX11, TX11, 60, tyX11, okX11, by decide, (tW5 81 rfl rfl), rfl, rfl, fun _ => rfl⟩
set_option maxRecDepth 100000 in
theorem f_X11_224 : fLk RX11 224 11 27 .int false := ⟨RX11, TX11, 60, tyX11, okX11, by decide, (tW5 84 rfl rfl), rfl, rfl, fun _ => rfl⟩
set_option maxRecDepth 100000 in
theorem f_X11_234 : fLk RX11 234 11 36 .int false := ⟨RX11, TX11, 60, tyX11, okX11, by decide, (tW5 93 rfl rfl), rfl, rfl, fun _ => rfl⟩
set_option maxRecDepth 100000 in
theorem f_X11_237 : fLk RX11 237 11 37 .int false := ⟨RX11, TX11, 60, tyX11, okX11, by decide, (tW5 94 rfl rfl), rfl, rfl, fun _ => rfl⟩
set_option maxRecDepth 100000 in
theorem f_X11_275 : fLk RX11 275 11 49 .int false := ⟨RX11, TX11, 60, tyX11, okX11, by decide, (tW5 106 rfl rfl), rfl, rfl, fun _ => rfl⟩
set_option maxRecDepth 100000 in
theorem f_X11_278 : fLk RX11 278 11 50 .int false := ⟨RX11, TX11, 60, tyX11, okX11, by decide, (tW5 107 rfl rfl), rfl, rfl, fun _ => rfl⟩
set_option maxRecDepth 100000 in
theorem f_X11_281 : fLk RX11 281 11 55 .int false := ⟨RX11, TX11, 60, tyX11, okX11, by decide, (tW5 112 rfl rfl), rfl, rfl, fun _ => rfl⟩
set_option maxRecDepth 100000 in
theorem f_X11_326 : fLk RX11 326 11 41 .int false := ⟨RX11, TX11, 60, tyX11, okX11, by decide, (tW5 98 rfl rfl), rfl, rfl, fun _ => rfl⟩
set_option maxRecDepth 100000 in
theorem f_X11_329 : fLk RX11 329 11 11 .int false := ⟨RX11, TX11, 60, tyX11, okX11, by decide, (tW5 68 rfl rfl), rfl, rfl, fun _ => rfl⟩
set_option maxRecDepth 100000 in
theorem f_X11_343 : fLk RX11 343 11 14 .int false := ⟨RX11, TX11, 60, tyX11, okX11, by decide, (tW5 71 rfl rfl), rfl, rfl, fun _ => rfl⟩
set_option maxRecDepth 100000 in
theorem z_J0_9 : Cond.fieldLink RJ0 9 "java/lang/String" "value" "[B" ∈ aW := (tW7 121 rfl rfl)
set_option maxRecDepth 100000 in
theorem z_J0_15 : Cond.fieldLink RJ0 15 "java/lang/String" "coder" "B" ∈ aW := (tW7 122 rfl rfl)
set_option maxRecDepth 100000 in
theorem z_J0_38 : Cond.fieldLink RJ0 38 "java/lang/String" "COMPACT_STRINGS" "Z" ∈ aW := (tW2 172 rfl rfl)
set_option maxRecDepth 100000 in
theorem z_J0_1053 : Cond.fieldLink RJ0 1053 "jdk/internal/util/Preconditions" "SIOOBE_FORMATTER" "Ljava/util/function/BiFunction;" ∈ aW := (tW2 191 rfl rfl)
set_option maxRecDepth 100000 in
theorem z_J2_44 : Cond.fieldLink RJ2 44 "java/lang/StringUTF16" "$assertionsDisabled" "Z" ∈ aW := (tW2 209 rfl rfl)
set_option maxRecDepth 100000 in
theorem z_J2_59 : Cond.fieldLink RJ2 59 "java/lang/StringUTF16" "HI_BYTE_SHIFT" "I" ∈ aW := (tW2 211 rfl rfl)
set_option maxRecDepth 100000 in
theorem z_J2_63 : Cond.fieldLink RJ2 63 "java/lang/StringUTF16" "LO_BYTE_SHIFT" "I" ∈ aW := (tW2 213 rfl rfl)
set_option maxRecDepth 100000 in
theorem nX0_init : cIn mX0_init 0 := ⟨(tW2 53 rfl rfl), (tW1 11 rfl rfl), by decide +kernel⟩
set_option maxRecDepth 100000 in
theorem nX0_append : cIn mX0_append 2 := ⟨(tW5 13 rfl rfl), (tW1 11 rfl rfl), by decide +kernel⟩
set_option maxRecDepth 100000 in
theorem nX0_distance : cIn mX0_distance 1 := ⟨(tW5 25 rfl rfl), (tW1 11 rfl rfl), by decide +kernel⟩
set_option maxRecDepth 100000 in
theorem nX1_init : cIn mX1_init 0 := ⟨(tW1 206 rfl rfl), (tW1 8 rfl rfl), by decide +kernel⟩
set_option maxRecDepth 100000 in
theorem nX1_fly : cIn mX1_fly 4 := ⟨(tW3 159 rfl rfl), (tW1 8 rfl rfl), by decide +kernel⟩
set_option maxRecDepth 100000 in
theorem nX1_rest : cIn mX1_rest 0 := ⟨(tW3 165 rfl rfl), (tW1 8 rfl rfl), by decide +kernel⟩
set_option maxRecDepth 100000 in
theorem nX1_goOn : cIn mX1_goOn 3 := ⟨(tW3 169 rfl rfl), (tW1 8 rfl rfl), by decide +kernel⟩
set_option maxRecDepth 100000 in
theorem nX1_bend : cIn mX1_bend 1 := ⟨(tW3 188 rfl rfl), (tW1 8 rfl rfl), by decide +kernel⟩
set_option maxRecDepth 100000 in
theorem nX1_pull : cIn mX1_pull 1 := ⟨(tW3 193 rfl rfl), (tW1 8 rfl rfl), by decide +kernel⟩
set_option maxRecDepth 100000 in
theorem nX1_pullBoth : cIn mX1_pullBoth 5 := ⟨(tW3 201 rfl rfl), (tW1 8 rfl rfl), by decide +kernel⟩
set_option maxRecDepth 100000 in
theorem nX1_shorten : cIn mX1_shorten 1 := ⟨(tW3 205 rfl rfl), (tW1 8 rfl rfl), by decide +kernel⟩
set_option maxRecDepth 100000 in
theorem nX1_lengthIfStretched : cIn mX1_lengthIfStretched 2 := ⟨(tW3 197 rfl rfl), (tW1 8 rfl rfl), by decide +kernel⟩
set_option maxRecDepth 100000 in
theorem nX1_xOf : cIn mX1_xOf 2 := ⟨(tW3 209 rfl rfl), (tW1 8 rfl rfl), by decide +kernel⟩
set_option maxRecDepth 100000 in
theorem nX1_yOf : cIn mX1_yOf 2 := ⟨(tW3 213 rfl rfl), (tW1 8 rfl rfl), by decide +kernel⟩
set_option maxRecDepth 100000 in
theorem nX1_moved : cIn mX1_moved 2 := ⟨(tW3 225 rfl rfl), (tW1 8 rfl rfl), by decide +kernel⟩
set_option maxRecDepth 100000 in
theorem nX1_squares : cIn mX1_squares 2 := ⟨(tW3 228 rfl rfl), (tW1 8 rfl rfl), by decide +kernel⟩
set_option maxRecDepth 100000 in
theorem nX1_speedOf : cIn mX1_speedOf 2 := ⟨(tW3 221 rfl rfl), (tW1 8 rfl rfl), by decide +kernel⟩
set_option maxRecDepth 100000 in
theorem nX1_forceOf : cIn mX1_forceOf 2 := ⟨(tW4 1 rfl rfl), (tW1 8 rfl rfl), by decide +kernel⟩
set_option maxRecDepth 100000 in
theorem nX1_forceOfAll : cIn mX1_forceOfAll 1 := ⟨(tW3 237 rfl rfl), (tW1 8 rfl rfl), by decide +kernel⟩
set_option maxRecDepth 100000 in
theorem nX1_pathOf : cIn mX1_pathOf 1 := ⟨(tW4 193 rfl rfl), (tW1 8 rfl rfl), by decide +kernel⟩
set_option maxRecDepth 100000 in
theorem nX1_greatestSpeed : cIn mX1_greatestSpeed 0 := ⟨(tW4 131 rfl rfl), (tW1 8 rfl rfl), by decide +kernel⟩
set_option maxRecDepth 100000 in
theorem nX1_loopOf : cIn mX1_loopOf 1 := ⟨(tW4 10 rfl rfl), (tW1 8 rfl rfl), by decide +kernel⟩
set_option maxRecDepth 100000 in
theorem nX1_hasLoop : cIn mX1_hasLoop 0 := ⟨(tW4 82 rfl rfl), (tW1 8 rfl rfl), by decide +kernel⟩
set_option maxRecDepth 100000 in
theorem nX1_isOverhead : cIn mX1_isOverhead 0 := ⟨(tW4 78 rfl rfl), (tW1 8 rfl rfl), by decide +kernel⟩
set_option maxRecDepth 100000 in
theorem nX1_isFast : cIn mX1_isFast 2 := ⟨(tW4 26 rfl rfl), (tW1 8 rfl rfl), by decide +kernel⟩
set_option maxRecDepth 100000 in
theorem nX1_isCrack : cIn mX1_isCrack 2 := ⟨(tW4 22 rfl rfl), (tW1 8 rfl rfl), by decide +kernel⟩
set_option maxRecDepth 100000 in
theorem nX1_crackCount : cIn mX1_crackCount 0 := ⟨(tW4 18 rfl rfl), (tW1 8 rfl rfl), by decide +kernel⟩
set_option maxRecDepth 100000 in
theorem nX1_findCrack : cIn mX1_findCrack 1 := ⟨(tW4 30 rfl rfl), (tW1 8 rfl rfl), by decide +kernel⟩
set_option maxRecDepth 100000 in
theorem nX1_hasCrack : cIn mX1_hasCrack 1 := ⟨(tW4 70 rfl rfl), (tW1 8 rfl rfl), by decide +kernel⟩
set_option maxRecDepth 100000 in
theorem nX1_firstCrackTick : cIn mX1_firstCrackTick 0 := ⟨(tW4 66 rfl rfl), (tW1 8 rfl rfl), by decide +kernel⟩
set_option maxRecDepth 100000 in
theorem nX1_lastCrackTick : cIn mX1_lastCrackTick 0 := ⟨(tW4 74 rfl rfl), (tW1 8 rfl rfl), by decide +kernel⟩
set_option maxRecDepth 100000 in
theorem nX1_crackOf : cIn mX1_crackOf 2 := ⟨(tW4 44 rfl rfl), (tW1 8 rfl rfl), by decide +kernel⟩
set_option maxRecDepth 100000 in
theorem nX1_loudOf : cIn mX1_loudOf 3 := ⟨(tW4 50 rfl rfl), (tW1 8 rfl rfl), by decide +kernel⟩
set_option maxRecDepth 100000 in
theorem nX1_farOf : cIn mX1_farOf 4 := ⟨(tW4 38 rfl rfl), (tW1 8 rfl rfl), by decide +kernel⟩
set_option maxRecDepth 100000 in
theorem nX1_leastCrackFar : cIn mX1_leastCrackFar 2 := ⟨(tW4 104 rfl rfl), (tW1 8 rfl rfl), by decide +kernel⟩
set_option maxRecDepth 100000 in
theorem nX1_leastFar : cIn mX1_leastFar 2 := ⟨(tW4 160 rfl rfl), (tW1 8 rfl rfl), by decide +kernel⟩
set_option maxRecDepth 100000 in
theorem nX1_nearestTick : cIn mX1_nearestTick 4 := ⟨(tW4 151 rfl rfl), (tW1 8 rfl rfl), by decide +kernel⟩
set_option maxRecDepth 100000 in
theorem nX1_leastFarOfTwo : cIn mX1_leastFarOfTwo 3 := ⟨(tW4 177 rfl rfl), (tW1 8 rfl rfl), by decide +kernel⟩
set_option maxRecDepth 100000 in
theorem nX1_turnsAbout : cIn mX1_turnsAbout 2 := ⟨(tW4 59 rfl rfl), (tW1 8 rfl rfl), by decide +kernel⟩
set_option maxRecDepth 100000 in
theorem nX1_quarterOf : cIn mX1_quarterOf 3 := ⟨(tW4 62 rfl rfl), (tW1 8 rfl rfl), by decide +kernel⟩
set_option maxRecDepth 100000 in
theorem nX2_init : cIn mX2_init 0 := ⟨(tW2 29 rfl rfl), (tW1 10 rfl rfl), by decide +kernel⟩
set_option maxRecDepth 100000 in
theorem nX2_addHide : cIn mX2_addHide 1 := ⟨(tW4 211 rfl rfl), (tW1 10 rfl rfl), by decide +kernel⟩
set_option maxRecDepth 100000 in
theorem nX2_addCut : cIn mX2_addCut 1 := ⟨(tW4 215 rfl rfl), (tW1 10 rfl rfl), by decide +kernel⟩
set_option maxRecDepth 100000 in
theorem nX2_fewest : cIn mX2_fewest 0 := ⟨(tW4 227 rfl rfl), (tW1 10 rfl rfl), by decide +kernel⟩
set_option maxRecDepth 100000 in
theorem nX2_isEnough : cIn mX2_isEnough 1 := ⟨(tW4 237 rfl rfl), (tW1 10 rfl rfl), by decide +kernel⟩
set_option maxRecDepth 100000 in
theorem nX2_keepLeast : cIn mX2_keepLeast 2 := ⟨(tW5 5 rfl rfl), (tW1 10 rfl rfl), by decide +kernel⟩
set_option maxRecDepth 100000 in
theorem nX2_afterCut : cIn mX2_afterCut 3 := ⟨(tW5 1 rfl rfl), (tW1 10 rfl rfl), by decide +kernel⟩
set_option maxRecDepth 100000 in
theorem nX3_init : cIn mX3_init 0 := ⟨(tW1 39 rfl rfl), (tW1 3 rfl rfl), by decide +kernel⟩
set_option maxRecDepth 100000 in
theorem nX3_copyFrom : cIn mX3_copyFrom 1 := ⟨(tW3 27 rfl rfl), (tW1 3 rfl rfl), by decide +kernel⟩
set_option maxRecDepth 100000 in
theorem nX3_addPieces : cIn mX3_addPieces 3 := ⟨(tW3 13 rfl rfl), (tW1 3 rfl rfl), by decide +kernel⟩
set_option maxRecDepth 100000 in
theorem nX3_weightOf : cIn mX3_weightOf 1 := ⟨(tW3 105 rfl rfl), (tW1 3 rfl rfl), by decide +kernel⟩
set_option maxRecDepth 100000 in
theorem nX3_bendsOf : cIn mX3_bendsOf 1 := ⟨(tW3 111 rfl rfl), (tW1 3 rfl rfl), by decide +kernel⟩
set_option maxRecDepth 100000 in
theorem nX3_strandsInAll : cIn mX3_strandsInAll 0 := ⟨(tW3 139 rfl rfl), (tW1 3 rfl rfl), by decide +kernel⟩
set_option maxRecDepth 100000 in
theorem nX3_loseWorn : cIn mX3_loseWorn 1 := ⟨(tW4 199 rfl rfl), (tW1 3 rfl rfl), by decide +kernel⟩
set_option maxRecDepth 100000 in
theorem nX4_init : cIn mX4_init 0 := ⟨(tW1 153 rfl rfl), (tW1 6 rfl rfl), by decide +kernel⟩
set_option maxRecDepth 100000 in
theorem nX4_read : cIn mX4_read 1 := ⟨(tW2 137 rfl rfl), (tW1 6 rfl rfl), by decide +kernel⟩
set_option maxRecDepth 100000 in
theorem nX4_readClause : cIn mX4_readClause 1 := ⟨(tW2 153 rfl rfl), (tW1 6 rfl rfl), by decide +kernel⟩
set_option maxRecDepth 100000 in
theorem nX4_readLength : cIn mX4_readLength 1 := ⟨(tW3 19 rfl rfl), (tW1 6 rfl rfl), by decide +kernel⟩
set_option maxRecDepth 100000 in
theorem nX4_readPieces : cIn mX4_readPieces 1 := ⟨(tW2 218 rfl rfl), (tW1 6 rfl rfl), by decide +kernel⟩
set_option maxRecDepth 100000 in
theorem nX5_init : cIn mX5_init 0 := ⟨(tW2 2 rfl rfl), (tW1 9 rfl rfl), by decide +kernel⟩
set_option maxRecDepth 100000 in
theorem nX5_run : cIn mX5_run 4 := ⟨(tW4 118 rfl rfl), (tW1 9 rfl rfl), by decide +kernel⟩
set_option maxRecDepth 100000 in
theorem nX5_layRow : cIn mX5_layRow 0 := ⟨(tW4 123 rfl rfl), (tW1 9 rfl rfl), by decide +kernel⟩
set_option maxRecDepth 100000 in
theorem nX5_compare : cIn mX5_compare 1 := ⟨(tW4 138 rfl rfl), (tW1 9 rfl rfl), by decide +kernel⟩
set_option maxRecDepth 100000 in
theorem nX5_nextRow : cIn mX5_nextRow 0 := ⟨(tW4 143 rfl rfl), (tW1 9 rfl rfl), by decide +kernel⟩
set_option maxRecDepth 100000 in
theorem nX6_init : cIn mX6_init 0 := ⟨(tW1 33 rfl rfl), (tW1 2 rfl rfl), by decide +kernel⟩
set_option maxRecDepth 100000 in
theorem nX6_copyFrom : cIn mX6_copyFrom 1 := ⟨(tW5 39 rfl rfl), (tW1 2 rfl rfl), by decide +kernel⟩
set_option maxRecDepth 100000 in
theorem nX7_init : cIn mX7_init 0 := ⟨(tW1 120 rfl rfl), (tW1 5 rfl rfl), by decide +kernel⟩
set_option maxRecDepth 100000 in
theorem nX7_append : cIn mX7_append 2 := ⟨(tW2 128 rfl rfl), (tW1 5 rfl rfl), by decide +kernel⟩
set_option maxRecDepth 100000 in
theorem nX7_begin : cIn mX7_begin 0 := ⟨(tW2 141 rfl rfl), (tW1 5 rfl rfl), by decide +kernel⟩
set_option maxRecDepth 100000 in
theorem nX7_blame : cIn mX7_blame 2 := ⟨(tW2 234 rfl rfl), (tW1 5 rfl rfl), by decide +kernel⟩
set_option maxRecDepth 100000 in
theorem nX7_isFine : cIn mX7_isFine 0 := ⟨(tW2 145 rfl rfl), (tW1 5 rfl rfl), by decide +kernel⟩
set_option maxRecDepth 100000 in
theorem nX7_next : cIn mX7_next 0 := ⟨(tW2 149 rfl rfl), (tW1 5 rfl rfl), by decide +kernel⟩
set_option maxRecDepth 100000 in
theorem nX7_takesSign : cIn mX7_takesSign 1 := ⟨(tW3 9 rfl rfl), (tW1 5 rfl rfl), by decide +kernel⟩
set_option maxRecDepth 100000 in
theorem nX7_needSign : cIn mX7_needSign 1 := ⟨(tW3 5 rfl rfl), (tW1 5 rfl rfl), by decide +kernel⟩
set_option maxRecDepth 100000 in
theorem nX7_isWord : cIn mX7_isWord 1 := ⟨(tW2 162 rfl rfl), (tW1 5 rfl rfl), by decide +kernel⟩
set_option maxRecDepth 100000 in
theorem nX7_takesWord : cIn mX7_takesWord 1 := ⟨(tW2 158 rfl rfl), (tW1 5 rfl rfl), by decide +kernel⟩
set_option maxRecDepth 100000 in
theorem nX7_needWord : cIn mX7_needWord 1 := ⟨(tW3 0 rfl rfl), (tW1 5 rfl rfl), by decide +kernel⟩
set_option maxRecDepth 100000 in
theorem nX7_needNumber : cIn mX7_needNumber 2 := ⟨(tW2 222 rfl rfl), (tW1 5 rfl rfl), by decide +kernel⟩
set_option maxRecDepth 100000 in
theorem nX7_needMove : cIn mX7_needMove 0 := ⟨(tW3 60 rfl rfl), (tW1 5 rfl rfl), by decide +kernel⟩
set_option maxRecDepth 100000 in
theorem nX7_readFigures : cIn mX7_readFigures 2 := ⟨(tW2 227 rfl rfl), (tW1 5 rfl rfl), by decide +kernel⟩
set_option maxRecDepth 100000 in
theorem nX7_isLetter : cIn mX7_isLetter 1 := ⟨(tW2 176 rfl rfl), (tW1 5 rfl rfl), by decide +kernel⟩
set_option maxRecDepth 100000 in
theorem nX7_isFigure : cIn mX7_isFigure 1 := ⟨(tW2 230 rfl rfl), (tW1 5 rfl rfl), by decide +kernel⟩
set_option maxRecDepth 100000 in
theorem nX8_init : cIn mX8_init 0 := ⟨(tW1 74 rfl rfl), (tW1 4 rfl rfl), by decide +kernel⟩
set_option maxRecDepth 100000 in
theorem nX8_copyFrom : cIn mX8_copyFrom 1 := ⟨(tW5 44 rfl rfl), (tW1 4 rfl rfl), by decide +kernel⟩
set_option maxRecDepth 100000 in
theorem nX8_addStep : cIn mX8_addStep 3 := ⟨(tW3 93 rfl rfl), (tW1 4 rfl rfl), by decide +kernel⟩
set_option maxRecDepth 100000 in
theorem nX9_init : cIn mX9_init 0 := ⟨(tW1 169 rfl rfl), (tW1 7 rfl rfl), by decide +kernel⟩
set_option maxRecDepth 100000 in
theorem nX9_read : cIn mX9_read 1 := ⟨(tW3 43 rfl rfl), (tW1 7 rfl rfl), by decide +kernel⟩
set_option maxRecDepth 100000 in
theorem nX9_layInto : cIn mX9_layInto 1 := ⟨(tW3 89 rfl rfl), (tW1 7 rfl rfl), by decide +kernel⟩
set_option maxRecDepth 100000 in
theorem nX9_readPart : cIn mX9_readPart 1 := ⟨(tW3 50 rfl rfl), (tW1 7 rfl rfl), by decide +kernel⟩
set_option maxRecDepth 100000 in
theorem nX9_readGo : cIn mX9_readGo 1 := ⟨(tW3 56 rfl rfl), (tW1 7 rfl rfl), by decide +kernel⟩
set_option maxRecDepth 100000 in
theorem nX9_openTimes : cIn mX9_openTimes 1 := ⟨(tW3 75 rfl rfl), (tW1 7 rfl rfl), by decide +kernel⟩
set_option maxRecDepth 100000 in
theorem nX9_closeTimes : cIn mX9_closeTimes 0 := ⟨(tW3 81 rfl rfl), (tW1 7 rfl rfl), by decide +kernel⟩
set_option maxRecDepth 100000 in
theorem nX9_copyStep : cIn mX9_copyStep 1 := ⟨(tW3 85 rfl rfl), (tW1 7 rfl rfl), by decide +kernel⟩
set_option maxRecDepth 100000 in
theorem nX9_addStep : cIn mX9_addStep 3 := ⟨(tW3 67 rfl rfl), (tW1 7 rfl rfl), by decide +kernel⟩
set_option maxRecDepth 100000 in
theorem nX10_init : cIn mX10_init 0 := ⟨(tW1 25 rfl rfl), (tW1 1 rfl rfl), by decide +kernel⟩
set_option maxRecDepth 100000 in
theorem nX10_feed : cIn mX10_feed 2 := ⟨(tW2 124 rfl rfl), (tW1 1 rfl rfl), by decide +kernel⟩
set_option maxRecDepth 100000 in
theorem nX10_plait : cIn mX10_plait 0 := ⟨(tW2 133 rfl rfl), (tW1 1 rfl rfl), by decide +kernel⟩
set_option maxRecDepth 100000 in
theorem nX10_way : cIn mX10_way 0 := ⟨(tW3 39 rfl rfl), (tW1 1 rfl rfl), by decide +kernel⟩
set_option maxRecDepth 100000 in
theorem nX10_fault : cIn mX10_fault 0 := ⟨(tW3 97 rfl rfl), (tW1 1 rfl rfl), by decide +kernel⟩
set_option maxRecDepth 100000 in
theorem nX10_piece : cIn mX10_piece 2 := ⟨(tW3 101 rfl rfl), (tW1 1 rfl rfl), by decide +kernel⟩
set_option maxRecDepth 100000 in
theorem nX10_law : cIn mX10_law 2 := ⟨(tW3 120 rfl rfl), (tW1 1 rfl rfl), by decide +kernel⟩
set_option maxRecDepth 100000 in
theorem nX10_give : cIn mX10_give 1 := ⟨(tW3 128 rfl rfl), (tW1 1 rfl rfl), by decide +kernel⟩
set_option maxRecDepth 100000 in
theorem nX10_count : cIn mX10_count 1 := ⟨(tW3 135 rfl rfl), (tW1 1 rfl rfl), by decide +kernel⟩
set_option maxRecDepth 100000 in
theorem nX10_joint : cIn mX10_joint 3 := ⟨(tW3 143 rfl rfl), (tW1 1 rfl rfl), by decide +kernel⟩
set_option maxRecDepth 100000 in
theorem nX10_speed : cIn mX10_speed 2 := ⟨(tW3 217 rfl rfl), (tW1 1 rfl rfl), by decide +kernel⟩
set_option maxRecDepth 100000 in
theorem nX10_force : cIn mX10_force 2 := ⟨(tW3 232 rfl rfl), (tW1 1 rfl rfl), by decide +kernel⟩
set_option maxRecDepth 100000 in
theorem nX10_loop : cIn mX10_loop 1 := ⟨(tW4 6 rfl rfl), (tW1 1 rfl rfl), by decide +kernel⟩
set_option maxRecDepth 100000 in
theorem nX10_crack : cIn mX10_crack 2 := ⟨(tW4 14 rfl rfl), (tW1 1 rfl rfl), by decide +kernel⟩
set_option maxRecDepth 100000 in
theorem nX10_kind : cIn mX10_kind 0 := ⟨(tW4 55 rfl rfl), (tW1 1 rfl rfl), by decide +kernel⟩
set_option maxRecDepth 100000 in
theorem nX10_turns : cIn mX10_turns 0 := ⟨(tW4 86 rfl rfl), (tW1 1 rfl rfl), by decide +kernel⟩
set_option maxRecDepth 100000 in
theorem nX10_put : cIn mX10_put 3 := ⟨(tW4 90 rfl rfl), (tW1 1 rfl rfl), by decide +kernel⟩
set_option maxRecDepth 100000 in
theorem nX10_near : cIn mX10_near 0 := ⟨(tW4 100 rfl rfl), (tW1 1 rfl rfl), by decide +kernel⟩
set_option maxRecDepth 100000 in
theorem nX10_leastHand : cIn mX10_leastHand 0 := ⟨(tW4 110 rfl rfl), (tW1 1 rfl rfl), by decide +kernel⟩
set_option maxRecDepth 100000 in
theorem nX10_loudest : cIn mX10_loudest 2 := ⟨(tW4 114 rfl rfl), (tW1 1 rfl rfl), by decide +kernel⟩
set_option maxRecDepth 100000 in
theorem nX10_aim : cIn mX10_aim 5 := ⟨(tW4 147 rfl rfl), (tW1 1 rfl rfl), by decide +kernel⟩
set_option maxRecDepth 100000 in
theorem nX10_alone : cIn mX10_alone 2 := ⟨(tW4 156 rfl rfl), (tW1 1 rfl rfl), by decide +kernel⟩
set_option maxRecDepth 100000 in
theorem nX10_bestAim : cIn mX10_bestAim 3 := ⟨(tW4 168 rfl rfl), (tW1 1 rfl rfl), by decide +kernel⟩
set_option maxRecDepth 100000 in
theorem nX10_close : cIn mX10_close 3 := ⟨(tW4 173 rfl rfl), (tW1 1 rfl rfl), by decide +kernel⟩
set_option maxRecDepth 100000 in
theorem nX10_rhythm : cIn mX10_rhythm 4 := ⟨(tW4 181 rfl rfl), (tW1 1 rfl rfl), by decide +kernel⟩
set_option maxRecDepth 100000 in
theorem nX10_crackOn : cIn mX10_crackOn 0 := ⟨(tW4 185 rfl rfl), (tW1 1 rfl rfl), by decide +kernel⟩
set_option maxRecDepth 100000 in
theorem nX10_evening : cIn mX10_evening 1 := ⟨(tW4 203 rfl rfl), (tW1 1 rfl rfl), by decide +kernel⟩
set_option maxRecDepth 100000 in
theorem nX10_lay : cIn mX10_lay 2 := ⟨(tW4 207 rfl rfl), (tW1 1 rfl rfl), by decide +kernel⟩
set_option maxRecDepth 100000 in
theorem nX10_clear : cIn mX10_clear 0 := ⟨(tW4 219 rfl rfl), (tW1 1 rfl rfl), by decide +kernel⟩
set_option maxRecDepth 100000 in
theorem nX10_cut : cIn mX10_cut 0 := ⟨(tW4 223 rfl rfl), (tW1 1 rfl rfl), by decide +kernel⟩
set_option maxRecDepth 100000 in
theorem nX10_film : cIn mX10_film 2 := ⟨(tW5 9 rfl rfl), (tW1 1 rfl rfl), by decide +kernel⟩
set_option maxRecDepth 100000 in
theorem nX10_blank : cIn mX10_blank 0 := ⟨(tW5 17 rfl rfl), (tW1 1 rfl rfl), by decide +kernel⟩
set_option maxRecDepth 100000 in
theorem nX10_told : cIn mX10_told 1 := ⟨(tW5 21 rfl rfl), (tW1 1 rfl rfl), by decide +kernel⟩
set_option maxRecDepth 100000 in
theorem nX10_keep : cIn mX10_keep 1 := ⟨(tW5 35 rfl rfl), (tW1 1 rfl rfl), by decide +kernel⟩
set_option maxRecDepth 100000 in
theorem nX10_goBack : cIn mX10_goBack 1 := ⟨(tW5 50 rfl rfl), (tW1 1 rfl rfl), by decide +kernel⟩
set_option maxRecDepth 100000 in
theorem nX10_endReading : cIn mX10_endReading 0 := ⟨(tW3 23 rfl rfl), (tW1 1 rfl rfl), by decide +kernel⟩
set_option maxRecDepth 100000 in
theorem nX10_setChanged : cIn mX10_setChanged 0 := ⟨(tW3 34 rfl rfl), (tW1 1 rfl rfl), by decide +kernel⟩
set_option maxRecDepth 100000 in
theorem nX10_theThrow : cIn mX10_theThrow 0 := ⟨(tW3 155 rfl rfl), (tW1 1 rfl rfl), by decide +kernel⟩
set_option maxRecDepth 100000 in
theorem nX10_isJoint : cIn mX10_isJoint 1 := ⟨(tW3 147 rfl rfl), (tW1 1 rfl rfl), by decide +kernel⟩
set_option maxRecDepth 100000 in
theorem nX10_isTick : cIn mX10_isTick 1 := ⟨(tW3 151 rfl rfl), (tW1 1 rfl rfl), by decide +kernel⟩
set_option maxRecDepth 100000 in
theorem nX10_isWithin : cIn mX10_isWithin 2 := ⟨(tW4 96 rfl rfl), (tW1 1 rfl rfl), by decide +kernel⟩
set_option maxRecDepth 100000 in
theorem nX10_isPlace : cIn mX10_isPlace 2 := ⟨(tW4 93 rfl rfl), (tW1 1 rfl rfl), by decide +kernel⟩
set_option maxRecDepth 100000 in
theorem nX10_isGiven : cIn mX10_isGiven 1 := ⟨(tW3 131 rfl rfl), (tW1 1 rfl rfl), by decide +kernel⟩
set_option maxRecDepth 100000 in
theorem nX10_tellCrack : cIn mX10_tellCrack 4 := ⟨(tW4 34 rfl rfl), (tW1 1 rfl rfl), by decide +kernel⟩
set_option maxRecDepth 100000 in
theorem nX10_throwReally : cIn mX10_throwReally 0 := ⟨(tW4 189 rfl rfl), (tW1 1 rfl rfl), by decide +kernel⟩
set_option maxRecDepth 100000 in
theorem nX10_root : cIn mX10_root 1 := ⟨(tW3 176 rfl rfl), (tW1 1 rfl rfl), by decide +kernel⟩
set_option maxRecDepth 100000 in
theorem nX11_init : cIn mX11_init 0 := ⟨(tW5 55 rfl rfl), (tW1 12 rfl rfl), by decide +kernel⟩
set_option maxRecDepth 100000 in
theorem nX11_in : cIn mX11_in 3 := ⟨(tW6 7 rfl rfl), (tW1 12 rfl rfl), by decide +kernel⟩
set_option maxRecDepth 100000 in
theorem nX11_one : cIn mX11_one 1 := ⟨(tW6 41 rfl rfl), (tW1 12 rfl rfl), by decide +kernel⟩
set_option maxRecDepth 100000 in
theorem nX11_root : cIn mX11_root 1 := ⟨(tW6 140 rfl rfl), (tW1 12 rfl rfl), by decide +kernel⟩
set_option maxRecDepth 100000 in
theorem nX11_span : cIn mX11_span 2 := ⟨(tW6 137 rfl rfl), (tW1 12 rfl rfl), by decide +kernel⟩
set_option maxRecDepth 100000 in
theorem nX11_heft : cIn mX11_heft 1 := ⟨(tW6 86 rfl rfl), (tW1 12 rfl rfl), by decide +kernel⟩
set_option maxRecDepth 100000 in
theorem nX11_stiff : cIn mX11_stiff 1 := ⟨(tW6 93 rfl rfl), (tW1 12 rfl rfl), by decide +kernel⟩
set_option maxRecDepth 100000 in
theorem nX11_wears : cIn mX11_wears 1 := ⟨(tW7 65 rfl rfl), (tW1 12 rfl rfl), by decide +kernel⟩
set_option maxRecDepth 100000 in
theorem nX11_feed : cIn mX11_feed 2 := ⟨(tW6 3 rfl rfl), (tW1 12 rfl rfl), by decide +kernel⟩
set_option maxRecDepth 100000 in
theorem nX11_here : cIn mX11_here 0 := ⟨(tW6 20 rfl rfl), (tW1 12 rfl rfl), by decide +kernel⟩
set_option maxRecDepth 100000 in
theorem nX11_want : cIn mX11_want 3 := ⟨(tW6 47 rfl rfl), (tW1 12 rfl rfl), by decide +kernel⟩
set_option maxRecDepth 100000 in
theorem nX11_takeWord : cIn mX11_takeWord 0 := ⟨(tW6 24 rfl rfl), (tW1 12 rfl rfl), by decide +kernel⟩
set_option maxRecDepth 100000 in
theorem nX11_isWord : cIn mX11_isWord 8 := ⟨(tW6 30 rfl rfl), (tW1 12 rfl rfl), by decide +kernel⟩
set_option maxRecDepth 100000 in
theorem nX11_takeNumber : cIn mX11_takeNumber 3 := ⟨(tW6 38 rfl rfl), (tW1 12 rfl rfl), by decide +kernel⟩
set_option maxRecDepth 100000 in
theorem nX11_takeSign : cIn mX11_takeSign 1 := ⟨(tW6 51 rfl rfl), (tW1 12 rfl rfl), by decide +kernel⟩
set_option maxRecDepth 100000 in
theorem nX11_beginText : cIn mX11_beginText 0 := ⟨(tW6 16 rfl rfl), (tW1 12 rfl rfl), by decide +kernel⟩
set_option maxRecDepth 100000 in
theorem nX11_takePiece : cIn mX11_takePiece 0 := ⟨(tW6 34 rfl rfl), (tW1 12 rfl rfl), by decide +kernel⟩
set_option maxRecDepth 100000 in
theorem nX11_plait : cIn mX11_plait 0 := ⟨(tW6 12 rfl rfl), (tW1 12 rfl rfl), by decide +kernel⟩
set_option maxRecDepth 100000 in
theorem nX11_addOp : cIn mX11_addOp 4 := ⟨(tW6 63 rfl rfl), (tW1 12 rfl rfl), by decide +kernel⟩
set_option maxRecDepth 100000 in
theorem nX11_takeGo : cIn mX11_takeGo 0 := ⟨(tW6 67 rfl rfl), (tW1 12 rfl rfl), by decide +kernel⟩
set_option maxRecDepth 100000 in
theorem nX11_takeWay : cIn mX11_takeWay 0 := ⟨(tW6 59 rfl rfl), (tW1 12 rfl rfl), by decide +kernel⟩
set_option maxRecDepth 100000 in
theorem nX11_runWay : cIn mX11_runWay 0 := ⟨(tW6 71 rfl rfl), (tW1 12 rfl rfl), by decide +kernel⟩
set_option maxRecDepth 100000 in
theorem nX11_way : cIn mX11_way 0 := ⟨(tW6 55 rfl rfl), (tW1 12 rfl rfl), by decide +kernel⟩
set_option maxRecDepth 100000 in
theorem nX11_fault : cIn mX11_fault 0 := ⟨(tW6 75 rfl rfl), (tW1 12 rfl rfl), by decide +kernel⟩
set_option maxRecDepth 100000 in
theorem nX11_weightOf : cIn mX11_weightOf 1 := ⟨(tW6 83 rfl rfl), (tW1 12 rfl rfl), by decide +kernel⟩
set_option maxRecDepth 100000 in
theorem nX11_bendsOf : cIn mX11_bendsOf 1 := ⟨(tW6 90 rfl rfl), (tW1 12 rfl rfl), by decide +kernel⟩
set_option maxRecDepth 100000 in
theorem nX11_piece : cIn mX11_piece 2 := ⟨(tW6 79 rfl rfl), (tW1 12 rfl rfl), by decide +kernel⟩
set_option maxRecDepth 100000 in
theorem nX11_law : cIn mX11_law 2 := ⟨(tW6 97 rfl rfl), (tW1 12 rfl rfl), by decide +kernel⟩
set_option maxRecDepth 100000 in
theorem nX11_give : cIn mX11_give 1 := ⟨(tW6 105 rfl rfl), (tW1 12 rfl rfl), by decide +kernel⟩
set_option maxRecDepth 100000 in
theorem nX11_allStrands : cIn mX11_allStrands 0 := ⟨(tW6 115 rfl rfl), (tW1 12 rfl rfl), by decide +kernel⟩
set_option maxRecDepth 100000 in
theorem nX11_count : cIn mX11_count 1 := ⟨(tW6 111 rfl rfl), (tW1 12 rfl rfl), by decide +kernel⟩
set_option maxRecDepth 100000 in
theorem nX11_cell : cIn mX11_cell 2 := ⟨(tW6 130 rfl rfl), (tW1 12 rfl rfl), by decide +kernel⟩
set_option maxRecDepth 100000 in
theorem nX11_goOn : cIn mX11_goOn 2 := ⟨(tW6 134 rfl rfl), (tW1 12 rfl rfl), by decide +kernel⟩
set_option maxRecDepth 100000 in
theorem nX11_bend : cIn mX11_bend 2 := ⟨(tW6 147 rfl rfl), (tW1 12 rfl rfl), by decide +kernel⟩
set_option maxRecDepth 100000 in
theorem nX11_pull : cIn mX11_pull 2 := ⟨(tW6 151 rfl rfl), (tW1 12 rfl rfl), by decide +kernel⟩
set_option maxRecDepth 100000 in
theorem nX11_hold : cIn mX11_hold 2 := ⟨(tW6 155 rfl rfl), (tW1 12 rfl rfl), by decide +kernel⟩
set_option maxRecDepth 100000 in
theorem nX11_toss : cIn mX11_toss 1 := ⟨(tW6 127 rfl rfl), (tW1 12 rfl rfl), by decide +kernel⟩
set_option maxRecDepth 100000 in
theorem nX11_noJoint : cIn mX11_noJoint 1 := ⟨(tW6 123 rfl rfl), (tW1 12 rfl rfl), by decide +kernel⟩
set_option maxRecDepth 100000 in
theorem nX11_joint : cIn mX11_joint 3 := ⟨(tW6 119 rfl rfl), (tW1 12 rfl rfl), by decide +kernel⟩
set_option maxRecDepth 100000 in
theorem nX11_speedOf : cIn mX11_speedOf 2 := ⟨(tW6 163 rfl rfl), (tW1 12 rfl rfl), by decide +kernel⟩
set_option maxRecDepth 100000 in
theorem nX11_speed : cIn mX11_speed 2 := ⟨(tW6 159 rfl rfl), (tW1 12 rfl rfl), by decide +kernel⟩
set_option maxRecDepth 100000 in
theorem nX11_forceOf : cIn mX11_forceOf 2 := ⟨(tW6 172 rfl rfl), (tW1 12 rfl rfl), by decide +kernel⟩
set_option maxRecDepth 100000 in
theorem nX11_force : cIn mX11_force 2 := ⟨(tW6 167 rfl rfl), (tW1 12 rfl rfl), by decide +kernel⟩
set_option maxRecDepth 100000 in
theorem nX11_loopOf : cIn mX11_loopOf 1 := ⟨(tW6 180 rfl rfl), (tW1 12 rfl rfl), by decide +kernel⟩
set_option maxRecDepth 100000 in
theorem nX11_loop : cIn mX11_loop 1 := ⟨(tW6 176 rfl rfl), (tW1 12 rfl rfl), by decide +kernel⟩
set_option maxRecDepth 100000 in
theorem nX11_findCracks : cIn mX11_findCracks 0 := ⟨(tW6 189 rfl rfl), (tW1 12 rfl rfl), by decide +kernel⟩
set_option maxRecDepth 100000 in
theorem nX11_farOf : cIn mX11_farOf 1 := ⟨(tW6 193 rfl rfl), (tW1 12 rfl rfl), by decide +kernel⟩
set_option maxRecDepth 100000 in
theorem nX11_ofWhat : cIn mX11_ofWhat 1 := ⟨(tW6 197 rfl rfl), (tW1 12 rfl rfl), by decide +kernel⟩
set_option maxRecDepth 100000 in
theorem nX11_crack : cIn mX11_crack 2 := ⟨(tW6 184 rfl rfl), (tW1 12 rfl rfl), by decide +kernel⟩
set_option maxRecDepth 100000 in
theorem nX11_quarter : cIn mX11_quarter 3 := ⟨(tW6 208 rfl rfl), (tW1 12 rfl rfl), by decide +kernel⟩
set_option maxRecDepth 100000 in
theorem nX11_turnsOf : cIn mX11_turnsOf 0 := ⟨(tW6 205 rfl rfl), (tW1 12 rfl rfl), by decide +kernel⟩
set_option maxRecDepth 100000 in
theorem nX11_isOverhead : cIn mX11_isOverhead 0 := ⟨(tW6 212 rfl rfl), (tW1 12 rfl rfl), by decide +kernel⟩
set_option maxRecDepth 100000 in
theorem nX11_hasLoop : cIn mX11_hasLoop 0 := ⟨(tW6 216 rfl rfl), (tW1 12 rfl rfl), by decide +kernel⟩
set_option maxRecDepth 100000 in
theorem nX11_kind : cIn mX11_kind 0 := ⟨(tW6 201 rfl rfl), (tW1 12 rfl rfl), by decide +kernel⟩
set_option maxRecDepth 100000 in
theorem nX11_turns : cIn mX11_turns 0 := ⟨(tW6 220 rfl rfl), (tW1 12 rfl rfl), by decide +kernel⟩
set_option maxRecDepth 100000 in
theorem nX11_isPlace : cIn mX11_isPlace 2 := ⟨(tW6 227 rfl rfl), (tW1 12 rfl rfl), by decide +kernel⟩
set_option maxRecDepth 100000 in
theorem nX11_put : cIn mX11_put 3 := ⟨(tW6 224 rfl rfl), (tW1 12 rfl rfl), by decide +kernel⟩
set_option maxRecDepth 100000 in
theorem nX11_near : cIn mX11_near 0 := ⟨(tW6 233 rfl rfl), (tW1 12 rfl rfl), by decide +kernel⟩
set_option maxRecDepth 100000 in
theorem nX11_leastHand : cIn mX11_leastHand 0 := ⟨(tW6 237 rfl rfl), (tW1 12 rfl rfl), by decide +kernel⟩
set_option maxRecDepth 100000 in
theorem nX11_greatestSpeed : cIn mX11_greatestSpeed 0 := ⟨(tW7 10 rfl rfl), (tW1 12 rfl rfl), by decide +kernel⟩
set_option maxRecDepth 100000 in
theorem nX11_listed : cIn mX11_listed 1 := ⟨(tW7 6 rfl rfl), (tW1 12 rfl rfl), by decide +kernel⟩
set_option maxRecDepth 100000 in
theorem nX11_loudest : cIn mX11_loudest 2 := ⟨(tW7 1 rfl rfl), (tW1 12 rfl rfl), by decide +kernel⟩
set_option maxRecDepth 100000 in
theorem nX11_farFrom : cIn mX11_farFrom 4 := ⟨(tW7 18 rfl rfl), (tW1 12 rfl rfl), by decide +kernel⟩
set_option maxRecDepth 100000 in
theorem nX11_aim : cIn mX11_aim 5 := ⟨(tW7 14 rfl rfl), (tW1 12 rfl rfl), by decide +kernel⟩
set_option maxRecDepth 100000 in
theorem nX11_aloneBy : cIn mX11_aloneBy 2 := ⟨(tW7 26 rfl rfl), (tW1 12 rfl rfl), by decide +kernel⟩
set_option maxRecDepth 100000 in
theorem nX11_alone : cIn mX11_alone 2 := ⟨(tW7 22 rfl rfl), (tW1 12 rfl rfl), by decide +kernel⟩
set_option maxRecDepth 100000 in
theorem nX11_bestAim : cIn mX11_bestAim 3 := ⟨(tW7 30 rfl rfl), (tW1 12 rfl rfl), by decide +kernel⟩
set_option maxRecDepth 100000 in
theorem nX11_tossBoth : cIn mX11_tossBoth 2 := ⟨(tW7 43 rfl rfl), (tW1 12 rfl rfl), by decide +kernel⟩
set_option maxRecDepth 100000 in
theorem nX11_closeBy : cIn mX11_closeBy 1 := ⟨(tW7 47 rfl rfl), (tW1 12 rfl rfl), by decide +kernel⟩
set_option maxRecDepth 100000 in
theorem nX11_isTwo : cIn mX11_isTwo 2 := ⟨(tW7 38 rfl rfl), (tW1 12 rfl rfl), by decide +kernel⟩
set_option maxRecDepth 100000 in
theorem nX11_close : cIn mX11_close 3 := ⟨(tW7 35 rfl rfl), (tW1 12 rfl rfl), by decide +kernel⟩
set_option maxRecDepth 100000 in
theorem nX11_rhythm : cIn mX11_rhythm 4 := ⟨(tW7 52 rfl rfl), (tW1 12 rfl rfl), by decide +kernel⟩
set_option maxRecDepth 100000 in
theorem nX11_wearOnce : cIn mX11_wearOnce 0 := ⟨(tW7 62 rfl rfl), (tW1 12 rfl rfl), by decide +kernel⟩
set_option maxRecDepth 100000 in
theorem nX11_crackOn : cIn mX11_crackOn 0 := ⟨(tW7 58 rfl rfl), (tW1 12 rfl rfl), by decide +kernel⟩
set_option maxRecDepth 100000 in
theorem nX11_evening : cIn mX11_evening 1 := ⟨(tW7 70 rfl rfl), (tW1 12 rfl rfl), by decide +kernel⟩
set_option maxRecDepth 100000 in
theorem nX11_lay : cIn mX11_lay 2 := ⟨(tW7 75 rfl rfl), (tW1 12 rfl rfl), by decide +kernel⟩
set_option maxRecDepth 100000 in
theorem nX11_clear : cIn mX11_clear 0 := ⟨(tW7 80 rfl rfl), (tW1 12 rfl rfl), by decide +kernel⟩
set_option maxRecDepth 100000 in
theorem nX11_sumOf : cIn mX11_sumOf 1 := ⟨(tW7 95 rfl rfl), (tW1 12 rfl rfl), by decide +kernel⟩
set_option maxRecDepth 100000 in
theorem nX11_canCut : cIn mX11_canCut 1 := ⟨(tW7 91 rfl rfl), (tW1 12 rfl rfl), by decide +kernel⟩
set_option maxRecDepth 100000 in
theorem nX11_ones : cIn mX11_ones 1 := ⟨(tW7 87 rfl rfl), (tW1 12 rfl rfl), by decide +kernel⟩
set_option maxRecDepth 100000 in
theorem nX11_cut : cIn mX11_cut 0 := ⟨(tW7 84 rfl rfl), (tW1 12 rfl rfl), by decide +kernel⟩
set_option maxRecDepth 100000 in
theorem nX11_film : cIn mX11_film 2 := ⟨(tW7 99 rfl rfl), (tW1 12 rfl rfl), by decide +kernel⟩
set_option maxRecDepth 100000 in
theorem nX11_blank : cIn mX11_blank 0 := ⟨(tW7 104 rfl rfl), (tW1 12 rfl rfl), by decide +kernel⟩
set_option maxRecDepth 100000 in
theorem nX11_size : cIn mX11_size 1 := ⟨(tW7 111 rfl rfl), (tW1 12 rfl rfl), by decide +kernel⟩
set_option maxRecDepth 100000 in
theorem nX11_told : cIn mX11_told 1 := ⟨(tW7 108 rfl rfl), (tW1 12 rfl rfl), by decide +kernel⟩
set_option maxRecDepth 100000 in
theorem nX11_keep : cIn mX11_keep 1 := ⟨(tW7 115 rfl rfl), (tW1 12 rfl rfl), by decide +kernel⟩
set_option maxRecDepth 100000 in
theorem nX11_goBack : cIn mX11_goBack 1 := ⟨(tW7 119 rfl rfl), (tW1 12 rfl rfl), by decide +kernel⟩
set_option maxRecDepth 100000 in
theorem nJ6_numberOfLeadingZeros_0f7a4 : cIn mJ6_numberOfLeadingZeros_0f7a4 1 := ⟨(tW3 182 rfl rfl), (tW1 20 rfl rfl), by decide +kernel⟩
set_option maxRecDepth 100000 in
theorem nJ6_bitCount_0f7a4 : cIn mJ6_bitCount_0f7a4 1 := ⟨(tW4 230 rfl rfl), (tW1 20 rfl rfl), by decide +kernel⟩
set_option maxRecDepth 100000 in
theorem nJ13_numberOfLeadingZeros_95d88 : cIn mJ13_numberOfLeadingZeros_95d88 1 := ⟨(tW3 179 rfl rfl), (tW1 19 rfl rfl), by decide +kernel⟩
set_option maxRecDepth 100000 in
theorem nJ9_abs_0f7a4 : cIn mJ9_abs_0f7a4 1 := ⟨(tW5 30 rfl rfl), (tW1 18 rfl rfl), by decide +kernel⟩
set_option maxRecDepth 100000 in
theorem nJ9_max_7cf53 : cIn mJ9_max_7cf53 2 := ⟨(tW3 172 rfl rfl), (tW1 18 rfl rfl), by decide +kernel⟩
set_option maxRecDepth 100000 in
theorem nJ9_max_f86c9 : cIn mJ9_max_f86c9 2 := ⟨(tW4 134 rfl rfl), (tW1 18 rfl rfl), by decide +kernel⟩
set_option maxRecDepth 100000 in
theorem nJ9_min_7cf53 : cIn mJ9_min_7cf53 2 := ⟨(tW3 116 rfl rfl), (tW1 18 rfl rfl), by decide +kernel⟩
set_option maxRecDepth 100000 in
theorem nJ9_min_f86c9 : cIn mJ9_min_f86c9 2 := ⟨(tW4 164 rfl rfl), (tW1 18 rfl rfl), by decide +kernel⟩
set_option maxRecDepth 100000 in
theorem nJ0_length_8abf5 : cIn mJ0_length_8abf5 0 := ⟨(tW2 167 rfl rfl), (tW1 13 rfl rfl), by decide +kernel⟩
set_option maxRecDepth 100000 in
theorem nJ0_charAt_5068e : cIn mJ0_charAt_5068e 1 := ⟨(tW2 180 rfl rfl), (tW1 13 rfl rfl), by decide +kernel⟩
set_option maxRecDepth 100000 in
theorem nJ0_coder_7d493 : cIn mJ0_coder_7d493 0 := ⟨(tW2 171 rfl rfl), (tW1 13 rfl rfl), by decide +kernel⟩
set_option maxRecDepth 100000 in
theorem nJ0_isLatin1_aae02 : cIn mJ0_isLatin1_aae02 0 := ⟨(tW2 184 rfl rfl), (tW1 13 rfl rfl), by decide +kernel⟩
set_option maxRecDepth 100000 in
theorem nJ0_checkIndex_df160 : cIn mJ0_checkIndex_df160 2 := ⟨(tW2 190 rfl rfl), (tW1 13 rfl rfl), by decide +kernel⟩
set_option maxRecDepth 100000 in
theorem nJ1_charAt_3b067 : cIn mJ1_charAt_3b067 2 := ⟨(tW2 187 rfl rfl), (tW1 14 rfl rfl), by decide +kernel⟩
set_option maxRecDepth 100000 in
theorem nJ2_getChar_3b067 : cIn mJ2_getChar_3b067 2 := ⟨(tW2 208 rfl rfl), (tW1 16 rfl rfl), by decide +kernel⟩
set_option maxRecDepth 100000 in
theorem nJ2_length_9d52b : cIn mJ2_length_9d52b 1 := ⟨(tW2 204 rfl rfl), (tW1 16 rfl rfl), by decide +kernel⟩
set_option maxRecDepth 100000 in
theorem nJ2_charAt_3b067 : cIn mJ2_charAt_3b067 2 := ⟨(tW2 198 rfl rfl), (tW1 16 rfl rfl), by decide +kernel⟩
set_option maxRecDepth 100000 in
theorem nJ2_checkIndex_2214a : cIn mJ2_checkIndex_2214a 2 := ⟨(tW2 201 rfl rfl), (tW1 16 rfl rfl), by decide +kernel⟩
set_option maxRecDepth 100000 in
theorem nJ3_checkIndex_8e157 : cIn mJ3_checkIndex_8e157 3 := ⟨(tW2 195 rfl rfl), (tW1 15 rfl rfl), by decide +kernel⟩
set_option maxRecDepth 100000 in
theorem v_X10_1 : Cond.methodLink RX10 1 objectInit ∈ aW := (tW1 26 rfl rfl)
set_option maxRecDepth 100000 in
theorem v_X10_9 : iNk RX10 9 mX6_init 0 := ⟨nX6_init, by decide +kernel, (tW1 32 rfl rfl), rfl, rfl⟩
set_option maxRecDepth 100000 in
theorem v_X10_24 : iNk RX10 24 mX7_init 0 := ⟨nX7_init, by decide +kernel, (tW1 119 rfl rfl), rfl, rfl⟩
set_option maxRecDepth 100000 in
theorem v_X10_31 : iNk RX10 31 mX4_init 0 := ⟨nX4_init, by decide +kernel, (tW1 152 rfl rfl), rfl, rfl⟩
set_option maxRecDepth 100000 in
theorem v_X10_38 : iNk RX10 38 mX9_init 0 := ⟨nX9_init, by decide +kernel, (tW1 168 rfl rfl), rfl, rfl⟩
set_option maxRecDepth 100000 in
theorem v_X10_45 : iNk RX10 45 mX1_init 0 := ⟨nX1_init, by decide +kernel, (tW1 205 rfl rfl), rfl, rfl⟩
set_option maxRecDepth 100000 in
theorem v_X10_55 : iNk RX10 55 mX5_init 0 := ⟨nX5_init, by decide +kernel, (tW2 1 rfl rfl), rfl, rfl⟩
set_option maxRecDepth 100000 in
theorem v_X10_62 : iNk RX10 62 mX2_init 0 := ⟨nX2_init, by decide +kernel, (tW2 28 rfl rfl), rfl, rfl⟩
set_option maxRecDepth 100000 in
theorem v_X10_69 : iNk RX10 69 mX0_init 0 := ⟨nX0_init, by decide +kernel, (tW2 52 rfl rfl), rfl, rfl⟩
set_option maxRecDepth 100000 in
theorem v_X10_100 : vLk RX10 100 mX7_append 2 7 := ⟨nX7_append, (tW2 125 rfl rfl), (tW2 126 rfl rfl), (tW2 127 rfl rfl), _, _, rfl⟩
set_option maxRecDepth 100000 in
theorem v_X10_104 : vLk RX10 104 mX4_read 1 4 := ⟨nX4_read, (tW2 134 rfl rfl), (tW2 135 rfl rfl), (tW2 136 rfl rfl), _, _, rfl⟩
set_option maxRecDepth 100000 in
theorem v_X10_108 : vLk RX10 108 mX10_endReading 0 10 := ⟨nX10_endReading, (tW3 20 rfl rfl), (tW3 22 rfl rfl), (sW 4 rfl rfl), _, _, rfl⟩
set_option maxRecDepth 100000 in
theorem v_X10_117 : vLk RX10 117 mX3_copyFrom 1 3 := ⟨nX3_copyFrom, (tW3 24 rfl rfl), (tW3 25 rfl rfl), (tW3 26 rfl rfl), _, _, rfl⟩
set_option maxRecDepth 100000 in
theorem v_X10_123 : vLk RX10 123 mX10_setChanged 0 10 := ⟨nX10_setChanged, (tW3 31 rfl rfl), (tW3 33 rfl rfl), (sW 5 rfl rfl), _, _, rfl⟩
set_option maxRecDepth 100000 in
theorem v_X10_129 : vLk RX10 129 mX9_read 1 9 := ⟨nX9_read, (tW3 40 rfl rfl), (tW3 41 rfl rfl), (tW3 42 rfl rfl), _, _, rfl⟩
set_option maxRecDepth 100000 in
theorem v_X10_134 : vLk RX10 134 mX9_layInto 1 9 := ⟨nX9_layInto, (tW3 86 rfl rfl), (tW3 87 rfl rfl), (tW3 88 rfl rfl), _, _, rfl⟩
set_option maxRecDepth 100000 in
theorem v_X10_150 : vLk RX10 150 mX3_weightOf 1 3 := ⟨nX3_weightOf, (tW3 102 rfl rfl), (tW3 103 rfl rfl), (tW3 104 rfl rfl), _, _, rfl⟩
set_option maxRecDepth 100000 in
theorem v_X10_154 : vLk RX10 154 mX3_bendsOf 1 3 := ⟨nX3_bendsOf, (tW3 108 rfl rfl), (tW3 109 rfl rfl), (tW3 110 rfl rfl), _, _, rfl⟩
set_option maxRecDepth 100000 in
theorem v_X10_169 : sLk RX10 169 mX10_isGiven 1 := ⟨nX10_isGiven, (tW3 129 rfl rfl), (tW3 130 rfl rfl)⟩
set_option maxRecDepth 100000 in
theorem v_X10_179 : vLk RX10 179 mX3_strandsInAll 0 3 := ⟨nX3_strandsInAll, (tW3 136 rfl rfl), (tW3 137 rfl rfl), (tW3 138 rfl rfl), _, _, rfl⟩
set_option maxRecDepth 100000 in
theorem v_X10_189 : vLk RX10 189 mX10_isJoint 1 10 := ⟨nX10_isJoint, (tW3 144 rfl rfl), (tW3 146 rfl rfl), (sW 12 rfl rfl), _, _, rfl⟩
set_option maxRecDepth 100000 in
theorem v_X10_192 : vLk RX10 192 mX10_isTick 1 10 := ⟨nX10_isTick, (tW3 148 rfl rfl), (tW3 150 rfl rfl), (sW 13 rfl rfl), _, _, rfl⟩
set_option maxRecDepth 100000 in
theorem v_X10_195 : vLk RX10 195 mX10_theThrow 0 10 := ⟨nX10_theThrow, (tW3 152 rfl rfl), (tW3 154 rfl rfl), (sW 14 rfl rfl), _, _, rfl⟩
set_option maxRecDepth 100000 in
theorem v_X10_199 : vLk RX10 199 mX1_xOf 2 1 := ⟨nX1_xOf, (tW3 206 rfl rfl), (tW3 207 rfl rfl), (tW3 208 rfl rfl), _, _, rfl⟩
set_option maxRecDepth 100000 in
theorem v_X10_203 : vLk RX10 203 mX1_yOf 2 1 := ⟨nX1_yOf, (tW3 210 rfl rfl), (tW3 211 rfl rfl), (tW3 212 rfl rfl), _, _, rfl⟩
set_option maxRecDepth 100000 in
theorem v_X10_206 : vLk RX10 206 mX1_speedOf 2 1 := ⟨nX1_speedOf, (tW3 218 rfl rfl), (tW3 219 rfl rfl), (tW3 220 rfl rfl), _, _, rfl⟩
set_option maxRecDepth 100000 in
theorem v_X10_211 : vLk RX10 211 mX1_forceOfAll 1 1 := ⟨nX1_forceOfAll, (tW3 234 rfl rfl), (tW3 235 rfl rfl), (tW3 236 rfl rfl), _, _, rfl⟩
set_option maxRecDepth 100000 in
theorem v_X10_215 : vLk RX10 215 mX1_forceOf 2 1 := ⟨nX1_forceOf, (tW4 2 rfl rfl), (tW3 239 rfl rfl), (tW4 0 rfl rfl), _, _, rfl⟩
set_option maxRecDepth 100000 in
theorem v_X10_219 : vLk RX10 219 mX1_loopOf 1 1 := ⟨nX1_loopOf, (tW4 7 rfl rfl), (tW4 8 rfl rfl), (tW4 9 rfl rfl), _, _, rfl⟩
set_option maxRecDepth 100000 in
theorem v_X10_222 : vLk RX10 222 mX1_crackCount 0 1 := ⟨nX1_crackCount, (tW4 15 rfl rfl), (tW4 16 rfl rfl), (tW4 17 rfl rfl), _, _, rfl⟩
set_option maxRecDepth 100000 in
theorem v_X10_225 : vLk RX10 225 mX1_findCrack 1 1 := ⟨nX1_findCrack, (tW4 27 rfl rfl), (tW4 28 rfl rfl), (tW4 29 rfl rfl), _, _, rfl⟩
set_option maxRecDepth 100000 in
theorem v_X10_228 : vLk RX10 228 mX10_tellCrack 4 10 := ⟨nX10_tellCrack, (tW4 31 rfl rfl), (tW4 33 rfl rfl), (sW 25 rfl rfl), _, _, rfl⟩
set_option maxRecDepth 100000 in
theorem v_X10_232 : vLk RX10 232 mX1_turnsAbout 2 1 := ⟨nX1_turnsAbout, (tW4 56 rfl rfl), (tW4 57 rfl rfl), (tW4 58 rfl rfl), _, _, rfl⟩
set_option maxRecDepth 100000 in
theorem v_X10_235 : vLk RX10 235 mX1_firstCrackTick 0 1 := ⟨nX1_firstCrackTick, (tW4 63 rfl rfl), (tW4 64 rfl rfl), (tW4 65 rfl rfl), _, _, rfl⟩
set_option maxRecDepth 100000 in
theorem v_X10_238 : vLk RX10 238 mX1_lastCrackTick 0 1 := ⟨nX1_lastCrackTick, (tW4 71 rfl rfl), (tW4 72 rfl rfl), (tW4 73 rfl rfl), _, _, rfl⟩
set_option maxRecDepth 100000 in
theorem v_X10_241 : vLk RX10 241 mX1_isOverhead 0 1 := ⟨nX1_isOverhead, (tW4 75 rfl rfl), (tW4 76 rfl rfl), (tW4 77 rfl rfl), _, _, rfl⟩
set_option maxRecDepth 100000 in
theorem v_X10_245 : vLk RX10 245 mX1_hasLoop 0 1 := ⟨nX1_hasLoop, (tW4 79 rfl rfl), (tW4 80 rfl rfl), (tW4 81 rfl rfl), _, _, rfl⟩
set_option maxRecDepth 100000 in
theorem v_X10_248 : sLk RX10 248 mX10_isPlace 2 := ⟨nX10_isPlace, (tW4 91 rfl rfl), (tW4 92 rfl rfl)⟩
set_option maxRecDepth 100000 in
theorem v_X10_252 : vLk RX10 252 mX1_leastCrackFar 2 1 := ⟨nX1_leastCrackFar, (tW4 101 rfl rfl), (tW4 102 rfl rfl), (tW4 103 rfl rfl), _, _, rfl⟩
set_option maxRecDepth 100000 in
theorem v_X10_255 : vLk RX10 255 mX1_fly 4 1 := ⟨nX1_fly, (tW3 156 rfl rfl), (tW3 157 rfl rfl), (tW3 158 rfl rfl), _, _, rfl⟩
set_option maxRecDepth 100000 in
theorem v_X10_262 : vLk RX10 262 mX5_run 4 5 := ⟨nX5_run, (tW4 115 rfl rfl), (tW4 116 rfl rfl), (tW4 117 rfl rfl), _, _, rfl⟩
set_option maxRecDepth 100000 in
theorem v_X10_272 : vLk RX10 272 mX1_nearestTick 4 1 := ⟨nX1_nearestTick, (tW4 148 rfl rfl), (tW4 149 rfl rfl), (tW4 150 rfl rfl), _, _, rfl⟩
set_option maxRecDepth 100000 in
theorem v_X10_279 : vLk RX10 279 mX1_farOf 4 1 := ⟨nX1_farOf, (tW4 35 rfl rfl), (tW4 36 rfl rfl), (tW4 37 rfl rfl), _, _, rfl⟩
set_option maxRecDepth 100000 in
theorem v_X10_282 : vLk RX10 282 mX1_leastFar 2 1 := ⟨nX1_leastFar, (tW4 157 rfl rfl), (tW4 158 rfl rfl), (tW4 159 rfl rfl), _, _, rfl⟩
set_option maxRecDepth 100000 in
theorem v_X10_287 : vLk RX10 287 mX1_leastFarOfTwo 3 1 := ⟨nX1_leastFarOfTwo, (tW4 174 rfl rfl), (tW4 175 rfl rfl), (tW4 176 rfl rfl), _, _, rfl⟩
set_option maxRecDepth 100000 in
theorem v_X10_291 : vLk RX10 291 mX10_throwReally 0 10 := ⟨nX10_throwReally, (tW4 186 rfl rfl), (tW4 188 rfl rfl), (sW 30 rfl rfl), _, _, rfl⟩
set_option maxRecDepth 100000 in
theorem v_X10_294 : vLk RX10 294 mX2_addHide 1 2 := ⟨nX2_addHide, (tW4 208 rfl rfl), (tW4 209 rfl rfl), (tW4 210 rfl rfl), _, _, rfl⟩
set_option maxRecDepth 100000 in
theorem v_X10_297 : vLk RX10 297 mX2_addCut 1 2 := ⟨nX2_addCut, (tW4 212 rfl rfl), (tW4 213 rfl rfl), (tW4 214 rfl rfl), _, _, rfl⟩
set_option maxRecDepth 100000 in
theorem v_X10_300 : vLk RX10 300 mX2_fewest 0 2 := ⟨nX2_fewest, (tW4 224 rfl rfl), (tW4 225 rfl rfl), (tW4 226 rfl rfl), _, _, rfl⟩
set_option maxRecDepth 100000 in
theorem v_X10_303 : sLk RX10 303 mX10_isWithin 2 := ⟨nX10_isWithin, (tW4 94 rfl rfl), (tW4 95 rfl rfl)⟩
set_option maxRecDepth 100000 in
theorem v_X10_306 : vLk RX10 306 mX0_append 2 0 := ⟨nX0_append, (tW5 10 rfl rfl), (tW5 11 rfl rfl), (tW5 12 rfl rfl), _, _, rfl⟩
set_option maxRecDepth 100000 in
theorem v_X10_308 : vLk RX10 308 mX0_distance 1 0 := ⟨nX0_distance, (tW5 22 rfl rfl), (tW5 23 rfl rfl), (tW5 24 rfl rfl), _, _, rfl⟩
set_option maxRecDepth 100000 in
theorem v_X10_312 : vLk RX10 312 mX6_copyFrom 1 6 := ⟨nX6_copyFrom, (tW5 36 rfl rfl), (tW5 37 rfl rfl), (tW5 38 rfl rfl), _, _, rfl⟩
set_option maxRecDepth 100000 in
theorem v_X10_322 : vLk RX10 322 mX1_crackOf 2 1 := ⟨nX1_crackOf, (tW4 41 rfl rfl), (tW4 42 rfl rfl), (tW4 43 rfl rfl), _, _, rfl⟩
set_option maxRecDepth 100000 in
theorem v_X10_328 : sLk RX10 328 mJ9_max_7cf53 2 := ⟨nJ9_max_7cf53, (tW4 46 rfl rfl), (tW3 171 rfl rfl)⟩
set_option maxRecDepth 100000 in
theorem v_X10_333 : vLk RX10 333 mX1_loudOf 3 1 := ⟨nX1_loudOf, (tW4 47 rfl rfl), (tW4 48 rfl rfl), (tW4 49 rfl rfl), _, _, rfl⟩
set_option maxRecDepth 100000 in
theorem v_X10_337 : vLk RX10 337 mX1_pathOf 1 1 := ⟨nX1_pathOf, (tW4 190 rfl rfl), (tW4 191 rfl rfl), (tW4 192 rfl rfl), _, _, rfl⟩
set_option maxRecDepth 100000 in
theorem v_X10_343 : vLk RX10 343 mX3_loseWorn 1 3 := ⟨nX3_loseWorn, (tW4 196 rfl rfl), (tW4 197 rfl rfl), (tW4 198 rfl rfl), _, _, rfl⟩
set_option maxRecDepth 100000 in
theorem v_X10_346 : sLk RX10 346 mJ13_numberOfLeadingZeros_95d88 1 := ⟨nJ13_numberOfLeadingZeros_95d88, (tW3 177 rfl rfl), (tW3 178 rfl rfl)⟩
set_option maxRecDepth 100000 in
theorem v_X0_3 : Cond.methodLink RX0 3 objectInit ∈ aW := (tW2 54 rfl rfl)
set_option maxRecDepth 100000 in
theorem v_X0_27 : sLk RX0 27 mJ9_min_7cf53 2 := ⟨nJ9_min_7cf53, (tW5 26 rfl rfl), (tW3 115 rfl rfl)⟩
set_option maxRecDepth 100000 in
theorem v_X0_36 : vLk RX0 36 mX1_xOf 2 1 := ⟨nX1_xOf, (tW5 27 rfl rfl), (tW3 207 rfl rfl), (tW3 208 rfl rfl), _, _, rfl⟩
set_option maxRecDepth 100000 in
theorem v_X0_39 : sLk RX0 39 mJ9_abs_0f7a4 1 := ⟨nJ9_abs_0f7a4, (tW5 28 rfl rfl), (tW5 29 rfl rfl)⟩
set_option maxRecDepth 100000 in
theorem v_X0_43 : vLk RX0 43 mX1_yOf 2 1 := ⟨nX1_yOf, (tW5 31 rfl rfl), (tW3 211 rfl rfl), (tW3 212 rfl rfl), _, _, rfl⟩
set_option maxRecDepth 100000 in
theorem v_X1_3 : Cond.methodLink RX1 3 objectInit ∈ aW := (tW1 207 rfl rfl)
set_option maxRecDepth 100000 in
theorem v_X1_46 : vLk RX1 46 mX3_weightOf 1 3 := ⟨nX3_weightOf, (tW3 160 rfl rfl), (tW3 103 rfl rfl), (tW3 104 rfl rfl), _, _, rfl⟩
set_option maxRecDepth 100000 in
theorem v_X1_50 : vLk RX1 50 mX3_bendsOf 1 3 := ⟨nX3_bendsOf, (tW3 161 rfl rfl), (tW3 109 rfl rfl), (tW3 110 rfl rfl), _, _, rfl⟩
set_option maxRecDepth 100000 in
theorem v_X1_53 : vLk RX1 53 mX1_rest 0 1 := ⟨nX1_rest, (tW3 162 rfl rfl), (tW3 164 rfl rfl), (sW 15 rfl rfl), _, _, rfl⟩
set_option maxRecDepth 100000 in
theorem v_X1_58 : vLk RX1 58 mX1_goOn 3 1 := ⟨nX1_goOn, (tW3 166 rfl rfl), (tW3 168 rfl rfl), (sW 16 rfl rfl), _, _, rfl⟩
set_option maxRecDepth 100000 in
theorem v_X1_62 : vLk RX1 62 mX1_bend 1 1 := ⟨nX1_bend, (tW3 185 rfl rfl), (tW3 187 rfl rfl), (sW 17 rfl rfl), _, _, rfl⟩
set_option maxRecDepth 100000 in
theorem v_X1_66 : vLk RX1 66 mX1_pull 1 1 := ⟨nX1_pull, (tW3 190 rfl rfl), (tW3 192 rfl rfl), (sW 18 rfl rfl), _, _, rfl⟩
set_option maxRecDepth 100000 in
theorem v_X1_70 : vLk RX1 70 mX1_shorten 1 1 := ⟨nX1_shorten, (tW3 202 rfl rfl), (tW3 204 rfl rfl), (sW 21 rfl rfl), _, _, rfl⟩
set_option maxRecDepth 100000 in
theorem v_X1_73 : sLk RX1 73 mJ9_max_7cf53 2 := ⟨nJ9_max_7cf53, (tW3 170 rfl rfl), (tW3 171 rfl rfl)⟩
set_option maxRecDepth 100000 in
theorem v_X1_81 : sNk RX1 81 mX10_root 1 := ⟨nX10_root, by decide +kernel, (tW3 175 rfl rfl)⟩
set_option maxRecDepth 100000 in
theorem v_X1_87 : vLk RX1 87 mX1_lengthIfStretched 2 1 := ⟨nX1_lengthIfStretched, (tW3 194 rfl rfl), (tW3 196 rfl rfl), (sW 19 rfl rfl), _, _, rfl⟩
set_option maxRecDepth 100000 in
theorem v_X1_91 : vLk RX1 91 mX1_pullBoth 5 1 := ⟨nX1_pullBoth, (tW3 198 rfl rfl), (tW3 200 rfl rfl), (sW 20 rfl rfl), _, _, rfl⟩
set_option maxRecDepth 100000 in
theorem v_X1_95 : sLk RX1 95 mX1_squares 2 := ⟨nX1_squares, (tW3 226 rfl rfl), (tW3 227 rfl rfl)⟩
set_option maxRecDepth 100000 in
theorem v_X1_98 : vLk RX1 98 mX1_moved 2 1 := ⟨nX1_moved, (tW3 222 rfl rfl), (tW3 224 rfl rfl), (sW 22 rfl rfl), _, _, rfl⟩
set_option maxRecDepth 100000 in
theorem v_X1_102 : vLk RX1 102 mX1_forceOf 2 1 := ⟨nX1_forceOf, (tW3 238 rfl rfl), (tW3 239 rfl rfl), (tW4 0 rfl rfl), _, _, rfl⟩
set_option maxRecDepth 100000 in
theorem v_X1_105 : vLk RX1 105 mX1_speedOf 2 1 := ⟨nX1_speedOf, (tW4 51 rfl rfl), (tW3 219 rfl rfl), (tW3 220 rfl rfl), _, _, rfl⟩
set_option maxRecDepth 100000 in
theorem v_X1_108 : sLk RX1 108 mJ9_max_f86c9 2 := ⟨nJ9_max_f86c9, (tW4 132 rfl rfl), (tW4 133 rfl rfl)⟩
set_option maxRecDepth 100000 in
theorem v_X1_110 : vLk RX1 110 mX1_loopOf 1 1 := ⟨nX1_loopOf, (tW4 45 rfl rfl), (tW4 8 rfl rfl), (tW4 9 rfl rfl), _, _, rfl⟩
set_option maxRecDepth 100000 in
theorem v_X1_113 : vLk RX1 113 mX1_yOf 2 1 := ⟨nX1_yOf, (tW4 40 rfl rfl), (tW3 211 rfl rfl), (tW3 212 rfl rfl), _, _, rfl⟩
set_option maxRecDepth 100000 in
theorem v_X1_116 : vLk RX1 116 mX1_isFast 2 1 := ⟨nX1_isFast, (tW4 23 rfl rfl), (tW4 25 rfl rfl), (sW 24 rfl rfl), _, _, rfl⟩
set_option maxRecDepth 100000 in
theorem v_X1_120 : vLk RX1 120 mX1_isCrack 2 1 := ⟨nX1_isCrack, (tW4 19 rfl rfl), (tW4 21 rfl rfl), (sW 23 rfl rfl), _, _, rfl⟩
set_option maxRecDepth 100000 in
theorem v_X1_123 : vLk RX1 123 mX1_hasCrack 1 1 := ⟨nX1_hasCrack, (tW4 67 rfl rfl), (tW4 69 rfl rfl), (sW 26 rfl rfl), _, _, rfl⟩
set_option maxRecDepth 100000 in
theorem v_X1_126 : vLk RX1 126 mX1_xOf 2 1 := ⟨nX1_xOf, (tW4 39 rfl rfl), (tW3 207 rfl rfl), (tW3 208 rfl rfl), _, _, rfl⟩
set_option maxRecDepth 100000 in
theorem v_X1_129 : vLk RX1 129 mX1_farOf 4 1 := ⟨nX1_farOf, (tW4 105 rfl rfl), (tW4 36 rfl rfl), (tW4 37 rfl rfl), _, _, rfl⟩
set_option maxRecDepth 100000 in
theorem v_X1_133 : sLk RX1 133 mJ9_min_7cf53 2 := ⟨nJ9_min_7cf53, (tW4 106 rfl rfl), (tW3 115 rfl rfl)⟩
set_option maxRecDepth 100000 in
theorem v_X1_138 : sLk RX1 138 mJ9_min_f86c9 2 := ⟨nJ9_min_f86c9, (tW4 162 rfl rfl), (tW4 163 rfl rfl)⟩
set_option maxRecDepth 100000 in
theorem v_X1_141 : sLk RX1 141 mX1_quarterOf 3 := ⟨nX1_quarterOf, (tW4 60 rfl rfl), (tW4 61 rfl rfl)⟩
set_option maxRecDepth 100000 in
theorem v_X2_3 : Cond.methodLink RX2 3 objectInit ∈ aW := (tW2 30 rfl rfl)
set_option maxRecDepth 100000 in
theorem v_X2_28 : sLk RX2 28 mJ6_bitCount_0f7a4 1 := ⟨nJ6_bitCount_0f7a4, (tW4 228 rfl rfl), (tW4 229 rfl rfl)⟩
set_option maxRecDepth 100000 in
theorem v_X2_34 : vLk RX2 34 mX2_isEnough 1 2 := ⟨nX2_isEnough, (tW4 234 rfl rfl), (tW4 236 rfl rfl), (sW 31 rfl rfl), _, _, rfl⟩
set_option maxRecDepth 100000 in
theorem v_X2_38 : vLk RX2 38 mX2_afterCut 3 2 := ⟨nX2_afterCut, (tW4 238 rfl rfl), (tW5 0 rfl rfl), (sW 32 rfl rfl), _, _, rfl⟩
set_option maxRecDepth 100000 in
theorem v_X2_42 : vLk RX2 42 mX2_keepLeast 2 2 := ⟨nX2_keepLeast, (tW5 2 rfl rfl), (tW5 4 rfl rfl), (sW 33 rfl rfl), _, _, rfl⟩
set_option maxRecDepth 100000 in
theorem v_X3_3 : Cond.methodLink RX3 3 objectInit ∈ aW := (tW1 40 rfl rfl)
set_option maxRecDepth 100000 in
theorem v_X3_28 : Cond.methodLink RX3 28 arraycopyName ∈ aW := (tW3 28 rfl rfl)
set_option maxRecDepth 100000 in
theorem v_X3_40 : sLk RX3 40 mJ9_min_7cf53 2 := ⟨nJ9_min_7cf53, (tW3 114 rfl rfl), (tW3 115 rfl rfl)⟩
set_option maxRecDepth 100000 in
theorem v_X4_3 : Cond.methodLink RX4 3 objectInit ∈ aW := (tW1 154 rfl rfl)
set_option maxRecDepth 100000 in
theorem v_X4_11 : iNk RX4 11 mX3_init 0 := ⟨nX3_init, by decide +kernel, (tW1 38 rfl rfl), rfl, rfl⟩
set_option maxRecDepth 100000 in
theorem v_X4_22 : vLk RX4 22 mX7_begin 0 7 := ⟨nX7_begin, (tW2 138 rfl rfl), (tW2 139 rfl rfl), (tW2 140 rfl rfl), _, _, rfl⟩
set_option maxRecDepth 100000 in
theorem v_X4_34 : vLk RX4 34 mX7_isFine 0 7 := ⟨nX7_isFine, (tW2 142 rfl rfl), (tW2 143 rfl rfl), (tW2 144 rfl rfl), _, _, rfl⟩
set_option maxRecDepth 100000 in
theorem v_X4_38 : vLk RX4 38 mX7_next 0 7 := ⟨nX7_next, (tW2 146 rfl rfl), (tW2 147 rfl rfl), (tW2 148 rfl rfl), _, _, rfl⟩
set_option maxRecDepth 100000 in
theorem v_X4_42 : vLk RX4 42 mX4_readClause 1 4 := ⟨nX4_readClause, (tW2 150 rfl rfl), (tW2 152 rfl rfl), (sW 0 rfl rfl), _, _, rfl⟩
set_option maxRecDepth 100000 in
theorem v_X4_49 : vLk RX4 49 mX7_blame 2 7 := ⟨nX7_blame, (tW2 235 rfl rfl), (tW2 232 rfl rfl), (tW2 233 rfl rfl), _, _, rfl⟩
set_option maxRecDepth 100000 in
theorem v_X4_55 : vLk RX4 55 mX7_takesWord 1 7 := ⟨nX7_takesWord, (tW2 155 rfl rfl), (tW2 156 rfl rfl), (tW2 157 rfl rfl), _, _, rfl⟩
set_option maxRecDepth 100000 in
theorem v_X4_59 : vLk RX4 59 mX4_readPieces 1 4 := ⟨nX4_readPieces, (tW2 215 rfl rfl), (tW2 217 rfl rfl), (sW 1 rfl rfl), _, _, rfl⟩
set_option maxRecDepth 100000 in
theorem v_X4_63 : vLk RX4 63 mX7_isWord 1 7 := ⟨nX7_isWord, (tW3 15 rfl rfl), (tW2 160 rfl rfl), (tW2 161 rfl rfl), _, _, rfl⟩
set_option maxRecDepth 100000 in
theorem v_X4_66 : vLk RX4 66 mX4_readLength 1 4 := ⟨nX4_readLength, (tW3 16 rfl rfl), (tW3 18 rfl rfl), (sW 3 rfl rfl), _, _, rfl⟩
set_option maxRecDepth 100000 in
theorem v_X4_72 : vLk RX4 72 mX7_needWord 1 7 := ⟨nX7_needWord, (tW2 237 rfl rfl), (tW2 238 rfl rfl), (tW2 239 rfl rfl), _, _, rfl⟩
set_option maxRecDepth 100000 in
theorem v_X4_76 : vLk RX4 76 mX7_needNumber 2 7 := ⟨nX7_needNumber, (tW2 219 rfl rfl), (tW2 220 rfl rfl), (tW2 221 rfl rfl), _, _, rfl⟩
set_option maxRecDepth 100000 in
theorem v_X4_80 : vLk RX4 80 mX7_needSign 1 7 := ⟨nX7_needSign, (tW3 2 rfl rfl), (tW3 3 rfl rfl), (tW3 4 rfl rfl), _, _, rfl⟩
set_option maxRecDepth 100000 in
theorem v_X4_94 : vLk RX4 94 mX3_addPieces 3 3 := ⟨nX3_addPieces, (tW3 10 rfl rfl), (tW3 11 rfl rfl), (tW3 12 rfl rfl), _, _, rfl⟩
set_option maxRecDepth 100000 in
theorem v_X5_3 : Cond.methodLink RX5 3 objectInit ∈ aW := (tW2 3 rfl rfl)
set_option maxRecDepth 100000 in
theorem v_X5_27 : iNk RX5 27 mX3_init 0 := ⟨nX3_init, by decide +kernel, (tW1 38 rfl rfl), rfl, rfl⟩
set_option maxRecDepth 100000 in
theorem v_X5_35 : vLk RX5 35 mX3_copyFrom 1 3 := ⟨nX3_copyFrom, (tW4 119 rfl rfl), (tW3 25 rfl rfl), (tW3 26 rfl rfl), _, _, rfl⟩
set_option maxRecDepth 100000 in
theorem v_X5_42 : vLk RX5 42 mX5_layRow 0 5 := ⟨nX5_layRow, (tW4 120 rfl rfl), (tW4 122 rfl rfl), (sW 27 rfl rfl), _, _, rfl⟩
set_option maxRecDepth 100000 in
theorem v_X5_45 : vLk RX5 45 mX3_strandsInAll 0 3 := ⟨nX3_strandsInAll, (tW4 126 rfl rfl), (tW3 137 rfl rfl), (tW3 138 rfl rfl), _, _, rfl⟩
set_option maxRecDepth 100000 in
theorem v_X5_56 : vLk RX5 56 mX1_fly 4 1 := ⟨nX1_fly, (tW4 127 rfl rfl), (tW3 157 rfl rfl), (tW3 158 rfl rfl), _, _, rfl⟩
set_option maxRecDepth 100000 in
theorem v_X5_62 : vLk RX5 62 mX1_greatestSpeed 0 1 := ⟨nX1_greatestSpeed, (tW4 128 rfl rfl), (tW4 129 rfl rfl), (tW4 130 rfl rfl), _, _, rfl⟩
set_option maxRecDepth 100000 in
theorem v_X5_65 : vLk RX5 65 mX5_compare 1 5 := ⟨nX5_compare, (tW4 135 rfl rfl), (tW4 137 rfl rfl), (sW 28 rfl rfl), _, _, rfl⟩
set_option maxRecDepth 100000 in
theorem v_X5_69 : vLk RX5 69 mX5_nextRow 0 5 := ⟨nX5_nextRow, (tW4 140 rfl rfl), (tW4 142 rfl rfl), (sW 29 rfl rfl), _, _, rfl⟩
set_option maxRecDepth 100000 in
theorem v_X5_79 : Cond.methodLink RX5 79 arraycopyName ∈ aW := (tW4 139 rfl rfl)
set_option maxRecDepth 100000 in
theorem v_X6_3 : Cond.methodLink RX6 3 objectInit ∈ aW := (tW1 34 rfl rfl)
set_option maxRecDepth 100000 in
theorem v_X6_11 : iNk RX6 11 mX3_init 0 := ⟨nX3_init, by decide +kernel, (tW1 38 rfl rfl), rfl, rfl⟩
set_option maxRecDepth 100000 in
theorem v_X6_20 : iNk RX6 20 mX8_init 0 := ⟨nX8_init, by decide +kernel, (tW1 73 rfl rfl), rfl, rfl⟩
set_option maxRecDepth 100000 in
theorem v_X6_33 : vLk RX6 33 mX3_copyFrom 1 3 := ⟨nX3_copyFrom, (tW5 40 rfl rfl), (tW3 25 rfl rfl), (tW3 26 rfl rfl), _, _, rfl⟩
set_option maxRecDepth 100000 in
theorem v_X6_37 : vLk RX6 37 mX8_copyFrom 1 8 := ⟨nX8_copyFrom, (tW5 41 rfl rfl), (tW5 42 rfl rfl), (tW5 43 rfl rfl), _, _, rfl⟩
set_option maxRecDepth 100000 in
theorem v_X6_40 : Cond.methodLink RX6 40 arraycopyName ∈ aW := (tW5 46 rfl rfl)
set_option maxRecDepth 100000 in
theorem v_X7_3 : Cond.methodLink RX7 3 objectInit ∈ aW := (tW1 121 rfl rfl)
set_option maxRecDepth 100000 in
theorem v_X7_33 : vLk RX7 33 mX7_next 0 7 := ⟨nX7_next, (tW2 163 rfl rfl), (tW2 147 rfl rfl), (tW2 148 rfl rfl), _, _, rfl⟩
set_option maxRecDepth 100000 in
theorem v_X7_37 : vLk RX7 37 mX7_isFine 0 7 := ⟨nX7_isFine, (tW2 223 rfl rfl), (tW2 143 rfl rfl), (tW2 144 rfl rfl), _, _, rfl⟩
set_option maxRecDepth 100000 in
theorem v_X7_41 : vLk RX7 41 mX7_takesSign 1 7 := ⟨nX7_takesSign, (tW3 6 rfl rfl), (tW3 7 rfl rfl), (tW3 8 rfl rfl), _, _, rfl⟩
set_option maxRecDepth 100000 in
theorem v_X7_45 : vLk RX7 45 mX7_blame 2 7 := ⟨nX7_blame, (tW2 231 rfl rfl), (tW2 232 rfl rfl), (tW2 233 rfl rfl), _, _, rfl⟩
set_option maxRecDepth 100000 in
theorem v_X7_49 : tLk RX7 49 mJ0_length_8abf5 0 := ⟨nJ0_length_8abf5, (tW2 164 rfl rfl), (tW2 165 rfl rfl), (tW2 166 rfl rfl)⟩
set_option maxRecDepth 100000 in
theorem v_X7_54 : sLk RX7 54 mX7_isLetter 1 := ⟨nX7_isLetter, (tW2 174 rfl rfl), (tW2 175 rfl rfl)⟩
set_option maxRecDepth 100000 in
theorem v_X7_58 : tLk RX7 58 mJ0_charAt_5068e 1 := ⟨nJ0_charAt_5068e, (tW2 177 rfl rfl), (tW2 178 rfl rfl), (tW2 179 rfl rfl)⟩
set_option maxRecDepth 100000 in
theorem v_X7_62 : vLk RX7 62 mX7_isWord 1 7 := ⟨nX7_isWord, (tW2 159 rfl rfl), (tW2 160 rfl rfl), (tW2 161 rfl rfl), _, _, rfl⟩
set_option maxRecDepth 100000 in
theorem v_X7_66 : vLk RX7 66 mX7_readFigures 2 7 := ⟨nX7_readFigures, (tW2 224 rfl rfl), (tW2 226 rfl rfl), (sW 2 rfl rfl), _, _, rfl⟩
set_option maxRecDepth 100000 in
theorem v_X7_70 : sLk RX7 70 mX7_isFigure 1 := ⟨nX7_isFigure, (tW2 228 rfl rfl), (tW2 229 rfl rfl)⟩
set_option maxRecDepth 100000 in
theorem v_X8_3 : Cond.methodLink RX8 3 objectInit ∈ aW := (tW1 75 rfl rfl)
set_option maxRecDepth 100000 in
theorem v_X8_25 : Cond.methodLink RX8 25 arraycopyName ∈ aW := (tW5 45 rfl rfl)
set_option maxRecDepth 100000 in
theorem v_X9_3 : Cond.methodLink RX9 3 objectInit ∈ aW := (tW1 170 rfl rfl)
set_option maxRecDepth 100000 in
theorem v_X9_44 : vLk RX9 44 mX7_begin 0 7 := ⟨nX7_begin, (tW3 44 rfl rfl), (tW2 139 rfl rfl), (tW2 140 rfl rfl), _, _, rfl⟩
set_option maxRecDepth 100000 in
theorem v_X9_49 : vLk RX9 49 mX7_isFine 0 7 := ⟨nX7_isFine, (tW3 45 rfl rfl), (tW2 143 rfl rfl), (tW2 144 rfl rfl), _, _, rfl⟩
set_option maxRecDepth 100000 in
theorem v_X9_53 : vLk RX9 53 mX7_next 0 7 := ⟨nX7_next, (tW3 46 rfl rfl), (tW2 147 rfl rfl), (tW2 148 rfl rfl), _, _, rfl⟩
set_option maxRecDepth 100000 in
theorem v_X9_57 : vLk RX9 57 mX9_readPart 1 9 := ⟨nX9_readPart, (tW3 47 rfl rfl), (tW3 49 rfl rfl), (sW 6 rfl rfl), _, _, rfl⟩
set_option maxRecDepth 100000 in
theorem v_X9_64 : vLk RX9 64 mX7_blame 2 7 := ⟨nX7_blame, (tW3 76 rfl rfl), (tW2 232 rfl rfl), (tW2 233 rfl rfl), _, _, rfl⟩
set_option maxRecDepth 100000 in
theorem v_X9_72 : vLk RX9 72 mX8_addStep 3 8 := ⟨nX8_addStep, (tW3 90 rfl rfl), (tW3 91 rfl rfl), (tW3 92 rfl rfl), _, _, rfl⟩
set_option maxRecDepth 100000 in
theorem v_X9_78 : vLk RX9 78 mX7_takesWord 1 7 := ⟨nX7_takesWord, (tW3 52 rfl rfl), (tW2 156 rfl rfl), (tW2 157 rfl rfl), _, _, rfl⟩
set_option maxRecDepth 100000 in
theorem v_X9_82 : vLk RX9 82 mX9_readGo 1 9 := ⟨nX9_readGo, (tW3 53 rfl rfl), (tW3 55 rfl rfl), (sW 7 rfl rfl), _, _, rfl⟩
set_option maxRecDepth 100000 in
theorem v_X9_87 : vLk RX9 87 mX7_needNumber 2 7 := ⟨nX7_needNumber, (tW3 63 rfl rfl), (tW2 220 rfl rfl), (tW2 221 rfl rfl), _, _, rfl⟩
set_option maxRecDepth 100000 in
theorem v_X9_91 : vLk RX9 91 mX9_addStep 3 9 := ⟨nX9_addStep, (tW3 64 rfl rfl), (tW3 66 rfl rfl), (sW 8 rfl rfl), _, _, rfl⟩
set_option maxRecDepth 100000 in
theorem v_X9_92 : vLk RX9 92 mX7_needSign 1 7 := ⟨nX7_needSign, (tW3 68 rfl rfl), (tW3 3 rfl rfl), (tW3 4 rfl rfl), _, _, rfl⟩
set_option maxRecDepth 100000 in
theorem v_X9_97 : vLk RX9 97 mX7_isWord 1 7 := ⟨nX7_isWord, (tW3 71 rfl rfl), (tW2 160 rfl rfl), (tW2 161 rfl rfl), _, _, rfl⟩
set_option maxRecDepth 100000 in
theorem v_X9_100 : vLk RX9 100 mX9_openTimes 1 9 := ⟨nX9_openTimes, (tW3 72 rfl rfl), (tW3 74 rfl rfl), (sW 9 rfl rfl), _, _, rfl⟩
set_option maxRecDepth 100000 in
theorem v_X9_103 : vLk RX9 103 mX7_takesSign 1 7 := ⟨nX7_takesSign, (tW3 77 rfl rfl), (tW3 7 rfl rfl), (tW3 8 rfl rfl), _, _, rfl⟩
set_option maxRecDepth 100000 in
theorem v_X9_107 : vLk RX9 107 mX9_closeTimes 0 9 := ⟨nX9_closeTimes, (tW3 78 rfl rfl), (tW3 80 rfl rfl), (sW 10 rfl rfl), _, _, rfl⟩
set_option maxRecDepth 100000 in
theorem v_X9_113 : vLk RX9 113 mX7_needMove 0 7 := ⟨nX7_needMove, (tW3 57 rfl rfl), (tW3 58 rfl rfl), (tW3 59 rfl rfl), _, _, rfl⟩
set_option maxRecDepth 100000 in
theorem v_X9_118 : vLk RX9 118 mX7_needWord 1 7 := ⟨nX7_needWord, (tW3 62 rfl rfl), (tW2 238 rfl rfl), (tW2 239 rfl rfl), _, _, rfl⟩
set_option maxRecDepth 100000 in
theorem v_X9_122 : vLk RX9 122 mX9_copyStep 1 9 := ⟨nX9_copyStep, (tW3 82 rfl rfl), (tW3 84 rfl rfl), (sW 11 rfl rfl), _, _, rfl⟩
set_option maxRecDepth 100000 in
theorem v_L_9 : iLk RL 9 mX10_init 0 := ⟨nX10_init, (tW1 23 rfl rfl), (tW1 24 rfl rfl), rfl, rfl⟩
set_option maxRecDepth 100000 in
theorem v_L_12 : iLk RL 12 mX11_init 0 := ⟨nX11_init, (tW5 53 rfl rfl), (tW5 54 rfl rfl), rfl, rfl⟩
set_option maxRecDepth 100000 in
theorem v_L_15 : vLk RL 15 mX10_feed 2 10 := ⟨nX10_feed, (tW2 121 rfl rfl), (tW2 122 rfl rfl), (tW2 123 rfl rfl), _, _, rfl⟩
set_option maxRecDepth 100000 in
theorem v_L_19 : vLk RL 19 mX11_feed 2 11 := ⟨nX11_feed, (tW6 0 rfl rfl), (tW6 1 rfl rfl), (tW6 2 rfl rfl), _, _, rfl⟩
set_option maxRecDepth 100000 in
theorem v_L_20 : vLk RL 20 mX10_plait 0 10 := ⟨nX10_plait, (tW2 130 rfl rfl), (tW2 131 rfl rfl), (tW2 132 rfl rfl), _, _, rfl⟩
set_option maxRecDepth 100000 in
theorem v_L_24 : vLk RL 24 mX11_plait 0 11 := ⟨nX11_plait, (tW6 9 rfl rfl), (tW6 10 rfl rfl), (tW6 11 rfl rfl), _, _, rfl⟩
set_option maxRecDepth 100000 in
theorem v_L_25 : vLk RL 25 mX10_way 0 10 := ⟨nX10_way, (tW3 36 rfl rfl), (tW3 37 rfl rfl), (tW3 38 rfl rfl), _, _, rfl⟩
set_option maxRecDepth 100000 in
theorem v_L_28 : vLk RL 28 mX11_way 0 11 := ⟨nX11_way, (tW6 52 rfl rfl), (tW6 53 rfl rfl), (tW6 54 rfl rfl), _, _, rfl⟩
set_option maxRecDepth 100000 in
theorem v_L_29 : vLk RL 29 mX10_fault 0 10 := ⟨nX10_fault, (tW3 94 rfl rfl), (tW3 95 rfl rfl), (tW3 96 rfl rfl), _, _, rfl⟩
set_option maxRecDepth 100000 in
theorem v_L_32 : vLk RL 32 mX11_fault 0 11 := ⟨nX11_fault, (tW6 72 rfl rfl), (tW6 73 rfl rfl), (tW6 74 rfl rfl), _, _, rfl⟩
set_option maxRecDepth 100000 in
theorem v_L_33 : vLk RL 33 mX10_piece 2 10 := ⟨nX10_piece, (tW3 98 rfl rfl), (tW3 99 rfl rfl), (tW3 100 rfl rfl), _, _, rfl⟩
set_option maxRecDepth 100000 in
theorem v_L_37 : vLk RL 37 mX11_piece 2 11 := ⟨nX11_piece, (tW6 76 rfl rfl), (tW6 77 rfl rfl), (tW6 78 rfl rfl), _, _, rfl⟩
set_option maxRecDepth 100000 in
theorem v_L_38 : vLk RL 38 mX10_law 2 10 := ⟨nX10_law, (tW3 117 rfl rfl), (tW3 118 rfl rfl), (tW3 119 rfl rfl), _, _, rfl⟩
set_option maxRecDepth 100000 in
theorem v_L_41 : vLk RL 41 mX11_law 2 11 := ⟨nX11_law, (tW6 94 rfl rfl), (tW6 95 rfl rfl), (tW6 96 rfl rfl), _, _, rfl⟩
set_option maxRecDepth 100000 in
theorem v_L_42 : vLk RL 42 mX10_give 1 10 := ⟨nX10_give, (tW3 125 rfl rfl), (tW3 126 rfl rfl), (tW3 127 rfl rfl), _, _, rfl⟩
set_option maxRecDepth 100000 in
theorem v_L_46 : vLk RL 46 mX11_give 1 11 := ⟨nX11_give, (tW6 102 rfl rfl), (tW6 103 rfl rfl), (tW6 104 rfl rfl), _, _, rfl⟩
set_option maxRecDepth 100000 in
theorem v_L_47 : vLk RL 47 mX10_count 1 10 := ⟨nX10_count, (tW3 132 rfl rfl), (tW3 133 rfl rfl), (tW3 134 rfl rfl), _, _, rfl⟩
set_option maxRecDepth 100000 in
theorem v_L_50 : vLk RL 50 mX11_count 1 11 := ⟨nX11_count, (tW6 108 rfl rfl), (tW6 109 rfl rfl), (tW6 110 rfl rfl), _, _, rfl⟩
set_option maxRecDepth 100000 in
theorem v_L_51 : vLk RL 51 mX10_joint 3 10 := ⟨nX10_joint, (tW3 140 rfl rfl), (tW3 141 rfl rfl), (tW3 142 rfl rfl), _, _, rfl⟩
set_option maxRecDepth 100000 in
theorem v_L_55 : vLk RL 55 mX11_joint 3 11 := ⟨nX11_joint, (tW6 116 rfl rfl), (tW6 117 rfl rfl), (tW6 118 rfl rfl), _, _, rfl⟩
set_option maxRecDepth 100000 in
theorem v_L_56 : vLk RL 56 mX10_speed 2 10 := ⟨nX10_speed, (tW3 214 rfl rfl), (tW3 215 rfl rfl), (tW3 216 rfl rfl), _, _, rfl⟩
set_option maxRecDepth 100000 in
theorem v_L_59 : vLk RL 59 mX11_speed 2 11 := ⟨nX11_speed, (tW6 156 rfl rfl), (tW6 157 rfl rfl), (tW6 158 rfl rfl), _, _, rfl⟩
set_option maxRecDepth 100000 in
theorem v_L_60 : vLk RL 60 mX10_force 2 10 := ⟨nX10_force, (tW3 229 rfl rfl), (tW3 230 rfl rfl), (tW3 231 rfl rfl), _, _, rfl⟩
set_option maxRecDepth 100000 in
theorem v_L_64 : vLk RL 64 mX11_force 2 11 := ⟨nX11_force, (tW6 164 rfl rfl), (tW6 165 rfl rfl), (tW6 166 rfl rfl), _, _, rfl⟩
set_option maxRecDepth 100000 in
theorem v_L_65 : vLk RL 65 mX10_loop 1 10 := ⟨nX10_loop, (tW4 3 rfl rfl), (tW4 4 rfl rfl), (tW4 5 rfl rfl), _, _, rfl⟩
set_option maxRecDepth 100000 in
theorem v_L_68 : vLk RL 68 mX11_loop 1 11 := ⟨nX11_loop, (tW6 173 rfl rfl), (tW6 174 rfl rfl), (tW6 175 rfl rfl), _, _, rfl⟩
set_option maxRecDepth 100000 in
theorem v_L_69 : vLk RL 69 mX10_crack 2 10 := ⟨nX10_crack, (tW4 11 rfl rfl), (tW4 12 rfl rfl), (tW4 13 rfl rfl), _, _, rfl⟩
set_option maxRecDepth 100000 in
theorem v_L_72 : vLk RL 72 mX11_crack 2 11 := ⟨nX11_crack, (tW6 181 rfl rfl), (tW6 182 rfl rfl), (tW6 183 rfl rfl), _, _, rfl⟩
set_option maxRecDepth 100000 in
theorem v_L_73 : vLk RL 73 mX10_kind 0 10 := ⟨nX10_kind, (tW4 52 rfl rfl), (tW4 53 rfl rfl), (tW4 54 rfl rfl), _, _, rfl⟩
set_option maxRecDepth 100000 in
theorem v_L_76 : vLk RL 76 mX11_kind 0 11 := ⟨nX11_kind, (tW6 198 rfl rfl), (tW6 199 rfl rfl), (tW6 200 rfl rfl), _, _, rfl⟩
set_option maxRecDepth 100000 in
theorem v_L_77 : vLk RL 77 mX10_turns 0 10 := ⟨nX10_turns, (tW4 83 rfl rfl), (tW4 84 rfl rfl), (tW4 85 rfl rfl), _, _, rfl⟩
set_option maxRecDepth 100000 in
theorem v_L_80 : vLk RL 80 mX11_turns 0 11 := ⟨nX11_turns, (tW6 217 rfl rfl), (tW6 218 rfl rfl), (tW6 219 rfl rfl), _, _, rfl⟩
set_option maxRecDepth 100000 in
theorem v_L_81 : vLk RL 81 mX10_put 3 10 := ⟨nX10_put, (tW4 87 rfl rfl), (tW4 88 rfl rfl), (tW4 89 rfl rfl), _, _, rfl⟩
set_option maxRecDepth 100000 in
theorem v_L_84 : vLk RL 84 mX11_put 3 11 := ⟨nX11_put, (tW6 221 rfl rfl), (tW6 222 rfl rfl), (tW6 223 rfl rfl), _, _, rfl⟩
set_option maxRecDepth 100000 in
theorem v_L_85 : vLk RL 85 mX10_near 0 10 := ⟨nX10_near, (tW4 97 rfl rfl), (tW4 98 rfl rfl), (tW4 99 rfl rfl), _, _, rfl⟩
set_option maxRecDepth 100000 in
theorem v_L_88 : vLk RL 88 mX11_near 0 11 := ⟨nX11_near, (tW6 230 rfl rfl), (tW6 231 rfl rfl), (tW6 232 rfl rfl), _, _, rfl⟩
set_option maxRecDepth 100000 in
theorem v_L_89 : vLk RL 89 mX10_leastHand 0 10 := ⟨nX10_leastHand, (tW4 107 rfl rfl), (tW4 108 rfl rfl), (tW4 109 rfl rfl), _, _, rfl⟩
set_option maxRecDepth 100000 in
theorem v_L_92 : vLk RL 92 mX11_leastHand 0 11 := ⟨nX11_leastHand, (tW6 234 rfl rfl), (tW6 235 rfl rfl), (tW6 236 rfl rfl), _, _, rfl⟩
set_option maxRecDepth 100000 in
theorem v_L_93 : vLk RL 93 mX10_loudest 2 10 := ⟨nX10_loudest, (tW4 111 rfl rfl), (tW4 112 rfl rfl), (tW4 113 rfl rfl), _, _, rfl⟩
set_option maxRecDepth 100000 in
theorem v_L_96 : vLk RL 96 mX11_loudest 2 11 := ⟨nX11_loudest, (tW6 238 rfl rfl), (tW6 239 rfl rfl), (tW7 0 rfl rfl), _, _, rfl⟩
set_option maxRecDepth 100000 in
theorem v_L_97 : vLk RL 97 mX10_aim 5 10 := ⟨nX10_aim, (tW4 144 rfl rfl), (tW4 145 rfl rfl), (tW4 146 rfl rfl), _, _, rfl⟩
set_option maxRecDepth 100000 in
theorem v_L_101 : vLk RL 101 mX11_aim 5 11 := ⟨nX11_aim, (tW7 11 rfl rfl), (tW7 12 rfl rfl), (tW7 13 rfl rfl), _, _, rfl⟩
set_option maxRecDepth 100000 in
theorem v_L_102 : vLk RL 102 mX10_alone 2 10 := ⟨nX10_alone, (tW4 153 rfl rfl), (tW4 154 rfl rfl), (tW4 155 rfl rfl), _, _, rfl⟩
set_option maxRecDepth 100000 in
theorem v_L_105 : vLk RL 105 mX11_alone 2 11 := ⟨nX11_alone, (tW7 19 rfl rfl), (tW7 20 rfl rfl), (tW7 21 rfl rfl), _, _, rfl⟩
set_option maxRecDepth 100000 in
theorem v_L_106 : vLk RL 106 mX10_bestAim 3 10 := ⟨nX10_bestAim, (tW4 165 rfl rfl), (tW4 166 rfl rfl), (tW4 167 rfl rfl), _, _, rfl⟩
set_option maxRecDepth 100000 in
theorem v_L_109 : vLk RL 109 mX11_bestAim 3 11 := ⟨nX11_bestAim, (tW7 27 rfl rfl), (tW7 28 rfl rfl), (tW7 29 rfl rfl), _, _, rfl⟩
set_option maxRecDepth 100000 in
theorem v_L_110 : vLk RL 110 mX10_close 3 10 := ⟨nX10_close, (tW4 170 rfl rfl), (tW4 171 rfl rfl), (tW4 172 rfl rfl), _, _, rfl⟩
set_option maxRecDepth 100000 in
theorem v_L_113 : vLk RL 113 mX11_close 3 11 := ⟨nX11_close, (tW7 32 rfl rfl), (tW7 33 rfl rfl), (tW7 34 rfl rfl), _, _, rfl⟩
set_option maxRecDepth 100000 in
theorem v_L_114 : vLk RL 114 mX10_rhythm 4 10 := ⟨nX10_rhythm, (tW4 178 rfl rfl), (tW4 179 rfl rfl), (tW4 180 rfl rfl), _, _, rfl⟩
set_option maxRecDepth 100000 in
theorem v_L_118 : vLk RL 118 mX11_rhythm 4 11 := ⟨nX11_rhythm, (tW7 49 rfl rfl), (tW7 50 rfl rfl), (tW7 51 rfl rfl), _, _, rfl⟩
set_option maxRecDepth 100000 in
theorem v_L_119 : vLk RL 119 mX10_crackOn 0 10 := ⟨nX10_crackOn, (tW4 182 rfl rfl), (tW4 183 rfl rfl), (tW4 184 rfl rfl), _, _, rfl⟩
set_option maxRecDepth 100000 in
theorem v_L_122 : vLk RL 122 mX11_crackOn 0 11 := ⟨nX11_crackOn, (tW7 55 rfl rfl), (tW7 56 rfl rfl), (tW7 57 rfl rfl), _, _, rfl⟩
set_option maxRecDepth 100000 in
theorem v_L_123 : vLk RL 123 mX10_evening 1 10 := ⟨nX10_evening, (tW4 200 rfl rfl), (tW4 201 rfl rfl), (tW4 202 rfl rfl), _, _, rfl⟩
set_option maxRecDepth 100000 in
theorem v_L_126 : vLk RL 126 mX11_evening 1 11 := ⟨nX11_evening, (tW7 67 rfl rfl), (tW7 68 rfl rfl), (tW7 69 rfl rfl), _, _, rfl⟩
set_option maxRecDepth 100000 in
theorem v_L_127 : vLk RL 127 mX10_lay 2 10 := ⟨nX10_lay, (tW4 204 rfl rfl), (tW4 205 rfl rfl), (tW4 206 rfl rfl), _, _, rfl⟩
set_option maxRecDepth 100000 in
theorem v_L_130 : vLk RL 130 mX11_lay 2 11 := ⟨nX11_lay, (tW7 72 rfl rfl), (tW7 73 rfl rfl), (tW7 74 rfl rfl), _, _, rfl⟩
set_option maxRecDepth 100000 in
theorem v_L_131 : vLk RL 131 mX10_clear 0 10 := ⟨nX10_clear, (tW4 216 rfl rfl), (tW4 217 rfl rfl), (tW4 218 rfl rfl), _, _, rfl⟩
set_option maxRecDepth 100000 in
theorem v_L_134 : vLk RL 134 mX11_clear 0 11 := ⟨nX11_clear, (tW7 77 rfl rfl), (tW7 78 rfl rfl), (tW7 79 rfl rfl), _, _, rfl⟩
set_option maxRecDepth 100000 in
theorem v_L_135 : vLk RL 135 mX10_cut 0 10 := ⟨nX10_cut, (tW4 220 rfl rfl), (tW4 221 rfl rfl), (tW4 222 rfl rfl), _, _, rfl⟩
set_option maxRecDepth 100000 in
theorem v_L_138 : vLk RL 138 mX11_cut 0 11 := ⟨nX11_cut, (tW7 81 rfl rfl), (tW7 82 rfl rfl), (tW7 83 rfl rfl), _, _, rfl⟩
set_option maxRecDepth 100000 in
theorem v_L_139 : vLk RL 139 mX10_film 2 10 := ⟨nX10_film, (tW5 6 rfl rfl), (tW5 7 rfl rfl), (tW5 8 rfl rfl), _, _, rfl⟩
set_option maxRecDepth 100000 in
theorem v_L_142 : vLk RL 142 mX11_film 2 11 := ⟨nX11_film, (tW7 96 rfl rfl), (tW7 97 rfl rfl), (tW7 98 rfl rfl), _, _, rfl⟩
set_option maxRecDepth 100000 in
theorem v_L_143 : vLk RL 143 mX10_blank 0 10 := ⟨nX10_blank, (tW5 14 rfl rfl), (tW5 15 rfl rfl), (tW5 16 rfl rfl), _, _, rfl⟩
set_option maxRecDepth 100000 in
theorem v_L_146 : vLk RL 146 mX11_blank 0 11 := ⟨nX11_blank, (tW7 101 rfl rfl), (tW7 102 rfl rfl), (tW7 103 rfl rfl), _, _, rfl⟩
set_option maxRecDepth 100000 in
theorem v_L_147 : vLk RL 147 mX10_told 1 10 := ⟨nX10_told, (tW5 18 rfl rfl), (tW5 19 rfl rfl), (tW5 20 rfl rfl), _, _, rfl⟩
set_option maxRecDepth 100000 in
theorem v_L_150 : vLk RL 150 mX11_told 1 11 := ⟨nX11_told, (tW7 105 rfl rfl), (tW7 106 rfl rfl), (tW7 107 rfl rfl), _, _, rfl⟩
set_option maxRecDepth 100000 in
theorem v_L_151 : vLk RL 151 mX10_keep 1 10 := ⟨nX10_keep, (tW5 32 rfl rfl), (tW5 33 rfl rfl), (tW5 34 rfl rfl), _, _, rfl⟩
set_option maxRecDepth 100000 in
theorem v_L_154 : vLk RL 154 mX11_keep 1 11 := ⟨nX11_keep, (tW7 112 rfl rfl), (tW7 113 rfl rfl), (tW7 114 rfl rfl), _, _, rfl⟩
set_option maxRecDepth 100000 in
theorem v_L_155 : vLk RL 155 mX10_goBack 1 10 := ⟨nX10_goBack, (tW5 47 rfl rfl), (tW5 48 rfl rfl), (tW5 49 rfl rfl), _, _, rfl⟩
set_option maxRecDepth 100000 in
theorem v_L_158 : vLk RL 158 mX11_goBack 1 11 := ⟨nX11_goBack, (tW7 116 rfl rfl), (tW7 117 rfl rfl), (tW7 118 rfl rfl), _, _, rfl⟩
set_option maxRecDepth 100000 in
theorem v_X11_1 : Cond.methodLink RX11 1 objectInit ∈ aW := (tW5 56 rfl rfl)
set_option maxRecDepth 100000 in
theorem v_X11_146 : sLk RX11 146 mX11_root 1 := ⟨nX11_root, (tW6 138 rfl rfl), (tW6 139 rfl rfl)⟩
set_option maxRecDepth 100000 in
theorem v_X11_152 : sLk RX11 152 mX11_in 3 := ⟨nX11_in, (tW6 5 rfl rfl), (tW6 6 rfl rfl)⟩
set_option maxRecDepth 100000 in
theorem v_X11_167 : vLk RX11 167 mX11_here 0 11 := ⟨nX11_here, (tW6 17 rfl rfl), (tW6 19 rfl rfl), (sW 35 rfl rfl), _, _, rfl⟩
set_option maxRecDepth 100000 in
theorem v_X11_181 : sLk RX11 181 mX11_one 1 := ⟨nX11_one, (tW6 39 rfl rfl), (tW6 40 rfl rfl)⟩
set_option maxRecDepth 100000 in
theorem v_X11_189 : vLk RX11 189 mX11_want 3 11 := ⟨nX11_want, (tW6 44 rfl rfl), (tW6 46 rfl rfl), (sW 40 rfl rfl), _, _, rfl⟩
set_option maxRecDepth 100000 in
theorem v_X11_193 : vLk RX11 193 mX11_takeNumber 3 11 := ⟨nX11_takeNumber, (tW6 35 rfl rfl), (tW6 37 rfl rfl), (sW 39 rfl rfl), _, _, rfl⟩
set_option maxRecDepth 100000 in
theorem v_X11_200 : vLk RX11 200 mX11_takeWord 0 11 := ⟨nX11_takeWord, (tW6 21 rfl rfl), (tW6 23 rfl rfl), (sW 36 rfl rfl), _, _, rfl⟩
set_option maxRecDepth 100000 in
theorem v_X11_203 : vLk RX11 203 mX11_isWord 8 11 := ⟨nX11_isWord, (tW6 27 rfl rfl), (tW6 29 rfl rfl), (sW 37 rfl rfl), _, _, rfl⟩
set_option maxRecDepth 100000 in
theorem v_X11_207 : vLk RX11 207 mX11_beginText 0 11 := ⟨nX11_beginText, (tW6 13 rfl rfl), (tW6 15 rfl rfl), (sW 34 rfl rfl), _, _, rfl⟩
set_option maxRecDepth 100000 in
theorem v_X11_217 : vLk RX11 217 mX11_takePiece 0 11 := ⟨nX11_takePiece, (tW6 31 rfl rfl), (tW6 33 rfl rfl), (sW 38 rfl rfl), _, _, rfl⟩
set_option maxRecDepth 100000 in
theorem v_X11_220 : vLk RX11 220 mX11_takeSign 1 11 := ⟨nX11_takeSign, (tW6 48 rfl rfl), (tW6 50 rfl rfl), (sW 41 rfl rfl), _, _, rfl⟩
set_option maxRecDepth 100000 in
theorem v_X11_227 : vLk RX11 227 mX11_addOp 4 11 := ⟨nX11_addOp, (tW6 60 rfl rfl), (tW6 62 rfl rfl), (sW 43 rfl rfl), _, _, rfl⟩
set_option maxRecDepth 100000 in
theorem v_X11_231 : vLk RX11 231 mX11_takeGo 0 11 := ⟨nX11_takeGo, (tW6 64 rfl rfl), (tW6 66 rfl rfl), (sW 44 rfl rfl), _, _, rfl⟩
set_option maxRecDepth 100000 in
theorem v_X11_240 : vLk RX11 240 mX11_takeWay 0 11 := ⟨nX11_takeWay, (tW6 56 rfl rfl), (tW6 58 rfl rfl), (sW 42 rfl rfl), _, _, rfl⟩
set_option maxRecDepth 100000 in
theorem v_X11_243 : vLk RX11 243 mX11_runWay 0 11 := ⟨nX11_runWay, (tW6 68 rfl rfl), (tW6 70 rfl rfl), (sW 45 rfl rfl), _, _, rfl⟩
set_option maxRecDepth 100000 in
theorem v_X11_247 : sLk RX11 247 mX11_heft 1 := ⟨nX11_heft, (tW6 84 rfl rfl), (tW6 85 rfl rfl)⟩
set_option maxRecDepth 100000 in
theorem v_X11_251 : sLk RX11 251 mX11_stiff 1 := ⟨nX11_stiff, (tW6 91 rfl rfl), (tW6 92 rfl rfl)⟩
set_option maxRecDepth 100000 in
theorem v_X11_254 : vLk RX11 254 mX11_weightOf 1 11 := ⟨nX11_weightOf, (tW6 80 rfl rfl), (tW6 82 rfl rfl), (sW 46 rfl rfl), _, _, rfl⟩
set_option maxRecDepth 100000 in
theorem v_X11_257 : vLk RX11 257 mX11_bendsOf 1 11 := ⟨nX11_bendsOf, (tW6 87 rfl rfl), (tW6 89 rfl rfl), (sW 47 rfl rfl), _, _, rfl⟩
set_option maxRecDepth 100000 in
theorem v_X11_272 : vLk RX11 272 mX11_allStrands 0 11 := ⟨nX11_allStrands, (tW6 112 rfl rfl), (tW6 114 rfl rfl), (sW 48 rfl rfl), _, _, rfl⟩
set_option maxRecDepth 100000 in
theorem v_X11_284 : sLk RX11 284 mX11_cell 2 := ⟨nX11_cell, (tW6 128 rfl rfl), (tW6 129 rfl rfl)⟩
set_option maxRecDepth 100000 in
theorem v_X11_288 : sLk RX11 288 mX11_span 2 := ⟨nX11_span, (tW6 135 rfl rfl), (tW6 136 rfl rfl)⟩
set_option maxRecDepth 100000 in
theorem v_X11_294 : vLk RX11 294 mX11_goOn 2 11 := ⟨nX11_goOn, (tW6 131 rfl rfl), (tW6 133 rfl rfl), (sW 51 rfl rfl), _, _, rfl⟩
set_option maxRecDepth 100000 in
theorem v_X11_298 : vLk RX11 298 mX11_bend 2 11 := ⟨nX11_bend, (tW6 144 rfl rfl), (tW6 146 rfl rfl), (sW 52 rfl rfl), _, _, rfl⟩
set_option maxRecDepth 100000 in
theorem v_X11_301 : vLk RX11 301 mX11_pull 2 11 := ⟨nX11_pull, (tW6 148 rfl rfl), (tW6 150 rfl rfl), (sW 53 rfl rfl), _, _, rfl⟩
set_option maxRecDepth 100000 in
theorem v_X11_304 : vLk RX11 304 mX11_hold 2 11 := ⟨nX11_hold, (tW6 152 rfl rfl), (tW6 154 rfl rfl), (sW 54 rfl rfl), _, _, rfl⟩
set_option maxRecDepth 100000 in
theorem v_X11_307 : vLk RX11 307 mX11_noJoint 1 11 := ⟨nX11_noJoint, (tW6 120 rfl rfl), (tW6 122 rfl rfl), (sW 49 rfl rfl), _, _, rfl⟩
set_option maxRecDepth 100000 in
theorem v_X11_311 : vLk RX11 311 mX11_toss 1 11 := ⟨nX11_toss, (tW6 124 rfl rfl), (tW6 126 rfl rfl), (sW 50 rfl rfl), _, _, rfl⟩
set_option maxRecDepth 100000 in
theorem v_X11_314 : vLk RX11 314 mX11_speedOf 2 11 := ⟨nX11_speedOf, (tW6 160 rfl rfl), (tW6 162 rfl rfl), (sW 55 rfl rfl), _, _, rfl⟩
set_option maxRecDepth 100000 in
theorem v_X11_320 : vLk RX11 320 mX11_forceOf 2 11 := ⟨nX11_forceOf, (tW6 169 rfl rfl), (tW6 171 rfl rfl), (sW 56 rfl rfl), _, _, rfl⟩
set_option maxRecDepth 100000 in
theorem v_X11_323 : vLk RX11 323 mX11_loopOf 1 11 := ⟨nX11_loopOf, (tW6 177 rfl rfl), (tW6 179 rfl rfl), (sW 57 rfl rfl), _, _, rfl⟩
set_option maxRecDepth 100000 in
theorem v_X11_334 : vLk RX11 334 mX11_findCracks 0 11 := ⟨nX11_findCracks, (tW6 186 rfl rfl), (tW6 188 rfl rfl), (sW 58 rfl rfl), _, _, rfl⟩
set_option maxRecDepth 100000 in
theorem v_X11_337 : vLk RX11 337 mX11_farOf 1 11 := ⟨nX11_farOf, (tW6 190 rfl rfl), (tW6 192 rfl rfl), (sW 59 rfl rfl), _, _, rfl⟩
set_option maxRecDepth 100000 in
theorem v_X11_340 : vLk RX11 340 mX11_ofWhat 1 11 := ⟨nX11_ofWhat, (tW6 194 rfl rfl), (tW6 196 rfl rfl), (sW 60 rfl rfl), _, _, rfl⟩
set_option maxRecDepth 100000 in
theorem v_X11_346 : sLk RX11 346 mX11_quarter 3 := ⟨nX11_quarter, (tW6 206 rfl rfl), (tW6 207 rfl rfl)⟩
set_option maxRecDepth 100000 in
theorem v_X11_350 : vLk RX11 350 mX11_turnsOf 0 11 := ⟨nX11_turnsOf, (tW6 202 rfl rfl), (tW6 204 rfl rfl), (sW 61 rfl rfl), _, _, rfl⟩
set_option maxRecDepth 100000 in
theorem v_X11_353 : vLk RX11 353 mX11_isOverhead 0 11 := ⟨nX11_isOverhead, (tW6 209 rfl rfl), (tW6 211 rfl rfl), (sW 62 rfl rfl), _, _, rfl⟩
set_option maxRecDepth 100000 in
theorem v_X11_356 : vLk RX11 356 mX11_hasLoop 0 11 := ⟨nX11_hasLoop, (tW6 213 rfl rfl), (tW6 215 rfl rfl), (sW 63 rfl rfl), _, _, rfl⟩
set_option maxRecDepth 100000 in
theorem v_X11_363 : sLk RX11 363 mX11_isPlace 2 := ⟨nX11_isPlace, (tW6 225 rfl rfl), (tW6 226 rfl rfl)⟩
set_option maxRecDepth 100000 in
theorem v_X11_371 : sLk RX11 371 mX11_listed 1 := ⟨nX11_listed, (tW7 4 rfl rfl), (tW7 5 rfl rfl)⟩
set_option maxRecDepth 100000 in
theorem v_X11_374 : vLk RX11 374 mX11_greatestSpeed 0 11 := ⟨nX11_greatestSpeed, (tW7 7 rfl rfl), (tW7 9 rfl rfl), (sW 64 rfl rfl), _, _, rfl⟩
set_option maxRecDepth 100000 in
theorem v_X11_378 : vLk RX11 378 mX11_farFrom 4 11 := ⟨nX11_farFrom, (tW7 15 rfl rfl), (tW7 17 rfl rfl), (sW 65 rfl rfl), _, _, rfl⟩
set_option maxRecDepth 100000 in
theorem v_X11_382 : vLk RX11 382 mX11_aloneBy 2 11 := ⟨nX11_aloneBy, (tW7 23 rfl rfl), (tW7 25 rfl rfl), (sW 66 rfl rfl), _, _, rfl⟩
set_option maxRecDepth 100000 in
theorem v_X11_389 : sLk RX11 389 mX11_isTwo 2 := ⟨nX11_isTwo, (tW7 36 rfl rfl), (tW7 37 rfl rfl)⟩
set_option maxRecDepth 100000 in
theorem v_X11_394 : vLk RX11 394 mX11_tossBoth 2 11 := ⟨nX11_tossBoth, (tW7 40 rfl rfl), (tW7 42 rfl rfl), (sW 67 rfl rfl), _, _, rfl⟩
set_option maxRecDepth 100000 in
theorem v_X11_397 : vLk RX11 397 mX11_closeBy 1 11 := ⟨nX11_closeBy, (tW7 44 rfl rfl), (tW7 46 rfl rfl), (sW 68 rfl rfl), _, _, rfl⟩
set_option maxRecDepth 100000 in
theorem v_X11_404 : sLk RX11 404 mX11_wears 1 := ⟨nX11_wears, (tW7 63 rfl rfl), (tW7 64 rfl rfl)⟩
set_option maxRecDepth 100000 in
theorem v_X11_409 : vLk RX11 409 mX11_wearOnce 0 11 := ⟨nX11_wearOnce, (tW7 59 rfl rfl), (tW7 61 rfl rfl), (sW 69 rfl rfl), _, _, rfl⟩
set_option maxRecDepth 100000 in
theorem v_X11_416 : vLk RX11 416 mX11_sumOf 1 11 := ⟨nX11_sumOf, (tW7 92 rfl rfl), (tW7 94 rfl rfl), (sW 71 rfl rfl), _, _, rfl⟩
set_option maxRecDepth 100000 in
theorem v_X11_419 : sLk RX11 419 mX11_ones 1 := ⟨nX11_ones, (tW7 85 rfl rfl), (tW7 86 rfl rfl)⟩
set_option maxRecDepth 100000 in
theorem v_X11_422 : vLk RX11 422 mX11_canCut 1 11 := ⟨nX11_canCut, (tW7 88 rfl rfl), (tW7 90 rfl rfl), (sW 70 rfl rfl), _, _, rfl⟩
set_option maxRecDepth 100000 in
theorem v_X11_427 : sLk RX11 427 mX11_size 1 := ⟨nX11_size, (tW7 109 rfl rfl), (tW7 110 rfl rfl)⟩
set_option maxRecDepth 100000 in
theorem v_J13_308 : sLk RJ13 308 mJ6_numberOfLeadingZeros_0f7a4 1 := ⟨nJ6_numberOfLeadingZeros_0f7a4, (tW3 180 rfl rfl), (tW3 181 rfl rfl)⟩
set_option maxRecDepth 100000 in
theorem v_J0_335 : tLk RJ0 335 mJ0_coder_7d493 0 := ⟨nJ0_coder_7d493, (tW2 168 rfl rfl), (tW2 169 rfl rfl), (tW2 170 rfl rfl)⟩
set_option maxRecDepth 100000 in
theorem v_J0_492 : tLk RJ0 492 mJ0_isLatin1_aae02 0 := ⟨nJ0_isLatin1_aae02, (tW2 181 rfl rfl), (tW2 182 rfl rfl), (tW2 183 rfl rfl)⟩
set_option maxRecDepth 100000 in
theorem v_J0_495 : sLk RJ0 495 mJ1_charAt_3b067 2 := ⟨nJ1_charAt_3b067, (tW2 185 rfl rfl), (tW2 186 rfl rfl)⟩
set_option maxRecDepth 100000 in
theorem v_J0_498 : sLk RJ0 498 mJ2_charAt_3b067 2 := ⟨nJ2_charAt_3b067, (tW2 196 rfl rfl), (tW2 197 rfl rfl)⟩
set_option maxRecDepth 100000 in
theorem v_J0_1059 : sLk RJ0 1059 mJ3_checkIndex_8e157 3 := ⟨nJ3_checkIndex_8e157, (tW2 193 rfl rfl), (tW2 194 rfl rfl)⟩
set_option maxRecDepth 100000 in
theorem v_J1_9 : sLk RJ1 9 mJ0_checkIndex_df160 2 := ⟨nJ0_checkIndex_df160, (tW2 188 rfl rfl), (tW2 189 rfl rfl)⟩
set_option maxRecDepth 100000 in
theorem v_J2_48 : sLk RJ2 48 mJ2_length_9d52b 1 := ⟨nJ2_length_9d52b, (tW2 202 rfl rfl), (tW2 203 rfl rfl)⟩
set_option maxRecDepth 100000 in
theorem v_J2_67 : sLk RJ2 67 mJ2_checkIndex_2214a 2 := ⟨nJ2_checkIndex_2214a, (tW2 199 rfl rfl), (tW2 200 rfl rfl)⟩
set_option maxRecDepth 100000 in
theorem v_J2_71 : sLk RJ2 71 mJ2_getChar_3b067 2 := ⟨nJ2_getChar_3b067, (tW2 206 rfl rfl), (tW2 207 rfl rfl)⟩
set_option maxRecDepth 100000 in
theorem v_J2_414 : sLk RJ2 414 mJ0_checkIndex_df160 2 := ⟨nJ0_checkIndex_df160, (tW2 205 rfl rfl), (tW2 189 rfl rfl)⟩
set_option maxRecDepth 100000 in
theorem k_X10_285 : Cond.constant RX10 285 (Int32.ofInt (2147483647)) ∈ aW := (tW4 169 rfl rfl)
set_option maxRecDepth 100000 in
theorem k_X1_140 : Cond.constant RX1 140 (Int32.ofInt (2147483647)) ∈ aW := (tW4 152 rfl rfl)
set_option maxRecDepth 100000 in
theorem k_J6_264 : Cond.constant RJ6 264 (Int32.ofInt (65536)) ∈ aW := (tW3 183 rfl rfl)
set_option maxRecDepth 100000 in
theorem k_J6_265 : Cond.constant RJ6 265 (Int32.ofInt (1431655765)) ∈ aW := (tW4 231 rfl rfl)
set_option maxRecDepth 100000 in
theorem k_J6_266 : Cond.constant RJ6 266 (Int32.ofInt (858993459)) ∈ aW := (tW4 232 rfl rfl)
set_option maxRecDepth 100000 in
theorem k_J6_267 : Cond.constant RJ6 267 (Int32.ofInt (252645135)) ∈ aW := (tW4 233 rfl rfl)
set_option maxRecDepth 100000 in
theorem k_X10_209 : Cond.constantLong RX10 209 (Int64.ofInt (-1001)) ∈ aW := (tW3 233 rfl rfl)
set_option maxRecDepth 100000 in
theorem k_X10_352 : Cond.constantLong RX10 352 (Int64.ofInt (2)) ∈ aW := (tW3 184 rfl rfl)
set_option maxRecDepth 100000 in
theorem k_X1_79 : Cond.constantLong RX1 79 (Int64.ofInt (1000)) ∈ aW := (tW3 173 rfl rfl)
set_option maxRecDepth 100000 in
theorem k_X1_85 : Cond.constantLong RX1 85 (Int64.ofInt (2)) ∈ aW := (tW3 189 rfl rfl)
set_option maxRecDepth 100000 in
theorem k_X1_136 : Cond.constantLong RX1 136 (Int64.ofInt (9223372036854775807)) ∈ aW := (tW4 161 rfl rfl)
set_option maxRecDepth 100000 in
theorem k_X7_31 : Cond.constantLong RX7 31 (Int64.ofInt (255)) ∈ aW := (tW2 129 rfl rfl)
set_option maxRecDepth 100000 in
theorem k_L_13 : Cond.constantLong RL 13 (Int64.ofInt (4294967295)) ∈ aW := (tW7 120 rfl rfl)
set_option maxRecDepth 100000 in
theorem k_X11_142 : Cond.constantLong RX11 142 (Int64.ofInt (3000000000)) ∈ aW := (tW6 141 rfl rfl)
set_option maxRecDepth 100000 in
theorem k_X11_144 : Cond.constantLong RX11 144 (Int64.ofInt (2)) ∈ aW := (tW6 142 rfl rfl)
set_option maxRecDepth 100000 in
theorem k_X11_150 : Cond.constantLong RX11 150 (Int64.ofInt (8)) ∈ aW := (tW6 4 rfl rfl)
set_option maxRecDepth 100000 in
theorem k_X11_159 : Cond.constantLong RX11 159 (Int64.ofInt (255)) ∈ aW := (tW6 8 rfl rfl)
set_option maxRecDepth 100000 in
theorem k_X11_174 : Cond.constantLong RX11 174 (Int64.ofInt (97)) ∈ aW := (tW6 25 rfl rfl)
set_option maxRecDepth 100000 in
theorem k_X11_176 : Cond.constantLong RX11 176 (Int64.ofInt (122)) ∈ aW := (tW6 26 rfl rfl)
set_option maxRecDepth 100000 in
theorem k_X11_185 : Cond.constantLong RX11 185 (Int64.ofInt (48)) ∈ aW := (tW6 42 rfl rfl)
set_option maxRecDepth 100000 in
theorem k_X11_187 : Cond.constantLong RX11 187 (Int64.ofInt (57)) ∈ aW := (tW6 43 rfl rfl)
set_option maxRecDepth 100000 in
theorem k_X11_260 : Cond.constantLong RX11 260 (Int64.ofInt (4)) ∈ aW := (tW6 98 rfl rfl)
set_option maxRecDepth 100000 in
theorem k_X11_262 : Cond.constantLong RX11 262 (Int64.ofInt (2000)) ∈ aW := (tW6 99 rfl rfl)
set_option maxRecDepth 100000 in
theorem k_X11_264 : Cond.constantLong RX11 264 (Int64.ofInt (30000)) ∈ aW := (tW6 100 rfl rfl)
set_option maxRecDepth 100000 in
theorem k_X11_266 : Cond.constantLong RX11 266 (Int64.ofInt (50)) ∈ aW := (tW6 101 rfl rfl)
set_option maxRecDepth 100000 in
theorem k_X11_268 : Cond.constantLong RX11 268 (Int64.ofInt (10)) ∈ aW := (tW6 106 rfl rfl)
set_option maxRecDepth 100000 in
theorem k_X11_270 : Cond.constantLong RX11 270 (Int64.ofInt (200)) ∈ aW := (tW6 107 rfl rfl)
set_option maxRecDepth 100000 in
theorem k_X11_292 : Cond.constantLong RX11 292 (Int64.ofInt (1000)) ∈ aW := (tW6 143 rfl rfl)
set_option maxRecDepth 100000 in
theorem k_X11_318 : Cond.constantLong RX11 318 (Int64.ofInt (-1001)) ∈ aW := (tW6 168 rfl rfl)
set_option maxRecDepth 100000 in
theorem k_X11_332 : Cond.constantLong RX11 332 (Int64.ofInt (6)) ∈ aW := (tW6 185 rfl rfl)
set_option maxRecDepth 100000 in
theorem k_X11_359 : Cond.constantLong RX11 359 (Int64.ofInt (-5000)) ∈ aW := (tW6 228 rfl rfl)
set_option maxRecDepth 100000 in
theorem k_X11_361 : Cond.constantLong RX11 361 (Int64.ofInt (5000)) ∈ aW := (tW6 229 rfl rfl)
set_option maxRecDepth 100000 in
theorem k_X11_367 : Cond.constantLong RX11 367 (Int64.ofInt (96)) ∈ aW := (tW7 2 rfl rfl)
set_option maxRecDepth 100000 in
theorem k_X11_369 : Cond.constantLong RX11 369 (Int64.ofInt (-1)) ∈ aW := (tW7 3 rfl rfl)
set_option maxRecDepth 100000 in
theorem k_X11_385 : Cond.constantLong RX11 385 (Int64.ofInt (9999)) ∈ aW := (tW7 31 rfl rfl)
set_option maxRecDepth 100000 in
theorem k_X11_387 : Cond.constantLong RX11 387 (Int64.ofInt (1000000000)) ∈ aW := (tW7 48 rfl rfl)
set_option maxRecDepth 100000 in
theorem k_X11_392 : Cond.constantLong RX11 392 (Int64.ofInt (30)) ∈ aW := (tW7 39 rfl rfl)
set_option maxRecDepth 100000 in
theorem k_X11_400 : Cond.constantLong RX11 400 (Int64.ofInt (-60)) ∈ aW := (tW7 53 rfl rfl)
set_option maxRecDepth 100000 in
theorem k_X11_402 : Cond.constantLong RX11 402 (Int64.ofInt (60)) ∈ aW := (tW7 54 rfl rfl)
set_option maxRecDepth 100000 in
theorem k_X11_407 : Cond.constantLong RX11 407 (Int64.ofInt (100)) ∈ aW := (tW7 66 rfl rfl)
set_option maxRecDepth 100000 in
theorem k_X11_412 : Cond.constantLong RX11 412 (Int64.ofInt (40)) ∈ aW := (tW7 71 rfl rfl)
set_option maxRecDepth 100000 in
theorem k_X11_414 : Cond.constantLong RX11 414 (Int64.ofInt (999)) ∈ aW := (tW7 76 rfl rfl)
set_option maxRecDepth 100000 in
theorem k_X11_425 : Cond.constantLong RX11 425 (Int64.ofInt (-9999)) ∈ aW := (tW7 100 rfl rfl)
set_option maxRecDepth 100000 in
theorem c_X10_7 : Cond.classLink RX10 7 RX6 ∈ aW := (tW1 29 rfl rfl)
set_option maxRecDepth 100000 in
theorem c_X10_22 : Cond.classLink RX10 22 RX7 ∈ aW := (tW1 116 rfl rfl)
set_option maxRecDepth 100000 in
theorem c_X10_29 : Cond.classLink RX10 29 RX4 ∈ aW := (tW1 149 rfl rfl)
set_option maxRecDepth 100000 in
theorem c_X10_36 : Cond.classLink RX10 36 RX9 ∈ aW := (tW1 165 rfl rfl)
set_option maxRecDepth 100000 in
theorem c_X10_43 : Cond.classLink RX10 43 RX1 ∈ aW := (tW1 202 rfl rfl)
set_option maxRecDepth 100000 in
theorem c_X10_53 : Cond.classLink RX10 53 RX5 ∈ aW := (tW1 238 rfl rfl)
set_option maxRecDepth 100000 in
theorem c_X10_60 : Cond.classLink RX10 60 RX2 ∈ aW := (tW2 25 rfl rfl)
set_option maxRecDepth 100000 in
theorem c_X10_67 : Cond.classLink RX10 67 RX0 ∈ aW := (tW2 49 rfl rfl)
set_option maxRecDepth 100000 in
theorem c_X4_9 : Cond.classLink RX4 9 RX3 ∈ aW := (tW1 155 rfl rfl)
set_option maxRecDepth 100000 in
theorem c_X5_25 : Cond.classLink RX5 25 RX3 ∈ aW := (tW2 4 rfl rfl)
set_option maxRecDepth 100000 in
theorem c_X6_9 : Cond.classLink RX6 9 RX3 ∈ aW := (tW1 35 rfl rfl)
set_option maxRecDepth 100000 in
theorem c_X6_18 : Cond.classLink RX6 18 RX8 ∈ aW := (tW1 70 rfl rfl)
set_option maxRecDepth 100000 in
theorem c_L_7 : Cond.classLink RL 7 RX10 ∈ aW := (tW1 21 rfl rfl)
set_option maxRecDepth 100000 in
theorem c_L_10 : Cond.classLink RL 10 RX11 ∈ aW := (tW5 51 rfl rfl)
theorem oi_1 : Cond.instanceMethod objectInit ∈ aW := aW_1 (by decide +kernel)
theorem oi_2 : Cond.code objectInit ⟨#[0xb1]⟩ 1 none ∈ aW := aW_1 (by decide +kernel)
theorem ac_1 : Cond.native arraycopyName ∈ aW := aW_1 (by decide +kernel)
theorem ac_2 : Cond.static arraycopyName ∈ aW := aW_1 (by decide +kernel)
theorem ac_3 : Cond.initialized "java/lang/System" ∈ aW := aW_1 (by decide +kernel)
set_option maxRecDepth 100000 in
theorem ar_int : Cond.arrayClass .int ∈ aW := aW_1 (by decide +kernel)
set_option maxRecDepth 100000 in
theorem ar_long : Cond.arrayClass .long ∈ aW := aW_1 (by decide +kernel)
set_option maxRecDepth 100000 in
theorem ar_boolean : Cond.arrayClass .boolean ∈ aW := aW_1 (by decide +kernel)
