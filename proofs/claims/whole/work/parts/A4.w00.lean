/-! THE WORLD that the constructors leave -/
def f00T : List (List Int) := [[0, 0, 0, 0, 0, 0, 0, 0, 0, 0, 0, 100, 0, 500, 300, 0, -1, 0], [0, 0, 0, 0], [4, 50, 0, 0, 0], [], [], [], [1, 1, 0, 0], [], [], [], [0, 0, 0, 0], [4, 50, 0, 0, 0], [], [], [], [1, 1, 0, 0], [], [], [], [0, 0, 0, 0], [4, 50, 0, 0, 0], [], [], [], [1, 1, 0, 0], [], [], [], [0, 0, 0, 0, 0, -1], [], [0, 0], [4, 50, 0, 0, 0], [], [], [], [0, 0, 0, 0, 0, 0, 0, 0, 0, 0], [], [], [], [], [], [], [0, 0, 0, 0, 0, 0, 0, 0], [], [], [], [], [0, 0, 0, 0, 0, 0, 0, 0], [], [], [], [], [-1, -1, 0, 0, 0], [], [], [4, 50, 0, 0, 0], [], [], [], [0, 0, 0, 0, 0], [], [], [], [0, 0, 0], [], [], [4, 50, 0, 0, 0, 1, 1, 0, 0, 0, 100, 0, 500, 300, 0, 0, 0, 0, 0, 0, 0, -1, 0, 0, 0, 0, 0, 0, 0, 0, 0, 0, 0, 0, 0, 0, 0, 0, 0, 0, -1, 0, 0, 0, 0, 0, 0, 0, 0, 0, 0, 0, 0, 0, 0, 0, 0, 0, 0, 0], [], [], [], [], [], [], [], [], [], [], [], [], [], [], [], [], [], [], [], [], [], [], [], [], [], [], [], [], [], [], [], [], [], []]
def f00 : fT := fun o k => (f00T.getD o []).getD k 0
def s00 : Nat → Int := up (up (up (up (up (up (up (up (up (up (up (up (fun _ => 0) 0 8) 1 6) 2 4) 3 2) 4 0) 5 0) 6 0) 7 0) 8 0) 9 0) 10 0) 11 0
def s01 : Nat → Int := up (up (up (up (fun _ => 0) 0 8) 1 6) 2 4) 3 2
def l00 : Nat → Int := up (up (up (up (up (fun _ => 0) 0 2) 1 3) 2 3) 3 150) 4 5000
def a00T (o : Nat) : Nat → Int := match o with
  | 3 => s00
  | 12 => s00
  | 21 => s00
  | 32 => s00
  | 56 => s00
  | 67 => s01
  | 9 => l00
  | 18 => l00
  | 27 => l00
  | 72 => l00
  | _ => fun _ => 0
def a00 : nT := fun o i => a00T o i.toNat
def y00 : List aE := Y10 0 ++ Y11 66
theorem w00_0 {G : gT} : wre G (y00.getD 0 dE) = wre G (sCell f00 a00 0) := rfl
theorem w00_1 {G : gT} : wre G (y00.getD 1 dE) = wre G (sCell f00 a00 1) := rfl
theorem w00_2 {G : gT} : wre G (y00.getD 2 dE) = wre G (sCell f00 a00 2) := rfl
theorem w00_3 {G : gT} : wre G (y00.getD 3 dE) = wre G (sCell f00 a00 3) := rfl
theorem w00_4 {G : gT} : wre G (y00.getD 4 dE) = wre G (sCell f00 a00 4) := rfl
theorem w00_5 {G : gT} : wre G (y00.getD 5 dE) = wre G (sCell f00 a00 5) := rfl
theorem w00_6 {G : gT} : wre G (y00.getD 6 dE) = wre G (sCell f00 a00 6) := rfl
theorem w00_7 {G : gT} : wre G (y00.getD 7 dE) = wre G (sCell f00 a00 7) := rfl
theorem w00_8 {G : gT} : wre G (y00.getD 8 dE) = wre G (sCell f00 a00 8) := rfl
theorem w00_9 {G : gT} : wre G (y00.getD 9 dE) = wre G (sCell f00 a00 9) := rfl
theorem w00_10 {G : gT} : wre G (y00.getD 10 dE) = wre G (sCell f00 a00 10) := rfl
theorem w00_11 {G : gT} : wre G (y00.getD 11 dE) = wre G (sCell f00 a00 11) := rfl
theorem w00_12 {G : gT} : wre G (y00.getD 12 dE) = wre G (sCell f00 a00 12) := rfl
theorem w00_13 {G : gT} : wre G (y00.getD 13 dE) = wre G (sCell f00 a00 13) := rfl
theorem w00_14 {G : gT} : wre G (y00.getD 14 dE) = wre G (sCell f00 a00 14) := rfl
theorem w00_15 {G : gT} : wre G (y00.getD 15 dE) = wre G (sCell f00 a00 15) := rfl
theorem w00_16 {G : gT} : wre G (y00.getD 16 dE) = wre G (sCell f00 a00 16) := rfl
theorem w00_17 {G : gT} : wre G (y00.getD 17 dE) = wre G (sCell f00 a00 17) := rfl
theorem w00_18 {G : gT} : wre G (y00.getD 18 dE) = wre G (sCell f00 a00 18) := rfl
theorem w00_19 {G : gT} : wre G (y00.getD 19 dE) = wre G (sCell f00 a00 19) := rfl
theorem w00_20 {G : gT} : wre G (y00.getD 20 dE) = wre G (sCell f00 a00 20) := rfl
theorem w00_21 {G : gT} : wre G (y00.getD 21 dE) = wre G (sCell f00 a00 21) := rfl
theorem w00_22 {G : gT} : wre G (y00.getD 22 dE) = wre G (sCell f00 a00 22) := rfl
theorem w00_23 {G : gT} : wre G (y00.getD 23 dE) = wre G (sCell f00 a00 23) := rfl
theorem w00_24 {G : gT} : wre G (y00.getD 24 dE) = wre G (sCell f00 a00 24) := rfl
theorem w00_25 {G : gT} : wre G (y00.getD 25 dE) = wre G (sCell f00 a00 25) := rfl
theorem w00_26 {G : gT} : wre G (y00.getD 26 dE) = wre G (sCell f00 a00 26) := rfl
theorem w00_27 {G : gT} : wre G (y00.getD 27 dE) = wre G (sCell f00 a00 27) := rfl
theorem w00_28 {G : gT} : wre G (y00.getD 28 dE) = wre G (sCell f00 a00 28) := rfl
theorem w00_29 {G : gT} : wre G (y00.getD 29 dE) = wre G (sCell f00 a00 29) := rfl
theorem w00_30 {G : gT} : wre G (y00.getD 30 dE) = wre G (sCell f00 a00 30) := rfl
theorem w00_31 {G : gT} : wre G (y00.getD 31 dE) = wre G (sCell f00 a00 31) := rfl
theorem w00_32 {G : gT} : wre G (y00.getD 32 dE) = wre G (sCell f00 a00 32) := rfl
theorem w00_33 {G : gT} : wre G (y00.getD 33 dE) = wre G (sCell f00 a00 33) := rfl
theorem w00_34 {G : gT} : wre G (y00.getD 34 dE) = wre G (sCell f00 a00 34) := rfl
theorem w00_35 {G : gT} : wre G (y00.getD 35 dE) = wre G (sCell f00 a00 35) := rfl
theorem w00_36 {G : gT} : wre G (y00.getD 36 dE) = wre G (sCell f00 a00 36) := rfl
theorem w00_37 {G : gT} : wre G (y00.getD 37 dE) = wre G (sCell f00 a00 37) := rfl
theorem w00_38 {G : gT} : wre G (y00.getD 38 dE) = wre G (sCell f00 a00 38) := rfl
theorem w00_39 {G : gT} : wre G (y00.getD 39 dE) = wre G (sCell f00 a00 39) := rfl
theorem w00_40 {G : gT} : wre G (y00.getD 40 dE) = wre G (sCell f00 a00 40) := rfl
theorem w00_41 {G : gT} : wre G (y00.getD 41 dE) = wre G (sCell f00 a00 41) := rfl
theorem w00_42 {G : gT} : wre G (y00.getD 42 dE) = wre G (sCell f00 a00 42) := rfl
theorem w00_43 {G : gT} : wre G (y00.getD 43 dE) = wre G (sCell f00 a00 43) := rfl
theorem w00_44 {G : gT} : wre G (y00.getD 44 dE) = wre G (sCell f00 a00 44) := rfl
theorem w00_45 {G : gT} : wre G (y00.getD 45 dE) = wre G (sCell f00 a00 45) := rfl
theorem w00_46 {G : gT} : wre G (y00.getD 46 dE) = wre G (sCell f00 a00 46) := rfl
theorem w00_47 {G : gT} : wre G (y00.getD 47 dE) = wre G (sCell f00 a00 47) := rfl
theorem w00_48 {G : gT} : wre G (y00.getD 48 dE) = wre G (sCell f00 a00 48) := rfl
theorem w00_49 {G : gT} : wre G (y00.getD 49 dE) = wre G (sCell f00 a00 49) := rfl
theorem w00_50 {G : gT} : wre G (y00.getD 50 dE) = wre G (sCell f00 a00 50) := rfl
theorem w00_51 {G : gT} : wre G (y00.getD 51 dE) = wre G (sCell f00 a00 51) := rfl
theorem w00_52 {G : gT} : wre G (y00.getD 52 dE) = wre G (sCell f00 a00 52) := rfl
theorem w00_53 {G : gT} : wre G (y00.getD 53 dE) = wre G (sCell f00 a00 53) := rfl
theorem w00_54 {G : gT} : wre G (y00.getD 54 dE) = wre G (sCell f00 a00 54) := rfl
theorem w00_55 {G : gT} : wre G (y00.getD 55 dE) = wre G (sCell f00 a00 55) := rfl
theorem w00_56 {G : gT} : wre G (y00.getD 56 dE) = wre G (sCell f00 a00 56) := rfl
theorem w00_57 {G : gT} : wre G (y00.getD 57 dE) = wre G (sCell f00 a00 57) := rfl
theorem w00_58 {G : gT} : wre G (y00.getD 58 dE) = wre G (sCell f00 a00 58) := rfl
theorem w00_59 {G : gT} : wre G (y00.getD 59 dE) = wre G (sCell f00 a00 59) := rfl
theorem w00_60 {G : gT} : wre G (y00.getD 60 dE) = wre G (sCell f00 a00 60) := rfl
theorem w00_61 {G : gT} : wre G (y00.getD 61 dE) = wre G (sCell f00 a00 61) := rfl
theorem w00_62 {G : gT} : wre G (y00.getD 62 dE) = wre G (sCell f00 a00 62) := rfl
theorem w00_63 {G : gT} : wre G (y00.getD 63 dE) = wre G (sCell f00 a00 63) := rfl
theorem w00_64 {G : gT} : wre G (y00.getD 64 dE) = wre G (sCell f00 a00 64) := rfl
theorem w00_65 {G : gT} : wre G (y00.getD 65 dE) = wre G (sCell f00 a00 65) := rfl
theorem w00_66 {G : gT} : wre G (y00.getD 66 dE) = wre G (sCell f00 a00 66) := rfl
theorem w00_67 {G : gT} : wre G (y00.getD 67 dE) = wre G (sCell f00 a00 67) := rfl
theorem w00_68 {G : gT} : wre G (y00.getD 68 dE) = wre G (sCell f00 a00 68) := rfl
theorem w00_69 {G : gT} : wre G (y00.getD 69 dE) = wre G (sCell f00 a00 69) := rfl
theorem w00_70 {G : gT} : wre G (y00.getD 70 dE) = wre G (sCell f00 a00 70) := rfl
theorem w00_71 {G : gT} : wre G (y00.getD 71 dE) = wre G (sCell f00 a00 71) := rfl
theorem w00_72 {G : gT} : wre G (y00.getD 72 dE) = wre G (sCell f00 a00 72) := rfl
theorem w00_73 {G : gT} : wre G (y00.getD 73 dE) = wre G (sCell f00 a00 73) := rfl
theorem w00_74 {G : gT} : wre G (y00.getD 74 dE) = wre G (sCell f00 a00 74) := rfl
theorem w00_75 {G : gT} : wre G (y00.getD 75 dE) = wre G (sCell f00 a00 75) := rfl
theorem w00_76 {G : gT} : wre G (y00.getD 76 dE) = wre G (sCell f00 a00 76) := rfl
theorem w00_77 {G : gT} : wre G (y00.getD 77 dE) = wre G (sCell f00 a00 77) := rfl
theorem w00_78 {G : gT} : wre G (y00.getD 78 dE) = wre G (sCell f00 a00 78) := rfl
theorem w00_79 {G : gT} : wre G (y00.getD 79 dE) = wre G (sCell f00 a00 79) := rfl
theorem w00_80 {G : gT} : wre G (y00.getD 80 dE) = wre G (sCell f00 a00 80) := rfl
theorem w00_81 {G : gT} : wre G (y00.getD 81 dE) = wre G (sCell f00 a00 81) := rfl
theorem w00_82 {G : gT} : wre G (y00.getD 82 dE) = wre G (sCell f00 a00 82) := rfl
theorem w00_83 {G : gT} : wre G (y00.getD 83 dE) = wre G (sCell f00 a00 83) := rfl
theorem w00_84 {G : gT} : wre G (y00.getD 84 dE) = wre G (sCell f00 a00 84) := rfl
theorem w00_85 {G : gT} : wre G (y00.getD 85 dE) = wre G (sCell f00 a00 85) := rfl
theorem w00_86 {G : gT} : wre G (y00.getD 86 dE) = wre G (sCell f00 a00 86) := rfl
theorem w00_87 {G : gT} : wre G (y00.getD 87 dE) = wre G (sCell f00 a00 87) := rfl
theorem w00_88 {G : gT} : wre G (y00.getD 88 dE) = wre G (sCell f00 a00 88) := rfl
theorem w00_89 {G : gT} : wre G (y00.getD 89 dE) = wre G (sCell f00 a00 89) := rfl
theorem w00_90 {G : gT} : wre G (y00.getD 90 dE) = wre G (sCell f00 a00 90) := rfl
theorem w00_91 {G : gT} : wre G (y00.getD 91 dE) = wre G (sCell f00 a00 91) := rfl
theorem w00_92 {G : gT} : wre G (y00.getD 92 dE) = wre G (sCell f00 a00 92) := rfl
theorem w00_93 {G : gT} : wre G (y00.getD 93 dE) = wre G (sCell f00 a00 93) := rfl
theorem w00_94 {G : gT} : wre G (y00.getD 94 dE) = wre G (sCell f00 a00 94) := rfl
theorem w00_95 {G : gT} : wre G (y00.getD 95 dE) = wre G (sCell f00 a00 95) := rfl
theorem w00_96 {G : gT} : wre G (y00.getD 96 dE) = wre G (sCell f00 a00 96) := rfl
theorem w00_97 {G : gT} : wre G (y00.getD 97 dE) = wre G (sCell f00 a00 97) := rfl
theorem w00_98 {G : gT} : wre G (y00.getD 98 dE) = wre G (sCell f00 a00 98) := rfl
theorem w00_99 {G : gT} : wre G (y00.getD 99 dE) = wre G (sCell f00 a00 99) := rfl
theorem w00_100 {G : gT} : wre G (y00.getD 100 dE) = wre G (sCell f00 a00 100) := rfl
set_option maxRecDepth 100000 in
theorem w00_all {G : gT} : ∀ i ∈ [0, 1, 2, 3, 4, 5, 6, 7, 8, 9, 10, 11, 12, 13, 14, 15, 16, 17, 18, 19, 20, 21, 22, 23, 24, 25, 26, 27, 28, 29, 30, 31, 32, 33, 34, 35, 36, 37, 38, 39, 40, 41, 42, 43, 44, 45, 46, 47, 48, 49, 50, 51, 52, 53, 54, 55, 56, 57, 58, 59, 60, 61, 62, 63, 64, 65, 66, 67, 68, 69, 70, 71, 72, 73, 74, 75, 76, 77, 78, 79, 80, 81, 82, 83, 84, 85, 86, 87, 88, 89, 90, 91, 92, 93, 94, 95, 96, 97, 98, 99, 100], wre G (y00.getD i dE) = wre G (sCell f00 a00 i) := List.forall_mem_cons.mpr ⟨w00_0, List.forall_mem_cons.mpr ⟨w00_1, List.forall_mem_cons.mpr ⟨w00_2, List.forall_mem_cons.mpr ⟨w00_3, List.forall_mem_cons.mpr ⟨w00_4, List.forall_mem_cons.mpr ⟨w00_5, List.forall_mem_cons.mpr ⟨w00_6, List.forall_mem_cons.mpr ⟨w00_7, List.forall_mem_cons.mpr ⟨w00_8, List.forall_mem_cons.mpr ⟨w00_9, List.forall_mem_cons.mpr ⟨w00_10, List.forall_mem_cons.mpr ⟨w00_11, List.forall_mem_cons.mpr ⟨w00_12, List.forall_mem_cons.mpr ⟨w00_13, List.forall_mem_cons.mpr ⟨w00_14, List.forall_mem_cons.mpr ⟨w00_15, List.forall_mem_cons.mpr ⟨w00_16, List.forall_mem_cons.mpr ⟨w00_17, List.forall_mem_cons.mpr ⟨w00_18, List.forall_mem_cons.mpr ⟨w00_19, List.forall_mem_cons.mpr ⟨w00_20, List.forall_mem_cons.mpr ⟨w00_21, List.forall_mem_cons.mpr ⟨w00_22, List.forall_mem_cons.mpr ⟨w00_23, List.forall_mem_cons.mpr ⟨w00_24, List.forall_mem_cons.mpr ⟨w00_25, List.forall_mem_cons.mpr ⟨w00_26, List.forall_mem_cons.mpr ⟨w00_27, List.forall_mem_cons.mpr ⟨w00_28, List.forall_mem_cons.mpr ⟨w00_29, List.forall_mem_cons.mpr ⟨w00_30, List.forall_mem_cons.mpr ⟨w00_31, List.forall_mem_cons.mpr ⟨w00_32, List.forall_mem_cons.mpr ⟨w00_33, List.forall_mem_cons.mpr ⟨w00_34, List.forall_mem_cons.mpr ⟨w00_35, List.forall_mem_cons.mpr ⟨w00_36, List.forall_mem_cons.mpr ⟨w00_37, List.forall_mem_cons.mpr ⟨w00_38, List.forall_mem_cons.mpr ⟨w00_39, List.forall_mem_cons.mpr ⟨w00_40, List.forall_mem_cons.mpr ⟨w00_41, List.forall_mem_cons.mpr ⟨w00_42, List.forall_mem_cons.mpr ⟨w00_43, List.forall_mem_cons.mpr ⟨w00_44, List.forall_mem_cons.mpr ⟨w00_45, List.forall_mem_cons.mpr ⟨w00_46, List.forall_mem_cons.mpr ⟨w00_47, List.forall_mem_cons.mpr ⟨w00_48, List.forall_mem_cons.mpr ⟨w00_49, List.forall_mem_cons.mpr ⟨w00_50, List.forall_mem_cons.mpr ⟨w00_51, List.forall_mem_cons.mpr ⟨w00_52, List.forall_mem_cons.mpr ⟨w00_53, List.forall_mem_cons.mpr ⟨w00_54, List.forall_mem_cons.mpr ⟨w00_55, List.forall_mem_cons.mpr ⟨w00_56, List.forall_mem_cons.mpr ⟨w00_57, List.forall_mem_cons.mpr ⟨w00_58, List.forall_mem_cons.mpr ⟨w00_59, List.forall_mem_cons.mpr ⟨w00_60, List.forall_mem_cons.mpr ⟨w00_61, List.forall_mem_cons.mpr ⟨w00_62, List.forall_mem_cons.mpr ⟨w00_63, List.forall_mem_cons.mpr ⟨w00_64, List.forall_mem_cons.mpr ⟨w00_65, List.forall_mem_cons.mpr ⟨w00_66, List.forall_mem_cons.mpr ⟨w00_67, List.forall_mem_cons.mpr ⟨w00_68, List.forall_mem_cons.mpr ⟨w00_69, List.forall_mem_cons.mpr ⟨w00_70, List.forall_mem_cons.mpr ⟨w00_71, List.forall_mem_cons.mpr ⟨w00_72, List.forall_mem_cons.mpr ⟨w00_73, List.forall_mem_cons.mpr ⟨w00_74, List.forall_mem_cons.mpr ⟨w00_75, List.forall_mem_cons.mpr ⟨w00_76, List.forall_mem_cons.mpr ⟨w00_77, List.forall_mem_cons.mpr ⟨w00_78, List.forall_mem_cons.mpr ⟨w00_79, List.forall_mem_cons.mpr ⟨w00_80, List.forall_mem_cons.mpr ⟨w00_81, List.forall_mem_cons.mpr ⟨w00_82, List.forall_mem_cons.mpr ⟨w00_83, List.forall_mem_cons.mpr ⟨w00_84, List.forall_mem_cons.mpr ⟨w00_85, List.forall_mem_cons.mpr ⟨w00_86, List.forall_mem_cons.mpr ⟨w00_87, List.forall_mem_cons.mpr ⟨w00_88, List.forall_mem_cons.mpr ⟨w00_89, List.forall_mem_cons.mpr ⟨w00_90, List.forall_mem_cons.mpr ⟨w00_91, List.forall_mem_cons.mpr ⟨w00_92, List.forall_mem_cons.mpr ⟨w00_93, List.forall_mem_cons.mpr ⟨w00_94, List.forall_mem_cons.mpr ⟨w00_95, List.forall_mem_cons.mpr ⟨w00_96, List.forall_mem_cons.mpr ⟨w00_97, List.forall_mem_cons.mpr ⟨w00_98, List.forall_mem_cons.mpr ⟨w00_99, List.forall_mem_cons.mpr ⟨w00_100, fun _ h => absurd h List.not_mem_nil⟩⟩⟩⟩⟩⟩⟩⟩⟩⟩⟩⟩⟩⟩⟩⟩⟩⟩⟩⟩⟩⟩⟩⟩⟩⟩⟩⟩⟩⟩⟩⟩⟩⟩⟩⟩⟩⟩⟩⟩⟩⟩⟩⟩⟩⟩⟩⟩⟩⟩⟩⟩⟩⟩⟩⟩⟩⟩⟩⟩⟩⟩⟩⟩⟩⟩⟩⟩⟩⟩⟩⟩⟩⟩⟩⟩⟩⟩⟩⟩⟩⟩⟩⟩⟩⟩⟩⟩⟩⟩⟩⟩⟩⟩⟩⟩⟩⟩⟩⟩⟩
theorem w00_r : List.range 101 = [0, 1, 2, 3, 4, 5, 6, 7, 8, 9, 10, 11, 12, 13, 14, 15, 16, 17, 18, 19, 20, 21, 22, 23, 24, 25, 26, 27, 28, 29, 30, 31, 32, 33, 34, 35, 36, 37, 38, 39, 40, 41, 42, 43, 44, 45, 46, 47, 48, 49, 50, 51, 52, 53, 54, 55, 56, 57, 58, 59, 60, 61, 62, 63, 64, 65, 66, 67, 68, 69, 70, 71, 72, 73, 74, 75, 76, 77, 78, 79, 80, 81, 82, 83, 84, 85, 86, 87, 88, 89, 90, 91, 92, 93, 94, 95, 96, 97, 98, 99, 100] := by decide
theorem y00_len : y00.length = 101 := rfl
theorem w00 {G : gT} : wls G (lw y00) = wls G (sw f00 a00) := by
  show (List.range y00.length).map (fun i => (gad G i, wre G (y00.getD i dE))) = (List.range 101).map (fun i => (gad G i, wre G (sCell f00 a00 i)))
  rw [y00_len]
  refine List.map_congr_left (fun i hi => ?_)
  rw [w00_r] at hi
  rw [w00_all i hi]

