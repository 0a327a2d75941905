section
-- ===== PART A: goes FIRST, ahead of the names: the tables' words, and 'selects' of the private methods out of them =====
/-- a private method of a class that the tables say can be made, by its rows of tables_1 -/
def lw_okq (q : MethodName × Nat) : Prop := (q.1.cls ≠ "java/lang/invoke/MethodHandle" ∧ q.1.cls ≠ "java/lang/invoke/VarHandle") ∧ Cond.instantiable q.1.cls q.2 ∈ tables_1 ∧ Cond.privateMethod q.1 ∈ tables_1 ∧ Cond.instanceMethod q.1 ∈ tables_1
theorem lw_p0 : lw_okq (⟨"WhipCrack$PlaitReader", "readClause", "(LWhipCrack$Text;)V"⟩, 2) := ⟨⟨by decide +kernel, by decide +kernel⟩, List.mem_of_getElem? (i := 150) (by decide +kernel), List.mem_of_getElem? (i := 391) (by decide +kernel), List.mem_of_getElem? (i := 392) (by decide +kernel)⟩
theorem lw_p1 : lw_okq (⟨"WhipCrack$PlaitReader", "readPieces", "(LWhipCrack$Text;)V"⟩, 2) := ⟨⟨by decide +kernel, by decide +kernel⟩, List.mem_of_getElem? (i := 150) (by decide +kernel), List.mem_of_getElem? (i := 456) (by decide +kernel), List.mem_of_getElem? (i := 457) (by decide +kernel)⟩
theorem lw_p2 : lw_okq (⟨"WhipCrack$Text", "readFigures", "(II)I"⟩, 6) := ⟨⟨by decide +kernel, by decide +kernel⟩, List.mem_of_getElem? (i := 117) (by decide +kernel), List.mem_of_getElem? (i := 465) (by decide +kernel), List.mem_of_getElem? (i := 466) (by decide +kernel)⟩
theorem lw_p3 : lw_okq (⟨"WhipCrack$PlaitReader", "readLength", "(LWhipCrack$Text;)V"⟩, 2) := ⟨⟨by decide +kernel, by decide +kernel⟩, List.mem_of_getElem? (i := 150) (by decide +kernel), List.mem_of_getElem? (i := 497) (by decide +kernel), List.mem_of_getElem? (i := 498) (by decide +kernel)⟩
theorem lw_p4 : lw_okq (⟨"WhipCrack", "endReading", "()I"⟩, 18) := ⟨⟨by decide +kernel, by decide +kernel⟩, List.mem_of_getElem? (i := 22) (by decide +kernel), List.mem_of_getElem? (i := 501) (by decide +kernel), List.mem_of_getElem? (i := 502) (by decide +kernel)⟩
theorem lw_p5 : lw_okq (⟨"WhipCrack", "setChanged", "()V"⟩, 18) := ⟨⟨by decide +kernel, by decide +kernel⟩, List.mem_of_getElem? (i := 22) (by decide +kernel), List.mem_of_getElem? (i := 512) (by decide +kernel), List.mem_of_getElem? (i := 513) (by decide +kernel)⟩
theorem lw_p6 : lw_okq (⟨"WhipCrack$WayReader", "readPart", "(LWhipCrack$Text;)V"⟩, 10) := ⟨⟨by decide +kernel, by decide +kernel⟩, List.mem_of_getElem? (i := 166) (by decide +kernel), List.mem_of_getElem? (i := 528) (by decide +kernel), List.mem_of_getElem? (i := 529) (by decide +kernel)⟩
theorem lw_p7 : lw_okq (⟨"WhipCrack$WayReader", "readGo", "(LWhipCrack$Text;)V"⟩, 10) := ⟨⟨by decide +kernel, by decide +kernel⟩, List.mem_of_getElem? (i := 166) (by decide +kernel), List.mem_of_getElem? (i := 534) (by decide +kernel), List.mem_of_getElem? (i := 535) (by decide +kernel)⟩
theorem lw_p8 : lw_okq (⟨"WhipCrack$WayReader", "addStep", "(III)V"⟩, 10) := ⟨⟨by decide +kernel, by decide +kernel⟩, List.mem_of_getElem? (i := 166) (by decide +kernel), List.mem_of_getElem? (i := 545) (by decide +kernel), List.mem_of_getElem? (i := 546) (by decide +kernel)⟩
theorem lw_p9 : lw_okq (⟨"WhipCrack$WayReader", "openTimes", "(LWhipCrack$Text;)V"⟩, 10) := ⟨⟨by decide +kernel, by decide +kernel⟩, List.mem_of_getElem? (i := 166) (by decide +kernel), List.mem_of_getElem? (i := 553) (by decide +kernel), List.mem_of_getElem? (i := 554) (by decide +kernel)⟩
theorem lw_p10 : lw_okq (⟨"WhipCrack$WayReader", "closeTimes", "()V"⟩, 10) := ⟨⟨by decide +kernel, by decide +kernel⟩, List.mem_of_getElem? (i := 166) (by decide +kernel), List.mem_of_getElem? (i := 559) (by decide +kernel), List.mem_of_getElem? (i := 560) (by decide +kernel)⟩
theorem lw_p11 : lw_okq (⟨"WhipCrack$WayReader", "copyStep", "(I)V"⟩, 10) := ⟨⟨by decide +kernel, by decide +kernel⟩, List.mem_of_getElem? (i := 166) (by decide +kernel), List.mem_of_getElem? (i := 563) (by decide +kernel), List.mem_of_getElem? (i := 564) (by decide +kernel)⟩
theorem lw_p12 : lw_okq (⟨"WhipCrack", "isJoint", "(I)Z"⟩, 18) := ⟨⟨by decide +kernel, by decide +kernel⟩, List.mem_of_getElem? (i := 22) (by decide +kernel), List.mem_of_getElem? (i := 625) (by decide +kernel), List.mem_of_getElem? (i := 626) (by decide +kernel)⟩
theorem lw_p13 : lw_okq (⟨"WhipCrack", "isTick", "(I)Z"⟩, 18) := ⟨⟨by decide +kernel, by decide +kernel⟩, List.mem_of_getElem? (i := 22) (by decide +kernel), List.mem_of_getElem? (i := 629) (by decide +kernel), List.mem_of_getElem? (i := 630) (by decide +kernel)⟩
theorem lw_p14 : lw_okq (⟨"WhipCrack", "theThrow", "()LWhipCrack$Flight;"⟩, 18) := ⟨⟨by decide +kernel, by decide +kernel⟩, List.mem_of_getElem? (i := 22) (by decide +kernel), List.mem_of_getElem? (i := 633) (by decide +kernel), List.mem_of_getElem? (i := 634) (by decide +kernel)⟩
theorem lw_p15 : lw_okq (⟨"WhipCrack$Flight", "rest", "()V"⟩, 8) := ⟨⟨by decide +kernel, by decide +kernel⟩, List.mem_of_getElem? (i := 203) (by decide +kernel), List.mem_of_getElem? (i := 643) (by decide +kernel), List.mem_of_getElem? (i := 644) (by decide +kernel)⟩
def lw_privs_1 : List (MethodName × Nat) := [(⟨"WhipCrack$PlaitReader", "readClause", "(LWhipCrack$Text;)V"⟩, 2), (⟨"WhipCrack$PlaitReader", "readPieces", "(LWhipCrack$Text;)V"⟩, 2), (⟨"WhipCrack$Text", "readFigures", "(II)I"⟩, 6), (⟨"WhipCrack$PlaitReader", "readLength", "(LWhipCrack$Text;)V"⟩, 2), (⟨"WhipCrack", "endReading", "()I"⟩, 18), (⟨"WhipCrack", "setChanged", "()V"⟩, 18), (⟨"WhipCrack$WayReader", "readPart", "(LWhipCrack$Text;)V"⟩, 10), (⟨"WhipCrack$WayReader", "readGo", "(LWhipCrack$Text;)V"⟩, 10), (⟨"WhipCrack$WayReader", "addStep", "(III)V"⟩, 10), (⟨"WhipCrack$WayReader", "openTimes", "(LWhipCrack$Text;)V"⟩, 10), (⟨"WhipCrack$WayReader", "closeTimes", "()V"⟩, 10), (⟨"WhipCrack$WayReader", "copyStep", "(I)V"⟩, 10), (⟨"WhipCrack", "isJoint", "(I)Z"⟩, 18), (⟨"WhipCrack", "isTick", "(I)Z"⟩, 18), (⟨"WhipCrack", "theThrow", "()LWhipCrack$Flight;"⟩, 18), (⟨"WhipCrack$Flight", "rest", "()V"⟩, 8)]
theorem lw_r1 : ∀ q ∈ lw_privs_1, lw_okq q := List.forall_mem_cons.mpr ⟨lw_p0, List.forall_mem_cons.mpr ⟨lw_p1, List.forall_mem_cons.mpr ⟨lw_p2, List.forall_mem_cons.mpr ⟨lw_p3, List.forall_mem_cons.mpr ⟨lw_p4, List.forall_mem_cons.mpr ⟨lw_p5, List.forall_mem_cons.mpr ⟨lw_p6, List.forall_mem_cons.mpr ⟨lw_p7, List.forall_mem_cons.mpr ⟨lw_p8, List.forall_mem_cons.mpr ⟨lw_p9, List.forall_mem_cons.mpr ⟨lw_p10, List.forall_mem_cons.mpr ⟨lw_p11, List.forall_mem_cons.mpr ⟨lw_p12, List.forall_mem_cons.mpr ⟨lw_p13, List.forall_mem_cons.mpr ⟨lw_p14, List.forall_mem_cons.mpr ⟨lw_p15, fun _ h => absurd h List.not_mem_nil⟩⟩⟩⟩⟩⟩⟩⟩⟩⟩⟩⟩⟩⟩⟩⟩
theorem lw_p16 : lw_okq (⟨"WhipCrack$Flight", "goOn", "(III)V"⟩, 8) := ⟨⟨by decide +kernel, by decide +kernel⟩, List.mem_of_getElem? (i := 203) (by decide +kernel), List.mem_of_getElem? (i := 647) (by decide +kernel), List.mem_of_getElem? (i := 648) (by decide +kernel)⟩
theorem lw_p17 : lw_okq (⟨"WhipCrack$Flight", "bend", "(I)V"⟩, 8) := ⟨⟨by decide +kernel, by decide +kernel⟩, List.mem_of_getElem? (i := 203) (by decide +kernel), List.mem_of_getElem? (i := 666) (by decide +kernel), List.mem_of_getElem? (i := 667) (by decide +kernel)⟩
theorem lw_p18 : lw_okq (⟨"WhipCrack$Flight", "pull", "(I)Z"⟩, 8) := ⟨⟨by decide +kernel, by decide +kernel⟩, List.mem_of_getElem? (i := 203) (by decide +kernel), List.mem_of_getElem? (i := 671) (by decide +kernel), List.mem_of_getElem? (i := 672) (by decide +kernel)⟩
theorem lw_p19 : lw_okq (⟨"WhipCrack$Flight", "lengthIfStretched", "(JJ)J"⟩, 8) := ⟨⟨by decide +kernel, by decide +kernel⟩, List.mem_of_getElem? (i := 203) (by decide +kernel), List.mem_of_getElem? (i := 675) (by decide +kernel), List.mem_of_getElem? (i := 676) (by decide +kernel)⟩
theorem lw_p20 : lw_okq (⟨"WhipCrack$Flight", "pullBoth", "(IIJJJ)V"⟩, 8) := ⟨⟨by decide +kernel, by decide +kernel⟩, List.mem_of_getElem? (i := 203) (by decide +kernel), List.mem_of_getElem? (i := 679) (by decide +kernel), List.mem_of_getElem? (i := 680) (by decide +kernel)⟩
theorem lw_p21 : lw_okq (⟨"WhipCrack$Flight", "shorten", "(I)V"⟩, 8) := ⟨⟨by decide +kernel, by decide +kernel⟩, List.mem_of_getElem? (i := 203) (by decide +kernel), List.mem_of_getElem? (i := 683) (by decide +kernel), List.mem_of_getElem? (i := 684) (by decide +kernel)⟩
theorem lw_p22 : lw_okq (⟨"WhipCrack$Flight", "moved", "(II)J"⟩, 8) := ⟨⟨by decide +kernel, by decide +kernel⟩, List.mem_of_getElem? (i := 203) (by decide +kernel), List.mem_of_getElem? (i := 703) (by decide +kernel), List.mem_of_getElem? (i := 704) (by decide +kernel)⟩
theorem lw_p23 : lw_okq (⟨"WhipCrack$Flight", "isCrack", "(II)Z"⟩, 8) := ⟨⟨by decide +kernel, by decide +kernel⟩, List.mem_of_getElem? (i := 203) (by decide +kernel), List.mem_of_getElem? (i := 740) (by decide +kernel), List.mem_of_getElem? (i := 741) (by decide +kernel)⟩
theorem lw_p24 : lw_okq (⟨"WhipCrack$Flight", "isFast", "(II)Z"⟩, 8) := ⟨⟨by decide +kernel, by decide +kernel⟩, List.mem_of_getElem? (i := 203) (by decide +kernel), List.mem_of_getElem? (i := 744) (by decide +kernel), List.mem_of_getElem? (i := 745) (by decide +kernel)⟩
theorem lw_p25 : lw_okq (⟨"WhipCrack", "tellCrack", "(LWhipCrack$Flight;III)I"⟩, 18) := ⟨⟨by decide +kernel, by decide +kernel⟩, List.mem_of_getElem? (i := 22) (by decide +kernel), List.mem_of_getElem? (i := 752) (by decide +kernel), List.mem_of_getElem? (i := 753) (by decide +kernel)⟩
theorem lw_p26 : lw_okq (⟨"WhipCrack$Flight", "hasCrack", "(I)Z"⟩, 8) := ⟨⟨by decide +kernel, by decide +kernel⟩, List.mem_of_getElem? (i := 203) (by decide +kernel), List.mem_of_getElem? (i := 788) (by decide +kernel), List.mem_of_getElem? (i := 789) (by decide +kernel)⟩
theorem lw_p27 : lw_okq (⟨"WhipCrack$Search", "layRow", "()V"⟩, 5) := ⟨⟨by decide +kernel, by decide +kernel⟩, List.mem_of_getElem? (i := 239) (by decide +kernel), List.mem_of_getElem? (i := 841) (by decide +kernel), List.mem_of_getElem? (i := 842) (by decide +kernel)⟩
theorem lw_p28 : lw_okq (⟨"WhipCrack$Search", "compare", "(I)V"⟩, 5) := ⟨⟨by decide +kernel, by decide +kernel⟩, List.mem_of_getElem? (i := 239) (by decide +kernel), List.mem_of_getElem? (i := 856) (by decide +kernel), List.mem_of_getElem? (i := 857) (by decide +kernel)⟩
theorem lw_p29 : lw_okq (⟨"WhipCrack$Search", "nextRow", "()Z"⟩, 5) := ⟨⟨by decide +kernel, by decide +kernel⟩, List.mem_of_getElem? (i := 239) (by decide +kernel), List.mem_of_getElem? (i := 861) (by decide +kernel), List.mem_of_getElem? (i := 862) (by decide +kernel)⟩
theorem lw_p30 : lw_okq (⟨"WhipCrack", "throwReally", "()I"⟩, 18) := ⟨⟨by decide +kernel, by decide +kernel⟩, List.mem_of_getElem? (i := 22) (by decide +kernel), List.mem_of_getElem? (i := 907) (by decide +kernel), List.mem_of_getElem? (i := 908) (by decide +kernel)⟩
theorem lw_p31 : lw_okq (⟨"WhipCrack$Hides", "isEnough", "(I)Z"⟩, 5) := ⟨⟨by decide +kernel, by decide +kernel⟩, List.mem_of_getElem? (i := 266) (by decide +kernel), List.mem_of_getElem? (i := 955) (by decide +kernel), List.mem_of_getElem? (i := 956) (by decide +kernel)⟩
def lw_privs_2 : List (MethodName × Nat) := [(⟨"WhipCrack$Flight", "goOn", "(III)V"⟩, 8), (⟨"WhipCrack$Flight", "bend", "(I)V"⟩, 8), (⟨"WhipCrack$Flight", "pull", "(I)Z"⟩, 8), (⟨"WhipCrack$Flight", "lengthIfStretched", "(JJ)J"⟩, 8), (⟨"WhipCrack$Flight", "pullBoth", "(IIJJJ)V"⟩, 8), (⟨"WhipCrack$Flight", "shorten", "(I)V"⟩, 8), (⟨"WhipCrack$Flight", "moved", "(II)J"⟩, 8), (⟨"WhipCrack$Flight", "isCrack", "(II)Z"⟩, 8), (⟨"WhipCrack$Flight", "isFast", "(II)Z"⟩, 8), (⟨"WhipCrack", "tellCrack", "(LWhipCrack$Flight;III)I"⟩, 18), (⟨"WhipCrack$Flight", "hasCrack", "(I)Z"⟩, 8), (⟨"WhipCrack$Search", "layRow", "()V"⟩, 5), (⟨"WhipCrack$Search", "compare", "(I)V"⟩, 5), (⟨"WhipCrack$Search", "nextRow", "()Z"⟩, 5), (⟨"WhipCrack", "throwReally", "()I"⟩, 18), (⟨"WhipCrack$Hides", "isEnough", "(I)Z"⟩, 5)]
theorem lw_r2 : ∀ q ∈ lw_privs_2, lw_okq q := List.forall_mem_cons.mpr ⟨lw_p16, List.forall_mem_cons.mpr ⟨lw_p17, List.forall_mem_cons.mpr ⟨lw_p18, List.forall_mem_cons.mpr ⟨lw_p19, List.forall_mem_cons.mpr ⟨lw_p20, List.forall_mem_cons.mpr ⟨lw_p21, List.forall_mem_cons.mpr ⟨lw_p22, List.forall_mem_cons.mpr ⟨lw_p23, List.forall_mem_cons.mpr ⟨lw_p24, List.forall_mem_cons.mpr ⟨lw_p25, List.forall_mem_cons.mpr ⟨lw_p26, List.forall_mem_cons.mpr ⟨lw_p27, List.forall_mem_cons.mpr ⟨lw_p28, List.forall_mem_cons.mpr ⟨lw_p29, List.forall_mem_cons.mpr ⟨lw_p30, List.forall_mem_cons.mpr ⟨lw_p31, fun _ h => absurd h List.not_mem_nil⟩⟩⟩⟩⟩⟩⟩⟩⟩⟩⟩⟩⟩⟩⟩⟩
theorem lw_p32 : lw_okq (⟨"WhipCrack$Hides", "afterCut", "(III)I"⟩, 5) := ⟨⟨by decide +kernel, by decide +kernel⟩, List.mem_of_getElem? (i := 266) (by decide +kernel), List.mem_of_getElem? (i := 959) (by decide +kernel), List.mem_of_getElem? (i := 960) (by decide +kernel)⟩
theorem lw_p33 : lw_okq (⟨"WhipCrack$Hides", "keepLeast", "(II)V"⟩, 5) := ⟨⟨by decide +kernel, by decide +kernel⟩, List.mem_of_getElem? (i := 266) (by decide +kernel), List.mem_of_getElem? (i := 963) (by decide +kernel), List.mem_of_getElem? (i := 964) (by decide +kernel)⟩
theorem lw_p34 : lw_okq (⟨"WhipCrackModel", "beginText", "()V"⟩, 60) := ⟨⟨by decide +kernel, by decide +kernel⟩, List.mem_of_getElem? (i := 1012) (by decide +kernel), List.mem_of_getElem? (i := 1214) (by decide +kernel), List.mem_of_getElem? (i := 1215) (by decide +kernel)⟩
theorem lw_p35 : lw_okq (⟨"WhipCrackModel", "here", "()I"⟩, 60) := ⟨⟨by decide +kernel, by decide +kernel⟩, List.mem_of_getElem? (i := 1012) (by decide +kernel), List.mem_of_getElem? (i := 1218) (by decide +kernel), List.mem_of_getElem? (i := 1219) (by decide +kernel)⟩
theorem lw_p36 : lw_okq (⟨"WhipCrackModel", "takeWord", "()V"⟩, 60) := ⟨⟨by decide +kernel, by decide +kernel⟩, List.mem_of_getElem? (i := 1012) (by decide +kernel), List.mem_of_getElem? (i := 1222) (by decide +kernel), List.mem_of_getElem? (i := 1223) (by decide +kernel)⟩
theorem lw_p37 : lw_okq (⟨"WhipCrackModel", "isWord", "(IIIIIIII)Z"⟩, 60) := ⟨⟨by decide +kernel, by decide +kernel⟩, List.mem_of_getElem? (i := 1012) (by decide +kernel), List.mem_of_getElem? (i := 1228) (by decide +kernel), List.mem_of_getElem? (i := 1229) (by decide +kernel)⟩
theorem lw_p38 : lw_okq (⟨"WhipCrackModel", "takePiece", "()V"⟩, 60) := ⟨⟨by decide +kernel, by decide +kernel⟩, List.mem_of_getElem? (i := 1012) (by decide +kernel), List.mem_of_getElem? (i := 1232) (by decide +kernel), List.mem_of_getElem? (i := 1233) (by decide +kernel)⟩
theorem lw_p39 : lw_okq (⟨"WhipCrackModel", "takeNumber", "(IIZ)I"⟩, 60) := ⟨⟨by decide +kernel, by decide +kernel⟩, List.mem_of_getElem? (i := 1012) (by decide +kernel), List.mem_of_getElem? (i := 1236) (by decide +kernel), List.mem_of_getElem? (i := 1237) (by decide +kernel)⟩
theorem lw_p40 : lw_okq (⟨"WhipCrackModel", "want", "(ZII)Z"⟩, 60) := ⟨⟨by decide +kernel, by decide +kernel⟩, List.mem_of_getElem? (i := 1012) (by decide +kernel), List.mem_of_getElem? (i := 1245) (by decide +kernel), List.mem_of_getElem? (i := 1246) (by decide +kernel)⟩
theorem lw_p41 : lw_okq (⟨"WhipCrackModel", "takeSign", "(I)V"⟩, 60) := ⟨⟨by decide +kernel, by decide +kernel⟩, List.mem_of_getElem? (i := 1012) (by decide +kernel), List.mem_of_getElem? (i := 1249) (by decide +kernel), List.mem_of_getElem? (i := 1250) (by decide +kernel)⟩
theorem lw_p42 : lw_okq (⟨"WhipCrackModel", "takeWay", "()V"⟩, 60) := ⟨⟨by decide +kernel, by decide +kernel⟩, List.mem_of_getElem? (i := 1012) (by decide +kernel), List.mem_of_getElem? (i := 1257) (by decide +kernel), List.mem_of_getElem? (i := 1258) (by decide +kernel)⟩
theorem lw_p43 : lw_okq (⟨"WhipCrackModel", "addOp", "(IIII)V"⟩, 60) := ⟨⟨by decide +kernel, by decide +kernel⟩, List.mem_of_getElem? (i := 1012) (by decide +kernel), List.mem_of_getElem? (i := 1261) (by decide +kernel), List.mem_of_getElem? (i := 1262) (by decide +kernel)⟩
theorem lw_p44 : lw_okq (⟨"WhipCrackModel", "takeGo", "()V"⟩, 60) := ⟨⟨by decide +kernel, by decide +kernel⟩, List.mem_of_getElem? (i := 1012) (by decide +kernel), List.mem_of_getElem? (i := 1265) (by decide +kernel), List.mem_of_getElem? (i := 1266) (by decide +kernel)⟩
theorem lw_p45 : lw_okq (⟨"WhipCrackModel", "runWay", "()Z"⟩, 60) := ⟨⟨by decide +kernel, by decide +kernel⟩, List.mem_of_getElem? (i := 1012) (by decide +kernel), List.mem_of_getElem? (i := 1269) (by decide +kernel), List.mem_of_getElem? (i := 1270) (by decide +kernel)⟩
theorem lw_p46 : lw_okq (⟨"WhipCrackModel", "weightOf", "(I)I"⟩, 60) := ⟨⟨by decide +kernel, by decide +kernel⟩, List.mem_of_getElem? (i := 1012) (by decide +kernel), List.mem_of_getElem? (i := 1281) (by decide +kernel), List.mem_of_getElem? (i := 1282) (by decide +kernel)⟩
theorem lw_p47 : lw_okq (⟨"WhipCrackModel", "bendsOf", "(I)I"⟩, 60) := ⟨⟨by decide +kernel, by decide +kernel⟩, List.mem_of_getElem? (i := 1012) (by decide +kernel), List.mem_of_getElem? (i := 1288) (by decide +kernel), List.mem_of_getElem? (i := 1289) (by decide +kernel)⟩
def lw_privs_3 : List (MethodName × Nat) := [(⟨"WhipCrack$Hides", "afterCut", "(III)I"⟩, 5), (⟨"WhipCrack$Hides", "keepLeast", "(II)V"⟩, 5), (⟨"WhipCrackModel", "beginText", "()V"⟩, 60), (⟨"WhipCrackModel", "here", "()I"⟩, 60), (⟨"WhipCrackModel", "takeWord", "()V"⟩, 60), (⟨"WhipCrackModel", "isWord", "(IIIIIIII)Z"⟩, 60), (⟨"WhipCrackModel", "takePiece", "()V"⟩, 60), (⟨"WhipCrackModel", "takeNumber", "(IIZ)I"⟩, 60), (⟨"WhipCrackModel", "want", "(ZII)Z"⟩, 60), (⟨"WhipCrackModel", "takeSign", "(I)V"⟩, 60), (⟨"WhipCrackModel", "takeWay", "()V"⟩, 60), (⟨"WhipCrackModel", "addOp", "(IIII)V"⟩, 60), (⟨"WhipCrackModel", "takeGo", "()V"⟩, 60), (⟨"WhipCrackModel", "runWay", "()Z"⟩, 60), (⟨"WhipCrackModel", "weightOf", "(I)I"⟩, 60), (⟨"WhipCrackModel", "bendsOf", "(I)I"⟩, 60)]
theorem lw_r3 : ∀ q ∈ lw_privs_3, lw_okq q := List.forall_mem_cons.mpr ⟨lw_p32, List.forall_mem_cons.mpr ⟨lw_p33, List.forall_mem_cons.mpr ⟨lw_p34, List.forall_mem_cons.mpr ⟨lw_p35, List.forall_mem_cons.mpr ⟨lw_p36, List.forall_mem_cons.mpr ⟨lw_p37, List.forall_mem_cons.mpr ⟨lw_p38, List.forall_mem_cons.mpr ⟨lw_p39, List.forall_mem_cons.mpr ⟨lw_p40, List.forall_mem_cons.mpr ⟨lw_p41, List.forall_mem_cons.mpr ⟨lw_p42, List.forall_mem_cons.mpr ⟨lw_p43, List.forall_mem_cons.mpr ⟨lw_p44, List.forall_mem_cons.mpr ⟨lw_p45, List.forall_mem_cons.mpr ⟨lw_p46, List.forall_mem_cons.mpr ⟨lw_p47, fun _ h => absurd h List.not_mem_nil⟩⟩⟩⟩⟩⟩⟩⟩⟩⟩⟩⟩⟩⟩⟩⟩
theorem lw_p48 : lw_okq (⟨"WhipCrackModel", "allStrands", "()I"⟩, 60) := ⟨⟨by decide +kernel, by decide +kernel⟩, List.mem_of_getElem? (i := 1012) (by decide +kernel), List.mem_of_getElem? (i := 1313) (by decide +kernel), List.mem_of_getElem? (i := 1314) (by decide +kernel)⟩
theorem lw_p49 : lw_okq (⟨"WhipCrackModel", "noJoint", "(I)Z"⟩, 60) := ⟨⟨by decide +kernel, by decide +kernel⟩, List.mem_of_getElem? (i := 1012) (by decide +kernel), List.mem_of_getElem? (i := 1321) (by decide +kernel), List.mem_of_getElem? (i := 1322) (by decide +kernel)⟩
theorem lw_p50 : lw_okq (⟨"WhipCrackModel", "toss", "(I)V"⟩, 60) := ⟨⟨by decide +kernel, by decide +kernel⟩, List.mem_of_getElem? (i := 1012) (by decide +kernel), List.mem_of_getElem? (i := 1325) (by decide +kernel), List.mem_of_getElem? (i := 1326) (by decide +kernel)⟩
theorem lw_p51 : lw_okq (⟨"WhipCrackModel", "goOn", "(II)V"⟩, 60) := ⟨⟨by decide +kernel, by decide +kernel⟩, List.mem_of_getElem? (i := 1012) (by decide +kernel), List.mem_of_getElem? (i := 1332) (by decide +kernel), List.mem_of_getElem? (i := 1333) (by decide +kernel)⟩
theorem lw_p52 : lw_okq (⟨"WhipCrackModel", "bend", "(II)V"⟩, 60) := ⟨⟨by decide +kernel, by decide +kernel⟩, List.mem_of_getElem? (i := 1012) (by decide +kernel), List.mem_of_getElem? (i := 1345) (by decide +kernel), List.mem_of_getElem? (i := 1346) (by decide +kernel)⟩
theorem lw_p53 : lw_okq (⟨"WhipCrackModel", "pull", "(II)V"⟩, 60) := ⟨⟨by decide +kernel, by decide +kernel⟩, List.mem_of_getElem? (i := 1012) (by decide +kernel), List.mem_of_getElem? (i := 1349) (by decide +kernel), List.mem_of_getElem? (i := 1350) (by decide +kernel)⟩
theorem lw_p54 : lw_okq (⟨"WhipCrackModel", "hold", "(II)V"⟩, 60) := ⟨⟨by decide +kernel, by decide +kernel⟩, List.mem_of_getElem? (i := 1012) (by decide +kernel), List.mem_of_getElem? (i := 1353) (by decide +kernel), List.mem_of_getElem? (i := 1354) (by decide +kernel)⟩
theorem lw_p55 : lw_okq (⟨"WhipCrackModel", "speedOf", "(II)J"⟩, 60) := ⟨⟨by decide +kernel, by decide +kernel⟩, List.mem_of_getElem? (i := 1012) (by decide +kernel), List.mem_of_getElem? (i := 1361) (by decide +kernel), List.mem_of_getElem? (i := 1362) (by decide +kernel)⟩
theorem lw_p56 : lw_okq (⟨"WhipCrackModel", "forceOf", "(II)J"⟩, 60) := ⟨⟨by decide +kernel, by decide +kernel⟩, List.mem_of_getElem? (i := 1012) (by decide +kernel), List.mem_of_getElem? (i := 1370) (by decide +kernel), List.mem_of_getElem? (i := 1371) (by decide +kernel)⟩
theorem lw_p57 : lw_okq (⟨"WhipCrackModel", "loopOf", "(I)I"⟩, 60) := ⟨⟨by decide +kernel, by decide +kernel⟩, List.mem_of_getElem? (i := 1012) (by decide +kernel), List.mem_of_getElem? (i := 1378) (by decide +kernel), List.mem_of_getElem? (i := 1379) (by decide +kernel)⟩
theorem lw_p58 : lw_okq (⟨"WhipCrackModel", "findCracks", "()V"⟩, 60) := ⟨⟨by decide +kernel, by decide +kernel⟩, List.mem_of_getElem? (i := 1012) (by decide +kernel), List.mem_of_getElem? (i := 1387) (by decide +kernel), List.mem_of_getElem? (i := 1388) (by decide +kernel)⟩
theorem lw_p59 : lw_okq (⟨"WhipCrackModel", "farOf", "(I)I"⟩, 60) := ⟨⟨by decide +kernel, by decide +kernel⟩, List.mem_of_getElem? (i := 1012) (by decide +kernel), List.mem_of_getElem? (i := 1391) (by decide +kernel), List.mem_of_getElem? (i := 1392) (by decide +kernel)⟩
theorem lw_p60 : lw_okq (⟨"WhipCrackModel", "ofWhat", "(I)I"⟩, 60) := ⟨⟨by decide +kernel, by decide +kernel⟩, List.mem_of_getElem? (i := 1012) (by decide +kernel), List.mem_of_getElem? (i := 1395) (by decide +kernel), List.mem_of_getElem? (i := 1396) (by decide +kernel)⟩
theorem lw_p61 : lw_okq (⟨"WhipCrackModel", "turnsOf", "()I"⟩, 60) := ⟨⟨by decide +kernel, by decide +kernel⟩, List.mem_of_getElem? (i := 1012) (by decide +kernel), List.mem_of_getElem? (i := 1403) (by decide +kernel), List.mem_of_getElem? (i := 1404) (by decide +kernel)⟩
theorem lw_p62 : lw_okq (⟨"WhipCrackModel", "isOverhead", "()Z"⟩, 60) := ⟨⟨by decide +kernel, by decide +kernel⟩, List.mem_of_getElem? (i := 1012) (by decide +kernel), List.mem_of_getElem? (i := 1410) (by decide +kernel), List.mem_of_getElem? (i := 1411) (by decide +kernel)⟩
theorem lw_p63 : lw_okq (⟨"WhipCrackModel", "hasLoop", "()Z"⟩, 60) := ⟨⟨by decide +kernel, by decide +kernel⟩, List.mem_of_getElem? (i := 1012) (by decide +kernel), List.mem_of_getElem? (i := 1414) (by decide +kernel), List.mem_of_getElem? (i := 1415) (by decide +kernel)⟩
def lw_privs_4 : List (MethodName × Nat) := [(⟨"WhipCrackModel", "allStrands", "()I"⟩, 60), (⟨"WhipCrackModel", "noJoint", "(I)Z"⟩, 60), (⟨"WhipCrackModel", "toss", "(I)V"⟩, 60), (⟨"WhipCrackModel", "goOn", "(II)V"⟩, 60), (⟨"WhipCrackModel", "bend", "(II)V"⟩, 60), (⟨"WhipCrackModel", "pull", "(II)V"⟩, 60), (⟨"WhipCrackModel", "hold", "(II)V"⟩, 60), (⟨"WhipCrackModel", "speedOf", "(II)J"⟩, 60), (⟨"WhipCrackModel", "forceOf", "(II)J"⟩, 60), (⟨"WhipCrackModel", "loopOf", "(I)I"⟩, 60), (⟨"WhipCrackModel", "findCracks", "()V"⟩, 60), (⟨"WhipCrackModel", "farOf", "(I)I"⟩, 60), (⟨"WhipCrackModel", "ofWhat", "(I)I"⟩, 60), (⟨"WhipCrackModel", "turnsOf", "()I"⟩, 60), (⟨"WhipCrackModel", "isOverhead", "()Z"⟩, 60), (⟨"WhipCrackModel", "hasLoop", "()Z"⟩, 60)]
theorem lw_r4 : ∀ q ∈ lw_privs_4, lw_okq q := List.forall_mem_cons.mpr ⟨lw_p48, List.forall_mem_cons.mpr ⟨lw_p49, List.forall_mem_cons.mpr ⟨lw_p50, List.forall_mem_cons.mpr ⟨lw_p51, List.forall_mem_cons.mpr ⟨lw_p52, List.forall_mem_cons.mpr ⟨lw_p53, List.forall_mem_cons.mpr ⟨lw_p54, List.forall_mem_cons.mpr ⟨lw_p55, List.forall_mem_cons.mpr ⟨lw_p56, List.forall_mem_cons.mpr ⟨lw_p57, List.forall_mem_cons.mpr ⟨lw_p58, List.forall_mem_cons.mpr ⟨lw_p59, List.forall_mem_cons.mpr ⟨lw_p60, List.forall_mem_cons.mpr ⟨lw_p61, List.forall_mem_cons.mpr ⟨lw_p62, List.forall_mem_cons.mpr ⟨lw_p63, fun _ h => absurd h List.not_mem_nil⟩⟩⟩⟩⟩⟩⟩⟩⟩⟩⟩⟩⟩⟩⟩⟩
theorem lw_p64 : lw_okq (⟨"WhipCrackModel", "greatestSpeed", "()J"⟩, 60) := ⟨⟨by decide +kernel, by decide +kernel⟩, List.mem_of_getElem? (i := 1012) (by decide +kernel), List.mem_of_getElem? (i := 1448) (by decide +kernel), List.mem_of_getElem? (i := 1449) (by decide +kernel)⟩
theorem lw_p65 : lw_okq (⟨"WhipCrackModel", "farFrom", "(IIII)J"⟩, 60) := ⟨⟨by decide +kernel, by decide +kernel⟩, List.mem_of_getElem? (i := 1012) (by decide +kernel), List.mem_of_getElem? (i := 1456) (by decide +kernel), List.mem_of_getElem? (i := 1457) (by decide +kernel)⟩
theorem lw_p66 : lw_okq (⟨"WhipCrackModel", "aloneBy", "(II)J"⟩, 60) := ⟨⟨by decide +kernel, by decide +kernel⟩, List.mem_of_getElem? (i := 1012) (by decide +kernel), List.mem_of_getElem? (i := 1464) (by decide +kernel), List.mem_of_getElem? (i := 1465) (by decide +kernel)⟩
theorem lw_p67 : lw_okq (⟨"WhipCrackModel", "tossBoth", "(II)V"⟩, 60) := ⟨⟨by decide +kernel, by decide +kernel⟩, List.mem_of_getElem? (i := 1012) (by decide +kernel), List.mem_of_getElem? (i := 1481) (by decide +kernel), List.mem_of_getElem? (i := 1482) (by decide +kernel)⟩
theorem lw_p68 : lw_okq (⟨"WhipCrackModel", "closeBy", "(I)I"⟩, 60) := ⟨⟨by decide +kernel, by decide +kernel⟩, List.mem_of_getElem? (i := 1012) (by decide +kernel), List.mem_of_getElem? (i := 1485) (by decide +kernel), List.mem_of_getElem? (i := 1486) (by decide +kernel)⟩
theorem lw_p69 : lw_okq (⟨"WhipCrackModel", "wearOnce", "()I"⟩, 60) := ⟨⟨by decide +kernel, by decide +kernel⟩, List.mem_of_getElem? (i := 1012) (by decide +kernel), List.mem_of_getElem? (i := 1500) (by decide +kernel), List.mem_of_getElem? (i := 1501) (by decide +kernel)⟩
theorem lw_p70 : lw_okq (⟨"WhipCrackModel", "canCut", "(I)Z"⟩, 60) := ⟨⟨by decide +kernel, by decide +kernel⟩, List.mem_of_getElem? (i := 1012) (by decide +kernel), List.mem_of_getElem? (i := 1529) (by decide +kernel), List.mem_of_getElem? (i := 1530) (by decide +kernel)⟩
theorem lw_p71 : lw_okq (⟨"WhipCrackModel", "sumOf", "(I)I"⟩, 60) := ⟨⟨by decide +kernel, by decide +kernel⟩, List.mem_of_getElem? (i := 1012) (by decide +kernel), List.mem_of_getElem? (i := 1533) (by decide +kernel), List.mem_of_getElem? (i := 1534) (by decide +kernel)⟩
def lw_privs_5 : List (MethodName × Nat) := [(⟨"WhipCrackModel", "greatestSpeed", "()J"⟩, 60), (⟨"WhipCrackModel", "farFrom", "(IIII)J"⟩, 60), (⟨"WhipCrackModel", "aloneBy", "(II)J"⟩, 60), (⟨"WhipCrackModel", "tossBoth", "(II)V"⟩, 60), (⟨"WhipCrackModel", "closeBy", "(I)I"⟩, 60), (⟨"WhipCrackModel", "wearOnce", "()I"⟩, 60), (⟨"WhipCrackModel", "canCut", "(I)Z"⟩, 60), (⟨"WhipCrackModel", "sumOf", "(I)I"⟩, 60)]
theorem lw_r5 : ∀ q ∈ lw_privs_5, lw_okq q := List.forall_mem_cons.mpr ⟨lw_p64, List.forall_mem_cons.mpr ⟨lw_p65, List.forall_mem_cons.mpr ⟨lw_p66, List.forall_mem_cons.mpr ⟨lw_p67, List.forall_mem_cons.mpr ⟨lw_p68, List.forall_mem_cons.mpr ⟨lw_p69, List.forall_mem_cons.mpr ⟨lw_p70, List.forall_mem_cons.mpr ⟨lw_p71, fun _ h => absurd h List.not_mem_nil⟩⟩⟩⟩⟩⟩⟩⟩
def lw_privs : List (MethodName × Nat) := lw_privs_1 ++ (lw_privs_2 ++ (lw_privs_3 ++ (lw_privs_4 ++ (lw_privs_5))))
def lw_tbl : List Cond := k2_sels lw_privs ++ tables_1
theorem lw_privs_ok : ∀ q ∈ lw_privs, lw_okq q := by
  show ∀ q ∈ lw_privs_1 ++ (lw_privs_2 ++ (lw_privs_3 ++ (lw_privs_4 ++ (lw_privs_5)))), lw_okq q
  exact List.forall_mem_append.mpr ⟨lw_r1, List.forall_mem_append.mpr ⟨lw_r2, List.forall_mem_append.mpr ⟨lw_r3, List.forall_mem_append.mpr ⟨lw_r4, lw_r5⟩⟩⟩⟩
end
section
def RX0 : String := "WhipCrack$Film"
def TX0 : u_T := fun k => match k with
  | 0 => ("WhipCrack$Film", "size", "I", false)
  | 1 => ("WhipCrack$Film", "xs", "[I", true)
  | _ => ("WhipCrack$Film", "ys", "[I", true)
def tyX0 : Nat → FieldType := fun k => match k with
  | 0 => .int
  | 1 => .array .int
  | _ => .array .int
abbrev wsX00 : List Cond := u_ws RX0 TX0 3
theorem nmX0 : ∀ a, a < 3 → ∀ b, b < 3 → a ≠ b → (TX0 a).2.1 ≠ (TX0 b).2.1 := by decide +kernel
theorem tyX0_ok : ∀ k, k < 3 → parseFieldDescriptor (TX0 k).2.2.1 = some (tyX0 k) := by decide +kernel
abbrev cX0_init : ByteArray := prog_2_method_1_code
def yX0_init : MethodName := ⟨RX0, "<init>", "()V"⟩
abbrev cX0_append : ByteArray := prog_2_method_2_code
def yX0_append : MethodName := ⟨RX0, "append", "(II)I"⟩
abbrev cX0_distance : ByteArray := prog_2_method_3_code
def yX0_distance : MethodName := ⟨RX0, "distance", "(LWhipCrack$Flight;)I"⟩
def RX1 : String := "WhipCrack$Flight"
def TX1 : u_T := fun k => match k with
  | 0 => ("WhipCrack$Flight", "tip", "I", false)
  | 1 => ("WhipCrack$Flight", "ticks", "I", false)
  | 2 => ("WhipCrack$Flight", "pace", "I", false)
  | 3 => ("WhipCrack$Flight", "length", "I", false)
  | 4 => ("WhipCrack$Flight", "xs", "[I", true)
  | 5 => ("WhipCrack$Flight", "ys", "[I", true)
  | 6 => ("WhipCrack$Flight", "weights", "[I", true)
  | _ => ("WhipCrack$Flight", "bends", "[I", true)
def tyX1 : Nat → FieldType := fun k => match k with
  | 0 => .int
  | 1 => .int
  | 2 => .int
  | 3 => .int
  | 4 => .array .int
  | 5 => .array .int
  | 6 => .array .int
  | _ => .array .int
abbrev wsX10 : List Cond := u_ws RX1 TX1 8
theorem nmX1 : ∀ a, a < 8 → ∀ b, b < 8 → a ≠ b → (TX1 a).2.1 ≠ (TX1 b).2.1 := by decide +kernel
theorem tyX1_ok : ∀ k, k < 8 → parseFieldDescriptor (TX1 k).2.2.1 = some (tyX1 k) := by decide +kernel
abbrev cX1_init : ByteArray := prog_3_method_1_code
def yX1_init : MethodName := ⟨RX1, "<init>", "()V"⟩
abbrev cX1_fly : ByteArray := prog_3_method_2_code
def yX1_fly : MethodName := ⟨RX1, "fly", "(LWhipCrack$Plait;LWhipCrack$Way;[II)V"⟩
abbrev cX1_rest : ByteArray := prog_3_method_3_code
def yX1_rest : MethodName := ⟨RX1, "rest", "()V"⟩
abbrev cX1_goOn : ByteArray := prog_3_method_4_code
def yX1_goOn : MethodName := ⟨RX1, "goOn", "(III)V"⟩
abbrev cX1_bend : ByteArray := prog_3_method_5_code
def yX1_bend : MethodName := ⟨RX1, "bend", "(I)V"⟩
abbrev cX1_pull : ByteArray := prog_3_method_6_code
def yX1_pull : MethodName := ⟨RX1, "pull", "(I)Z"⟩
abbrev cX1_pullBoth : ByteArray := prog_3_method_7_code
def yX1_pullBoth : MethodName := ⟨RX1, "pullBoth", "(IIJJJ)V"⟩
abbrev cX1_shorten : ByteArray := prog_3_method_8_code
def yX1_shorten : MethodName := ⟨RX1, "shorten", "(I)V"⟩
abbrev cX1_lengthIfStretched : ByteArray := prog_3_method_9_code
def yX1_lengthIfStretched : MethodName := ⟨RX1, "lengthIfStretched", "(JJ)J"⟩
abbrev cX1_xOf : ByteArray := prog_3_method_10_code
def yX1_xOf : MethodName := ⟨RX1, "xOf", "(II)I"⟩
abbrev cX1_yOf : ByteArray := prog_3_method_11_code
def yX1_yOf : MethodName := ⟨RX1, "yOf", "(II)I"⟩
abbrev cX1_moved : ByteArray := prog_3_method_12_code
def yX1_moved : MethodName := ⟨RX1, "moved", "(II)J"⟩
abbrev cX1_squares : ByteArray := prog_3_method_13_code
def yX1_squares : MethodName := ⟨RX1, "squares", "(JJ)J"⟩
abbrev cX1_speedOf : ByteArray := prog_3_method_14_code
def yX1_speedOf : MethodName := ⟨RX1, "speedOf", "(II)I"⟩
abbrev cX1_forceOf : ByteArray := prog_3_method_15_code
def yX1_forceOf : MethodName := ⟨RX1, "forceOf", "(II)J"⟩
abbrev cX1_forceOfAll : ByteArray := prog_3_method_16_code
def yX1_forceOfAll : MethodName := ⟨RX1, "forceOfAll", "(I)J"⟩
abbrev cX1_pathOf : ByteArray := prog_3_method_17_code
def yX1_pathOf : MethodName := ⟨RX1, "pathOf", "(I)I"⟩
abbrev cX1_greatestSpeed : ByteArray := prog_3_method_18_code
def yX1_greatestSpeed : MethodName := ⟨RX1, "greatestSpeed", "()I"⟩
abbrev cX1_loopOf : ByteArray := prog_3_method_19_code
def yX1_loopOf : MethodName := ⟨RX1, "loopOf", "(I)I"⟩
abbrev cX1_hasLoop : ByteArray := prog_3_method_20_code
def yX1_hasLoop : MethodName := ⟨RX1, "hasLoop", "()Z"⟩
abbrev cX1_isOverhead : ByteArray := prog_3_method_21_code
def yX1_isOverhead : MethodName := ⟨RX1, "isOverhead", "()Z"⟩
abbrev cX1_isFast : ByteArray := prog_3_method_22_code
def yX1_isFast : MethodName := ⟨RX1, "isFast", "(II)Z"⟩
abbrev cX1_isCrack : ByteArray := prog_3_method_23_code
def yX1_isCrack : MethodName := ⟨RX1, "isCrack", "(II)Z"⟩
abbrev cX1_crackCount : ByteArray := prog_3_method_24_code
def yX1_crackCount : MethodName := ⟨RX1, "crackCount", "()I"⟩
abbrev cX1_findCrack : ByteArray := prog_3_method_25_code
def yX1_findCrack : MethodName := ⟨RX1, "findCrack", "(I)I"⟩
abbrev cX1_hasCrack : ByteArray := prog_3_method_26_code
def yX1_hasCrack : MethodName := ⟨RX1, "hasCrack", "(I)Z"⟩
abbrev cX1_firstCrackTick : ByteArray := prog_3_method_27_code
def yX1_firstCrackTick : MethodName := ⟨RX1, "firstCrackTick", "()I"⟩
abbrev cX1_lastCrackTick : ByteArray := prog_3_method_28_code
def yX1_lastCrackTick : MethodName := ⟨RX1, "lastCrackTick", "()I"⟩
abbrev cX1_crackOf : ByteArray := prog_3_method_29_code
def yX1_crackOf : MethodName := ⟨RX1, "crackOf", "(II)I"⟩
abbrev cX1_loudOf : ByteArray := prog_3_method_30_code
def yX1_loudOf : MethodName := ⟨RX1, "loudOf", "(III)I"⟩
abbrev cX1_farOf : ByteArray := prog_3_method_31_code
def yX1_farOf : MethodName := ⟨RX1, "farOf", "(IIII)I"⟩
abbrev cX1_leastCrackFar : ByteArray := prog_3_method_32_code
def yX1_leastCrackFar : MethodName := ⟨RX1, "leastCrackFar", "(II)I"⟩
abbrev cX1_leastFar : ByteArray := prog_3_method_33_code
def yX1_leastFar : MethodName := ⟨RX1, "leastFar", "(II)I"⟩
abbrev cX1_nearestTick : ByteArray := prog_3_method_34_code
def yX1_nearestTick : MethodName := ⟨RX1, "nearestTick", "(IIII)I"⟩
abbrev cX1_leastFarOfTwo : ByteArray := prog_3_method_35_code
def yX1_leastFarOfTwo : MethodName := ⟨RX1, "leastFarOfTwo", "(LWhipCrack$Flight;II)I"⟩
abbrev cX1_turnsAbout : ByteArray := prog_3_method_36_code
def yX1_turnsAbout : MethodName := ⟨RX1, "turnsAbout", "(II)I"⟩
abbrev cX1_quarterOf : ByteArray := prog_3_method_37_code
def yX1_quarterOf : MethodName := ⟨RX1, "quarterOf", "(III)I"⟩
def RX2 : String := "WhipCrack$Hides"
def TX2 : u_T := fun k => match k with
  | 0 => ("WhipCrack$Hides", "hideCount", "I", false)
  | 1 => ("WhipCrack$Hides", "cutCount", "I", false)
  | 2 => ("WhipCrack$Hides", "hides", "[I", true)
  | 3 => ("WhipCrack$Hides", "cuts", "[I", true)
  | _ => ("WhipCrack$Hides", "reached", "[I", true)
def tyX2 : Nat → FieldType := fun k => match k with
  | 0 => .int
  | 1 => .int
  | 2 => .array .int
  | 3 => .array .int
  | _ => .array .int
abbrev wsX20 : List Cond := u_ws RX2 TX2 5
theorem nmX2 : ∀ a, a < 5 → ∀ b, b < 5 → a ≠ b → (TX2 a).2.1 ≠ (TX2 b).2.1 := by decide +kernel
theorem tyX2_ok : ∀ k, k < 5 → parseFieldDescriptor (TX2 k).2.2.1 = some (tyX2 k) := by decide +kernel
abbrev cX2_init : ByteArray := prog_4_method_1_code
def yX2_init : MethodName := ⟨RX2, "<init>", "()V"⟩
abbrev cX2_addHide : ByteArray := prog_4_method_2_code
def yX2_addHide : MethodName := ⟨RX2, "addHide", "(I)I"⟩
abbrev cX2_addCut : ByteArray := prog_4_method_3_code
def yX2_addCut : MethodName := ⟨RX2, "addCut", "(I)I"⟩
abbrev cX2_fewest : ByteArray := prog_4_method_4_code
def yX2_fewest : MethodName := ⟨RX2, "fewest", "()I"⟩
abbrev cX2_isEnough : ByteArray := prog_4_method_5_code
def yX2_isEnough : MethodName := ⟨RX2, "isEnough", "(I)Z"⟩
abbrev cX2_keepLeast : ByteArray := prog_4_method_6_code
def yX2_keepLeast : MethodName := ⟨RX2, "keepLeast", "(II)V"⟩
abbrev cX2_afterCut : ByteArray := prog_4_method_7_code
def yX2_afterCut : MethodName := ⟨RX2, "afterCut", "(III)I"⟩
def RX3 : String := "WhipCrack$Plait"
def TX3 : u_T := fun k => match k with
  | 0 => ("WhipCrack$Plait", "pieces", "I", false)
  | 1 => ("WhipCrack$Plait", "length", "I", false)
  | 2 => ("WhipCrack$Plait", "strands", "[I", true)
  | 3 => ("WhipCrack$Plait", "stuffs", "[I", true)
  | _ => ("WhipCrack$Plait", "wear", "[I", true)
def tyX3 : Nat → FieldType := fun k => match k with
  | 0 => .int
  | 1 => .int
  | 2 => .array .int
  | 3 => .array .int
  | _ => .array .int
abbrev wsX30 : List Cond := u_ws RX3 TX3 5
theorem nmX3 : ∀ a, a < 5 → ∀ b, b < 5 → a ≠ b → (TX3 a).2.1 ≠ (TX3 b).2.1 := by decide +kernel
theorem tyX3_ok : ∀ k, k < 5 → parseFieldDescriptor (TX3 k).2.2.1 = some (tyX3 k) := by decide +kernel
abbrev cX3_init : ByteArray := prog_5_method_1_code
def yX3_init : MethodName := ⟨RX3, "<init>", "()V"⟩
abbrev cX3_copyFrom : ByteArray := prog_5_method_2_code
def yX3_copyFrom : MethodName := ⟨RX3, "copyFrom", "(LWhipCrack$Plait;)V"⟩
abbrev cX3_addPieces : ByteArray := prog_5_method_3_code
def yX3_addPieces : MethodName := ⟨RX3, "addPieces", "(III)V"⟩
abbrev cX3_weightOf : ByteArray := prog_5_method_4_code
def yX3_weightOf : MethodName := ⟨RX3, "weightOf", "(I)I"⟩
abbrev cX3_bendsOf : ByteArray := prog_5_method_5_code
def yX3_bendsOf : MethodName := ⟨RX3, "bendsOf", "(I)I"⟩
abbrev cX3_strandsInAll : ByteArray := prog_5_method_6_code
def yX3_strandsInAll : MethodName := ⟨RX3, "strandsInAll", "()I"⟩
abbrev cX3_loseWorn : ByteArray := prog_5_method_7_code
def yX3_loseWorn : MethodName := ⟨RX3, "loseWorn", "(I)I"⟩
def RX4 : String := "WhipCrack$PlaitReader"
def TX4 : u_T := fun k => match k with
  | 0 => ("WhipCrack$PlaitReader", "plait", "LWhipCrack$Plait;", true)
  | _ => ("WhipCrack$PlaitReader", "hasLength", "Z", false)
def tyX4 : Nat → FieldType := fun k => match k with
  | 0 => .object "WhipCrack$Plait"
  | _ => .boolean
abbrev wsX40 : List Cond := u_ws RX4 TX4 2
theorem nmX4 : ∀ a, a < 2 → ∀ b, b < 2 → a ≠ b → (TX4 a).2.1 ≠ (TX4 b).2.1 := by decide +kernel
theorem tyX4_ok : ∀ k, k < 2 → parseFieldDescriptor (TX4 k).2.2.1 = some (tyX4 k) := by decide +kernel
abbrev cX4_init : ByteArray := prog_6_method_1_code
def yX4_init : MethodName := ⟨RX4, "<init>", "()V"⟩
abbrev cX4_read : ByteArray := prog_6_method_2_code
def yX4_read : MethodName := ⟨RX4, "read", "(LWhipCrack$Text;)V"⟩
abbrev cX4_readClause : ByteArray := prog_6_method_3_code
def yX4_readClause : MethodName := ⟨RX4, "readClause", "(LWhipCrack$Text;)V"⟩
abbrev cX4_readLength : ByteArray := prog_6_method_4_code
def yX4_readLength : MethodName := ⟨RX4, "readLength", "(LWhipCrack$Text;)V"⟩
abbrev cX4_readPieces : ByteArray := prog_6_method_5_code
def yX4_readPieces : MethodName := ⟨RX4, "readPieces", "(LWhipCrack$Text;)V"⟩
def RX5 : String := "WhipCrack$Search"
def TX5 : u_T := fun k => match k with
  | 0 => ("WhipCrack$Search", "most", "I", false)
  | 1 => ("WhipCrack$Search", "bestSpeed", "I", false)
  | 2 => ("WhipCrack$Search", "best", "[I", true)
  | 3 => ("WhipCrack$Search", "row", "[I", true)
  | _ => ("WhipCrack$Search", "plait", "LWhipCrack$Plait;", true)
def tyX5 : Nat → FieldType := fun k => match k with
  | 0 => .int
  | 1 => .int
  | 2 => .array .int
  | 3 => .array .int
  | _ => .object "WhipCrack$Plait"
abbrev wsX50 : List Cond := u_ws RX5 TX5 5
theorem nmX5 : ∀ a, a < 5 → ∀ b, b < 5 → a ≠ b → (TX5 a).2.1 ≠ (TX5 b).2.1 := by decide +kernel
theorem tyX5_ok : ∀ k, k < 5 → parseFieldDescriptor (TX5 k).2.2.1 = some (tyX5 k) := by decide +kernel
abbrev cX5_init : ByteArray := prog_7_method_1_code
def yX5_init : MethodName := ⟨RX5, "<init>", "()V"⟩
abbrev cX5_run : ByteArray := prog_7_method_2_code
def yX5_run : MethodName := ⟨RX5, "run", "(LWhipCrack$Setup;LWhipCrack$Flight;II)V"⟩
abbrev cX5_layRow : ByteArray := prog_7_method_3_code
def yX5_layRow : MethodName := ⟨RX5, "layRow", "()V"⟩
abbrev cX5_compare : ByteArray := prog_7_method_4_code
def yX5_compare : MethodName := ⟨RX5, "compare", "(I)V"⟩
abbrev cX5_nextRow : ByteArray := prog_7_method_5_code
def yX5_nextRow : MethodName := ⟨RX5, "nextRow", "()Z"⟩
def RX6 : String := "WhipCrack$Setup"
def TX6 : u_T := fun k => match k with
  | 0 => ("WhipCrack$Setup", "plait", "LWhipCrack$Plait;", true)
  | 1 => ("WhipCrack$Setup", "way", "LWhipCrack$Way;", true)
  | 2 => ("WhipCrack$Setup", "laws", "[I", true)
  | _ => ("WhipCrack$Setup", "isKept", "Z", false)
def tyX6 : Nat → FieldType := fun k => match k with
  | 0 => .object "WhipCrack$Plait"
  | 1 => .object "WhipCrack$Way"
  | 2 => .array .int
  | _ => .boolean
abbrev wsX60 : List Cond := u_ws RX6 TX6 4
theorem nmX6 : ∀ a, a < 4 → ∀ b, b < 4 → a ≠ b → (TX6 a).2.1 ≠ (TX6 b).2.1 := by decide +kernel
theorem tyX6_ok : ∀ k, k < 4 → parseFieldDescriptor (TX6 k).2.2.1 = some (tyX6 k) := by decide +kernel
abbrev cX6_init : ByteArray := prog_8_method_1_code
def yX6_init : MethodName := ⟨RX6, "<init>", "()V"⟩
abbrev cX6_copyFrom : ByteArray := prog_8_method_2_code
def yX6_copyFrom : MethodName := ⟨RX6, "copyFrom", "(LWhipCrack$Setup;)V"⟩
def RX7 : String := "WhipCrack$Text"
def TX7 : u_T := fun k => match k with
  | 0 => ("WhipCrack$Text", "bytes", "[I", true)
  | 1 => ("WhipCrack$Text", "size", "I", false)
  | 2 => ("WhipCrack$Text", "at", "I", false)
  | 3 => ("WhipCrack$Text", "numberAt", "I", false)
  | 4 => ("WhipCrack$Text", "faultKind", "I", false)
  | _ => ("WhipCrack$Text", "faultAt", "I", false)
def tyX7 : Nat → FieldType := fun k => match k with
  | 0 => .array .int
  | 1 => .int
  | 2 => .int
  | 3 => .int
  | 4 => .int
  | _ => .int
abbrev wsX70 : List Cond := u_ws RX7 TX7 6
theorem nmX7 : ∀ a, a < 6 → ∀ b, b < 6 → a ≠ b → (TX7 a).2.1 ≠ (TX7 b).2.1 := by decide +kernel
theorem tyX7_ok : ∀ k, k < 6 → parseFieldDescriptor (TX7 k).2.2.1 = some (tyX7 k) := by decide +kernel
abbrev cX7_init : ByteArray := prog_9_method_1_code
def yX7_init : MethodName := ⟨RX7, "<init>", "()V"⟩
abbrev cX7_append : ByteArray := prog_9_method_2_code
def yX7_append : MethodName := ⟨RX7, "append", "(IJ)V"⟩
abbrev cX7_begin : ByteArray := prog_9_method_3_code
def yX7_begin : MethodName := ⟨RX7, "begin", "()V"⟩
abbrev cX7_blame : ByteArray := prog_9_method_4_code
def yX7_blame : MethodName := ⟨RX7, "blame", "(II)V"⟩
abbrev cX7_isFine : ByteArray := prog_9_method_5_code
def yX7_isFine : MethodName := ⟨RX7, "isFine", "()Z"⟩
abbrev cX7_next : ByteArray := prog_9_method_6_code
def yX7_next : MethodName := ⟨RX7, "next", "()I"⟩
abbrev cX7_takesSign : ByteArray := prog_9_method_7_code
def yX7_takesSign : MethodName := ⟨RX7, "takesSign", "(C)Z"⟩
abbrev cX7_needSign : ByteArray := prog_9_method_8_code
def yX7_needSign : MethodName := ⟨RX7, "needSign", "(C)V"⟩
abbrev cX7_isWord : ByteArray := prog_9_method_9_code
def yX7_isWord : MethodName := ⟨RX7, "isWord", "(Ljava/lang/String;)Z"⟩
abbrev cX7_takesWord : ByteArray := prog_9_method_10_code
def yX7_takesWord : MethodName := ⟨RX7, "takesWord", "(Ljava/lang/String;)Z"⟩
abbrev cX7_needWord : ByteArray := prog_9_method_11_code
def yX7_needWord : MethodName := ⟨RX7, "needWord", "(Ljava/lang/String;)V"⟩
abbrev cX7_needNumber : ByteArray := prog_9_method_12_code
def yX7_needNumber : MethodName := ⟨RX7, "needNumber", "(II)I"⟩
abbrev cX7_needMove : ByteArray := prog_9_method_13_code
def yX7_needMove : MethodName := ⟨RX7, "needMove", "()I"⟩
abbrev cX7_readFigures : ByteArray := prog_9_method_14_code
def yX7_readFigures : MethodName := ⟨RX7, "readFigures", "(II)I"⟩
abbrev cX7_isLetter : ByteArray := prog_9_method_15_code
def yX7_isLetter : MethodName := ⟨RX7, "isLetter", "(I)Z"⟩
abbrev cX7_isFigure : ByteArray := prog_9_method_16_code
def yX7_isFigure : MethodName := ⟨RX7, "isFigure", "(I)Z"⟩
def RX8 : String := "WhipCrack$Way"
def TX8 : u_T := fun k => match k with
  | 0 => ("WhipCrack$Way", "ticks", "I", false)
  | 1 => ("WhipCrack$Way", "steps", "I", false)
  | 2 => ("WhipCrack$Way", "xs", "[I", true)
  | _ => ("WhipCrack$Way", "ys", "[I", true)
def tyX8 : Nat → FieldType := fun k => match k with
  | 0 => .int
  | 1 => .int
  | 2 => .array .int
  | _ => .array .int
abbrev wsX80 : List Cond := u_ws RX8 TX8 4
theorem nmX8 : ∀ a, a < 4 → ∀ b, b < 4 → a ≠ b → (TX8 a).2.1 ≠ (TX8 b).2.1 := by decide +kernel
theorem tyX8_ok : ∀ k, k < 4 → parseFieldDescriptor (TX8 k).2.2.1 = some (tyX8 k) := by decide +kernel
abbrev cX8_init : ByteArray := prog_10_method_1_code
def yX8_init : MethodName := ⟨RX8, "<init>", "()V"⟩
abbrev cX8_copyFrom : ByteArray := prog_10_method_2_code
def yX8_copyFrom : MethodName := ⟨RX8, "copyFrom", "(LWhipCrack$Way;)V"⟩
abbrev cX8_addStep : ByteArray := prog_10_method_3_code
def yX8_addStep : MethodName := ⟨RX8, "addStep", "(III)V"⟩
def RX9 : String := "WhipCrack$WayReader"
def TX9 : u_T := fun k => match k with
  | 0 => ("WhipCrack$WayReader", "xs", "[I", true)
  | 1 => ("WhipCrack$WayReader", "ys", "[I", true)
  | 2 => ("WhipCrack$WayReader", "ts", "[I", true)
  | 3 => ("WhipCrack$WayReader", "steps", "I", false)
  | 4 => ("WhipCrack$WayReader", "ticks", "I", false)
  | 5 => ("WhipCrack$WayReader", "times", "[I", true)
  | 6 => ("WhipCrack$WayReader", "stepsAhead", "[I", true)
  | 7 => ("WhipCrack$WayReader", "ticksAhead", "[I", true)
  | 8 => ("WhipCrack$WayReader", "depth", "I", false)
  | _ => ("WhipCrack$WayReader", "hasClause", "Z", false)
def tyX9 : Nat → FieldType := fun k => match k with
  | 0 => .array .int
  | 1 => .array .int
  | 2 => .array .int
  | 3 => .int
  | 4 => .int
  | 5 => .array .int
  | 6 => .array .int
  | 7 => .array .int
  | 8 => .int
  | _ => .boolean
abbrev wsX90 : List Cond := u_ws RX9 TX9 10
theorem nmX9 : ∀ a, a < 10 → ∀ b, b < 10 → a ≠ b → (TX9 a).2.1 ≠ (TX9 b).2.1 := by decide +kernel
theorem tyX9_ok : ∀ k, k < 10 → parseFieldDescriptor (TX9 k).2.2.1 = some (tyX9 k) := by decide +kernel
abbrev cX9_init : ByteArray := prog_11_method_1_code
def yX9_init : MethodName := ⟨RX9, "<init>", "()V"⟩
abbrev cX9_read : ByteArray := prog_11_method_2_code
def yX9_read : MethodName := ⟨RX9, "read", "(LWhipCrack$Text;)V"⟩
abbrev cX9_layInto : ByteArray := prog_11_method_3_code
def yX9_layInto : MethodName := ⟨RX9, "layInto", "(LWhipCrack$Way;)V"⟩
abbrev cX9_readPart : ByteArray := prog_11_method_4_code
def yX9_readPart : MethodName := ⟨RX9, "readPart", "(LWhipCrack$Text;)V"⟩
abbrev cX9_readGo : ByteArray := prog_11_method_5_code
def yX9_readGo : MethodName := ⟨RX9, "readGo", "(LWhipCrack$Text;)V"⟩
abbrev cX9_openTimes : ByteArray := prog_11_method_6_code
def yX9_openTimes : MethodName := ⟨RX9, "openTimes", "(LWhipCrack$Text;)V"⟩
abbrev cX9_closeTimes : ByteArray := prog_11_method_7_code
def yX9_closeTimes : MethodName := ⟨RX9, "closeTimes", "()V"⟩
abbrev cX9_copyStep : ByteArray := prog_11_method_8_code
def yX9_copyStep : MethodName := ⟨RX9, "copyStep", "(I)V"⟩
abbrev cX9_addStep : ByteArray := prog_11_method_9_code
def yX9_addStep : MethodName := ⟨RX9, "addStep", "(III)V"⟩
def RX10 : String := "WhipCrack"
def TX10 : u_T := fun k => match k with
  | 0 => ("WhipCrack", "now", "LWhipCrack$Setup;", true)
  | 1 => ("WhipCrack", "image0", "LWhipCrack$Setup;", true)
  | 2 => ("WhipCrack", "image1", "LWhipCrack$Setup;", true)
  | 3 => ("WhipCrack", "text", "LWhipCrack$Text;", true)
  | 4 => ("WhipCrack", "plaitReader", "LWhipCrack$PlaitReader;", true)
  | 5 => ("WhipCrack", "wayReader", "LWhipCrack$WayReader;", true)
  | 6 => ("WhipCrack", "flight", "LWhipCrack$Flight;", true)
  | 7 => ("WhipCrack", "other", "LWhipCrack$Flight;", true)
  | 8 => ("WhipCrack", "search", "LWhipCrack$Search;", true)
  | 9 => ("WhipCrack", "hides", "LWhipCrack$Hides;", true)
  | 10 => ("WhipCrack", "theFilm", "LWhipCrack$Film;", true)
  | 11 => ("WhipCrack", "given", "I", false)
  | 12 => ("WhipCrack", "earX", "I", false)
  | 13 => ("WhipCrack", "earY", "I", false)
  | 14 => ("WhipCrack", "postX", "I", false)
  | 15 => ("WhipCrack", "postY", "I", false)
  | 16 => ("WhipCrack", "faultAt", "I", false)
  | _ => ("WhipCrack", "flown", "Z", false)
def tyX10 : Nat → FieldType := fun k => match k with
  | 0 => .object "WhipCrack$Setup"
  | 1 => .object "WhipCrack$Setup"
  | 2 => .object "WhipCrack$Setup"
  | 3 => .object "WhipCrack$Text"
  | 4 => .object "WhipCrack$PlaitReader"
  | 5 => .object "WhipCrack$WayReader"
  | 6 => .object "WhipCrack$Flight"
  | 7 => .object "WhipCrack$Flight"
  | 8 => .object "WhipCrack$Search"
  | 9 => .object "WhipCrack$Hides"
  | 10 => .object "WhipCrack$Film"
  | 11 => .int
  | 12 => .int
  | 13 => .int
  | 14 => .int
  | 15 => .int
  | 16 => .int
  | _ => .boolean
abbrev wsX100 : List Cond := u_ws RX10 TX10 18
theorem nmX10 : ∀ a, a < 18 → ∀ b, b < 18 → a ≠ b → (TX10 a).2.1 ≠ (TX10 b).2.1 := by decide +kernel
theorem tyX10_ok : ∀ k, k < 18 → parseFieldDescriptor (TX10 k).2.2.1 = some (tyX10 k) := by decide +kernel
abbrev cX10_init : ByteArray := prog_1_method_1_code
def yX10_init : MethodName := ⟨RX10, "<init>", "()V"⟩
abbrev cX10_feed : ByteArray := prog_1_method_2_code
def yX10_feed : MethodName := ⟨RX10, "feed", "(IJ)I"⟩
abbrev cX10_plait : ByteArray := prog_1_method_3_code
def yX10_plait : MethodName := ⟨RX10, "plait", "()I"⟩
abbrev cX10_way : ByteArray := prog_1_method_4_code
def yX10_way : MethodName := ⟨RX10, "way", "()I"⟩
abbrev cX10_fault : ByteArray := prog_1_method_5_code
def yX10_fault : MethodName := ⟨RX10, "fault", "()I"⟩
abbrev cX10_piece : ByteArray := prog_1_method_6_code
def yX10_piece : MethodName := ⟨RX10, "piece", "(II)I"⟩
abbrev cX10_law : ByteArray := prog_1_method_7_code
def yX10_law : MethodName := ⟨RX10, "law", "(II)I"⟩
abbrev cX10_give : ByteArray := prog_1_method_8_code
def yX10_give : MethodName := ⟨RX10, "give", "(I)I"⟩
abbrev cX10_count : ByteArray := prog_1_method_9_code
def yX10_count : MethodName := ⟨RX10, "count", "(I)I"⟩
abbrev cX10_joint : ByteArray := prog_1_method_10_code
def yX10_joint : MethodName := ⟨RX10, "joint", "(III)I"⟩
abbrev cX10_speed : ByteArray := prog_1_method_11_code
def yX10_speed : MethodName := ⟨RX10, "speed", "(II)I"⟩
abbrev cX10_force : ByteArray := prog_1_method_12_code
def yX10_force : MethodName := ⟨RX10, "force", "(II)J"⟩
abbrev cX10_loop : ByteArray := prog_1_method_13_code
def yX10_loop : MethodName := ⟨RX10, "loop", "(I)I"⟩
abbrev cX10_crack : ByteArray := prog_1_method_14_code
def yX10_crack : MethodName := ⟨RX10, "crack", "(II)I"⟩
abbrev cX10_kind : ByteArray := prog_1_method_15_code
def yX10_kind : MethodName := ⟨RX10, "kind", "()I"⟩
abbrev cX10_turns : ByteArray := prog_1_method_16_code
def yX10_turns : MethodName := ⟨RX10, "turns", "()I"⟩
abbrev cX10_put : ByteArray := prog_1_method_17_code
def yX10_put : MethodName := ⟨RX10, "put", "(III)I"⟩
abbrev cX10_near : ByteArray := prog_1_method_18_code
def yX10_near : MethodName := ⟨RX10, "near", "()I"⟩
abbrev cX10_leastHand : ByteArray := prog_1_method_19_code
def yX10_leastHand : MethodName := ⟨RX10, "leastHand", "()I"⟩
abbrev cX10_loudest : ByteArray := prog_1_method_20_code
def yX10_loudest : MethodName := ⟨RX10, "loudest", "(II)I"⟩
abbrev cX10_aim : ByteArray := prog_1_method_21_code
def yX10_aim : MethodName := ⟨RX10, "aim", "(IIIII)I"⟩
abbrev cX10_alone : ByteArray := prog_1_method_22_code
def yX10_alone : MethodName := ⟨RX10, "alone", "(II)I"⟩
abbrev cX10_bestAim : ByteArray := prog_1_method_23_code
def yX10_bestAim : MethodName := ⟨RX10, "bestAim", "(III)I"⟩
abbrev cX10_close : ByteArray := prog_1_method_24_code
def yX10_close : MethodName := ⟨RX10, "close", "(III)I"⟩
abbrev cX10_rhythm : ByteArray := prog_1_method_25_code
def yX10_rhythm : MethodName := ⟨RX10, "rhythm", "(IIII)I"⟩
abbrev cX10_crackOn : ByteArray := prog_1_method_26_code
def yX10_crackOn : MethodName := ⟨RX10, "crackOn", "()I"⟩
abbrev cX10_evening : ByteArray := prog_1_method_27_code
def yX10_evening : MethodName := ⟨RX10, "evening", "(I)I"⟩
abbrev cX10_lay : ByteArray := prog_1_method_28_code
def yX10_lay : MethodName := ⟨RX10, "lay", "(II)I"⟩
abbrev cX10_clear : ByteArray := prog_1_method_29_code
def yX10_clear : MethodName := ⟨RX10, "clear", "()I"⟩
abbrev cX10_cut : ByteArray := prog_1_method_30_code
def yX10_cut : MethodName := ⟨RX10, "cut", "()I"⟩
abbrev cX10_film : ByteArray := prog_1_method_31_code
def yX10_film : MethodName := ⟨RX10, "film", "(II)I"⟩
abbrev cX10_blank : ByteArray := prog_1_method_32_code
def yX10_blank : MethodName := ⟨RX10, "blank", "()I"⟩
abbrev cX10_told : ByteArray := prog_1_method_33_code
def yX10_told : MethodName := ⟨RX10, "told", "(I)I"⟩
abbrev cX10_keep : ByteArray := prog_1_method_34_code
def yX10_keep : MethodName := ⟨RX10, "keep", "(I)I"⟩
abbrev cX10_goBack : ByteArray := prog_1_method_35_code
def yX10_goBack : MethodName := ⟨RX10, "goBack", "(I)I"⟩
abbrev cX10_endReading : ByteArray := prog_1_method_36_code
def yX10_endReading : MethodName := ⟨RX10, "endReading", "()I"⟩
abbrev cX10_setChanged : ByteArray := prog_1_method_37_code
def yX10_setChanged : MethodName := ⟨RX10, "setChanged", "()V"⟩
abbrev cX10_theThrow : ByteArray := prog_1_method_38_code
def yX10_theThrow : MethodName := ⟨RX10, "theThrow", "()LWhipCrack$Flight;"⟩
abbrev cX10_isJoint : ByteArray := prog_1_method_39_code
def yX10_isJoint : MethodName := ⟨RX10, "isJoint", "(I)Z"⟩
abbrev cX10_isTick : ByteArray := prog_1_method_40_code
def yX10_isTick : MethodName := ⟨RX10, "isTick", "(I)Z"⟩
abbrev cX10_isWithin : ByteArray := prog_1_method_41_code
def yX10_isWithin : MethodName := ⟨RX10, "isWithin", "(II)Z"⟩
abbrev cX10_isPlace : ByteArray := prog_1_method_42_code
def yX10_isPlace : MethodName := ⟨RX10, "isPlace", "(II)Z"⟩
abbrev cX10_isGiven : ByteArray := prog_1_method_43_code
def yX10_isGiven : MethodName := ⟨RX10, "isGiven", "(I)Z"⟩
abbrev cX10_tellCrack : ByteArray := prog_1_method_44_code
def yX10_tellCrack : MethodName := ⟨RX10, "tellCrack", "(LWhipCrack$Flight;III)I"⟩
abbrev cX10_throwReally : ByteArray := prog_1_method_45_code
def yX10_throwReally : MethodName := ⟨RX10, "throwReally", "()I"⟩
abbrev cX10_root : ByteArray := prog_1_method_46_code
def yX10_root : MethodName := ⟨RX10, "root", "(J)J"⟩
def RX11 : String := "WhipCrackModel"
def TX11 : u_T := fun k => match k with
  | 0 => ("WhipCrackModel", "pieces", "I", false)
  | 1 => ("WhipCrackModel", "length", "I", false)
  | 2 => ("WhipCrackModel", "strands", "[I", true)
  | 3 => ("WhipCrackModel", "stuff", "[I", true)
  | 4 => ("WhipCrackModel", "wear", "[I", true)
  | 5 => ("WhipCrackModel", "ticks", "I", false)
  | 6 => ("WhipCrackModel", "clauses", "I", false)
  | 7 => ("WhipCrackModel", "wayX", "[I", true)
  | 8 => ("WhipCrackModel", "wayY", "[I", true)
  | 9 => ("WhipCrackModel", "law", "[I", true)
  | 10 => ("WhipCrackModel", "given", "I", false)
  | 11 => ("WhipCrackModel", "earX", "I", false)
  | 12 => ("WhipCrackModel", "earY", "I", false)
  | 13 => ("WhipCrackModel", "postX", "I", false)
  | 14 => ("WhipCrackModel", "postY", "I", false)
  | 15 => ("WhipCrackModel", "text", "[I", true)
  | 16 => ("WhipCrackModel", "textSize", "I", false)
  | 17 => ("WhipCrackModel", "at", "I", false)
  | 18 => ("WhipCrackModel", "from", "I", false)
  | 19 => ("WhipCrackModel", "letters", "I", false)
  | 20 => ("WhipCrackModel", "faultOf", "I", false)
  | 21 => ("WhipCrackModel", "place", "I", false)
  | 22 => ("WhipCrackModel", "newPieces", "I", false)
  | 23 => ("WhipCrackModel", "newLength", "I", false)
  | 24 => ("WhipCrackModel", "hasLength", "Z", false)
  | 25 => ("WhipCrackModel", "newStrands", "[I", true)
  | 26 => ("WhipCrackModel", "newStuff", "[I", true)
  | 27 => ("WhipCrackModel", "ops", "I", false)
  | 28 => ("WhipCrackModel", "op", "[I", true)
  | 29 => ("WhipCrackModel", "opX", "[I", true)
  | 30 => ("WhipCrackModel", "opY", "[I", true)
  | 31 => ("WhipCrackModel", "opN", "[I", true)
  | 32 => ("WhipCrackModel", "loopAt", "[I", true)
  | 33 => ("WhipCrackModel", "loopLeft", "[I", true)
  | 34 => ("WhipCrackModel", "newX", "[I", true)
  | 35 => ("WhipCrackModel", "newY", "[I", true)
  | 36 => ("WhipCrackModel", "newTicks", "I", false)
  | 37 => ("WhipCrackModel", "newClauses", "I", false)
  | 38 => ("WhipCrackModel", "xs", "[J", true)
  | 39 => ("WhipCrackModel", "ys", "[J", true)
  | 40 => ("WhipCrackModel", "tossed", "I", false)
  | 41 => ("WhipCrackModel", "cracks", "I", false)
  | 42 => ("WhipCrackModel", "crackTick", "[I", true)
  | 43 => ("WhipCrackModel", "crackJoint", "[I", true)
  | 44 => ("WhipCrackModel", "held", "[I", true)
  | 45 => ("WhipCrackModel", "pick", "[I", true)
  | 46 => ("WhipCrackModel", "bestPick", "[I", true)
  | 47 => ("WhipCrackModel", "otherX", "[J", true)
  | 48 => ("WhipCrackModel", "otherY", "[J", true)
  | 49 => ("WhipCrackModel", "hides", "I", false)
  | 50 => ("WhipCrackModel", "cuts", "I", false)
  | 51 => ("WhipCrackModel", "hide", "[I", true)
  | 52 => ("WhipCrackModel", "toCut", "[I", true)
  | 53 => ("WhipCrackModel", "isCut", "[Z", true)
  | 54 => ("WhipCrackModel", "isCutNext", "[Z", true)
  | 55 => ("WhipCrackModel", "films", "I", false)
  | 56 => ("WhipCrackModel", "filmX", "[I", true)
  | 57 => ("WhipCrackModel", "filmY", "[I", true)
  | 58 => ("WhipCrackModel", "image", "[I", true)
  | _ => ("WhipCrackModel", "isKept", "[Z", true)
def tyX11 : Nat → FieldType := fun k => match k with
  | 0 => .int
  | 1 => .int
  | 2 => .array .int
  | 3 => .array .int
  | 4 => .array .int
  | 5 => .int
  | 6 => .int
  | 7 => .array .int
  | 8 => .array .int
  | 9 => .array .int
  | 10 => .int
  | 11 => .int
  | 12 => .int
  | 13 => .int
  | 14 => .int
  | 15 => .array .int
  | 16 => .int
  | 17 => .int
  | 18 => .int
  | 19 => .int
  | 20 => .int
  | 21 => .int
  | 22 => .int
  | 23 => .int
  | 24 => .boolean
  | 25 => .array .int
  | 26 => .array .int
  | 27 => .int
  | 28 => .array .int
  | 29 => .array .int
  | 30 => .array .int
  | 31 => .array .int
  | 32 => .array .int
  | 33 => .array .int
  | 34 => .array .int
  | 35 => .array .int
  | 36 => .int
  | 37 => .int
  | 38 => .array .long
  | 39 => .array .long
  | 40 => .int
  | 41 => .int
  | 42 => .array .int
  | 43 => .array .int
  | 44 => .array .int
  | 45 => .array .int
  | 46 => .array .int
  | 47 => .array .long
  | 48 => .array .long
  | 49 => .int
  | 50 => .int
  | 51 => .array .int
  | 52 => .array .int
  | 53 => .array .boolean
  | 54 => .array .boolean
  | 55 => .int
  | 56 => .array .int
  | 57 => .array .int
  | 58 => .array .int
  | _ => .array .boolean
abbrev wsX110 : List Cond := u_ws RX11 TX11 60
theorem nmX11 : ∀ a, a < 60 → ∀ b, b < 60 → a ≠ b → (TX11 a).2.1 ≠ (TX11 b).2.1 := by decide +kernel
theorem tyX11_ok : ∀ k, k < 60 → parseFieldDescriptor (TX11 k).2.2.1 = some (tyX11 k) := by decide +kernel
abbrev cX11_init : ByteArray := prog_13_method_1_code
def yX11_init : MethodName := ⟨RX11, "<init>", "()V"⟩
abbrev cX11_in : ByteArray := prog_13_method_3_code
def yX11_in : MethodName := ⟨RX11, "in", "(JJJ)Z"⟩
abbrev cX11_one : ByteArray := prog_13_method_4_code
def yX11_one : MethodName := ⟨RX11, "one", "(Z)I"⟩
abbrev cX11_root : ByteArray := prog_13_method_5_code
def yX11_root : MethodName := ⟨RX11, "root", "(J)J"⟩
abbrev cX11_span : ByteArray := prog_13_method_6_code
def yX11_span : MethodName := ⟨RX11, "span", "(JJ)J"⟩
abbrev cX11_heft : ByteArray := prog_13_method_7_code
def yX11_heft : MethodName := ⟨RX11, "heft", "(I)I"⟩
abbrev cX11_stiff : ByteArray := prog_13_method_8_code
def yX11_stiff : MethodName := ⟨RX11, "stiff", "(I)I"⟩
abbrev cX11_wears : ByteArray := prog_13_method_9_code
def yX11_wears : MethodName := ⟨RX11, "wears", "(I)I"⟩
abbrev cX11_feed : ByteArray := prog_13_method_10_code
def yX11_feed : MethodName := ⟨RX11, "feed", "(IJ)I"⟩
abbrev cX11_here : ByteArray := prog_13_method_11_code
def yX11_here : MethodName := ⟨RX11, "here", "()I"⟩
abbrev cX11_want : ByteArray := prog_13_method_12_code
def yX11_want : MethodName := ⟨RX11, "want", "(ZII)Z"⟩
abbrev cX11_takeWord : ByteArray := prog_13_method_13_code
def yX11_takeWord : MethodName := ⟨RX11, "takeWord", "()V"⟩
abbrev cX11_isWord : ByteArray := prog_13_method_14_code
def yX11_isWord : MethodName := ⟨RX11, "isWord", "(IIIIIIII)Z"⟩
abbrev cX11_takeNumber : ByteArray := prog_13_method_15_code
def yX11_takeNumber : MethodName := ⟨RX11, "takeNumber", "(IIZ)I"⟩
abbrev cX11_takeSign : ByteArray := prog_13_method_16_code
def yX11_takeSign : MethodName := ⟨RX11, "takeSign", "(I)V"⟩
abbrev cX11_beginText : ByteArray := prog_13_method_17_code
def yX11_beginText : MethodName := ⟨RX11, "beginText", "()V"⟩
abbrev cX11_takePiece : ByteArray := prog_13_method_18_code
def yX11_takePiece : MethodName := ⟨RX11, "takePiece", "()V"⟩
abbrev cX11_plait : ByteArray := prog_13_method_19_code
def yX11_plait : MethodName := ⟨RX11, "plait", "()I"⟩
abbrev cX11_addOp : ByteArray := prog_13_method_20_code
def yX11_addOp : MethodName := ⟨RX11, "addOp", "(IIII)V"⟩
abbrev cX11_takeGo : ByteArray := prog_13_method_21_code
def yX11_takeGo : MethodName := ⟨RX11, "takeGo", "()V"⟩
abbrev cX11_takeWay : ByteArray := prog_13_method_22_code
def yX11_takeWay : MethodName := ⟨RX11, "takeWay", "()V"⟩
abbrev cX11_runWay : ByteArray := prog_13_method_23_code
def yX11_runWay : MethodName := ⟨RX11, "runWay", "()Z"⟩
abbrev cX11_way : ByteArray := prog_13_method_24_code
def yX11_way : MethodName := ⟨RX11, "way", "()I"⟩
abbrev cX11_fault : ByteArray := prog_13_method_25_code
def yX11_fault : MethodName := ⟨RX11, "fault", "()I"⟩
abbrev cX11_weightOf : ByteArray := prog_13_method_26_code
def yX11_weightOf : MethodName := ⟨RX11, "weightOf", "(I)I"⟩
abbrev cX11_bendsOf : ByteArray := prog_13_method_27_code
def yX11_bendsOf : MethodName := ⟨RX11, "bendsOf", "(I)I"⟩
abbrev cX11_piece : ByteArray := prog_13_method_28_code
def yX11_piece : MethodName := ⟨RX11, "piece", "(II)I"⟩
abbrev cX11_law : ByteArray := prog_13_method_29_code
def yX11_law : MethodName := ⟨RX11, "law", "(II)I"⟩
abbrev cX11_give : ByteArray := prog_13_method_30_code
def yX11_give : MethodName := ⟨RX11, "give", "(I)I"⟩
abbrev cX11_allStrands : ByteArray := prog_13_method_31_code
def yX11_allStrands : MethodName := ⟨RX11, "allStrands", "()I"⟩
abbrev cX11_count : ByteArray := prog_13_method_32_code
def yX11_count : MethodName := ⟨RX11, "count", "(I)I"⟩
abbrev cX11_cell : ByteArray := prog_13_method_33_code
def yX11_cell : MethodName := ⟨RX11, "cell", "(II)I"⟩
abbrev cX11_goOn : ByteArray := prog_13_method_34_code
def yX11_goOn : MethodName := ⟨RX11, "goOn", "(II)V"⟩
abbrev cX11_bend : ByteArray := prog_13_method_35_code
def yX11_bend : MethodName := ⟨RX11, "bend", "(II)V"⟩
abbrev cX11_pull : ByteArray := prog_13_method_36_code
def yX11_pull : MethodName := ⟨RX11, "pull", "(II)V"⟩
abbrev cX11_hold : ByteArray := prog_13_method_37_code
def yX11_hold : MethodName := ⟨RX11, "hold", "(II)V"⟩
abbrev cX11_toss : ByteArray := prog_13_method_38_code
def yX11_toss : MethodName := ⟨RX11, "toss", "(I)V"⟩
abbrev cX11_noJoint : ByteArray := prog_13_method_39_code
def yX11_noJoint : MethodName := ⟨RX11, "noJoint", "(I)Z"⟩
abbrev cX11_joint : ByteArray := prog_13_method_40_code
def yX11_joint : MethodName := ⟨RX11, "joint", "(III)I"⟩
abbrev cX11_speedOf : ByteArray := prog_13_method_41_code
def yX11_speedOf : MethodName := ⟨RX11, "speedOf", "(II)J"⟩
abbrev cX11_speed : ByteArray := prog_13_method_42_code
def yX11_speed : MethodName := ⟨RX11, "speed", "(II)I"⟩
abbrev cX11_forceOf : ByteArray := prog_13_method_43_code
def yX11_forceOf : MethodName := ⟨RX11, "forceOf", "(II)J"⟩
abbrev cX11_force : ByteArray := prog_13_method_44_code
def yX11_force : MethodName := ⟨RX11, "force", "(II)J"⟩
abbrev cX11_loopOf : ByteArray := prog_13_method_45_code
def yX11_loopOf : MethodName := ⟨RX11, "loopOf", "(I)I"⟩
abbrev cX11_loop : ByteArray := prog_13_method_46_code
def yX11_loop : MethodName := ⟨RX11, "loop", "(I)I"⟩
abbrev cX11_findCracks : ByteArray := prog_13_method_47_code
def yX11_findCracks : MethodName := ⟨RX11, "findCracks", "()V"⟩
abbrev cX11_farOf : ByteArray := prog_13_method_48_code
def yX11_farOf : MethodName := ⟨RX11, "farOf", "(I)I"⟩
abbrev cX11_ofWhat : ByteArray := prog_13_method_49_code
def yX11_ofWhat : MethodName := ⟨RX11, "ofWhat", "(I)I"⟩
abbrev cX11_crack : ByteArray := prog_13_method_50_code
def yX11_crack : MethodName := ⟨RX11, "crack", "(II)I"⟩
abbrev cX11_quarter : ByteArray := prog_13_method_51_code
def yX11_quarter : MethodName := ⟨RX11, "quarter", "(JJI)I"⟩
abbrev cX11_turnsOf : ByteArray := prog_13_method_52_code
def yX11_turnsOf : MethodName := ⟨RX11, "turnsOf", "()I"⟩
abbrev cX11_isOverhead : ByteArray := prog_13_method_53_code
def yX11_isOverhead : MethodName := ⟨RX11, "isOverhead", "()Z"⟩
abbrev cX11_hasLoop : ByteArray := prog_13_method_54_code
def yX11_hasLoop : MethodName := ⟨RX11, "hasLoop", "()Z"⟩
abbrev cX11_kind : ByteArray := prog_13_method_55_code
def yX11_kind : MethodName := ⟨RX11, "kind", "()I"⟩
abbrev cX11_turns : ByteArray := prog_13_method_56_code
def yX11_turns : MethodName := ⟨RX11, "turns", "()I"⟩
abbrev cX11_isPlace : ByteArray := prog_13_method_57_code
def yX11_isPlace : MethodName := ⟨RX11, "isPlace", "(II)Z"⟩
abbrev cX11_put : ByteArray := prog_13_method_58_code
def yX11_put : MethodName := ⟨RX11, "put", "(III)I"⟩
abbrev cX11_near : ByteArray := prog_13_method_59_code
def yX11_near : MethodName := ⟨RX11, "near", "()I"⟩
abbrev cX11_leastHand : ByteArray := prog_13_method_60_code
def yX11_leastHand : MethodName := ⟨RX11, "leastHand", "()I"⟩
abbrev cX11_greatestSpeed : ByteArray := prog_13_method_61_code
def yX11_greatestSpeed : MethodName := ⟨RX11, "greatestSpeed", "()J"⟩
abbrev cX11_listed : ByteArray := prog_13_method_62_code
def yX11_listed : MethodName := ⟨RX11, "listed", "(I)I"⟩
abbrev cX11_loudest : ByteArray := prog_13_method_63_code
def yX11_loudest : MethodName := ⟨RX11, "loudest", "(II)I"⟩
abbrev cX11_farFrom : ByteArray := prog_13_method_64_code
def yX11_farFrom : MethodName := ⟨RX11, "farFrom", "(IIII)J"⟩
abbrev cX11_aim : ByteArray := prog_13_method_65_code
def yX11_aim : MethodName := ⟨RX11, "aim", "(IIIII)I"⟩
abbrev cX11_aloneBy : ByteArray := prog_13_method_66_code
def yX11_aloneBy : MethodName := ⟨RX11, "aloneBy", "(II)J"⟩
abbrev cX11_alone : ByteArray := prog_13_method_67_code
def yX11_alone : MethodName := ⟨RX11, "alone", "(II)I"⟩
abbrev cX11_bestAim : ByteArray := prog_13_method_68_code
def yX11_bestAim : MethodName := ⟨RX11, "bestAim", "(III)I"⟩
abbrev cX11_tossBoth : ByteArray := prog_13_method_69_code
def yX11_tossBoth : MethodName := ⟨RX11, "tossBoth", "(II)V"⟩
abbrev cX11_closeBy : ByteArray := prog_13_method_70_code
def yX11_closeBy : MethodName := ⟨RX11, "closeBy", "(I)I"⟩
abbrev cX11_isTwo : ByteArray := prog_13_method_71_code
def yX11_isTwo : MethodName := ⟨RX11, "isTwo", "(II)Z"⟩
abbrev cX11_close : ByteArray := prog_13_method_72_code
def yX11_close : MethodName := ⟨RX11, "close", "(III)I"⟩
abbrev cX11_rhythm : ByteArray := prog_13_method_73_code
def yX11_rhythm : MethodName := ⟨RX11, "rhythm", "(IIII)I"⟩
abbrev cX11_wearOnce : ByteArray := prog_13_method_74_code
def yX11_wearOnce : MethodName := ⟨RX11, "wearOnce", "()I"⟩
abbrev cX11_crackOn : ByteArray := prog_13_method_75_code
def yX11_crackOn : MethodName := ⟨RX11, "crackOn", "()I"⟩
abbrev cX11_evening : ByteArray := prog_13_method_76_code
def yX11_evening : MethodName := ⟨RX11, "evening", "(I)I"⟩
abbrev cX11_lay : ByteArray := prog_13_method_77_code
def yX11_lay : MethodName := ⟨RX11, "lay", "(II)I"⟩
abbrev cX11_clear : ByteArray := prog_13_method_78_code
def yX11_clear : MethodName := ⟨RX11, "clear", "()I"⟩
abbrev cX11_sumOf : ByteArray := prog_13_method_79_code
def yX11_sumOf : MethodName := ⟨RX11, "sumOf", "(I)I"⟩
abbrev cX11_canCut : ByteArray := prog_13_method_80_code
def yX11_canCut : MethodName := ⟨RX11, "canCut", "(I)Z"⟩
abbrev cX11_ones : ByteArray := prog_13_method_81_code
def yX11_ones : MethodName := ⟨RX11, "ones", "(I)I"⟩
abbrev cX11_cut : ByteArray := prog_13_method_82_code
def yX11_cut : MethodName := ⟨RX11, "cut", "()I"⟩
abbrev cX11_film : ByteArray := prog_13_method_83_code
def yX11_film : MethodName := ⟨RX11, "film", "(II)I"⟩
abbrev cX11_blank : ByteArray := prog_13_method_84_code
def yX11_blank : MethodName := ⟨RX11, "blank", "()I"⟩
abbrev cX11_size : ByteArray := prog_13_method_85_code
def yX11_size : MethodName := ⟨RX11, "size", "(J)J"⟩
abbrev cX11_told : ByteArray := prog_13_method_86_code
def yX11_told : MethodName := ⟨RX11, "told", "(I)I"⟩
abbrev cX11_keep : ByteArray := prog_13_method_87_code
def yX11_keep : MethodName := ⟨RX11, "keep", "(I)I"⟩
abbrev cX11_goBack : ByteArray := prog_13_method_88_code
def yX11_goBack : MethodName := ⟨RX11, "goBack", "(I)I"⟩
def RJ6 : String := "java/lang/Integer"
def TJ6 : u_T := fun k => match k with
  | _ => ("", "", "", false)
def tyJ6 : Nat → FieldType := fun k => match k with
  | _ => .int
abbrev wsJ60 : List Cond := u_ws RJ6 TJ6 0
theorem nmJ6 : ∀ a, a < 0 → ∀ b, b < 0 → a ≠ b → (TJ6 a).2.1 ≠ (TJ6 b).2.1 := by decide +kernel
theorem tyJ6_ok : ∀ k, k < 0 → parseFieldDescriptor (TJ6 k).2.2.1 = some (tyJ6 k) := by decide +kernel
abbrev cJ6_numberOfLeadingZeros_0f7a4 : ByteArray := prog_14_method_47_code
def yJ6_numberOfLeadingZeros_0f7a4 : MethodName := ⟨RJ6, "numberOfLeadingZeros", "(I)I"⟩
abbrev cJ6_bitCount_0f7a4 : ByteArray := prog_14_method_49_code
def yJ6_bitCount_0f7a4 : MethodName := ⟨RJ6, "bitCount", "(I)I"⟩
def RJ13 : String := "java/lang/Long"
def TJ13 : u_T := fun k => match k with
  | _ => ("", "", "", false)
def tyJ13 : Nat → FieldType := fun k => match k with
  | _ => .int
abbrev wsJ130 : List Cond := u_ws RJ13 TJ13 0
theorem nmJ13 : ∀ a, a < 0 → ∀ b, b < 0 → a ≠ b → (TJ13 a).2.1 ≠ (TJ13 b).2.1 := by decide +kernel
theorem tyJ13_ok : ∀ k, k < 0 → parseFieldDescriptor (TJ13 k).2.2.1 = some (tyJ13 k) := by decide +kernel
abbrev cJ13_numberOfLeadingZeros_95d88 : ByteArray := prog_15_method_48_code
def yJ13_numberOfLeadingZeros_95d88 : MethodName := ⟨RJ13, "numberOfLeadingZeros", "(J)I"⟩
def RJ9 : String := "java/lang/Math"
def TJ9 : u_T := fun k => match k with
  | _ => ("", "", "", false)
def tyJ9 : Nat → FieldType := fun k => match k with
  | _ => .int
abbrev wsJ90 : List Cond := u_ws RJ9 TJ9 0
theorem nmJ9 : ∀ a, a < 0 → ∀ b, b < 0 → a ≠ b → (TJ9 a).2.1 ≠ (TJ9 b).2.1 := by decide +kernel
theorem tyJ9_ok : ∀ k, k < 0 → parseFieldDescriptor (TJ9 k).2.2.1 = some (tyJ9 k) := by decide +kernel
abbrev cJ9_abs_0f7a4 : ByteArray := prog_16_method_59_code
def yJ9_abs_0f7a4 : MethodName := ⟨RJ9, "abs", "(I)I"⟩
abbrev cJ9_max_7cf53 : ByteArray := prog_16_method_65_code
def yJ9_max_7cf53 : MethodName := ⟨RJ9, "max", "(II)I"⟩
abbrev cJ9_max_f86c9 : ByteArray := prog_16_method_66_code
def yJ9_max_f86c9 : MethodName := ⟨RJ9, "max", "(JJ)J"⟩
abbrev cJ9_min_7cf53 : ByteArray := prog_16_method_69_code
def yJ9_min_7cf53 : MethodName := ⟨RJ9, "min", "(II)I"⟩
abbrev cJ9_min_f86c9 : ByteArray := prog_16_method_70_code
def yJ9_min_f86c9 : MethodName := ⟨RJ9, "min", "(JJ)J"⟩
def RJ0 : String := "java/lang/String"
def TJ0 : u_T := fun k => match k with
  | _ => ("", "", "", false)
def tyJ0 : Nat → FieldType := fun k => match k with
  | _ => .int
abbrev wsJ00 : List Cond := u_ws RJ0 TJ0 0
theorem nmJ0 : ∀ a, a < 0 → ∀ b, b < 0 → a ≠ b → (TJ0 a).2.1 ≠ (TJ0 b).2.1 := by decide +kernel
theorem tyJ0_ok : ∀ k, k < 0 → parseFieldDescriptor (TJ0 k).2.2.1 = some (tyJ0 k) := by decide +kernel
abbrev cJ0_length_8abf5 : ByteArray := prog_17_method_54_code
def yJ0_length_8abf5 : MethodName := ⟨RJ0, "length", "()I"⟩
abbrev cJ0_charAt_5068e : ByteArray := prog_17_method_56_code
def yJ0_charAt_5068e : MethodName := ⟨RJ0, "charAt", "(I)C"⟩
abbrev cJ0_coder_7d493 : ByteArray := prog_17_method_152_code
def yJ0_coder_7d493 : MethodName := ⟨RJ0, "coder", "()B"⟩
abbrev cJ0_isLatin1_aae02 : ByteArray := prog_17_method_154_code
def yJ0_isLatin1_aae02 : MethodName := ⟨RJ0, "isLatin1", "()Z"⟩
abbrev cJ0_checkIndex_df160 : ByteArray := prog_17_method_155_code
def yJ0_checkIndex_df160 : MethodName := ⟨RJ0, "checkIndex", "(II)V"⟩
def RJ1 : String := "java/lang/StringLatin1"
def TJ1 : u_T := fun k => match k with
  | _ => ("", "", "", false)
def tyJ1 : Nat → FieldType := fun k => match k with
  | _ => .int
abbrev wsJ10 : List Cond := u_ws RJ1 TJ1 0
theorem nmJ1 : ∀ a, a < 0 → ∀ b, b < 0 → a ≠ b → (TJ1 a).2.1 ≠ (TJ1 b).2.1 := by decide +kernel
theorem tyJ1_ok : ∀ k, k < 0 → parseFieldDescriptor (TJ1 k).2.2.1 = some (tyJ1 k) := by decide +kernel
abbrev cJ1_charAt_3b067 : ByteArray := prog_18_method_2_code
def yJ1_charAt_3b067 : MethodName := ⟨RJ1, "charAt", "([BI)C"⟩
def RJ2 : String := "java/lang/StringUTF16"
def TJ2 : u_T := fun k => match k with
  | _ => ("", "", "", false)
def tyJ2 : Nat → FieldType := fun k => match k with
  | _ => .int
abbrev wsJ20 : List Cond := u_ws RJ2 TJ2 0
theorem nmJ2 : ∀ a, a < 0 → ∀ b, b < 0 → a ≠ b → (TJ2 a).2.1 ≠ (TJ2 b).2.1 := by decide +kernel
theorem tyJ2_ok : ∀ k, k < 0 → parseFieldDescriptor (TJ2 k).2.2.1 = some (tyJ2 k) := by decide +kernel
abbrev cJ2_getChar_3b067 : ByteArray := prog_19_method_5_code
def yJ2_getChar_3b067 : MethodName := ⟨RJ2, "getChar", "([BI)C"⟩
abbrev cJ2_length_9d52b : ByteArray := prog_19_method_6_code
def yJ2_length_9d52b : MethodName := ⟨RJ2, "length", "([B)I"⟩
abbrev cJ2_charAt_3b067 : ByteArray := prog_19_method_83_code
def yJ2_charAt_3b067 : MethodName := ⟨RJ2, "charAt", "([BI)C"⟩
abbrev cJ2_checkIndex_2214a : ByteArray := prog_19_method_91_code
def yJ2_checkIndex_2214a : MethodName := ⟨RJ2, "checkIndex", "(I[B)V"⟩
def RJ10 : String := "java/lang/System"
def TJ10 : u_T := fun k => match k with
  | _ => ("", "", "", false)
def tyJ10 : Nat → FieldType := fun k => match k with
  | _ => .int
abbrev wsJ100 : List Cond := u_ws RJ10 TJ10 0
theorem nmJ10 : ∀ a, a < 0 → ∀ b, b < 0 → a ≠ b → (TJ10 a).2.1 ≠ (TJ10 b).2.1 := by decide +kernel
theorem tyJ10_ok : ∀ k, k < 0 → parseFieldDescriptor (TJ10 k).2.2.1 = some (tyJ10 k) := by decide +kernel
def RJ3 : String := "jdk/internal/util/Preconditions"
def TJ3 : u_T := fun k => match k with
  | _ => ("", "", "", false)
def tyJ3 : Nat → FieldType := fun k => match k with
  | _ => .int
abbrev wsJ30 : List Cond := u_ws RJ3 TJ3 0
theorem nmJ3 : ∀ a, a < 0 → ∀ b, b < 0 → a ≠ b → (TJ3 a).2.1 ≠ (TJ3 b).2.1 := by decide +kernel
theorem tyJ3_ok : ∀ k, k < 0 → parseFieldDescriptor (TJ3 k).2.2.1 = some (tyJ3 k) := by decide +kernel
abbrev cJ3_checkIndex_8e157 : ByteArray := prog_21_method_11_code
def yJ3_checkIndex_8e157 : MethodName := ⟨RJ3, "checkIndex", "(IILjava/util/function/BiFunction;)I"⟩
def RL : String := "WhipCrackLaw"
abbrev cL_law : ByteArray := code
def yL_law : MethodName := ⟨RL, "law", "([I)Z"⟩
abbrev vwCl : List vw_C := [(RX0, TX0, 3), (RX1, TX1, 8), (RX2, TX2, 5), (RX3, TX3, 5), (RX4, TX4, 2), (RX5, TX5, 5), (RX6, TX6, 4), (RX7, TX7, 6), (RX8, TX8, 4), (RX9, TX9, 10), (RX10, TX10, 18), (RX11, TX11, 60)]
end
section
/-! THE LAYER: one world for the whole system; a method's walk over it. -/
abbrev mT : Type := String × MethodName × ByteArray × Nat × Option FieldType × Room
def mOwn (M : mT) : String := M.1
def mY (M : mT) : MethodName := M.2.1
def mC (M : mT) : ByteArray := M.2.2.1
def mLn (M : mT) : Nat := M.2.2.2.1
def mRt (M : mT) : Option FieldType := M.2.2.2.2.1
def mRm (M : mT) : Room := M.2.2.2.2.2
/-- the words that may be handed on to a callee -/
def aW : List Cond := lw_tbl.filter goodWord
/-- the words on private members of a nest mate -/
def nW : List Cond := [.methodLinkNest RX10 9 yX6_init RX10, .methodLinkNest RX6 11 yX3_init RX10, .methodLinkNest RX6 20 yX8_init RX10, .methodLinkNest RX10 24 yX7_init RX10, .methodLinkNest RX10 31 yX4_init RX10, .methodLinkNest RX4 11 yX3_init RX10, .methodLinkNest RX10 38 yX9_init RX10, .methodLinkNest RX10 45 yX1_init RX10, .methodLinkNest RX10 55 yX5_init RX10, .methodLinkNest RX5 27 yX3_init RX10, .methodLinkNest RX10 62 yX2_init RX10, .methodLinkNest RX10 69 yX0_init RX10, .methodLinkNest RX1 81 yX10_root RX10, .fieldLinkNest RX3 34 RX10 "HEFT" "[I" RX10, .fieldLinkNest RX3 37 RX10 "STIFF" "[I" RX10, .fieldLinkNest RX5 76 RX10 "ROW_STRANDS" "[I" RX10]
theorem nW_in : ∀ w ∈ nW, w ∈ lw_tbl := by decide +kernel
def isNw (w : Cond) : Bool := match w with
  | .methodLinkNest .. => true
  | .fieldLinkNest .. => true
  | _ => false
theorem nW_nest : ∀ w ∈ nW, isNw w = true := by decide +kernel
theorem aW_good : ∀ w ∈ aW, goodWord w = true := fun _ h => (List.mem_filter.mp h).2
theorem aW_of {w : Cond} (h : w ∈ lw_tbl) (g : goodWord w = true) : w ∈ aW := List.mem_filter.mpr ⟨h, g⟩
def mWs (M : mT) : List Cond := Cond.code (mY M) (mC M) (mLn M) (mRt M) :: aW
/-- what is the same for the whole run: class numbers, array classes, where the world begins, special addresses, the script, what a formatter holds -/
abbrev gT : Type := va_G × (Nat → ClassId) × Nat × (Nat → Nat) × Nat × (Nat → Int) × Value
def gD (G : gT) : va_G := G.1
def gtc (G : gT) : Nat → ClassId := G.2.1
def gB (G : gT) : Nat := G.2.2.1
def gsp (G : gT) : Nat → Nat := G.2.2.2.1
def gL (G : gT) : Nat := G.2.2.2.2.1
def gX (G : gT) : Nat → Int := G.2.2.2.2.2.1
def gq (G : gT) : Value := G.2.2.2.2.2.2
def gA (G : gT) : Nat → Prop := fun q => gB G ≤ q
def gad (G : gT) (i : Nat) : Nat := if i < 1000 then gB G + i else gsp G i
def gre (G : gT) (v : Value) : Value := match v with
  | .ref i => .ref (gad G i)
  | v => v
def gty (G : gT) : List (ClassId × FieldType) := [(gtc G 0, .int), (gtc G 1, .long), (gtc G 2, .boolean)]
def vi (z : Int) : Value := .int (Int32.ofInt z)
def vl (z : Int) : Value := .long (Int64.ofInt z)
theorem gre_vi {G : gT} {z : Int} : gre G (vi z) = .int (Int32.ofInt z) := rfl
theorem gre_vl {G : gT} {z : Int} : gre G (vl z) = .long (Int64.ofInt z) := rfl
theorem gre_ref {G : gT} {i : Nat} : gre G (.ref i) = .ref (gad G i) := rfl
theorem gre_cat (G : gT) (v : Value) : (gre G v).category = v.category := by cases v <;> rfl
/-- an abstract cell: an array (kind 0 int, 1 long, 2 boolean; its length; its elements) or an object (its class; its fields) -/
abbrev aE : Type := (Nat × Nat × (Nat → Int)) ⊕ (Nat × (Nat → Value))
abbrev wT : Type := Nat × (Nat → aE)
def nF (ci : Nat) : Nat := match vwCl[ci]? with
  | some q => q.2.2
  | none => 0
def wre (G : gT) (x : aE) : va_E := match x with
  | .inl (t, n, f) => .inl (gtc G t, n, if t = 1 then .inr (.inl (fun k => Int64.ofInt (f k))) else .inl (fun k => Int32.ofInt (f k)))
  | .inr (ci, f) => .inr (ci, (List.range (nF ci)).map (fun k => gre G (f k)))
def wls (G : gT) (w : wT) : va_W := (List.range w.1).map (fun i => (gad G i, wre G (w.2 i)))
def put (w : wT) (i : Nat) (x : aE) : wT := (w.1, fun j => if j = i then x else w.2 j)
def psh (w : wT) (x : aE) : wT := (w.1 + 1, fun j => if j = w.1 then x else w.2 j)
def up {α : Type} (f : Nat → α) (k : Nat) (v : α) : Nat → α := fun j => if j = k then v else f j
theorem wls_get {G : gT} {w : wT} {i : Nat} (h : i < w.1) : (wls G w)[i]? = some (gad G i, wre G (w.2 i)) := by
  simp [wls, List.getElem?_map, List.getElem?_range, h]
theorem wls_at {G : gT} {w : wT} {i : Nat} {q : Nat × va_E} (h : (wls G w)[i]? = some q) : i < w.1 ∧ q = (gad G i, wre G (w.2 i)) := by
  by_cases hi : i < w.1
  · rw [wls_get hi] at h
    exact ⟨hi, (Option.some.inj h).symm⟩
  · rw [wls, List.getElem?_map, List.getElem?_eq_none (by simp; omega)] at h
    cases h
theorem wls_put {G : gT} {w : wT} {i : Nat} {x : aE} : (wls G w).set i (gad G i, wre G x) = wls G (put w i x) := by
  apply List.ext_getElem?
  intro j
  rw [List.getElem?_set]
  by_cases hj : j < w.1
  · rw [wls_get hj, wls_get (w := put w i x) hj]
    by_cases e : i = j
    · subst e
      simp [put, wls, hj]
    · simp [put, e, Ne.symm e]
  · have h1 : (wls G w)[j]? = none := by simp [wls]; omega
    have h2 : (wls G (put w i x))[j]? = none := by simp [wls, put]; omega
    rw [h1, h2]
    by_cases e : i = j
    · subst e
      simp [wls, hj]
    · simp [e]
theorem wls_psh {G : gT} {w : wT} {x : aE} : wls G w ++ [(gad G w.1, wre G x)] = wls G (psh w x) := by
  simp only [wls, psh, List.range_succ, List.map_append, List.map_cons, List.map_nil]
  congr 1
  · apply List.map_congr_left
    intro j hj
    have : j < w.1 := List.mem_range.mp hj
    simp [Nat.ne_of_lt this]
/-- the script, the static arrays, the literals: read only -/
def stN (j : Nat) : String := match j with
  | 0 => "HEFT"
  | 1 => "STIFF"
  | 2 => "WEARS"
  | 3 => "LAW_LEAST"
  | 4 => "LAW_MOST"
  | _ => "ROW_STRANDS"
def stV (j : Nat) : List Int := match j with
  | 0 => [4, 5, 1, 2]
  | 1 => [24, 36, 2, 8]
  | 2 => [2, 3, 9, 5]
  | 3 => [0, 0, 1, 10, 1]
  | 4 => [50, 50, 8, 2000, 30000]
  | _ => [12, 8, 6, 4, 2]
def sL (j : Nat) : List Int32 := match j with
  | 0 => [112, 105, 101, 99, 101]
  | 1 => [108, 101, 110, 103, 116, 104]
  | 2 => [115, 116, 114, 97, 110, 100, 115]
  | 3 => [115, 116, 117, 102, 102]
  | 4 => [103, 111]
  | 5 => [104, 111, 108, 100]
  | 6 => [116, 105, 109, 101, 115]
  | _ => [102, 111, 114]
end
section
/-- the places of the literals: who loads it, its entry, its text, its number -/
def sRf : List (String × Nat × String × Nat) := [(RX4, 53, "piece", 0), (RX4, 62, "length", 1), (RX4, 87, "strands", 2), (RX4, 92, "stuff", 3), (RX9, 76, "go", 4), (RX9, 85, "hold", 5), (RX9, 96, "times", 6), (RX9, 116, "for", 7)]
def sLn : List Nat := [5, 6, 7, 5, 2, 4, 5, 3]
def sBy : List (List Int32) := [sL 0, sL 1, sL 2, sL 3, sL 4, sL 5, sL 6, sL 7]
def RO (G : gT) (U : State) (H : Heap) : Prop :=
  (∀ j, j < 6 → va_Z RX10 (stN j) "[I" (.ref (gsp G (1000 + j))) (gA G) U H ∧ va_T .int (gsp G (1000 + j)) (stV j).length (fun k => .int (Int32.ofInt ((stV j).getD k 0))) (gA G) U H) ∧
  va_T .int (gsp G 1100) (gL G) (fun k => .int (Int32.ofInt (gX G k))) (gA G) U H ∧
  vk_S 8 sLn sBy (fun i => gsp G (1200 + i)) (fun i => gsp G (1300 + i)) (gA G) U H ∧
  va_Z "java/lang/String" "COMPACT_STRINGS" "Z" (.int 1) (gA G) U H ∧
  va_Z "jdk/internal/util/Preconditions" "SIOOBE_FORMATTER" "Ljava/util/function/BiFunction;" (gre G (gq G)) (gA G) U H ∧ (gq G = .null ∨ gq G = .ref 1400)
def SR (G : gT) (U : State) : Prop := (∀ q ∈ sRf, vk_R q.1 q.2.1 q.2.2.1 (gsp G (1200 + q.2.2.2)) U) ∧ ∀ w ∈ nW, va_Nw w U
/-- what holds at a method's start beside its world -/
def Sx (G : gT) (U : State) : Prop := va_K (gD G) vwCl (gty G) U ∧ SR G U ∧ RO G U U.heap ∧ gB G ≤ U.heap.size
/-- the world in the heap -/
def Hp (G : gT) (w : wT) (H : Heap) : Prop := va_P (gD G) vwCl (wls G w) H ∧ H.size = gB G + w.1 ∧ w.1 ≤ 1000
theorem RO.moved {G : gT} {u U : State} {H : Heap} (hvm : u.vm.Alike U.vm) (h : RO G u H) : RO G U H := by
  obtain ⟨h1, h2, h3, h4, h5, h6⟩ := h
  exact ⟨fun j hj => ⟨va_Z.moved hvm (h1 j hj).1, va_T.moved hvm (h1 j hj).2⟩, va_T.moved hvm h2, vk_S.moved hvm h3, va_Z.moved hvm h4, va_Z.moved hvm h5, h6⟩
theorem RO.kept {G : gT} {U : State} {H H1 : Heap} (h : RO G U H) (hq : ∀ a : Nat, a < H.size → ¬ gA G a → H1[a]? = H[a]?) : RO G U H1 := by
  obtain ⟨h1, h2, h3, h4, h5, h6⟩ := h
  exact ⟨fun j hj => ⟨(h1 j hj).1.kept hq, (h1 j hj).2.kept hq⟩, h2.kept hq, h3.kept hq, h4.kept hq, h5.kept hq, h6⟩
theorem nw_tab {w : Cond} (h : isNw w = true) : w.onTables = true := by
  cases w <;> first | rfl | cases h
theorem nw_warm {w : Cond} (h : isNw w = true) {s U : State} (hW : s.WarmedH U.vm) (hZ : va_Nw w s) : va_Nw w U := by
  cases w <;> first | exact va_Nw.warmF hW hZ | exact va_Nw.warmM hW hZ | cases h
theorem SR.warm {G : gT} {s U : State} (hW : s.WarmedH U.vm) (h : SR G s) : SR G U := ⟨fun q hq => vk_R.warm hW (h.1 q hq), fun w hw => nw_warm (nW_nest w hw) hW (h.2 w hw)⟩
theorem SR.same {G : gT} {u U : State} (hv : U.vm = u.vm) (h : SR G u) : SR G U := ⟨fun q hq => vk_R.same hv (h.1 q hq), fun w hw => va_Nw.same (nw_tab (nW_nest w hw)) hv.symm (h.2 w hw)⟩
theorem Sx.go {G : gT} {s U : State} {locs : List Loc} (h : Sx G s) (hW : s.WarmedH U.vm) (hS : va_S (gA G) s.heap U.heap locs) : Sx G U :=
  ⟨va_K.moved hW.alike h.1, h.2.1.warm hW, (h.2.2.1.moved hW.alike).kept hS.2.1, Nat.le_trans h.2.2.2 hS.1⟩
theorem Sx.call {G : gT} {U : State} {g : JFrame} {mk : MethodId} {a : Array Value} (h : Sx G U) : Sx G (U.calling g mk a) :=
  ⟨va_K.moved (u := U) (U := U.calling g mk a) (Vm.Alike.refl U.vm) h.1, SR.same (u := U) rfl h.2.1, RO.moved (u := U) (U := U.calling g mk a) (Vm.Alike.refl U.vm) h.2.2.1, h.2.2.2⟩
/-- the locals, by their places -/
def lh (G : gT) (ls : Array Slot) (n : Nat) (lc : List (Option Value)) : Prop := ls.size = n ∧ lv_wf ls ∧ ∀ (i : Nat) (v : Value), lc[i]? = some (some v) → ls[i]? = some (.val (gre G v))
/-- a method's end -/
def mQ (G : gT) (Q : Option Value → wT → Prop) : Array Value → State → Outcome → State → Prop := fun _ st o t => ∃ (r : Option Value) (w : wT), o = .returned (r.map (gre G)) ∧ Q r w ∧ Hp G w t.heap ∧ va_F (gA G) st t
def Cx (G : gT) (M : mT) (p : Program) (s : State) (m : MethodId) (args : Array Value) (meth : Method) (c : Code) : Prop :=
  p.tables.exec = Jvm.exec ∧ c.code = mC M ∧ meth.sig.returnType = mRt M ∧ c.maxLocals = mLn M ∧ s.vm.findClass (mOwn M) = some m.cls ∧ (∀ w ∈ aW, w.before args s = true) ∧ meth.locks = false ∧ meth.name = (mY M).name ∧ Sx G s
/-- the walk: from this place of the method, with these locals, this stack, this world, it comes to an end with Q -/
def V (G : gT) (M : mT) (Q : Option Value → wT → Prop) (kc ks pc : Nat) (lc : List (Option Value)) (st : List Value) (w : wT) : Prop :=
  ∀ (p : Program) (l : Launch) (e : Env) (s : State) (m : MethodId) (args : Array Value) (below : List Frame) (meth : Method) (c : Code) (H : Heap) (locs : List Loc) (ls : Array Slot),
    Cx G M p s m args meth c → Hp G w H → va_S (gA G) s.heap H locs → lh G ls (mLn M) lc →
    W p l e (mRm M) s m args below meth c H locs kc ks (MQ below (mQ G Q) args s (mRm M).cells (mRm M).slots (gA G)) (F0 m pc ls (st.map (gre G)))
/-- a method's contract at these arguments in this world -/
def Meets (G : gT) (M : mT) (av : List Value) (w : wT) (Q : Option Value → wT → Prop) : Prop :=
  ∀ l : Launch, Met l (mY M) (mWs M) (mRm M) (fun v U => v = (av.map (gre G)).toArray ∧ Hp G w U.heap ∧ Sx G U) (mQ G Q) (mRm M).cells (mRm M).slots (gA G)
def lcOf : List Value → List (Option Value)
  | [] => []
  | v :: r => match v.category with
    | 2 => some v :: none :: lcOf r
    | _ => some v :: lcOf r
theorem lv_args_ge : ∀ (vs : List Value) (b : Nat) (q : Nat × Value), q ∈ lv_args b vs → b ≤ q.1 := by
  intro vs
  induction vs with
  | nil => intro b q h; cases h
  | cons v r ih =>
    intro b q h
    rcases List.mem_cons.mp h with h | h
    · subst h; exact Nat.le_refl _
    · have := ih _ q h
      split at this <;> omega
theorem lcOf_args (G : gT) : ∀ (vs : List Value) (b i : Nat) (v : Value), (lcOf vs)[i]? = some (some v) → (b + i, gre G v) ∈ lv_args b (vs.map (gre G)) := by
  intro vs
  induction vs with
  | nil => intro b i v h; simp [lcOf] at h
  | cons u r ih =>
    intro b i v h
    simp only [List.map_cons, lv_args, gre_cat]
    by_cases hc : u.category = 2
    · simp only [lcOf, hc] at h
      match i, h with
      | 0, h =>
        simp at h
        subst h
        exact List.mem_cons_self
      | 1, h => simp at h
      | i + 2, h =>
        simp at h
        refine List.mem_cons_of_mem _ ?_
        rw [if_pos hc]
        have := ih (b + 2) i v h
        rw [show b + (i + 2) = b + 2 + i by omega]
        exact this
    · have e : lcOf (u :: r) = some u :: lcOf r := by
        simp only [lcOf]
      rw [e] at h
      match i, h with
      | 0, h =>
        simp at h
        subst h
        exact List.mem_cons_self
      | i + 1, h =>
        simp at h
        refine List.mem_cons_of_mem _ ?_
        rw [if_neg hc]
        have := ih (b + 1) i v h
        rw [show b + (i + 1) = b + 1 + i by omega]
        exact this
theorem lg_sl_len (G : gT) : ∀ vs : List Value, (lg_sl (vs.map (gre G))).length = (lcOf vs).length := by
  intro vs
  induction vs with
  | nil => rfl
  | cons v r ih =>
    have e1 : lg_sl ((v :: r).map (gre G)) = (if (gre G v).category = 2 then [Slot.val (gre G v), Slot.second] else [Slot.val (gre G v)]) ++ lg_sl (r.map (gre G)) := by
      simp [lg_sl]
    rw [e1, List.length_append, ih, gre_cat]
    by_cases hc : v.category = 2
    · simp only [lcOf, hc, if_pos]
      simp; omega
    · have e : lcOf (v :: r) = some v :: lcOf r := by
        simp only [lcOf]
      rw [e, if_neg hc]
      simp; omega
theorem V.enter {G : gT} {M : mT} {av : List Value} {w : wT} {Q : Option Value → wT → Prop} {lc : List (Option Value)} (hpl : (plainName (mY M).cls && ((mY M).cls == mOwn M)) = true) (hlc : lcOf av ++ List.replicate (mLn M - (lcOf av).length) none = lc) (hn : (lcOf av).length ≤ mLn M) (h : V G M Q 0 0 0 lc [] w) : Meets G M av w Q := by
  intro l
  have hpl1 := (Bool.and_eq_true _ _ ▸ hpl).1
  have hpl2 : (mY M).cls = mOwn M := by
    have := (Bool.and_eq_true _ _ ▸ hpl).2
    simpa using this
  refine Met.ofW (cc := mC M) (maxL := mLn M) (ret := mRt M) hpl1 rfl ?_
  intro p e s m args below meth c s₁ B hml hv
  obtain ⟨rfl, hP, hX⟩ := hv
  have hts := atoms_spec (ws := mWs M) B.pre
  have hown : s.vm.findClass (mOwn M) = some m.cls := by rw [← hpl2]; exact findClass_of_methodNamed B.named
  have hl := lv_entry (av.map (gre G)) (n := mLn M) (by rw [lg_sl_len]; exact hn)
  rw [lg_entry_eq]
  refine h p l e s m _ below meth c s.heap [] _ ⟨B.exec, B.bytes, B.returns, hml, hown, fun w hw => hts w (List.mem_cons_of_mem _ hw), B.notSynchronized, (name_of_methodNamed B.named B.method).1, hX⟩ hP va_S.rf ⟨hl.1, hl.2.1, fun i v hi => ?_⟩
  subst hlc
  by_cases hi2 : i < (lcOf av).length
  · rw [List.getElem?_append_left hi2] at hi
    have := lcOf_args G av 0 i v hi
    rw [Nat.zero_add] at this
    exact hl.2.2 _ this
  · rw [List.getElem?_append_right (by omega)] at hi
    have := List.eq_of_mem_replicate (List.mem_of_getElem? hi)
    cases this
end
section
/-- a decoded row: the instruction, its length, the next place; a jump's row: the next place and the target -/
abbrev dc (M : mT) (pc : Nat) (i : Instr) (n q : Nat) : Prop := decode (mC M) pc = .ok (i, n) ∧ pc + n = q
abbrev dj (M : mT) (pc : Nat) (i : Int → Instr) (q t : Nat) : Prop := ∃ off : Int, decode (mC M) pc = .ok (i off, 3) ∧ pc + 3 = q ∧ (pc : Int) + off = (t : Int)
section R5
variable {G : gT} {M : mT} {Q : Option Value → wT → Prop} {kc ks pc q t : Nat} {lc lc' : List (Option Value)} {st : List Value} {w : wT}
theorem V.eqw {w' : wT} (h : w = w') (k : V G M Q kc ks pc lc st w') : V G M Q kc ks pc lc st w := h ▸ k
theorem V.top {v v' : Value} (h : v = v') (k : V G M Q kc ks pc lc (v' :: st) w) : V G M Q kc ks pc lc (v :: st) w := h ▸ k
theorem V.topi {z z' : Int} (h : z = z') (k : V G M Q kc ks pc lc (vi z' :: st) w) : V G M Q kc ks pc lc (vi z :: st) w := h ▸ k
theorem V.topl {z z' : Int} (h : z = z') (k : V G M Q kc ks pc lc (vl z' :: st) w) : V G M Q kc ks pc lc (vl z :: st) w := h ▸ k
/-- a computed number gets a name -/
theorem V.geni {z : Int} (k : ∀ y : Int, y = z → V G M Q kc ks pc lc (vi y :: st) w) : V G M Q kc ks pc lc (vi z :: st) w := k z rfl
theorem V.genl {z : Int} (k : ∀ y : Int, y = z → V G M Q kc ks pc lc (vl y :: st) w) : V G M Q kc ks pc lc (vl z :: st) w := k z rfl
theorem V.weaken {Q' : Option Value → wT → Prop} (h : ∀ r w, Q' r w → Q r w) (k : V G M Q' kc ks pc lc st w) : V G M Q kc ks pc lc st w := by
  intro p l e s m args below meth c H locs ls C hP hS hl T hT X
  obtain ⟨t, h1, o, h2, h3, ⟨r, w', h4, h5, h6, h7⟩, h8⟩ := k p l e s m args below meth c H locs ls C hP hS hl T hT X
  exact ⟨t, h1, o, h2, h3, ⟨r, w', h4, h r w' h5, h6, h7⟩, h8⟩
theorem Vr_iadd {x y : Int32} (d : dc M pc .iadd 1 q) (k : V G M Q kc ks q lc (.int (x + y) :: st) w) : V G M Q kc ks pc lc (.int y :: .int x :: st) w := by
  obtain ⟨d, rfl⟩ := d
  intro p l e s m args below meth c H locs ls C hP hS hl
  have k := k p l e s m args below meth c H locs ls C hP hS hl
  exact lv_iadd C.1 C.2.1 d k
theorem Vr_isub {x y : Int32} (d : dc M pc .isub 1 q) (k : V G M Q kc ks q lc (.int (x - y) :: st) w) : V G M Q kc ks pc lc (.int y :: .int x :: st) w := by
  obtain ⟨d, rfl⟩ := d
  intro p l e s m args below meth c H locs ls C hP hS hl
  have k := k p l e s m args below meth c H locs ls C hP hS hl
  exact lv_isub C.1 C.2.1 d k
theorem Vr_imul {x y : Int32} (d : dc M pc .imul 1 q) (k : V G M Q kc ks q lc (.int (x * y) :: st) w) : V G M Q kc ks pc lc (.int y :: .int x :: st) w := by
  obtain ⟨d, rfl⟩ := d
  intro p l e s m args below meth c H locs ls C hP hS hl
  have k := k p l e s m args below meth c H locs ls C hP hS hl
  exact lv_imul C.1 C.2.1 d k
theorem Vr_iand {x y : Int32} (d : dc M pc .iand 1 q) (k : V G M Q kc ks q lc (.int (x &&& y) :: st) w) : V G M Q kc ks pc lc (.int y :: .int x :: st) w := by
  obtain ⟨d, rfl⟩ := d
  intro p l e s m args below meth c H locs ls C hP hS hl
  have k := k p l e s m args below meth c H locs ls C hP hS hl
  exact lv_iand C.1 C.2.1 d k
theorem Vr_ior {x y : Int32} (d : dc M pc .ior 1 q) (k : V G M Q kc ks q lc (.int (x ||| y) :: st) w) : V G M Q kc ks pc lc (.int y :: .int x :: st) w := by
  obtain ⟨d, rfl⟩ := d
  intro p l e s m args below meth c H locs ls C hP hS hl
  have k := k p l e s m args below meth c H locs ls C hP hS hl
  exact lv_ior C.1 C.2.1 d k
theorem Vr_ixor {x y : Int32} (d : dc M pc .ixor 1 q) (k : V G M Q kc ks q lc (.int (x ^^^ y) :: st) w) : V G M Q kc ks pc lc (.int y :: .int x :: st) w := by
  obtain ⟨d, rfl⟩ := d
  intro p l e s m args below meth c H locs ls C hP hS hl
  have k := k p l e s m args below meth c H locs ls C hP hS hl
  exact lv_ixor C.1 C.2.1 d k
theorem Vr_ishl {x y : Int32} (d : dc M pc .ishl 1 q) (k : V G M Q kc ks q lc (.int (x <<< (y &&& 31)) :: st) w) : V G M Q kc ks pc lc (.int y :: .int x :: st) w := by
  obtain ⟨d, rfl⟩ := d
  intro p l e s m args below meth c H locs ls C hP hS hl
  have k := k p l e s m args below meth c H locs ls C hP hS hl
  exact lv_ishl C.1 C.2.1 d k
theorem Vr_ishr {x y : Int32} (d : dc M pc .ishr 1 q) (k : V G M Q kc ks q lc (.int (x >>> (y &&& 31)) :: st) w) : V G M Q kc ks pc lc (.int y :: .int x :: st) w := by
  obtain ⟨d, rfl⟩ := d
  intro p l e s m args below meth c H locs ls C hP hS hl
  have k := k p l e s m args below meth c H locs ls C hP hS hl
  exact lv_ishr C.1 C.2.1 d k
theorem Vr_ladd {x y : Int64} (d : dc M pc .ladd 1 q) (k : V G M Q kc ks q lc (.long (x + y) :: st) w) : V G M Q kc ks pc lc (.long y :: .long x :: st) w := by
  obtain ⟨d, rfl⟩ := d
  intro p l e s m args below meth c H locs ls C hP hS hl
  have k := k p l e s m args below meth c H locs ls C hP hS hl
  exact lv_ladd C.1 C.2.1 d k
theorem Vr_lsub {x y : Int64} (d : dc M pc .lsub 1 q) (k : V G M Q kc ks q lc (.long (x - y) :: st) w) : V G M Q kc ks pc lc (.long y :: .long x :: st) w := by
  obtain ⟨d, rfl⟩ := d
  intro p l e s m args below meth c H locs ls C hP hS hl
  have k := k p l e s m args below meth c H locs ls C hP hS hl
  exact lv_lsub C.1 C.2.1 d k
theorem Vr_lmul {x y : Int64} (d : dc M pc .lmul 1 q) (k : V G M Q kc ks q lc (.long (x * y) :: st) w) : V G M Q kc ks pc lc (.long y :: .long x :: st) w := by
  obtain ⟨d, rfl⟩ := d
  intro p l e s m args below meth c H locs ls C hP hS hl
  have k := k p l e s m args below meth c H locs ls C hP hS hl
  exact lv_lmul C.1 C.2.1 d k
theorem Vr_land {x y : Int64} (d : dc M pc .land 1 q) (k : V G M Q kc ks q lc (.long (x &&& y) :: st) w) : V G M Q kc ks pc lc (.long y :: .long x :: st) w := by
  obtain ⟨d, rfl⟩ := d
  intro p l e s m args below meth c H locs ls C hP hS hl
  have k := k p l e s m args below meth c H locs ls C hP hS hl
  exact lv_land C.1 C.2.1 d k
theorem Vr_lor {x y : Int64} (d : dc M pc .lor 1 q) (k : V G M Q kc ks q lc (.long (x ||| y) :: st) w) : V G M Q kc ks pc lc (.long y :: .long x :: st) w := by
  obtain ⟨d, rfl⟩ := d
  intro p l e s m args below meth c H locs ls C hP hS hl
  have k := k p l e s m args below meth c H locs ls C hP hS hl
  exact lv_lor C.1 C.2.1 d k
theorem Vr_iushr {x y : Int32} (d : dc M pc .iushr 1 q) (k : V G M Q kc ks q lc (.int ((x.toUInt32 >>> (y.toUInt32 &&& Int32.toUInt32 31)).toInt32) :: st) w) : V G M Q kc ks pc lc (.int y :: .int x :: st) w := by
  obtain ⟨d, rfl⟩ := d
  intro p l e s m args below meth c H locs ls C hP hS hl
  have k := k p l e s m args below meth c H locs ls C hP hS hl
  exact lv_iushr C.1 C.2.1 d rfl k
theorem Vr_lshl {x : Int64} {y : Int32} (d : dc M pc .lshl 1 q) (k : V G M Q kc ks q lc (.long (x <<< (y.toInt64 &&& 63)) :: st) w) : V G M Q kc ks pc lc (.int y :: .long x :: st) w := by
  obtain ⟨d, rfl⟩ := d
  intro p l e s m args below meth c H locs ls C hP hS hl
  have k := k p l e s m args below meth c H locs ls C hP hS hl
  exact lv_lshl C.1 C.2.1 d rfl k
theorem Vr_lshr {x : Int64} {y : Int32} (d : dc M pc .lshr 1 q) (k : V G M Q kc ks q lc (.long (x >>> (y.toInt64 &&& 63)) :: st) w) : V G M Q kc ks pc lc (.int y :: .long x :: st) w := by
  obtain ⟨d, rfl⟩ := d
  intro p l e s m args below meth c H locs ls C hP hS hl
  have k := k p l e s m args below meth c H locs ls C hP hS hl
  exact lv_lshr C.1 C.2.1 d rfl k
theorem Vr_lushr {x : Int64} {y : Int32} (d : dc M pc .lushr 1 q) (k : V G M Q kc ks q lc (.long ((x.toUInt64 >>> (y.toInt64.toUInt64 &&& Int64.toUInt64 63)).toInt64) :: st) w) : V G M Q kc ks pc lc (.int y :: .long x :: st) w := by
  obtain ⟨d, rfl⟩ := d
  intro p l e s m args below meth c H locs ls C hP hS hl
  have k := k p l e s m args below meth c H locs ls C hP hS hl
  exact lv_lushr C.1 C.2.1 d rfl k
theorem Vr_ineg {x : Int32} (d : dc M pc .ineg 1 q) (k : V G M Q kc ks q lc (.int (-x) :: st) w) : V G M Q kc ks pc lc (.int x :: st) w := by
  obtain ⟨d, rfl⟩ := d
  intro p l e s m args below meth c H locs ls C hP hS hl
  have k := k p l e s m args below meth c H locs ls C hP hS hl
  exact lv_ineg C.1 C.2.1 d k
theorem Vr_i2l {x : Int32} (d : dc M pc .i2l 1 q) (k : V G M Q kc ks q lc (.long x.toInt64 :: st) w) : V G M Q kc ks pc lc (.int x :: st) w := by
  obtain ⟨d, rfl⟩ := d
  intro p l e s m args below meth c H locs ls C hP hS hl
  have k := k p l e s m args below meth c H locs ls C hP hS hl
  exact lv_i2l C.1 C.2.1 d rfl k
theorem Vr_l2i {x : Int64} (d : dc M pc .l2i 1 q) (k : V G M Q kc ks q lc (.int x.toInt32 :: st) w) : V G M Q kc ks pc lc (.long x :: st) w := by
  obtain ⟨d, rfl⟩ := d
  intro p l e s m args below meth c H locs ls C hP hS hl
  have k := k p l e s m args below meth c H locs ls C hP hS hl
  exact lv_l2i C.1 C.2.1 d rfl k
theorem Vr_i2c {x : Int32} (d : dc M pc .i2c 1 q) (k : V G M Q kc ks q lc (.int ((x.toUInt32 % 65536).toInt32) :: st) w) : V G M Q kc ks pc lc (.int x :: st) w := by
  obtain ⟨d, rfl⟩ := d
  intro p l e s m args below meth c H locs ls C hP hS hl
  have k := k p l e s m args below meth c H locs ls C hP hS hl
  exact lv_i2c C.1 C.2.1 d rfl k
theorem Vr_idiv {x y : Int32} (hne : ¬ y = 0) (d : dc M pc .idiv 1 q) (k : V G M Q kc ks q lc (.int (x / y) :: st) w) : V G M Q kc ks pc lc (.int y :: .int x :: st) w := by
  obtain ⟨d, rfl⟩ := d
  intro p l e s m args below meth c H locs ls C hP hS hl
  have k := k p l e s m args below meth c H locs ls C hP hS hl
  exact lv_idiv C.1 C.2.1 d hne k
theorem Vr_irem {x y : Int32} (hne : ¬ y = 0) (d : dc M pc .irem 1 q) (k : V G M Q kc ks q lc (.int (x - x / y * y) :: st) w) : V G M Q kc ks pc lc (.int y :: .int x :: st) w := by
  obtain ⟨d, rfl⟩ := d
  intro p l e s m args below meth c H locs ls C hP hS hl
  have k := k p l e s m args below meth c H locs ls C hP hS hl
  exact lv_irem C.1 C.2.1 d hne k
theorem Vr_ldiv {x y : Int64} (hne : ¬ y = 0) (d : dc M pc .ldiv 1 q) (k : V G M Q kc ks q lc (.long (x / y) :: st) w) : V G M Q kc ks pc lc (.long y :: .long x :: st) w := by
  obtain ⟨d, rfl⟩ := d
  intro p l e s m args below meth c H locs ls C hP hS hl
  have k := k p l e s m args below meth c H locs ls C hP hS hl
  exact lv_ldiv C.1 C.2.1 d hne k
theorem Vr_lcmp {x y : Int64} (d : dc M pc .lcmp 1 q) (k : V G M Q kc ks q lc (.int (lg_cmp x y) :: st) w) : V G M Q kc ks pc lc (.long y :: .long x :: st) w := by
  obtain ⟨d, rfl⟩ := d
  intro p l e s m args below meth c H locs ls C hP hS hl
  have k := k p l e s m args below meth c H locs ls C hP hS hl
  exact W.lcmp C.1 C.2.1 d k
theorem V_iconst {n : Int} (d : dc M pc (.iconst n) 1 q) (k : V G M Q kc ks q lc (vi n :: st) w) : V G M Q kc ks pc lc st w := by
  obtain ⟨d, rfl⟩ := d
  intro p l e s m args below meth c H locs ls C hP hS hl
  have k := k p l e s m args below meth c H locs ls C hP hS hl
  exact lv_iconst C.1 C.2.1 d rfl k
theorem V_bipush {n : Int} (hv : (Int8.ofInt n).toInt32 = Int32.ofInt n) (d : dc M pc (.bipush n) 2 q) (k : V G M Q kc ks q lc (vi n :: st) w) : V G M Q kc ks pc lc st w := by
  obtain ⟨d, rfl⟩ := d
  intro p l e s m args below meth c H locs ls C hP hS hl
  have k := k p l e s m args below meth c H locs ls C hP hS hl
  exact lv_bipush C.1 C.2.1 d hv k
theorem V_sipush {n : Int} (hv : (Int16.ofInt n).toInt32 = Int32.ofInt n) (d : dc M pc (.sipush n) 3 q) (k : V G M Q kc ks q lc (vi n :: st) w) : V G M Q kc ks pc lc st w := by
  obtain ⟨d, rfl⟩ := d
  intro p l e s m args below meth c H locs ls C hP hS hl
  have k := k p l e s m args below meth c H locs ls C hP hS hl
  exact lv_sipush C.1 C.2.1 d hv k
theorem V_lconst {n : Fin 2} {z : Int} (hv : Int64.ofNat (n : Nat) = Int64.ofInt z) (d : dc M pc (.lconst n) 1 q) (k : V G M Q kc ks q lc (vl z :: st) w) : V G M Q kc ks pc lc st w := by
  obtain ⟨d, rfl⟩ := d
  intro p l e s m args below meth c H locs ls C hP hS hl
  have k := k p l e s m args below meth c H locs ls C hP hS hl
  exact lv_lconst C.1 C.2.1 d hv k
theorem V_ldc {i : Nat} {z : Int} (hc : Cond.constant (mOwn M) i (Int32.ofInt z) ∈ aW) (d : dc M pc (.ldc i) 2 q) (k : V G M Q kc ks q lc (vi z :: st) w) : V G M Q kc ks pc lc st w := by
  obtain ⟨d, rfl⟩ := d
  intro p l e s m args below meth c H locs ls C hP hS hl
  have k := k p l e s m args below meth c H locs ls C hP hS hl
  exact lv_ldc C.1 C.2.1 C.2.2.2.2.1 (C.2.2.2.2.2.1 _ hc) d k
theorem V_ldcw {i : Nat} {z : Int} (hc : Cond.constant (mOwn M) i (Int32.ofInt z) ∈ aW) (d : dc M pc (.ldc_w i) 3 q) (k : V G M Q kc ks q lc (vi z :: st) w) : V G M Q kc ks pc lc st w := by
  obtain ⟨d, rfl⟩ := d
  intro p l e s m args below meth c H locs ls C hP hS hl
  have k := k p l e s m args below meth c H locs ls C hP hS hl
  exact lv_ldcw C.1 C.2.1 C.2.2.2.2.1 (C.2.2.2.2.2.1 _ hc) d k
theorem V_ldc2 {i : Nat} {z : Int} (hc : Cond.constantLong (mOwn M) i (Int64.ofInt z) ∈ aW) (d : dc M pc (.ldc2_w i) 3 q) (k : V G M Q kc ks q lc (vl z :: st) w) : V G M Q kc ks pc lc st w := by
  obtain ⟨d, rfl⟩ := d
  intro p l e s m args below meth c H locs ls C hP hS hl
  have k := k p l e s m args below meth c H locs ls C hP hS hl
  exact lv_ldc2 C.1 C.2.1 C.2.2.2.2.1 (C.2.2.2.2.2.1 _ hc) d k
theorem V_dup {v : Value} (hc : v.category = 1) (d : dc M pc .dup 1 q) (k : V G M Q kc ks q lc (v :: v :: st) w) : V G M Q kc ks pc lc (v :: st) w := by
  obtain ⟨d, rfl⟩ := d
  intro p l e s m args below meth c H locs ls C hP hS hl
  have k := k p l e s m args below meth c H locs ls C hP hS hl
  exact lv_dup C.1 C.2.1 d ((gre_cat G v).trans hc) k
theorem V_dup2 {v u : Value} (hv : v.category = 1) (hu : u.category = 1) (d : dc M pc .dup2 1 q) (k : V G M Q kc ks q lc (v :: u :: v :: u :: st) w) : V G M Q kc ks pc lc (v :: u :: st) w := by
  obtain ⟨d, rfl⟩ := d
  intro p l e s m args below meth c H locs ls C hP hS hl
  have k := k p l e s m args below meth c H locs ls C hP hS hl
  exact lv_dup2_11 C.1 C.2.1 d ((gre_cat G v).trans hv) ((gre_cat G u).trans hu) k
theorem V_pop {v : Value} (hc : v.category = 1) (d : dc M pc .pop 1 q) (k : V G M Q kc ks q lc st w) : V G M Q kc ks pc lc (v :: st) w := by
  obtain ⟨d, rfl⟩ := d
  intro p l e s m args below meth c H locs ls C hP hS hl
  have k := k p l e s m args below meth c H locs ls C hP hS hl
  exact lv_pop C.1 C.2.1 d ((gre_cat G v).trans hc) k
theorem V_iload {i : Nat} {a : Int} (h : lc[i]? = some (some (vi a))) (d : dc M pc (.iload i) 2 q) (k : V G M Q kc ks q lc (vi a :: st) w) : V G M Q kc ks pc lc st w := by
  obtain ⟨d, rfl⟩ := d
  intro p l e s m args below meth c H locs ls C hP hS hl
  have k := k p l e s m args below meth c H locs ls C hP hS hl
  exact lv_iload C.1 C.2.1 d (hl.2.2 i _ h) k
theorem V_iload_n {i : Fin 4} {a : Int} (h : lc[(i : Nat)]? = some (some (vi a))) (d : dc M pc (.iload_n i) 1 q) (k : V G M Q kc ks q lc (vi a :: st) w) : V G M Q kc ks pc lc st w := by
  obtain ⟨d, rfl⟩ := d
  intro p l e s m args below meth c H locs ls C hP hS hl
  have k := k p l e s m args below meth c H locs ls C hP hS hl
  exact lv_iload_n C.1 C.2.1 d rfl (hl.2.2 _ _ h) k
theorem V_lload {i : Nat} {a : Int} (h : lc[i]? = some (some (vl a))) (d : dc M pc (.lload i) 2 q) (k : V G M Q kc ks q lc (vl a :: st) w) : V G M Q kc ks pc lc st w := by
  obtain ⟨d, rfl⟩ := d
  intro p l e s m args below meth c H locs ls C hP hS hl
  have k := k p l e s m args below meth c H locs ls C hP hS hl
  exact lv_lload C.1 C.2.1 d (hl.2.2 i _ h) k
theorem V_lload_n {i : Fin 4} {a : Int} (h : lc[(i : Nat)]? = some (some (vl a))) (d : dc M pc (.lload_n i) 1 q) (k : V G M Q kc ks q lc (vl a :: st) w) : V G M Q kc ks pc lc st w := by
  obtain ⟨d, rfl⟩ := d
  intro p l e s m args below meth c H locs ls C hP hS hl
  have k := k p l e s m args below meth c H locs ls C hP hS hl
  exact lv_lload_n C.1 C.2.1 d rfl (hl.2.2 _ _ h) k
theorem V_aload {i : Nat} {a : Nat} (h : lc[i]? = some (some (.ref a))) (d : dc M pc (.aload i) 2 q) (k : V G M Q kc ks q lc (.ref a :: st) w) : V G M Q kc ks pc lc st w := by
  obtain ⟨d, rfl⟩ := d
  intro p l e s m args below meth c H locs ls C hP hS hl
  have k := k p l e s m args below meth c H locs ls C hP hS hl
  exact lv_aload C.1 C.2.1 d (hl.2.2 i _ h) k
theorem V_aload_n {i : Fin 4} {a : Nat} (h : lc[(i : Nat)]? = some (some (.ref a))) (d : dc M pc (.aload_n i) 1 q) (k : V G M Q kc ks q lc (.ref a :: st) w) : V G M Q kc ks pc lc st w := by
  obtain ⟨d, rfl⟩ := d
  intro p l e s m args below meth c H locs ls C hP hS hl
  have k := k p l e s m args below meth c H locs ls C hP hS hl
  exact lv_aload_n C.1 C.2.1 d rfl (hl.2.2 _ _ h) k
/-- a value stored at a local: what is known of the locals behind it -/
def lcR (i : Nat) (v : Value) (lc lc' : List (Option Value)) : Prop := ∀ (j : Nat) (u : Value), lc'[j]? = some (some u) → (j = i ∧ u = v) ∨ (j ≠ i ∧ lc[j]? = some (some u) ∧ ¬ (j + 1 = i ∧ u.category = 2) ∧ (v.category = 2 → j ≠ i + 1))
def la (G : gT) (lc : List (Option Value)) : List (Nat × Value) := (List.range lc.length).filterMap (fun i => match lc[i]? with
  | some (some v) => some (i, gre G v)
  | _ => none)
theorem la_of {G : gT} {lc : List (Option Value)} {i : Nat} {v : Value} (h : lc[i]? = some (some v)) : (i, gre G v) ∈ la G lc := by
  refine List.mem_filterMap.mpr ⟨i, List.mem_range.mpr (List.getElem?_eq_some_iff.mp h).1, ?_⟩
  rw [h]
theorem la_to {G : gT} {lc : List (Option Value)} {q : Nat × Value} (h : q ∈ la G lc) : ∃ v, lc[q.1]? = some (some v) ∧ q.2 = gre G v := by
  obtain ⟨i, -, h2⟩ := List.mem_filterMap.mp h
  split at h2
  · rename_i v hv
    cases h2
    exact ⟨v, hv, rfl⟩
  · cases h2
theorem lh.has {G : gT} {ls : Array Slot} {n : Nat} {lc : List (Option Value)} (h : lh G ls n lc) : lv_has ls n (la G lc) := ⟨h.1, h.2.1, fun q hq => by
  obtain ⟨v, h1, h2⟩ := la_to hq
  rw [h2]
  exact h.2.2 _ _ h1⟩
theorem lh.set1 {G : gT} {ls : Array Slot} {n i : Nat} {v : Value} {lc lc' : List (Option Value)} (hc : v.category = 1) (hr : lcR i v lc lc') (h : lv_has ls n ((i, gre G v) :: (la G lc).filter (fun q => !(q.1 == i) && !(q.1 + 1 == i && q.2.category == 2)))) : lh G ls n lc' := by
  refine ⟨h.1, h.2.1, fun j u hu => ?_⟩
  rcases hr j u hu with ⟨rfl, rfl⟩ | ⟨h1, h2, h3, -⟩
  · exact h.2.2 _ List.mem_cons_self
  · refine h.2.2 (j, gre G u) (List.mem_cons_of_mem _ (List.mem_filter.mpr ⟨la_of h2, ?_⟩))
    simp only [gre_cat]
    simp [h1]
    exact Classical.not_and_iff_not_or_not.mp h3
theorem lh.set2 {G : gT} {ls : Array Slot} {n i : Nat} {v : Value} {lc lc' : List (Option Value)} (hc : v.category = 2) (hr : lcR i v lc lc') (h : lv_has ls n ((i, gre G v) :: (la G lc).filter (fun q => !(q.1 == i) && (!(q.1 == i + 1) && !(q.1 + 1 == i && q.2.category == 2))))) : lh G ls n lc' := by
  refine ⟨h.1, h.2.1, fun j u hu => ?_⟩
  rcases hr j u hu with ⟨rfl, rfl⟩ | ⟨h1, h2, h3, h6⟩
  · exact h.2.2 _ List.mem_cons_self
  · refine h.2.2 (j, gre G u) (List.mem_cons_of_mem _ (List.mem_filter.mpr ⟨la_of h2, ?_⟩))
    simp only [gre_cat]
    simp [h1, h6 hc]
    exact Classical.not_and_iff_not_or_not.mp h3
theorem V_istore {i : Nat} {a : Int} (hn : i < mLn M) (hr : lcR i (vi a) lc lc') (d : dc M pc (.istore i) 2 q) (k : V G M Q kc ks q lc' st w) : V G M Q kc ks pc lc (vi a :: st) w := by
  obtain ⟨d, rfl⟩ := d
  intro p l e s m args below meth c H locs ls C hP hS hl
  exact lv_istore C.1 C.2.1 d hl.has hn rfl fun ls' hl' => k p l e s m args below meth c H locs ls' C hP hS (lh.set1 (v := vi a) rfl hr hl')
theorem V_istore_n {i : Fin 4} {a : Int} (hn : (i : Nat) < mLn M) (hr : lcR (i : Nat) (vi a) lc lc') (d : dc M pc (.istore_n i) 1 q) (k : V G M Q kc ks q lc' st w) : V G M Q kc ks pc lc (vi a :: st) w := by
  obtain ⟨d, rfl⟩ := d
  intro p l e s m args below meth c H locs ls C hP hS hl
  exact lv_istore_n C.1 C.2.1 d rfl hl.has hn rfl fun ls' hl' => k p l e s m args below meth c H locs ls' C hP hS (lh.set1 (v := vi a) rfl hr hl')
theorem V_lstore {i : Nat} {a : Int} (hn : i + 1 < mLn M) (hr : lcR i (vl a) lc lc') (d : dc M pc (.lstore i) 2 q) (k : V G M Q kc ks q lc' st w) : V G M Q kc ks pc lc (vl a :: st) w := by
  obtain ⟨d, rfl⟩ := d
  intro p l e s m args below meth c H locs ls C hP hS hl
  exact lv_lstore C.1 C.2.1 d hl.has hn rfl fun ls' hl' => k p l e s m args below meth c H locs ls' C hP hS (lh.set2 (v := vl a) rfl hr hl')
theorem V_lstore_n {i : Fin 4} {a : Int} (hn : (i : Nat) + 1 < mLn M) (hr : lcR (i : Nat) (vl a) lc lc') (d : dc M pc (.lstore_n i) 1 q) (k : V G M Q kc ks q lc' st w) : V G M Q kc ks pc lc (vl a :: st) w := by
  obtain ⟨d, rfl⟩ := d
  intro p l e s m args below meth c H locs ls C hP hS hl
  exact lv_lstore_n C.1 C.2.1 d rfl hl.has hn rfl fun ls' hl' => k p l e s m args below meth c H locs ls' C hP hS (lh.set2 (v := vl a) rfl hr hl')
theorem V_astore {i : Nat} {a : Nat} (hn : i < mLn M) (hr : lcR i (.ref a) lc lc') (d : dc M pc (.astore i) 2 q) (k : V G M Q kc ks q lc' st w) : V G M Q kc ks pc lc (.ref a :: st) w := by
  obtain ⟨d, rfl⟩ := d
  intro p l e s m args below meth c H locs ls C hP hS hl
  exact lv_astore C.1 C.2.1 d hl.has hn rfl fun ls' hl' => k p l e s m args below meth c H locs ls' C hP hS (lh.set1 (v := .ref a) rfl hr hl')
theorem V_astore_n {i : Fin 4} {a : Nat} (hn : (i : Nat) < mLn M) (hr : lcR (i : Nat) (.ref a) lc lc') (d : dc M pc (.astore_n i) 1 q) (k : V G M Q kc ks q lc' st w) : V G M Q kc ks pc lc (.ref a :: st) w := by
  obtain ⟨d, rfl⟩ := d
  intro p l e s m args below meth c H locs ls C hP hS hl
  exact lv_astore_n C.1 C.2.1 d rfl hl.has hn rfl fun ls' hl' => k p l e s m args below meth c H locs ls' C hP hS (lh.set1 (v := .ref a) rfl hr hl')
theorem V_iinc {i : Nat} {n a : Int} (hn : i < mLn M) (h : lc[i]? = some (some (vi a))) (hr : lcR i (vi (a + n)) lc lc') (d : dc M pc (.iinc i n) 3 q) (k : V G M Q kc ks q lc' st w) : V G M Q kc ks pc lc st w := by
  obtain ⟨d, rfl⟩ := d
  intro p l e s m args below meth c H locs ls C hP hS hl
  obtain ⟨j, hj⟩ := List.getElem?_of_mem (la_of (G := G) h)
  exact lv_iinc C.1 C.2.1 d hl.has hj (by rw [← Int32.ofInt_add]) hn rfl fun ls' hl' => k p l e s m args below meth c H locs ls' C hP hS (lh.set1 (v := vi (a + n)) rfl hr hl')
def nc (a : Option Value) : Bool := match a with
  | some v => v.category != 2
  | none => true
theorem lcR_set {i : Nat} {v : Value} {lc : List (Option Value)} (hv : v.category = 1) (h : ∀ a, i ≠ 0 → lc[i - 1]? = some a → nc a = true) : lcR i v lc (lc.set i (some v)) := by
  intro j u hu
  rw [List.getElem?_set] at hu
  by_cases e : i = j
  · subst e
    rw [if_pos rfl] at hu
    split at hu
    · exact Or.inl ⟨rfl, (Option.some.inj (Option.some.inj hu)).symm⟩
    · cases hu
  · rw [if_neg e] at hu
    refine Or.inr ⟨Ne.symm e, hu, fun ⟨h1, h2⟩ => ?_, fun h3 => by rw [hv] at h3; cases h3⟩
    have := h (some u) (by omega) (by rw [show i - 1 = j by omega]; exact hu)
    simp [nc, h2] at this
theorem lcR_set2 {i : Nat} {v : Value} {lc : List (Option Value)} (h : ∀ a, i ≠ 0 → lc[i - 1]? = some a → nc a = true) : lcR i v lc ((lc.set i (some v)).set (i + 1) none) := by
  intro j u hu
  rw [List.getElem?_set] at hu
  by_cases e2 : i + 1 = j
  · subst e2
    rw [if_pos rfl] at hu
    split at hu <;> cases hu
  · rw [if_neg e2, List.getElem?_set] at hu
    by_cases e : i = j
    · subst e
      rw [if_pos rfl] at hu
      split at hu
      · exact Or.inl ⟨rfl, (Option.some.inj (Option.some.inj hu)).symm⟩
      · cases hu
    · rw [if_neg e] at hu
      refine Or.inr ⟨Ne.symm e, hu, fun ⟨h1, h2⟩ => ?_, fun _ => Ne.symm e2⟩
      have := h (some u) (by omega) (by rw [show i - 1 = j by omega]; exact hu)
      simp [nc, h2] at this
theorem lcR_less {i : Nat} {v : Value} {lc l1 l2 : List (Option Value)} (h : lcR i v l1 l2) (h0 : ∀ (j : Nat) (u : Value), l1[j]? = some (some u) → lc[j]? = some (some u)) : lcR i v lc l2 := by
  intro j u hu
  rcases h j u hu with h | ⟨h1, h2, h3, h4⟩
  · exact Or.inl h
  · exact Or.inr ⟨h1, h0 j u h2, h3, h4⟩
theorem lcx {k : Nat} {lc : List (Option Value)} : ∀ (j : Nat) (u : Value), (lc.set k none)[j]? = some (some u) → lc[j]? = some (some u) := by
  intro j u h
  rw [List.getElem?_set] at h
  by_cases e : k = j
  · rw [if_pos e] at h
    split at h <;> cases h
  · rw [if_neg e] at h
    exact h
theorem s_0 {a0 : Option Value} {r : List (Option Value)} {v : Value} (hv : v.category = 1) : lcR 0 v (a0 :: r) (some v :: r) := lcR_set hv (fun a h9 _ => absurd rfl h9)
theorem t_0 {a0 b : Option Value} {r : List (Option Value)} {v : Value} : lcR 0 v (a0 :: b :: r) (some v :: none :: r) := lcR_set2 (fun a h9 _ => absurd rfl h9)
theorem s_1 {a0 a1 : Option Value} {r : List (Option Value)} {v : Value} (hv : v.category = 1) (h : nc a0 = true) : lcR 1 v (a0 :: a1 :: r) (a0 :: some v :: r) := lcR_set hv (fun a _ h9 => by cases h9; exact h)
theorem t_1 {a0 a1 b : Option Value} {r : List (Option Value)} {v : Value} (h : nc a0 = true) : lcR 1 v (a0 :: a1 :: b :: r) (a0 :: some v :: none :: r) := lcR_set2 (fun a _ h9 => by cases h9; exact h)
theorem sc_1 {a1 x : Option Value} {r : List (Option Value)} {v : Value} (hv : v.category = 1) : lcR 1 v (x :: a1 :: r) (none :: some v :: r) := lcR_less (l1 := none :: a1 :: r) (lcR_set hv (fun a _ h9 => by cases h9; rfl)) (lcx (k := 0) (lc := x :: a1 :: r))
theorem tc_1 {a1 x b : Option Value} {r : List (Option Value)} {v : Value} : lcR 1 v (x :: a1 :: b :: r) (none :: some v :: none :: r) := lcR_less (l1 := none :: a1 :: b :: r) (lcR_set2 (fun a _ h9 => by cases h9; rfl)) (lcx (k := 0) (lc := x :: a1 :: b :: r))
theorem s_2 {a0 a1 a2 : Option Value} {r : List (Option Value)} {v : Value} (hv : v.category = 1) (h : nc a1 = true) : lcR 2 v (a0 :: a1 :: a2 :: r) (a0 :: a1 :: some v :: r) := lcR_set hv (fun a _ h9 => by cases h9; exact h)
theorem t_2 {a0 a1 a2 b : Option Value} {r : List (Option Value)} {v : Value} (h : nc a1 = true) : lcR 2 v (a0 :: a1 :: a2 :: b :: r) (a0 :: a1 :: some v :: none :: r) := lcR_set2 (fun a _ h9 => by cases h9; exact h)
theorem sc_2 {a0 a2 x : Option Value} {r : List (Option Value)} {v : Value} (hv : v.category = 1) : lcR 2 v (a0 :: x :: a2 :: r) (a0 :: none :: some v :: r) := lcR_less (l1 := a0 :: none :: a2 :: r) (lcR_set hv (fun a _ h9 => by cases h9; rfl)) (lcx (k := 1) (lc := a0 :: x :: a2 :: r))
theorem tc_2 {a0 a2 x b : Option Value} {r : List (Option Value)} {v : Value} : lcR 2 v (a0 :: x :: a2 :: b :: r) (a0 :: none :: some v :: none :: r) := lcR_less (l1 := a0 :: none :: a2 :: b :: r) (lcR_set2 (fun a _ h9 => by cases h9; rfl)) (lcx (k := 1) (lc := a0 :: x :: a2 :: b :: r))
theorem s_3 {a0 a1 a2 a3 : Option Value} {r : List (Option Value)} {v : Value} (hv : v.category = 1) (h : nc a2 = true) : lcR 3 v (a0 :: a1 :: a2 :: a3 :: r) (a0 :: a1 :: a2 :: some v :: r) := lcR_set hv (fun a _ h9 => by cases h9; exact h)
theorem t_3 {a0 a1 a2 a3 b : Option Value} {r : List (Option Value)} {v : Value} (h : nc a2 = true) : lcR 3 v (a0 :: a1 :: a2 :: a3 :: b :: r) (a0 :: a1 :: a2 :: some v :: none :: r) := lcR_set2 (fun a _ h9 => by cases h9; exact h)
theorem sc_3 {a0 a1 a3 x : Option Value} {r : List (Option Value)} {v : Value} (hv : v.category = 1) : lcR 3 v (a0 :: a1 :: x :: a3 :: r) (a0 :: a1 :: none :: some v :: r) := lcR_less (l1 := a0 :: a1 :: none :: a3 :: r) (lcR_set hv (fun a _ h9 => by cases h9; rfl)) (lcx (k := 2) (lc := a0 :: a1 :: x :: a3 :: r))
theorem tc_3 {a0 a1 a3 x b : Option Value} {r : List (Option Value)} {v : Value} : lcR 3 v (a0 :: a1 :: x :: a3 :: b :: r) (a0 :: a1 :: none :: some v :: none :: r) := lcR_less (l1 := a0 :: a1 :: none :: a3 :: b :: r) (lcR_set2 (fun a _ h9 => by cases h9; rfl)) (lcx (k := 2) (lc := a0 :: a1 :: x :: a3 :: b :: r))
theorem s_4 {a0 a1 a2 a3 a4 : Option Value} {r : List (Option Value)} {v : Value} (hv : v.category = 1) (h : nc a3 = true) : lcR 4 v (a0 :: a1 :: a2 :: a3 :: a4 :: r) (a0 :: a1 :: a2 :: a3 :: some v :: r) := lcR_set hv (fun a _ h9 => by cases h9; exact h)
theorem t_4 {a0 a1 a2 a3 a4 b : Option Value} {r : List (Option Value)} {v : Value} (h : nc a3 = true) : lcR 4 v (a0 :: a1 :: a2 :: a3 :: a4 :: b :: r) (a0 :: a1 :: a2 :: a3 :: some v :: none :: r) := lcR_set2 (fun a _ h9 => by cases h9; exact h)
theorem sc_4 {a0 a1 a2 a4 x : Option Value} {r : List (Option Value)} {v : Value} (hv : v.category = 1) : lcR 4 v (a0 :: a1 :: a2 :: x :: a4 :: r) (a0 :: a1 :: a2 :: none :: some v :: r) := lcR_less (l1 := a0 :: a1 :: a2 :: none :: a4 :: r) (lcR_set hv (fun a _ h9 => by cases h9; rfl)) (lcx (k := 3) (lc := a0 :: a1 :: a2 :: x :: a4 :: r))
theorem tc_4 {a0 a1 a2 a4 x b : Option Value} {r : List (Option Value)} {v : Value} : lcR 4 v (a0 :: a1 :: a2 :: x :: a4 :: b :: r) (a0 :: a1 :: a2 :: none :: some v :: none :: r) := lcR_less (l1 := a0 :: a1 :: a2 :: none :: a4 :: b :: r) (lcR_set2 (fun a _ h9 => by cases h9; rfl)) (lcx (k := 3) (lc := a0 :: a1 :: a2 :: x :: a4 :: b :: r))
theorem s_5 {a0 a1 a2 a3 a4 a5 : Option Value} {r : List (Option Value)} {v : Value} (hv : v.category = 1) (h : nc a4 = true) : lcR 5 v (a0 :: a1 :: a2 :: a3 :: a4 :: a5 :: r) (a0 :: a1 :: a2 :: a3 :: a4 :: some v :: r) := lcR_set hv (fun a _ h9 => by cases h9; exact h)
theorem t_5 {a0 a1 a2 a3 a4 a5 b : Option Value} {r : List (Option Value)} {v : Value} (h : nc a4 = true) : lcR 5 v (a0 :: a1 :: a2 :: a3 :: a4 :: a5 :: b :: r) (a0 :: a1 :: a2 :: a3 :: a4 :: some v :: none :: r) := lcR_set2 (fun a _ h9 => by cases h9; exact h)
theorem sc_5 {a0 a1 a2 a3 a5 x : Option Value} {r : List (Option Value)} {v : Value} (hv : v.category = 1) : lcR 5 v (a0 :: a1 :: a2 :: a3 :: x :: a5 :: r) (a0 :: a1 :: a2 :: a3 :: none :: some v :: r) := lcR_less (l1 := a0 :: a1 :: a2 :: a3 :: none :: a5 :: r) (lcR_set hv (fun a _ h9 => by cases h9; rfl)) (lcx (k := 4) (lc := a0 :: a1 :: a2 :: a3 :: x :: a5 :: r))
theorem tc_5 {a0 a1 a2 a3 a5 x b : Option Value} {r : List (Option Value)} {v : Value} : lcR 5 v (a0 :: a1 :: a2 :: a3 :: x :: a5 :: b :: r) (a0 :: a1 :: a2 :: a3 :: none :: some v :: none :: r) := lcR_less (l1 := a0 :: a1 :: a2 :: a3 :: none :: a5 :: b :: r) (lcR_set2 (fun a _ h9 => by cases h9; rfl)) (lcx (k := 4) (lc := a0 :: a1 :: a2 :: a3 :: x :: a5 :: b :: r))
theorem s_6 {a0 a1 a2 a3 a4 a5 a6 : Option Value} {r : List (Option Value)} {v : Value} (hv : v.category = 1) (h : nc a5 = true) : lcR 6 v (a0 :: a1 :: a2 :: a3 :: a4 :: a5 :: a6 :: r) (a0 :: a1 :: a2 :: a3 :: a4 :: a5 :: some v :: r) := lcR_set hv (fun a _ h9 => by cases h9; exact h)
theorem t_6 {a0 a1 a2 a3 a4 a5 a6 b : Option Value} {r : List (Option Value)} {v : Value} (h : nc a5 = true) : lcR 6 v (a0 :: a1 :: a2 :: a3 :: a4 :: a5 :: a6 :: b :: r) (a0 :: a1 :: a2 :: a3 :: a4 :: a5 :: some v :: none :: r) := lcR_set2 (fun a _ h9 => by cases h9; exact h)
theorem sc_6 {a0 a1 a2 a3 a4 a6 x : Option Value} {r : List (Option Value)} {v : Value} (hv : v.category = 1) : lcR 6 v (a0 :: a1 :: a2 :: a3 :: a4 :: x :: a6 :: r) (a0 :: a1 :: a2 :: a3 :: a4 :: none :: some v :: r) := lcR_less (l1 := a0 :: a1 :: a2 :: a3 :: a4 :: none :: a6 :: r) (lcR_set hv (fun a _ h9 => by cases h9; rfl)) (lcx (k := 5) (lc := a0 :: a1 :: a2 :: a3 :: a4 :: x :: a6 :: r))
theorem tc_6 {a0 a1 a2 a3 a4 a6 x b : Option Value} {r : List (Option Value)} {v : Value} : lcR 6 v (a0 :: a1 :: a2 :: a3 :: a4 :: x :: a6 :: b :: r) (a0 :: a1 :: a2 :: a3 :: a4 :: none :: some v :: none :: r) := lcR_less (l1 := a0 :: a1 :: a2 :: a3 :: a4 :: none :: a6 :: b :: r) (lcR_set2 (fun a _ h9 => by cases h9; rfl)) (lcx (k := 5) (lc := a0 :: a1 :: a2 :: a3 :: a4 :: x :: a6 :: b :: r))
theorem s_7 {a0 a1 a2 a3 a4 a5 a6 a7 : Option Value} {r : List (Option Value)} {v : Value} (hv : v.category = 1) (h : nc a6 = true) : lcR 7 v (a0 :: a1 :: a2 :: a3 :: a4 :: a5 :: a6 :: a7 :: r) (a0 :: a1 :: a2 :: a3 :: a4 :: a5 :: a6 :: some v :: r) := lcR_set hv (fun a _ h9 => by cases h9; exact h)
theorem t_7 {a0 a1 a2 a3 a4 a5 a6 a7 b : Option Value} {r : List (Option Value)} {v : Value} (h : nc a6 = true) : lcR 7 v (a0 :: a1 :: a2 :: a3 :: a4 :: a5 :: a6 :: a7 :: b :: r) (a0 :: a1 :: a2 :: a3 :: a4 :: a5 :: a6 :: some v :: none :: r) := lcR_set2 (fun a _ h9 => by cases h9; exact h)
theorem sc_7 {a0 a1 a2 a3 a4 a5 a7 x : Option Value} {r : List (Option Value)} {v : Value} (hv : v.category = 1) : lcR 7 v (a0 :: a1 :: a2 :: a3 :: a4 :: a5 :: x :: a7 :: r) (a0 :: a1 :: a2 :: a3 :: a4 :: a5 :: none :: some v :: r) := lcR_less (l1 := a0 :: a1 :: a2 :: a3 :: a4 :: a5 :: none :: a7 :: r) (lcR_set hv (fun a _ h9 => by cases h9; rfl)) (lcx (k := 6) (lc := a0 :: a1 :: a2 :: a3 :: a4 :: a5 :: x :: a7 :: r))
theorem tc_7 {a0 a1 a2 a3 a4 a5 a7 x b : Option Value} {r : List (Option Value)} {v : Value} : lcR 7 v (a0 :: a1 :: a2 :: a3 :: a4 :: a5 :: x :: a7 :: b :: r) (a0 :: a1 :: a2 :: a3 :: a4 :: a5 :: none :: some v :: none :: r) := lcR_less (l1 := a0 :: a1 :: a2 :: a3 :: a4 :: a5 :: none :: a7 :: b :: r) (lcR_set2 (fun a _ h9 => by cases h9; rfl)) (lcx (k := 6) (lc := a0 :: a1 :: a2 :: a3 :: a4 :: a5 :: x :: a7 :: b :: r))
theorem s_8 {a0 a1 a2 a3 a4 a5 a6 a7 a8 : Option Value} {r : List (Option Value)} {v : Value} (hv : v.category = 1) (h : nc a7 = true) : lcR 8 v (a0 :: a1 :: a2 :: a3 :: a4 :: a5 :: a6 :: a7 :: a8 :: r) (a0 :: a1 :: a2 :: a3 :: a4 :: a5 :: a6 :: a7 :: some v :: r) := lcR_set hv (fun a _ h9 => by cases h9; exact h)
theorem t_8 {a0 a1 a2 a3 a4 a5 a6 a7 a8 b : Option Value} {r : List (Option Value)} {v : Value} (h : nc a7 = true) : lcR 8 v (a0 :: a1 :: a2 :: a3 :: a4 :: a5 :: a6 :: a7 :: a8 :: b :: r) (a0 :: a1 :: a2 :: a3 :: a4 :: a5 :: a6 :: a7 :: some v :: none :: r) := lcR_set2 (fun a _ h9 => by cases h9; exact h)
theorem sc_8 {a0 a1 a2 a3 a4 a5 a6 a8 x : Option Value} {r : List (Option Value)} {v : Value} (hv : v.category = 1) : lcR 8 v (a0 :: a1 :: a2 :: a3 :: a4 :: a5 :: a6 :: x :: a8 :: r) (a0 :: a1 :: a2 :: a3 :: a4 :: a5 :: a6 :: none :: some v :: r) := lcR_less (l1 := a0 :: a1 :: a2 :: a3 :: a4 :: a5 :: a6 :: none :: a8 :: r) (lcR_set hv (fun a _ h9 => by cases h9; rfl)) (lcx (k := 7) (lc := a0 :: a1 :: a2 :: a3 :: a4 :: a5 :: a6 :: x :: a8 :: r))
theorem tc_8 {a0 a1 a2 a3 a4 a5 a6 a8 x b : Option Value} {r : List (Option Value)} {v : Value} : lcR 8 v (a0 :: a1 :: a2 :: a3 :: a4 :: a5 :: a6 :: x :: a8 :: b :: r) (a0 :: a1 :: a2 :: a3 :: a4 :: a5 :: a6 :: none :: some v :: none :: r) := lcR_less (l1 := a0 :: a1 :: a2 :: a3 :: a4 :: a5 :: a6 :: none :: a8 :: b :: r) (lcR_set2 (fun a _ h9 => by cases h9; rfl)) (lcx (k := 7) (lc := a0 :: a1 :: a2 :: a3 :: a4 :: a5 :: a6 :: x :: a8 :: b :: r))
theorem s_9 {a0 a1 a2 a3 a4 a5 a6 a7 a8 a9 : Option Value} {r : List (Option Value)} {v : Value} (hv : v.category = 1) (h : nc a8 = true) : lcR 9 v (a0 :: a1 :: a2 :: a3 :: a4 :: a5 :: a6 :: a7 :: a8 :: a9 :: r) (a0 :: a1 :: a2 :: a3 :: a4 :: a5 :: a6 :: a7 :: a8 :: some v :: r) := lcR_set hv (fun a _ h9 => by cases h9; exact h)
theorem t_9 {a0 a1 a2 a3 a4 a5 a6 a7 a8 a9 b : Option Value} {r : List (Option Value)} {v : Value} (h : nc a8 = true) : lcR 9 v (a0 :: a1 :: a2 :: a3 :: a4 :: a5 :: a6 :: a7 :: a8 :: a9 :: b :: r) (a0 :: a1 :: a2 :: a3 :: a4 :: a5 :: a6 :: a7 :: a8 :: some v :: none :: r) := lcR_set2 (fun a _ h9 => by cases h9; exact h)
theorem sc_9 {a0 a1 a2 a3 a4 a5 a6 a7 a9 x : Option Value} {r : List (Option Value)} {v : Value} (hv : v.category = 1) : lcR 9 v (a0 :: a1 :: a2 :: a3 :: a4 :: a5 :: a6 :: a7 :: x :: a9 :: r) (a0 :: a1 :: a2 :: a3 :: a4 :: a5 :: a6 :: a7 :: none :: some v :: r) := lcR_less (l1 := a0 :: a1 :: a2 :: a3 :: a4 :: a5 :: a6 :: a7 :: none :: a9 :: r) (lcR_set hv (fun a _ h9 => by cases h9; rfl)) (lcx (k := 8) (lc := a0 :: a1 :: a2 :: a3 :: a4 :: a5 :: a6 :: a7 :: x :: a9 :: r))
theorem tc_9 {a0 a1 a2 a3 a4 a5 a6 a7 a9 x b : Option Value} {r : List (Option Value)} {v : Value} : lcR 9 v (a0 :: a1 :: a2 :: a3 :: a4 :: a5 :: a6 :: a7 :: x :: a9 :: b :: r) (a0 :: a1 :: a2 :: a3 :: a4 :: a5 :: a6 :: a7 :: none :: some v :: none :: r) := lcR_less (l1 := a0 :: a1 :: a2 :: a3 :: a4 :: a5 :: a6 :: a7 :: none :: a9 :: b :: r) (lcR_set2 (fun a _ h9 => by cases h9; rfl)) (lcx (k := 8) (lc := a0 :: a1 :: a2 :: a3 :: a4 :: a5 :: a6 :: a7 :: x :: a9 :: b :: r))
theorem s_10 {a0 a1 a2 a3 a4 a5 a6 a7 a8 a9 a10 : Option Value} {r : List (Option Value)} {v : Value} (hv : v.category = 1) (h : nc a9 = true) : lcR 10 v (a0 :: a1 :: a2 :: a3 :: a4 :: a5 :: a6 :: a7 :: a8 :: a9 :: a10 :: r) (a0 :: a1 :: a2 :: a3 :: a4 :: a5 :: a6 :: a7 :: a8 :: a9 :: some v :: r) := lcR_set hv (fun a _ h9 => by cases h9; exact h)
theorem t_10 {a0 a1 a2 a3 a4 a5 a6 a7 a8 a9 a10 b : Option Value} {r : List (Option Value)} {v : Value} (h : nc a9 = true) : lcR 10 v (a0 :: a1 :: a2 :: a3 :: a4 :: a5 :: a6 :: a7 :: a8 :: a9 :: a10 :: b :: r) (a0 :: a1 :: a2 :: a3 :: a4 :: a5 :: a6 :: a7 :: a8 :: a9 :: some v :: none :: r) := lcR_set2 (fun a _ h9 => by cases h9; exact h)
theorem sc_10 {a0 a1 a2 a3 a4 a5 a6 a7 a8 a10 x : Option Value} {r : List (Option Value)} {v : Value} (hv : v.category = 1) : lcR 10 v (a0 :: a1 :: a2 :: a3 :: a4 :: a5 :: a6 :: a7 :: a8 :: x :: a10 :: r) (a0 :: a1 :: a2 :: a3 :: a4 :: a5 :: a6 :: a7 :: a8 :: none :: some v :: r) := lcR_less (l1 := a0 :: a1 :: a2 :: a3 :: a4 :: a5 :: a6 :: a7 :: a8 :: none :: a10 :: r) (lcR_set hv (fun a _ h9 => by cases h9; rfl)) (lcx (k := 9) (lc := a0 :: a1 :: a2 :: a3 :: a4 :: a5 :: a6 :: a7 :: a8 :: x :: a10 :: r))
theorem tc_10 {a0 a1 a2 a3 a4 a5 a6 a7 a8 a10 x b : Option Value} {r : List (Option Value)} {v : Value} : lcR 10 v (a0 :: a1 :: a2 :: a3 :: a4 :: a5 :: a6 :: a7 :: a8 :: x :: a10 :: b :: r) (a0 :: a1 :: a2 :: a3 :: a4 :: a5 :: a6 :: a7 :: a8 :: none :: some v :: none :: r) := lcR_less (l1 := a0 :: a1 :: a2 :: a3 :: a4 :: a5 :: a6 :: a7 :: a8 :: none :: a10 :: b :: r) (lcR_set2 (fun a _ h9 => by cases h9; rfl)) (lcx (k := 9) (lc := a0 :: a1 :: a2 :: a3 :: a4 :: a5 :: a6 :: a7 :: a8 :: x :: a10 :: b :: r))
theorem s_11 {a0 a1 a2 a3 a4 a5 a6 a7 a8 a9 a10 a11 : Option Value} {r : List (Option Value)} {v : Value} (hv : v.category = 1) (h : nc a10 = true) : lcR 11 v (a0 :: a1 :: a2 :: a3 :: a4 :: a5 :: a6 :: a7 :: a8 :: a9 :: a10 :: a11 :: r) (a0 :: a1 :: a2 :: a3 :: a4 :: a5 :: a6 :: a7 :: a8 :: a9 :: a10 :: some v :: r) := lcR_set hv (fun a _ h9 => by cases h9; exact h)
theorem t_11 {a0 a1 a2 a3 a4 a5 a6 a7 a8 a9 a10 a11 b : Option Value} {r : List (Option Value)} {v : Value} (h : nc a10 = true) : lcR 11 v (a0 :: a1 :: a2 :: a3 :: a4 :: a5 :: a6 :: a7 :: a8 :: a9 :: a10 :: a11 :: b :: r) (a0 :: a1 :: a2 :: a3 :: a4 :: a5 :: a6 :: a7 :: a8 :: a9 :: a10 :: some v :: none :: r) := lcR_set2 (fun a _ h9 => by cases h9; exact h)
theorem sc_11 {a0 a1 a2 a3 a4 a5 a6 a7 a8 a9 a11 x : Option Value} {r : List (Option Value)} {v : Value} (hv : v.category = 1) : lcR 11 v (a0 :: a1 :: a2 :: a3 :: a4 :: a5 :: a6 :: a7 :: a8 :: a9 :: x :: a11 :: r) (a0 :: a1 :: a2 :: a3 :: a4 :: a5 :: a6 :: a7 :: a8 :: a9 :: none :: some v :: r) := lcR_less (l1 := a0 :: a1 :: a2 :: a3 :: a4 :: a5 :: a6 :: a7 :: a8 :: a9 :: none :: a11 :: r) (lcR_set hv (fun a _ h9 => by cases h9; rfl)) (lcx (k := 10) (lc := a0 :: a1 :: a2 :: a3 :: a4 :: a5 :: a6 :: a7 :: a8 :: a9 :: x :: a11 :: r))
theorem tc_11 {a0 a1 a2 a3 a4 a5 a6 a7 a8 a9 a11 x b : Option Value} {r : List (Option Value)} {v : Value} : lcR 11 v (a0 :: a1 :: a2 :: a3 :: a4 :: a5 :: a6 :: a7 :: a8 :: a9 :: x :: a11 :: b :: r) (a0 :: a1 :: a2 :: a3 :: a4 :: a5 :: a6 :: a7 :: a8 :: a9 :: none :: some v :: none :: r) := lcR_less (l1 := a0 :: a1 :: a2 :: a3 :: a4 :: a5 :: a6 :: a7 :: a8 :: a9 :: none :: a11 :: b :: r) (lcR_set2 (fun a _ h9 => by cases h9; rfl)) (lcx (k := 10) (lc := a0 :: a1 :: a2 :: a3 :: a4 :: a5 :: a6 :: a7 :: a8 :: a9 :: x :: a11 :: b :: r))
theorem s_12 {a0 a1 a2 a3 a4 a5 a6 a7 a8 a9 a10 a11 a12 : Option Value} {r : List (Option Value)} {v : Value} (hv : v.category = 1) (h : nc a11 = true) : lcR 12 v (a0 :: a1 :: a2 :: a3 :: a4 :: a5 :: a6 :: a7 :: a8 :: a9 :: a10 :: a11 :: a12 :: r) (a0 :: a1 :: a2 :: a3 :: a4 :: a5 :: a6 :: a7 :: a8 :: a9 :: a10 :: a11 :: some v :: r) := lcR_set hv (fun a _ h9 => by cases h9; exact h)
theorem t_12 {a0 a1 a2 a3 a4 a5 a6 a7 a8 a9 a10 a11 a12 b : Option Value} {r : List (Option Value)} {v : Value} (h : nc a11 = true) : lcR 12 v (a0 :: a1 :: a2 :: a3 :: a4 :: a5 :: a6 :: a7 :: a8 :: a9 :: a10 :: a11 :: a12 :: b :: r) (a0 :: a1 :: a2 :: a3 :: a4 :: a5 :: a6 :: a7 :: a8 :: a9 :: a10 :: a11 :: some v :: none :: r) := lcR_set2 (fun a _ h9 => by cases h9; exact h)
theorem sc_12 {a0 a1 a2 a3 a4 a5 a6 a7 a8 a9 a10 a12 x : Option Value} {r : List (Option Value)} {v : Value} (hv : v.category = 1) : lcR 12 v (a0 :: a1 :: a2 :: a3 :: a4 :: a5 :: a6 :: a7 :: a8 :: a9 :: a10 :: x :: a12 :: r) (a0 :: a1 :: a2 :: a3 :: a4 :: a5 :: a6 :: a7 :: a8 :: a9 :: a10 :: none :: some v :: r) := lcR_less (l1 := a0 :: a1 :: a2 :: a3 :: a4 :: a5 :: a6 :: a7 :: a8 :: a9 :: a10 :: none :: a12 :: r) (lcR_set hv (fun a _ h9 => by cases h9; rfl)) (lcx (k := 11) (lc := a0 :: a1 :: a2 :: a3 :: a4 :: a5 :: a6 :: a7 :: a8 :: a9 :: a10 :: x :: a12 :: r))
theorem tc_12 {a0 a1 a2 a3 a4 a5 a6 a7 a8 a9 a10 a12 x b : Option Value} {r : List (Option Value)} {v : Value} : lcR 12 v (a0 :: a1 :: a2 :: a3 :: a4 :: a5 :: a6 :: a7 :: a8 :: a9 :: a10 :: x :: a12 :: b :: r) (a0 :: a1 :: a2 :: a3 :: a4 :: a5 :: a6 :: a7 :: a8 :: a9 :: a10 :: none :: some v :: none :: r) := lcR_less (l1 := a0 :: a1 :: a2 :: a3 :: a4 :: a5 :: a6 :: a7 :: a8 :: a9 :: a10 :: none :: a12 :: b :: r) (lcR_set2 (fun a _ h9 => by cases h9; rfl)) (lcx (k := 11) (lc := a0 :: a1 :: a2 :: a3 :: a4 :: a5 :: a6 :: a7 :: a8 :: a9 :: a10 :: x :: a12 :: b :: r))
theorem s_13 {a0 a1 a2 a3 a4 a5 a6 a7 a8 a9 a10 a11 a12 a13 : Option Value} {r : List (Option Value)} {v : Value} (hv : v.category = 1) (h : nc a12 = true) : lcR 13 v (a0 :: a1 :: a2 :: a3 :: a4 :: a5 :: a6 :: a7 :: a8 :: a9 :: a10 :: a11 :: a12 :: a13 :: r) (a0 :: a1 :: a2 :: a3 :: a4 :: a5 :: a6 :: a7 :: a8 :: a9 :: a10 :: a11 :: a12 :: some v :: r) := lcR_set hv (fun a _ h9 => by cases h9; exact h)
theorem t_13 {a0 a1 a2 a3 a4 a5 a6 a7 a8 a9 a10 a11 a12 a13 b : Option Value} {r : List (Option Value)} {v : Value} (h : nc a12 = true) : lcR 13 v (a0 :: a1 :: a2 :: a3 :: a4 :: a5 :: a6 :: a7 :: a8 :: a9 :: a10 :: a11 :: a12 :: a13 :: b :: r) (a0 :: a1 :: a2 :: a3 :: a4 :: a5 :: a6 :: a7 :: a8 :: a9 :: a10 :: a11 :: a12 :: some v :: none :: r) := lcR_set2 (fun a _ h9 => by cases h9; exact h)
theorem sc_13 {a0 a1 a2 a3 a4 a5 a6 a7 a8 a9 a10 a11 a13 x : Option Value} {r : List (Option Value)} {v : Value} (hv : v.category = 1) : lcR 13 v (a0 :: a1 :: a2 :: a3 :: a4 :: a5 :: a6 :: a7 :: a8 :: a9 :: a10 :: a11 :: x :: a13 :: r) (a0 :: a1 :: a2 :: a3 :: a4 :: a5 :: a6 :: a7 :: a8 :: a9 :: a10 :: a11 :: none :: some v :: r) := lcR_less (l1 := a0 :: a1 :: a2 :: a3 :: a4 :: a5 :: a6 :: a7 :: a8 :: a9 :: a10 :: a11 :: none :: a13 :: r) (lcR_set hv (fun a _ h9 => by cases h9; rfl)) (lcx (k := 12) (lc := a0 :: a1 :: a2 :: a3 :: a4 :: a5 :: a6 :: a7 :: a8 :: a9 :: a10 :: a11 :: x :: a13 :: r))
theorem tc_13 {a0 a1 a2 a3 a4 a5 a6 a7 a8 a9 a10 a11 a13 x b : Option Value} {r : List (Option Value)} {v : Value} : lcR 13 v (a0 :: a1 :: a2 :: a3 :: a4 :: a5 :: a6 :: a7 :: a8 :: a9 :: a10 :: a11 :: x :: a13 :: b :: r) (a0 :: a1 :: a2 :: a3 :: a4 :: a5 :: a6 :: a7 :: a8 :: a9 :: a10 :: a11 :: none :: some v :: none :: r) := lcR_less (l1 := a0 :: a1 :: a2 :: a3 :: a4 :: a5 :: a6 :: a7 :: a8 :: a9 :: a10 :: a11 :: none :: a13 :: b :: r) (lcR_set2 (fun a _ h9 => by cases h9; rfl)) (lcx (k := 12) (lc := a0 :: a1 :: a2 :: a3 :: a4 :: a5 :: a6 :: a7 :: a8 :: a9 :: a10 :: a11 :: x :: a13 :: b :: r))
theorem s_14 {a0 a1 a2 a3 a4 a5 a6 a7 a8 a9 a10 a11 a12 a13 a14 : Option Value} {r : List (Option Value)} {v : Value} (hv : v.category = 1) (h : nc a13 = true) : lcR 14 v (a0 :: a1 :: a2 :: a3 :: a4 :: a5 :: a6 :: a7 :: a8 :: a9 :: a10 :: a11 :: a12 :: a13 :: a14 :: r) (a0 :: a1 :: a2 :: a3 :: a4 :: a5 :: a6 :: a7 :: a8 :: a9 :: a10 :: a11 :: a12 :: a13 :: some v :: r) := lcR_set hv (fun a _ h9 => by cases h9; exact h)
theorem t_14 {a0 a1 a2 a3 a4 a5 a6 a7 a8 a9 a10 a11 a12 a13 a14 b : Option Value} {r : List (Option Value)} {v : Value} (h : nc a13 = true) : lcR 14 v (a0 :: a1 :: a2 :: a3 :: a4 :: a5 :: a6 :: a7 :: a8 :: a9 :: a10 :: a11 :: a12 :: a13 :: a14 :: b :: r) (a0 :: a1 :: a2 :: a3 :: a4 :: a5 :: a6 :: a7 :: a8 :: a9 :: a10 :: a11 :: a12 :: a13 :: some v :: none :: r) := lcR_set2 (fun a _ h9 => by cases h9; exact h)
theorem sc_14 {a0 a1 a2 a3 a4 a5 a6 a7 a8 a9 a10 a11 a12 a14 x : Option Value} {r : List (Option Value)} {v : Value} (hv : v.category = 1) : lcR 14 v (a0 :: a1 :: a2 :: a3 :: a4 :: a5 :: a6 :: a7 :: a8 :: a9 :: a10 :: a11 :: a12 :: x :: a14 :: r) (a0 :: a1 :: a2 :: a3 :: a4 :: a5 :: a6 :: a7 :: a8 :: a9 :: a10 :: a11 :: a12 :: none :: some v :: r) := lcR_less (l1 := a0 :: a1 :: a2 :: a3 :: a4 :: a5 :: a6 :: a7 :: a8 :: a9 :: a10 :: a11 :: a12 :: none :: a14 :: r) (lcR_set hv (fun a _ h9 => by cases h9; rfl)) (lcx (k := 13) (lc := a0 :: a1 :: a2 :: a3 :: a4 :: a5 :: a6 :: a7 :: a8 :: a9 :: a10 :: a11 :: a12 :: x :: a14 :: r))
theorem tc_14 {a0 a1 a2 a3 a4 a5 a6 a7 a8 a9 a10 a11 a12 a14 x b : Option Value} {r : List (Option Value)} {v : Value} : lcR 14 v (a0 :: a1 :: a2 :: a3 :: a4 :: a5 :: a6 :: a7 :: a8 :: a9 :: a10 :: a11 :: a12 :: x :: a14 :: b :: r) (a0 :: a1 :: a2 :: a3 :: a4 :: a5 :: a6 :: a7 :: a8 :: a9 :: a10 :: a11 :: a12 :: none :: some v :: none :: r) := lcR_less (l1 := a0 :: a1 :: a2 :: a3 :: a4 :: a5 :: a6 :: a7 :: a8 :: a9 :: a10 :: a11 :: a12 :: none :: a14 :: b :: r) (lcR_set2 (fun a _ h9 => by cases h9; rfl)) (lcx (k := 13) (lc := a0 :: a1 :: a2 :: a3 :: a4 :: a5 :: a6 :: a7 :: a8 :: a9 :: a10 :: a11 :: a12 :: x :: a14 :: b :: r))
theorem s_15 {a0 a1 a2 a3 a4 a5 a6 a7 a8 a9 a10 a11 a12 a13 a14 a15 : Option Value} {r : List (Option Value)} {v : Value} (hv : v.category = 1) (h : nc a14 = true) : lcR 15 v (a0 :: a1 :: a2 :: a3 :: a4 :: a5 :: a6 :: a7 :: a8 :: a9 :: a10 :: a11 :: a12 :: a13 :: a14 :: a15 :: r) (a0 :: a1 :: a2 :: a3 :: a4 :: a5 :: a6 :: a7 :: a8 :: a9 :: a10 :: a11 :: a12 :: a13 :: a14 :: some v :: r) := lcR_set hv (fun a _ h9 => by cases h9; exact h)
theorem t_15 {a0 a1 a2 a3 a4 a5 a6 a7 a8 a9 a10 a11 a12 a13 a14 a15 b : Option Value} {r : List (Option Value)} {v : Value} (h : nc a14 = true) : lcR 15 v (a0 :: a1 :: a2 :: a3 :: a4 :: a5 :: a6 :: a7 :: a8 :: a9 :: a10 :: a11 :: a12 :: a13 :: a14 :: a15 :: b :: r) (a0 :: a1 :: a2 :: a3 :: a4 :: a5 :: a6 :: a7 :: a8 :: a9 :: a10 :: a11 :: a12 :: a13 :: a14 :: some v :: none :: r) := lcR_set2 (fun a _ h9 => by cases h9; exact h)
theorem sc_15 {a0 a1 a2 a3 a4 a5 a6 a7 a8 a9 a10 a11 a12 a13 a15 x : Option Value} {r : List (Option Value)} {v : Value} (hv : v.category = 1) : lcR 15 v (a0 :: a1 :: a2 :: a3 :: a4 :: a5 :: a6 :: a7 :: a8 :: a9 :: a10 :: a11 :: a12 :: a13 :: x :: a15 :: r) (a0 :: a1 :: a2 :: a3 :: a4 :: a5 :: a6 :: a7 :: a8 :: a9 :: a10 :: a11 :: a12 :: a13 :: none :: some v :: r) := lcR_less (l1 := a0 :: a1 :: a2 :: a3 :: a4 :: a5 :: a6 :: a7 :: a8 :: a9 :: a10 :: a11 :: a12 :: a13 :: none :: a15 :: r) (lcR_set hv (fun a _ h9 => by cases h9; rfl)) (lcx (k := 14) (lc := a0 :: a1 :: a2 :: a3 :: a4 :: a5 :: a6 :: a7 :: a8 :: a9 :: a10 :: a11 :: a12 :: a13 :: x :: a15 :: r))
theorem tc_15 {a0 a1 a2 a3 a4 a5 a6 a7 a8 a9 a10 a11 a12 a13 a15 x b : Option Value} {r : List (Option Value)} {v : Value} : lcR 15 v (a0 :: a1 :: a2 :: a3 :: a4 :: a5 :: a6 :: a7 :: a8 :: a9 :: a10 :: a11 :: a12 :: a13 :: x :: a15 :: b :: r) (a0 :: a1 :: a2 :: a3 :: a4 :: a5 :: a6 :: a7 :: a8 :: a9 :: a10 :: a11 :: a12 :: a13 :: none :: some v :: none :: r) := lcR_less (l1 := a0 :: a1 :: a2 :: a3 :: a4 :: a5 :: a6 :: a7 :: a8 :: a9 :: a10 :: a11 :: a12 :: a13 :: none :: a15 :: b :: r) (lcR_set2 (fun a _ h9 => by cases h9; rfl)) (lcx (k := 14) (lc := a0 :: a1 :: a2 :: a3 :: a4 :: a5 :: a6 :: a7 :: a8 :: a9 :: a10 :: a11 :: a12 :: a13 :: x :: a15 :: b :: r))
theorem s_16 {a0 a1 a2 a3 a4 a5 a6 a7 a8 a9 a10 a11 a12 a13 a14 a15 a16 : Option Value} {r : List (Option Value)} {v : Value} (hv : v.category = 1) (h : nc a15 = true) : lcR 16 v (a0 :: a1 :: a2 :: a3 :: a4 :: a5 :: a6 :: a7 :: a8 :: a9 :: a10 :: a11 :: a12 :: a13 :: a14 :: a15 :: a16 :: r) (a0 :: a1 :: a2 :: a3 :: a4 :: a5 :: a6 :: a7 :: a8 :: a9 :: a10 :: a11 :: a12 :: a13 :: a14 :: a15 :: some v :: r) := lcR_set hv (fun a _ h9 => by cases h9; exact h)
theorem t_16 {a0 a1 a2 a3 a4 a5 a6 a7 a8 a9 a10 a11 a12 a13 a14 a15 a16 b : Option Value} {r : List (Option Value)} {v : Value} (h : nc a15 = true) : lcR 16 v (a0 :: a1 :: a2 :: a3 :: a4 :: a5 :: a6 :: a7 :: a8 :: a9 :: a10 :: a11 :: a12 :: a13 :: a14 :: a15 :: a16 :: b :: r) (a0 :: a1 :: a2 :: a3 :: a4 :: a5 :: a6 :: a7 :: a8 :: a9 :: a10 :: a11 :: a12 :: a13 :: a14 :: a15 :: some v :: none :: r) := lcR_set2 (fun a _ h9 => by cases h9; exact h)
theorem sc_16 {a0 a1 a2 a3 a4 a5 a6 a7 a8 a9 a10 a11 a12 a13 a14 a16 x : Option Value} {r : List (Option Value)} {v : Value} (hv : v.category = 1) : lcR 16 v (a0 :: a1 :: a2 :: a3 :: a4 :: a5 :: a6 :: a7 :: a8 :: a9 :: a10 :: a11 :: a12 :: a13 :: a14 :: x :: a16 :: r) (a0 :: a1 :: a2 :: a3 :: a4 :: a5 :: a6 :: a7 :: a8 :: a9 :: a10 :: a11 :: a12 :: a13 :: a14 :: none :: some v :: r) := lcR_less (l1 := a0 :: a1 :: a2 :: a3 :: a4 :: a5 :: a6 :: a7 :: a8 :: a9 :: a10 :: a11 :: a12 :: a13 :: a14 :: none :: a16 :: r) (lcR_set hv (fun a _ h9 => by cases h9; rfl)) (lcx (k := 15) (lc := a0 :: a1 :: a2 :: a3 :: a4 :: a5 :: a6 :: a7 :: a8 :: a9 :: a10 :: a11 :: a12 :: a13 :: a14 :: x :: a16 :: r))
theorem tc_16 {a0 a1 a2 a3 a4 a5 a6 a7 a8 a9 a10 a11 a12 a13 a14 a16 x b : Option Value} {r : List (Option Value)} {v : Value} : lcR 16 v (a0 :: a1 :: a2 :: a3 :: a4 :: a5 :: a6 :: a7 :: a8 :: a9 :: a10 :: a11 :: a12 :: a13 :: a14 :: x :: a16 :: b :: r) (a0 :: a1 :: a2 :: a3 :: a4 :: a5 :: a6 :: a7 :: a8 :: a9 :: a10 :: a11 :: a12 :: a13 :: a14 :: none :: some v :: none :: r) := lcR_less (l1 := a0 :: a1 :: a2 :: a3 :: a4 :: a5 :: a6 :: a7 :: a8 :: a9 :: a10 :: a11 :: a12 :: a13 :: a14 :: none :: a16 :: b :: r) (lcR_set2 (fun a _ h9 => by cases h9; rfl)) (lcx (k := 15) (lc := a0 :: a1 :: a2 :: a3 :: a4 :: a5 :: a6 :: a7 :: a8 :: a9 :: a10 :: a11 :: a12 :: a13 :: a14 :: x :: a16 :: b :: r))
theorem s_17 {a0 a1 a2 a3 a4 a5 a6 a7 a8 a9 a10 a11 a12 a13 a14 a15 a16 a17 : Option Value} {r : List (Option Value)} {v : Value} (hv : v.category = 1) (h : nc a16 = true) : lcR 17 v (a0 :: a1 :: a2 :: a3 :: a4 :: a5 :: a6 :: a7 :: a8 :: a9 :: a10 :: a11 :: a12 :: a13 :: a14 :: a15 :: a16 :: a17 :: r) (a0 :: a1 :: a2 :: a3 :: a4 :: a5 :: a6 :: a7 :: a8 :: a9 :: a10 :: a11 :: a12 :: a13 :: a14 :: a15 :: a16 :: some v :: r) := lcR_set hv (fun a _ h9 => by cases h9; exact h)
theorem t_17 {a0 a1 a2 a3 a4 a5 a6 a7 a8 a9 a10 a11 a12 a13 a14 a15 a16 a17 b : Option Value} {r : List (Option Value)} {v : Value} (h : nc a16 = true) : lcR 17 v (a0 :: a1 :: a2 :: a3 :: a4 :: a5 :: a6 :: a7 :: a8 :: a9 :: a10 :: a11 :: a12 :: a13 :: a14 :: a15 :: a16 :: a17 :: b :: r) (a0 :: a1 :: a2 :: a3 :: a4 :: a5 :: a6 :: a7 :: a8 :: a9 :: a10 :: a11 :: a12 :: a13 :: a14 :: a15 :: a16 :: some v :: none :: r) := lcR_set2 (fun a _ h9 => by cases h9; exact h)
theorem sc_17 {a0 a1 a2 a3 a4 a5 a6 a7 a8 a9 a10 a11 a12 a13 a14 a15 a17 x : Option Value} {r : List (Option Value)} {v : Value} (hv : v.category = 1) : lcR 17 v (a0 :: a1 :: a2 :: a3 :: a4 :: a5 :: a6 :: a7 :: a8 :: a9 :: a10 :: a11 :: a12 :: a13 :: a14 :: a15 :: x :: a17 :: r) (a0 :: a1 :: a2 :: a3 :: a4 :: a5 :: a6 :: a7 :: a8 :: a9 :: a10 :: a11 :: a12 :: a13 :: a14 :: a15 :: none :: some v :: r) := lcR_less (l1 := a0 :: a1 :: a2 :: a3 :: a4 :: a5 :: a6 :: a7 :: a8 :: a9 :: a10 :: a11 :: a12 :: a13 :: a14 :: a15 :: none :: a17 :: r) (lcR_set hv (fun a _ h9 => by cases h9; rfl)) (lcx (k := 16) (lc := a0 :: a1 :: a2 :: a3 :: a4 :: a5 :: a6 :: a7 :: a8 :: a9 :: a10 :: a11 :: a12 :: a13 :: a14 :: a15 :: x :: a17 :: r))
theorem tc_17 {a0 a1 a2 a3 a4 a5 a6 a7 a8 a9 a10 a11 a12 a13 a14 a15 a17 x b : Option Value} {r : List (Option Value)} {v : Value} : lcR 17 v (a0 :: a1 :: a2 :: a3 :: a4 :: a5 :: a6 :: a7 :: a8 :: a9 :: a10 :: a11 :: a12 :: a13 :: a14 :: a15 :: x :: a17 :: b :: r) (a0 :: a1 :: a2 :: a3 :: a4 :: a5 :: a6 :: a7 :: a8 :: a9 :: a10 :: a11 :: a12 :: a13 :: a14 :: a15 :: none :: some v :: none :: r) := lcR_less (l1 := a0 :: a1 :: a2 :: a3 :: a4 :: a5 :: a6 :: a7 :: a8 :: a9 :: a10 :: a11 :: a12 :: a13 :: a14 :: a15 :: none :: a17 :: b :: r) (lcR_set2 (fun a _ h9 => by cases h9; rfl)) (lcx (k := 16) (lc := a0 :: a1 :: a2 :: a3 :: a4 :: a5 :: a6 :: a7 :: a8 :: a9 :: a10 :: a11 :: a12 :: a13 :: a14 :: a15 :: x :: a17 :: b :: r))
theorem s_18 {a0 a1 a2 a3 a4 a5 a6 a7 a8 a9 a10 a11 a12 a13 a14 a15 a16 a17 a18 : Option Value} {r : List (Option Value)} {v : Value} (hv : v.category = 1) (h : nc a17 = true) : lcR 18 v (a0 :: a1 :: a2 :: a3 :: a4 :: a5 :: a6 :: a7 :: a8 :: a9 :: a10 :: a11 :: a12 :: a13 :: a14 :: a15 :: a16 :: a17 :: a18 :: r) (a0 :: a1 :: a2 :: a3 :: a4 :: a5 :: a6 :: a7 :: a8 :: a9 :: a10 :: a11 :: a12 :: a13 :: a14 :: a15 :: a16 :: a17 :: some v :: r) := lcR_set hv (fun a _ h9 => by cases h9; exact h)
theorem t_18 {a0 a1 a2 a3 a4 a5 a6 a7 a8 a9 a10 a11 a12 a13 a14 a15 a16 a17 a18 b : Option Value} {r : List (Option Value)} {v : Value} (h : nc a17 = true) : lcR 18 v (a0 :: a1 :: a2 :: a3 :: a4 :: a5 :: a6 :: a7 :: a8 :: a9 :: a10 :: a11 :: a12 :: a13 :: a14 :: a15 :: a16 :: a17 :: a18 :: b :: r) (a0 :: a1 :: a2 :: a3 :: a4 :: a5 :: a6 :: a7 :: a8 :: a9 :: a10 :: a11 :: a12 :: a13 :: a14 :: a15 :: a16 :: a17 :: some v :: none :: r) := lcR_set2 (fun a _ h9 => by cases h9; exact h)
theorem sc_18 {a0 a1 a2 a3 a4 a5 a6 a7 a8 a9 a10 a11 a12 a13 a14 a15 a16 a18 x : Option Value} {r : List (Option Value)} {v : Value} (hv : v.category = 1) : lcR 18 v (a0 :: a1 :: a2 :: a3 :: a4 :: a5 :: a6 :: a7 :: a8 :: a9 :: a10 :: a11 :: a12 :: a13 :: a14 :: a15 :: a16 :: x :: a18 :: r) (a0 :: a1 :: a2 :: a3 :: a4 :: a5 :: a6 :: a7 :: a8 :: a9 :: a10 :: a11 :: a12 :: a13 :: a14 :: a15 :: a16 :: none :: some v :: r) := lcR_less (l1 := a0 :: a1 :: a2 :: a3 :: a4 :: a5 :: a6 :: a7 :: a8 :: a9 :: a10 :: a11 :: a12 :: a13 :: a14 :: a15 :: a16 :: none :: a18 :: r) (lcR_set hv (fun a _ h9 => by cases h9; rfl)) (lcx (k := 17) (lc := a0 :: a1 :: a2 :: a3 :: a4 :: a5 :: a6 :: a7 :: a8 :: a9 :: a10 :: a11 :: a12 :: a13 :: a14 :: a15 :: a16 :: x :: a18 :: r))
theorem tc_18 {a0 a1 a2 a3 a4 a5 a6 a7 a8 a9 a10 a11 a12 a13 a14 a15 a16 a18 x b : Option Value} {r : List (Option Value)} {v : Value} : lcR 18 v (a0 :: a1 :: a2 :: a3 :: a4 :: a5 :: a6 :: a7 :: a8 :: a9 :: a10 :: a11 :: a12 :: a13 :: a14 :: a15 :: a16 :: x :: a18 :: b :: r) (a0 :: a1 :: a2 :: a3 :: a4 :: a5 :: a6 :: a7 :: a8 :: a9 :: a10 :: a11 :: a12 :: a13 :: a14 :: a15 :: a16 :: none :: some v :: none :: r) := lcR_less (l1 := a0 :: a1 :: a2 :: a3 :: a4 :: a5 :: a6 :: a7 :: a8 :: a9 :: a10 :: a11 :: a12 :: a13 :: a14 :: a15 :: a16 :: none :: a18 :: b :: r) (lcR_set2 (fun a _ h9 => by cases h9; rfl)) (lcx (k := 17) (lc := a0 :: a1 :: a2 :: a3 :: a4 :: a5 :: a6 :: a7 :: a8 :: a9 :: a10 :: a11 :: a12 :: a13 :: a14 :: a15 :: a16 :: x :: a18 :: b :: r))
theorem s_19 {a0 a1 a2 a3 a4 a5 a6 a7 a8 a9 a10 a11 a12 a13 a14 a15 a16 a17 a18 a19 : Option Value} {r : List (Option Value)} {v : Value} (hv : v.category = 1) (h : nc a18 = true) : lcR 19 v (a0 :: a1 :: a2 :: a3 :: a4 :: a5 :: a6 :: a7 :: a8 :: a9 :: a10 :: a11 :: a12 :: a13 :: a14 :: a15 :: a16 :: a17 :: a18 :: a19 :: r) (a0 :: a1 :: a2 :: a3 :: a4 :: a5 :: a6 :: a7 :: a8 :: a9 :: a10 :: a11 :: a12 :: a13 :: a14 :: a15 :: a16 :: a17 :: a18 :: some v :: r) := lcR_set hv (fun a _ h9 => by cases h9; exact h)
theorem t_19 {a0 a1 a2 a3 a4 a5 a6 a7 a8 a9 a10 a11 a12 a13 a14 a15 a16 a17 a18 a19 b : Option Value} {r : List (Option Value)} {v : Value} (h : nc a18 = true) : lcR 19 v (a0 :: a1 :: a2 :: a3 :: a4 :: a5 :: a6 :: a7 :: a8 :: a9 :: a10 :: a11 :: a12 :: a13 :: a14 :: a15 :: a16 :: a17 :: a18 :: a19 :: b :: r) (a0 :: a1 :: a2 :: a3 :: a4 :: a5 :: a6 :: a7 :: a8 :: a9 :: a10 :: a11 :: a12 :: a13 :: a14 :: a15 :: a16 :: a17 :: a18 :: some v :: none :: r) := lcR_set2 (fun a _ h9 => by cases h9; exact h)
theorem sc_19 {a0 a1 a2 a3 a4 a5 a6 a7 a8 a9 a10 a11 a12 a13 a14 a15 a16 a17 a19 x : Option Value} {r : List (Option Value)} {v : Value} (hv : v.category = 1) : lcR 19 v (a0 :: a1 :: a2 :: a3 :: a4 :: a5 :: a6 :: a7 :: a8 :: a9 :: a10 :: a11 :: a12 :: a13 :: a14 :: a15 :: a16 :: a17 :: x :: a19 :: r) (a0 :: a1 :: a2 :: a3 :: a4 :: a5 :: a6 :: a7 :: a8 :: a9 :: a10 :: a11 :: a12 :: a13 :: a14 :: a15 :: a16 :: a17 :: none :: some v :: r) := lcR_less (l1 := a0 :: a1 :: a2 :: a3 :: a4 :: a5 :: a6 :: a7 :: a8 :: a9 :: a10 :: a11 :: a12 :: a13 :: a14 :: a15 :: a16 :: a17 :: none :: a19 :: r) (lcR_set hv (fun a _ h9 => by cases h9; rfl)) (lcx (k := 18) (lc := a0 :: a1 :: a2 :: a3 :: a4 :: a5 :: a6 :: a7 :: a8 :: a9 :: a10 :: a11 :: a12 :: a13 :: a14 :: a15 :: a16 :: a17 :: x :: a19 :: r))
theorem tc_19 {a0 a1 a2 a3 a4 a5 a6 a7 a8 a9 a10 a11 a12 a13 a14 a15 a16 a17 a19 x b : Option Value} {r : List (Option Value)} {v : Value} : lcR 19 v (a0 :: a1 :: a2 :: a3 :: a4 :: a5 :: a6 :: a7 :: a8 :: a9 :: a10 :: a11 :: a12 :: a13 :: a14 :: a15 :: a16 :: a17 :: x :: a19 :: b :: r) (a0 :: a1 :: a2 :: a3 :: a4 :: a5 :: a6 :: a7 :: a8 :: a9 :: a10 :: a11 :: a12 :: a13 :: a14 :: a15 :: a16 :: a17 :: none :: some v :: none :: r) := lcR_less (l1 := a0 :: a1 :: a2 :: a3 :: a4 :: a5 :: a6 :: a7 :: a8 :: a9 :: a10 :: a11 :: a12 :: a13 :: a14 :: a15 :: a16 :: a17 :: none :: a19 :: b :: r) (lcR_set2 (fun a _ h9 => by cases h9; rfl)) (lcx (k := 18) (lc := a0 :: a1 :: a2 :: a3 :: a4 :: a5 :: a6 :: a7 :: a8 :: a9 :: a10 :: a11 :: a12 :: a13 :: a14 :: a15 :: a16 :: a17 :: x :: a19 :: b :: r))
theorem s_20 {a0 a1 a2 a3 a4 a5 a6 a7 a8 a9 a10 a11 a12 a13 a14 a15 a16 a17 a18 a19 a20 : Option Value} {r : List (Option Value)} {v : Value} (hv : v.category = 1) (h : nc a19 = true) : lcR 20 v (a0 :: a1 :: a2 :: a3 :: a4 :: a5 :: a6 :: a7 :: a8 :: a9 :: a10 :: a11 :: a12 :: a13 :: a14 :: a15 :: a16 :: a17 :: a18 :: a19 :: a20 :: r) (a0 :: a1 :: a2 :: a3 :: a4 :: a5 :: a6 :: a7 :: a8 :: a9 :: a10 :: a11 :: a12 :: a13 :: a14 :: a15 :: a16 :: a17 :: a18 :: a19 :: some v :: r) := lcR_set hv (fun a _ h9 => by cases h9; exact h)
theorem t_20 {a0 a1 a2 a3 a4 a5 a6 a7 a8 a9 a10 a11 a12 a13 a14 a15 a16 a17 a18 a19 a20 b : Option Value} {r : List (Option Value)} {v : Value} (h : nc a19 = true) : lcR 20 v (a0 :: a1 :: a2 :: a3 :: a4 :: a5 :: a6 :: a7 :: a8 :: a9 :: a10 :: a11 :: a12 :: a13 :: a14 :: a15 :: a16 :: a17 :: a18 :: a19 :: a20 :: b :: r) (a0 :: a1 :: a2 :: a3 :: a4 :: a5 :: a6 :: a7 :: a8 :: a9 :: a10 :: a11 :: a12 :: a13 :: a14 :: a15 :: a16 :: a17 :: a18 :: a19 :: some v :: none :: r) := lcR_set2 (fun a _ h9 => by cases h9; exact h)
theorem sc_20 {a0 a1 a2 a3 a4 a5 a6 a7 a8 a9 a10 a11 a12 a13 a14 a15 a16 a17 a18 a20 x : Option Value} {r : List (Option Value)} {v : Value} (hv : v.category = 1) : lcR 20 v (a0 :: a1 :: a2 :: a3 :: a4 :: a5 :: a6 :: a7 :: a8 :: a9 :: a10 :: a11 :: a12 :: a13 :: a14 :: a15 :: a16 :: a17 :: a18 :: x :: a20 :: r) (a0 :: a1 :: a2 :: a3 :: a4 :: a5 :: a6 :: a7 :: a8 :: a9 :: a10 :: a11 :: a12 :: a13 :: a14 :: a15 :: a16 :: a17 :: a18 :: none :: some v :: r) := lcR_less (l1 := a0 :: a1 :: a2 :: a3 :: a4 :: a5 :: a6 :: a7 :: a8 :: a9 :: a10 :: a11 :: a12 :: a13 :: a14 :: a15 :: a16 :: a17 :: a18 :: none :: a20 :: r) (lcR_set hv (fun a _ h9 => by cases h9; rfl)) (lcx (k := 19) (lc := a0 :: a1 :: a2 :: a3 :: a4 :: a5 :: a6 :: a7 :: a8 :: a9 :: a10 :: a11 :: a12 :: a13 :: a14 :: a15 :: a16 :: a17 :: a18 :: x :: a20 :: r))
theorem tc_20 {a0 a1 a2 a3 a4 a5 a6 a7 a8 a9 a10 a11 a12 a13 a14 a15 a16 a17 a18 a20 x b : Option Value} {r : List (Option Value)} {v : Value} : lcR 20 v (a0 :: a1 :: a2 :: a3 :: a4 :: a5 :: a6 :: a7 :: a8 :: a9 :: a10 :: a11 :: a12 :: a13 :: a14 :: a15 :: a16 :: a17 :: a18 :: x :: a20 :: b :: r) (a0 :: a1 :: a2 :: a3 :: a4 :: a5 :: a6 :: a7 :: a8 :: a9 :: a10 :: a11 :: a12 :: a13 :: a14 :: a15 :: a16 :: a17 :: a18 :: none :: some v :: none :: r) := lcR_less (l1 := a0 :: a1 :: a2 :: a3 :: a4 :: a5 :: a6 :: a7 :: a8 :: a9 :: a10 :: a11 :: a12 :: a13 :: a14 :: a15 :: a16 :: a17 :: a18 :: none :: a20 :: b :: r) (lcR_set2 (fun a _ h9 => by cases h9; rfl)) (lcx (k := 19) (lc := a0 :: a1 :: a2 :: a3 :: a4 :: a5 :: a6 :: a7 :: a8 :: a9 :: a10 :: a11 :: a12 :: a13 :: a14 :: a15 :: a16 :: a17 :: a18 :: x :: a20 :: b :: r))
theorem s_21 {a0 a1 a2 a3 a4 a5 a6 a7 a8 a9 a10 a11 a12 a13 a14 a15 a16 a17 a18 a19 a20 a21 : Option Value} {r : List (Option Value)} {v : Value} (hv : v.category = 1) (h : nc a20 = true) : lcR 21 v (a0 :: a1 :: a2 :: a3 :: a4 :: a5 :: a6 :: a7 :: a8 :: a9 :: a10 :: a11 :: a12 :: a13 :: a14 :: a15 :: a16 :: a17 :: a18 :: a19 :: a20 :: a21 :: r) (a0 :: a1 :: a2 :: a3 :: a4 :: a5 :: a6 :: a7 :: a8 :: a9 :: a10 :: a11 :: a12 :: a13 :: a14 :: a15 :: a16 :: a17 :: a18 :: a19 :: a20 :: some v :: r) := lcR_set hv (fun a _ h9 => by cases h9; exact h)
theorem t_21 {a0 a1 a2 a3 a4 a5 a6 a7 a8 a9 a10 a11 a12 a13 a14 a15 a16 a17 a18 a19 a20 a21 b : Option Value} {r : List (Option Value)} {v : Value} (h : nc a20 = true) : lcR 21 v (a0 :: a1 :: a2 :: a3 :: a4 :: a5 :: a6 :: a7 :: a8 :: a9 :: a10 :: a11 :: a12 :: a13 :: a14 :: a15 :: a16 :: a17 :: a18 :: a19 :: a20 :: a21 :: b :: r) (a0 :: a1 :: a2 :: a3 :: a4 :: a5 :: a6 :: a7 :: a8 :: a9 :: a10 :: a11 :: a12 :: a13 :: a14 :: a15 :: a16 :: a17 :: a18 :: a19 :: a20 :: some v :: none :: r) := lcR_set2 (fun a _ h9 => by cases h9; exact h)
theorem sc_21 {a0 a1 a2 a3 a4 a5 a6 a7 a8 a9 a10 a11 a12 a13 a14 a15 a16 a17 a18 a19 a21 x : Option Value} {r : List (Option Value)} {v : Value} (hv : v.category = 1) : lcR 21 v (a0 :: a1 :: a2 :: a3 :: a4 :: a5 :: a6 :: a7 :: a8 :: a9 :: a10 :: a11 :: a12 :: a13 :: a14 :: a15 :: a16 :: a17 :: a18 :: a19 :: x :: a21 :: r) (a0 :: a1 :: a2 :: a3 :: a4 :: a5 :: a6 :: a7 :: a8 :: a9 :: a10 :: a11 :: a12 :: a13 :: a14 :: a15 :: a16 :: a17 :: a18 :: a19 :: none :: some v :: r) := lcR_less (l1 := a0 :: a1 :: a2 :: a3 :: a4 :: a5 :: a6 :: a7 :: a8 :: a9 :: a10 :: a11 :: a12 :: a13 :: a14 :: a15 :: a16 :: a17 :: a18 :: a19 :: none :: a21 :: r) (lcR_set hv (fun a _ h9 => by cases h9; rfl)) (lcx (k := 20) (lc := a0 :: a1 :: a2 :: a3 :: a4 :: a5 :: a6 :: a7 :: a8 :: a9 :: a10 :: a11 :: a12 :: a13 :: a14 :: a15 :: a16 :: a17 :: a18 :: a19 :: x :: a21 :: r))
theorem tc_21 {a0 a1 a2 a3 a4 a5 a6 a7 a8 a9 a10 a11 a12 a13 a14 a15 a16 a17 a18 a19 a21 x b : Option Value} {r : List (Option Value)} {v : Value} : lcR 21 v (a0 :: a1 :: a2 :: a3 :: a4 :: a5 :: a6 :: a7 :: a8 :: a9 :: a10 :: a11 :: a12 :: a13 :: a14 :: a15 :: a16 :: a17 :: a18 :: a19 :: x :: a21 :: b :: r) (a0 :: a1 :: a2 :: a3 :: a4 :: a5 :: a6 :: a7 :: a8 :: a9 :: a10 :: a11 :: a12 :: a13 :: a14 :: a15 :: a16 :: a17 :: a18 :: a19 :: none :: some v :: none :: r) := lcR_less (l1 := a0 :: a1 :: a2 :: a3 :: a4 :: a5 :: a6 :: a7 :: a8 :: a9 :: a10 :: a11 :: a12 :: a13 :: a14 :: a15 :: a16 :: a17 :: a18 :: a19 :: none :: a21 :: b :: r) (lcR_set2 (fun a _ h9 => by cases h9; rfl)) (lcx (k := 20) (lc := a0 :: a1 :: a2 :: a3 :: a4 :: a5 :: a6 :: a7 :: a8 :: a9 :: a10 :: a11 :: a12 :: a13 :: a14 :: a15 :: a16 :: a17 :: a18 :: a19 :: x :: a21 :: b :: r))
theorem Vr_icmpeq {x y : Int32} (d : dj M pc (.if_icmp .eq) q t) (kt : x = y → V G M Q kc ks t lc st w) (kf : ¬ x = y → V G M Q kc ks q lc st w) : V G M Q kc ks pc lc (.int y :: .int x :: st) w := by
  obtain ⟨off, d, rfl, ht⟩ := d
  intro p l e s m args below meth c H locs ls C hP hS hl
  exact lv_icmp_eq C.1 C.2.1 d ht (fun h => kt h p l e s m args below meth c H locs ls C hP hS hl) (fun h => kf h p l e s m args below meth c H locs ls C hP hS hl)
theorem Vr_icmpne {x y : Int32} (d : dj M pc (.if_icmp .ne) q t) (kt : ¬ x = y → V G M Q kc ks t lc st w) (kf : x = y → V G M Q kc ks q lc st w) : V G M Q kc ks pc lc (.int y :: .int x :: st) w := by
  obtain ⟨off, d, rfl, ht⟩ := d
  intro p l e s m args below meth c H locs ls C hP hS hl
  exact lv_icmp_ne C.1 C.2.1 d ht (fun h => kt h p l e s m args below meth c H locs ls C hP hS hl) (fun h => kf h p l e s m args below meth c H locs ls C hP hS hl)
theorem Vr_icmplt {x y : Int32} (d : dj M pc (.if_icmp .lt) q t) (kt : x < y → V G M Q kc ks t lc st w) (kf : ¬ x < y → V G M Q kc ks q lc st w) : V G M Q kc ks pc lc (.int y :: .int x :: st) w := by
  obtain ⟨off, d, rfl, ht⟩ := d
  intro p l e s m args below meth c H locs ls C hP hS hl
  exact lv_icmp_lt C.1 C.2.1 d ht (fun h => kt h p l e s m args below meth c H locs ls C hP hS hl) (fun h => kf h p l e s m args below meth c H locs ls C hP hS hl)
theorem Vr_icmpge {x y : Int32} (d : dj M pc (.if_icmp .ge) q t) (kt : y ≤ x → V G M Q kc ks t lc st w) (kf : ¬ y ≤ x → V G M Q kc ks q lc st w) : V G M Q kc ks pc lc (.int y :: .int x :: st) w := by
  obtain ⟨off, d, rfl, ht⟩ := d
  intro p l e s m args below meth c H locs ls C hP hS hl
  exact lv_icmp_ge C.1 C.2.1 d ht (fun h => kt h p l e s m args below meth c H locs ls C hP hS hl) (fun h => kf h p l e s m args below meth c H locs ls C hP hS hl)
theorem Vr_icmpgt {x y : Int32} (d : dj M pc (.if_icmp .gt) q t) (kt : y < x → V G M Q kc ks t lc st w) (kf : ¬ y < x → V G M Q kc ks q lc st w) : V G M Q kc ks pc lc (.int y :: .int x :: st) w := by
  obtain ⟨off, d, rfl, ht⟩ := d
  intro p l e s m args below meth c H locs ls C hP hS hl
  exact lv_icmp_gt C.1 C.2.1 d ht (fun h => kt h p l e s m args below meth c H locs ls C hP hS hl) (fun h => kf h p l e s m args below meth c H locs ls C hP hS hl)
theorem Vr_icmple {x y : Int32} (d : dj M pc (.if_icmp .le) q t) (kt : x ≤ y → V G M Q kc ks t lc st w) (kf : ¬ x ≤ y → V G M Q kc ks q lc st w) : V G M Q kc ks pc lc (.int y :: .int x :: st) w := by
  obtain ⟨off, d, rfl, ht⟩ := d
  intro p l e s m args below meth c H locs ls C hP hS hl
  exact lv_icmp_le C.1 C.2.1 d ht (fun h => kt h p l e s m args below meth c H locs ls C hP hS hl) (fun h => kf h p l e s m args below meth c H locs ls C hP hS hl)
theorem Vr_ifeq {x : Int32} (d : dj M pc (.ifCond .eq) q t) (kt : x = 0 → V G M Q kc ks t lc st w) (kf : ¬ x = 0 → V G M Q kc ks q lc st w) : V G M Q kc ks pc lc (.int x :: st) w := by
  obtain ⟨off, d, rfl, ht⟩ := d
  intro p l e s m args below meth c H locs ls C hP hS hl
  exact lv_if_eq C.1 C.2.1 d ht (fun h => kt h p l e s m args below meth c H locs ls C hP hS hl) (fun h => kf h p l e s m args below meth c H locs ls C hP hS hl)
theorem Vr_ifne {x : Int32} (d : dj M pc (.ifCond .ne) q t) (kt : ¬ x = 0 → V G M Q kc ks t lc st w) (kf : x = 0 → V G M Q kc ks q lc st w) : V G M Q kc ks pc lc (.int x :: st) w := by
  obtain ⟨off, d, rfl, ht⟩ := d
  intro p l e s m args below meth c H locs ls C hP hS hl
  exact lv_if_ne C.1 C.2.1 d ht (fun h => kt h p l e s m args below meth c H locs ls C hP hS hl) (fun h => kf h p l e s m args below meth c H locs ls C hP hS hl)
theorem Vr_iflt {x : Int32} (d : dj M pc (.ifCond .lt) q t) (kt : x < 0 → V G M Q kc ks t lc st w) (kf : ¬ x < 0 → V G M Q kc ks q lc st w) : V G M Q kc ks pc lc (.int x :: st) w := by
  obtain ⟨off, d, rfl, ht⟩ := d
  intro p l e s m args below meth c H locs ls C hP hS hl
  exact lv_if_lt C.1 C.2.1 d ht (fun h => kt h p l e s m args below meth c H locs ls C hP hS hl) (fun h => kf h p l e s m args below meth c H locs ls C hP hS hl)
theorem Vr_ifge {x : Int32} (d : dj M pc (.ifCond .ge) q t) (kt : 0 ≤ x → V G M Q kc ks t lc st w) (kf : ¬ 0 ≤ x → V G M Q kc ks q lc st w) : V G M Q kc ks pc lc (.int x :: st) w := by
  obtain ⟨off, d, rfl, ht⟩ := d
  intro p l e s m args below meth c H locs ls C hP hS hl
  exact lv_if_ge C.1 C.2.1 d ht (fun h => kt h p l e s m args below meth c H locs ls C hP hS hl) (fun h => kf h p l e s m args below meth c H locs ls C hP hS hl)
theorem Vr_ifgt {x : Int32} (d : dj M pc (.ifCond .gt) q t) (kt : 0 < x → V G M Q kc ks t lc st w) (kf : ¬ 0 < x → V G M Q kc ks q lc st w) : V G M Q kc ks pc lc (.int x :: st) w := by
  obtain ⟨off, d, rfl, ht⟩ := d
  intro p l e s m args below meth c H locs ls C hP hS hl
  exact lv_if_gt C.1 C.2.1 d ht (fun h => kt h p l e s m args below meth c H locs ls C hP hS hl) (fun h => kf h p l e s m args below meth c H locs ls C hP hS hl)
theorem Vr_ifle {x : Int32} (d : dj M pc (.ifCond .le) q t) (kt : x ≤ 0 → V G M Q kc ks t lc st w) (kf : ¬ x ≤ 0 → V G M Q kc ks q lc st w) : V G M Q kc ks pc lc (.int x :: st) w := by
  obtain ⟨off, d, rfl, ht⟩ := d
  intro p l e s m args below meth c H locs ls C hP hS hl
  exact lv_if_le C.1 C.2.1 d ht (fun h => kt h p l e s m args below meth c H locs ls C hP hS hl) (fun h => kf h p l e s m args below meth c H locs ls C hP hS hl)
theorem V_goto (d : dj M pc .goto q t) (k : V G M Q kc ks t lc st w) : V G M Q kc ks pc lc st w := by
  obtain ⟨off, d, rfl, ht⟩ := d
  intro p l e s m args below meth c H locs ls C hP hS hl
  exact lv_goto C.1 C.2.1 d ht (k p l e s m args below meth c H locs ls C hP hS hl)
end R5
end
section
section R6
variable {G : gT} {M : mT} {Q : Option Value → wT → Prop} {kc ks pc q t : Nat} {lc lc' : List (Option Value)} {st : List Value} {w : wT}
theorem i32_lt {a b : Int} (ra : -2147483648 ≤ a ∧ a < 2147483648) (rb : -2147483648 ≤ b ∧ b < 2147483648) : Int32.ofInt a < Int32.ofInt b ↔ a < b := by
  rw [Int32.lt_iff_toInt_lt, Int32.toInt_ofInt_of_le (by omega) (by omega), Int32.toInt_ofInt_of_le (by omega) (by omega)]
theorem i32_le {a b : Int} (ra : -2147483648 ≤ a ∧ a < 2147483648) (rb : -2147483648 ≤ b ∧ b < 2147483648) : Int32.ofInt a ≤ Int32.ofInt b ↔ a ≤ b := by
  rw [Int32.le_iff_toInt_le, Int32.toInt_ofInt_of_le (by omega) (by omega), Int32.toInt_ofInt_of_le (by omega) (by omega)]
theorem i32_eq {a b : Int} (ra : -2147483648 ≤ a ∧ a < 2147483648) (rb : -2147483648 ≤ b ∧ b < 2147483648) : Int32.ofInt a = Int32.ofInt b ↔ a = b := by
  rw [← Int32.toInt_inj, Int32.toInt_ofInt_of_le (by omega) (by omega), Int32.toInt_ofInt_of_le (by omega) (by omega)]
theorem i64_lt {a b : Int} (ra : -9223372036854775808 ≤ a ∧ a < 9223372036854775808) (rb : -9223372036854775808 ≤ b ∧ b < 9223372036854775808) : Int64.ofInt a < Int64.ofInt b ↔ a < b := by
  rw [Int64.lt_iff_toInt_lt, Int64.toInt_ofInt_of_le (by omega) (by omega), Int64.toInt_ofInt_of_le (by omega) (by omega)]
theorem i64_eq {a b : Int} (ra : -9223372036854775808 ≤ a ∧ a < 9223372036854775808) (rb : -9223372036854775808 ≤ b ∧ b < 9223372036854775808) : Int64.ofInt a = Int64.ofInt b ↔ a = b := by
  rw [← Int64.toInt_inj, Int64.toInt_ofInt_of_le (by omega) (by omega), Int64.toInt_ofInt_of_le (by omega) (by omega)]
theorem i32_clamp {i : Int} (h : 0 ≤ i ∧ i < 2147483648) : (Int32.ofInt i).toNatClampNeg = i.toNat := by
  show (Int32.ofInt i).toInt.toNat = i.toNat
  rw [Int32.toInt_ofInt_of_le (by omega) (by omega)]
theorem i32_in {i : Int} {n : Nat} (h : 0 ≤ i ∧ i < n) (hn : n < 2147483648) : vp_in (Int32.ofInt i) n := by
  have e := i32_clamp (i := i) (by omega)
  intro hx
  rcases hx with hx | hx
  · have : Int32.ofInt i < Int32.ofInt 0 := hx
    rw [i32_lt (by omega) (by omega)] at this
    omega
  · rw [e] at hx
    omega
theorem i64_of {a : Int} (ra : -2147483648 ≤ a ∧ a < 2147483648) : (Int32.ofInt a).toInt64 = Int64.ofInt a := by
  apply Int64.toInt.inj
  rw [Int32.toInt_toInt64, Int32.toInt_ofInt_of_le (by omega) (by omega), Int64.toInt_ofInt_of_le (by omega) (by omega)]
theorem V_iadd {a b : Int} (d : dc M pc .iadd 1 q) (k : V G M Q kc ks q lc (vi (a + b) :: st) w) : V G M Q kc ks pc lc (vi b :: vi a :: st) w := Vr_iadd (x := Int32.ofInt a) (y := Int32.ofInt b) d (by rw [← Int32.ofInt_add]; exact k)
theorem V_isub {a b : Int} (d : dc M pc .isub 1 q) (k : V G M Q kc ks q lc (vi (a - b) :: st) w) : V G M Q kc ks pc lc (vi b :: vi a :: st) w := Vr_isub (x := Int32.ofInt a) (y := Int32.ofInt b) d (by rw [← Int32.ofInt_sub]; exact k)
theorem V_imul {a b : Int} (d : dc M pc .imul 1 q) (k : V G M Q kc ks q lc (vi (a * b) :: st) w) : V G M Q kc ks pc lc (vi b :: vi a :: st) w := Vr_imul (x := Int32.ofInt a) (y := Int32.ofInt b) d (by rw [← Int32.ofInt_mul]; exact k)
theorem V_ladd {a b : Int} (d : dc M pc .ladd 1 q) (k : V G M Q kc ks q lc (vl (a + b) :: st) w) : V G M Q kc ks pc lc (vl b :: vl a :: st) w := Vr_ladd (x := Int64.ofInt a) (y := Int64.ofInt b) d (by rw [← Int64.ofInt_add]; exact k)
theorem V_lsub {a b : Int} (d : dc M pc .lsub 1 q) (k : V G M Q kc ks q lc (vl (a - b) :: st) w) : V G M Q kc ks pc lc (vl b :: vl a :: st) w := Vr_lsub (x := Int64.ofInt a) (y := Int64.ofInt b) d (by rw [← Int64.ofInt_sub]; exact k)
theorem V_lmul {a b : Int} (d : dc M pc .lmul 1 q) (k : V G M Q kc ks q lc (vl (a * b) :: st) w) : V G M Q kc ks pc lc (vl b :: vl a :: st) w := Vr_lmul (x := Int64.ofInt a) (y := Int64.ofInt b) d (by rw [← Int64.ofInt_mul]; exact k)
theorem V_ineg {a : Int} (d : dc M pc .ineg 1 q) (k : V G M Q kc ks q lc (vi (-a) :: st) w) : V G M Q kc ks pc lc (vi a :: st) w := Vr_ineg (x := Int32.ofInt a) d (by rw [← Int32.ofInt_neg]; exact k)
theorem V_i2l {a : Int} (d : dc M pc .i2l 1 q) (k : V G M Q kc ks q lc (vl a :: st) w) (ra : -2147483648 ≤ a ∧ a < 2147483648 := by omega) : V G M Q kc ks pc lc (vi a :: st) w := Vr_i2l (x := Int32.ofInt a) d (by rw [i64_of ra]; exact k)
theorem V_l2i {a : Int} (d : dc M pc .l2i 1 q) (k : V G M Q kc ks q lc (vi a :: st) w) : V G M Q kc ks pc lc (vl a :: st) w := Vr_l2i (x := Int64.ofInt a) d (by rw [Int64.toInt32_ofInt]; exact k)
theorem i32_div {a b : Int} (hb : 0 < b ∧ b < 2147483648) (ra : -2147483648 ≤ a ∧ a < 2147483648) : Int32.ofInt a / Int32.ofInt b = Int32.ofInt (a.tdiv b) := (Int32.ofInt_tdiv (by show (-2147483648 : Int) ≤ a; omega) (by show a ≤ (2147483647 : Int); omega) (by show (-2147483648 : Int) ≤ b; omega) (by show b ≤ (2147483647 : Int); omega)).symm
theorem i64_div {a b : Int} (hb : 0 < b ∧ b < 9223372036854775808) (ra : -9223372036854775808 ≤ a ∧ a < 9223372036854775808) : Int64.ofInt a / Int64.ofInt b = Int64.ofInt (a.tdiv b) := (Int64.ofInt_tdiv (by show (-9223372036854775808 : Int) ≤ a; omega) (by show a ≤ (9223372036854775807 : Int); omega) (by show (-9223372036854775808 : Int) ≤ b; omega) (by show b ≤ (9223372036854775807 : Int); omega)).symm
theorem i32_ne0 {b : Int} (hb : 0 < b ∧ b < 2147483648) : ¬ Int32.ofInt b = 0 := by
  intro h
  have := (i32_eq (a := b) (b := 0) (by omega) (by omega)).mp h
  omega
theorem i64_ne0 {b : Int} (hb : 0 < b ∧ b < 9223372036854775808) : ¬ Int64.ofInt b = 0 := by
  intro h
  have := (i64_eq (a := b) (b := 0) (by omega) (by omega)).mp h
  omega
theorem V_idiv {a b : Int} (d : dc M pc .idiv 1 q) (k : V G M Q kc ks q lc (vi (a.tdiv b) :: st) w) (hb : 0 < b ∧ b < 2147483648 := by omega) (ra : -2147483648 ≤ a ∧ a < 2147483648 := by omega) : V G M Q kc ks pc lc (vi b :: vi a :: st) w := Vr_idiv (x := Int32.ofInt a) (y := Int32.ofInt b) (i32_ne0 hb) d (by rw [i32_div hb ra]; exact k)
theorem V_irem {a b : Int} (d : dc M pc .irem 1 q) (k : V G M Q kc ks q lc (vi (a.tmod b) :: st) w) (hb : 0 < b ∧ b < 2147483648 := by omega) (ra : -2147483648 ≤ a ∧ a < 2147483648 := by omega) : V G M Q kc ks pc lc (vi b :: vi a :: st) w := Vr_irem (x := Int32.ofInt a) (y := Int32.ofInt b) (i32_ne0 hb) d (by
  rw [i32_div hb ra, ← Int32.ofInt_mul, ← Int32.ofInt_sub, show a - a.tdiv b * b = a.tmod b by rw [Int.tmod_def, Int.mul_comm]]
  exact k)
theorem V_ldiv {a b : Int} (d : dc M pc .ldiv 1 q) (k : V G M Q kc ks q lc (vl (a.tdiv b) :: st) w) (hb : 0 < b ∧ b < 9223372036854775808 := by omega) (ra : -9223372036854775808 ≤ a ∧ a < 9223372036854775808 := by omega) : V G M Q kc ks pc lc (vl b :: vl a :: st) w := Vr_ldiv (x := Int64.ofInt a) (y := Int64.ofInt b) (i64_ne0 hb) d (by rw [i64_div hb ra]; exact k)
def iAnd (a b : Int) : Int := (Int32.ofInt a &&& Int32.ofInt b).toInt
def iOr (a b : Int) : Int := (Int32.ofInt a ||| Int32.ofInt b).toInt
def iXor (a b : Int) : Int := (Int32.ofInt a ^^^ Int32.ofInt b).toInt
def iShl (a b : Int) : Int := (Int32.ofInt a <<< (Int32.ofInt b &&& 31)).toInt
def iShr (a b : Int) : Int := (Int32.ofInt a >>> (Int32.ofInt b &&& 31)).toInt
def iUshr (a b : Int) : Int := (((Int32.ofInt a).toUInt32 >>> ((Int32.ofInt b).toUInt32 &&& Int32.toUInt32 31)).toInt32).toInt
def lAnd (a b : Int) : Int := (Int64.ofInt a &&& Int64.ofInt b).toInt
def lOr (a b : Int) : Int := (Int64.ofInt a ||| Int64.ofInt b).toInt
def lShl (a b : Int) : Int := (Int64.ofInt a <<< ((Int32.ofInt b).toInt64 &&& 63)).toInt
def lShr (a b : Int) : Int := (Int64.ofInt a >>> ((Int32.ofInt b).toInt64 &&& 63)).toInt
def lUshr (a b : Int) : Int := (((Int64.ofInt a).toUInt64 >>> ((Int32.ofInt b).toInt64.toUInt64 &&& Int64.toUInt64 63)).toInt64).toInt
def iChr (a : Int) : Int := (((Int32.ofInt a).toUInt32 % 65536).toInt32).toInt
theorem V_iand {a b : Int} (d : dc M pc .iand 1 q) (k : V G M Q kc ks q lc (vi (iAnd a b) :: st) w) : V G M Q kc ks pc lc (vi b :: vi a :: st) w := Vr_iand (x := Int32.ofInt a) (y := Int32.ofInt b) d (by unfold iAnd vi at k; rw [Int32.ofInt_toInt] at k; exact k)
theorem V_ior {a b : Int} (d : dc M pc .ior 1 q) (k : V G M Q kc ks q lc (vi (iOr a b) :: st) w) : V G M Q kc ks pc lc (vi b :: vi a :: st) w := Vr_ior (x := Int32.ofInt a) (y := Int32.ofInt b) d (by unfold iOr vi at k; rw [Int32.ofInt_toInt] at k; exact k)
theorem V_ixor {a b : Int} (d : dc M pc .ixor 1 q) (k : V G M Q kc ks q lc (vi (iXor a b) :: st) w) : V G M Q kc ks pc lc (vi b :: vi a :: st) w := Vr_ixor (x := Int32.ofInt a) (y := Int32.ofInt b) d (by unfold iXor vi at k; rw [Int32.ofInt_toInt] at k; exact k)
theorem V_ishl {a b : Int} (d : dc M pc .ishl 1 q) (k : V G M Q kc ks q lc (vi (iShl a b) :: st) w) : V G M Q kc ks pc lc (vi b :: vi a :: st) w := Vr_ishl (x := Int32.ofInt a) (y := Int32.ofInt b) d (by unfold iShl vi at k; rw [Int32.ofInt_toInt] at k; exact k)
theorem V_ishr {a b : Int} (d : dc M pc .ishr 1 q) (k : V G M Q kc ks q lc (vi (iShr a b) :: st) w) : V G M Q kc ks pc lc (vi b :: vi a :: st) w := Vr_ishr (x := Int32.ofInt a) (y := Int32.ofInt b) d (by unfold iShr vi at k; rw [Int32.ofInt_toInt] at k; exact k)
theorem V_iushr {a b : Int} (d : dc M pc .iushr 1 q) (k : V G M Q kc ks q lc (vi (iUshr a b) :: st) w) : V G M Q kc ks pc lc (vi b :: vi a :: st) w := Vr_iushr (x := Int32.ofInt a) (y := Int32.ofInt b) d (by unfold iUshr vi at k; rw [Int32.ofInt_toInt] at k; exact k)
theorem V_land {a b : Int} (d : dc M pc .land 1 q) (k : V G M Q kc ks q lc (vl (lAnd a b) :: st) w) : V G M Q kc ks pc lc (vl b :: vl a :: st) w := Vr_land (x := Int64.ofInt a) (y := Int64.ofInt b) d (by unfold lAnd vl at k; rw [Int64.ofInt_toInt] at k; exact k)
theorem V_lor {a b : Int} (d : dc M pc .lor 1 q) (k : V G M Q kc ks q lc (vl (lOr a b) :: st) w) : V G M Q kc ks pc lc (vl b :: vl a :: st) w := Vr_lor (x := Int64.ofInt a) (y := Int64.ofInt b) d (by unfold lOr vl at k; rw [Int64.ofInt_toInt] at k; exact k)
theorem V_lshl {a b : Int} (d : dc M pc .lshl 1 q) (k : V G M Q kc ks q lc (vl (lShl a b) :: st) w) : V G M Q kc ks pc lc (vi b :: vl a :: st) w := Vr_lshl (x := Int64.ofInt a) (y := Int32.ofInt b) d (by unfold lShl vl at k; rw [Int64.ofInt_toInt] at k; exact k)
theorem V_lshr {a b : Int} (d : dc M pc .lshr 1 q) (k : V G M Q kc ks q lc (vl (lShr a b) :: st) w) : V G M Q kc ks pc lc (vi b :: vl a :: st) w := Vr_lshr (x := Int64.ofInt a) (y := Int32.ofInt b) d (by unfold lShr vl at k; rw [Int64.ofInt_toInt] at k; exact k)
theorem V_lushr {a b : Int} (d : dc M pc .lushr 1 q) (k : V G M Q kc ks q lc (vl (lUshr a b) :: st) w) : V G M Q kc ks pc lc (vi b :: vl a :: st) w := Vr_lushr (x := Int64.ofInt a) (y := Int32.ofInt b) d (by unfold lUshr vl at k; rw [Int64.ofInt_toInt] at k; exact k)
theorem V_i2c {a : Int} (d : dc M pc .i2c 1 q) (k : V G M Q kc ks q lc (vi (iChr a) :: st) w) : V G M Q kc ks pc lc (vi a :: st) w := Vr_i2c (x := Int32.ofInt a) d (by unfold iChr vi at k; rw [Int32.ofInt_toInt] at k; exact k)
theorem V_icmpeq {a b : Int} (d : dj M pc (.if_icmp .eq) q t) (kt : a = b → V G M Q kc ks t lc st w) (kf : ¬ a = b → V G M Q kc ks q lc st w) (ra : -2147483648 ≤ a ∧ a < 2147483648 := by omega) (rb : -2147483648 ≤ b ∧ b < 2147483648 := by omega) : V G M Q kc ks pc lc (vi b :: vi a :: st) w := Vr_icmpeq (x := Int32.ofInt a) (y := Int32.ofInt b) d (fun h => kt (by rwa [i32_eq ra rb] at h)) (fun h => kf (by rwa [i32_eq ra rb] at h))
theorem V_icmpne {a b : Int} (d : dj M pc (.if_icmp .ne) q t) (kt : ¬ a = b → V G M Q kc ks t lc st w) (kf : a = b → V G M Q kc ks q lc st w) (ra : -2147483648 ≤ a ∧ a < 2147483648 := by omega) (rb : -2147483648 ≤ b ∧ b < 2147483648 := by omega) : V G M Q kc ks pc lc (vi b :: vi a :: st) w := Vr_icmpne (x := Int32.ofInt a) (y := Int32.ofInt b) d (fun h => kt (by rwa [i32_eq ra rb] at h)) (fun h => kf (by rwa [i32_eq ra rb] at h))
theorem V_icmplt {a b : Int} (d : dj M pc (.if_icmp .lt) q t) (kt : a < b → V G M Q kc ks t lc st w) (kf : ¬ a < b → V G M Q kc ks q lc st w) (ra : -2147483648 ≤ a ∧ a < 2147483648 := by omega) (rb : -2147483648 ≤ b ∧ b < 2147483648 := by omega) : V G M Q kc ks pc lc (vi b :: vi a :: st) w := Vr_icmplt (x := Int32.ofInt a) (y := Int32.ofInt b) d (fun h => kt (by rwa [i32_lt ra rb] at h)) (fun h => kf (by rwa [i32_lt ra rb] at h))
theorem V_icmpge {a b : Int} (d : dj M pc (.if_icmp .ge) q t) (kt : b ≤ a → V G M Q kc ks t lc st w) (kf : ¬ b ≤ a → V G M Q kc ks q lc st w) (ra : -2147483648 ≤ a ∧ a < 2147483648 := by omega) (rb : -2147483648 ≤ b ∧ b < 2147483648 := by omega) : V G M Q kc ks pc lc (vi b :: vi a :: st) w := Vr_icmpge (x := Int32.ofInt a) (y := Int32.ofInt b) d (fun h => kt (by rwa [i32_le rb ra] at h)) (fun h => kf (by rwa [i32_le rb ra] at h))
theorem V_icmpgt {a b : Int} (d : dj M pc (.if_icmp .gt) q t) (kt : b < a → V G M Q kc ks t lc st w) (kf : ¬ b < a → V G M Q kc ks q lc st w) (ra : -2147483648 ≤ a ∧ a < 2147483648 := by omega) (rb : -2147483648 ≤ b ∧ b < 2147483648 := by omega) : V G M Q kc ks pc lc (vi b :: vi a :: st) w := Vr_icmpgt (x := Int32.ofInt a) (y := Int32.ofInt b) d (fun h => kt (by rwa [i32_lt rb ra] at h)) (fun h => kf (by rwa [i32_lt rb ra] at h))
theorem V_icmple {a b : Int} (d : dj M pc (.if_icmp .le) q t) (kt : a ≤ b → V G M Q kc ks t lc st w) (kf : ¬ a ≤ b → V G M Q kc ks q lc st w) (ra : -2147483648 ≤ a ∧ a < 2147483648 := by omega) (rb : -2147483648 ≤ b ∧ b < 2147483648 := by omega) : V G M Q kc ks pc lc (vi b :: vi a :: st) w := Vr_icmple (x := Int32.ofInt a) (y := Int32.ofInt b) d (fun h => kt (by rwa [i32_le ra rb] at h)) (fun h => kf (by rwa [i32_le ra rb] at h))
theorem V_ifeq {a : Int} (d : dj M pc (.ifCond .eq) q t) (kt : a = 0 → V G M Q kc ks t lc st w) (kf : ¬ a = 0 → V G M Q kc ks q lc st w) (ra : -2147483648 ≤ a ∧ a < 2147483648 := by omega) : V G M Q kc ks pc lc (vi a :: st) w := Vr_ifeq (x := Int32.ofInt a) d (fun h => kt (by have h : Int32.ofInt a = Int32.ofInt 0 := h; rwa [i32_eq (b := 0) ra (by omega)] at h)) (fun h => kf (by have h : ¬ Int32.ofInt a = Int32.ofInt 0 := h; rwa [i32_eq (b := 0) ra (by omega)] at h))
theorem V_ifne {a : Int} (d : dj M pc (.ifCond .ne) q t) (kt : ¬ a = 0 → V G M Q kc ks t lc st w) (kf : a = 0 → V G M Q kc ks q lc st w) (ra : -2147483648 ≤ a ∧ a < 2147483648 := by omega) : V G M Q kc ks pc lc (vi a :: st) w := Vr_ifne (x := Int32.ofInt a) d (fun h => kt (by have h : ¬ Int32.ofInt a = Int32.ofInt 0 := h; rwa [i32_eq (b := 0) ra (by omega)] at h)) (fun h => kf (by have h : Int32.ofInt a = Int32.ofInt 0 := h; rwa [i32_eq (b := 0) ra (by omega)] at h))
theorem V_iflt {a : Int} (d : dj M pc (.ifCond .lt) q t) (kt : a < 0 → V G M Q kc ks t lc st w) (kf : ¬ a < 0 → V G M Q kc ks q lc st w) (ra : -2147483648 ≤ a ∧ a < 2147483648 := by omega) : V G M Q kc ks pc lc (vi a :: st) w := Vr_iflt (x := Int32.ofInt a) d (fun h => kt (by have h : Int32.ofInt a < Int32.ofInt 0 := h; rwa [i32_lt (b := 0) ra (by omega)] at h)) (fun h => kf (by have h : ¬ Int32.ofInt a < Int32.ofInt 0 := h; rwa [i32_lt (b := 0) ra (by omega)] at h))
theorem V_ifge {a : Int} (d : dj M pc (.ifCond .ge) q t) (kt : 0 ≤ a → V G M Q kc ks t lc st w) (kf : ¬ 0 ≤ a → V G M Q kc ks q lc st w) (ra : -2147483648 ≤ a ∧ a < 2147483648 := by omega) : V G M Q kc ks pc lc (vi a :: st) w := Vr_ifge (x := Int32.ofInt a) d (fun h => kt (by have h : Int32.ofInt 0 ≤ Int32.ofInt a := h; rwa [i32_le (a := 0) (by omega) ra] at h)) (fun h => kf (by have h : ¬ Int32.ofInt 0 ≤ Int32.ofInt a := h; rwa [i32_le (a := 0) (by omega) ra] at h))
theorem V_ifgt {a : Int} (d : dj M pc (.ifCond .gt) q t) (kt : 0 < a → V G M Q kc ks t lc st w) (kf : ¬ 0 < a → V G M Q kc ks q lc st w) (ra : -2147483648 ≤ a ∧ a < 2147483648 := by omega) : V G M Q kc ks pc lc (vi a :: st) w := Vr_ifgt (x := Int32.ofInt a) d (fun h => kt (by have h : Int32.ofInt 0 < Int32.ofInt a := h; rwa [i32_lt (a := 0) (by omega) ra] at h)) (fun h => kf (by have h : ¬ Int32.ofInt 0 < Int32.ofInt a := h; rwa [i32_lt (a := 0) (by omega) ra] at h))
theorem V_ifle {a : Int} (d : dj M pc (.ifCond .le) q t) (kt : a ≤ 0 → V G M Q kc ks t lc st w) (kf : ¬ a ≤ 0 → V G M Q kc ks q lc st w) (ra : -2147483648 ≤ a ∧ a < 2147483648 := by omega) : V G M Q kc ks pc lc (vi a :: st) w := Vr_ifle (x := Int32.ofInt a) d (fun h => kt (by have h : Int32.ofInt a ≤ Int32.ofInt 0 := h; rwa [i32_le (b := 0) ra (by omega)] at h)) (fun h => kf (by have h : ¬ Int32.ofInt a ≤ Int32.ofInt 0 := h; rwa [i32_le (b := 0) ra (by omega)] at h))
theorem lcmp_of {a b : Int} (ra : -9223372036854775808 ≤ a ∧ a < 9223372036854775808) (rb : -9223372036854775808 ≤ b ∧ b < 9223372036854775808) : lg_cmp (Int64.ofInt a) (Int64.ofInt b) = Int32.ofInt (if b < a then 1 else if a = b then 0 else -1) := by
  unfold lg_cmp
  by_cases h1 : b < a
  · rw [if_pos ((i64_lt rb ra).mpr h1), if_pos h1]; rfl
  · rw [if_neg (fun h => h1 ((i64_lt rb ra).mp h)), if_neg h1]
    by_cases h2 : a = b
    · rw [if_pos ((i64_eq ra rb).mpr h2), if_pos h2]; rfl
    · rw [if_neg (fun h => h2 ((i64_eq ra rb).mp h)), if_neg h2]; rfl
theorem icmp_r {a b : Int} : -2147483648 ≤ (if b < a then 1 else if a = b then 0 else -1 : Int) ∧ (if b < a then 1 else if a = b then 0 else -1 : Int) < 2147483648 := by
  split
  · omega
  · split <;> omega
theorem V_lcmpeq {a b : Int} {q1 : Nat} (d1 : dc M pc .lcmp 1 q1) (d : dj M q1 (.ifCond .eq) q t) (kt : a = b → V G M Q kc ks t lc st w) (kf : ¬ a = b → V G M Q kc ks q lc st w) (ra : -9223372036854775808 ≤ a ∧ a < 9223372036854775808 := by omega) (rb : -9223372036854775808 ≤ b ∧ b < 9223372036854775808 := by omega) : V G M Q kc ks pc lc (vl b :: vl a :: st) w := by
  refine Vr_lcmp (x := Int64.ofInt a) (y := Int64.ofInt b) d1 ?_
  rw [lcmp_of ra rb]
  refine V_ifeq d (fun h => kt ?_) (fun h => kf ?_) icmp_r
  · split at h
    · omega
    · split at h <;> omega
  · split at h
    · omega
    · split at h <;> omega
theorem V_lcmpne {a b : Int} {q1 : Nat} (d1 : dc M pc .lcmp 1 q1) (d : dj M q1 (.ifCond .ne) q t) (kt : ¬ a = b → V G M Q kc ks t lc st w) (kf : a = b → V G M Q kc ks q lc st w) (ra : -9223372036854775808 ≤ a ∧ a < 9223372036854775808 := by omega) (rb : -9223372036854775808 ≤ b ∧ b < 9223372036854775808 := by omega) : V G M Q kc ks pc lc (vl b :: vl a :: st) w := by
  refine Vr_lcmp (x := Int64.ofInt a) (y := Int64.ofInt b) d1 ?_
  rw [lcmp_of ra rb]
  refine V_ifne d (fun h => kt ?_) (fun h => kf ?_) icmp_r
  · split at h
    · omega
    · split at h <;> omega
  · split at h
    · omega
    · split at h <;> omega
theorem V_lcmplt {a b : Int} {q1 : Nat} (d1 : dc M pc .lcmp 1 q1) (d : dj M q1 (.ifCond .lt) q t) (kt : a < b → V G M Q kc ks t lc st w) (kf : ¬ a < b → V G M Q kc ks q lc st w) (ra : -9223372036854775808 ≤ a ∧ a < 9223372036854775808 := by omega) (rb : -9223372036854775808 ≤ b ∧ b < 9223372036854775808 := by omega) : V G M Q kc ks pc lc (vl b :: vl a :: st) w := by
  refine Vr_lcmp (x := Int64.ofInt a) (y := Int64.ofInt b) d1 ?_
  rw [lcmp_of ra rb]
  refine V_iflt d (fun h => kt ?_) (fun h => kf ?_) icmp_r
  · split at h
    · omega
    · split at h <;> omega
  · split at h
    · omega
    · split at h <;> omega
theorem V_lcmpge {a b : Int} {q1 : Nat} (d1 : dc M pc .lcmp 1 q1) (d : dj M q1 (.ifCond .ge) q t) (kt : b ≤ a → V G M Q kc ks t lc st w) (kf : ¬ b ≤ a → V G M Q kc ks q lc st w) (ra : -9223372036854775808 ≤ a ∧ a < 9223372036854775808 := by omega) (rb : -9223372036854775808 ≤ b ∧ b < 9223372036854775808 := by omega) : V G M Q kc ks pc lc (vl b :: vl a :: st) w := by
  refine Vr_lcmp (x := Int64.ofInt a) (y := Int64.ofInt b) d1 ?_
  rw [lcmp_of ra rb]
  refine V_ifge d (fun h => kt ?_) (fun h => kf ?_) icmp_r
  · split at h
    · omega
    · split at h <;> omega
  · split at h
    · omega
    · split at h <;> omega
theorem V_lcmpgt {a b : Int} {q1 : Nat} (d1 : dc M pc .lcmp 1 q1) (d : dj M q1 (.ifCond .gt) q t) (kt : b < a → V G M Q kc ks t lc st w) (kf : ¬ b < a → V G M Q kc ks q lc st w) (ra : -9223372036854775808 ≤ a ∧ a < 9223372036854775808 := by omega) (rb : -9223372036854775808 ≤ b ∧ b < 9223372036854775808 := by omega) : V G M Q kc ks pc lc (vl b :: vl a :: st) w := by
  refine Vr_lcmp (x := Int64.ofInt a) (y := Int64.ofInt b) d1 ?_
  rw [lcmp_of ra rb]
  refine V_ifgt d (fun h => kt ?_) (fun h => kf ?_) icmp_r
  · split at h
    · omega
    · split at h <;> omega
  · split at h
    · omega
    · split at h <;> omega
theorem V_lcmple {a b : Int} {q1 : Nat} (d1 : dc M pc .lcmp 1 q1) (d : dj M q1 (.ifCond .le) q t) (kt : a ≤ b → V G M Q kc ks t lc st w) (kf : ¬ a ≤ b → V G M Q kc ks q lc st w) (ra : -9223372036854775808 ≤ a ∧ a < 9223372036854775808 := by omega) (rb : -9223372036854775808 ≤ b ∧ b < 9223372036854775808 := by omega) : V G M Q kc ks pc lc (vl b :: vl a :: st) w := by
  refine Vr_lcmp (x := Int64.ofInt a) (y := Int64.ofInt b) d1 ?_
  rw [lcmp_of ra rb]
  refine V_ifle d (fun h => kt ?_) (fun h => kf ?_) icmp_r
  · split at h
    · omega
    · split at h <;> omega
  · split at h
    · omega
    · split at h <;> omega
theorem V_tabIn {dflt lo hi a : Int} {offs : Array Int} {n : Nat} {off : Int} (d : dc M pc (.tableswitch dflt lo hi offs) n q) (h1 : lo ≤ a ∧ a ≤ hi) (ho : offs[(a - lo).toNat]? = some off) (ht : (pc : Int) + off = (t : Int)) (k : V G M Q kc ks t lc st w) (ra : -2147483648 ≤ a ∧ a < 2147483648 := by omega) : V G M Q kc ks pc lc (vi a :: st) w := by
  obtain ⟨d, rfl⟩ := d
  intro p l e s m args below meth c H locs ls C hP hS hl
  have e : (Int32.ofInt a).toInt = a := Int32.toInt_ofInt_of_le (by omega) (by omega)
  exact lv_tableIn C.1 C.2.1 d (by rw [e]; omega) (by rw [e]; omega) (by rw [e]; exact ho) ht (k p l _ s m args below meth c H locs ls C hP hS hl)
theorem V_tabOut {dflt lo hi a : Int} {offs : Array Int} {n : Nat} (d : dc M pc (.tableswitch dflt lo hi offs) n q) (h1 : a < lo ∨ hi < a) (ht : (pc : Int) + dflt = (t : Int)) (k : V G M Q kc ks t lc st w) (ra : -2147483648 ≤ a ∧ a < 2147483648 := by omega) : V G M Q kc ks pc lc (vi a :: st) w := by
  obtain ⟨d, rfl⟩ := d
  intro p l e s m args below meth c H locs ls C hP hS hl
  have e : (Int32.ofInt a).toInt = a := Int32.toInt_ofInt_of_le (by omega) (by omega)
  exact lv_tableOut C.1 C.2.1 d (by rw [e]; exact h1) ht (k p l _ s m args below meth c H locs ls C hP hS hl)
end R6
end
section
theorem gad_lt {G : gT} {i : Nat} (h : i < 1000) : gad G i = gB G + i := if_pos h
theorem wls_D {G : gT} {w : wT} (h : w.1 ≤ 1000) : va_D (gA G) (wls G w) := by
  refine ⟨fun i j x y hx hy e => ?_, fun k x hx => ?_⟩
  · obtain ⟨h1, rfl⟩ := wls_at hx
    obtain ⟨h2, rfl⟩ := wls_at hy
    have e : gad G i = gad G j := e
    rw [gad_lt (by omega), gad_lt (by omega)] at e
    omega
  · obtain ⟨h1, rfl⟩ := wls_at hx
    show gB G ≤ gad G k
    rw [gad_lt (by omega)]
    omega
theorem Hp.put {G : gT} {w : wT} {H H1 : Heap} {o : Nat} {x : aE} (h : Hp G w H) (ho : o < w.1) (he : va_at (gD G) vwCl (gad G o, wre G x) H1) (z : H1.size = H.size) (oq : ∀ q : Nat, q ≠ gad G o → H1[q]? = H[q]?) : Hp G (put w o x) H1 := by
  refine ⟨?_, by rw [z]; exact h.2.1, h.2.2⟩
  have := h.1.set (wls_D h.2.2) (wls_get ho) he oq
  rwa [wls_put] at this
theorem Hp.psh {G : gT} {w : wT} {H H1 : Heap} {x : aE} (h : Hp G w H) (hn : w.1 < 1000) (he : va_at (gD G) vwCl (gad G w.1, wre G x) H1) (z : H1.size = H.size + 1) (oq : ∀ q : Nat, q < H.size → H1[q]? = H[q]?) : Hp G (psh w x) H1 := by
  refine ⟨?_, by rw [z, h.2.1]; show gB G + w.1 + 1 = gB G + (w.1 + 1); omega, by show w.1 + 1 ≤ 1000; omega⟩
  rw [← wls_psh]
  refine (h.1.kept (fun k x hx => oq x.1 ((h.1 k x hx).lt))).app (fun k x hx => ?_)
  have hz : k < 1 := (List.getElem?_eq_some_iff.mp hx).1
  rw [show k = 0 by omega] at hx
  cases hx
  exact he
/-- the class of this number, its fields, what the tables say of them -/
def cOk (ci : Nat) (C : String) (T : u_T) (N : Nat) (ty : Nat → FieldType) : Prop := vwCl[ci]? = some (C, T, N) ∧ (∀ w ∈ u_ws C T N, w ∈ aW) ∧ (∀ k, k < N → parseFieldDescriptor (T k).2.2.1 = some (ty k)) ∧ (∀ a, a < N → ∀ b, b < N → a ≠ b → (T a).2.1 ≠ (T b).2.1) ∧ Cond.instantiable C N ∈ aW ∧ Cond.initialized C ∈ aW ∧ nF ci = N ∧ ∀ k, k < N → (T k).1 = C
/-- this entry of this class's pool is field k of class ci -/
def fLk (own : String) (i ci k : Nat) (ty0 : FieldType) (fin : Bool) : Prop := ∃ C T N ty, cOk ci C T N ty ∧ k < N ∧ Cond.fieldLink own i C (T k).2.1 (T k).2.2.1 ∈ aW ∧ ty k = ty0 ∧ (T k).2.2.2 = fin ∧ (fin = true → own = C)
theorem nfs_get {G : gT} {f : Nat → Value} {N k : Nat} (h : k < N) : ((List.range N).map (fun k => gre G (f k)))[k]? = some (gre G (f k)) := by
  simp [List.getElem?_map, List.getElem?_range, h]
theorem nfs_set {G : gT} {f : Nat → Value} {N k : Nat} {v : Value} : ((List.range N).map (fun j => gre G (f j))).set k (gre G v) = (List.range N).map (fun j => gre G (up f k v j)) := by
  apply List.ext_getElem?
  intro j
  rw [List.getElem?_set]
  by_cases e : k = j
  · subst e
    by_cases h : k < N
    · simp [h, up]
    · simp [h]
  · by_cases h : j < N
    · simp [e, h, up, Ne.symm e]
    · simp [e, h]
section R7
variable {G : gT} {M : mT} {Q : Option Value → wT → Prop} {kc ks pc q t : Nat} {lc lc' : List (Option Value)} {st : List Value} {w : wT}
theorem V_getf {o ci k i : Nat} {f : Nat → Value} {ty : FieldType} {fin : Bool} (hL : fLk (mOwn M) i ci k ty fin) (ho : o < w.1) (hw : w.2 o = .inr (ci, f)) (d : dc M pc (.getfield i) 3 q) (kk : V G M Q kc ks q lc (f k :: st) w) : V G M Q kc ks pc lc (.ref o :: st) w := by
  obtain ⟨d, rfl⟩ := d
  obtain ⟨C, T, N, ty', ⟨h1, h2, h3, h4, h5, h6, h7, h8⟩, h9, h10, h11, h12⟩ := hL
  intro p l e s m args below meth c H locs ls Cc hP hS hl
  have he : (wls G w)[o]? = some (gad G o, .inr (ci, (List.range N).map (fun k => gre G (f k)))) := by rw [wls_get ho, hw, ← h7]; rfl
  exact va_get (C := C) (T := T) (N := N) Cc.1 Cc.2.1 Cc.2.2.2.2.2.1 h2 Cc.2.2.2.2.1 Cc.2.2.2.2.2.2.2.2.1 hP.1 o he h1 k h9 (Cc.2.2.2.2.2.1 _ h10) (fun x hx => by rw [h8 k h9] at hx; exact hx) (nfs_get h9) d (kk p l e s m args below meth c H locs ls Cc hP hS hl)
theorem V_putf {o ci k i : Nat} {f : Nat → Value} {ty : FieldType} {v : Value} (hL : fLk (mOwn M) i ci k ty false) (ho : o < w.1) (hw : w.2 o = .inr (ci, f)) (hn : narrow ty (gre G v) = gre G v) (hfit : fits ty (gre G v) = true) (d : dc M pc (.putfield i) 3 q) (kk : V G M Q kc ks q lc st (put w o (.inr (ci, up f k v)))) : V G M Q kc ks pc lc (v :: .ref o :: st) w := by
  obtain ⟨d, rfl⟩ := d
  obtain ⟨C, T, N, ty', ⟨hc, hin, hty, hnm, h5, h6, h7, h8⟩, hk, h10, h11, hfin, -⟩ := hL
  intro p l e s m args below meth c H locs ls Cc hP hS hl
  have he : (wls G w)[o]? = some (gad G o, .inr (ci, (List.range N).map (fun k => gre G (f k)))) := by rw [wls_get ho, hw, ← h7]; rfl
  have hK := Cc.2.2.2.2.2.2.2.2.1
  have hts := Cc.2.2.2.2.2.1
  have hown := Cc.2.2.2.2.1
  have hD := wls_D (G := G) hP.2.2
  have hap := va_apart (own := mOwn M) hts hin ty' hty hnm hK hc
  obtain ⟨r, h1, cell, q1, q2, q3, q4⟩ := hP.1 o _ he
  have hr : r = (C, T, N) := Option.some.inj (h1.symm.trans hc)
  subst hr
  obtain ⟨hSl, hfc, kC, hkC, hkind⟩ := hK.1 ci _ hc
  obtain ⟨cf, kf, fi, fd, hi, hsl⟩ := hSl k hk
  have hlay := hts _ (hin _ (u_in_lay hk))
  unfold u_lay at hlay
  rw [if_neg (by rw [hfin]; decide)] at hlay
  have hst := (u_facts hfc hkC (u_lays hts hin hk) hi).1
  have h66 := u_store hfc hkC hkind hlay hi (by rw [hty k hk, h11]) hn hfit
  refine W.putK Cc.1 Cc.2.1 (f := fd) ⟨hown, hts _ h10, ⟨_, _, _, by rw [h8 k hk] at hi; exact hi⟩, hst⟩ (by rw [q2]; exact h66) q1 q3 (by rw [hsl]; exact k2_hasslot (q4 k hk)) rfl rfl d fun H' e1 e2 e3 => ?_
  rw [hsl] at e1 ⊢
  refine kk p l e s m args below meth c H' _ ls Cc (hP.put ho ?_ e2 e3) (hS.put e2 e3 (hD.2 o _ he)) hl
  refine ⟨_, hc, t_OB.to (V := updV (vp_V ((List.range N).map (fun k => gre G (f k)))) k (gre G v)) ⟨_, e1, q2, q3, t_set q4 hap hk (gre G v)⟩ (fun j _ => ?_)⟩
  rw [vp_updV_set (by simpa using hk) (gre G v) j, nfs_set]
  show _ = vp_V (List.map _ (List.range (nF ci))) j
  rw [h7]
/-- a final field, in the constructor of its class -/
theorem V_putF {o ci k i : Nat} {f : Nat → Value} {ty : FieldType} {v : Value} (hL : fLk (mOwn M) i ci k ty true) (hmi : (mY M).name = "<init>") (ho : o < w.1) (hw : w.2 o = .inr (ci, f)) (hn : narrow ty (gre G v) = gre G v) (hfit : fits ty (gre G v) = true) (d : dc M pc (.putfield i) 3 q) (kk : V G M Q kc ks q lc st (put w o (.inr (ci, up f k v)))) : V G M Q kc ks pc lc (v :: .ref o :: st) w := by
  obtain ⟨d, rfl⟩ := d
  obtain ⟨C, T, N, ty', ⟨hc, hin, hty, hnm, h5, h6, h7, h8⟩, hk, h10, h11, hfin, hoC⟩ := hL
  have hoC := hoC rfl
  intro p l e s m args below meth c H locs ls Cc hP hS hl
  have he : (wls G w)[o]? = some (gad G o, .inr (ci, (List.range N).map (fun k => gre G (f k)))) := by rw [wls_get ho, hw, ← h7]; rfl
  have hK := Cc.2.2.2.2.2.2.2.2.1
  have hts := Cc.2.2.2.2.2.1
  have hown := Cc.2.2.2.2.1
  have hD := wls_D (G := G) hP.2.2
  have hap := va_apart (own := mOwn M) hts hin ty' hty hnm hK hc
  obtain ⟨r, h1, cell, q1, q2, q3, q4⟩ := hP.1 o _ he
  have hr : r = (C, T, N) := Option.some.inj (h1.symm.trans hc)
  subst hr
  obtain ⟨hSl, hfc, kC, hkC, hkind⟩ := hK.1 ci _ hc
  obtain ⟨cf, kf, fi, fd, hi, hsl⟩ := hSl k hk
  have hlay := hts _ (hin _ (u_in_lay hk))
  unfold u_lay at hlay
  rw [if_pos hfin] at hlay
  have hst := (u_facts hfc hkC (u_lays hts hin hk) hi).1
  have hcf : m.cls = cf := by
    obtain ⟨_, _, c', _, _, _, -, -, hf', -, -, -, hown2, -⟩ := Cond.laysFinal_spec hlay
    have e1 : c' = cf := by have := hi.symm.trans hf'; simp at this; exact this.1.symm
    rw [h8 k hk, ← hoC] at hown2
    rw [← e1]; exact Option.some.inj (hown.symm.trans hown2)
  have h66 := u_fits hfc hkC hkind (Or.inr hlay) hi (by rw [hty k hk, h11]) hn hfit
  refine W.putFinK Cc.1 Cc.2.1 hown (hts _ h10) (by rw [h8 k hk] at hi; exact hi) hst hcf (Cc.2.2.2.2.2.2.2.1.trans hmi) (by rw [q2]; exact h66) q1 q3 (by rw [hsl]; exact k2_hasslot (q4 k hk)) rfl rfl d fun H' e1 e2 e3 => ?_
  rw [hsl] at e1 ⊢
  refine kk p l e s m args below meth c H' _ ls Cc (hP.put ho ?_ e2 e3) (hS.put e2 e3 (hD.2 o _ he)) hl
  refine ⟨_, hc, t_OB.to (V := updV (vp_V ((List.range N).map (fun k => gre G (f k)))) k (gre G v)) ⟨_, e1, q2, q3, t_set q4 hap hk (gre G v)⟩ (fun j _ => ?_)⟩
  rw [vp_updV_set (by simpa using hk) (gre G v) j, nfs_set]
  show _ = vp_V (List.map _ (List.range (nF ci))) j
  rw [h7]
theorem up_i32 {f : Nat → Int} {i : Int} {x : Int} (hi : 0 ≤ i ∧ i < 2147483648) : upd (fun k => Int32.ofInt (f k)) (Int32.ofInt i).toNatClampNeg (Int32.ofInt x) = fun k => Int32.ofInt (up f i.toNat x k) := by
  funext k
  rw [i32_clamp hi]
  simp only [upd, up]
  split <;> rfl
theorem V_iaload {o n : Nat} {f : Nat → Int} {i : Int} (ho : o < w.1) (hw : w.2 o = .inl (0, n, f)) (d : dc M pc .iaload 1 q) (kk : V G M Q kc ks q lc (vi (f i.toNat) :: st) w) (hi : 0 ≤ i ∧ i < n := by omega) (hn : n < 2147483648 := by omega) : V G M Q kc ks pc lc (vi i :: .ref o :: st) w := by
  obtain ⟨d, rfl⟩ := d
  intro p l e s m args below meth c H locs ls Cc hP hS hl
  refine va_iald Cc.1 Cc.2.1 Cc.2.2.2.2.2.2.2.2.1 hP.1 o 0 (cA := gtc G 0) (n := n) (f := fun k => Int32.ofInt (f k)) (by rw [wls_get ho, hw]; rfl) rfl (i32_in hi hn) d ?_
  rw [i32_clamp (by omega)]
  exact kk p l e s m args below meth c H locs ls Cc hP hS hl
theorem V_laload {o n : Nat} {f : Nat → Int} {i : Int} (ho : o < w.1) (hw : w.2 o = .inl (1, n, f)) (d : dc M pc .laload 1 q) (kk : V G M Q kc ks q lc (vl (f i.toNat) :: st) w) (hi : 0 ≤ i ∧ i < n := by omega) (hn : n < 2147483648 := by omega) : V G M Q kc ks pc lc (vi i :: .ref o :: st) w := by
  obtain ⟨d, rfl⟩ := d
  intro p l e s m args below meth c H locs ls Cc hP hS hl
  refine va_lald Cc.1 Cc.2.1 Cc.2.2.2.2.2.2.2.2.1 hP.1 o 1 (cA := gtc G 1) (n := n) (f := fun k => Int64.ofInt (f k)) (by rw [wls_get ho, hw]; rfl) rfl (i32_in hi hn) d ?_
  rw [i32_clamp (by omega)]
  exact kk p l e s m args below meth c H locs ls Cc hP hS hl
theorem V_zaload {o n : Nat} {f : Nat → Int} {i : Int} (ho : o < w.1) (hw : w.2 o = .inl (2, n, f)) (d : dc M pc .baload 1 q) (kk : V G M Q kc ks q lc (vi (f i.toNat) :: st) w) (hi : 0 ≤ i ∧ i < n := by omega) (hn : n < 2147483648 := by omega) : V G M Q kc ks pc lc (vi i :: .ref o :: st) w := by
  obtain ⟨d, rfl⟩ := d
  intro p l e s m args below meth c H locs ls Cc hP hS hl
  refine va_zald Cc.1 Cc.2.1 Cc.2.2.2.2.2.2.2.2.1 hP.1 o 2 (cA := gtc G 2) (n := n) (f := fun k => Int32.ofInt (f k)) (by rw [wls_get ho, hw]; rfl) rfl (i32_in hi hn) d ?_
  rw [i32_clamp (by omega)]
  exact kk p l e s m args below meth c H locs ls Cc hP hS hl
theorem V_iastore {o n : Nat} {f : Nat → Int} {i x : Int} (ho : o < w.1) (hw : w.2 o = .inl (0, n, f)) (d : dc M pc .iastore 1 q) (kk : V G M Q kc ks q lc st (put w o (.inl (0, n, up f i.toNat x)))) (hi : 0 ≤ i ∧ i < n := by omega) (hn : n < 2147483648 := by omega) : V G M Q kc ks pc lc (vi x :: vi i :: .ref o :: st) w := by
  obtain ⟨d, rfl⟩ := d
  intro p l e s m args below meth c H locs ls Cc hP hS hl
  have hD := wls_D (G := G) hP.2.2
  have ha : (wls G w)[o]? = some (gad G o, .inl (gtc G 0, n, .inl (fun k => Int32.ofInt (f k)))) := by rw [wls_get ho, hw]; rfl
  have hK := Cc.2.2.2.2.2.2.2.2.1
  refine W.iast Cc.1 Cc.2.1 (hP.1 o _ ha) ((hK.2 0 _ rfl).1 n (fun j => .int (Int32.ofInt (f j)))) (fun q => by cases q) (by show ¬ (Int32.ofInt i < 0 ∨ (arrV _ _ _).slots.size ≤ _); rw [arrV_size]; exact i32_in hi hn) rfl rfl d fun H1 e1 z oq => ?_
  refine kk p l e s m args below meth c H1 _ ls Cc (hP.put ho ?_ z oq) (hS.put z oq (hD.2 o _ ha)) hl
  show H1[gad G o]? = some (vp_cell _ _)
  rw [e1]
  show some (((vp_cell (gtc G 0) (n, .inl (fun k => Int32.ofInt (f k)))).setSlot _ _)) = some (vp_cell (gtc G 0) (n, .inl (fun k => Int32.ofInt (up f i.toNat x k))))
  rw [vp_cell_i, vp_cell_i, arrV_store]
  congr 2
  funext j
  rw [i32_clamp (by omega)]
  by_cases hq : j = i.toNat
  · subst hq
    simp [updV, up]
  · simp [updV, up, hq]
theorem V_lastore {o n : Nat} {f : Nat → Int} {i x : Int} (ho : o < w.1) (hw : w.2 o = .inl (1, n, f)) (d : dc M pc .lastore 1 q) (kk : V G M Q kc ks q lc st (put w o (.inl (1, n, up f i.toNat x)))) (hi : 0 ≤ i ∧ i < n := by omega) (hn : n < 2147483648 := by omega) : V G M Q kc ks pc lc (vl x :: vi i :: .ref o :: st) w := by
  obtain ⟨d, rfl⟩ := d
  intro p l e s m args below meth c H locs ls Cc hP hS hl
  have hD := wls_D (G := G) hP.2.2
  have ha : (wls G w)[o]? = some (gad G o, .inl (gtc G 1, n, .inr (.inl (fun k => Int64.ofInt (f k))))) := by rw [wls_get ho, hw]; rfl
  have hK := Cc.2.2.2.2.2.2.2.2.1
  refine W.last Cc.1 Cc.2.1 (hP.1 o _ ha) ((hK.2 1 _ rfl).1 n (fun j => .long (Int64.ofInt (f j)))) (fun q => by cases q) (by show ¬ (Int32.ofInt i < 0 ∨ (arrV _ _ _).slots.size ≤ _); rw [arrV_size]; exact i32_in hi hn) rfl rfl d fun H1 e1 z oq => ?_
  refine kk p l e s m args below meth c H1 _ ls Cc (hP.put ho ?_ z oq) (hS.put z oq (hD.2 o _ ha)) hl
  show H1[gad G o]? = some (vp_cell _ _)
  rw [e1]
  show some (((vp_cell (gtc G 1) (n, .inr (.inl (fun k => Int64.ofInt (f k))))).setSlot _ _)) = some (vp_cell (gtc G 1) (n, .inr (.inl (fun k => Int64.ofInt (up f i.toNat x k)))))
  rw [vp_cell_l, vp_cell_l, arrV_store]
  congr 2
  funext j
  rw [i32_clamp (by omega)]
  by_cases hq : j = i.toNat
  · subst hq
    simp [updV, up]
  · simp [updV, up, hq]
theorem nar_z {x : Int} (h : x = 0 ∨ x = 1) : narrow .boolean (.int (Int32.ofInt x)) = .int (Int32.ofInt x) := by
  rcases h with rfl | rfl <;> rfl
theorem V_zastore {o n : Nat} {f : Nat → Int} {i x : Int} (hx : x = 0 ∨ x = 1) (ho : o < w.1) (hw : w.2 o = .inl (2, n, f)) (d : dc M pc .bastore 1 q) (kk : V G M Q kc ks q lc st (put w o (.inl (2, n, up f i.toNat x)))) (hi : 0 ≤ i ∧ i < n := by omega) (hn : n < 2147483648 := by omega) : V G M Q kc ks pc lc (vi x :: vi i :: .ref o :: st) w := by
  obtain ⟨d, rfl⟩ := d
  intro p l e s m args below meth c H locs ls Cc hP hS hl
  have hD := wls_D (G := G) hP.2.2
  have ha : (wls G w)[o]? = some (gad G o, .inl (gtc G 2, n, .inl (fun k => Int32.ofInt (f k)))) := by rw [wls_get ho, hw]; rfl
  have hK := Cc.2.2.2.2.2.2.2.2.1
  refine W.zast Cc.1 Cc.2.1 (hP.1 o _ ha) ((hK.2 2 _ rfl).1 n (fun j => .int (Int32.ofInt (f j)))) (fun q => by cases q) (by show ¬ (Int32.ofInt i < 0 ∨ (arrV _ _ _).slots.size ≤ _); rw [arrV_size]; exact i32_in hi hn) rfl rfl d fun H1 e1 z oq => ?_
  refine kk p l e s m args below meth c H1 _ ls Cc (hP.put ho ?_ z oq) (hS.put z oq (hD.2 o _ ha)) hl
  show H1[gad G o]? = some (vp_cell _ _)
  rw [e1, nar_z hx]
  show some (((vp_cell (gtc G 2) (n, .inl (fun k => Int32.ofInt (f k)))).setSlot _ _)) = some (vp_cell (gtc G 2) (n, .inl (fun k => Int32.ofInt (up f i.toNat x k))))
  rw [vp_cell_i, vp_cell_i, arrV_store]
  congr 2
  funext j
  rw [i32_clamp (by omega)]
  by_cases hq : j = i.toNat
  · subst hq
    simp [updV, up]
  · simp [updV, up, hq]
/-- what is read only -/
theorem V_ialoadS {j : Nat} {i : Int} (hj : j < 6) (hi : 0 ≤ i ∧ i < (stV j).length) (d : dc M pc .iaload 1 q) (kk : V G M Q kc ks q lc (vi ((stV j).getD i.toNat 0) :: st) w) : V G M Q kc ks pc lc (vi i :: .ref (1000 + j) :: st) w := by
  obtain ⟨d, rfl⟩ := d
  intro p l e s m args below meth c H locs ls Cc hP hS hl
  have hlen : (stV j).length < 10 := by
    rcases (show j = 0 ∨ j = 1 ∨ j = 2 ∨ j = 3 ∨ j = 4 ∨ j = 5 by omega) with rfl | rfl | rfl | rfl | rfl | rfl <;> decide
  have hR := (Cc.2.2.2.2.2.2.2.2.2.2.1.1 j hj).2
  have e1 : gre G (.ref (1000 + j)) = .ref (gsp G (1000 + j)) := by
    show Value.ref (gad G (1000 + j)) = _
    rw [gad, if_neg (by omega)]
  show W _ _ _ _ _ _ _ _ _ _ _ _ _ _ _ (F0 m pc ls (gre G (vi i) :: gre G (.ref (1000 + j)) :: st.map (gre G)))
  rw [e1]
  refine va_ti Cc.1 Cc.2.1 hR hS (i32_in hi (by omega)) rfl d ?_
  show W _ _ _ _ _ _ _ _ _ _ _ _ _ _ _ (F0 m (pc + 1) ls (.int (Int32.ofInt ((stV j).getD (Int32.ofInt i).toNatClampNeg 0)) :: st.map (gre G)))
  rw [i32_clamp (by omega)]
  exact kk p l e s m args below meth c H locs ls Cc hP hS hl
theorem V_ialoadX {i : Int} (hi : 0 ≤ i ∧ i < gL G) (hL : gL G ≤ 3072) (d : dc M pc .iaload 1 q) (kk : V G M Q kc ks q lc (vi (gX G i.toNat) :: st) w) : V G M Q kc ks pc lc (vi i :: .ref 1100 :: st) w := by
  obtain ⟨d, rfl⟩ := d
  intro p l e s m args below meth c H locs ls Cc hP hS hl
  have hR := Cc.2.2.2.2.2.2.2.2.2.2.1.2.1
  refine va_ti Cc.1 Cc.2.1 hR hS (i32_in hi (by omega)) rfl d ?_
  show W _ _ _ _ _ _ _ _ _ _ _ _ _ _ _ (F0 m (pc + 1) ls (.int (Int32.ofInt (gX G (Int32.ofInt i).toNatClampNeg)) :: st.map (gre G)))
  rw [i32_clamp (by omega)]
  exact kk p l e s m args below meth c H locs ls Cc hP hS hl
theorem V_lenX (d : dc M pc .arraylength 1 q) (kk : V G M Q kc ks q lc (vi (gL G) :: st) w) : V G M Q kc ks pc lc (.ref 1100 :: st) w := by
  obtain ⟨d, rfl⟩ := d
  intro p l e s m args below meth c H locs ls Cc hP hS hl
  have hR := Cc.2.2.2.2.2.2.2.2.2.2.1.2.1
  exact va_tlen Cc.1 Cc.2.1 hR hS Int32.ofInt_eq_ofNat.symm d (kk p l e s m args below meth c H locs ls Cc hP hS hl)
theorem V_lenS {j : Nat} (hj : j < 6) (d : dc M pc .arraylength 1 q) (kk : V G M Q kc ks q lc (vi ((stV j).length) :: st) w) : V G M Q kc ks pc lc (.ref (1000 + j) :: st) w := by
  obtain ⟨d, rfl⟩ := d
  intro p l e s m args below meth c H locs ls Cc hP hS hl
  have hR := (Cc.2.2.2.2.2.2.2.2.2.2.1.1 j hj).2
  have e1 : gre G (.ref (1000 + j)) = .ref (gsp G (1000 + j)) := by
    show Value.ref (gad G (1000 + j)) = _
    rw [gad, if_neg (by omega)]
  show W _ _ _ _ _ _ _ _ _ _ _ _ _ _ _ (F0 m pc ls (gre G (.ref (1000 + j)) :: st.map (gre G)))
  rw [e1]
  exact va_tlen Cc.1 Cc.2.1 hR hS Int32.ofInt_eq_ofNat.symm d (kk p l e s m args below meth c H locs ls Cc hP hS hl)
theorem V_gets {j i : Nat} (hj : j < 6) (hc : Cond.fieldLink (mOwn M) i RX10 (stN j) "[I" ∈ aW) (d : dc M pc (.getstatic i) 3 q) (kk : V G M Q kc ks q lc (.ref (1000 + j) :: st) w) : V G M Q kc ks pc lc st w := by
  obtain ⟨d, rfl⟩ := d
  intro p l e s m args below meth c H locs ls Cc hP hS hl
  have hR := (Cc.2.2.2.2.2.2.2.2.2.2.1.1 j hj).1
  refine va_gets Cc.1 Cc.2.1 hR hS Cc.2.2.2.2.1 (Cc.2.2.2.2.2.1 _ hc) (fun _ h => h) d ?_
  have := kk p l e s m args below meth c H locs ls Cc hP hS hl
  rwa [List.map_cons, gre_ref, gad, if_neg (by omega)] at this
theorem V_getsN {j i : Nat} (hj : j < 6) (hc : Cond.fieldLinkNest (mOwn M) i RX10 (stN j) "[I" RX10 ∈ nW) (d : dc M pc (.getstatic i) 3 q) (kk : V G M Q kc ks q lc (.ref (1000 + j) :: st) w) : V G M Q kc ks pc lc st w := by
  obtain ⟨d, rfl⟩ := d
  intro p l e s m args below meth c H locs ls Cc hP hS hl
  have hR := (Cc.2.2.2.2.2.2.2.2.2.2.1.1 j hj).1
  refine va_getsN Cc.1 Cc.2.1 hR hS Cc.2.2.2.2.1 (va_Nw.use rfl (Cc.2.2.2.2.2.2.2.2.2.1.2 _ hc)) (fun _ h => h) d ?_
  have := kk p l e s m args below meth c H locs ls Cc hP hS hl
  rwa [List.map_cons, gre_ref, gad, if_neg (by omega)] at this
end R7
end
section
/-- a callee: its code is among the words, how many arguments it takes beside its receiver -/
def cIn (N : mT) (n : Nat) : Prop := Cond.code (mY N) (mC N) (mLn N) (mRt N) ∈ aW ∧ Cond.initialized (mY N).cls ∈ aW ∧ ((mY N).cls ≠ "java/lang/invoke/MethodHandle" ∧ (mY N).cls ≠ "java/lang/invoke/VarHandle" ∧ (parseMethodDescriptor (mY N).desc).map (fun d => d.parameters.length) = some n)
theorem cIn.good {N : mT} {n : Nat} (h : cIn N n) : GoodIn aW (mWs N) := by
  intro w hw
  rcases List.mem_cons.mp hw with rfl | hw
  · exact ⟨h.1, good_of_word (aW_good _ h.1)⟩
  · exact ⟨hw, good_of_word (aW_good _ hw)⟩
/-- links: an entry of a class's pool is this method -/
def vLk (own : String) (i : Nat) (N : mT) (n ci : Nat) : Prop := cIn N n ∧ Cond.methodLink own i (mY N) ∈ aW ∧ Cond.instanceMethod (mY N) ∈ aW ∧ Cond.selects (mOwn N) (mY N) (mY N) ∈ aW ∧ ∃ T K, vwCl[ci]? = some (mOwn N, T, K)
def sLk (own : String) (i : Nat) (N : mT) (n : Nat) : Prop := cIn N n ∧ Cond.methodLink own i (mY N) ∈ aW ∧ Cond.static (mY N) ∈ aW
def sNk (own : String) (i : Nat) (N : mT) (n : Nat) : Prop := cIn N n ∧ Cond.methodLinkNest own i (mY N) RX10 ∈ nW ∧ Cond.static (mY N) ∈ aW
def iLk (own : String) (i : Nat) (N : mT) (n : Nat) : Prop := cIn N n ∧ Cond.methodLink own i (mY N) ∈ aW ∧ Cond.instanceMethod (mY N) ∈ aW ∧ (mY N).name = "<init>" ∧ mRt N = none
def iNk (own : String) (i : Nat) (N : mT) (n : Nat) : Prop := cIn N n ∧ Cond.methodLinkNest own i (mY N) RX10 ∈ nW ∧ Cond.instanceMethod (mY N) ∈ aW ∧ (mY N).name = "<init>" ∧ mRt N = none
/-- a callee's room in a caller's -/
abbrev rOk (M N : mT) : Prop := (mRm N).frames + 1 ≤ (mRm M).frames ∧ 8 + (mLn N + 11) + (mRm N).locals ≤ (mRm M).locals
abbrev kOk (M N : mT) (kc ks : Nat) : Prop := kc + (mRm N).cells ≤ (mRm M).cells ∧ ks + (mRm N).slots ≤ (mRm M).slots
theorem catsum (G : gT) (rest : List Value) : ((rest.map (gre G)).map fun v => v.category).sum = (rest.map fun v => v.category).sum := by
  rw [List.map_map]
  congr 1
  apply List.map_congr_left
  intro v _
  exact gre_cat G v
theorem Meets.blind {G : gT} {av : List Value} {w : wT} : FrameBlind (fun v U => v = (av.map (gre G)).toArray ∧ Hp G w U.heap ∧ Sx G U) := fun _ _ _ _ h => ⟨h.1, h.2.1, h.2.2.call⟩
section R8
variable {G : gT} {M N : mT} {Q Q' : Option Value → wT → Prop} {kc ks pc q t i n : Nat} {lc lc' : List (Option Value)} {st rest : List Value} {w : wT}
theorem V.back {p : Program} {l : Launch} {e : Env} {s : State} {m : MethodId} {args : Array Value} {below : List Frame} {meth : Method} {c : Code} {H : Heap} {locs : List Loc} {ls : Array Slot} {st0 : List Value} {a : Array Value}
    (Cc : Cx G M p s m args meth c) (hS : va_S (gA G) s.heap H locs) (hl : lh G ls (mLn M) lc)
    (hr : va_Run p l e (mRm M) s m args below meth c H locs kc ks (mRm N).cells (mRm N).slots (F0 m pc ls st0) (rest.map (gre G)) (mQ G Q' a) (gA G))
    (kk : ∀ r w', Q' r w' → V G M Q (kc + (mRm N).cells) (ks + (mRm N).slots) (pc + 3) lc (r.toList ++ rest) w') :
    W p l e (mRm M) s m args below meth c H locs kc ks (MQ below (mQ G Q) args s (mRm M).cells (mRm M).slots (gA G)) (F0 m pc ls st0) := by
  intro T hT X
  obtain ⟨v, st₀, t, T', L, h0, X', hL, e1, e2, ⟨r, w', hv, hq, hH, hz, hk⟩, go⟩ := hr T hT X
  rw [h0] at hz hk
  have hv : v = r.map (gre G) := by injection hv
  obtain ⟨t2, a1, b1⟩ := kk r w' hq p l e s m args below meth c T'.heap (locs ++ L) ls Cc (by rw [e1]; exact hH)
    ⟨Nat.le_trans hS.1 (by rw [e1]; exact hz), fun q h1 h2 => by rw [e1, hk q (Nat.lt_of_lt_of_le h1 hS.1) h2]; exact hS.2.1 q h1 h2, fun q hq => by
      rcases List.mem_append.mp hq with h | h
      · exact hS.2.2 q h
      · exact hL q h⟩ hl T' rfl X'
  refine ⟨t2, go t2 ?_, b1⟩
  have e3 : (r.toList ++ rest).map (gre G) = v.toList ++ rest.map (gre G) := by
    rw [hv, List.map_append]
    cases r <;> rfl
  rw [e3] at a1
  exact a1
theorem V_callV {o ci : Nat} {f : Nat → Value} {As : List Value} (hL : vLk (mOwn M) i N n ci) (d : dc M pc (.invokevirtual i) 3 q) (ho : o < w.1) (hw : w.2 o = .inr (ci, f)) (hst : st = As.reverse ++ .ref o :: rest) (hM : Meets G N (.ref o :: As) w Q') (kk : ∀ r w', Q' r w' → V G M Q (kc + (mRm N).cells) (ks + (mRm N).slots) q lc (r.toList ++ rest) w') (hn : As.length = n := by rfl) (hR : rOk M N := by decide) (hk : kOk M N kc ks := by decide) (hc : (rest.map fun v => v.category).sum ≤ 8 := by decide) : V G M Q kc ks pc lc st w := by
  obtain ⟨d, rfl⟩ := d
  subst hst
  obtain ⟨hN, h1, h2, h3, T, K, h4⟩ := hL
  intro p l e s m args below meth c H locs ls Cc hP hS hl
  have hts := Cc.2.2.2.2.2.1
  have he : (wls G w)[o]? = some (gad G o, .inr (ci, (List.range (nF ci)).map (fun k => gre G (f k)))) := by rw [wls_get ho, hw]; rfl
  refine V.back (a := (Value.ref (gad G o) :: As.map (gre G)).toArray) (N := N) (Q' := Q') (rest := rest) Cc hS hl ?_ kk
  refine va_runV (As := As.map (gre G)) (b := gad G o) (n := n) ⟨Cc.1, Cc.2.1, Cc.2.2.2.1, Cc.2.2.2.2.1, hts⟩ (hM l) ⟨callB_of n hts hN.good rfl rfl rfl (hts _ hN.2.1) (hts _ h1) hN.2.2 hR, hts _ h2, hts _ h3⟩ ⟨Meets.blind, va_recv Cc.2.2.2.2.2.2.2.2.1 hP.1 h4 he, fun U hU hW => ?_⟩ rfl (by rw [List.length_map]; exact hn) hl.1 (by simp [gre_ref]) (lv_room (by rw [catsum]; exact hc)) d hk
  subst hU
  exact ⟨rfl, hP, Cc.2.2.2.2.2.2.2.2.go hW hS⟩
theorem V_callS {As : List Value} (hL : sLk (mOwn M) i N n) (d : dc M pc (.invokestatic i) 3 q) (hst : st = As.reverse ++ rest) (hM : Meets G N As w Q') (kk : ∀ r w', Q' r w' → V G M Q (kc + (mRm N).cells) (ks + (mRm N).slots) q lc (r.toList ++ rest) w') (hn : As.length = n := by rfl) (hR : rOk M N := by decide) (hk : kOk M N kc ks := by decide) (hc : (rest.map fun v => v.category).sum ≤ 8 := by decide) : V G M Q kc ks pc lc st w := by
  obtain ⟨d, rfl⟩ := d
  subst hst
  obtain ⟨hN, h1, h2⟩ := hL
  intro p l e s m args below meth c H locs ls Cc hP hS hl
  have hts := Cc.2.2.2.2.2.1
  refine V.back (a := (As.map (gre G)).toArray) (N := N) (Q' := Q') (rest := rest) Cc hS hl ?_ kk
  refine va_runS (As := As.map (gre G)) (n := n) ⟨Cc.1, Cc.2.1, Cc.2.2.2.1, Cc.2.2.2.2.1, hts⟩ (hM l) ⟨callB_of n hts hN.good rfl rfl rfl (hts _ hN.2.1) (hts _ h1) hN.2.2 hR, hts _ h2⟩ ⟨Meets.blind, fun U hU hW => ?_⟩ rfl (by rw [List.length_map]; exact hn) hl.1 (by simp) (lv_room (by rw [catsum]; exact hc)) d hk
  subst hU
  exact ⟨rfl, hP, Cc.2.2.2.2.2.2.2.2.go hW hS⟩
theorem V_callSN {As : List Value} (hL : sNk (mOwn M) i N n) (d : dc M pc (.invokestatic i) 3 q) (hst : st = As.reverse ++ rest) (hM : Meets G N As w Q') (kk : ∀ r w', Q' r w' → V G M Q (kc + (mRm N).cells) (ks + (mRm N).slots) q lc (r.toList ++ rest) w') (hn : As.length = n := by rfl) (hR : rOk M N := by decide) (hk : kOk M N kc ks := by decide) (hc : (rest.map fun v => v.category).sum ≤ 8 := by decide) : V G M Q kc ks pc lc st w := by
  obtain ⟨d, rfl⟩ := d
  subst hst
  obtain ⟨hN, h1, h2⟩ := hL
  intro p l e s m args below meth c H locs ls Cc hP hS hl
  have hts := Cc.2.2.2.2.2.1
  refine V.back (a := (As.map (gre G)).toArray) (N := N) (Q' := Q') (rest := rest) Cc hS hl ?_ kk
  refine va_runSN (As := As.map (gre G)) (n := n) ⟨Cc.1, Cc.2.1, Cc.2.2.2.1, Cc.2.2.2.2.1, hts⟩ (hM l) ⟨va_cnB n hts hN.good rfl rfl rfl (Cc.2.2.2.2.2.2.2.2.2.1.2 _ h1) (hts _ hN.2.1) hN.2.2 hR, hts _ h2, trivial⟩ ⟨Meets.blind, fun U hU hW => ?_⟩ rfl (by rw [List.length_map]; exact hn) hl.1 (by simp) (lv_room (by rw [catsum]; exact hc)) d hk
  subst hU
  exact ⟨rfl, hP, Cc.2.2.2.2.2.2.2.2.go hW hS⟩
theorem V_callI {o : Nat} {As : List Value} (hL : iLk (mOwn M) i N n) (d : dc M pc (.invokespecial i) 3 q) (hst : st = As.reverse ++ .ref o :: rest) (hM : Meets G N (.ref o :: As) w Q') (kk : ∀ r w', Q' r w' → V G M Q (kc + (mRm N).cells) (ks + (mRm N).slots) q lc (r.toList ++ rest) w') (hn : As.length = n := by rfl) (hR : rOk M N := by decide) (hk : kOk M N kc ks := by decide) (hc : (rest.map fun v => v.category).sum ≤ 8 := by decide) : V G M Q kc ks pc lc st w := by
  obtain ⟨d, rfl⟩ := d
  subst hst
  obtain ⟨hN, h1, h2, h3, h4⟩ := hL
  intro p l e s m args below meth c H locs ls Cc hP hS hl
  have hts := Cc.2.2.2.2.2.1
  refine V.back (a := (Value.ref (gad G o) :: As.map (gre G)).toArray) (N := N) (Q' := Q') (rest := rest) Cc hS hl ?_ kk
  have cb := callB_of (R := mRm M) (ws' := aW) (own := mOwn M) (index := i) (rm := mRm N) n hts hN.good rfl rfl rfl (hts _ hN.2.1) (hts _ h1) hN.2.2 hR
  rw [h4] at cb
  refine va_runI (As := As.map (gre G)) (b := gad G o) (n := n) ⟨Cc.1, Cc.2.1, Cc.2.2.2.1, Cc.2.2.2.2.1, hts⟩ (hM l) ⟨cb, h3, hts _ h2⟩ ⟨Meets.blind, fun U hU hW => ?_⟩ rfl (by rw [List.length_map]; exact hn) hl.1 (by simp [gre_ref]) (lv_room (by rw [catsum]; exact hc)) d hk
  subst hU
  exact ⟨rfl, hP, Cc.2.2.2.2.2.2.2.2.go hW hS⟩
theorem V_callIN {o : Nat} {As : List Value} (hL : iNk (mOwn M) i N n) (d : dc M pc (.invokespecial i) 3 q) (hst : st = As.reverse ++ .ref o :: rest) (hM : Meets G N (.ref o :: As) w Q') (kk : ∀ r w', Q' r w' → V G M Q (kc + (mRm N).cells) (ks + (mRm N).slots) q lc (r.toList ++ rest) w') (hn : As.length = n := by rfl) (hR : rOk M N := by decide) (hk : kOk M N kc ks := by decide) (hc : (rest.map fun v => v.category).sum ≤ 8 := by decide) : V G M Q kc ks pc lc st w := by
  obtain ⟨d, rfl⟩ := d
  subst hst
  obtain ⟨hN, h1, h2, h3, h4⟩ := hL
  intro p l e s m args below meth c H locs ls Cc hP hS hl
  have hts := Cc.2.2.2.2.2.1
  refine V.back (a := (Value.ref (gad G o) :: As.map (gre G)).toArray) (N := N) (Q' := Q') (rest := rest) Cc hS hl ?_ kk
  have cb := va_cnB (R := mRm M) (ws' := aW) (own := mOwn M) (index := i) (rm := mRm N) n hts hN.good rfl rfl rfl (Cc.2.2.2.2.2.2.2.2.2.1.2 _ h1) (hts _ hN.2.1) hN.2.2 hR
  rw [h4] at cb
  refine va_runIN (As := As.map (gre G)) (b := gad G o) (n := n) ⟨Cc.1, Cc.2.1, Cc.2.2.2.1, Cc.2.2.2.2.1, hts⟩ (hM l) ⟨cb, h3, hts _ h2⟩ ⟨Meets.blind, fun U hU hW => ?_⟩ rfl (by rw [List.length_map]; exact hn) hl.1 (by simp [gre_ref]) (lv_room (by rw [catsum]; exact hc)) d hk
  subst hU
  exact ⟨rfl, hP, Cc.2.2.2.2.2.2.2.2.go hW hS⟩
/-- a method of a literal -/
def tLk (own : String) (i : Nat) (N : mT) (n : Nat) : Prop := cIn N n ∧ Cond.methodLink own i (mY N) ∈ aW ∧ Cond.instanceMethod (mY N) ∈ aW ∧ Cond.selects "java/lang/String" (mY N) (mY N) ∈ aW
theorem V_callT {j : Nat} {As : List Value} (hj : j < 8) (hL : tLk (mOwn M) i N n) (d : dc M pc (.invokevirtual i) 3 q) (hst : st = As.reverse ++ .ref (1200 + j) :: rest) (hM : Meets G N (.ref (1200 + j) :: As) w Q') (kk : ∀ r w', Q' r w' → V G M Q (kc + (mRm N).cells) (ks + (mRm N).slots) q lc (r.toList ++ rest) w') (hn : As.length = n := by rfl) (hR : rOk M N := by decide) (hk : kOk M N kc ks := by decide) (hc : (rest.map fun v => v.category).sum ≤ 8 := by decide) : V G M Q kc ks pc lc st w := by
  obtain ⟨d, rfl⟩ := d
  subst hst
  obtain ⟨hN, h1, h2, h3⟩ := hL
  intro p l e s m args below meth c H locs ls Cc hP hS hl
  have hts := Cc.2.2.2.2.2.1
  have hR2 := Cc.2.2.2.2.2.2.2.2.2.2.1.2.2.1
  refine V.back (a := (Value.ref (gad G (1200 + j)) :: As.map (gre G)).toArray) (N := N) (Q' := Q') (rest := rest) Cc hS hl ?_ kk
  have ea : gad G (1200 + j) = gsp G (1200 + j) := by rw [gad, if_neg (by omega)]
  refine va_runV (As := As.map (gre G)) (b := gad G (1200 + j)) (n := n) (C := "java/lang/String") ⟨Cc.1, Cc.2.1, Cc.2.2.2.1, Cc.2.2.2.2.1, hts⟩ (hM l) ⟨callB_of n hts hN.good rfl rfl rfl (hts _ hN.2.1) (hts _ h1) hN.2.2 hR, hts _ h2, hts _ h3⟩ ⟨Meets.blind, by rw [ea]; exact vk_recv (adK := fun i => gsp G (1200 + i)) (i := j) hR2 hj hS, fun U hU hW => ?_⟩ rfl (by rw [List.length_map]; exact hn) hl.1 (by simp [gre_ref]) (lv_room (by rw [catsum]; exact hc)) d hk
  subst hU
  exact ⟨rfl, hP, Cc.2.2.2.2.2.2.2.2.go hW hS⟩
/-- ends -/
abbrev eOk (M : mT) (kc ks : Nat) : Prop := kc ≤ (mRm M).cells ∧ ks ≤ (mRm M).slots
theorem V_ireturn {a : Int} (d : dc M pc .ireturn 1 q) (hQ : Q (some (vi a)) w) (hr : mRt M = some .int := by rfl) (hk : eOk M kc ks := by decide) : V G M Q kc ks pc lc [vi a] w := by
  obtain ⟨d, rfl⟩ := d
  intro p l e s m args below meth c H locs ls Cc hP hS hl
  refine W.widen hk.1 hk.2 ?_
  exact W.iret Cc.1 Cc.2.1 (Cc.2.2.1.trans hr) (fun t ht _ => ⟨some (vi a), w, rfl, hQ, by rw [ht]; exact hP, hS.F ht⟩) hS.2.2 d Cc.2.2.2.2.2.2.1
theorem V_zreturn {a : Int} {ty : FieldType} (hn : narrow ty (.int (Int32.ofInt a)) = .int (Int32.ofInt a)) (d : dc M pc .ireturn 1 q) (hQ : Q (some (vi a)) w) (hr : mRt M = some ty := by rfl) (hk : eOk M kc ks := by decide) : V G M Q kc ks pc lc [vi a] w := by
  obtain ⟨d, rfl⟩ := d
  intro p l e s m args below meth c H locs ls Cc hP hS hl
  refine W.widen hk.1 hk.2 ?_
  exact W.zret Cc.1 Cc.2.1 (Cc.2.2.1.trans hr) hn (fun t ht _ => ⟨some (vi a), w, rfl, hQ, by rw [ht]; exact hP, hS.F ht⟩) hS.2.2 d Cc.2.2.2.2.2.2.1
theorem V_lreturn {a : Int} (d : dc M pc .lreturn 1 q) (hQ : Q (some (vl a)) w) (hr : mRt M = some .long := by rfl) (hk : eOk M kc ks := by decide) : V G M Q kc ks pc lc [vl a] w := by
  obtain ⟨d, rfl⟩ := d
  intro p l e s m args below meth c H locs ls Cc hP hS hl
  refine W.widen hk.1 hk.2 ?_
  exact W.lret Cc.1 Cc.2.1 (Cc.2.2.1.trans hr) (fun t ht _ => ⟨some (vl a), w, rfl, hQ, by rw [ht]; exact hP, hS.F ht⟩) hS.2.2 d Cc.2.2.2.2.2.2.1
theorem V_areturn {a : Nat} {ty : FieldType} (hrt : (∃ n, ty = .object n) ∨ ∃ t, ty = .array t) (d : dc M pc .areturn 1 q) (hQ : Q (some (.ref a)) w) (hr : mRt M = some ty := by rfl) (hk : eOk M kc ks := by decide) : V G M Q kc ks pc lc [.ref a] w := by
  obtain ⟨d, rfl⟩ := d
  intro p l e s m args below meth c H locs ls Cc hP hS hl
  refine W.widen hk.1 hk.2 ?_
  exact W.aret (v := .ref (gad G a)) Cc.1 Cc.2.1 (Cc.2.2.1.trans hr) hrt (Or.inr ⟨_, rfl⟩) (fun t ht _ => ⟨some (.ref a), w, rfl, hQ, by rw [ht]; exact hP, hS.F ht⟩) hS.2.2 d Cc.2.2.2.2.2.2.1
theorem V_return (d : dc M pc .return_ 1 q) (hQ : Q none w) (hr : mRt M = none := by rfl) (hk : eOk M kc ks := by decide) : V G M Q kc ks pc lc [] w := by
  obtain ⟨d, rfl⟩ := d
  intro p l e s m args below meth c H locs ls Cc hP hS hl
  refine W.widen hk.1 hk.2 ?_
  exact W.vret Cc.1 Cc.2.1 (Cc.2.2.1.trans hr) (fun t ht _ => ⟨none, w, rfl, hQ, by rw [ht]; exact hP, hS.F ht⟩) hS.2.2 d Cc.2.2.2.2.2.2.1
/-- making -/
theorem V_objInit {o : Nat} (h1 : Cond.methodLink (mOwn M) i objectInit ∈ aW) (h2 : Cond.instanceMethod objectInit ∈ aW) (h3 : Cond.code objectInit ⟨#[0xb1]⟩ 1 none ∈ aW) (d : dc M pc (.invokespecial i) 3 q) (kk : V G M Q kc ks q lc rest w) (hR : 1 ≤ (mRm M).frames ∧ (rest.map fun v => v.category).sum + 12 ≤ (mRm M).locals := by decide) : V G M Q kc ks pc lc (.ref o :: rest) w := by
  obtain ⟨d, rfl⟩ := d
  intro p l e s m args below meth c H locs ls Cc hP hS hl
  have hts := Cc.2.2.2.2.2.1
  refine W.objInit Cc.1 Cc.2.1 Cc.2.2.2.2.1 (hts _ h1) (hts _ h2) (hts _ h3) rfl (hl.1.trans Cc.2.2.2.1.symm) (rest := rest.map (gre G)) rfl d hR.1 ?_ (kk p l e s m args below meth c H locs ls Cc hP hS hl)
  rw [catsum]
  show 2 * 0 + _ + 12 ≤ _
  omega
def dflt (ty : FieldType) : Value := match ty with
  | .int => vi 0
  | .boolean => vi 0
  | .long => vl 0
  | _ => .null
def tyOk (ty : FieldType) : Bool := match ty with
  | .int => true
  | .boolean => true
  | .object _ => true
  | .array _ => true
  | _ => false
theorem dflt_ok {G : gT} {ty : FieldType} (h : tyOk ty = true) : defaultValue ty = gre G (dflt ty) := by
  cases ty <;> first | rfl | cases h
theorem V_new {ci N' : Nat} {C : String} {T : u_T} {ty : Nat → FieldType} (hC : cOk ci C T N' ty) (hty : ∀ k, k < N' → tyOk (ty k) = true) (h1 : Cond.classLink (mOwn M) i C ∈ aW) (hw : w.1 < 1000) (d : dc M pc (.new i) 3 q) (kk : V G M Q (kc + 1) (ks + N') q lc (.ref w.1 :: st) (psh w (.inr (ci, fun k => dflt (ty k))))) (hk : kc + 1 ≤ (mRm M).cells ∧ ks + N' ≤ (mRm M).slots) : V G M Q kc ks pc lc st w := by
  obtain ⟨d, rfl⟩ := d
  intro p l e s m args below meth c H locs ls Cc hP hS hl
  obtain ⟨hc, hin, htyp, hnm, h5, h6, h7, h8⟩ := hC
  have hts := Cc.2.2.2.2.2.1
  have hKn := Cc.2.2.2.2.2.2.2.2.1.1 ci _ hc
  refine W.newcK Cc.1 Cc.2.1 Cc.2.2.2.2.1 (hts _ h1) (hts _ h5) (hts _ h6) rfl d hk.1 hk.2 hKn.2.1 rfl fun H1 kC hkC e1 z1 o1 => ?_
  have ea : H.size = gad G w.1 := by rw [gad_lt hw]; exact hP.2.1
  have := kk p l e s m args below meth c H1 locs ls Cc (hP.psh hw ?_ z1 o1) ⟨Nat.le_trans hS.1 (by omega), fun x h1 h2 => (o1 x (Nat.lt_of_lt_of_le h1 hS.1)).trans (hS.2.1 x h1 h2), hS.2.2⟩ hl
  · rw [List.map_cons, gre_ref, ← ea] at this
    exact this
  · rw [← ea]
    refine ⟨_, hc, (u_born ty hts hin hKn hkC e1 htyp).to (fun j hj => ?_)⟩
    have hj : j < N' := hj
    rw [dflt_ok (G := G) (hty j hj)]
    show _ = vp_V ((List.range (nF ci)).map _) j
    rw [h7]
    simp [vp_V, List.getElem?_map, List.getElem?_range, hj]
theorem V_newI {n : Nat} (hw : w.1 < 1000) (h1 : Cond.arrayClass .int ∈ aW) (hn : n < 100000) (d : dc M pc (.newarray .int) 2 q) (kk : V G M Q (kc + 1) (ks + n) q lc (.ref w.1 :: st) (psh w (.inl (0, n, fun _ => 0)))) (hk : kc + 1 ≤ (mRm M).cells ∧ ks + n ≤ (mRm M).slots) : V G M Q kc ks pc lc (vi n :: st) w := by
  obtain ⟨d, rfl⟩ := d
  intro p l e s m args below meth c H locs ls Cc hP hS hl
  have hts := Cc.2.2.2.2.2.1
  have hc := i32_clamp (i := (n : Int)) (by omega)
  refine va_newaK (atype := .int) Cc.1 Cc.2.1 (hts _ h1) rfl d rfl (N := n) (n := Int32.ofInt n) (fun h => ?_) (by rw [hc]; rfl) (by show n * 4 ≤ _; omega) hk.1 hk.2 rfl fun H1 cA e1 z1 o1 hAr hNm => ?_
  · have h : Int32.ofInt n < Int32.ofInt 0 := h
    rw [i32_lt (by omega) (by omega)] at h
    omega
  have ea : H.size = gad G w.1 := by rw [gad_lt hw]; exact hP.2.1
  have hNm2 : s.vm.findClass ("[" ++ FieldType.int.toString) = some (gtc G 0) := (Cc.2.2.2.2.2.2.2.2.1.2 0 _ rfl).2
  have hcA : cA = gtc G 0 := Option.some.inj (hNm.symm.trans hNm2)
  have := kk p l e s m args below meth c H1 locs ls Cc (hP.psh hw ?_ z1 o1) ⟨Nat.le_trans hS.1 (by omega), fun x h1 h2 => (o1 x (Nat.lt_of_lt_of_le h1 hS.1)).trans (hS.2.1 x h1 h2), hS.2.2⟩ hl
  · rw [List.map_cons, gre_ref, ← ea] at this
    exact this
  · rw [← ea]
    show H1[H.size]? = some (vp_cell _ _)
    rw [e1, hcA]
    rfl
theorem V_newL {n : Nat} (hw : w.1 < 1000) (h1 : Cond.arrayClass .long ∈ aW) (hn : n < 100000) (d : dc M pc (.newarray .long) 2 q) (kk : V G M Q (kc + 1) (ks + n) q lc (.ref w.1 :: st) (psh w (.inl (1, n, fun _ => 0)))) (hk : kc + 1 ≤ (mRm M).cells ∧ ks + n ≤ (mRm M).slots) : V G M Q kc ks pc lc (vi n :: st) w := by
  obtain ⟨d, rfl⟩ := d
  intro p l e s m args below meth c H locs ls Cc hP hS hl
  have hts := Cc.2.2.2.2.2.1
  have hc := i32_clamp (i := (n : Int)) (by omega)
  refine va_newaK (atype := .long) Cc.1 Cc.2.1 (hts _ h1) rfl d rfl (N := n) (n := Int32.ofInt n) (fun h => ?_) (by rw [hc]; rfl) (by show n * 8 ≤ _; omega) hk.1 hk.2 rfl fun H1 cA e1 z1 o1 hAr hNm => ?_
  · have h : Int32.ofInt n < Int32.ofInt 0 := h
    rw [i32_lt (by omega) (by omega)] at h
    omega
  have ea : H.size = gad G w.1 := by rw [gad_lt hw]; exact hP.2.1
  have hNm2 : s.vm.findClass ("[" ++ FieldType.long.toString) = some (gtc G 1) := (Cc.2.2.2.2.2.2.2.2.1.2 1 _ rfl).2
  have hcA : cA = gtc G 1 := Option.some.inj (hNm.symm.trans hNm2)
  have := kk p l e s m args below meth c H1 locs ls Cc (hP.psh hw ?_ z1 o1) ⟨Nat.le_trans hS.1 (by omega), fun x h1 h2 => (o1 x (Nat.lt_of_lt_of_le h1 hS.1)).trans (hS.2.1 x h1 h2), hS.2.2⟩ hl
  · rw [List.map_cons, gre_ref, ← ea] at this
    exact this
  · rw [← ea]
    show H1[H.size]? = some (vp_cell _ _)
    rw [e1, hcA]
    rfl
theorem V_newZ {n : Nat} (hw : w.1 < 1000) (h1 : Cond.arrayClass .boolean ∈ aW) (hn : n < 100000) (d : dc M pc (.newarray .boolean) 2 q) (kk : V G M Q (kc + 1) (ks + n) q lc (.ref w.1 :: st) (psh w (.inl (2, n, fun _ => 0)))) (hk : kc + 1 ≤ (mRm M).cells ∧ ks + n ≤ (mRm M).slots) : V G M Q kc ks pc lc (vi n :: st) w := by
  obtain ⟨d, rfl⟩ := d
  intro p l e s m args below meth c H locs ls Cc hP hS hl
  have hts := Cc.2.2.2.2.2.1
  have hc := i32_clamp (i := (n : Int)) (by omega)
  refine va_newaK (atype := .boolean) Cc.1 Cc.2.1 (hts _ h1) rfl d rfl (N := n) (n := Int32.ofInt n) (fun h => ?_) (by rw [hc]; rfl) (by show n * 1 ≤ _; omega) hk.1 hk.2 rfl fun H1 cA e1 z1 o1 hAr hNm => ?_
  · have h : Int32.ofInt n < Int32.ofInt 0 := h
    rw [i32_lt (by omega) (by omega)] at h
    omega
  have ea : H.size = gad G w.1 := by rw [gad_lt hw]; exact hP.2.1
  have hNm2 : s.vm.findClass ("[" ++ FieldType.boolean.toString) = some (gtc G 2) := (Cc.2.2.2.2.2.2.2.2.1.2 2 _ rfl).2
  have hcA : cA = gtc G 2 := Option.some.inj (hNm.symm.trans hNm2)
  have := kk p l e s m args below meth c H1 locs ls Cc (hP.psh hw ?_ z1 o1) ⟨Nat.le_trans hS.1 (by omega), fun x h1 h2 => (o1 x (Nat.lt_of_lt_of_le h1 hS.1)).trans (hS.2.1 x h1 h2), hS.2.2⟩ hl
  · rw [List.map_cons, gre_ref, ← ea] at this
    exact this
  · rw [← ea]
    show H1[H.size]? = some (vp_cell _ _)
    rw [e1, hcA]
    rfl
end R8
end
section
def cpy (f g : Nat → Int) (sp dp n : Nat) : Nat → Int := fun k => if dp ≤ k ∧ k < dp + n then f (sp + (k - dp)) else g k
section R9
variable {G : gT} {M N : mT} {Q Q' : Option Value → wT → Prop} {kc ks pc q t i n : Nat} {lc lc' : List (Option Value)} {st rest : List Value} {w : wT}
theorem cpy_real {f g : Nat → Int} {sp dp n : Nat} : va_cpy (fun k => Int32.ofInt (f k)) (fun k => Int32.ofInt (g k)) sp dp n = fun k => Int32.ofInt (cpy f g sp dp n k) := by
  funext k
  simp only [va_cpy, cpy]
  split <;> rfl
theorem V_acopy {o1 o2 n1 n2 : Nat} {f g : Nat → Int} {sp dp n : Int} (h1 : Cond.methodLink (mOwn M) i arraycopyName ∈ aW) (h2 : Cond.native arraycopyName ∈ aW) (h3 : Cond.static arraycopyName ∈ aW) (h4 : Cond.initialized "java/lang/System" ∈ aW) (ho1 : o1 < w.1) (hw1 : w.2 o1 = .inl (0, n1, f)) (ho2 : o2 < w.1) (hw2 : w.2 o2 = .inl (0, n2, g)) (d : dc M pc (.invokestatic i) 3 q)
    (kk : V G M Q kc ks q lc rest (put w o2 (.inl (0, n2, cpy f g sp.toNat dp.toNat n.toNat)))) (hb : 0 ≤ sp ∧ 0 ≤ dp ∧ 0 ≤ n ∧ sp + n ≤ n1 ∧ dp + n ≤ n2 ∧ n1 < 2147483648 ∧ n2 < 2147483648 := by omega) (hR : 1 ≤ (mRm M).frames ∧ (rest.map fun v => v.category).sum + 18 ≤ (mRm M).locals := by decide) : V G M Q kc ks pc lc (vi n :: vi dp :: .ref o2 :: vi sp :: .ref o1 :: rest) w := by
  obtain ⟨d, rfl⟩ := d
  intro p l e s m args below meth c H locs ls Cc hP hS hl
  have hts := Cc.2.2.2.2.2.1
  have hK := Cc.2.2.2.2.2.2.2.2.1
  have hD := wls_D (G := G) hP.2.2
  have ha0 : (wls G w)[o1]? = some (gad G o1, .inl (gtc G 0, n1, .inl (fun k => Int32.ofInt (f k)))) := by rw [wls_get ho1, hw1]; rfl
  have ha1 : (wls G w)[o2]? = some (gad G o2, .inl (gtc G 0, n2, .inl (fun k => Int32.ofInt (g k)))) := by rw [wls_get ho2, hw2]; rfl
  have cs := i32_clamp (i := sp) (by omega)
  have cd := i32_clamp (i := dp) (by omega)
  have cn := i32_clamp (i := n) (by omega)
  have ts : (Int32.ofInt sp).toInt = sp := Int32.toInt_ofInt_of_le (by omega) (by omega)
  have td : (Int32.ofInt dp).toInt = dp := Int32.toInt_ofInt_of_le (by omega) (by omega)
  have tn : (Int32.ofInt n).toInt = n := Int32.toInt_ofInt_of_le (by omega) (by omega)
  have nn : ∀ z : Int, 0 ≤ z ∧ z < 2147483648 → ¬ Int32.ofInt z < 0 := by
    intro z hz h
    have h : Int32.ofInt z < Int32.ofInt 0 := h
    rw [i32_lt (by omega) (by omega)] at h
    omega
  intro T hT X
  have hc0 : H[gad G o1]? = some (vp_cell (gtc G 0) (n1, .inl (fun k => Int32.ofInt (f k)))) := hP.1 o1 _ ha0
  have hc1 : H[gad G o2]? = some (vp_cell (gtc G 0) (n2, .inl (fun k => Int32.ofInt (g k)))) := hP.1 o2 _ ha1
  obtain ⟨-, k0, hk0, cm0, hkk0⟩ := (hK.2 0 _ rfl).1 n1 (fun j => .int (Int32.ofInt (f j)))
  obtain ⟨-, k1, hk1, cm1, hkk1⟩ := (hK.2 0 _ rfl).1 n2 (fun j => .int (Int32.ofInt (g j)))
  obtain ⟨vm', X', step⟩ := X.arraycopy Cc.1 Cc.2.2.2.2.1 (hts _ h1) (hts _ h2) (hts _ h3) (hts _ h4) (src := gad G o1) (dst := gad G o2) (cs := vp_cell (gtc G 0) (n1, .inl (fun k => Int32.ofInt (f k)))) (cd := vp_cell (gtc G 0) (n2, .inl (fun k => Int32.ofInt (g k)))) (srcPos := Int32.ofInt sp) (destPos := Int32.ofInt dp) (n := Int32.ofInt n) (by rw [hT]; exact hc0) (by rw [hT]; exact hc1)
    (fun _ h => by cases h) (fun _ h => by cases h) (fun h => by cases h) (fun h => by cases h) hk0 hk1 hkk0 hkk1 (by simp [refKind]) (nn sp (by omega)) (nn dp (by omega)) (nn n (by omega))
    (by rw [ts, tn]; show ¬ _ > ((arrV (gtc G 0) n1 (fun j => .int (Int32.ofInt (f j)))).slots.size : Int); rw [arrV_size]; omega)
    (by rw [td, tn]; show ¬ _ > ((arrV (gtc G 0) n2 (fun j => .int (Int32.ofInt (g j)))).slots.size : Int); rw [arrV_size]; omega)
    (fun vm₁ _ j hj => by
      rw [cn] at hj
      have e : (vp_cell (gtc G 0) (n1, .inl (fun k => Int32.ofInt (f k)))).slots.getD ((Int32.ofInt sp).toNatClampNeg + j) .null = .int (Int32.ofInt (f (sp.toNat + j))) := by
        rw [cs]
        show (arrV (gtc G 0) n1 (fun j => .int (Int32.ofInt (f j)))).slots.getD _ _ = _
        rw [Array.getD_eq_getD_getElem?, arrV_read _ _ (by omega)]
        rfl
      refine ⟨?_, ?_⟩
      · rw [e]
        rfl
      · rw [e]
        exact trivial)
    (g := F0 m pc ls ((vi n :: vi dp :: .ref o2 :: vi sp :: .ref o1 :: rest).map (gre G))) rfl (hl.1.trans Cc.2.2.2.1.symm) (rest := rest.map (gre G)) rfl (by rw [Cc.2.1]; exact d) hR.1 (by rw [catsum]; show 2 * 0 + _ + 18 ≤ _; omega)
  have e1 : copied (vp_cell (gtc G 0) (n1, .inl (fun k => Int32.ofInt (f k)))) (vp_cell (gtc G 0) (n2, .inl (fun k => Int32.ofInt (g k)))) (Int32.ofInt sp) (Int32.ofInt dp) (Int32.ofInt n) = vp_cell (gtc G 0) (n2, .inl (fun k => Int32.ofInt (cpy f g sp.toNat dp.toNat n.toNat k))) := by
    have := va_copied (fun z => .int z) (gtc G 0) (gtc G 0) (fun k => Int32.ofInt (f k)) (fun k => Int32.ofInt (g k)) (n0 := n1) (n1 := n2) (sp := (Int32.ofInt sp).toNatClampNeg) (dp := (Int32.ofInt dp).toNatClampNeg) (n := (Int32.ofInt n).toNatClampNeg) (by rw [cs, cn]; omega)
    refine Eq.trans this ?_
    rw [cs, cd, cn, cpy_real]
    rfl
  rw [e1] at X' step
  have hlt : gad G o2 < H.size := (Array.getElem?_eq_some_iff.mp hc1).1
  obtain ⟨t, a1, b1⟩ := kk p l e s m args below meth c _ _ ls Cc (hP.put (H1 := H.setIfInBounds (gad G o2) (vp_cell (gtc G 0) (n2, .inl (fun k => Int32.ofInt (cpy f g sp.toNat dp.toNat n.toNat k))))) ho2 (show (H.setIfInBounds (gad G o2) _)[gad G o2]? = some _ by simp [Array.getElem?_setIfInBounds, hlt]) (by simp) (fun q hq => by simp [Array.getElem?_setIfInBounds, Ne.symm hq])) ⟨by simp; exact hS.1, fun q g1 g2 => by
      have : q ≠ gad G o2 := fun e => g2 (by rw [e]; exact hD.2 o2 _ ha1)
      simp [Array.getElem?_setIfInBounds, Ne.symm this]
      exact hS.2.1 q g1 g2, fun q hq => by
      rcases List.mem_append.mp hq with h | h
      · exact hS.2.2 q h
      · obtain ⟨z, -, hz⟩ := List.mem_map.mp h
        rw [← hz]
        exact hD.2 o2 _ ha1⟩ hl _ (by rw [← hT]; rfl) X'
  exact ⟨t, step t a1, b1⟩
theorem gad_sp {i : Nat} (h : 1000 ≤ i) : gad G i = gsp G i := by rw [gad, if_neg (by omega)]
theorem V_ldcS {j : Nat} {tx : String} (hq : (mOwn M, i, tx, j) ∈ sRf) (d : dc M pc (.ldc i) 2 q) (kk : V G M Q kc ks q lc (.ref (1200 + j) :: st) w) : V G M Q kc ks pc lc st w := by
  obtain ⟨d, rfl⟩ := d
  intro p l e s m args below meth c H locs ls Cc hP hS hl
  have hR := Cc.2.2.2.2.2.2.2.2.2.1.1 _ hq
  refine va_ldcS Cc.1 Cc.2.1 Cc.2.2.2.2.1 hR d ?_
  have := kk p l e s m args below meth c H locs ls Cc hP hS hl
  rwa [List.map_cons, gre_ref, gad_sp (by omega)] at this
theorem V_getSc {j : Nat} (hj : j < 8) (hc : Cond.fieldLink (mOwn M) i "java/lang/String" "coder" "B" ∈ aW) (d : dc M pc (.getfield i) 3 q) (kk : V G M Q kc ks q lc (vi 0 :: st) w) : V G M Q kc ks pc lc (.ref (1200 + j) :: st) w := by
  obtain ⟨d, rfl⟩ := d
  intro p l e s m args below meth c H locs ls Cc hP hS hl
  have hR := (Cc.2.2.2.2.2.2.2.2.2.2.1.2.2.1.1 j hj).2.1
  rw [List.map_cons, gre_ref, gad_sp (by omega)]
  exact vk_getf Cc.1 Cc.2.1 hR hS Cc.2.2.2.2.1 (Cc.2.2.2.2.2.1 _ hc) (fun _ h => h) d (kk p l e s m args below meth c H locs ls Cc hP hS hl)
theorem V_getSv {j : Nat} (hj : j < 8) (hc : Cond.fieldLink (mOwn M) i "java/lang/String" "value" "[B" ∈ aW) (d : dc M pc (.getfield i) 3 q) (kk : V G M Q kc ks q lc (.ref (1300 + j) :: st) w) : V G M Q kc ks pc lc (.ref (1200 + j) :: st) w := by
  obtain ⟨d, rfl⟩ := d
  intro p l e s m args below meth c H locs ls Cc hP hS hl
  have hR := (Cc.2.2.2.2.2.2.2.2.2.2.1.2.2.1.1 j hj).2.2.1
  have := kk p l e s m args below meth c H locs ls Cc hP hS hl
  rw [List.map_cons, gre_ref, gad_sp (by omega)] at this
  rw [List.map_cons, gre_ref, gad_sp (by omega)]
  exact vk_getf Cc.1 Cc.2.1 hR hS Cc.2.2.2.2.1 (Cc.2.2.2.2.2.1 _ hc) (fun _ h => h) d this
theorem sLn_lt {j : Nat} (hj : j < 8) : sLn.getD j 0 < 10 := by
  rcases (show j = 0 ∨ j = 1 ∨ j = 2 ∨ j = 3 ∨ j = 4 ∨ j = 5 ∨ j = 6 ∨ j = 7 by omega) with rfl | rfl | rfl | rfl | rfl | rfl | rfl | rfl <;> decide
theorem V_lenB {j : Nat} (hj : j < 8) (d : dc M pc .arraylength 1 q) (kk : V G M Q kc ks q lc (vi (sLn.getD j 0) :: st) w) : V G M Q kc ks pc lc (.ref (1300 + j) :: st) w := by
  obtain ⟨d, rfl⟩ := d
  intro p l e s m args below meth c H locs ls Cc hP hS hl
  have hR := (Cc.2.2.2.2.2.2.2.2.2.2.1.2.2.1.1 j hj).2.2.2
  rw [List.map_cons, gre_ref, gad_sp (by omega)]
  exact va_tlen Cc.1 Cc.2.1 hR hS Int32.ofInt_eq_ofNat.symm d (kk p l e s m args below meth c H locs ls Cc hP hS hl)
theorem V_baloadS {j : Nat} {k : Int} (hj : j < 8) (hk : 0 ≤ k ∧ k < sLn.getD j 0) (d : dc M pc .baload 1 q) (kk : V G M Q kc ks q lc (vi (((sBy.getD j []).getD k.toNat 0).toInt) :: st) w) : V G M Q kc ks pc lc (vi k :: .ref (1300 + j) :: st) w := by
  obtain ⟨d, rfl⟩ := d
  intro p l e s m args below meth c H locs ls Cc hP hS hl
  have h10 := sLn_lt hj
  have hR := (Cc.2.2.2.2.2.2.2.2.2.2.1.2.2.1.1 j hj).2.2.2
  rw [List.map_cons, List.map_cons, gre_ref, gad_sp (by omega)]
  refine va_tb Cc.1 Cc.2.1 hR hS (i32_in hk (by omega)) rfl d ?_
  have := kk p l e s m args below meth c H locs ls Cc hP hS hl
  rw [List.map_cons, gre_vi, Int32.ofInt_toInt] at this
  show W _ _ _ _ _ _ _ _ _ _ _ _ _ _ _ (F0 m (pc + 1) ls (.int ((sBy.getD j []).getD (Int32.ofInt k).toNatClampNeg 0) :: st.map (gre G)))
  rw [i32_clamp (by omega)]
  exact this
theorem V_getsZ (hc : Cond.fieldLink (mOwn M) i "java/lang/String" "COMPACT_STRINGS" "Z" ∈ aW) (d : dc M pc (.getstatic i) 3 q) (kk : V G M Q kc ks q lc (vi 1 :: st) w) : V G M Q kc ks pc lc st w := by
  obtain ⟨d, rfl⟩ := d
  intro p l e s m args below meth c H locs ls Cc hP hS hl
  have hR := Cc.2.2.2.2.2.2.2.2.2.2.1.2.2.2.1
  exact va_gets Cc.1 Cc.2.1 hR hS Cc.2.2.2.2.1 (Cc.2.2.2.2.2.1 _ hc) (fun _ h => h) d (kk p l e s m args below meth c H locs ls Cc hP hS hl)
theorem V_getsQ (hc : Cond.fieldLink (mOwn M) i "jdk/internal/util/Preconditions" "SIOOBE_FORMATTER" "Ljava/util/function/BiFunction;" ∈ aW) (d : dc M pc (.getstatic i) 3 q) (kk : ∀ v, v = .null ∨ v = .ref 1400 → V G M Q kc ks q lc (v :: st) w) : V G M Q kc ks pc lc st w := by
  obtain ⟨d, rfl⟩ := d
  intro p l e s m args below meth c H locs ls Cc hP hS hl
  have hR := Cc.2.2.2.2.2.2.2.2.2.2.1.2.2.2.2
  exact va_gets Cc.1 Cc.2.1 hR.1 hS Cc.2.2.2.2.1 (Cc.2.2.2.2.2.1 _ hc) (fun _ h => h) d (kk _ hR.2 p l e s m args below meth c H locs ls Cc hP hS hl)
end R9
end
