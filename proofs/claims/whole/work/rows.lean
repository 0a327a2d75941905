section
-- ===== PART A: goes FIRST, ahead of the names: the tables' words, and 'selects' of the private methods out of them =====
/-- a private method of a class that the tables say can be made, by its rows of tables_1 -/
def lw_okq (q : MethodName × Nat) : Prop := (q.1.cls ≠ "java/lang/invoke/MethodHandle" ∧ q.1.cls ≠ "java/lang/invoke/VarHandle") ∧ Cond.instantiable q.1.cls q.2 ∈ tables_1 ∧ Cond.privateMethod q.1 ∈ tables_1 ∧ Cond.instanceMethod q.1 ∈ tables_1
theorem lw_p0 : lw_okq (⟨"WhipCrack$PlaitReader", "readClause", "(LWhipCrack$Text;)V"⟩, 2) := ⟨⟨by decide +kernel, by decide +kernel⟩, List.mem_of_getElem? (i := 150) (by decide +kernel), List.mem_of_getElem? (i := 391) (by decide +kernel), List.mem_of_getElem? (i := 392) (by decide +kernel)⟩
theorem lw_p1 : lw_okq (⟨"WhipCrack$PlaitReader", "readPieces", "(LWhipCrack$Text;)V"⟩, 2) := ⟨⟨by decide +kernel, by decide +kernel⟩, List.mem_of_getElem? (i := 150) (by decide +kernel), List.mem_of_getElem? (i := 456) (by decide +kernel), List.mem_of_getElem? (i := 457) (by decide +kernel)⟩
theorem lw_p2 : lw_okq (⟨"WhipCrack$Text", "readFigures", "(II)I"⟩, 6) := ⟨⟨by decide +kernel, by decide +kernel⟩, List.mem_of_getElem? (i := 117) (by decide +kernel), List.mem_of_getElem? (i := 465) (by decide +kernel), List.mem_of_getElem? (i := 466) (by decide +kernel)⟩
theorem lw_p3 : lw_okq (⟨"WhipCrack$PlaitReader", "readLength", "(LWhipCrack$Text;)V"⟩, 2) := ⟨⟨by decide +kernel, by decide +kernel⟩, List.mem_of_getElem? (i := 150) (by decide +kernel), List.mem_of_getElem? (i := 497) (by decide +kernel), List.mem_of_getElem? (i := 498) (by decide +kernel)⟩
theorem lw_p4 : lw_okq (⟨"WhipCrack", "endReading", "()I"⟩, 18) := ⟨⟨by decide +kernel, by decide +kernel⟩, List.mem_of_getElem? (i := 22) (by decide +kernel), List.mem_of_getElem? (i := 501) (by decide +kernel), List.mem_of_getElem? (i := 502) (by decide +kernel)⟩
theorem lw_p5 : lw_okq (⟨"WhipCrack", "setChanged", "()V"⟩, 18) := ⟨⟨by decide +kernel, by decide +kernel⟩, List.mem_of_getElem? (i := 22) (by decide +kernel), List.mem_of_getElem? (i := 512) (by decide +kernel), List.mem_of_getElem? (i := 513) (by decide +kernel)⟩
theorem lw_p6 : lw_okq (⟨"WhipCrack$WayReader", "readPart", "(LWhipCrack$Text;)V"⟩, 10) := ⟨⟨by decide +kernel, by decide +kernel⟩, List.mem_of_getElem? (i := 166) (by decide +kernel), List.mem_of_getElem? (i := 528) (by decide +kernel), List.mem_of_getElem? (i := 529) (by decide +kernel)⟩
theorem lw_p7 : lw_okq (⟨"WhipCrack$WayReader", "readGo", "(LWhipCrack$Text;)V"⟩, 10) := ⟨⟨by decide +kernel, by decide +kernel⟩, List.mem_of_getElem? (i := 166) (by decide +kernel), List.mem_of_getElem? (i := 534) (by decide +kernel), List.mem_of_getElem? (i := 535) (by decide +kernel)⟩
theorem lw_p8 : lw_okq (⟨"WhipCrack$WayReader", "addStep", "(III)V"⟩, 10) := ⟨⟨by decide +kernel, by decide +kernel⟩, List.mem_of_getElem? (i := 166) (by decide +kernel), List.mem_of_getElem? (i := 545) (by decide +kernel), List.mem_of_getElem? (i := 546) (by decide +kernel)⟩
theorem lw_p9 : lw_okq (⟨"WhipCrack$WayReader", "openTimes", "(LWhipCrack$Text;)V"⟩, 10) := ⟨⟨by decide +kernel, by decide +kernel⟩, List.mem_of_getElem? (i := 166) (by decide +kernel), List.mem_of_getElem? (i := 553) (by decide +kernel), List.mem_of_getElem? (i := 554) (by decide +kernel)⟩
theorem lw_p10 : lw_okq (⟨"WhipCrack$WayReader", "closeTimes", "()V"⟩, 10) := ⟨⟨by decide +kernel, by decide +kernel⟩, List.mem_of_getElem? (i := 166) (by decide +kernel), List.mem_of_getElem? (i := 559) (by decide +kernel), List.mem_of_getElem? (i := 560) (by decide +kernel)⟩
theorem lw_p11 : lw_okq (⟨"WhipCrack$WayReader", "copyStep", "(I)V"⟩, 10) := ⟨⟨by decide +kernel, by decide +kernel⟩, List.mem_of_getElem? (i := 166) (by decide +kernel), List.mem_of_getElem? (i := 563) (by decide +kernel), List.mem_of_getElem? (i := 564) (by decide +kernel)⟩
theorem lw_p12 : lw_okq (⟨"WhipCrack", "isJoint", "(I)Z"⟩, 18) := ⟨⟨by decide +kernel, by decide +kernel⟩, List.mem_of_getElem? (i := 22) (by decide +kernel), List.mem_of_getElem? (i := 625) (by decide +kernel), List.mem_of_getElem? (i := 626) (by decide +kernel)⟩
theorem lw_p13 : lw_okq (⟨"WhipCrack", "isTick", "(I)Z"⟩, 18) := ⟨⟨by decide +kernel, by decide +kernel⟩, List.mem_of_getElem? (i := 22) (by decide +kernel), List.mem_of_getElem? (i := 629) (by decide +kernel), List.mem_of_getElem? (i := 630) (by decide +kernel)⟩
theorem lw_p14 : lw_okq (⟨"WhipCrack", "theThrow", "()LWhipCrack$Flight;"⟩, 18) := ⟨⟨by decide +kernel, by decide +kernel⟩, List.mem_of_getElem? (i := 22) (by decide +kernel), List.mem_of_getElem? (i := 633) (by decide +kernel), List.mem_of_getElem? (i := 634) (by decide +kernel)⟩
theorem lw_p15 : lw_okq (⟨"WhipCrack$Flight", "rest", "()V"⟩, 8) := ⟨⟨by decide +kernel, by decide +kernel⟩, List.mem_of_getElem? (i := 203) (by decide +kernel), List.mem_of_getElem? (i := 643) (by decide +kernel), List.mem_of_getElem? (i := 644) (by decide +kernel)⟩
def lw_privs_1 : List (MethodName × Nat) := [(⟨"WhipCrack$PlaitReader", "readClause", "(LWhipCrack$Text;)V"⟩, 2), (⟨"WhipCrack$PlaitReader", "readPieces", "(LWhipCrack$Text;)V"⟩, 2), (⟨"WhipCrack$Text", "readFigures", "(II)I"⟩, 6), (⟨"WhipCrack$PlaitReader", "readLength", "(LWhipCrack$Text;)V"⟩, 2), (⟨"WhipCrack", "endReading", "()I"⟩, 18), (⟨"WhipCrack", "setChanged", "()V"⟩, 18), (⟨"WhipCrack$WayReader", "readPart", "(LWhipCrack$Text;)V"⟩, 10), (⟨"WhipCrack$WayReader", "readGo", "(LWhipCrack$Text;)V"⟩, 10), (⟨"WhipCrack$WayReader", "addStep", "(III)V"⟩, 10), (⟨"WhipCrack$WayReader", "openTimes", "(LWhipCrack$Text;)V"⟩, 10), (⟨"WhipCrack$WayReader", "closeTimes", "()V"⟩, 10), (⟨"WhipCrack$WayReader", "copyStep", "(I)V"⟩, 10), (⟨"WhipCrack", "isJoint", "(I)Z"⟩, 18), (⟨"WhipCrack", "isTick", "(I)Z"⟩, 18), (⟨"WhipCrack", "theThrow", "()LWhipCrack$Flight;"⟩, 18), (⟨"WhipCrack$Flight", "rest", "()V"⟩, 8)]
theorem lw_r1 : ∀ q ∈ lw_privs_1, lw_okq q := List.forall_mem_cons.mpr ⟨lw_p0, List.forall_mem_cons.mpr ⟨lw_p1, List.forall_mem_cons.mpr ⟨lw_p2, List.forall_mem_cons.mpr ⟨lw_p3, List.forall_mem_cons.mpr ⟨lw_p4, List.forall_mem_cons.mpr ⟨lw_p5, List.forall_mem_cons.mpr ⟨lw_p6, List.forall_mem_cons.mpr ⟨lw_p7, List.forall_mem_cons.mpr ⟨lw_p8, List.forall_mem_cons.mpr ⟨lw_p9, List.forall_mem_cons.mpr ⟨lw_p10, List.forall_mem_cons.mpr ⟨lw_p11, List.forall_mem_cons.mpr ⟨lw_p12, List.forall_mem_cons.mpr ⟨lw_p13, List.forall_mem_cons.mpr ⟨lw_p14, List.forall_mem_cons.mpr ⟨lw_p15, fun _ h => absurd h List.not_mem_nil⟩⟩⟩⟩⟩⟩⟩⟩⟩⟩⟩⟩⟩⟩⟩⟩
theorem lw_p16 : lw_okq (⟨"WhipCrack$Flight", "goOn", "(III)V"⟩, 8) := ⟨⟨by decide +kernel, by decide +kernel⟩, List.mem_of_getElem? (i := 203) (by decide +kernel), List.mem_of_getElem? (i := 647) (by decide +kernel), List.mem_of_getElem? (i := 648) (by decide +kernel)⟩
theorem lw_p17 : lw_okq (⟨"WhipCrack$Flight", "bend", "(I)V"⟩, 8) := ⟨⟨by decide +kernel, by decide +kernel⟩, List.mem_of_getElem? (i := 203) (by decide +kernel), List.mem_of_getElem? (i := 666) (by decide +kernel), List.mem_of_getElem? (i := 667) (by decide +kernel)⟩
theorem lw_p18 : lw_okq (⟨"WhipCrack$Flight", "pull", "(I)Z"⟩, 8) := ⟨⟨by decide +kernel, by decide +kernel⟩, List.mem_of_getElem? (i := 203) (by decide +kernel), List.mem_of_getElem? (i := 671) (by decide +kernel), List.mem_of_getElem? (i := 672) (by decide +kernel)⟩
theorem lw_p19 : lw_okq (⟨"WhipCrack$Flight", "lengthIfStretched", "(JJ)J"⟩, 8) := ⟨⟨by decide +kernel, by decide +kernel⟩, List.mem_of_getElem? (i := 203) (by decide +kernel), List.mem_of_getElem? (i := 675) (by decide +kernel), List.mem_of_getElem? (i := 676) (by decide +kernel)⟩
theorem lw_p20 : lw_okq (⟨"WhipCrack$Flight", "pullBoth", "(IIJJJ)V"⟩, 8) := ⟨⟨by decide +kernel, by decide +kernel⟩, List.mem_of_getElem? (i := 203) (by decide +kernel), List.mem_of_getElem? (i := 679) (by decide +kernel), List.mem_of_getElem? (i := 680) (by decide +kernel)⟩
theorem lw_p21 : lw_okq (⟨"WhipCrack$Flight", "shorten", "(I)V"⟩, 8) := ⟨⟨by decide +kernel, by decide +kernel⟩, List.mem_of_getElem? (i := 203) (by decide +kernel), List.mem_of_getElem? (i := 683) (by decide +kernel), List.mem_of_getElem? (i := 684) (by decide +kernel)⟩
theorem lw_p22 : lw_okq (⟨"WhipCrack$Flight", "moved", "(II)J"⟩, 8) := ⟨⟨by decide +kernel, by decide +kernel⟩, List.mem_of_getElem? (i := 203) (by decide +kernel), List.mem_of_getElem? (i := 703) (by decide +kernel), List.mem_of_getElem? (i := 704) (by decide +kernel)⟩
theorem lw_p23 : lw_okq (⟨"WhipCrack$Flight", "isCrack", "(II)Z"⟩, 8) := ⟨⟨by decide +kernel, by decide +kernel⟩, List.mem_of_getElem? (i := 203) (by decide +kernel), List.mem_of_getElem? (i := 740) (by decide +kernel), List.mem_of_getElem? (i := 741) (by decide +kernel)⟩
theorem lw_p24 : lw_okq (⟨"WhipCrack$Flight", "isFast", "(II)Z"⟩, 8) := ⟨⟨by decide +kernel, by decide +kernel⟩, List.mem_of_getElem? (i := 203) (by decide +kernel), List.mem_of_getElem? (i := 744) (by decide +kernel), List.mem_of_getElem? (i := 745) (by decide +kernel)⟩
theorem lw_p25 : lw_okq (⟨"WhipCrack", "tellCrack", "(LWhipCrack$Flight;III)I"⟩, 18) := ⟨⟨by decide +kernel, by decide +kernel⟩, List.mem_of_getElem? (i := 22) (by decide +kernel), List.mem_of_getElem? (i := 752) (by decide +kernel), List.mem_of_getElem? (i := 753) (by decide +kernel)⟩
theorem lw_p26 : lw_okq (⟨"WhipCrack$Flight", "hasCrack", "(I)Z"⟩, 8) := ⟨⟨by decide +kernel, by decide +kernel⟩, List.mem_of_getElem? (i := 203) (by decide +kernel), List.mem_of_getElem? (i := 788) (by decide +kernel), List.mem_of_getElem? (i := 789) (by decide +kernel)⟩
theorem lw_p27 : lw_okq (⟨"WhipCrack$Search", "layRow", "()V"⟩, 5) := ⟨⟨by decide +kernel, by decide +kernel⟩, List.mem_of_getElem? (i := 239) (by decide +kernel), List.mem_of_getElem? (i := 841) (by decide +kernel), List.mem_of_getElem? (i := 842) (by decide +kernel)⟩
theorem lw_p28 : lw_okq (⟨"WhipCrack$Search", "compare", "(I)V"⟩, 5) := ⟨⟨by decide +kernel, by decide +kernel⟩, List.mem_of_getElem? (i := 239) (by decide +kernel), List.mem_of_getElem? (i := 856) (by decide +kernel), List.mem_of_getElem? (i := 857) (by decide +kernel)⟩
theorem lw_p29 : lw_okq (⟨"WhipCrack$Search", "nextRow", "()Z"⟩, 5) := ⟨⟨by decide +kernel, by decide +kernel⟩, List.mem_of_getElem? (i := 239) (by decide +kernel), List.mem_of_getElem? (i := 861) (by decide +kernel), List.mem_of_getElem? (i := 862) (by decide +kernel)⟩
theorem lw_p30 : lw_okq (⟨"WhipCrack", "throwReally", "()I"⟩, 18) := ⟨⟨by decide +kernel, by decide +kernel⟩, List.mem_of_getElem? (i := 22) (by decide +kernel), List.mem_of_getElem? (i := 907) (by decide +kernel), List.mem_of_getElem? (i := 908) (by decide +kernel)⟩
theorem lw_p31 : lw_okq (⟨"WhipCrack$Hides", "isEnough", "(I)Z"⟩, 5) := ⟨⟨by decide +kernel, by decide +kernel⟩, List.mem_of_getElem? (i := 266) (by decide +kernel), List.mem_of_getElem? (i := 955) (by decide +kernel), List.mem_of_getElem? (i := 956) (by decide +kernel)⟩
def lw_privs_2 : List (MethodName × Nat) := [(⟨"WhipCrack$Flight", "goOn", "(III)V"⟩, 8), (⟨"WhipCrack$Flight", "bend", "(I)V"⟩, 8), (⟨"WhipCrack$Flight", "pull", "(I)Z"⟩, 8), (⟨"WhipCrack$Flight", "lengthIfStretched", "(JJ)J"⟩, 8), (⟨"WhipCrack$Flight", "pullBoth", "(IIJJJ)V"⟩, 8), (⟨"WhipCrack$Flight", "shorten", "(I)V"⟩, 8), (⟨"WhipCrack$Flight", "moved", "(II)J"⟩, 8), (⟨"WhipCrack$Flight", "isCrack", "(II)Z"⟩, 8), (⟨"WhipCrack$Flight", "isFast", "(II)Z"⟩, 8), (⟨"WhipCrack", "tellCrack", "(LWhipCrack$Flight;III)I"⟩, 18), (⟨"WhipCrack$Flight", "hasCrack", "(I)Z"⟩, 8), (⟨"WhipCrack$Search", "layRow", "()V"⟩, 5), (⟨"WhipCrack$Search", "compare", "(I)V"⟩, 5), (⟨"WhipCrack$Search", "nextRow", "()Z"⟩, 5), (⟨"WhipCrack", "throwReally", "()I"⟩, 18), (⟨"WhipCrack$Hides", "isEnough", "(I)Z"⟩, 5)]
theorem lw_r2 : ∀ q ∈ lw_privs_2, lw_okq q := List.forall_mem_cons.mpr ⟨lw_p16, List.forall_mem_cons.mpr ⟨lw_p17, List.forall_mem_cons.mpr ⟨lw_p18, List.forall_mem_cons.mpr ⟨lw_p19, List.forall_mem_cons.mpr ⟨lw_p20, List.forall_mem_cons.mpr ⟨lw_p21, List.forall_mem_cons.mpr ⟨lw_p22, List.forall_mem_cons.mpr ⟨lw_p23, List.forall_mem_cons.mpr ⟨lw_p24, List.forall_mem_cons.mpr ⟨lw_p25, List.forall_mem_cons.mpr ⟨lw_p26, List.forall_mem_cons.mpr ⟨lw_p27, List.forall_mem_cons.mpr ⟨lw_p28, List.forall_mem_cons.mpr ⟨lw_p29, List.forall_mem_cons.mpr ⟨lw_p30, List.forall_mem_cons.mpr ⟨lw_p31, fun _ h => absurd h List.not_mem_nil⟩⟩⟩⟩⟩⟩⟩⟩⟩⟩⟩⟩⟩⟩⟩⟩
theorem lw_p32 : lw_okq (⟨"WhipCrack$Hides", "afterCut", "(III)I"⟩, 5) := ⟨⟨by decide +kernel, by decide +kernel⟩, List.mem_of_getElem? (i := 266) (by decide +kernel), List.mem_of_getElem? (i := 959) (by decide +kernel), List.mem_of_getElem? (i := 960) (by decide +kernel)⟩
theorem lw_p33 : lw_okq (⟨"WhipCrack$Hides", "keepLeast", "(II)V"⟩, 5) := ⟨⟨by decide +kernel, by decide +kernel⟩, List.mem_of_getElem? (i := 266) (by decide +kernel), List.mem_of_getElem? (i := 963) (by decide +kernel), List.mem_of_getElem? (i := 964) (by decide +kernel)⟩
theorem lw_p34 : lw_okq (⟨"WhipCrackModel", "beginText", "()V"⟩, 60) := ⟨⟨by decide +kernel, by decide +kernel⟩, List.mem_of_getElem? (i := 1012) (by decide +kernel), List.mem_of_getElem? (i := 1214) (by decide +kernel), List.mem_of_getElem? (i := 1215) (by decide +kernel)⟩
theorem lw_p35 : lw_okq (⟨"WhipCrackModel", "here", "()I"⟩, 60) := ⟨⟨by decide +kernel, by decide +kernel⟩, List.mem_of_getElem? (i := 1012) (by decide +kernel), List.mem_of_getElem? (i := 1218) (by decide +kernel), List.mem_of_getElem? (i := 1219) (by decide +kernel)⟩
theorem lw_p36 : lw_okq (⟨"WhipCrackModel", "takeWord", "()V"⟩, 60) := ⟨⟨by decide +kernel, by decide +kernel⟩, List.mem_of_getElem? (i := 1012) (by decide +kernel), List.mem_of_getElem? (i := 1222) (by decide +kernel), List.mem_of_getElem? (i := 1223) (by decide +kernel)⟩
theorem lw_p37 : lw_okq (⟨"WhipCrackModel", "isWord", "(IIIIIIII)Z"⟩, 60) := ⟨⟨by decide +kernel, by decide +kernel⟩, List.mem_of_getElem? (i := 1012) (by decide +kernel), List.mem_of_getElem? (i := 1228) (by decide +kernel), List.mem_of_getElem? (i := 1229) (by decide +kernel)⟩
theorem lw_p38 : lw_okq (⟨"WhipCrackModel", "takePiece", "()V"⟩, 60) := ⟨⟨by decide +kernel, by decide +kernel⟩, List.mem_of_getElem? (i := 1012) (by decide +kernel), List.mem_of_getElem? (i := 1232) (by decide +kernel), List.mem_of_getElem? (i := 1233) (by decide +kernel)⟩
theorem lw_p39 : lw_okq (⟨"WhipCrackModel", "takeNumber", "(IIZ)I"⟩, 60) := ⟨⟨by decide +kernel, by decide +kernel⟩, List.mem_of_getElem? (i := 1012) (by decide +kernel), List.mem_of_getElem? (i := 1236) (by decide +kernel), List.mem_of_getElem? (i := 1237) (by decide +kernel)⟩
theorem lw_p40 : lw_okq (⟨"WhipCrackModel", "want", "(ZII)Z"⟩, 60) := ⟨⟨by decide +kernel, by decide +kernel⟩, List.mem_of_getElem? (i := 1012) (by decide +kernel), List.mem_of_getElem? (i := 1245) (by decide +kernel), List.mem_of_getElem? (i := 1246) (by decide +kernel)⟩
theorem lw_p41 : lw_okq (⟨"WhipCrackModel", "takeSign", "(I)V"⟩, 60) := ⟨⟨by decide +kernel, by decide +kernel⟩, List.mem_of_getElem? (i := 1012) (by decide +kernel), List.mem_of_getElem? (i := 1249) (by decide +kernel), List.mem_of_getElem? (i := 1250) (by decide +kernel)⟩
theorem lw_p42 : lw_okq (⟨"WhipCrackModel", "takeWay", "()V"⟩, 60) := ⟨⟨by decide +kernel, by decide +kernel⟩, List.mem_of_getElem? (i := 1012) (by decide +kernel), List.mem_of_getElem? (i := 1257) (by decide +kernel), List.mem_of_getElem? (i := 1258) (by decide +kernel)⟩
theorem lw_p43 : lw_okq (⟨"WhipCrackModel", "addOp", "(IIII)V"⟩, 60) := ⟨⟨by decide +kernel, by decide +kernel⟩, List.mem_of_getElem? (i := 1012) (by decide +kernel), List.mem_of_getElem? (i := 1261) (by decide +kernel), List.mem_of_getElem? (i := 1262) (by decide +kernel)⟩
theorem lw_p44 : lw_okq (⟨"WhipCrackModel", "takeGo", "()V"⟩, 60) := ⟨⟨by decide +kernel, by decide +kernel⟩, List.mem_of_getElem? (i := 1012) (by decide +kernel), List.mem_of_getElem? (i := 1265) (by decide +kernel), List.mem_of_getElem? (i := 1266) (by decide +kernel)⟩
theorem lw_p45 : lw_okq (⟨"WhipCrackModel", "runWay", "()Z"⟩, 60) := ⟨⟨by decide +kernel, by decide +kernel⟩, List.mem_of_getElem? (i := 1012) (by decide +kernel), List.mem_of_getElem? (i := 1269) (by decide +kernel), List.mem_of_getElem? (i := 1270) (by decide +kernel)⟩
theorem lw_p46 : lw_okq (⟨"WhipCrackModel", "weightOf", "(I)I"⟩, 60) := ⟨⟨by decide +kernel, by decide +kernel⟩, List.mem_of_getElem? (i := 1012) (by decide +kernel), List.mem_of_getElem? (i := 1281) (by decide +kernel), List.mem_of_getElem? (i := 1282) (by decide +kernel)⟩
theorem lw_p47 : lw_okq (⟨"WhipCrackModel", "bendsOf", "(I)I"⟩, 60) := ⟨⟨by decide +kernel, by decide +kernel⟩, List.mem_of_getElem? (i := 1012) (by decide +kernel), List.mem_of_getElem? (i := 1288) (by decide +kernel), List.mem_of_getElem? (i := 1289) (by decide +kernel)⟩
def lw_privs_3 : List (MethodName × Nat) := [(⟨"WhipCrack$Hides", "afterCut", "(III)I"⟩, 5), (⟨"WhipCrack$Hides", "keepLeast", "(II)V"⟩, 5), (⟨"WhipCrackModel", "beginText", "()V"⟩, 60), (⟨"WhipCrackModel", "here", "()I"⟩, 60), (⟨"WhipCrackModel", "takeWord", "()V"⟩, 60), (⟨"WhipCrackModel", "isWord", "(IIIIIIII)Z"⟩, 60), (⟨"WhipCrackModel", "takePiece", "()V"⟩, 60), (⟨"WhipCrackModel", "takeNumber", "(IIZ)I"⟩, 60), (⟨"WhipCrackModel", "want", "(ZII)Z"⟩, 60), (⟨"WhipCrackModel", "takeSign", "(I)V"⟩, 60), (⟨"WhipCrackModel", "takeWay", "()V"⟩, 60), (⟨"WhipCrackModel", "addOp", "(IIII)V"⟩, 60), (⟨"WhipCrackModel", "takeGo", "()V"⟩, 60), (⟨"WhipCrackModel", "runWay", "()Z"⟩, 60), (⟨"WhipCrackModel", "weightOf", "(I)I"⟩, 60), (⟨"WhipCrackModel", "bendsOf", "(I)I"⟩, 60)]
theorem lw_r3 : ∀ q ∈ lw_privs_3, lw_okq q := List.forall_mem_cons.mpr ⟨lw_p32, List.forall_mem_cons.mpr ⟨lw_p33, List.forall_mem_cons.mpr ⟨lw_p34, List.forall_mem_cons.mpr ⟨lw_p35, List.forall_mem_cons.mpr ⟨lw_p36, List.forall_mem_cons.mpr ⟨lw_p37, List.forall_mem_cons.mpr ⟨lw_p38, List.forall_mem_cons.mpr ⟨lw_p39, List.forall_mem_cons.mpr ⟨lw_p40, List.forall_mem_cons.mpr ⟨lw_p41, List.forall_mem_cons.mpr ⟨lw_p42, List.forall_mem_cons.mpr ⟨lw_p43, List.forall_mem_cons.mpr ⟨lw_p44, List.forall_mem_cons.mpr ⟨lw_p45, List.forall_mem_cons.mpr ⟨lw_p46, List.forall_mem_cons.mpr ⟨lw_p47, fun _ h => absurd h List.not_mem_nil⟩⟩⟩⟩⟩⟩⟩⟩⟩⟩⟩⟩⟩⟩⟩⟩
theorem lw_p48 : lw_okq (⟨"WhipCrackModel", "allStrands", "()I"⟩, 60) := ⟨⟨by decide +kernel, by decide +kernel⟩, List.mem_of_getElem? (i := 1012) (by decide +kernel), List.mem_of_getElem? (i := 1313) (by decide +kernel), List.mem_of_getElem? (i := 1314) (by decide +kernel)⟩
theorem lw_p49 : lw_okq (⟨"WhipCrackModel", "noJoint", "(I)Z"⟩, 60) := ⟨⟨by decide +kernel, by decide +kernel⟩, List.mem_of_getElem? (i := 1012) (by decide +kernel), List.mem_of_getElem? (i := 1321) (by decide +kernel), List.mem_of_getElem? (i := 1322) (by decide +kernel)⟩
theorem lw_p50 : lw_okq (⟨"WhipCrackModel", "toss", "(I)V"⟩, 60) := ⟨⟨by decide +kernel, by decide +kernel⟩, List.mem_of_getElem? (i := 1012) (by decide +kernel), List.mem_of_getElem? (i := 1325) (by decide +kernel), List.mem_of_getElem? (i := 1326) (by decide +kernel)⟩
theorem lw_p51 : lw_okq (⟨"WhipCrackModel", "goOn", "(II)V"⟩, 60) := ⟨⟨by decide +kernel, by decide +kernel⟩, List.mem_of_getElem? (i := 1012) (by decide +kernel), List.mem_of_getElem? (i := 1332) (by decide +kernel), List.mem_of_getElem? (i := 1333) (by decide +kernel)⟩
theorem lw_p52 : lw_okq (⟨"WhipCrackModel", "bend", "(II)V"⟩, 60) := ⟨⟨by decide +kernel, by decide +kernel⟩, List.mem_of_getElem? (i := 1012) (by decide +kernel), List.mem_of_getElem? (i := 1345) (by decide +kernel), List.mem_of_getElem? (i := 1346) (by decide +kernel)⟩
theorem lw_p53 : lw_okq (⟨"WhipCrackModel", "pull", "(II)V"⟩, 60) := ⟨⟨by decide +kernel, by decide +kernel⟩, List.mem_of_getElem? (i := 1012) (by decide +kernel), List.mem_of_getElem? (i := 1349) (by decide +kernel), List.mem_of_getElem? (i := 1350) (by decide +kernel)⟩
theorem lw_p54 : lw_okq (⟨"WhipCrackModel", "hold", "(II)V"⟩, 60) := ⟨⟨by decide +kernel, by decide +kernel⟩, List.mem_of_getElem? (i := 1012) (by decide +kernel), List.mem_of_getElem? (i := 1353) (by decide +kernel), List.mem_of_getElem? (i := 1354) (by decide +kernel)⟩
theorem lw_p55 : lw_okq (⟨"WhipCrackModel", "speedOf", "(II)J"⟩, 60) := ⟨⟨by decide +kernel, by decide +kernel⟩, List.mem_of_getElem? (i := 1012) (by decide +kernel), List.mem_of_getElem? (i := 1361) (by decide +kernel), List.mem_of_getElem? (i := 1362) (by decide +kernel)⟩
theorem lw_p56 : lw_okq (⟨"WhipCrackModel", "forceOf", "(II)J"⟩, 60) := ⟨⟨by decide +kernel, by decide +kernel⟩, List.mem_of_getElem? (i := 1012) (by decide +kernel), List.mem_of_getElem? (i := 1370) (by decide +kernel), List.mem_of_getElem? (i := 1371) (by decide +kernel)⟩
theorem lw_p57 : lw_okq (⟨"WhipCrackModel", "loopOf", "(I)I"⟩, 60) := ⟨⟨by decide +kernel, by decide +kernel⟩, List.mem_of_getElem? (i := 1012) (by decide +kernel), List.mem_of_getElem? (i := 1378) (by decide +kernel), List.mem_of_getElem? (i := 1379) (by decide +kernel)⟩
theorem lw_p58 : lw_okq (⟨"WhipCrackModel", "findCracks", "()V"⟩, 60) := ⟨⟨by decide +kernel, by decide +kernel⟩, List.mem_of_getElem? (i := 1012) (by decide +kernel), List.mem_of_getElem? (i := 1387) (by decide +kernel), List.mem_of_getElem? (i := 1388) (by decide +kernel)⟩
theorem lw_p59 : lw_okq (⟨"WhipCrackModel", "farOf", "(I)I"⟩, 60) := ⟨⟨by decide +kernel, by decide +kernel⟩, List.mem_of_getElem? (i := 1012) (by decide +kernel), List.mem_of_getElem? (i := 1391) (by decide +kernel), List.mem_of_getElem? (i := 1392) (by decide +kernel)⟩
theorem lw_p60 : lw_okq (⟨"WhipCrackModel", "ofWhat", "(I)I"⟩, 60) := ⟨⟨by decide +kernel, by decide +kernel⟩, List.mem_of_getElem? (i := 1012) (by decide +kernel), List.mem_of_getElem? (i := 1395) (by decide +kernel), List.mem_of_getElem? (i := 1396) (by decide +kernel)⟩
theorem lw_p61 : lw_okq (⟨"WhipCrackModel", "turnsOf", "()I"⟩, 60) := ⟨⟨by decide +kernel, by decide +kernel⟩, List.mem_of_getElem? (i := 1012) (by decide +kernel), List.mem_of_getElem? (i := 1403) (by decide +kernel), List.mem_of_getElem? (i := 1404) (by decide +kernel)⟩
theorem lw_p62 : lw_okq (⟨"WhipCrackModel", "isOverhead", "()Z"⟩, 60) := ⟨⟨by decide +kernel, by decide +kernel⟩, List.mem_of_getElem? (i := 1012) (by decide +kernel), List.mem_of_getElem? (i := 1410) (by decide +kernel), List.mem_of_getElem? (i := 1411) (by decide +kernel)⟩
theorem lw_p63 : lw_okq (⟨"WhipCrackModel", "hasLoop", "()Z"⟩, 60) := ⟨⟨by decide +kernel, by decide +kernel⟩, List.mem_of_getElem? (i := 1012) (by decide +kernel), List.mem_of_getElem? (i := 1414) (by decide +kernel), List.mem_of_getElem? (i := 1415) (by decide +kernel)⟩
def lw_privs_4 : List (MethodName × Nat) := [(⟨"WhipCrackModel", "allStrands", "()I"⟩, 60), (⟨"WhipCrackModel", "noJoint", "(I)Z"⟩, 60), (⟨"WhipCrackModel", "toss", "(I)V"⟩, 60), (⟨"WhipCrackModel", "goOn", "(II)V"⟩, 60), (⟨"WhipCrackModel", "bend", "(II)V"⟩, 60), (⟨"WhipCrackModel", "pull", "(II)V"⟩, 60), (⟨"WhipCrackModel", "hold", "(II)V"⟩, 60), (⟨"WhipCrackModel", "speedOf", "(II)J"⟩, 60), (⟨"WhipCrackModel", "forceOf", "(II)J"⟩, 60), (⟨"WhipCrackModel", "loopOf", "(I)I"⟩, 60), (⟨"WhipCrackModel", "findCracks", "()V"⟩, 60), (⟨"WhipCrackModel", "farOf", "(I)I"⟩, 60), (⟨"WhipCrackModel", "ofWhat", "(I)I"⟩, 60), (⟨"WhipCrackModel", "turnsOf", "()I"⟩, 60), (⟨"WhipCrackModel", "isOverhead", "()Z"⟩, 60), (⟨"WhipCrackModel", "hasLoop", "()Z"⟩, 60)]
theorem lw_r4 : ∀ q ∈ lw_privs_4, lw_okq q := List.forall_mem_cons.mpr ⟨lw_p48, List.forall_mem_cons.mpr ⟨lw_p49, List.forall_mem_cons.mpr ⟨lw_p50, List.forall_mem_cons.mpr ⟨lw_p51, List.forall_mem_cons.mpr ⟨lw_p52, List.forall_mem_cons.mpr ⟨lw_p53, List.forall_mem_cons.mpr ⟨lw_p54, List.forall_mem_cons.mpr ⟨lw_p55, List.forall_mem_cons.mpr ⟨lw_p56, List.forall_mem_cons.mpr ⟨lw_p57, List.forall_mem_cons.mpr ⟨lw_p58, List.forall_mem_cons.mpr ⟨lw_p59, List.forall_mem_cons.mpr ⟨lw_p60, List.forall_mem_cons.mpr ⟨lw_p61, List.forall_mem_cons.mpr ⟨lw_p62, List.forall_mem_cons.mpr ⟨lw_p63, fun _ h => absurd h List.not_mem_nil⟩⟩⟩⟩⟩⟩⟩⟩⟩⟩⟩⟩⟩⟩⟩⟩
theorem lw_p64 : lw_okq (⟨"WhipCrackModel", "greatestSpeed", "()J"⟩, 60) := ⟨⟨by decide +kernel, by decide +kernel⟩, List.mem_of_getElem? (i := 1012) (by decide +kernel), List.mem_of_getElem? (i := 1448) (by decide +kernel), List.mem_of_getElem? (i := 1449) (by decide +kernel)⟩
theorem lw_p65 : lw_okq (⟨"WhipCrackModel", "farFrom", "(IIII)J"⟩, 60) := ⟨⟨by decide +kernel, by decide +kernel⟩, List.mem_of_getElem? (i := 1012) (by decide +kernel), List.mem_of_getElem? (i := 1456) (by decide +kernel), List.mem_of_getElem? (i := 1457) (by decide +kernel)⟩
theorem lw_p66 : lw_okq (⟨"WhipCrackModel", "aloneBy", "(II)J"⟩, 60) := ⟨⟨by decide +kernel, by decide +kernel⟩, List.mem_of_getElem? (i := 1012) (by decide +kernel), List.mem_of_getElem? (i := 1464) (by decide +kernel), List.mem_of_getElem? (i := 1465) (by decide +kernel)⟩
theorem lw_p67 : lw_okq (⟨"WhipCrackModel", "tossBoth", "(II)V"⟩, 60) := ⟨⟨by decide +kernel, by decide +kernel⟩, List.mem_of_getElem? (i := 1012) (by decide +kernel), List.mem_of_getElem? (i := 1481) (by decide +kernel), List.mem_of_getElem? (i := 1482) (by decide +kernel)⟩
theorem lw_p68 : lw_okq (⟨"WhipCrackModel", "closeBy", "(I)I"⟩, 60) := ⟨⟨by decide +kernel, by decide +kernel⟩, List.mem_of_getElem? (i := 1012) (by decide +kernel), List.mem_of_getElem? (i := 1485) (by decide +kernel), List.mem_of_getElem? (i := 1486) (by decide +kernel)⟩
theorem lw_p69 : lw_okq (⟨"WhipCrackModel", "wearOnce", "()I"⟩, 60) := ⟨⟨by decide +kernel, by decide +kernel⟩, List.mem_of_getElem? (i := 1012) (by decide +kernel), List.mem_of_getElem? (i := 1500) (by decide +kernel), List.mem_of_getElem? (i := 1501) (by decide +kernel)⟩
theorem lw_p70 : lw_okq (⟨"WhipCrackModel", "canCut", "(I)Z"⟩, 60) := ⟨⟨by decide +kernel, by decide +kernel⟩, List.mem_of_getElem? (i := 1012) (by decide +kernel), List.mem_of_getElem? (i := 1529) (by decide +kernel), List.mem_of_getElem? (i := 1530) (by decide +kernel)⟩
theorem lw_p71 : lw_okq (⟨"WhipCrackModel", "sumOf", "(I)I"⟩, 60) := ⟨⟨by decide +kernel, by decide +kernel⟩, List.mem_of_getElem? (i := 1012) (by decide +kernel), List.mem_of_getElem? (i := 1533) (by decide +kernel), List.mem_of_getElem? (i := 1534) (by decide +kernel)⟩
def lw_privs_5 : List (MethodName × Nat) := [(⟨"WhipCrackModel", "greatestSpeed", "()J"⟩, 60), (⟨"WhipCrackModel", "farFrom", "(IIII)J"⟩, 60), (⟨"WhipCrackModel", "aloneBy", "(II)J"⟩, 60), (⟨"WhipCrackModel", "tossBoth", "(II)V"⟩, 60), (⟨"WhipCrackModel", "closeBy", "(I)I"⟩, 60), (⟨"WhipCrackModel", "wearOnce", "()I"⟩, 60), (⟨"WhipCrackModel", "canCut", "(I)Z"⟩, 60), (⟨"WhipCrackModel", "sumOf", "(I)I"⟩, 60)]
theorem lw_r5 : ∀ q ∈ lw_privs_5, lw_okq q := List.forall_mem_cons.mpr ⟨lw_p64, List.forall_mem_cons.mpr ⟨lw_p65, List.forall_mem_cons.mpr ⟨lw_p66, List.forall_mem_cons.mpr ⟨lw_p67, List.forall_mem_cons.mpr ⟨lw_p68, List.forall_mem_cons.mpr ⟨lw_p69, List.forall_mem_cons.mpr ⟨lw_p70, List.forall_mem_cons.mpr ⟨lw_p71, fun _ h => absurd h List.not_mem_nil⟩⟩⟩⟩⟩⟩⟩⟩
def lw_privs : List (MethodName × Nat) := lw_privs_1 ++ (lw_privs_2 ++ (lw_privs_3 ++ (lw_privs_4 ++ (lw_privs_5))))
def lw_tbl : List Cond := k2_sels lw_privs ++ tables_1
theorem lw_privs_ok : ∀ q ∈ lw_privs, lw_okq q := by
  show ∀ q ∈ lw_privs_1 ++ (lw_privs_2 ++ (lw_privs_3 ++ (lw_privs_4 ++ (lw_privs_5)))), lw_okq q
  exact List.forall_mem_append.mpr ⟨lw_r1, List.forall_mem_append.mpr ⟨lw_r2, List.forall_mem_append.mpr ⟨lw_r3, List.forall_mem_append.mpr ⟨lw_r4, lw_r5⟩⟩⟩⟩
end
section
def RX0 : String := "WhipCrack$Film"
def TX0 : u_T := fun k => match k with
  | 0 => ("WhipCrack$Film", "size", "I", false)
  | 1 => ("WhipCrack$Film", "xs", "[I", true)
  | _ => ("WhipCrack$Film", "ys", "[I", true)
def tyX0 : Nat → FieldType := fun k => match k with
  | 0 => .int
  | 1 => .array .int
  | _ => .array .int
abbrev wsX00 : List Cond := u_ws RX0 TX0 3
theorem nmX0 : ∀ a, a < 3 → ∀ b, b < 3 → a ≠ b → (TX0 a).2.1 ≠ (TX0 b).2.1 := by decide +kernel
theorem tyX0_ok : ∀ k, k < 3 → parseFieldDescriptor (TX0 k).2.2.1 = some (tyX0 k) := by decide +kernel
abbrev cX0_init : ByteArray := prog_2_method_1_code
def yX0_init : MethodName := ⟨RX0, "<init>", "()V"⟩
abbrev cX0_append : ByteArray := prog_2_method_2_code
def yX0_append : MethodName := ⟨RX0, "append", "(II)I"⟩
abbrev cX0_distance : ByteArray := prog_2_method_3_code
def yX0_distance : MethodName := ⟨RX0, "distance", "(LWhipCrack$Flight;)I"⟩
def RX1 : String := "WhipCrack$Flight"
def TX1 : u_T := fun k => match k with
  | 0 => ("WhipCrack$Flight", "tip", "I", false)
  | 1 => ("WhipCrack$Flight", "ticks", "I", false)
  | 2 => ("WhipCrack$Flight", "pace", "I", false)
  | 3 => ("WhipCrack$Flight", "length", "I", false)
  | 4 => ("WhipCrack$Flight", "xs", "[I", true)
  | 5 => ("WhipCrack$Flight", "ys", "[I", true)
  | 6 => ("WhipCrack$Flight", "weights", "[I", true)
  | _ => ("WhipCrack$Flight", "bends", "[I", true)
def tyX1 : Nat → FieldType := fun k => match k with
  | 0 => .int
  | 1 => .int
  | 2 => .int
  | 3 => .int
  | 4 => .array .int
  | 5 => .array .int
  | 6 => .array .int
  | _ => .array .int
abbrev wsX10 : List Cond := u_ws RX1 TX1 8
theorem nmX1 : ∀ a, a < 8 → ∀ b, b < 8 → a ≠ b → (TX1 a).2.1 ≠ (TX1 b).2.1 := by decide +kernel
theorem tyX1_ok : ∀ k, k < 8 → parseFieldDescriptor (TX1 k).2.2.1 = some (tyX1 k) := by decide +kernel
abbrev cX1_init : ByteArray := prog_3_method_1_code
def yX1_init : MethodName := ⟨RX1, "<init>", "()V"⟩
abbrev cX1_fly : ByteArray := prog_3_method_2_code
def yX1_fly : MethodName := ⟨RX1, "fly", "(LWhipCrack$Plait;LWhipCrack$Way;[II)V"⟩
abbrev cX1_rest : ByteArray := prog_3_method_3_code
def yX1_rest : MethodName := ⟨RX1, "rest", "()V"⟩
abbrev cX1_goOn : ByteArray := prog_3_method_4_code
def yX1_goOn : MethodName := ⟨RX1, "goOn", "(III)V"⟩
abbrev cX1_bend : ByteArray := prog_3_method_5_code
def yX1_bend : MethodName := ⟨RX1, "bend", "(I)V"⟩
abbrev cX1_pull : ByteArray := prog_3_method_6_code
def yX1_pull : MethodName := ⟨RX1, "pull", "(I)Z"⟩
abbrev cX1_pullBoth : ByteArray := prog_3_method_7_code
def yX1_pullBoth : MethodName := ⟨RX1, "pullBoth", "(IIJJJ)V"⟩
abbrev cX1_shorten : ByteArray := prog_3_method_8_code
def yX1_shorten : MethodName := ⟨RX1, "shorten", "(I)V"⟩
abbrev cX1_lengthIfStretched : ByteArray := prog_3_method_9_code
def yX1_lengthIfStretched : MethodName := ⟨RX1, "lengthIfStretched", "(JJ)J"⟩
abbrev cX1_xOf : ByteArray := prog_3_method_10_code
def yX1_xOf : MethodName := ⟨RX1, "xOf", "(II)I"⟩
abbrev cX1_yOf : ByteArray := prog_3_method_11_code
def yX1_yOf : MethodName := ⟨RX1, "yOf", "(II)I"⟩
abbrev cX1_moved : ByteArray := prog_3_method_12_code
def yX1_moved : MethodName := ⟨RX1, "moved", "(II)J"⟩
abbrev cX1_squares : ByteArray := prog_3_method_13_code
def yX1_squares : MethodName := ⟨RX1, "squares", "(JJ)J"⟩
abbrev cX1_speedOf : ByteArray := prog_3_method_14_code
def yX1_speedOf : MethodName := ⟨RX1, "speedOf", "(II)I"⟩
abbrev cX1_forceOf : ByteArray := prog_3_method_15_code
def yX1_forceOf : MethodName := ⟨RX1, "forceOf", "(II)J"⟩
abbrev cX1_forceOfAll : ByteArray := prog_3_method_16_code
def yX1_forceOfAll : MethodName := ⟨RX1, "forceOfAll", "(I)J"⟩
abbrev cX1_pathOf : ByteArray := prog_3_method_17_code
def yX1_pathOf : MethodName := ⟨RX1, "pathOf", "(I)I"⟩
abbrev cX1_greatestSpeed : ByteArray := prog_3_method_18_code
def yX1_greatestSpeed : MethodName := ⟨RX1, "greatestSpeed", "()I"⟩
abbrev cX1_loopOf : ByteArray := prog_3_method_19_code
def yX1_loopOf : MethodName := ⟨RX1, "loopOf", "(I)I"⟩
abbrev cX1_hasLoop : ByteArray := prog_3_method_20_code
def yX1_hasLoop : MethodName := ⟨RX1, "hasLoop", "()Z"⟩
abbrev cX1_isOverhead : ByteArray := prog_3_method_21_code
def yX1_isOverhead : MethodName := ⟨RX1, "isOverhead", "()Z"⟩
abbrev cX1_isFast : ByteArray := prog_3_method_22_code
def yX1_isFast : MethodName := ⟨RX1, "isFast", "(II)Z"⟩
abbrev cX1_isCrack : ByteArray := prog_3_method_23_code
def yX1_isCrack : MethodName := ⟨RX1, "isCrack", "(II)Z"⟩
abbrev cX1_crackCount : ByteArray := prog_3_method_24_code
def yX1_crackCount : MethodName := ⟨RX1, "crackCount", "()I"⟩
abbrev cX1_findCrack : ByteArray := prog_3_method_25_code
def yX1_findCrack : MethodName := ⟨RX1, "findCrack", "(I)I"⟩
abbrev cX1_hasCrack : ByteArray := prog_3_method_26_code
def yX1_hasCrack : MethodName := ⟨RX1, "hasCrack", "(I)Z"⟩
abbrev cX1_firstCrackTick : ByteArray := prog_3_method_27_code
def yX1_firstCrackTick : MethodName := ⟨RX1, "firstCrackTick", "()I"⟩
abbrev cX1_lastCrackTick : ByteArray := prog_3_method_28_code
def yX1_lastCrackTick : MethodName := ⟨RX1, "lastCrackTick", "()I"⟩
abbrev cX1_crackOf : ByteArray := prog_3_method_29_code
def yX1_crackOf : MethodName := ⟨RX1, "crackOf", "(II)I"⟩
abbrev cX1_loudOf : ByteArray := prog_3_method_30_code
def yX1_loudOf : MethodName := ⟨RX1, "loudOf", "(III)I"⟩
abbrev cX1_farOf : ByteArray := prog_3_method_31_code
def yX1_farOf : MethodName := ⟨RX1, "farOf", "(IIII)I"⟩
abbrev cX1_leastCrackFar : ByteArray := prog_3_method_32_code
def yX1_leastCrackFar : MethodName := ⟨RX1, "leastCrackFar", "(II)I"⟩
abbrev cX1_leastFar : ByteArray := prog_3_method_33_code
def yX1_leastFar : MethodName := ⟨RX1, "leastFar", "(II)I"⟩
abbrev cX1_nearestTick : ByteArray := prog_3_method_34_code
def yX1_nearestTick : MethodName := ⟨RX1, "nearestTick", "(IIII)I"⟩
abbrev cX1_leastFarOfTwo : ByteArray := prog_3_method_35_code
def yX1_leastFarOfTwo : MethodName := ⟨RX1, "leastFarOfTwo", "(LWhipCrack$Flight;II)I"⟩
abbrev cX1_turnsAbout : ByteArray := prog_3_method_36_code
def yX1_turnsAbout : MethodName := ⟨RX1, "turnsAbout", "(II)I"⟩
abbrev cX1_quarterOf : ByteArray := prog_3_method_37_code
def yX1_quarterOf : MethodName := ⟨RX1, "quarterOf", "(III)I"⟩
def RX2 : String := "WhipCrack$Hides"
def TX2 : u_T := fun k => match k with
  | 0 => ("WhipCrack$Hides", "hideCount", "I", false)
  | 1 => ("WhipCrack$Hides", "cutCount", "I", false)
  | 2 => ("WhipCrack$Hides", "hides", "[I", true)
  | 3 => ("WhipCrack$Hides", "cuts", "[I", true)
  | _ => ("WhipCrack$Hides", "reached", "[I", true)
def tyX2 : Nat → FieldType := fun k => match k with
  | 0 => .int
  | 1 => .int
  | 2 => .array .int
  | 3 => .array .int
  | _ => .array .int
abbrev wsX20 : List Cond := u_ws RX2 TX2 5
theorem nmX2 : ∀ a, a < 5 → ∀ b, b < 5 → a ≠ b → (TX2 a).2.1 ≠ (TX2 b).2.1 := by decide +kernel
theorem tyX2_ok : ∀ k, k < 5 → parseFieldDescriptor (TX2 k).2.2.1 = some (tyX2 k) := by decide +kernel
abbrev cX2_init : ByteArray := prog_4_method_1_code
def yX2_init : MethodName := ⟨RX2, "<init>", "()V"⟩
abbrev cX2_addHide : ByteArray := prog_4_method_2_code
def yX2_addHide : MethodName := ⟨RX2, "addHide", "(I)I"⟩
abbrev cX2_addCut : ByteArray := prog_4_method_3_code
def yX2_addCut : MethodName := ⟨RX2, "addCut", "(I)I"⟩
abbrev cX2_fewest : ByteArray := prog_4_method_4_code
def yX2_fewest : MethodName := ⟨RX2, "fewest", "()I"⟩
abbrev cX2_isEnough : ByteArray := prog_4_method_5_code
def yX2_isEnough : MethodName := ⟨RX2, "isEnough", "(I)Z"⟩
abbrev cX2_keepLeast : ByteArray := prog_4_method_6_code
def yX2_keepLeast : MethodName := ⟨RX2, "keepLeast", "(II)V"⟩
abbrev cX2_afterCut : ByteArray := prog_4_method_7_code
def yX2_afterCut : MethodName := ⟨RX2, "afterCut", "(III)I"⟩
def RX3 : String := "WhipCrack$Plait"
def TX3 : u_T := fun k => match k with
  | 0 => ("WhipCrack$Plait", "pieces", "I", false)
  | 1 => ("WhipCrack$Plait", "length", "I", false)
  | 2 => ("WhipCrack$Plait", "strands", "[I", true)
  | 3 => ("WhipCrack$Plait", "stuffs", "[I", true)
  | _ => ("WhipCrack$Plait", "wear", "[I", true)
def tyX3 : Nat → FieldType := fun k => match k with
  | 0 => .int
  | 1 => .int
  | 2 => .array .int
  | 3 => .array .int
  | _ => .array .int
abbrev wsX30 : List Cond := u_ws RX3 TX3 5
theorem nmX3 : ∀ a, a < 5 → ∀ b, b < 5 → a ≠ b → (TX3 a).2.1 ≠ (TX3 b).2.1 := by decide +kernel
theorem tyX3_ok : ∀ k, k < 5 → parseFieldDescriptor (TX3 k).2.2.1 = some (tyX3 k) := by decide +kernel
abbrev cX3_init : ByteArray := prog_5_method_1_code
def yX3_init : MethodName := ⟨RX3, "<init>", "()V"⟩
abbrev cX3_copyFrom : ByteArray := prog_5_method_2_code
def yX3_copyFrom : MethodName := ⟨RX3, "copyFrom", "(LWhipCrack$Plait;)V"⟩
abbrev cX3_addPieces : ByteArray := prog_5_method_3_code
def yX3_addPieces : MethodName := ⟨RX3, "addPieces", "(III)V"⟩
abbrev cX3_weightOf : ByteArray := prog_5_method_4_code
def yX3_weightOf : MethodName := ⟨RX3, "weightOf", "(I)I"⟩
abbrev cX3_bendsOf : ByteArray := prog_5_method_5_code
def yX3_bendsOf : MethodName := ⟨RX3, "bendsOf", "(I)I"⟩
abbrev cX3_strandsInAll : ByteArray := prog_5_method_6_code
def yX3_strandsInAll : MethodName := ⟨RX3, "strandsInAll", "()I"⟩
abbrev cX3_loseWorn : ByteArray := prog_5_method_7_code
def yX3_loseWorn : MethodName := ⟨RX3, "loseWorn", "(I)I"⟩
def RX4 : String := "WhipCrack$PlaitReader"
def TX4 : u_T := fun k => match k with
  | 0 => ("WhipCrack$PlaitReader", "plait", "LWhipCrack$Plait;", true)
  | _ => ("WhipCrack$PlaitReader", "hasLength", "Z", false)
def tyX4 : Nat → FieldType := fun k => match k with
  | 0 => .object "WhipCrack$Plait"
  | _ => .boolean
abbrev wsX40 : List Cond := u_ws RX4 TX4 2
theorem nmX4 : ∀ a, a < 2 → ∀ b, b < 2 → a ≠ b → (TX4 a).2.1 ≠ (TX4 b).2.1 := by decide +kernel
theorem tyX4_ok : ∀ k, k < 2 → parseFieldDescriptor (TX4 k).2.2.1 = some (tyX4 k) := by decide +kernel
abbrev cX4_init : ByteArray := prog_6_method_1_code
def yX4_init : MethodName := ⟨RX4, "<init>", "()V"⟩
abbrev cX4_read : ByteArray := prog_6_method_2_code
def yX4_read : MethodName := ⟨RX4, "read", "(LWhipCrack$Text;)V"⟩
abbrev cX4_readClause : ByteArray := prog_6_method_3_code
def yX4_readClause : MethodName := ⟨RX4, "readClause", "(LWhipCrack$Text;)V"⟩
abbrev cX4_readLength : ByteArray := prog_6_method_4_code
def yX4_readLength : MethodName := ⟨RX4, "readLength", "(LWhipCrack$Text;)V"⟩
abbrev cX4_readPieces : ByteArray := prog_6_method_5_code
def yX4_readPieces : MethodName := ⟨RX4, "readPieces", "(LWhipCrack$Text;)V"⟩
def RX5 : String := "WhipCrack$Search"
def TX5 : u_T := fun k => match k with
  | 0 => ("WhipCrack$Search", "most", "I", false)
  | 1 => ("WhipCrack$Search", "bestSpeed", "I", false)
  | 2 => ("WhipCrack$Search", "best", "[I", true)
  | 3 => ("WhipCrack$Search", "row", "[I", true)
  | _ => ("WhipCrack$Search", "plait", "LWhipCrack$Plait;", true)
def tyX5 : Nat → FieldType := fun k => match k with
  | 0 => .int
  | 1 => .int
  | 2 => .array .int
  | 3 => .array .int
  | _ => .object "WhipCrack$Plait"
abbrev wsX50 : List Cond := u_ws RX5 TX5 5
theorem nmX5 : ∀ a, a < 5 → ∀ b, b < 5 → a ≠ b → (TX5 a).2.1 ≠ (TX5 b).2.1 := by decide +kernel
theorem tyX5_ok : ∀ k, k < 5 → parseFieldDescriptor (TX5 k).2.2.1 = some (tyX5 k) := by decide +kernel
abbrev cX5_init : ByteArray := prog_7_method_1_code
def yX5_init : MethodName := ⟨RX5, "<init>", "()V"⟩
abbrev cX5_run : ByteArray := prog_7_method_2_code
def yX5_run : MethodName := ⟨RX5, "run", "(LWhipCrack$Setup;LWhipCrack$Flight;II)V"⟩
abbrev cX5_layRow : ByteArray := prog_7_method_3_code
def yX5_layRow : MethodName := ⟨RX5, "layRow", "()V"⟩
abbrev cX5_compare : ByteArray := prog_7_method_4_code
def yX5_compare : MethodName := ⟨RX5, "compare", "(I)V"⟩
abbrev cX5_nextRow : ByteArray := prog_7_method_5_code
def yX5_nextRow : MethodName := ⟨RX5, "nextRow", "()Z"⟩
def RX6 : String := "WhipCrack$Setup"
def TX6 : u_T := fun k => match k with
  | 0 => ("WhipCrack$Setup", "plait", "LWhipCrack$Plait;", true)
  | 1 => ("WhipCrack$Setup", "way", "LWhipCrack$Way;", true)
  | 2 => ("WhipCrack$Setup", "laws", "[I", true)
  | _ => ("WhipCrack$Setup", "isKept", "Z", false)
def tyX6 : Nat → FieldType := fun k => match k with
  | 0 => .object "WhipCrack$Plait"
  | 1 => .object "WhipCrack$Way"
  | 2 => .array .int
  | _ => .boolean
abbrev wsX60 : List Cond := u_ws RX6 TX6 4
theorem nmX6 : ∀ a, a < 4 → ∀ b, b < 4 → a ≠ b → (TX6 a).2.1 ≠ (TX6 b).2.1 := by decide +kernel
theorem tyX6_ok : ∀ k, k < 4 → parseFieldDescriptor (TX6 k).2.2.1 = some (tyX6 k) := by decide +kernel
abbrev cX6_init : ByteArray := prog_8_method_1_code
def yX6_init : MethodName := ⟨RX6, "<init>", "()V"⟩
abbrev cX6_copyFrom : ByteArray := prog_8_method_2_code
def yX6_copyFrom : MethodName := ⟨RX6, "copyFrom", "(LWhipCrack$Setup;)V"⟩
def RX7 : String := "WhipCrack$Text"
def TX7 : u_T := fun k => match k with
  | 0 => ("WhipCrack$Text", "bytes", "[I", true)
  | 1 => ("WhipCrack$Text", "size", "I", false)
  | 2 => ("WhipCrack$Text", "at", "I", false)
  | 3 => ("WhipCrack$Text", "numberAt", "I", false)
  | 4 => ("WhipCrack$Text", "faultKind", "I", false)
  | _ => ("WhipCrack$Text", "faultAt", "I", false)
def tyX7 : Nat → FieldType := fun k => match k with
  | 0 => .array .int
  | 1 => .int
  | 2 => .int
  | 3 => .int
  | 4 => .int
  | _ => .int
abbrev wsX70 : List Cond := u_ws RX7 TX7 6
theorem nmX7 : ∀ a, a < 6 → ∀ b, b < 6 → a ≠ b → (TX7 a).2.1 ≠ (TX7 b).2.1 := by decide +kernel
theorem tyX7_ok : ∀ k, k < 6 → parseFieldDescriptor (TX7 k).2.2.1 = some (tyX7 k) := by decide +kernel
abbrev cX7_init : ByteArray := prog_9_method_1_code
def yX7_init : MethodName := ⟨RX7, "<init>", "()V"⟩
abbrev cX7_append : ByteArray := prog_9_method_2_code
def yX7_append : MethodName := ⟨RX7, "append", "(IJ)V"⟩
abbrev cX7_begin : ByteArray := prog_9_method_3_code
def yX7_begin : MethodName := ⟨RX7, "begin", "()V"⟩
abbrev cX7_blame : ByteArray := prog_9_method_4_code
def yX7_blame : MethodName := ⟨RX7, "blame", "(II)V"⟩
abbrev cX7_isFine : ByteArray := prog_9_method_5_code
def yX7_isFine : MethodName := ⟨RX7, "isFine", "()Z"⟩
abbrev cX7_next : ByteArray := prog_9_method_6_code
def yX7_next : MethodName := ⟨RX7, "next", "()I"⟩
abbrev cX7_takesSign : ByteArray := prog_9_method_7_code
def yX7_takesSign : MethodName := ⟨RX7, "takesSign", "(C)Z"⟩
abbrev cX7_needSign : ByteArray := prog_9_method_8_code
def yX7_needSign : MethodName := ⟨RX7, "needSign", "(C)V"⟩
abbrev cX7_isWord : ByteArray := prog_9_method_9_code
def yX7_isWord : MethodName := ⟨RX7, "isWord", "(Ljava/lang/String;)Z"⟩
abbrev cX7_takesWord : ByteArray := prog_9_method_10_code
def yX7_takesWord : MethodName := ⟨RX7, "takesWord", "(Ljava/lang/String;)Z"⟩
abbrev cX7_needWord : ByteArray := prog_9_method_11_code
def yX7_needWord : MethodName := ⟨RX7, "needWord", "(Ljava/lang/String;)V"⟩
abbrev cX7_needNumber : ByteArray := prog_9_method_12_code
def yX7_needNumber : MethodName := ⟨RX7, "needNumber", "(II)I"⟩
abbrev cX7_needMove : ByteArray := prog_9_method_13_code
def yX7_needMove : MethodName := ⟨RX7, "needMove", "()I"⟩
abbrev cX7_readFigures : ByteArray := prog_9_method_14_code
def yX7_readFigures : MethodName := ⟨RX7, "readFigures", "(II)I"⟩
abbrev cX7_isLetter : ByteArray := prog_9_method_15_code
def yX7_isLetter : MethodName := ⟨RX7, "isLetter", "(I)Z"⟩
abbrev cX7_isFigure : ByteArray := prog_9_method_16_code
def yX7_isFigure : MethodName := ⟨RX7, "isFigure", "(I)Z"⟩
def RX8 : String := "WhipCrack$Way"
def TX8 : u_T := fun k => match k with
  | 0 => ("WhipCrack$Way", "ticks", "I", false)
  | 1 => ("WhipCrack$Way", "steps", "I", false)
  | 2 => ("WhipCrack$Way", "xs", "[I", true)
  | _ => ("WhipCrack$Way", "ys", "[I", true)
def tyX8 : Nat → FieldType := fun k => match k with
  | 0 => .int
  | 1 => .int
  | 2 => .array .int
  | _ => .array .int
abbrev wsX80 : List Cond := u_ws RX8 TX8 4
theorem nmX8 : ∀ a, a < 4 → ∀ b, b < 4 → a ≠ b → (TX8 a).2.1 ≠ (TX8 b).2.1 := by decide +kernel
theorem tyX8_ok : ∀ k, k < 4 → parseFieldDescriptor (TX8 k).2.2.1 = some (tyX8 k) := by decide +kernel
abbrev cX8_init : ByteArray := prog_10_method_1_code
def yX8_init : MethodName := ⟨RX8, "<init>", "()V"⟩
abbrev cX8_copyFrom : ByteArray := prog_10_method_2_code
def yX8_copyFrom : MethodName := ⟨RX8, "copyFrom", "(LWhipCrack$Way;)V"⟩
abbrev cX8_addStep : ByteArray := prog_10_method_3_code
def yX8_addStep : MethodName := ⟨RX8, "addStep", "(III)V"⟩
def RX9 : String := "WhipCrack$WayReader"
def TX9 : u_T := fun k => match k with
  | 0 => ("WhipCrack$WayReader", "xs", "[I", true)
  | 1 => ("WhipCrack$WayReader", "ys", "[I", true)
  | 2 => ("WhipCrack$WayReader", "ts", "[I", true)
  | 3 => ("WhipCrack$WayReader", "steps", "I", false)
  | 4 => ("WhipCrack$WayReader", "ticks", "I", false)
  | 5 => ("WhipCrack$WayReader", "times", "[I", true)
  | 6 => ("WhipCrack$WayReader", "stepsAhead", "[I", true)
  | 7 => ("WhipCrack$WayReader", "ticksAhead", "[I", true)
  | 8 => ("WhipCrack$WayReader", "depth", "I", false)
  | _ => ("WhipCrack$WayReader", "hasClause", "Z", false)
def tyX9 : Nat → FieldType := fun k => match k with
  | 0 => .array .int
  | 1 => .array .int
  | 2 => .array .int
  | 3 => .int
  | 4 => .int
  | 5 => .array .int
  | 6 => .array .int
  | 7 => .array .int
  | 8 => .int
  | _ => .boolean
abbrev wsX90 : List Cond := u_ws RX9 TX9 10
theorem nmX9 : ∀ a, a < 10 → ∀ b, b < 10 → a ≠ b → (TX9 a).2.1 ≠ (TX9 b).2.1 := by decide +kernel
theorem tyX9_ok : ∀ k, k < 10 → parseFieldDescriptor (TX9 k).2.2.1 = some (tyX9 k) := by decide +kernel
abbrev cX9_init : ByteArray := prog_11_method_1_code
def yX9_init : MethodName := ⟨RX9, "<init>", "()V"⟩
abbrev cX9_read : ByteArray := prog_11_method_2_code
def yX9_read : MethodName := ⟨RX9, "read", "(LWhipCrack$Text;)V"⟩
abbrev cX9_layInto : ByteArray := prog_11_method_3_code
def yX9_layInto : MethodName := ⟨RX9, "layInto", "(LWhipCrack$Way;)V"⟩
abbrev cX9_readPart : ByteArray := prog_11_method_4_code
def yX9_readPart : MethodName := ⟨RX9, "readPart", "(LWhipCrack$Text;)V"⟩
abbrev cX9_readGo : ByteArray := prog_11_method_5_code
def yX9_readGo : MethodName := ⟨RX9, "readGo", "(LWhipCrack$Text;)V"⟩
abbrev cX9_openTimes : ByteArray := prog_11_method_6_code
def yX9_openTimes : MethodName := ⟨RX9, "openTimes", "(LWhipCrack$Text;)V"⟩
abbrev cX9_closeTimes : ByteArray := prog_11_method_7_code
def yX9_closeTimes : MethodName := ⟨RX9, "closeTimes", "()V"⟩
abbrev cX9_copyStep : ByteArray := prog_11_method_8_code
def yX9_copyStep : MethodName := ⟨RX9, "copyStep", "(I)V"⟩
abbrev cX9_addStep : ByteArray := prog_11_method_9_code
def yX9_addStep : MethodName := ⟨RX9, "addStep", "(III)V"⟩
def RX10 : String := "WhipCrack"
def TX10 : u_T := fun k => match k with
  | 0 => ("WhipCrack", "now", "LWhipCrack$Setup;", true)
  | 1 => ("WhipCrack", "image0", "LWhipCrack$Setup;", true)
  | 2 => ("WhipCrack", "image1", "LWhipCrack$Setup;", true)
  | 3 => ("WhipCrack", "text", "LWhipCrack$Text;", true)
  | 4 => ("WhipCrack", "plaitReader", "LWhipCrack$PlaitReader;", true)
  | 5 => ("WhipCrack", "wayReader", "LWhipCrack$WayReader;", true)
  | 6 => ("WhipCrack", "flight", "LWhipCrack$Flight;", true)
  | 7 => ("WhipCrack", "other", "LWhipCrack$Flight;", true)
  | 8 => ("WhipCrack", "search", "LWhipCrack$Search;", true)
  | 9 => ("WhipCrack", "hides", "LWhipCrack$Hides;", true)
  | 10 => ("WhipCrack", "theFilm", "LWhipCrack$Film;", true)
  | 11 => ("WhipCrack", "given", "I", false)
  | 12 => ("WhipCrack", "earX", "I", false)
  | 13 => ("WhipCrack", "earY", "I", false)
  | 14 => ("WhipCrack", "postX", "I", false)
  | 15 => ("WhipCrack", "postY", "I", false)
  | 16 => ("WhipCrack", "faultAt", "I", false)
  | _ => ("WhipCrack", "flown", "Z", false)
def tyX10 : Nat → FieldType := fun k => match k with
  | 0 => .object "WhipCrack$Setup"
  | 1 => .object "WhipCrack$Setup"
  | 2 => .object "WhipCrack$Setup"
  | 3 => .object "WhipCrack$Text"
  | 4 => .object "WhipCrack$PlaitReader"
  | 5 => .object "WhipCrack$WayReader"
  | 6 => .object "WhipCrack$Flight"
  | 7 => .object "WhipCrack$Flight"
  | 8 => .object "WhipCrack$Search"
  | 9 => .object "WhipCrack$Hides"
  | 10 => .object "WhipCrack$Film"
  | 11 => .int
  | 12 => .int
  | 13 => .int
  | 14 => .int
  | 15 => .int
  | 16 => .int
  | _ => .boolean
abbrev wsX100 : List Cond := u_ws RX10 TX10 18
theorem nmX10 : ∀ a, a < 18 → ∀ b, b < 18 → a ≠ b → (TX10 a).2.1 ≠ (TX10 b).2.1 := by decide +kernel
theorem tyX10_ok : ∀ k, k < 18 → parseFieldDescriptor (TX10 k).2.2.1 = some (tyX10 k) := by decide +kernel
abbrev cX10_init : ByteArray := prog_1_method_1_code
def yX10_init : MethodName := ⟨RX10, "<init>", "()V"⟩
abbrev cX10_feed : ByteArray := prog_1_method_2_code
def yX10_feed : MethodName := ⟨RX10, "feed", "(IJ)I"⟩
abbrev cX10_plait : ByteArray := prog_1_method_3_code
def yX10_plait : MethodName := ⟨RX10, "plait", "()I"⟩
abbrev cX10_way : ByteArray := prog_1_method_4_code
def yX10_way : MethodName := ⟨RX10, "way", "()I"⟩
abbrev cX10_fault : ByteArray := prog_1_method_5_code
def yX10_fault : MethodName := ⟨RX10, "fault", "()I"⟩
abbrev cX10_piece : ByteArray := prog_1_method_6_code
def yX10_piece : MethodName := ⟨RX10, "piece", "(II)I"⟩
abbrev cX10_law : ByteArray := prog_1_method_7_code
def yX10_law : MethodName := ⟨RX10, "law", "(II)I"⟩
abbrev cX10_give : ByteArray := prog_1_method_8_code
def yX10_give : MethodName := ⟨RX10, "give", "(I)I"⟩
abbrev cX10_count : ByteArray := prog_1_method_9_code
def yX10_count : MethodName := ⟨RX10, "count", "(I)I"⟩
abbrev cX10_joint : ByteArray := prog_1_method_10_code
def yX10_joint : MethodName := ⟨RX10, "joint", "(III)I"⟩
abbrev cX10_speed : ByteArray := prog_1_method_11_code
def yX10_speed : MethodName := ⟨RX10, "speed", "(II)I"⟩
abbrev cX10_force : ByteArray := prog_1_method_12_code
def yX10_force : MethodName := ⟨RX10, "force", "(II)J"⟩
abbrev cX10_loop : ByteArray := prog_1_method_13_code
def yX10_loop : MethodName := ⟨RX10, "loop", "(I)I"⟩
abbrev cX10_crack : ByteArray := prog_1_method_14_code
def yX10_crack : MethodName := ⟨RX10, "crack", "(II)I"⟩
abbrev cX10_kind : ByteArray := prog_1_method_15_code
def yX10_kind : MethodName := ⟨RX10, "kind", "()I"⟩
abbrev cX10_turns : ByteArray := prog_1_method_16_code
def yX10_turns : MethodName := ⟨RX10, "turns", "()I"⟩
abbrev cX10_put : ByteArray := prog_1_method_17_code
def yX10_put : MethodName := ⟨RX10, "put", "(III)I"⟩
abbrev cX10_near : ByteArray := prog_1_method_18_code
def yX10_near : MethodName := ⟨RX10, "near", "()I"⟩
abbrev cX10_leastHand : ByteArray := prog_1_method_19_code
def yX10_leastHand : MethodName := ⟨RX10, "leastHand", "()I"⟩
abbrev cX10_loudest : ByteArray := prog_1_method_20_code
def yX10_loudest : MethodName := ⟨RX10, "loudest", "(II)I"⟩
abbrev cX10_aim : ByteArray := prog_1_method_21_code
def yX10_aim : MethodName := ⟨RX10, "aim", "(IIIII)I"⟩
abbrev cX10_alone : ByteArray := prog_1_method_22_code
def yX10_alone : MethodName := ⟨RX10, "alone", "(II)I"⟩
abbrev cX10_bestAim : ByteArray := prog_1_method_23_code
def yX10_bestAim : MethodName := ⟨RX10, "bestAim", "(III)I"⟩
abbrev cX10_close : ByteArray := prog_1_method_24_code
def yX10_close : MethodName := ⟨RX10, "close", "(III)I"⟩
abbrev cX10_rhythm : ByteArray := prog_1_method_25_code
def yX10_rhythm : MethodName := ⟨RX10, "rhythm", "(IIII)I"⟩
abbrev cX10_crackOn : ByteArray := prog_1_method_26_code
def yX10_crackOn : MethodName := ⟨RX10, "crackOn", "()I"⟩
abbrev cX10_evening : ByteArray := prog_1_method_27_code
def yX10_evening : MethodName := ⟨RX10, "evening", "(I)I"⟩
abbrev cX10_lay : ByteArray := prog_1_method_28_code
def yX10_lay : MethodName := ⟨RX10, "lay", "(II)I"⟩
abbrev cX10_clear : ByteArray := prog_1_method_29_code
def yX10_clear : MethodName := ⟨RX10, "clear", "()I"⟩
abbrev cX10_cut : ByteArray := prog_1_method_30_code
def yX10_cut : MethodName := ⟨RX10, "cut", "()I"⟩
abbrev cX10_film : ByteArray := prog_1_method_31_code
def yX10_film : MethodName := ⟨RX10, "film", "(II)I"⟩
abbrev cX10_blank : ByteArray := prog_1_method_32_code
def yX10_blank : MethodName := ⟨RX10, "blank", "()I"⟩
abbrev cX10_told : ByteArray := prog_1_method_33_code
def yX10_told : MethodName := ⟨RX10, "told", "(I)I"⟩
abbrev cX10_keep : ByteArray := prog_1_method_34_code
def yX10_keep : MethodName := ⟨RX10, "keep", "(I)I"⟩
abbrev cX10_goBack : ByteArray := prog_1_method_35_code
def yX10_goBack : MethodName := ⟨RX10, "goBack", "(I)I"⟩
abbrev cX10_endReading : ByteArray := prog_1_method_36_code
def yX10_endReading : MethodName := ⟨RX10, "endReading", "()I"⟩
abbrev cX10_setChanged : ByteArray := prog_1_method_37_code
def yX10_setChanged : MethodName := ⟨RX10, "setChanged", "()V"⟩
abbrev cX10_theThrow : ByteArray := prog_1_method_38_code
def yX10_theThrow : MethodName := ⟨RX10, "theThrow", "()LWhipCrack$Flight;"⟩
abbrev cX10_isJoint : ByteArray := prog_1_method_39_code
def yX10_isJoint : MethodName := ⟨RX10, "isJoint", "(I)Z"⟩
abbrev cX10_isTick : ByteArray := prog_1_method_40_code
def yX10_isTick : MethodName := ⟨RX10, "isTick", "(I)Z"⟩
abbrev cX10_isWithin : ByteArray := prog_1_method_41_code
def yX10_isWithin : MethodName := ⟨RX10, "isWithin", "(II)Z"⟩
abbrev cX10_isPlace : ByteArray := prog_1_method_42_code
def yX10_isPlace : MethodName := ⟨RX10, "isPlace", "(II)Z"⟩
abbrev cX10_isGiven : ByteArray := prog_1_method_43_code
def yX10_isGiven : MethodName := ⟨RX10, "isGiven", "(I)Z"⟩
abbrev cX10_tellCrack : ByteArray := prog_1_method_44_code
def yX10_tellCrack : MethodName := ⟨RX10, "tellCrack", "(LWhipCrack$Flight;III)I"⟩
abbrev cX10_throwReally : ByteArray := prog_1_method_45_code
def yX10_throwReally : MethodName := ⟨RX10, "throwReally", "()I"⟩
abbrev cX10_root : ByteArray := prog_1_method_46_code
def yX10_root : MethodName := ⟨RX10, "root", "(J)J"⟩
def RX11 : String := "WhipCrackModel"
def TX11 : u_T := fun k => match k with
  | 0 => ("WhipCrackModel", "pieces", "I", false)
  | 1 => ("WhipCrackModel", "length", "I", false)
  | 2 => ("WhipCrackModel", "strands", "[I", true)
  | 3 => ("WhipCrackModel", "stuff", "[I", true)
  | 4 => ("WhipCrackModel", "wear", "[I", true)
  | 5 => ("WhipCrackModel", "ticks", "I", false)
  | 6 => ("WhipCrackModel", "clauses", "I", false)
  | 7 => ("WhipCrackModel", "wayX", "[I", true)
  | 8 => ("WhipCrackModel", "wayY", "[I", true)
  | 9 => ("WhipCrackModel", "law", "[I", true)
  | 10 => ("WhipCrackModel", "given", "I", false)
  | 11 => ("WhipCrackModel", "earX", "I", false)
  | 12 => ("WhipCrackModel", "earY", "I", false)
  | 13 => ("WhipCrackModel", "postX", "I", false)
  | 14 => ("WhipCrackModel", "postY", "I", false)
  | 15 => ("WhipCrackModel", "text", "[I", true)
  | 16 => ("WhipCrackModel", "textSize", "I", false)
  | 17 => ("WhipCrackModel", "at", "I", false)
  | 18 => ("WhipCrackModel", "from", "I", false)
  | 19 => ("WhipCrackModel", "letters", "I", false)
  | 20 => ("WhipCrackModel", "faultOf", "I", false)
  | 21 => ("WhipCrackModel", "place", "I", false)
  | 22 => ("WhipCrackModel", "newPieces", "I", false)
  | 23 => ("WhipCrackModel", "newLength", "I", false)
  | 24 => ("WhipCrackModel", "hasLength", "Z", false)
  | 25 => ("WhipCrackModel", "newStrands", "[I", true)
  | 26 => ("WhipCrackModel", "newStuff", "[I", true)
  | 27 => ("WhipCrackModel", "ops", "I", false)
  | 28 => ("WhipCrackModel", "op", "[I", true)
  | 29 => ("WhipCrackModel", "opX", "[I", true)
  | 30 => ("WhipCrackModel", "opY", "[I", true)
  | 31 => ("WhipCrackModel", "opN", "[I", true)
  | 32 => ("WhipCrackModel", "loopAt", "[I", true)
  | 33 => ("WhipCrackModel", "loopLeft", "[I", true)
  | 34 => ("WhipCrackModel", "newX", "[I", true)
  | 35 => ("WhipCrackModel", "newY", "[I", true)
  | 36 => ("WhipCrackModel", "newTicks", "I", false)
  | 37 => ("WhipCrackModel", "newClauses", "I", false)
  | 38 => ("WhipCrackModel", "xs", "[J", true)
  | 39 => ("WhipCrackModel", "ys", "[J", true)
  | 40 => ("WhipCrackModel", "tossed", "I", false)
  | 41 => ("WhipCrackModel", "cracks", "I", false)
  | 42 => ("WhipCrackModel", "crackTick", "[I", true)
  | 43 => ("WhipCrackModel", "crackJoint", "[I", true)
  | 44 => ("WhipCrackModel", "held", "[I", true)
  | 45 => ("WhipCrackModel", "pick", "[I", true)
  | 46 => ("WhipCrackModel", "bestPick", "[I", true)
  | 47 => ("WhipCrackModel", "otherX", "[J", true)
  | 48 => ("WhipCrackModel", "otherY", "[J", true)
  | 49 => ("WhipCrackModel", "hides", "I", false)
  | 50 => ("WhipCrackModel", "cuts", "I", false)
  | 51 => ("WhipCrackModel", "hide", "[I", true)
  | 52 => ("WhipCrackModel", "toCut", "[I", true)
  | 53 => ("WhipCrackModel", "isCut", "[Z", true)
  | 54 => ("WhipCrackModel", "isCutNext", "[Z", true)
  | 55 => ("WhipCrackModel", "films", "I", false)
  | 56 => ("WhipCrackModel", "filmX", "[I", true)
  | 57 => ("WhipCrackModel", "filmY", "[I", true)
  | 58 => ("WhipCrackModel", "image", "[I", true)
  | _ => ("WhipCrackModel", "isKept", "[Z", true)
def tyX11 : Nat → FieldType := fun k => match k with
  | 0 => .int
  | 1 => .int
  | 2 => .array .int
  | 3 => .array .int
  | 4 => .array .int
  | 5 => .int
  | 6 => .int
  | 7 => .array .int
  | 8 => .array .int
  | 9 => .array .int
  | 10 => .int
  | 11 => .int
  | 12 => .int
  | 13 => .int
  | 14 => .int
  | 15 => .array .int
  | 16 => .int
  | 17 => .int
  | 18 => .int
  | 19 => .int
  | 20 => .int
  | 21 => .int
  | 22 => .int
  | 23 => .int
  | 24 => .boolean
  | 25 => .array .int
  | 26 => .array .int
  | 27 => .int
  | 28 => .array .int
  | 29 => .array .int
  | 30 => .array .int
  | 31 => .array .int
  | 32 => .array .int
  | 33 => .array .int
  | 34 => .array .int
  | 35 => .array .int
  | 36 => .int
  | 37 => .int
  | 38 => .array .long
  | 39 => .array .long
  | 40 => .int
  | 41 => .int
  | 42 => .array .int
  | 43 => .array .int
  | 44 => .array .int
  | 45 => .array .int
  | 46 => .array .int
  | 47 => .array .long
  | 48 => .array .long
  | 49 => .int
  | 50 => .int
  | 51 => .array .int
  | 52 => .array .int
  | 53 => .array .boolean
  | 54 => .array .boolean
  | 55 => .int
  | 56 => .array .int
  | 57 => .array .int
  | 58 => .array .int
  | _ => .array .boolean
abbrev wsX110 : List Cond := u_ws RX11 TX11 60
theorem nmX11 : ∀ a, a < 60 → ∀ b, b < 60 → a ≠ b → (TX11 a).2.1 ≠ (TX11 b).2.1 := by decide +kernel
theorem tyX11_ok : ∀ k, k < 60 → parseFieldDescriptor (TX11 k).2.2.1 = some (tyX11 k) := by decide +kernel
abbrev cX11_init : ByteArray := prog_13_method_1_code
def yX11_init : MethodName := ⟨RX11, "<init>", "()V"⟩
abbrev cX11_in : ByteArray := prog_13_method_3_code
def yX11_in : MethodName := ⟨RX11, "in", "(JJJ)Z"⟩
abbrev cX11_one : ByteArray := prog_13_method_4_code
def yX11_one : MethodName := ⟨RX11, "one", "(Z)I"⟩
abbrev cX11_root : ByteArray := prog_13_method_5_code
def yX11_root : MethodName := ⟨RX11, "root", "(J)J"⟩
abbrev cX11_span : ByteArray := prog_13_method_6_code
def yX11_span : MethodName := ⟨RX11, "span", "(JJ)J"⟩
abbrev cX11_heft : ByteArray := prog_13_method_7_code
def yX11_heft : MethodName := ⟨RX11, "heft", "(I)I"⟩
abbrev cX11_stiff : ByteArray := prog_13_method_8_code
def yX11_stiff : MethodName := ⟨RX11, "stiff", "(I)I"⟩
abbrev cX11_wears : ByteArray := prog_13_method_9_code
def yX11_wears : MethodName := ⟨RX11, "wears", "(I)I"⟩
abbrev cX11_feed : ByteArray := prog_13_method_10_code
def yX11_feed : MethodName := ⟨RX11, "feed", "(IJ)I"⟩
abbrev cX11_here : ByteArray := prog_13_method_11_code
def yX11_here : MethodName := ⟨RX11, "here", "()I"⟩
abbrev cX11_want : ByteArray := prog_13_method_12_code
def yX11_want : MethodName := ⟨RX11, "want", "(ZII)Z"⟩
abbrev cX11_takeWord : ByteArray := prog_13_method_13_code
def yX11_takeWord : MethodName := ⟨RX11, "takeWord", "()V"⟩
abbrev cX11_isWord : ByteArray := prog_13_method_14_code
def yX11_isWord : MethodName := ⟨RX11, "isWord", "(IIIIIIII)Z"⟩
abbrev cX11_takeNumber : ByteArray := prog_13_method_15_code
def yX11_takeNumber : MethodName := ⟨RX11, "takeNumber", "(IIZ)I"⟩
abbrev cX11_takeSign : ByteArray := prog_13_method_16_code
def yX11_takeSign : MethodName := ⟨RX11, "takeSign", "(I)V"⟩
abbrev cX11_beginText : ByteArray := prog_13_method_17_code
def yX11_beginText : MethodName := ⟨RX11, "beginText", "()V"⟩
abbrev cX11_takePiece : ByteArray := prog_13_method_18_code
def yX11_takePiece : MethodName := ⟨RX11, "takePiece", "()V"⟩
abbrev cX11_plait : ByteArray := prog_13_method_19_code
def yX11_plait : MethodName := ⟨RX11, "plait", "()I"⟩
abbrev cX11_addOp : ByteArray := prog_13_method_20_code
def yX11_addOp : MethodName := ⟨RX11, "addOp", "(IIII)V"⟩
abbrev cX11_takeGo : ByteArray := prog_13_method_21_code
def yX11_takeGo : MethodName := ⟨RX11, "takeGo", "()V"⟩
abbrev cX11_takeWay : ByteArray := prog_13_method_22_code
def yX11_takeWay : MethodName := ⟨RX11, "takeWay", "()V"⟩
abbrev cX11_runWay : ByteArray := prog_13_method_23_code
def yX11_runWay : MethodName := ⟨RX11, "runWay", "()Z"⟩
abbrev cX11_way : ByteArray := prog_13_method_24_code
def yX11_way : MethodName := ⟨RX11, "way", "()I"⟩
abbrev cX11_fault : ByteArray := prog_13_method_25_code
def yX11_fault : MethodName := ⟨RX11, "fault", "()I"⟩
abbrev cX11_weightOf : ByteArray := prog_13_method_26_code
def yX11_weightOf : MethodName := ⟨RX11, "weightOf", "(I)I"⟩
abbrev cX11_bendsOf : ByteArray := prog_13_method_27_code
def yX11_bendsOf : MethodName := ⟨RX11, "bendsOf", "(I)I"⟩
abbrev cX11_piece : ByteArray := prog_13_method_28_code
def yX11_piece : MethodName := ⟨RX11, "piece", "(II)I"⟩
abbrev cX11_law : ByteArray := prog_13_method_29_code
def yX11_law : MethodName := ⟨RX11, "law", "(II)I"⟩
abbrev cX11_give : ByteArray := prog_13_method_30_code
def yX11_give : MethodName := ⟨RX11, "give", "(I)I"⟩
abbrev cX11_allStrands : ByteArray := prog_13_method_31_code
def yX11_allStrands : MethodName := ⟨RX11, "allStrands", "()I"⟩
abbrev cX11_count : ByteArray := prog_13_method_32_code
def yX11_count : MethodName := ⟨RX11, "count", "(I)I"⟩
abbrev cX11_cell : ByteArray := prog_13_method_33_code
def yX11_cell : MethodName := ⟨RX11, "cell", "(II)I"⟩
abbrev cX11_goOn : ByteArray := prog_13_method_34_code
def yX11_goOn : MethodName := ⟨RX11, "goOn", "(II)V"⟩
abbrev cX11_bend : ByteArray := prog_13_method_35_code
def yX11_bend : MethodName := ⟨RX11, "bend", "(II)V"⟩
abbrev cX11_pull : ByteArray := prog_13_method_36_code
def yX11_pull : MethodName := ⟨RX11, "pull", "(II)V"⟩
abbrev cX11_hold : ByteArray := prog_13_method_37_code
def yX11_hold : MethodName := ⟨RX11, "hold", "(II)V"⟩
abbrev cX11_toss : ByteArray := prog_13_method_38_code
def yX11_toss : MethodName := ⟨RX11, "toss", "(I)V"⟩
abbrev cX11_noJoint : ByteArray := prog_13_method_39_code
def yX11_noJoint : MethodName := ⟨RX11, "noJoint", "(I)Z"⟩
abbrev cX11_joint : ByteArray := prog_13_method_40_code
def yX11_joint : MethodName := ⟨RX11, "joint", "(III)I"⟩
abbrev cX11_speedOf : ByteArray := prog_13_method_41_code
def yX11_speedOf : MethodName := ⟨RX11, "speedOf", "(II)J"⟩
abbrev cX11_speed : ByteArray := prog_13_method_42_code
def yX11_speed : MethodName := ⟨RX11, "speed", "(II)I"⟩
abbrev cX11_forceOf : ByteArray := prog_13_method_43_code
def yX11_forceOf : MethodName := ⟨RX11, "forceOf", "(II)J"⟩
abbrev cX11_force : ByteArray := prog_13_method_44_code
def yX11_force : MethodName := ⟨RX11, "force", "(II)J"⟩
abbrev cX11_loopOf : ByteArray := prog_13_method_45_code
def yX11_loopOf : MethodName := ⟨RX11, "loopOf", "(I)I"⟩
abbrev cX11_loop : ByteArray := prog_13_method_46_code
def yX11_loop : MethodName := ⟨RX11, "loop", "(I)I"⟩
abbrev cX11_findCracks : ByteArray := prog_13_method_47_code
def yX11_findCracks : MethodName := ⟨RX11, "findCracks", "()V"⟩
abbrev cX11_farOf : ByteArray := prog_13_method_48_code
def yX11_farOf : MethodName := ⟨RX11, "farOf", "(I)I"⟩
abbrev cX11_ofWhat : ByteArray := prog_13_method_49_code
def yX11_ofWhat : MethodName := ⟨RX11, "ofWhat", "(I)I"⟩
abbrev cX11_crack : ByteArray := prog_13_method_50_code
def yX11_crack : MethodName := ⟨RX11, "crack", "(II)I"⟩
abbrev cX11_quarter : ByteArray := prog_13_method_51_code
def yX11_quarter : MethodName := ⟨RX11, "quarter", "(JJI)I"⟩
abbrev cX11_turnsOf : ByteArray := prog_13_method_52_code
def yX11_turnsOf : MethodName := ⟨RX11, "turnsOf", "()I"⟩
abbrev cX11_isOverhead : ByteArray := prog_13_method_53_code
def yX11_isOverhead : MethodName := ⟨RX11, "isOverhead", "()Z"⟩
abbrev cX11_hasLoop : ByteArray := prog_13_method_54_code
def yX11_hasLoop : MethodName := ⟨RX11, "hasLoop", "()Z"⟩
abbrev cX11_kind : ByteArray := prog_13_method_55_code
def yX11_kind : MethodName := ⟨RX11, "kind", "()I"⟩
abbrev cX11_turns : ByteArray := prog_13_method_56_code
def yX11_turns : MethodName := ⟨RX11, "turns", "()I"⟩
abbrev cX11_isPlace : ByteArray := prog_13_method_57_code
def yX11_isPlace : MethodName := ⟨RX11, "isPlace", "(II)Z"⟩
abbrev cX11_put : ByteArray := prog_13_method_58_code
def yX11_put : MethodName := ⟨RX11, "put", "(III)I"⟩
abbrev cX11_near : ByteArray := prog_13_method_59_code
def yX11_near : MethodName := ⟨RX11, "near", "()I"⟩
abbrev cX11_leastHand : ByteArray := prog_13_method_60_code
def yX11_leastHand : MethodName := ⟨RX11, "leastHand", "()I"⟩
abbrev cX11_greatestSpeed : ByteArray := prog_13_method_61_code
def yX11_greatestSpeed : MethodName := ⟨RX11, "greatestSpeed", "()J"⟩
abbrev cX11_listed : ByteArray := prog_13_method_62_code
def yX11_listed : MethodName := ⟨RX11, "listed", "(I)I"⟩
abbrev cX11_loudest : ByteArray := prog_13_method_63_code
def yX11_loudest : MethodName := ⟨RX11, "loudest", "(II)I"⟩
abbrev cX11_farFrom : ByteArray := prog_13_method_64_code
def yX11_farFrom : MethodName := ⟨RX11, "farFrom", "(IIII)J"⟩
abbrev cX11_aim : ByteArray := prog_13_method_65_code
def yX11_aim : MethodName := ⟨RX11, "aim", "(IIIII)I"⟩
abbrev cX11_aloneBy : ByteArray := prog_13_method_66_code
def yX11_aloneBy : MethodName := ⟨RX11, "aloneBy", "(II)J"⟩
abbrev cX11_alone : ByteArray := prog_13_method_67_code
def yX11_alone : MethodName := ⟨RX11, "alone", "(II)I"⟩
abbrev cX11_bestAim : ByteArray := prog_13_method_68_code
def yX11_bestAim : MethodName := ⟨RX11, "bestAim", "(III)I"⟩
abbrev cX11_tossBoth : ByteArray := prog_13_method_69_code
def yX11_tossBoth : MethodName := ⟨RX11, "tossBoth", "(II)V"⟩
abbrev cX11_closeBy : ByteArray := prog_13_method_70_code
def yX11_closeBy : MethodName := ⟨RX11, "closeBy", "(I)I"⟩
abbrev cX11_isTwo : ByteArray := prog_13_method_71_code
def yX11_isTwo : MethodName := ⟨RX11, "isTwo", "(II)Z"⟩
abbrev cX11_close : ByteArray := prog_13_method_72_code
def yX11_close : MethodName := ⟨RX11, "close", "(III)I"⟩
abbrev cX11_rhythm : ByteArray := prog_13_method_73_code
def yX11_rhythm : MethodName := ⟨RX11, "rhythm", "(IIII)I"⟩
abbrev cX11_wearOnce : ByteArray := prog_13_method_74_code
def yX11_wearOnce : MethodName := ⟨RX11, "wearOnce", "()I"⟩
abbrev cX11_crackOn : ByteArray := prog_13_method_75_code
def yX11_crackOn : MethodName := ⟨RX11, "crackOn", "()I"⟩
abbrev cX11_evening : ByteArray := prog_13_method_76_code
def yX11_evening : MethodName := ⟨RX11, "evening", "(I)I"⟩
abbrev cX11_lay : ByteArray := prog_13_method_77_code
def yX11_lay : MethodName := ⟨RX11, "lay", "(II)I"⟩
abbrev cX11_clear : ByteArray := prog_13_method_78_code
def yX11_clear : MethodName := ⟨RX11, "clear", "()I"⟩
abbrev cX11_sumOf : ByteArray := prog_13_method_79_code
def yX11_sumOf : MethodName := ⟨RX11, "sumOf", "(I)I"⟩
abbrev cX11_canCut : ByteArray := prog_13_method_80_code
def yX11_canCut : MethodName := ⟨RX11, "canCut", "(I)Z"⟩
abbrev cX11_ones : ByteArray := prog_13_method_81_code
def yX11_ones : MethodName := ⟨RX11, "ones", "(I)I"⟩
abbrev cX11_cut : ByteArray := prog_13_method_82_code
def yX11_cut : MethodName := ⟨RX11, "cut", "()I"⟩
abbrev cX11_film : ByteArray := prog_13_method_83_code
def yX11_film : MethodName := ⟨RX11, "film", "(II)I"⟩
abbrev cX11_blank : ByteArray := prog_13_method_84_code
def yX11_blank : MethodName := ⟨RX11, "blank", "()I"⟩
abbrev cX11_size : ByteArray := prog_13_method_85_code
def yX11_size : MethodName := ⟨RX11, "size", "(J)J"⟩
abbrev cX11_told : ByteArray := prog_13_method_86_code
def yX11_told : MethodName := ⟨RX11, "told", "(I)I"⟩
abbrev cX11_keep : ByteArray := prog_13_method_87_code
def yX11_keep : MethodName := ⟨RX11, "keep", "(I)I"⟩
abbrev cX11_goBack : ByteArray := prog_13_method_88_code
def yX11_goBack : MethodName := ⟨RX11, "goBack", "(I)I"⟩
def RJ6 : String := "java/lang/Integer"
def TJ6 : u_T := fun k => match k with
  | _ => ("", "", "", false)
def tyJ6 : Nat → FieldType := fun k => match k with
  | _ => .int
abbrev wsJ60 : List Cond := u_ws RJ6 TJ6 0
theorem nmJ6 : ∀ a, a < 0 → ∀ b, b < 0 → a ≠ b → (TJ6 a).2.1 ≠ (TJ6 b).2.1 := by decide +kernel
theorem tyJ6_ok : ∀ k, k < 0 → parseFieldDescriptor (TJ6 k).2.2.1 = some (tyJ6 k) := by decide +kernel
abbrev cJ6_numberOfLeadingZeros_0f7a4 : ByteArray := prog_14_method_47_code
def yJ6_numberOfLeadingZeros_0f7a4 : MethodName := ⟨RJ6, "numberOfLeadingZeros", "(I)I"⟩
abbrev cJ6_bitCount_0f7a4 : ByteArray := prog_14_method_49_code
def yJ6_bitCount_0f7a4 : MethodName := ⟨RJ6, "bitCount", "(I)I"⟩
def RJ13 : String := "java/lang/Long"
def TJ13 : u_T := fun k => match k with
  | _ => ("", "", "", false)
def tyJ13 : Nat → FieldType := fun k => match k with
  | _ => .int
abbrev wsJ130 : List Cond := u_ws RJ13 TJ13 0
theorem nmJ13 : ∀ a, a < 0 → ∀ b, b < 0 → a ≠ b → (TJ13 a).2.1 ≠ (TJ13 b).2.1 := by decide +kernel
theorem tyJ13_ok : ∀ k, k < 0 → parseFieldDescriptor (TJ13 k).2.2.1 = some (tyJ13 k) := by decide +kernel
abbrev cJ13_numberOfLeadingZeros_95d88 : ByteArray := prog_15_method_48_code
def yJ13_numberOfLeadingZeros_95d88 : MethodName := ⟨RJ13, "numberOfLeadingZeros", "(J)I"⟩
def RJ9 : String := "java/lang/Math"
def TJ9 : u_T := fun k => match k with
  | _ => ("", "", "", false)
def tyJ9 : Nat → FieldType := fun k => match k with
  | _ => .int
abbrev wsJ90 : List Cond := u_ws RJ9 TJ9 0
theorem nmJ9 : ∀ a, a < 0 → ∀ b, b < 0 → a ≠ b → (TJ9 a).2.1 ≠ (TJ9 b).2.1 := by decide +kernel
theorem tyJ9_ok : ∀ k, k < 0 → parseFieldDescriptor (TJ9 k).2.2.1 = some (tyJ9 k) := by decide +kernel
abbrev cJ9_abs_0f7a4 : ByteArray := prog_16_method_59_code
def yJ9_abs_0f7a4 : MethodName := ⟨RJ9, "abs", "(I)I"⟩
abbrev cJ9_max_7cf53 : ByteArray := prog_16_method_65_code
def yJ9_max_7cf53 : MethodName := ⟨RJ9, "max", "(II)I"⟩
abbrev cJ9_max_f86c9 : ByteArray := prog_16_method_66_code
def yJ9_max_f86c9 : MethodName := ⟨RJ9, "max", "(JJ)J"⟩
abbrev cJ9_min_7cf53 : ByteArray := prog_16_method_69_code
def yJ9_min_7cf53 : MethodName := ⟨RJ9, "min", "(II)I"⟩
abbrev cJ9_min_f86c9 : ByteArray := prog_16_method_70_code
def yJ9_min_f86c9 : MethodName := ⟨RJ9, "min", "(JJ)J"⟩
def RJ0 : String := "java/lang/String"
def TJ0 : u_T := fun k => match k with
  | _ => ("", "", "", false)
def tyJ0 : Nat → FieldType := fun k => match k with
  | _ => .int
abbrev wsJ00 : List Cond := u_ws RJ0 TJ0 0
theorem nmJ0 : ∀ a, a < 0 → ∀ b, b < 0 → a ≠ b → (TJ0 a).2.1 ≠ (TJ0 b).2.1 := by decide +kernel
theorem tyJ0_ok : ∀ k, k < 0 → parseFieldDescriptor (TJ0 k).2.2.1 = some (tyJ0 k) := by decide +kernel
abbrev cJ0_length_8abf5 : ByteArray := prog_17_method_54_code
def yJ0_length_8abf5 : MethodName := ⟨RJ0, "length", "()I"⟩
abbrev cJ0_charAt_5068e : ByteArray := prog_17_method_56_code
def yJ0_charAt_5068e : MethodName := ⟨RJ0, "charAt", "(I)C"⟩
abbrev cJ0_coder_7d493 : ByteArray := prog_17_method_152_code
def yJ0_coder_7d493 : MethodName := ⟨RJ0, "coder", "()B"⟩
abbrev cJ0_isLatin1_aae02 : ByteArray := prog_17_method_154_code
def yJ0_isLatin1_aae02 : MethodName := ⟨RJ0, "isLatin1", "()Z"⟩
abbrev cJ0_checkIndex_df160 : ByteArray := prog_17_method_155_code
def yJ0_checkIndex_df160 : MethodName := ⟨RJ0, "checkIndex", "(II)V"⟩
def RJ1 : String := "java/lang/StringLatin1"
def TJ1 : u_T := fun k => match k with
  | _ => ("", "", "", false)
def tyJ1 : Nat → FieldType := fun k => match k with
  | _ => .int
abbrev wsJ10 : List Cond := u_ws RJ1 TJ1 0
theorem nmJ1 : ∀ a, a < 0 → ∀ b, b < 0 → a ≠ b → (TJ1 a).2.1 ≠ (TJ1 b).2.1 := by decide +kernel
theorem tyJ1_ok : ∀ k, k < 0 → parseFieldDescriptor (TJ1 k).2.2.1 = some (tyJ1 k) := by decide +kernel
abbrev cJ1_charAt_3b067 : ByteArray := prog_18_method_2_code
def yJ1_charAt_3b067 : MethodName := ⟨RJ1, "charAt", "([BI)C"⟩
def RJ2 : String := "java/lang/StringUTF16"
def TJ2 : u_T := fun k => match k with
  | _ => ("", "", "", false)
def tyJ2 : Nat → FieldType := fun k => match k with
  | _ => .int
abbrev wsJ20 : List Cond := u_ws RJ2 TJ2 0
theorem nmJ2 : ∀ a, a < 0 → ∀ b, b < 0 → a ≠ b → (TJ2 a).2.1 ≠ (TJ2 b).2.1 := by decide +kernel
theorem tyJ2_ok : ∀ k, k < 0 → parseFieldDescriptor (TJ2 k).2.2.1 = some (tyJ2 k) := by decide +kernel
abbrev cJ2_getChar_3b067 : ByteArray := prog_19_method_5_code
def yJ2_getChar_3b067 : MethodName := ⟨RJ2, "getChar", "([BI)C"⟩
abbrev cJ2_length_9d52b : ByteArray := prog_19_method_6_code
def yJ2_length_9d52b : MethodName := ⟨RJ2, "length", "([B)I"⟩
abbrev cJ2_charAt_3b067 : ByteArray := prog_19_method_83_code
def yJ2_charAt_3b067 : MethodName := ⟨RJ2, "charAt", "([BI)C"⟩
abbrev cJ2_checkIndex_2214a : ByteArray := prog_19_method_91_code
def yJ2_checkIndex_2214a : MethodName := ⟨RJ2, "checkIndex", "(I[B)V"⟩
def RJ10 : String := "java/lang/System"
def TJ10 : u_T := fun k => match k with
  | _ => ("", "", "", false)
def tyJ10 : Nat → FieldType := fun k => match k with
  | _ => .int
abbrev wsJ100 : List Cond := u_ws RJ10 TJ10 0
theorem nmJ10 : ∀ a, a < 0 → ∀ b, b < 0 → a ≠ b → (TJ10 a).2.1 ≠ (TJ10 b).2.1 := by decide +kernel
theorem tyJ10_ok : ∀ k, k < 0 → parseFieldDescriptor (TJ10 k).2.2.1 = some (tyJ10 k) := by decide +kernel
def RJ3 : String := "jdk/internal/util/Preconditions"
def TJ3 : u_T := fun k => match k with
  | _ => ("", "", "", false)
def tyJ3 : Nat → FieldType := fun k => match k with
  | _ => .int
abbrev wsJ30 : List Cond := u_ws RJ3 TJ3 0
theorem nmJ3 : ∀ a, a < 0 → ∀ b, b < 0 → a ≠ b → (TJ3 a).2.1 ≠ (TJ3 b).2.1 := by decide +kernel
theorem tyJ3_ok : ∀ k, k < 0 → parseFieldDescriptor (TJ3 k).2.2.1 = some (tyJ3 k) := by decide +kernel
abbrev cJ3_checkIndex_8e157 : ByteArray := prog_21_method_11_code
def yJ3_checkIndex_8e157 : MethodName := ⟨RJ3, "checkIndex", "(IILjava/util/function/BiFunction;)I"⟩
def RL : String := "WhipCrackLaw"
abbrev cL_law : ByteArray := code
def yL_law : MethodName := ⟨RL, "law", "([I)Z"⟩
abbrev vwCl : List vw_C := [(RX0, TX0, 3), (RX1, TX1, 8), (RX2, TX2, 5), (RX3, TX3, 5), (RX4, TX4, 2), (RX5, TX5, 5), (RX6, TX6, 4), (RX7, TX7, 6), (RX8, TX8, 4), (RX9, TX9, 10), (RX10, TX10, 18), (RX11, TX11, 60)]
end
section
/-! THE LAYER: one world for the whole system; a method's walk over it. -/
abbrev mT : Type := String × MethodName × ByteArray × Nat × Option FieldType × Room
def mOwn (M : mT) : String := M.1
def mY (M : mT) : MethodName := M.2.1
def mC (M : mT) : ByteArray := M.2.2.1
def mLn (M : mT) : Nat := M.2.2.2.1
def mRt (M : mT) : Option FieldType := M.2.2.2.2.1
def mRm (M : mT) : Room := M.2.2.2.2.2
/-- the words that may be handed on to a callee -/
def aW : List Cond := lw_tbl.filter goodWord
/-- the words on private members of a nest mate -/
def nW : List Cond := [.methodLinkNest RX10 9 yX6_init RX10, .methodLinkNest RX6 11 yX3_init RX10, .methodLinkNest RX6 20 yX8_init RX10, .methodLinkNest RX10 24 yX7_init RX10, .methodLinkNest RX10 31 yX4_init RX10, .methodLinkNest RX4 11 yX3_init RX10, .methodLinkNest RX10 38 yX9_init RX10, .methodLinkNest RX10 45 yX1_init RX10, .methodLinkNest RX10 55 yX5_init RX10, .methodLinkNest RX5 27 yX3_init RX10, .methodLinkNest RX10 62 yX2_init RX10, .methodLinkNest RX10 69 yX0_init RX10, .methodLinkNest RX1 81 yX10_root RX10, .fieldLinkNest RX3 34 RX10 "HEFT" "[I" RX10, .fieldLinkNest RX3 37 RX10 "STIFF" "[I" RX10, .fieldLinkNest RX5 76 RX10 "ROW_STRANDS" "[I" RX10]
theorem nW_in : ∀ w ∈ nW, w ∈ lw_tbl := by decide +kernel
def isNw (w : Cond) : Bool := match w with
  | .methodLinkNest .. => true
  | .fieldLinkNest .. => true
  | _ => false
theorem nW_nest : ∀ w ∈ nW, isNw w = true := by decide +kernel
theorem aW_good : ∀ w ∈ aW, goodWord w = true := fun _ h => (List.mem_filter.mp h).2
theorem aW_of {w : Cond} (h : w ∈ lw_tbl) (g : goodWord w = true) : w ∈ aW := List.mem_filter.mpr ⟨h, g⟩
def mWs (M : mT) : List Cond := Cond.code (mY M) (mC M) (mLn M) (mRt M) :: aW
/-- what is the same for the whole run: class numbers, array classes, where the world begins, special addresses, the script, what a formatter holds -/
abbrev gT : Type := va_G × (Nat → ClassId) × Nat × (Nat → Nat) × Nat × (Nat → Int) × Value
def gD (G : gT) : va_G := G.1
def gtc (G : gT) : Nat → ClassId := G.2.1
def gB (G : gT) : Nat := G.2.2.1
def gsp (G : gT) : Nat → Nat := G.2.2.2.1
def gL (G : gT) : Nat := G.2.2.2.2.1
def gX (G : gT) : Nat → Int := G.2.2.2.2.2.1
def gq (G : gT) : Value := G.2.2.2.2.2.2
def gA (G : gT) : Nat → Prop := fun q => gB G ≤ q
def gad (G : gT) (i : Nat) : Nat := if i < 1000 then gB G + i else gsp G i
def gre (G : gT) (v : Value) : Value := match v with
  | .ref i => .ref (gad G i)
  | v => v
def gty (G : gT) : List (ClassId × FieldType) := [(gtc G 0, .int), (gtc G 1, .long), (gtc G 2, .boolean)]
def vi (z : Int) : Value := .int (Int32.ofInt z)
def vl (z : Int) : Value := .long (Int64.ofInt z)
theorem gre_vi {G : gT} {z : Int} : gre G (vi z) = .int (Int32.ofInt z) := rfl
theorem gre_vl {G : gT} {z : Int} : gre G (vl z) = .long (Int64.ofInt z) := rfl
theorem gre_ref {G : gT} {i : Nat} : gre G (.ref i) = .ref (gad G i) := rfl
theorem gre_cat (G : gT) (v : Value) : (gre G v).category = v.category := by cases v <;> rfl
/-- an abstract cell: an array (kind 0 int, 1 long, 2 boolean; its length; its elements) or an object (its class; its fields) -/
abbrev aE : Type := (Nat × Nat × (Nat → Int)) ⊕ (Nat × (Nat → Value))
abbrev wT : Type := Nat × (Nat → aE)
def nF (ci : Nat) : Nat := match vwCl[ci]? with
  | some q => q.2.2
  | none => 0
def wre (G : gT) (x : aE) : va_E := match x with
  | .inl (t, n, f) => .inl (gtc G t, n, if t = 1 then .inr (.inl (fun k => Int64.ofInt (f k))) else .inl (fun k => Int32.ofInt (f k)))
  | .inr (ci, f) => .inr (ci, (List.range (nF ci)).map (fun k => gre G (f k)))
def wls (G : gT) (w : wT) : va_W := (List.range w.1).map (fun i => (gad G i, wre G (w.2 i)))
def put (w : wT) (i : Nat) (x : aE) : wT := (w.1, fun j => if j = i then x else w.2 j)
def psh (w : wT) (x : aE) : wT := (w.1 + 1, fun j => if j = w.1 then x else w.2 j)
def up {α : Type} (f : Nat → α) (k : Nat) (v : α) : Nat → α := fun j => if j = k then v else f j
theorem wls_get {G : gT} {w : wT} {i : Nat} (h : i < w.1) : (wls G w)[i]? = some (gad G i, wre G (w.2 i)) := by
  simp [wls, List.getElem?_map, List.getElem?_range, h]
theorem wls_at {G : gT} {w : wT} {i : Nat} {q : Nat × va_E} (h : (wls G w)[i]? = some q) : i < w.1 ∧ q = (gad G i, wre G (w.2 i)) := by
  by_cases hi : i < w.1
  · rw [wls_get hi] at h
    exact ⟨hi, (Option.some.inj h).symm⟩
  · rw [wls, List.getElem?_map, List.getElem?_eq_none (by simp; omega)] at h
    cases h
theorem wls_put {G : gT} {w : wT} {i : Nat} {x : aE} : (wls G w).set i (gad G i, wre G x) = wls G (put w i x) := by
  apply List.ext_getElem?
  intro j
  rw [List.getElem?_set]
  by_cases hj : j < w.1
  · rw [wls_get hj, wls_get (w := put w i x) hj]
    by_cases e : i = j
    · subst e
      simp [put, wls, hj]
    · simp [put, e, Ne.symm e]
  · have h1 : (wls G w)[j]? = none := by simp [wls]; omega
    have h2 : (wls G (put w i x))[j]? = none := by simp [wls, put]; omega
    rw [h1, h2]
    by_cases e : i = j
    · subst e
      simp [wls, hj]
    · simp [e]
theorem wls_psh {G : gT} {w : wT} {x : aE} : wls G w ++ [(gad G w.1, wre G x)] = wls G (psh w x) := by
  simp only [wls, psh, List.range_succ, List.map_append, List.map_cons, List.map_nil]
  congr 1
  · apply List.map_congr_left
    intro j hj
    have : j < w.1 := List.mem_range.mp hj
    simp [Nat.ne_of_lt this]
/-- the script, the static arrays, the literals: read only -/
def stN (j : Nat) : String := match j with
  | 0 => "HEFT"
  | 1 => "STIFF"
  | 2 => "WEARS"
  | 3 => "LAW_LEAST"
  | 4 => "LAW_MOST"
  | _ => "ROW_STRANDS"
def stV (j : Nat) : List Int := match j with
  | 0 => [4, 5, 1, 2]
  | 1 => [24, 36, 2, 8]
  | 2 => [2, 3, 9, 5]
  | 3 => [0, 0, 1, 10, 1]
  | 4 => [50, 50, 8, 2000, 30000]
  | _ => [12, 8, 6, 4, 2]
def sL (j : Nat) : List Int32 := match j with
  | 0 => [112, 105, 101, 99, 101]
  | 1 => [108, 101, 110, 103, 116, 104]
  | 2 => [115, 116, 114, 97, 110, 100, 115]
  | 3 => [115, 116, 117, 102, 102]
  | 4 => [103, 111]
  | 5 => [104, 111, 108, 100]
  | 6 => [116, 105, 109, 101, 115]
  | _ => [102, 111, 114]
end
section
/-- the places of the literals: who loads it, its entry, its text, its number -/
def sRf : List (String × Nat × String × Nat) := [(RX4, 53, "piece", 0), (RX4, 62, "length", 1), (RX4, 87, "strands", 2), (RX4, 92, "stuff", 3), (RX9, 76, "go", 4), (RX9, 85, "hold", 5), (RX9, 96, "times", 6), (RX9, 116, "for", 7)]
def sLn : List Nat := [5, 6, 7, 5, 2, 4, 5, 3]
def sBy : List (List Int32) := [sL 0, sL 1, sL 2, sL 3, sL 4, sL 5, sL 6, sL 7]
def RO (G : gT) (U : State) (H : Heap) : Prop :=
  (∀ j, j < 6 → va_Z RX10 (stN j) "[I" (.ref (gsp G (1000 + j))) (gA G) U H ∧ va_T .int (gsp G (1000 + j)) (stV j).length (fun k => .int (Int32.ofInt ((stV j).getD k 0))) (gA G) U H) ∧
  va_T .int (gsp G 1100) (gL G) (fun k => .int (Int32.ofInt (gX G k))) (gA G) U H ∧
  vk_S 8 sLn sBy (fun i => gsp G (1200 + i)) (fun i => gsp G (1300 + i)) (gA G) U H ∧
  va_Z "java/lang/String" "COMPACT_STRINGS" "Z" (.int 1) (gA G) U H ∧
  va_Z "jdk/internal/util/Preconditions" "SIOOBE_FORMATTER" "Ljava/util/function/BiFunction;" (gre G (gq G)) (gA G) U H ∧ (gq G = .null ∨ gq G = .ref 1400)
def SR (G : gT) (U : State) : Prop := (∀ q ∈ sRf, vk_R q.1 q.2.1 q.2.2.1 (gsp G (1200 + q.2.2.2)) U) ∧ ∀ w ∈ nW, va_Nw w U
/-- what holds at a method's start beside its world -/
def Sx (G : gT) (U : State) : Prop := va_K (gD G) vwCl (gty G) U ∧ SR G U ∧ RO G U U.heap ∧ gB G ≤ U.heap.size
/-- the world in the heap -/
def Hp (G : gT) (w : wT) (H : Heap) : Prop := va_P (gD G) vwCl (wls G w) H ∧ H.size = gB G + w.1 ∧ w.1 ≤ 1000
theorem RO.moved {G : gT} {u U : State} {H : Heap} (hvm : u.vm.Alike U.vm) (h : RO G u H) : RO G U H := by
  obtain ⟨h1, h2, h3, h4, h5, h6⟩ := h
  exact ⟨fun j hj => ⟨va_Z.moved hvm (h1 j hj).1, va_T.moved hvm (h1 j hj).2⟩, va_T.moved hvm h2, vk_S.moved hvm h3, va_Z.moved hvm h4, va_Z.moved hvm h5, h6⟩
theorem RO.kept {G : gT} {U : State} {H H1 : Heap} (h : RO G U H) (hq : ∀ a : Nat, a < H.size → ¬ gA G a → H1[a]? = H[a]?) : RO G U H1 := by
  obtain ⟨h1, h2, h3, h4, h5, h6⟩ := h
  exact ⟨fun j hj => ⟨(h1 j hj).1.kept hq, (h1 j hj).2.kept hq⟩, h2.kept hq, h3.kept hq, h4.kept hq, h5.kept hq, h6⟩
theorem nw_tab {w : Cond} (h : isNw w = true) : w.onTables = true := by
  cases w <;> first | rfl | cases h
theorem nw_warm {w : Cond} (h : isNw w = true) {s U : State} (hW : s.WarmedH U.vm) (hZ : va_Nw w s) : va_Nw w U := by
  cases w <;> first | exact va_Nw.warmF hW hZ | exact va_Nw.warmM hW hZ | cases h
theorem SR.warm {G : gT} {s U : State} (hW : s.WarmedH U.vm) (h : SR G s) : SR G U := ⟨fun q hq => vk_R.warm hW (h.1 q hq), fun w hw => nw_warm (nW_nest w hw) hW (h.2 w hw)⟩
theorem SR.same {G : gT} {u U : State} (hv : U.vm = u.vm) (h : SR G u) : SR G U := ⟨fun q hq => vk_R.same hv (h.1 q hq), fun w hw => va_Nw.same (nw_tab (nW_nest w hw)) hv.symm (h.2 w hw)⟩
theorem Sx.go {G : gT} {s U : State} {locs : List Loc} (h : Sx G s) (hW : s.WarmedH U.vm) (hS : va_S (gA G) s.heap U.heap locs) : Sx G U :=
  ⟨va_K.moved hW.alike h.1, h.2.1.warm hW, (h.2.2.1.moved hW.alike).kept hS.2.1, Nat.le_trans h.2.2.2 hS.1⟩
theorem Sx.call {G : gT} {U : State} {g : JFrame} {mk : MethodId} {a : Array Value} (h : Sx G U) : Sx G (U.calling g mk a) :=
  ⟨va_K.moved (u := U) (U := U.calling g mk a) (Vm.Alike.refl U.vm) h.1, SR.same (u := U) rfl h.2.1, RO.moved (u := U) (U := U.calling g mk a) (Vm.Alike.refl U.vm) h.2.2.1, h.2.2.2⟩
/-- the locals, by their places -/
def lh (G : gT) (ls : Array Slot) (n : Nat) (lc : List (Option Value)) : Prop := ls.size = n ∧ lv_wf ls ∧ ∀ (i : Nat) (v : Value), lc[i]? = some (some v) → ls[i]? = some (.val (gre G v))
/-- a method's end -/
def mQ (G : gT) (Q : Option Value → wT → Prop) : Array Value → State → Outcome → State → Prop := fun _ st o t => ∃ (r : Option Value) (w : wT), o = .returned (r.map (gre G)) ∧ Q r w ∧ Hp G w t.heap ∧ va_F (gA G) st t
def Cx (G : gT) (M : mT) (p : Program) (s : State) (m : MethodId) (args : Array Value) (meth : Method) (c : Code) : Prop :=
  p.tables.exec = Jvm.exec ∧ c.code = mC M ∧ meth.sig.returnType = mRt M ∧ c.maxLocals = mLn M ∧ s.vm.findClass (mOwn M) = some m.cls ∧ (∀ w ∈ aW, w.before args s = true) ∧ meth.locks = false ∧ meth.name = (mY M).name ∧ Sx G s
/-- the walk: from this place of the method, with these locals, this stack, this world, it comes to an end with Q -/
def V (G : gT) (M : mT) (Q : Option Value → wT → Prop) (kc ks pc : Nat) (lc : List (Option Value)) (st : List Value) (w : wT) : Prop :=
  ∀ (p : Program) (l : Launch) (e : Env) (s : State) (m : MethodId) (args : Array Value) (below : List Frame) (meth : Method) (c : Code) (H : Heap) (locs : List Loc) (ls : Array Slot),
    Cx G M p s m args meth c → Hp G w H → va_S (gA G) s.heap H locs → lh G ls (mLn M) lc →
    W p l e (mRm M) s m args below meth c H locs kc ks (MQ below (mQ G Q) args s (mRm M).cells (mRm M).slots (gA G)) (F0 m pc ls (st.map (gre G)))
/-- a method's contract at these arguments in this world -/
def Meets (G : gT) (M : mT) (av : List Value) (w : wT) (Q : Option Value → wT → Prop) : Prop :=
  ∀ l : Launch, Met l (mY M) (mWs M) (mRm M) (fun v U => v = (av.map (gre G)).toArray ∧ Hp G w U.heap ∧ Sx G U) (mQ G Q) (mRm M).cells (mRm M).slots (gA G)
def lcOf : List Value → List (Option Value)
  | [] => []
  | v :: r => match v.category with
    | 2 => some v :: none :: lcOf r
    | _ => some v :: lcOf r
theorem lv_args_ge : ∀ (vs : List Value) (b : Nat) (q : Nat × Value), q ∈ lv_args b vs → b ≤ q.1 := by
  intro vs
  induction vs with
  | nil => intro b q h; cases h
  | cons v r ih =>
    intro b q h
    rcases List.mem_cons.mp h with h | h
    · subst h; exact Nat.le_refl _
    · have := ih _ q h
      split at this <;> omega
theorem lcOf_args (G : gT) : ∀ (vs : List Value) (b i : Nat) (v : Value), (lcOf vs)[i]? = some (some v) → (b + i, gre G v) ∈ lv_args b (vs.map (gre G)) := by
  intro vs
  induction vs with
  | nil => intro b i v h; simp [lcOf] at h
  | cons u r ih =>
    intro b i v h
    simp only [List.map_cons, lv_args, gre_cat]
    by_cases hc : u.category = 2
    · simp only [lcOf, hc] at h
      match i, h with
      | 0, h =>
        simp at h
        subst h
        exact List.mem_cons_self
      | 1, h => simp at h
      | i + 2, h =>
        simp at h
        refine List.mem_cons_of_mem _ ?_
        rw [if_pos hc]
        have := ih (b + 2) i v h
        rw [show b + (i + 2) = b + 2 + i by omega]
        exact this
    · have e : lcOf (u :: r) = some u :: lcOf r := by
        simp only [lcOf]
      rw [e] at h
      match i, h with
      | 0, h =>
        simp at h
        subst h
        exact List.mem_cons_self
      | i + 1, h =>
        simp at h
        refine List.mem_cons_of_mem _ ?_
        rw [if_neg hc]
        have := ih (b + 1) i v h
        rw [show b + (i + 1) = b + 1 + i by omega]
        exact this
theorem lg_sl_len (G : gT) : ∀ vs : List Value, (lg_sl (vs.map (gre G))).length = (lcOf vs).length := by
  intro vs
  induction vs with
  | nil => rfl
  | cons v r ih =>
    have e1 : lg_sl ((v :: r).map (gre G)) = (if (gre G v).category = 2 then [Slot.val (gre G v), Slot.second] else [Slot.val (gre G v)]) ++ lg_sl (r.map (gre G)) := by
      simp [lg_sl]
    rw [e1, List.length_append, ih, gre_cat]
    by_cases hc : v.category = 2
    · simp only [lcOf, hc, if_pos]
      simp; omega
    · have e : lcOf (v :: r) = some v :: lcOf r := by
        simp only [lcOf]
      rw [e, if_neg hc]
      simp; omega
theorem V.enter {G : gT} {M : mT} {av : List Value} {w : wT} {Q : Option Value → wT → Prop} {lc : List (Option Value)} (hpl : (plainName (mY M).cls && ((mY M).cls == mOwn M)) = true) (hlc : lcOf av ++ List.replicate (mLn M - (lcOf av).length) none = lc) (hn : (lcOf av).length ≤ mLn M) (h : V G M Q 0 0 0 lc [] w) : Meets G M av w Q := by
  intro l
  have hpl1 := (Bool.and_eq_true _ _ ▸ hpl).1
  have hpl2 : (mY M).cls = mOwn M := by
    have := (Bool.and_eq_true _ _ ▸ hpl).2
    simpa using this
  refine Met.ofW (cc := mC M) (maxL := mLn M) (ret := mRt M) hpl1 rfl ?_
  intro p e s m args below meth c s₁ B hml hv
  obtain ⟨rfl, hP, hX⟩ := hv
  have hts := atoms_spec (ws := mWs M) B.pre
  have hown : s.vm.findClass (mOwn M) = some m.cls := by rw [← hpl2]; exact findClass_of_methodNamed B.named
  have hl := lv_entry (av.map (gre G)) (n := mLn M) (by rw [lg_sl_len]; exact hn)
  rw [lg_entry_eq]
  refine h p l e s m _ below meth c s.heap [] _ ⟨B.exec, B.bytes, B.returns, hml, hown, fun w hw => hts w (List.mem_cons_of_mem _ hw), B.notSynchronized, (name_of_methodNamed B.named B.method).1, hX⟩ hP va_S.rf ⟨hl.1, hl.2.1, fun i v hi => ?_⟩
  subst hlc
  by_cases hi2 : i < (lcOf av).length
  · rw [List.getElem?_append_left hi2] at hi
    have := lcOf_args G av 0 i v hi
    rw [Nat.zero_add] at this
    exact hl.2.2 _ this
  · rw [List.getElem?_append_right (by omega)] at hi
    have := List.eq_of_mem_replicate (List.mem_of_getElem? hi)
    cases this
end
section
/-- a decoded row: the instruction, its length, the next place; a jump's row: the next place and the target -/
abbrev dc (M : mT) (pc : Nat) (i : Instr) (n q : Nat) : Prop := decode (mC M) pc = .ok (i, n) ∧ pc + n = q
abbrev dj (M : mT) (pc : Nat) (i : Int → Instr) (q t : Nat) : Prop := ∃ off : Int, decode (mC M) pc = .ok (i off, 3) ∧ pc + 3 = q ∧ (pc : Int) + off = (t : Int)
section R5
variable {G : gT} {M : mT} {Q : Option Value → wT → Prop} {kc ks pc q t : Nat} {lc lc' : List (Option Value)} {st : List Value} {w : wT}
theorem V.eqw {w' : wT} (h : w = w') (k : V G M Q kc ks pc lc st w') : V G M Q kc ks pc lc st w := h ▸ k
theorem V.top {v v' : Value} (h : v = v') (k : V G M Q kc ks pc lc (v' :: st) w) : V G M Q kc ks pc lc (v :: st) w := h ▸ k
theorem V.topi {z z' : Int} (h : z = z') (k : V G M Q kc ks pc lc (vi z' :: st) w) : V G M Q kc ks pc lc (vi z :: st) w := h ▸ k
theorem V.topl {z z' : Int} (h : z = z') (k : V G M Q kc ks pc lc (vl z' :: st) w) : V G M Q kc ks pc lc (vl z :: st) w := h ▸ k
/-- a computed number gets a name -/
theorem V.geni {z : Int} (k : ∀ y : Int, y = z → V G M Q kc ks pc lc (vi y :: st) w) : V G M Q kc ks pc lc (vi z :: st) w := k z rfl
theorem V.genl {z : Int} (k : ∀ y : Int, y = z → V G M Q kc ks pc lc (vl y :: st) w) : V G M Q kc ks pc lc (vl z :: st) w := k z rfl
theorem V.weaken {Q' : Option Value → wT → Prop} (h : ∀ r w, Q' r w → Q r w) (k : V G M Q' kc ks pc lc st w) : V G M Q kc ks pc lc st w := by
  intro p l e s m args below meth c H locs ls C hP hS hl T hT X
  obtain ⟨t, h1, o, h2, h3, ⟨r, w', h4, h5, h6, h7⟩, h8⟩ := k p l e s m args below meth c H locs ls C hP hS hl T hT X
  exact ⟨t, h1, o, h2, h3, ⟨r, w', h4, h r w' h5, h6, h7⟩, h8⟩
theorem Vr_iadd {x y : Int32} (d : dc M pc .iadd 1 q) (k : V G M Q kc ks q lc (.int (x + y) :: st) w) : V G M Q kc ks pc lc (.int y :: .int x :: st) w := by
  obtain ⟨d, rfl⟩ := d
  intro p l e s m args below meth c H locs ls C hP hS hl
  have k := k p l e s m args below meth c H locs ls C hP hS hl
  exact lv_iadd C.1 C.2.1 d k
theorem Vr_isub {x y : Int32} (d : dc M pc .isub 1 q) (k : V G M Q kc ks q lc (.int (x - y) :: st) w) : V G M Q kc ks pc lc (.int y :: .int x :: st) w := by
  obtain ⟨d, rfl⟩ := d
  intro p l e s m args below meth c H locs ls C hP hS hl
  have k := k p l e s m args below meth c H locs ls C hP hS hl
  exact lv_isub C.1 C.2.1 d k
theorem Vr_imul {x y : Int32} (d : dc M pc .imul 1 q) (k : V G M Q kc ks q lc (.int (x * y) :: st) w) : V G M Q kc ks pc lc (.int y :: .int x :: st) w := by
  obtain ⟨d, rfl⟩ := d
  intro p l e s m args below meth c H locs ls C hP hS hl
  have k := k p l e s m args below meth c H locs ls C hP hS hl
  exact lv_imul C.1 C.2.1 d k
theorem Vr_iand {x y : Int32} (d : dc M pc .iand 1 q) (k : V G M Q kc ks q lc (.int (x &&& y) :: st) w) : V G M Q kc ks pc lc (.int y :: .int x :: st) w := by
  obtain ⟨d, rfl⟩ := d
  intro p l e s m args below meth c H locs ls C hP hS hl
  have k := k p l e s m args below meth c H locs ls C hP hS hl
  exact lv_iand C.1 C.2.1 d k
theorem Vr_ior {x y : Int32} (d : dc M pc .ior 1 q) (k : V G M Q kc ks q lc (.int (x ||| y) :: st) w) : V G M Q kc ks pc lc (.int y :: .int x :: st) w := by
  obtain ⟨d, rfl⟩ := d
  intro p l e s m args below meth c H locs ls C hP hS hl
  have k := k p l e s m args below meth c H locs ls C hP hS hl
  exact lv_ior C.1 C.2.1 d k
theorem Vr_ixor {x y : Int32} (d : dc M pc .ixor 1 q) (k : V G M Q kc ks q lc (.int (x ^^^ y) :: st) w) : V G M Q kc ks pc lc (.int y :: .int x :: st) w := by
  obtain ⟨d, rfl⟩ := d
  intro p l e s m args below meth c H locs ls C hP hS hl
  have k := k p l e s m args below meth c H locs ls C hP hS hl
  exact lv_ixor C.1 C.2.1 d k
theorem Vr_ishl {x y : Int32} (d : dc M pc .ishl 1 q) (k : V G M Q kc ks q lc (.int (x <<< (y &&& 31)) :: st) w) : V G M Q kc ks pc lc (.int y :: .int x :: st) w := by
  obtain ⟨d, rfl⟩ := d
  intro p l e s m args below meth c H locs ls C hP hS hl
  have k := k p l e s m args below meth c H locs ls C hP hS hl
  exact lv_ishl C.1 C.2.1 d k
theorem Vr_ishr {x y : Int32} (d : dc M pc .ishr 1 q) (k : V G M Q kc ks q lc (.int (x >>> (y &&& 31)) :: st) w) : V G M Q kc ks pc lc (.int y :: .int x :: st) w := by
  obtain ⟨d, rfl⟩ := d
  intro p l e s m args below meth c H locs ls C hP hS hl
  have k := k p l e s m args below meth c H locs ls C hP hS hl
  exact lv_ishr C.1 C.2.1 d k
theorem Vr_ladd {x y : Int64} (d : dc M pc .ladd 1 q) (k : V G M Q kc ks q lc (.long (x + y) :: st) w) : V G M Q kc ks pc lc (.long y :: .long x :: st) w := by
  obtain ⟨d, rfl⟩ := d
  intro p l e s m args below meth c H locs ls C hP hS hl
  have k := k p l e s m args below meth c H locs ls C hP hS hl
  exact lv_ladd C.1 C.2.1 d k
theorem Vr_lsub {x y : Int64} (d : dc M pc .lsub 1 q) (k : V G M Q kc ks q lc (.long (x - y) :: st) w) : V G M Q kc ks pc lc (.long y :: .long x :: st) w := by
  obtain ⟨d, rfl⟩ := d
  intro p l e s m args below meth c H locs ls C hP hS hl
  have k := k p l e s m args below meth c H locs ls C hP hS hl
  exact lv_lsub C.1 C.2.1 d k
theorem Vr_lmul {x y : Int64} (d : dc M pc .lmul 1 q) (k : V G M Q kc ks q lc (.long (x * y) :: st) w) : V G M Q kc ks pc lc (.long y :: .long x :: st) w := by
  obtain ⟨d, rfl⟩ := d
  intro p l e s m args below meth c H locs ls C hP hS hl
  have k := k p l e s m args below meth c H locs ls C hP hS hl
  exact lv_lmul C.1 C.2.1 d k
theorem Vr_land {x y : Int64} (d : dc M pc .land 1 q) (k : V G M Q kc ks q lc (.long (x &&& y) :: st) w) : V G M Q kc ks pc lc (.long y :: .long x :: st) w := by
  obtain ⟨d, rfl⟩ := d
  intro p l e s m args below meth c H locs ls C hP hS hl
  have k := k p l e s m args below meth c H locs ls C hP hS hl
  exact lv_land C.1 C.2.1 d k
theorem Vr_lor {x y : Int64} (d : dc M pc .lor 1 q) (k : V G M Q kc ks q lc (.long (x ||| y) :: st) w) : V G M Q kc ks pc lc (.long y :: .long x :: st) w := by
  obtain ⟨d, rfl⟩ := d
  intro p l e s m args below meth c H locs ls C hP hS hl
  have k := k p l e s m args below meth c H locs ls C hP hS hl
  exact lv_lor C.1 C.2.1 d k
theorem Vr_iushr {x y : Int32} (d : dc M pc .iushr 1 q) (k : V G M Q kc ks q lc (.int ((x.toUInt32 >>> (y.toUInt32 &&& Int32.toUInt32 31)).toInt32) :: st) w) : V G M Q kc ks pc lc (.int y :: .int x :: st) w := by
  obtain ⟨d, rfl⟩ := d
  intro p l e s m args below meth c H locs ls C hP hS hl
  have k := k p l e s m args below meth c H locs ls C hP hS hl
  exact lv_iushr C.1 C.2.1 d rfl k
theorem Vr_lshl {x : Int64} {y : Int32} (d : dc M pc .lshl 1 q) (k : V G M Q kc ks q lc (.long (x <<< (y.toInt64 &&& 63)) :: st) w) : V G M Q kc ks pc lc (.int y :: .long x :: st) w := by
  obtain ⟨d, rfl⟩ := d
  intro p l e s m args below meth c H locs ls C hP hS hl
  have k := k p l e s m args below meth c H locs ls C hP hS hl
  exact lv_lshl C.1 C.2.1 d rfl k
theorem Vr_lshr {x : Int64} {y : Int32} (d : dc M pc .lshr 1 q) (k : V G M Q kc ks q lc (.long (x >>> (y.toInt64 &&& 63)) :: st) w) : V G M Q kc ks pc lc (.int y :: .long x :: st) w := by
  obtain ⟨d, rfl⟩ := d
  intro p l e s m args below meth c H locs ls C hP hS hl
  have k := k p l e s m args below meth c H locs ls C hP hS hl
  exact lv_lshr C.1 C.2.1 d rfl k
theorem Vr_lushr {x : Int64} {y : Int32} (d : dc M pc .lushr 1 q) (k : V G M Q kc ks q lc (.long ((x.toUInt64 >>> (y.toInt64.toUInt64 &&& Int64.toUInt64 63)).toInt64) :: st) w) : V G M Q kc ks pc lc (.int y :: .long x :: st) w := by
  obtain ⟨d, rfl⟩ := d
  intro p l e s m args below meth c H locs ls C hP hS hl
  have k := k p l e s m args below meth c H locs ls C hP hS hl
  exact lv_lushr C.1 C.2.1 d rfl k
theorem Vr_ineg {x : Int32} (d : dc M pc .ineg 1 q) (k : V G M Q kc ks q lc (.int (-x) :: st) w) : V G M Q kc ks pc lc (.int x :: st) w := by
  obtain ⟨d, rfl⟩ := d
  intro p l e s m args below meth c H locs ls C hP hS hl
  have k := k p l e s m args below meth c H locs ls C hP hS hl
  exact lv_ineg C.1 C.2.1 d k
theorem Vr_i2l {x : Int32} (d : dc M pc .i2l 1 q) (k : V G M Q kc ks q lc (.long x.toInt64 :: st) w) : V G M Q kc ks pc lc (.int x :: st) w := by
  obtain ⟨d, rfl⟩ := d
  intro p l e s m args below meth c H locs ls C hP hS hl
  have k := k p l e s m args below meth c H locs ls C hP hS hl
  exact lv_i2l C.1 C.2.1 d rfl k
theorem Vr_l2i {x : Int64} (d : dc M pc .l2i 1 q) (k : V G M Q kc ks q lc (.int x.toInt32 :: st) w) : V G M Q kc ks pc lc (.long x :: st) w := by
  obtain ⟨d, rfl⟩ := d
  intro p l e s m args below meth c H locs ls C hP hS hl
  have k := k p l e s m args below meth c H locs ls C hP hS hl
  exact lv_l2i C.1 C.2.1 d rfl k
theorem Vr_i2c {x : Int32} (d : dc M pc .i2c 1 q) (k : V G M Q kc ks q lc (.int ((x.toUInt32 % 65536).toInt32) :: st) w) : V G M Q kc ks pc lc (.int x :: st) w := by
  obtain ⟨d, rfl⟩ := d
  intro p l e s m args below meth c H locs ls C hP hS hl
  have k := k p l e s m args below meth c H locs ls C hP hS hl
  exact lv_i2c C.1 C.2.1 d rfl k
theorem Vr_idiv {x y : Int32} (hne : ¬ y = 0) (d : dc M pc .idiv 1 q) (k : V G M Q kc ks q lc (.int (x / y) :: st) w) : V G M Q kc ks pc lc (.int y :: .int x :: st) w := by
  obtain ⟨d, rfl⟩ := d
  intro p l e s m args below meth c H locs ls C hP hS hl
  have k := k p l e s m args below meth c H locs ls C hP hS hl
  exact lv_idiv C.1 C.2.1 d hne k
theorem Vr_irem {x y : Int32} (hne : ¬ y = 0) (d : dc M pc .irem 1 q) (k : V G M Q kc ks q lc (.int (x - x / y * y) :: st) w) : V G M Q kc ks pc lc (.int y :: .int x :: st) w := by
  obtain ⟨d, rfl⟩ := d
  intro p l e s m args below meth c H locs ls C hP hS hl
  have k := k p l e s m args below meth c H locs ls C hP hS hl
  exact lv_irem C.1 C.2.1 d hne k
theorem Vr_ldiv {x y : Int64} (hne : ¬ y = 0) (d : dc M pc .ldiv 1 q) (k : V G M Q kc ks q lc (.long (x / y) :: st) w) : V G M Q kc ks pc lc (.long y :: .long x :: st) w := by
  obtain ⟨d, rfl⟩ := d
  intro p l e s m args below meth c H locs ls C hP hS hl
  have k := k p l e s m args below meth c H locs ls C hP hS hl
  exact lv_ldiv C.1 C.2.1 d hne k
theorem Vr_lcmp {x y : Int64} (d : dc M pc .lcmp 1 q) (k : V G M Q kc ks q lc (.int (lg_cmp x y) :: st) w) : V G M Q kc ks pc lc (.long y :: .long x :: st) w := by
  obtain ⟨d, rfl⟩ := d
  intro p l e s m args below meth c H locs ls C hP hS hl
  have k := k p l e s m args below meth c H locs ls C hP hS hl
  exact W.lcmp C.1 C.2.1 d k
theorem V_iconst {n : Int} (d : dc M pc (.iconst n) 1 q) (k : V G M Q kc ks q lc (vi n :: st) w) : V G M Q kc ks pc lc st w := by
  obtain ⟨d, rfl⟩ := d
  intro p l e s m args below meth c H locs ls C hP hS hl
  have k := k p l e s m args below meth c H locs ls C hP hS hl
  exact lv_iconst C.1 C.2.1 d rfl k
theorem V_bipush {n : Int} (hv : (Int8.ofInt n).toInt32 = Int32.ofInt n) (d : dc M pc (.bipush n) 2 q) (k : V G M Q kc ks q lc (vi n :: st) w) : V G M Q kc ks pc lc st w := by
  obtain ⟨d, rfl⟩ := d
  intro p l e s m args below meth c H locs ls C hP hS hl
  have k := k p l e s m args below meth c H locs ls C hP hS hl
  exact lv_bipush C.1 C.2.1 d hv k
theorem V_sipush {n : Int} (hv : (Int16.ofInt n).toInt32 = Int32.ofInt n) (d : dc M pc (.sipush n) 3 q) (k : V G M Q kc ks q lc (vi n :: st) w) : V G M Q kc ks pc lc st w := by
  obtain ⟨d, rfl⟩ := d
  intro p l e s m args below meth c H locs ls C hP hS hl
  have k := k p l e s m args below meth c H locs ls C hP hS hl
  exact lv_sipush C.1 C.2.1 d hv k
theorem V_lconst {n : Fin 2} {z : Int} (hv : Int64.ofNat (n : Nat) = Int64.ofInt z) (d : dc M pc (.lconst n) 1 q) (k : V G M Q kc ks q lc (vl z :: st) w) : V G M Q kc ks pc lc st w := by
  obtain ⟨d, rfl⟩ := d
  intro p l e s m args below meth c H locs ls C hP hS hl
  have k := k p l e s m args below meth c H locs ls C hP hS hl
  exact lv_lconst C.1 C.2.1 d hv k
theorem V_ldc {i : Nat} {z : Int} (hc : Cond.constant (mOwn M) i (Int32.ofInt z) ∈ aW) (d : dc M pc (.ldc i) 2 q) (k : V G M Q kc ks q lc (vi z :: st) w) : V G M Q kc ks pc lc st w := by
  obtain ⟨d, rfl⟩ := d
  intro p l e s m args below meth c H locs ls C hP hS hl
  have k := k p l e s m args below meth c H locs ls C hP hS hl
  exact lv_ldc C.1 C.2.1 C.2.2.2.2.1 (C.2.2.2.2.2.1 _ hc) d k
theorem V_ldcw {i : Nat} {z : Int} (hc : Cond.constant (mOwn M) i (Int32.ofInt z) ∈ aW) (d : dc M pc (.ldc_w i) 3 q) (k : V G M Q kc ks q lc (vi z :: st) w) : V G M Q kc ks pc lc st w := by
  obtain ⟨d, rfl⟩ := d
  intro p l e s m args below meth c H locs ls C hP hS hl
  have k := k p l e s m args below meth c H locs ls C hP hS hl
  exact lv_ldcw C.1 C.2.1 C.2.2.2.2.1 (C.2.2.2.2.2.1 _ hc) d k
theorem V_ldc2 {i : Nat} {z : Int} (hc : Cond.constantLong (mOwn M) i (Int64.ofInt z) ∈ aW) (d : dc M pc (.ldc2_w i) 3 q) (k : V G M Q kc ks q lc (vl z :: st) w) : V G M Q kc ks pc lc st w := by
  obtain ⟨d, rfl⟩ := d
  intro p l e s m args below meth c H locs ls C hP hS hl
  have k := k p l e s m args below meth c H locs ls C hP hS hl
  exact lv_ldc2 C.1 C.2.1 C.2.2.2.2.1 (C.2.2.2.2.2.1 _ hc) d k
theorem V_dup {v : Value} (hc : v.category = 1) (d : dc M pc .dup 1 q) (k : V G M Q kc ks q lc (v :: v :: st) w) : V G M Q kc ks pc lc (v :: st) w := by
  obtain ⟨d, rfl⟩ := d
  intro p l e s m args below meth c H locs ls C hP hS hl
  have k := k p l e s m args below meth c H locs ls C hP hS hl
  exact lv_dup C.1 C.2.1 d ((gre_cat G v).trans hc) k
theorem V_dup2 {v u : Value} (hv : v.category = 1) (hu : u.category = 1) (d : dc M pc .dup2 1 q) (k : V G M Q kc ks q lc (v :: u :: v :: u :: st) w) : V G M Q kc ks pc lc (v :: u :: st) w := by
  obtain ⟨d, rfl⟩ := d
  intro p l e s m args below meth c H locs ls C hP hS hl
  have k := k p l e s m args below meth c H locs ls C hP hS hl
  exact lv_dup2_11 C.1 C.2.1 d ((gre_cat G v).trans hv) ((gre_cat G u).trans hu) k
theorem V_pop {v : Value} (hc : v.category = 1) (d : dc M pc .pop 1 q) (k : V G M Q kc ks q lc st w) : V G M Q kc ks pc lc (v :: st) w := by
  obtain ⟨d, rfl⟩ := d
  intro p l e s m args below meth c H locs ls C hP hS hl
  have k := k p l e s m args below meth c H locs ls C hP hS hl
  exact lv_pop C.1 C.2.1 d ((gre_cat G v).trans hc) k
theorem V_iload {i : Nat} {a : Int} (h : lc[i]? = some (some (vi a))) (d : dc M pc (.iload i) 2 q) (k : V G M Q kc ks q lc (vi a :: st) w) : V G M Q kc ks pc lc st w := by
  obtain ⟨d, rfl⟩ := d
  intro p l e s m args below meth c H locs ls C hP hS hl
  have k := k p l e s m args below meth c H locs ls C hP hS hl
  exact lv_iload C.1 C.2.1 d (hl.2.2 i _ h) k
theorem V_iload_n {i : Fin 4} {a : Int} (h : lc[(i : Nat)]? = some (some (vi a))) (d : dc M pc (.iload_n i) 1 q) (k : V G M Q kc ks q lc (vi a :: st) w) : V G M Q kc ks pc lc st w := by
  obtain ⟨d, rfl⟩ := d
  intro p l e s m args below meth c H locs ls C hP hS hl
  have k := k p l e s m args below meth c H locs ls C hP hS hl
  exact lv_iload_n C.1 C.2.1 d rfl (hl.2.2 _ _ h) k
theorem V_lload {i : Nat} {a : Int} (h : lc[i]? = some (some (vl a))) (d : dc M pc (.lload i) 2 q) (k : V G M Q kc ks q lc (vl a :: st) w) : V G M Q kc ks pc lc st w := by
  obtain ⟨d, rfl⟩ := d
  intro p l e s m args below meth c H locs ls C hP hS hl
  have k := k p l e s m args below meth c H locs ls C hP hS hl
  exact lv_lload C.1 C.2.1 d (hl.2.2 i _ h) k
theorem V_lload_n {i : Fin 4} {a : Int} (h : lc[(i : Nat)]? = some (some (vl a))) (d : dc M pc (.lload_n i) 1 q) (k : V G M Q kc ks q lc (vl a :: st) w) : V G M Q kc ks pc lc st w := by
  obtain ⟨d, rfl⟩ := d
  intro p l e s m args below meth c H locs ls C hP hS hl
  have k := k p l e s m args below meth c H locs ls C hP hS hl
  exact lv_lload_n C.1 C.2.1 d rfl (hl.2.2 _ _ h) k
theorem V_aload {i : Nat} {a : Nat} (h : lc[i]? = some (some (.ref a))) (d : dc M pc (.aload i) 2 q) (k : V G M Q kc ks q lc (.ref a :: st) w) : V G M Q kc ks pc lc st w := by
  obtain ⟨d, rfl⟩ := d
  intro p l e s m args below meth c H locs ls C hP hS hl
  have k := k p l e s m args below meth c H locs ls C hP hS hl
  exact lv_aload C.1 C.2.1 d (hl.2.2 i _ h) k
theorem V_aload_n {i : Fin 4} {a : Nat} (h : lc[(i : Nat)]? = some (some (.ref a))) (d : dc M pc (.aload_n i) 1 q) (k : V G M Q kc ks q lc (.ref a :: st) w) : V G M Q kc ks pc lc st w := by
  obtain ⟨d, rfl⟩ := d
  intro p l e s m args below meth c H locs ls C hP hS hl
  have k := k p l e s m args below meth c H locs ls C hP hS hl
  exact lv_aload_n C.1 C.2.1 d rfl (hl.2.2 _ _ h) k
/-- a value stored at a local: what is known of the locals behind it -/
def lcR (i : Nat) (v : Value) (lc lc' : List (Option Value)) : Prop := ∀ (j : Nat) (u : Value), lc'[j]? = some (some u) → (j = i ∧ u = v) ∨ (j ≠ i ∧ lc[j]? = some (some u) ∧ ¬ (j + 1 = i ∧ u.category = 2) ∧ (v.category = 2 → j ≠ i + 1))
def la (G : gT) (lc : List (Option Value)) : List (Nat × Value) := (List.range lc.length).filterMap (fun i => match lc[i]? with
  | some (some v) => some (i, gre G v)
  | _ => none)
theorem la_of {G : gT} {lc : List (Option Value)} {i : Nat} {v : Value} (h : lc[i]? = some (some v)) : (i, gre G v) ∈ la G lc := by
  refine List.mem_filterMap.mpr ⟨i, List.mem_range.mpr (List.getElem?_eq_some_iff.mp h).1, ?_⟩
  rw [h]
theorem la_to {G : gT} {lc : List (Option Value)} {q : Nat × Value} (h : q ∈ la G lc) : ∃ v, lc[q.1]? = some (some v) ∧ q.2 = gre G v := by
  obtain ⟨i, -, h2⟩ := List.mem_filterMap.mp h
  split at h2
  · rename_i v hv
    cases h2
    exact ⟨v, hv, rfl⟩
  · cases h2
theorem lh.has {G : gT} {ls : Array Slot} {n : Nat} {lc : List (Option Value)} (h : lh G ls n lc) : lv_has ls n (la G lc) := ⟨h.1, h.2.1, fun q hq => by
  obtain ⟨v, h1, h2⟩ := la_to hq
  rw [h2]
  exact h.2.2 _ _ h1⟩
theorem lh.set1 {G : gT} {ls : Array Slot} {n i : Nat} {v : Value} {lc lc' : List (Option Value)} (hc : v.category = 1) (hr : lcR i v lc lc') (h : lv_has ls n ((i, gre G v) :: (la G lc).filter (fun q => !(q.1 == i) && !(q.1 + 1 == i && q.2.category == 2)))) : lh G ls n lc' := by
  refine ⟨h.1, h.2.1, fun j u hu => ?_⟩
  rcases hr j u hu with ⟨rfl, rfl⟩ | ⟨h1, h2, h3, -⟩
  · exact h.2.2 _ List.mem_cons_self
  · refine h.2.2 (j, gre G u) (List.mem_cons_of_mem _ (List.mem_filter.mpr ⟨la_of h2, ?_⟩))
    simp only [gre_cat]
    simp [h1]
    exact Classical.not_and_iff_not_or_not.mp h3
theorem lh.set2 {G : gT} {ls : Array Slot} {n i : Nat} {v : Value} {lc lc' : List (Option Value)} (hc : v.category = 2) (hr : lcR i v lc lc') (h : lv_has ls n ((i, gre G v) :: (la G lc).filter (fun q => !(q.1 == i) && (!(q.1 == i + 1) && !(q.1 + 1 == i && q.2.category == 2))))) : lh G ls n lc' := by
  refine ⟨h.1, h.2.1, fun j u hu => ?_⟩
  rcases hr j u hu with ⟨rfl, rfl⟩ | ⟨h1, h2, h3, h6⟩
  · exact h.2.2 _ List.mem_cons_self
  · refine h.2.2 (j, gre G u) (List.mem_cons_of_mem _ (List.mem_filter.mpr ⟨la_of h2, ?_⟩))
    simp only [gre_cat]
    simp [h1, h6 hc]
    exact Classical.not_and_iff_not_or_not.mp h3
theorem V_istore {i : Nat} {a : Int} (hn : i < mLn M) (hr : lcR i (vi a) lc lc') (d : dc M pc (.istore i) 2 q) (k : V G M Q kc ks q lc' st w) : V G M Q kc ks pc lc (vi a :: st) w := by
  obtain ⟨d, rfl⟩ := d
  intro p l e s m args below meth c H locs ls C hP hS hl
  exact lv_istore C.1 C.2.1 d hl.has hn rfl fun ls' hl' => k p l e s m args below meth c H locs ls' C hP hS (lh.set1 (v := vi a) rfl hr hl')
theorem V_istore_n {i : Fin 4} {a : Int} (hn : (i : Nat) < mLn M) (hr : lcR (i : Nat) (vi a) lc lc') (d : dc M pc (.istore_n i) 1 q) (k : V G M Q kc ks q lc' st w) : V G M Q kc ks pc lc (vi a :: st) w := by
  obtain ⟨d, rfl⟩ := d
  intro p l e s m args below meth c H locs ls C hP hS hl
  exact lv_istore_n C.1 C.2.1 d rfl hl.has hn rfl fun ls' hl' => k p l e s m args below meth c H locs ls' C hP hS (lh.set1 (v := vi a) rfl hr hl')
theorem V_lstore {i : Nat} {a : Int} (hn : i + 1 < mLn M) (hr : lcR i (vl a) lc lc') (d : dc M pc (.lstore i) 2 q) (k : V G M Q kc ks q lc' st w) : V G M Q kc ks pc lc (vl a :: st) w := by
  obtain ⟨d, rfl⟩ := d
  intro p l e s m args below meth c H locs ls C hP hS hl
  exact lv_lstore C.1 C.2.1 d hl.has hn rfl fun ls' hl' => k p l e s m args below meth c H locs ls' C hP hS (lh.set2 (v := vl a) rfl hr hl')
theorem V_lstore_n {i : Fin 4} {a : Int} (hn : (i : Nat) + 1 < mLn M) (hr : lcR (i : Nat) (vl a) lc lc') (d : dc M pc (.lstore_n i) 1 q) (k : V G M Q kc ks q lc' st w) : V G M Q kc ks pc lc (vl a :: st) w := by
  obtain ⟨d, rfl⟩ := d
  intro p l e s m args below meth c H locs ls C hP hS hl
  exact lv_lstore_n C.1 C.2.1 d rfl hl.has hn rfl fun ls' hl' => k p l e s m args below meth c H locs ls' C hP hS (lh.set2 (v := vl a) rfl hr hl')
theorem V_astore {i : Nat} {a : Nat} (hn : i < mLn M) (hr : lcR i (.ref a) lc lc') (d : dc M pc (.astore i) 2 q) (k : V G M Q kc ks q lc' st w) : V G M Q kc ks pc lc (.ref a :: st) w := by
  obtain ⟨d, rfl⟩ := d
  intro p l e s m args below meth c H locs ls C hP hS hl
  exact lv_astore C.1 C.2.1 d hl.has hn rfl fun ls' hl' => k p l e s m args below meth c H locs ls' C hP hS (lh.set1 (v := .ref a) rfl hr hl')
theorem V_astore_n {i : Fin 4} {a : Nat} (hn : (i : Nat) < mLn M) (hr : lcR (i : Nat) (.ref a) lc lc') (d : dc M pc (.astore_n i) 1 q) (k : V G M Q kc ks q lc' st w) : V G M Q kc ks pc lc (.ref a :: st) w := by
  obtain ⟨d, rfl⟩ := d
  intro p l e s m args below meth c H locs ls C hP hS hl
  exact lv_astore_n C.1 C.2.1 d rfl hl.has hn rfl fun ls' hl' => k p l e s m args below meth c H locs ls' C hP hS (lh.set1 (v := .ref a) rfl hr hl')
theorem V_iinc {i : Nat} {n a : Int} (hn : i < mLn M) (h : lc[i]? = some (some (vi a))) (hr : lcR i (vi (a + n)) lc lc') (d : dc M pc (.iinc i n) 3 q) (k : V G M Q kc ks q lc' st w) : V G M Q kc ks pc lc st w := by
  obtain ⟨d, rfl⟩ := d
  intro p l e s m args below meth c H locs ls C hP hS hl
  obtain ⟨j, hj⟩ := List.getElem?_of_mem (la_of (G := G) h)
  exact lv_iinc C.1 C.2.1 d hl.has hj (by rw [← Int32.ofInt_add]) hn rfl fun ls' hl' => k p l e s m args below meth c H locs ls' C hP hS (lh.set1 (v := vi (a + n)) rfl hr hl')
def nc (a : Option Value) : Bool := match a with
  | some v => v.category != 2
  | none => true
theorem lcR_set {i : Nat} {v : Value} {lc : List (Option Value)} (hv : v.category = 1) (h : ∀ a, i ≠ 0 → lc[i - 1]? = some a → nc a = true) : lcR i v lc (lc.set i (some v)) := by
  intro j u hu
  rw [List.getElem?_set] at hu
  by_cases e : i = j
  · subst e
    rw [if_pos rfl] at hu
    split at hu
    · exact Or.inl ⟨rfl, (Option.some.inj (Option.some.inj hu)).symm⟩
    · cases hu
  · rw [if_neg e] at hu
    refine Or.inr ⟨Ne.symm e, hu, fun ⟨h1, h2⟩ => ?_, fun h3 => by rw [hv] at h3; cases h3⟩
    have := h (some u) (by omega) (by rw [show i - 1 = j by omega]; exact hu)
    simp [nc, h2] at this
theorem lcR_set2 {i : Nat} {v : Value} {lc : List (Option Value)} (h : ∀ a, i ≠ 0 → lc[i - 1]? = some a → nc a = true) : lcR i v lc ((lc.set i (some v)).set (i + 1) none) := by
  intro j u hu
  rw [List.getElem?_set] at hu
  by_cases e2 : i + 1 = j
  · subst e2
    rw [if_pos rfl] at hu
    split at hu <;> cases hu
  · rw [if_neg e2, List.getElem?_set] at hu
    by_cases e : i = j
    · subst e
      rw [if_pos rfl] at hu
      split at hu
      · exact Or.inl ⟨rfl, (Option.some.inj (Option.some.inj hu)).symm⟩
      · cases hu
    · rw [if_neg e] at hu
      refine Or.inr ⟨Ne.symm e, hu, fun ⟨h1, h2⟩ => ?_, fun _ => Ne.symm e2⟩
      have := h (some u) (by omega) (by rw [show i - 1 = j by omega]; exact hu)
      simp [nc, h2] at this
theorem lcR_less {i : Nat} {v : Value} {lc l1 l2 : List (Option Value)} (h : lcR i v l1 l2) (h0 : ∀ (j : Nat) (u : Value), l1[j]? = some (some u) → lc[j]? = some (some u)) : lcR i v lc l2 := by
  intro j u hu
  rcases h j u hu with h | ⟨h1, h2, h3, h4⟩
  · exact Or.inl h
  · exact Or.inr ⟨h1, h0 j u h2, h3, h4⟩
theorem lcx {k : Nat} {lc : List (Option Value)} : ∀ (j : Nat) (u : Value), (lc.set k none)[j]? = some (some u) → lc[j]? = some (some u) := by
  intro j u h
  rw [List.getElem?_set] at h
  by_cases e : k = j
  · rw [if_pos e] at h
    split at h <;> cases h
  · rw [if_neg e] at h
    exact h
theorem s_0 {a0 : Option Value} {r : List (Option Value)} {v : Value} (hv : v.category = 1) : lcR 0 v (a0 :: r) (some v :: r) := lcR_set hv (fun a h9 _ => absurd rfl h9)
theorem t_0 {a0 b : Option Value} {r : List (Option Value)} {v : Value} : lcR 0 v (a0 :: b :: r) (some v :: none :: r) := lcR_set2 (fun a h9 _ => absurd rfl h9)
theorem s_1 {a0 a1 : Option Value} {r : List (Option Value)} {v : Value} (hv : v.category = 1) (h : nc a0 = true) : lcR 1 v (a0 :: a1 :: r) (a0 :: some v :: r) := lcR_set hv (fun a _ h9 => by cases h9; exact h)
theorem t_1 {a0 a1 b : Option Value} {r : List (Option Value)} {v : Value} (h : nc a0 = true) : lcR 1 v (a0 :: a1 :: b :: r) (a0 :: some v :: none :: r) := lcR_set2 (fun a _ h9 => by cases h9; exact h)
theorem sc_1 {a1 x : Option Value} {r : List (Option Value)} {v : Value} (hv : v.category = 1) : lcR 1 v (x :: a1 :: r) (none :: some v :: r) := lcR_less (l1 := none :: a1 :: r) (lcR_set hv (fun a _ h9 => by cases h9; rfl)) (lcx (k := 0) (lc := x :: a1 :: r))
theorem tc_1 {a1 x b : Option Value} {r : List (Option Value)} {v : Value} : lcR 1 v (x :: a1 :: b :: r) (none :: some v :: none :: r) := lcR_less (l1 := none :: a1 :: b :: r) (lcR_set2 (fun a _ h9 => by cases h9; rfl)) (lcx (k := 0) (lc := x :: a1 :: b :: r))
theorem s_2 {a0 a1 a2 : Option Value} {r : List (Option Value)} {v : Value} (hv : v.category = 1) (h : nc a1 = true) : lcR 2 v (a0 :: a1 :: a2 :: r) (a0 :: a1 :: some v :: r) := lcR_set hv (fun a _ h9 => by cases h9; exact h)
theorem t_2 {a0 a1 a2 b : Option Value} {r : List (Option Value)} {v : Value} (h : nc a1 = true) : lcR 2 v (a0 :: a1 :: a2 :: b :: r) (a0 :: a1 :: some v :: none :: r) := lcR_set2 (fun a _ h9 => by cases h9; exact h)
theorem sc_2 {a0 a2 x : Option Value} {r : List (Option Value)} {v : Value} (hv : v.category = 1) : lcR 2 v (a0 :: x :: a2 :: r) (a0 :: none :: some v :: r) := lcR_less (l1 := a0 :: none :: a2 :: r) (lcR_set hv (fun a _ h9 => by cases h9; rfl)) (lcx (k := 1) (lc := a0 :: x :: a2 :: r))
theorem tc_2 {a0 a2 x b : Option Value} {r : List (Option Value)} {v : Value} : lcR 2 v (a0 :: x :: a2 :: b :: r) (a0 :: none :: some v :: none :: r) := lcR_less (l1 := a0 :: none :: a2 :: b :: r) (lcR_set2 (fun a _ h9 => by cases h9; rfl)) (lcx (k := 1) (lc := a0 :: x :: a2 :: b :: r))
theorem s_3 {a0 a1 a2 a3 : Option Value} {r : List (Option Value)} {v : Value} (hv : v.category = 1) (h : nc a2 = true) : lcR 3 v (a0 :: a1 :: a2 :: a3 :: r) (a0 :: a1 :: a2 :: some v :: r) := lcR_set hv (fun a _ h9 => by cases h9; exact h)
theorem t_3 {a0 a1 a2 a3 b : Option Value} {r : List (Option Value)} {v : Value} (h : nc a2 = true) : lcR 3 v (a0 :: a1 :: a2 :: a3 :: b :: r) (a0 :: a1 :: a2 :: some v :: none :: r) := lcR_set2 (fun a _ h9 => by cases h9; exact h)
theorem sc_3 {a0 a1 a3 x : Option Value} {r : List (Option Value)} {v : Value} (hv : v.category = 1) : lcR 3 v (a0 :: a1 :: x :: a3 :: r) (a0 :: a1 :: none :: some v :: r) := lcR_less (l1 := a0 :: a1 :: none :: a3 :: r) (lcR_set hv (fun a _ h9 => by cases h9; rfl)) (lcx (k := 2) (lc := a0 :: a1 :: x :: a3 :: r))
theorem tc_3 {a0 a1 a3 x b : Option Value} {r : List (Option Value)} {v : Value} : lcR 3 v (a0 :: a1 :: x :: a3 :: b :: r) (a0 :: a1 :: none :: some v :: none :: r) := lcR_less (l1 := a0 :: a1 :: none :: a3 :: b :: r) (lcR_set2 (fun a _ h9 => by cases h9; rfl)) (lcx (k := 2) (lc := a0 :: a1 :: x :: a3 :: b :: r))
theorem s_4 {a0 a1 a2 a3 a4 : Option Value} {r : List (Option Value)} {v : Value} (hv : v.category = 1) (h : nc a3 = true) : lcR 4 v (a0 :: a1 :: a2 :: a3 :: a4 :: r) (a0 :: a1 :: a2 :: a3 :: some v :: r) := lcR_set hv (fun a _ h9 => by cases h9; exact h)
theorem t_4 {a0 a1 a2 a3 a4 b : Option Value} {r : List (Option Value)} {v : Value} (h : nc a3 = true) : lcR 4 v (a0 :: a1 :: a2 :: a3 :: a4 :: b :: r) (a0 :: a1 :: a2 :: a3 :: some v :: none :: r) := lcR_set2 (fun a _ h9 => by cases h9; exact h)
theorem sc_4 {a0 a1 a2 a4 x : Option Value} {r : List (Option Value)} {v : Value} (hv : v.category = 1) : lcR 4 v (a0 :: a1 :: a2 :: x :: a4 :: r) (a0 :: a1 :: a2 :: none :: some v :: r) := lcR_less (l1 := a0 :: a1 :: a2 :: none :: a4 :: r) (lcR_set hv (fun a _ h9 => by cases h9; rfl)) (lcx (k := 3) (lc := a0 :: a1 :: a2 :: x :: a4 :: r))
theorem tc_4 {a0 a1 a2 a4 x b : Option Value} {r : List (Option Value)} {v : Value} : lcR 4 v (a0 :: a1 :: a2 :: x :: a4 :: b :: r) (a0 :: a1 :: a2 :: none :: some v :: none :: r) := lcR_less (l1 := a0 :: a1 :: a2 :: none :: a4 :: b :: r) (lcR_set2 (fun a _ h9 => by cases h9; rfl)) (lcx (k := 3) (lc := a0 :: a1 :: a2 :: x :: a4 :: b :: r))
theorem s_5 {a0 a1 a2 a3 a4 a5 : Option Value} {r : List (Option Value)} {v : Value} (hv : v.category = 1) (h : nc a4 = true) : lcR 5 v (a0 :: a1 :: a2 :: a3 :: a4 :: a5 :: r) (a0 :: a1 :: a2 :: a3 :: a4 :: some v :: r) := lcR_set hv (fun a _ h9 => by cases h9; exact h)
theorem t_5 {a0 a1 a2 a3 a4 a5 b : Option Value} {r : List (Option Value)} {v : Value} (h : nc a4 = true) : lcR 5 v (a0 :: a1 :: a2 :: a3 :: a4 :: a5 :: b :: r) (a0 :: a1 :: a2 :: a3 :: a4 :: some v :: none :: r) := lcR_set2 (fun a _ h9 => by cases h9; exact h)
theorem sc_5 {a0 a1 a2 a3 a5 x : Option Value} {r : List (Option Value)} {v : Value} (hv : v.category = 1) : lcR 5 v (a0 :: a1 :: a2 :: a3 :: x :: a5 :: r) (a0 :: a1 :: a2 :: a3 :: none :: some v :: r) := lcR_less (l1 := a0 :: a1 :: a2 :: a3 :: none :: a5 :: r) (lcR_set hv (fun a _ h9 => by cases h9; rfl)) (lcx (k := 4) (lc := a0 :: a1 :: a2 :: a3 :: x :: a5 :: r))
theorem tc_5 {a0 a1 a2 a3 a5 x b : Option Value} {r : List (Option Value)} {v : Value} : lcR 5 v (a0 :: a1 :: a2 :: a3 :: x :: a5 :: b :: r) (a0 :: a1 :: a2 :: a3 :: none :: some v :: none :: r) := lcR_less (l1 := a0 :: a1 :: a2 :: a3 :: none :: a5 :: b :: r) (lcR_set2 (fun a _ h9 => by cases h9; rfl)) (lcx (k := 4) (lc := a0 :: a1 :: a2 :: a3 :: x :: a5 :: b :: r))
theorem s_6 {a0 a1 a2 a3 a4 a5 a6 : Option Value} {r : List (Option Value)} {v : Value} (hv : v.category = 1) (h : nc a5 = true) : lcR 6 v (a0 :: a1 :: a2 :: a3 :: a4 :: a5 :: a6 :: r) (a0 :: a1 :: a2 :: a3 :: a4 :: a5 :: some v :: r) := lcR_set hv (fun a _ h9 => by cases h9; exact h)
theorem t_6 {a0 a1 a2 a3 a4 a5 a6 b : Option Value} {r : List (Option Value)} {v : Value} (h : nc a5 = true) : lcR 6 v (a0 :: a1 :: a2 :: a3 :: a4 :: a5 :: a6 :: b :: r) (a0 :: a1 :: a2 :: a3 :: a4 :: a5 :: some v :: none :: r) := lcR_set2 (fun a _ h9 => by cases h9; exact h)
theorem sc_6 {a0 a1 a2 a3 a4 a6 x : Option Value} {r : List (Option Value)} {v : Value} (hv : v.category = 1) : lcR 6 v (a0 :: a1 :: a2 :: a3 :: a4 :: x :: a6 :: r) (a0 :: a1 :: a2 :: a3 :: a4 :: none :: some v :: r) := lcR_less (l1 := a0 :: a1 :: a2 :: a3 :: a4 :: none :: a6 :: r) (lcR_set hv (fun a _ h9 => by cases h9; rfl)) (lcx (k := 5) (lc := a0 :: a1 :: a2 :: a3 :: a4 :: x :: a6 :: r))
theorem tc_6 {a0 a1 a2 a3 a4 a6 x b : Option Value} {r : List (Option Value)} {v : Value} : lcR 6 v (a0 :: a1 :: a2 :: a3 :: a4 :: x :: a6 :: b :: r) (a0 :: a1 :: a2 :: a3 :: a4 :: none :: some v :: none :: r) := lcR_less (l1 := a0 :: a1 :: a2 :: a3 :: a4 :: none :: a6 :: b :: r) (lcR_set2 (fun a _ h9 => by cases h9; rfl)) (lcx (k := 5) (lc := a0 :: a1 :: a2 :: a3 :: a4 :: x :: a6 :: b :: r))
theorem s_7 {a0 a1 a2 a3 a4 a5 a6 a7 : Option Value} {r : List (Option Value)} {v : Value} (hv : v.category = 1) (h : nc a6 = true) : lcR 7 v (a0 :: a1 :: a2 :: a3 :: a4 :: a5 :: a6 :: a7 :: r) (a0 :: a1 :: a2 :: a3 :: a4 :: a5 :: a6 :: some v :: r) := lcR_set hv (fun a _ h9 => by cases h9; exact h)
theorem t_7 {a0 a1 a2 a3 a4 a5 a6 a7 b : Option Value} {r : List (Option Value)} {v : Value} (h : nc a6 = true) : lcR 7 v (a0 :: a1 :: a2 :: a3 :: a4 :: a5 :: a6 :: a7 :: b :: r) (a0 :: a1 :: a2 :: a3 :: a4 :: a5 :: a6 :: some v :: none :: r) := lcR_set2 (fun a _ h9 => by cases h9; exact h)
theorem sc_7 {a0 a1 a2 a3 a4 a5 a7 x : Option Value} {r : List (Option Value)} {v : Value} (hv : v.category = 1) : lcR 7 v (a0 :: a1 :: a2 :: a3 :: a4 :: a5 :: x :: a7 :: r) (a0 :: a1 :: a2 :: a3 :: a4 :: a5 :: none :: some v :: r) := lcR_less (l1 := a0 :: a1 :: a2 :: a3 :: a4 :: a5 :: none :: a7 :: r) (lcR_set hv (fun a _ h9 => by cases h9; rfl)) (lcx (k := 6) (lc := a0 :: a1 :: a2 :: a3 :: a4 :: a5 :: x :: a7 :: r))
theorem tc_7 {a0 a1 a2 a3 a4 a5 a7 x b : Option Value} {r : List (Option Value)} {v : Value} : lcR 7 v (a0 :: a1 :: a2 :: a3 :: a4 :: a5 :: x :: a7 :: b :: r) (a0 :: a1 :: a2 :: a3 :: a4 :: a5 :: none :: some v :: none :: r) := lcR_less (l1 := a0 :: a1 :: a2 :: a3 :: a4 :: a5 :: none :: a7 :: b :: r) (lcR_set2 (fun a _ h9 => by cases h9; rfl)) (lcx (k := 6) (lc := a0 :: a1 :: a2 :: a3 :: a4 :: a5 :: x :: a7 :: b :: r))
theorem s_8 {a0 a1 a2 a3 a4 a5 a6 a7 a8 : Option Value} {r : List (Option Value)} {v : Value} (hv : v.category = 1) (h : nc a7 = true) : lcR 8 v (a0 :: a1 :: a2 :: a3 :: a4 :: a5 :: a6 :: a7 :: a8 :: r) (a0 :: a1 :: a2 :: a3 :: a4 :: a5 :: a6 :: a7 :: some v :: r) := lcR_set hv (fun a _ h9 => by cases h9; exact h)
theorem t_8 {a0 a1 a2 a3 a4 a5 a6 a7 a8 b : Option Value} {r : List (Option Value)} {v : Value} (h : nc a7 = true) : lcR 8 v (a0 :: a1 :: a2 :: a3 :: a4 :: a5 :: a6 :: a7 :: a8 :: b :: r) (a0 :: a1 :: a2 :: a3 :: a4 :: a5 :: a6 :: a7 :: some v :: none :: r) := lcR_set2 (fun a _ h9 => by cases h9; exact h)
theorem sc_8 {a0 a1 a2 a3 a4 a5 a6 a8 x : Option Value} {r : List (Option Value)} {v : Value} (hv : v.category = 1) : lcR 8 v (a0 :: a1 :: a2 :: a3 :: a4 :: a5 :: a6 :: x :: a8 :: r) (a0 :: a1 :: a2 :: a3 :: a4 :: a5 :: a6 :: none :: some v :: r) := lcR_less (l1 := a0 :: a1 :: a2 :: a3 :: a4 :: a5 :: a6 :: none :: a8 :: r) (lcR_set hv (fun a _ h9 => by cases h9; rfl)) (lcx (k := 7) (lc := a0 :: a1 :: a2 :: a3 :: a4 :: a5 :: a6 :: x :: a8 :: r))
theorem tc_8 {a0 a1 a2 a3 a4 a5 a6 a8 x b : Option Value} {r : List (Option Value)} {v : Value} : lcR 8 v (a0 :: a1 :: a2 :: a3 :: a4 :: a5 :: a6 :: x :: a8 :: b :: r) (a0 :: a1 :: a2 :: a3 :: a4 :: a5 :: a6 :: none :: some v :: none :: r) := lcR_less (l1 := a0 :: a1 :: a2 :: a3 :: a4 :: a5 :: a6 :: none :: a8 :: b :: r) (lcR_set2 (fun a _ h9 => by cases h9; rfl)) (lcx (k := 7) (lc := a0 :: a1 :: a2 :: a3 :: a4 :: a5 :: a6 :: x :: a8 :: b :: r))
theorem s_9 {a0 a1 a2 a3 a4 a5 a6 a7 a8 a9 : Option Value} {r : List (Option Value)} {v : Value} (hv : v.category = 1) (h : nc a8 = true) : lcR 9 v (a0 :: a1 :: a2 :: a3 :: a4 :: a5 :: a6 :: a7 :: a8 :: a9 :: r) (a0 :: a1 :: a2 :: a3 :: a4 :: a5 :: a6 :: a7 :: a8 :: some v :: r) := lcR_set hv (fun a _ h9 => by cases h9; exact h)
theorem t_9 {a0 a1 a2 a3 a4 a5 a6 a7 a8 a9 b : Option Value} {r : List (Option Value)} {v : Value} (h : nc a8 = true) : lcR 9 v (a0 :: a1 :: a2 :: a3 :: a4 :: a5 :: a6 :: a7 :: a8 :: a9 :: b :: r) (a0 :: a1 :: a2 :: a3 :: a4 :: a5 :: a6 :: a7 :: a8 :: some v :: none :: r) := lcR_set2 (fun a _ h9 => by cases h9; exact h)
theorem sc_9 {a0 a1 a2 a3 a4 a5 a6 a7 a9 x : Option Value} {r : List (Option Value)} {v : Value} (hv : v.category = 1) : lcR 9 v (a0 :: a1 :: a2 :: a3 :: a4 :: a5 :: a6 :: a7 :: x :: a9 :: r) (a0 :: a1 :: a2 :: a3 :: a4 :: a5 :: a6 :: a7 :: none :: some v :: r) := lcR_less (l1 := a0 :: a1 :: a2 :: a3 :: a4 :: a5 :: a6 :: a7 :: none :: a9 :: r) (lcR_set hv (fun a _ h9 => by cases h9; rfl)) (lcx (k := 8) (lc := a0 :: a1 :: a2 :: a3 :: a4 :: a5 :: a6 :: a7 :: x :: a9 :: r))
theorem tc_9 {a0 a1 a2 a3 a4 a5 a6 a7 a9 x b : Option Value} {r : List (Option Value)} {v : Value} : lcR 9 v (a0 :: a1 :: a2 :: a3 :: a4 :: a5 :: a6 :: a7 :: x :: a9 :: b :: r) (a0 :: a1 :: a2 :: a3 :: a4 :: a5 :: a6 :: a7 :: none :: some v :: none :: r) := lcR_less (l1 := a0 :: a1 :: a2 :: a3 :: a4 :: a5 :: a6 :: a7 :: none :: a9 :: b :: r) (lcR_set2 (fun a _ h9 => by cases h9; rfl)) (lcx (k := 8) (lc := a0 :: a1 :: a2 :: a3 :: a4 :: a5 :: a6 :: a7 :: x :: a9 :: b :: r))
theorem s_10 {a0 a1 a2 a3 a4 a5 a6 a7 a8 a9 a10 : Option Value} {r : List (Option Value)} {v : Value} (hv : v.category = 1) (h : nc a9 = true) : lcR 10 v (a0 :: a1 :: a2 :: a3 :: a4 :: a5 :: a6 :: a7 :: a8 :: a9 :: a10 :: r) (a0 :: a1 :: a2 :: a3 :: a4 :: a5 :: a6 :: a7 :: a8 :: a9 :: some v :: r) := lcR_set hv (fun a _ h9 => by cases h9; exact h)
theorem t_10 {a0 a1 a2 a3 a4 a5 a6 a7 a8 a9 a10 b : Option Value} {r : List (Option Value)} {v : Value} (h : nc a9 = true) : lcR 10 v (a0 :: a1 :: a2 :: a3 :: a4 :: a5 :: a6 :: a7 :: a8 :: a9 :: a10 :: b :: r) (a0 :: a1 :: a2 :: a3 :: a4 :: a5 :: a6 :: a7 :: a8 :: a9 :: some v :: none :: r) := lcR_set2 (fun a _ h9 => by cases h9; exact h)
theorem sc_10 {a0 a1 a2 a3 a4 a5 a6 a7 a8 a10 x : Option Value} {r : List (Option Value)} {v : Value} (hv : v.category = 1) : lcR 10 v (a0 :: a1 :: a2 :: a3 :: a4 :: a5 :: a6 :: a7 :: a8 :: x :: a10 :: r) (a0 :: a1 :: a2 :: a3 :: a4 :: a5 :: a6 :: a7 :: a8 :: none :: some v :: r) := lcR_less (l1 := a0 :: a1 :: a2 :: a3 :: a4 :: a5 :: a6 :: a7 :: a8 :: none :: a10 :: r) (lcR_set hv (fun a _ h9 => by cases h9; rfl)) (lcx (k := 9) (lc := a0 :: a1 :: a2 :: a3 :: a4 :: a5 :: a6 :: a7 :: a8 :: x :: a10 :: r))
theorem tc_10 {a0 a1 a2 a3 a4 a5 a6 a7 a8 a10 x b : Option Value} {r : List (Option Value)} {v : Value} : lcR 10 v (a0 :: a1 :: a2 :: a3 :: a4 :: a5 :: a6 :: a7 :: a8 :: x :: a10 :: b :: r) (a0 :: a1 :: a2 :: a3 :: a4 :: a5 :: a6 :: a7 :: a8 :: none :: some v :: none :: r) := lcR_less (l1 := a0 :: a1 :: a2 :: a3 :: a4 :: a5 :: a6 :: a7 :: a8 :: none :: a10 :: b :: r) (lcR_set2 (fun a _ h9 => by cases h9; rfl)) (lcx (k := 9) (lc := a0 :: a1 :: a2 :: a3 :: a4 :: a5 :: a6 :: a7 :: a8 :: x :: a10 :: b :: r))
theorem s_11 {a0 a1 a2 a3 a4 a5 a6 a7 a8 a9 a10 a11 : Option Value} {r : List (Option Value)} {v : Value} (hv : v.category = 1) (h : nc a10 = true) : lcR 11 v (a0 :: a1 :: a2 :: a3 :: a4 :: a5 :: a6 :: a7 :: a8 :: a9 :: a10 :: a11 :: r) (a0 :: a1 :: a2 :: a3 :: a4 :: a5 :: a6 :: a7 :: a8 :: a9 :: a10 :: some v :: r) := lcR_set hv (fun a _ h9 => by cases h9; exact h)
theorem t_11 {a0 a1 a2 a3 a4 a5 a6 a7 a8 a9 a10 a11 b : Option Value} {r : List (Option Value)} {v : Value} (h : nc a10 = true) : lcR 11 v (a0 :: a1 :: a2 :: a3 :: a4 :: a5 :: a6 :: a7 :: a8 :: a9 :: a10 :: a11 :: b :: r) (a0 :: a1 :: a2 :: a3 :: a4 :: a5 :: a6 :: a7 :: a8 :: a9 :: a10 :: some v :: none :: r) := lcR_set2 (fun a _ h9 => by cases h9; exact h)
theorem sc_11 {a0 a1 a2 a3 a4 a5 a6 a7 a8 a9 a11 x : Option Value} {r : List (Option Value)} {v : Value} (hv : v.category = 1) : lcR 11 v (a0 :: a1 :: a2 :: a3 :: a4 :: a5 :: a6 :: a7 :: a8 :: a9 :: x :: a11 :: r) (a0 :: a1 :: a2 :: a3 :: a4 :: a5 :: a6 :: a7 :: a8 :: a9 :: none :: some v :: r) := lcR_less (l1 := a0 :: a1 :: a2 :: a3 :: a4 :: a5 :: a6 :: a7 :: a8 :: a9 :: none :: a11 :: r) (lcR_set hv (fun a _ h9 => by cases h9; rfl)) (lcx (k := 10) (lc := a0 :: a1 :: a2 :: a3 :: a4 :: a5 :: a6 :: a7 :: a8 :: a9 :: x :: a11 :: r))
theorem tc_11 {a0 a1 a2 a3 a4 a5 a6 a7 a8 a9 a11 x b : Option Value} {r : List (Option Value)} {v : Value} : lcR 11 v (a0 :: a1 :: a2 :: a3 :: a4 :: a5 :: a6 :: a7 :: a8 :: a9 :: x :: a11 :: b :: r) (a0 :: a1 :: a2 :: a3 :: a4 :: a5 :: a6 :: a7 :: a8 :: a9 :: none :: some v :: none :: r) := lcR_less (l1 := a0 :: a1 :: a2 :: a3 :: a4 :: a5 :: a6 :: a7 :: a8 :: a9 :: none :: a11 :: b :: r) (lcR_set2 (fun a _ h9 => by cases h9; rfl)) (lcx (k := 10) (lc := a0 :: a1 :: a2 :: a3 :: a4 :: a5 :: a6 :: a7 :: a8 :: a9 :: x :: a11 :: b :: r))
theorem s_12 {a0 a1 a2 a3 a4 a5 a6 a7 a8 a9 a10 a11 a12 : Option Value} {r : List (Option Value)} {v : Value} (hv : v.category = 1) (h : nc a11 = true) : lcR 12 v (a0 :: a1 :: a2 :: a3 :: a4 :: a5 :: a6 :: a7 :: a8 :: a9 :: a10 :: a11 :: a12 :: r) (a0 :: a1 :: a2 :: a3 :: a4 :: a5 :: a6 :: a7 :: a8 :: a9 :: a10 :: a11 :: some v :: r) := lcR_set hv (fun a _ h9 => by cases h9; exact h)
theorem t_12 {a0 a1 a2 a3 a4 a5 a6 a7 a8 a9 a10 a11 a12 b : Option Value} {r : List (Option Value)} {v : Value} (h : nc a11 = true) : lcR 12 v (a0 :: a1 :: a2 :: a3 :: a4 :: a5 :: a6 :: a7 :: a8 :: a9 :: a10 :: a11 :: a12 :: b :: r) (a0 :: a1 :: a2 :: a3 :: a4 :: a5 :: a6 :: a7 :: a8 :: a9 :: a10 :: a11 :: some v :: none :: r) := lcR_set2 (fun a _ h9 => by cases h9; exact h)
theorem sc_12 {a0 a1 a2 a3 a4 a5 a6 a7 a8 a9 a10 a12 x : Option Value} {r : List (Option Value)} {v : Value} (hv : v.category = 1) : lcR 12 v (a0 :: a1 :: a2 :: a3 :: a4 :: a5 :: a6 :: a7 :: a8 :: a9 :: a10 :: x :: a12 :: r) (a0 :: a1 :: a2 :: a3 :: a4 :: a5 :: a6 :: a7 :: a8 :: a9 :: a10 :: none :: some v :: r) := lcR_less (l1 := a0 :: a1 :: a2 :: a3 :: a4 :: a5 :: a6 :: a7 :: a8 :: a9 :: a10 :: none :: a12 :: r) (lcR_set hv (fun a _ h9 => by cases h9; rfl)) (lcx (k := 11) (lc := a0 :: a1 :: a2 :: a3 :: a4 :: a5 :: a6 :: a7 :: a8 :: a9 :: a10 :: x :: a12 :: r))
theorem tc_12 {a0 a1 a2 a3 a4 a5 a6 a7 a8 a9 a10 a12 x b : Option Value} {r : List (Option Value)} {v : Value} : lcR 12 v (a0 :: a1 :: a2 :: a3 :: a4 :: a5 :: a6 :: a7 :: a8 :: a9 :: a10 :: x :: a12 :: b :: r) (a0 :: a1 :: a2 :: a3 :: a4 :: a5 :: a6 :: a7 :: a8 :: a9 :: a10 :: none :: some v :: none :: r) := lcR_less (l1 := a0 :: a1 :: a2 :: a3 :: a4 :: a5 :: a6 :: a7 :: a8 :: a9 :: a10 :: none :: a12 :: b :: r) (lcR_set2 (fun a _ h9 => by cases h9; rfl)) (lcx (k := 11) (lc := a0 :: a1 :: a2 :: a3 :: a4 :: a5 :: a6 :: a7 :: a8 :: a9 :: a10 :: x :: a12 :: b :: r))
theorem s_13 {a0 a1 a2 a3 a4 a5 a6 a7 a8 a9 a10 a11 a12 a13 : Option Value} {r : List (Option Value)} {v : Value} (hv : v.category = 1) (h : nc a12 = true) : lcR 13 v (a0 :: a1 :: a2 :: a3 :: a4 :: a5 :: a6 :: a7 :: a8 :: a9 :: a10 :: a11 :: a12 :: a13 :: r) (a0 :: a1 :: a2 :: a3 :: a4 :: a5 :: a6 :: a7 :: a8 :: a9 :: a10 :: a11 :: a12 :: some v :: r) := lcR_set hv (fun a _ h9 => by cases h9; exact h)
theorem t_13 {a0 a1 a2 a3 a4 a5 a6 a7 a8 a9 a10 a11 a12 a13 b : Option Value} {r : List (Option Value)} {v : Value} (h : nc a12 = true) : lcR 13 v (a0 :: a1 :: a2 :: a3 :: a4 :: a5 :: a6 :: a7 :: a8 :: a9 :: a10 :: a11 :: a12 :: a13 :: b :: r) (a0 :: a1 :: a2 :: a3 :: a4 :: a5 :: a6 :: a7 :: a8 :: a9 :: a10 :: a11 :: a12 :: some v :: none :: r) := lcR_set2 (fun a _ h9 => by cases h9; exact h)
theorem sc_13 {a0 a1 a2 a3 a4 a5 a6 a7 a8 a9 a10 a11 a13 x : Option Value} {r : List (Option Value)} {v : Value} (hv : v.category = 1) : lcR 13 v (a0 :: a1 :: a2 :: a3 :: a4 :: a5 :: a6 :: a7 :: a8 :: a9 :: a10 :: a11 :: x :: a13 :: r) (a0 :: a1 :: a2 :: a3 :: a4 :: a5 :: a6 :: a7 :: a8 :: a9 :: a10 :: a11 :: none :: some v :: r) := lcR_less (l1 := a0 :: a1 :: a2 :: a3 :: a4 :: a5 :: a6 :: a7 :: a8 :: a9 :: a10 :: a11 :: none :: a13 :: r) (lcR_set hv (fun a _ h9 => by cases h9; rfl)) (lcx (k := 12) (lc := a0 :: a1 :: a2 :: a3 :: a4 :: a5 :: a6 :: a7 :: a8 :: a9 :: a10 :: a11 :: x :: a13 :: r))
theorem tc_13 {a0 a1 a2 a3 a4 a5 a6 a7 a8 a9 a10 a11 a13 x b : Option Value} {r : List (Option Value)} {v : Value} : lcR 13 v (a0 :: a1 :: a2 :: a3 :: a4 :: a5 :: a6 :: a7 :: a8 :: a9 :: a10 :: a11 :: x :: a13 :: b :: r) (a0 :: a1 :: a2 :: a3 :: a4 :: a5 :: a6 :: a7 :: a8 :: a9 :: a10 :: a11 :: none :: some v :: none :: r) := lcR_less (l1 := a0 :: a1 :: a2 :: a3 :: a4 :: a5 :: a6 :: a7 :: a8 :: a9 :: a10 :: a11 :: none :: a13 :: b :: r) (lcR_set2 (fun a _ h9 => by cases h9; rfl)) (lcx (k := 12) (lc := a0 :: a1 :: a2 :: a3 :: a4 :: a5 :: a6 :: a7 :: a8 :: a9 :: a10 :: a11 :: x :: a13 :: b :: r))
theorem s_14 {a0 a1 a2 a3 a4 a5 a6 a7 a8 a9 a10 a11 a12 a13 a14 : Option Value} {r : List (Option Value)} {v : Value} (hv : v.category = 1) (h : nc a13 = true) : lcR 14 v (a0 :: a1 :: a2 :: a3 :: a4 :: a5 :: a6 :: a7 :: a8 :: a9 :: a10 :: a11 :: a12 :: a13 :: a14 :: r) (a0 :: a1 :: a2 :: a3 :: a4 :: a5 :: a6 :: a7 :: a8 :: a9 :: a10 :: a11 :: a12 :: a13 :: some v :: r) := lcR_set hv (fun a _ h9 => by cases h9; exact h)
theorem t_14 {a0 a1 a2 a3 a4 a5 a6 a7 a8 a9 a10 a11 a12 a13 a14 b : Option Value} {r : List (Option Value)} {v : Value} (h : nc a13 = true) : lcR 14 v (a0 :: a1 :: a2 :: a3 :: a4 :: a5 :: a6 :: a7 :: a8 :: a9 :: a10 :: a11 :: a12 :: a13 :: a14 :: b :: r) (a0 :: a1 :: a2 :: a3 :: a4 :: a5 :: a6 :: a7 :: a8 :: a9 :: a10 :: a11 :: a12 :: a13 :: some v :: none :: r) := lcR_set2 (fun a _ h9 => by cases h9; exact h)
theorem sc_14 {a0 a1 a2 a3 a4 a5 a6 a7 a8 a9 a10 a11 a12 a14 x : Option Value} {r : List (Option Value)} {v : Value} (hv : v.category = 1) : lcR 14 v (a0 :: a1 :: a2 :: a3 :: a4 :: a5 :: a6 :: a7 :: a8 :: a9 :: a10 :: a11 :: a12 :: x :: a14 :: r) (a0 :: a1 :: a2 :: a3 :: a4 :: a5 :: a6 :: a7 :: a8 :: a9 :: a10 :: a11 :: a12 :: none :: some v :: r) := lcR_less (l1 := a0 :: a1 :: a2 :: a3 :: a4 :: a5 :: a6 :: a7 :: a8 :: a9 :: a10 :: a11 :: a12 :: none :: a14 :: r) (lcR_set hv (fun a _ h9 => by cases h9; rfl)) (lcx (k := 13) (lc := a0 :: a1 :: a2 :: a3 :: a4 :: a5 :: a6 :: a7 :: a8 :: a9 :: a10 :: a11 :: a12 :: x :: a14 :: r))
theorem tc_14 {a0 a1 a2 a3 a4 a5 a6 a7 a8 a9 a10 a11 a12 a14 x b : Option Value} {r : List (Option Value)} {v : Value} : lcR 14 v (a0 :: a1 :: a2 :: a3 :: a4 :: a5 :: a6 :: a7 :: a8 :: a9 :: a10 :: a11 :: a12 :: x :: a14 :: b :: r) (a0 :: a1 :: a2 :: a3 :: a4 :: a5 :: a6 :: a7 :: a8 :: a9 :: a10 :: a11 :: a12 :: none :: some v :: none :: r) := lcR_less (l1 := a0 :: a1 :: a2 :: a3 :: a4 :: a5 :: a6 :: a7 :: a8 :: a9 :: a10 :: a11 :: a12 :: none :: a14 :: b :: r) (lcR_set2 (fun a _ h9 => by cases h9; rfl)) (lcx (k := 13) (lc := a0 :: a1 :: a2 :: a3 :: a4 :: a5 :: a6 :: a7 :: a8 :: a9 :: a10 :: a11 :: a12 :: x :: a14 :: b :: r))
theorem s_15 {a0 a1 a2 a3 a4 a5 a6 a7 a8 a9 a10 a11 a12 a13 a14 a15 : Option Value} {r : List (Option Value)} {v : Value} (hv : v.category = 1) (h : nc a14 = true) : lcR 15 v (a0 :: a1 :: a2 :: a3 :: a4 :: a5 :: a6 :: a7 :: a8 :: a9 :: a10 :: a11 :: a12 :: a13 :: a14 :: a15 :: r) (a0 :: a1 :: a2 :: a3 :: a4 :: a5 :: a6 :: a7 :: a8 :: a9 :: a10 :: a11 :: a12 :: a13 :: a14 :: some v :: r) := lcR_set hv (fun a _ h9 => by cases h9; exact h)
theorem t_15 {a0 a1 a2 a3 a4 a5 a6 a7 a8 a9 a10 a11 a12 a13 a14 a15 b : Option Value} {r : List (Option Value)} {v : Value} (h : nc a14 = true) : lcR 15 v (a0 :: a1 :: a2 :: a3 :: a4 :: a5 :: a6 :: a7 :: a8 :: a9 :: a10 :: a11 :: a12 :: a13 :: a14 :: a15 :: b :: r) (a0 :: a1 :: a2 :: a3 :: a4 :: a5 :: a6 :: a7 :: a8 :: a9 :: a10 :: a11 :: a12 :: a13 :: a14 :: some v :: none :: r) := lcR_set2 (fun a _ h9 => by cases h9; exact h)
theorem sc_15 {a0 a1 a2 a3 a4 a5 a6 a7 a8 a9 a10 a11 a12 a13 a15 x : Option Value} {r : List (Option Value)} {v : Value} (hv : v.category = 1) : lcR 15 v (a0 :: a1 :: a2 :: a3 :: a4 :: a5 :: a6 :: a7 :: a8 :: a9 :: a10 :: a11 :: a12 :: a13 :: x :: a15 :: r) (a0 :: a1 :: a2 :: a3 :: a4 :: a5 :: a6 :: a7 :: a8 :: a9 :: a10 :: a11 :: a12 :: a13 :: none :: some v :: r) := lcR_less (l1 := a0 :: a1 :: a2 :: a3 :: a4 :: a5 :: a6 :: a7 :: a8 :: a9 :: a10 :: a11 :: a12 :: a13 :: none :: a15 :: r) (lcR_set hv (fun a _ h9 => by cases h9; rfl)) (lcx (k := 14) (lc := a0 :: a1 :: a2 :: a3 :: a4 :: a5 :: a6 :: a7 :: a8 :: a9 :: a10 :: a11 :: a12 :: a13 :: x :: a15 :: r))
theorem tc_15 {a0 a1 a2 a3 a4 a5 a6 a7 a8 a9 a10 a11 a12 a13 a15 x b : Option Value} {r : List (Option Value)} {v : Value} : lcR 15 v (a0 :: a1 :: a2 :: a3 :: a4 :: a5 :: a6 :: a7 :: a8 :: a9 :: a10 :: a11 :: a12 :: a13 :: x :: a15 :: b :: r) (a0 :: a1 :: a2 :: a3 :: a4 :: a5 :: a6 :: a7 :: a8 :: a9 :: a10 :: a11 :: a12 :: a13 :: none :: some v :: none :: r) := lcR_less (l1 := a0 :: a1 :: a2 :: a3 :: a4 :: a5 :: a6 :: a7 :: a8 :: a9 :: a10 :: a11 :: a12 :: a13 :: none :: a15 :: b :: r) (lcR_set2 (fun a _ h9 => by cases h9; rfl)) (lcx (k := 14) (lc := a0 :: a1 :: a2 :: a3 :: a4 :: a5 :: a6 :: a7 :: a8 :: a9 :: a10 :: a11 :: a12 :: a13 :: x :: a15 :: b :: r))
theorem s_16 {a0 a1 a2 a3 a4 a5 a6 a7 a8 a9 a10 a11 a12 a13 a14 a15 a16 : Option Value} {r : List (Option Value)} {v : Value} (hv : v.category = 1) (h : nc a15 = true) : lcR 16 v (a0 :: a1 :: a2 :: a3 :: a4 :: a5 :: a6 :: a7 :: a8 :: a9 :: a10 :: a11 :: a12 :: a13 :: a14 :: a15 :: a16 :: r) (a0 :: a1 :: a2 :: a3 :: a4 :: a5 :: a6 :: a7 :: a8 :: a9 :: a10 :: a11 :: a12 :: a13 :: a14 :: a15 :: some v :: r) := lcR_set hv (fun a _ h9 => by cases h9; exact h)
theorem t_16 {a0 a1 a2 a3 a4 a5 a6 a7 a8 a9 a10 a11 a12 a13 a14 a15 a16 b : Option Value} {r : List (Option Value)} {v : Value} (h : nc a15 = true) : lcR 16 v (a0 :: a1 :: a2 :: a3 :: a4 :: a5 :: a6 :: a7 :: a8 :: a9 :: a10 :: a11 :: a12 :: a13 :: a14 :: a15 :: a16 :: b :: r) (a0 :: a1 :: a2 :: a3 :: a4 :: a5 :: a6 :: a7 :: a8 :: a9 :: a10 :: a11 :: a12 :: a13 :: a14 :: a15 :: some v :: none :: r) := lcR_set2 (fun a _ h9 => by cases h9; exact h)
theorem sc_16 {a0 a1 a2 a3 a4 a5 a6 a7 a8 a9 a10 a11 a12 a13 a14 a16 x : Option Value} {r : List (Option Value)} {v : Value} (hv : v.category = 1) : lcR 16 v (a0 :: a1 :: a2 :: a3 :: a4 :: a5 :: a6 :: a7 :: a8 :: a9 :: a10 :: a11 :: a12 :: a13 :: a14 :: x :: a16 :: r) (a0 :: a1 :: a2 :: a3 :: a4 :: a5 :: a6 :: a7 :: a8 :: a9 :: a10 :: a11 :: a12 :: a13 :: a14 :: none :: some v :: r) := lcR_less (l1 := a0 :: a1 :: a2 :: a3 :: a4 :: a5 :: a6 :: a7 :: a8 :: a9 :: a10 :: a11 :: a12 :: a13 :: a14 :: none :: a16 :: r) (lcR_set hv (fun a _ h9 => by cases h9; rfl)) (lcx (k := 15) (lc := a0 :: a1 :: a2 :: a3 :: a4 :: a5 :: a6 :: a7 :: a8 :: a9 :: a10 :: a11 :: a12 :: a13 :: a14 :: x :: a16 :: r))
theorem tc_16 {a0 a1 a2 a3 a4 a5 a6 a7 a8 a9 a10 a11 a12 a13 a14 a16 x b : Option Value} {r : List (Option Value)} {v : Value} : lcR 16 v (a0 :: a1 :: a2 :: a3 :: a4 :: a5 :: a6 :: a7 :: a8 :: a9 :: a10 :: a11 :: a12 :: a13 :: a14 :: x :: a16 :: b :: r) (a0 :: a1 :: a2 :: a3 :: a4 :: a5 :: a6 :: a7 :: a8 :: a9 :: a10 :: a11 :: a12 :: a13 :: a14 :: none :: some v :: none :: r) := lcR_less (l1 := a0 :: a1 :: a2 :: a3 :: a4 :: a5 :: a6 :: a7 :: a8 :: a9 :: a10 :: a11 :: a12 :: a13 :: a14 :: none :: a16 :: b :: r) (lcR_set2 (fun a _ h9 => by cases h9; rfl)) (lcx (k := 15) (lc := a0 :: a1 :: a2 :: a3 :: a4 :: a5 :: a6 :: a7 :: a8 :: a9 :: a10 :: a11 :: a12 :: a13 :: a14 :: x :: a16 :: b :: r))
theorem s_17 {a0 a1 a2 a3 a4 a5 a6 a7 a8 a9 a10 a11 a12 a13 a14 a15 a16 a17 : Option Value} {r : List (Option Value)} {v : Value} (hv : v.category = 1) (h : nc a16 = true) : lcR 17 v (a0 :: a1 :: a2 :: a3 :: a4 :: a5 :: a6 :: a7 :: a8 :: a9 :: a10 :: a11 :: a12 :: a13 :: a14 :: a15 :: a16 :: a17 :: r) (a0 :: a1 :: a2 :: a3 :: a4 :: a5 :: a6 :: a7 :: a8 :: a9 :: a10 :: a11 :: a12 :: a13 :: a14 :: a15 :: a16 :: some v :: r) := lcR_set hv (fun a _ h9 => by cases h9; exact h)
theorem t_17 {a0 a1 a2 a3 a4 a5 a6 a7 a8 a9 a10 a11 a12 a13 a14 a15 a16 a17 b : Option Value} {r : List (Option Value)} {v : Value} (h : nc a16 = true) : lcR 17 v (a0 :: a1 :: a2 :: a3 :: a4 :: a5 :: a6 :: a7 :: a8 :: a9 :: a10 :: a11 :: a12 :: a13 :: a14 :: a15 :: a16 :: a17 :: b :: r) (a0 :: a1 :: a2 :: a3 :: a4 :: a5 :: a6 :: a7 :: a8 :: a9 :: a10 :: a11 :: a12 :: a13 :: a14 :: a15 :: a16 :: some v :: none :: r) := lcR_set2 (fun a _ h9 => by cases h9; exact h)
theorem sc_17 {a0 a1 a2 a3 a4 a5 a6 a7 a8 a9 a10 a11 a12 a13 a14 a15 a17 x : Option Value} {r : List (Option Value)} {v : Value} (hv : v.category = 1) : lcR 17 v (a0 :: a1 :: a2 :: a3 :: a4 :: a5 :: a6 :: a7 :: a8 :: a9 :: a10 :: a11 :: a12 :: a13 :: a14 :: a15 :: x :: a17 :: r) (a0 :: a1 :: a2 :: a3 :: a4 :: a5 :: a6 :: a7 :: a8 :: a9 :: a10 :: a11 :: a12 :: a13 :: a14 :: a15 :: none :: some v :: r) := lcR_less (l1 := a0 :: a1 :: a2 :: a3 :: a4 :: a5 :: a6 :: a7 :: a8 :: a9 :: a10 :: a11 :: a12 :: a13 :: a14 :: a15 :: none :: a17 :: r) (lcR_set hv (fun a _ h9 => by cases h9; rfl)) (lcx (k := 16) (lc := a0 :: a1 :: a2 :: a3 :: a4 :: a5 :: a6 :: a7 :: a8 :: a9 :: a10 :: a11 :: a12 :: a13 :: a14 :: a15 :: x :: a17 :: r))
theorem tc_17 {a0 a1 a2 a3 a4 a5 a6 a7 a8 a9 a10 a11 a12 a13 a14 a15 a17 x b : Option Value} {r : List (Option Value)} {v : Value} : lcR 17 v (a0 :: a1 :: a2 :: a3 :: a4 :: a5 :: a6 :: a7 :: a8 :: a9 :: a10 :: a11 :: a12 :: a13 :: a14 :: a15 :: x :: a17 :: b :: r) (a0 :: a1 :: a2 :: a3 :: a4 :: a5 :: a6 :: a7 :: a8 :: a9 :: a10 :: a11 :: a12 :: a13 :: a14 :: a15 :: none :: some v :: none :: r) := lcR_less (l1 := a0 :: a1 :: a2 :: a3 :: a4 :: a5 :: a6 :: a7 :: a8 :: a9 :: a10 :: a11 :: a12 :: a13 :: a14 :: a15 :: none :: a17 :: b :: r) (lcR_set2 (fun a _ h9 => by cases h9; rfl)) (lcx (k := 16) (lc := a0 :: a1 :: a2 :: a3 :: a4 :: a5 :: a6 :: a7 :: a8 :: a9 :: a10 :: a11 :: a12 :: a13 :: a14 :: a15 :: x :: a17 :: b :: r))
theorem s_18 {a0 a1 a2 a3 a4 a5 a6 a7 a8 a9 a10 a11 a12 a13 a14 a15 a16 a17 a18 : Option Value} {r : List (Option Value)} {v : Value} (hv : v.category = 1) (h : nc a17 = true) : lcR 18 v (a0 :: a1 :: a2 :: a3 :: a4 :: a5 :: a6 :: a7 :: a8 :: a9 :: a10 :: a11 :: a12 :: a13 :: a14 :: a15 :: a16 :: a17 :: a18 :: r) (a0 :: a1 :: a2 :: a3 :: a4 :: a5 :: a6 :: a7 :: a8 :: a9 :: a10 :: a11 :: a12 :: a13 :: a14 :: a15 :: a16 :: a17 :: some v :: r) := lcR_set hv (fun a _ h9 => by cases h9; exact h)
theorem t_18 {a0 a1 a2 a3 a4 a5 a6 a7 a8 a9 a10 a11 a12 a13 a14 a15 a16 a17 a18 b : Option Value} {r : List (Option Value)} {v : Value} (h : nc a17 = true) : lcR 18 v (a0 :: a1 :: a2 :: a3 :: a4 :: a5 :: a6 :: a7 :: a8 :: a9 :: a10 :: a11 :: a12 :: a13 :: a14 :: a15 :: a16 :: a17 :: a18 :: b :: r) (a0 :: a1 :: a2 :: a3 :: a4 :: a5 :: a6 :: a7 :: a8 :: a9 :: a10 :: a11 :: a12 :: a13 :: a14 :: a15 :: a16 :: a17 :: some v :: none :: r) := lcR_set2 (fun a _ h9 => by cases h9; exact h)
theorem sc_18 {a0 a1 a2 a3 a4 a5 a6 a7 a8 a9 a10 a11 a12 a13 a14 a15 a16 a18 x : Option Value} {r : List (Option Value)} {v : Value} (hv : v.category = 1) : lcR 18 v (a0 :: a1 :: a2 :: a3 :: a4 :: a5 :: a6 :: a7 :: a8 :: a9 :: a10 :: a11 :: a12 :: a13 :: a14 :: a15 :: a16 :: x :: a18 :: r) (a0 :: a1 :: a2 :: a3 :: a4 :: a5 :: a6 :: a7 :: a8 :: a9 :: a10 :: a11 :: a12 :: a13 :: a14 :: a15 :: a16 :: none :: some v :: r) := lcR_less (l1 := a0 :: a1 :: a2 :: a3 :: a4 :: a5 :: a6 :: a7 :: a8 :: a9 :: a10 :: a11 :: a12 :: a13 :: a14 :: a15 :: a16 :: none :: a18 :: r) (lcR_set hv (fun a _ h9 => by cases h9; rfl)) (lcx (k := 17) (lc := a0 :: a1 :: a2 :: a3 :: a4 :: a5 :: a6 :: a7 :: a8 :: a9 :: a10 :: a11 :: a12 :: a13 :: a14 :: a15 :: a16 :: x :: a18 :: r))
theorem tc_18 {a0 a1 a2 a3 a4 a5 a6 a7 a8 a9 a10 a11 a12 a13 a14 a15 a16 a18 x b : Option Value} {r : List (Option Value)} {v : Value} : lcR 18 v (a0 :: a1 :: a2 :: a3 :: a4 :: a5 :: a6 :: a7 :: a8 :: a9 :: a10 :: a11 :: a12 :: a13 :: a14 :: a15 :: a16 :: x :: a18 :: b :: r) (a0 :: a1 :: a2 :: a3 :: a4 :: a5 :: a6 :: a7 :: a8 :: a9 :: a10 :: a11 :: a12 :: a13 :: a14 :: a15 :: a16 :: none :: some v :: none :: r) := lcR_less (l1 := a0 :: a1 :: a2 :: a3 :: a4 :: a5 :: a6 :: a7 :: a8 :: a9 :: a10 :: a11 :: a12 :: a13 :: a14 :: a15 :: a16 :: none :: a18 :: b :: r) (lcR_set2 (fun a _ h9 => by cases h9; rfl)) (lcx (k := 17) (lc := a0 :: a1 :: a2 :: a3 :: a4 :: a5 :: a6 :: a7 :: a8 :: a9 :: a10 :: a11 :: a12 :: a13 :: a14 :: a15 :: a16 :: x :: a18 :: b :: r))
theorem s_19 {a0 a1 a2 a3 a4 a5 a6 a7 a8 a9 a10 a11 a12 a13 a14 a15 a16 a17 a18 a19 : Option Value} {r : List (Option Value)} {v : Value} (hv : v.category = 1) (h : nc a18 = true) : lcR 19 v (a0 :: a1 :: a2 :: a3 :: a4 :: a5 :: a6 :: a7 :: a8 :: a9 :: a10 :: a11 :: a12 :: a13 :: a14 :: a15 :: a16 :: a17 :: a18 :: a19 :: r) (a0 :: a1 :: a2 :: a3 :: a4 :: a5 :: a6 :: a7 :: a8 :: a9 :: a10 :: a11 :: a12 :: a13 :: a14 :: a15 :: a16 :: a17 :: a18 :: some v :: r) := lcR_set hv (fun a _ h9 => by cases h9; exact h)
theorem t_19 {a0 a1 a2 a3 a4 a5 a6 a7 a8 a9 a10 a11 a12 a13 a14 a15 a16 a17 a18 a19 b : Option Value} {r : List (Option Value)} {v : Value} (h : nc a18 = true) : lcR 19 v (a0 :: a1 :: a2 :: a3 :: a4 :: a5 :: a6 :: a7 :: a8 :: a9 :: a10 :: a11 :: a12 :: a13 :: a14 :: a15 :: a16 :: a17 :: a18 :: a19 :: b :: r) (a0 :: a1 :: a2 :: a3 :: a4 :: a5 :: a6 :: a7 :: a8 :: a9 :: a10 :: a11 :: a12 :: a13 :: a14 :: a15 :: a16 :: a17 :: a18 :: some v :: none :: r) := lcR_set2 (fun a _ h9 => by cases h9; exact h)
theorem sc_19 {a0 a1 a2 a3 a4 a5 a6 a7 a8 a9 a10 a11 a12 a13 a14 a15 a16 a17 a19 x : Option Value} {r : List (Option Value)} {v : Value} (hv : v.category = 1) : lcR 19 v (a0 :: a1 :: a2 :: a3 :: a4 :: a5 :: a6 :: a7 :: a8 :: a9 :: a10 :: a11 :: a12 :: a13 :: a14 :: a15 :: a16 :: a17 :: x :: a19 :: r) (a0 :: a1 :: a2 :: a3 :: a4 :: a5 :: a6 :: a7 :: a8 :: a9 :: a10 :: a11 :: a12 :: a13 :: a14 :: a15 :: a16 :: a17 :: none :: some v :: r) := lcR_less (l1 := a0 :: a1 :: a2 :: a3 :: a4 :: a5 :: a6 :: a7 :: a8 :: a9 :: a10 :: a11 :: a12 :: a13 :: a14 :: a15 :: a16 :: a17 :: none :: a19 :: r) (lcR_set hv (fun a _ h9 => by cases h9; rfl)) (lcx (k := 18) (lc := a0 :: a1 :: a2 :: a3 :: a4 :: a5 :: a6 :: a7 :: a8 :: a9 :: a10 :: a11 :: a12 :: a13 :: a14 :: a15 :: a16 :: a17 :: x :: a19 :: r))
theorem tc_19 {a0 a1 a2 a3 a4 a5 a6 a7 a8 a9 a10 a11 a12 a13 a14 a15 a16 a17 a19 x b : Option Value} {r : List (Option Value)} {v : Value} : lcR 19 v (a0 :: a1 :: a2 :: a3 :: a4 :: a5 :: a6 :: a7 :: a8 :: a9 :: a10 :: a11 :: a12 :: a13 :: a14 :: a15 :: a16 :: a17 :: x :: a19 :: b :: r) (a0 :: a1 :: a2 :: a3 :: a4 :: a5 :: a6 :: a7 :: a8 :: a9 :: a10 :: a11 :: a12 :: a13 :: a14 :: a15 :: a16 :: a17 :: none :: some v :: none :: r) := lcR_less (l1 := a0 :: a1 :: a2 :: a3 :: a4 :: a5 :: a6 :: a7 :: a8 :: a9 :: a10 :: a11 :: a12 :: a13 :: a14 :: a15 :: a16 :: a17 :: none :: a19 :: b :: r) (lcR_set2 (fun a _ h9 => by cases h9; rfl)) (lcx (k := 18) (lc := a0 :: a1 :: a2 :: a3 :: a4 :: a5 :: a6 :: a7 :: a8 :: a9 :: a10 :: a11 :: a12 :: a13 :: a14 :: a15 :: a16 :: a17 :: x :: a19 :: b :: r))
theorem s_20 {a0 a1 a2 a3 a4 a5 a6 a7 a8 a9 a10 a11 a12 a13 a14 a15 a16 a17 a18 a19 a20 : Option Value} {r : List (Option Value)} {v : Value} (hv : v.category = 1) (h : nc a19 = true) : lcR 20 v (a0 :: a1 :: a2 :: a3 :: a4 :: a5 :: a6 :: a7 :: a8 :: a9 :: a10 :: a11 :: a12 :: a13 :: a14 :: a15 :: a16 :: a17 :: a18 :: a19 :: a20 :: r) (a0 :: a1 :: a2 :: a3 :: a4 :: a5 :: a6 :: a7 :: a8 :: a9 :: a10 :: a11 :: a12 :: a13 :: a14 :: a15 :: a16 :: a17 :: a18 :: a19 :: some v :: r) := lcR_set hv (fun a _ h9 => by cases h9; exact h)
theorem t_20 {a0 a1 a2 a3 a4 a5 a6 a7 a8 a9 a10 a11 a12 a13 a14 a15 a16 a17 a18 a19 a20 b : Option Value} {r : List (Option Value)} {v : Value} (h : nc a19 = true) : lcR 20 v (a0 :: a1 :: a2 :: a3 :: a4 :: a5 :: a6 :: a7 :: a8 :: a9 :: a10 :: a11 :: a12 :: a13 :: a14 :: a15 :: a16 :: a17 :: a18 :: a19 :: a20 :: b :: r) (a0 :: a1 :: a2 :: a3 :: a4 :: a5 :: a6 :: a7 :: a8 :: a9 :: a10 :: a11 :: a12 :: a13 :: a14 :: a15 :: a16 :: a17 :: a18 :: a19 :: some v :: none :: r) := lcR_set2 (fun a _ h9 => by cases h9; exact h)
theorem sc_20 {a0 a1 a2 a3 a4 a5 a6 a7 a8 a9 a10 a11 a12 a13 a14 a15 a16 a17 a18 a20 x : Option Value} {r : List (Option Value)} {v : Value} (hv : v.category = 1) : lcR 20 v (a0 :: a1 :: a2 :: a3 :: a4 :: a5 :: a6 :: a7 :: a8 :: a9 :: a10 :: a11 :: a12 :: a13 :: a14 :: a15 :: a16 :: a17 :: a18 :: x :: a20 :: r) (a0 :: a1 :: a2 :: a3 :: a4 :: a5 :: a6 :: a7 :: a8 :: a9 :: a10 :: a11 :: a12 :: a13 :: a14 :: a15 :: a16 :: a17 :: a18 :: none :: some v :: r) := lcR_less (l1 := a0 :: a1 :: a2 :: a3 :: a4 :: a5 :: a6 :: a7 :: a8 :: a9 :: a10 :: a11 :: a12 :: a13 :: a14 :: a15 :: a16 :: a17 :: a18 :: none :: a20 :: r) (lcR_set hv (fun a _ h9 => by cases h9; rfl)) (lcx (k := 19) (lc := a0 :: a1 :: a2 :: a3 :: a4 :: a5 :: a6 :: a7 :: a8 :: a9 :: a10 :: a11 :: a12 :: a13 :: a14 :: a15 :: a16 :: a17 :: a18 :: x :: a20 :: r))
theorem tc_20 {a0 a1 a2 a3 a4 a5 a6 a7 a8 a9 a10 a11 a12 a13 a14 a15 a16 a17 a18 a20 x b : Option Value} {r : List (Option Value)} {v : Value} : lcR 20 v (a0 :: a1 :: a2 :: a3 :: a4 :: a5 :: a6 :: a7 :: a8 :: a9 :: a10 :: a11 :: a12 :: a13 :: a14 :: a15 :: a16 :: a17 :: a18 :: x :: a20 :: b :: r) (a0 :: a1 :: a2 :: a3 :: a4 :: a5 :: a6 :: a7 :: a8 :: a9 :: a10 :: a11 :: a12 :: a13 :: a14 :: a15 :: a16 :: a17 :: a18 :: none :: some v :: none :: r) := lcR_less (l1 := a0 :: a1 :: a2 :: a3 :: a4 :: a5 :: a6 :: a7 :: a8 :: a9 :: a10 :: a11 :: a12 :: a13 :: a14 :: a15 :: a16 :: a17 :: a18 :: none :: a20 :: b :: r) (lcR_set2 (fun a _ h9 => by cases h9; rfl)) (lcx (k := 19) (lc := a0 :: a1 :: a2 :: a3 :: a4 :: a5 :: a6 :: a7 :: a8 :: a9 :: a10 :: a11 :: a12 :: a13 :: a14 :: a15 :: a16 :: a17 :: a18 :: x :: a20 :: b :: r))
theorem s_21 {a0 a1 a2 a3 a4 a5 a6 a7 a8 a9 a10 a11 a12 a13 a14 a15 a16 a17 a18 a19 a20 a21 : Option Value} {r : List (Option Value)} {v : Value} (hv : v.category = 1) (h : nc a20 = true) : lcR 21 v (a0 :: a1 :: a2 :: a3 :: a4 :: a5 :: a6 :: a7 :: a8 :: a9 :: a10 :: a11 :: a12 :: a13 :: a14 :: a15 :: a16 :: a17 :: a18 :: a19 :: a20 :: a21 :: r) (a0 :: a1 :: a2 :: a3 :: a4 :: a5 :: a6 :: a7 :: a8 :: a9 :: a10 :: a11 :: a12 :: a13 :: a14 :: a15 :: a16 :: a17 :: a18 :: a19 :: a20 :: some v :: r) := lcR_set hv (fun a _ h9 => by cases h9; exact h)
theorem t_21 {a0 a1 a2 a3 a4 a5 a6 a7 a8 a9 a10 a11 a12 a13 a14 a15 a16 a17 a18 a19 a20 a21 b : Option Value} {r : List (Option Value)} {v : Value} (h : nc a20 = true) : lcR 21 v (a0 :: a1 :: a2 :: a3 :: a4 :: a5 :: a6 :: a7 :: a8 :: a9 :: a10 :: a11 :: a12 :: a13 :: a14 :: a15 :: a16 :: a17 :: a18 :: a19 :: a20 :: a21 :: b :: r) (a0 :: a1 :: a2 :: a3 :: a4 :: a5 :: a6 :: a7 :: a8 :: a9 :: a10 :: a11 :: a12 :: a13 :: a14 :: a15 :: a16 :: a17 :: a18 :: a19 :: a20 :: some v :: none :: r) := lcR_set2 (fun a _ h9 => by cases h9; exact h)
theorem sc_21 {a0 a1 a2 a3 a4 a5 a6 a7 a8 a9 a10 a11 a12 a13 a14 a15 a16 a17 a18 a19 a21 x : Option Value} {r : List (Option Value)} {v : Value} (hv : v.category = 1) : lcR 21 v (a0 :: a1 :: a2 :: a3 :: a4 :: a5 :: a6 :: a7 :: a8 :: a9 :: a10 :: a11 :: a12 :: a13 :: a14 :: a15 :: a16 :: a17 :: a18 :: a19 :: x :: a21 :: r) (a0 :: a1 :: a2 :: a3 :: a4 :: a5 :: a6 :: a7 :: a8 :: a9 :: a10 :: a11 :: a12 :: a13 :: a14 :: a15 :: a16 :: a17 :: a18 :: a19 :: none :: some v :: r) := lcR_less (l1 := a0 :: a1 :: a2 :: a3 :: a4 :: a5 :: a6 :: a7 :: a8 :: a9 :: a10 :: a11 :: a12 :: a13 :: a14 :: a15 :: a16 :: a17 :: a18 :: a19 :: none :: a21 :: r) (lcR_set hv (fun a _ h9 => by cases h9; rfl)) (lcx (k := 20) (lc := a0 :: a1 :: a2 :: a3 :: a4 :: a5 :: a6 :: a7 :: a8 :: a9 :: a10 :: a11 :: a12 :: a13 :: a14 :: a15 :: a16 :: a17 :: a18 :: a19 :: x :: a21 :: r))
theorem tc_21 {a0 a1 a2 a3 a4 a5 a6 a7 a8 a9 a10 a11 a12 a13 a14 a15 a16 a17 a18 a19 a21 x b : Option Value} {r : List (Option Value)} {v : Value} : lcR 21 v (a0 :: a1 :: a2 :: a3 :: a4 :: a5 :: a6 :: a7 :: a8 :: a9 :: a10 :: a11 :: a12 :: a13 :: a14 :: a15 :: a16 :: a17 :: a18 :: a19 :: x :: a21 :: b :: r) (a0 :: a1 :: a2 :: a3 :: a4 :: a5 :: a6 :: a7 :: a8 :: a9 :: a10 :: a11 :: a12 :: a13 :: a14 :: a15 :: a16 :: a17 :: a18 :: a19 :: none :: some v :: none :: r) := lcR_less (l1 := a0 :: a1 :: a2 :: a3 :: a4 :: a5 :: a6 :: a7 :: a8 :: a9 :: a10 :: a11 :: a12 :: a13 :: a14 :: a15 :: a16 :: a17 :: a18 :: a19 :: none :: a21 :: b :: r) (lcR_set2 (fun a _ h9 => by cases h9; rfl)) (lcx (k := 20) (lc := a0 :: a1 :: a2 :: a3 :: a4 :: a5 :: a6 :: a7 :: a8 :: a9 :: a10 :: a11 :: a12 :: a13 :: a14 :: a15 :: a16 :: a17 :: a18 :: a19 :: x :: a21 :: b :: r))
theorem Vr_icmpeq {x y : Int32} (d : dj M pc (.if_icmp .eq) q t) (kt : x = y → V G M Q kc ks t lc st w) (kf : ¬ x = y → V G M Q kc ks q lc st w) : V G M Q kc ks pc lc (.int y :: .int x :: st) w := by
  obtain ⟨off, d, rfl, ht⟩ := d
  intro p l e s m args below meth c H locs ls C hP hS hl
  exact lv_icmp_eq C.1 C.2.1 d ht (fun h => kt h p l e s m args below meth c H locs ls C hP hS hl) (fun h => kf h p l e s m args below meth c H locs ls C hP hS hl)
theorem Vr_icmpne {x y : Int32} (d : dj M pc (.if_icmp .ne) q t) (kt : ¬ x = y → V G M Q kc ks t lc st w) (kf : x = y → V G M Q kc ks q lc st w) : V G M Q kc ks pc lc (.int y :: .int x :: st) w := by
  obtain ⟨off, d, rfl, ht⟩ := d
  intro p l e s m args below meth c H locs ls C hP hS hl
  exact lv_icmp_ne C.1 C.2.1 d ht (fun h => kt h p l e s m args below meth c H locs ls C hP hS hl) (fun h => kf h p l e s m args below meth c H locs ls C hP hS hl)
theorem Vr_icmplt {x y : Int32} (d : dj M pc (.if_icmp .lt) q t) (kt : x < y → V G M Q kc ks t lc st w) (kf : ¬ x < y → V G M Q kc ks q lc st w) : V G M Q kc ks pc lc (.int y :: .int x :: st) w := by
  obtain ⟨off, d, rfl, ht⟩ := d
  intro p l e s m args below meth c H locs ls C hP hS hl
  exact lv_icmp_lt C.1 C.2.1 d ht (fun h => kt h p l e s m args below meth c H locs ls C hP hS hl) (fun h => kf h p l e s m args below meth c H locs ls C hP hS hl)
theorem Vr_icmpge {x y : Int32} (d : dj M pc (.if_icmp .ge) q t) (kt : y ≤ x → V G M Q kc ks t lc st w) (kf : ¬ y ≤ x → V G M Q kc ks q lc st w) : V G M Q kc ks pc lc (.int y :: .int x :: st) w := by
  obtain ⟨off, d, rfl, ht⟩ := d
  intro p l e s m args below meth c H locs ls C hP hS hl
  exact lv_icmp_ge C.1 C.2.1 d ht (fun h => kt h p l e s m args below meth c H locs ls C hP hS hl) (fun h => kf h p l e s m args below meth c H locs ls C hP hS hl)
theorem Vr_icmpgt {x y : Int32} (d : dj M pc (.if_icmp .gt) q t) (kt : y < x → V G M Q kc ks t lc st w) (kf : ¬ y < x → V G M Q kc ks q lc st w) : V G M Q kc ks pc lc (.int y :: .int x :: st) w := by
  obtain ⟨off, d, rfl, ht⟩ := d
  intro p l e s m args below meth c H locs ls C hP hS hl
  exact lv_icmp_gt C.1 C.2.1 d ht (fun h => kt h p l e s m args below meth c H locs ls C hP hS hl) (fun h => kf h p l e s m args below meth c H locs ls C hP hS hl)
theorem Vr_icmple {x y : Int32} (d : dj M pc (.if_icmp .le) q t) (kt : x ≤ y → V G M Q kc ks t lc st w) (kf : ¬ x ≤ y → V G M Q kc ks q lc st w) : V G M Q kc ks pc lc (.int y :: .int x :: st) w := by
  obtain ⟨off, d, rfl, ht⟩ := d
  intro p l e s m args below meth c H locs ls C hP hS hl
  exact lv_icmp_le C.1 C.2.1 d ht (fun h => kt h p l e s m args below meth c H locs ls C hP hS hl) (fun h => kf h p l e s m args below meth c H locs ls C hP hS hl)
theorem Vr_ifeq {x : Int32} (d : dj M pc (.ifCond .eq) q t) (kt : x = 0 → V G M Q kc ks t lc st w) (kf : ¬ x = 0 → V G M Q kc ks q lc st w) : V G M Q kc ks pc lc (.int x :: st) w := by
  obtain ⟨off, d, rfl, ht⟩ := d
  intro p l e s m args below meth c H locs ls C hP hS hl
  exact lv_if_eq C.1 C.2.1 d ht (fun h => kt h p l e s m args below meth c H locs ls C hP hS hl) (fun h => kf h p l e s m args below meth c H locs ls C hP hS hl)
theorem Vr_ifne {x : Int32} (d : dj M pc (.ifCond .ne) q t) (kt : ¬ x = 0 → V G M Q kc ks t lc st w) (kf : x = 0 → V G M Q kc ks q lc st w) : V G M Q kc ks pc lc (.int x :: st) w := by
  obtain ⟨off, d, rfl, ht⟩ := d
  intro p l e s m args below meth c H locs ls C hP hS hl
  exact lv_if_ne C.1 C.2.1 d ht (fun h => kt h p l e s m args below meth c H locs ls C hP hS hl) (fun h => kf h p l e s m args below meth c H locs ls C hP hS hl)
theorem Vr_iflt {x : Int32} (d : dj M pc (.ifCond .lt) q t) (kt : x < 0 → V G M Q kc ks t lc st w) (kf : ¬ x < 0 → V G M Q kc ks q lc st w) : V G M Q kc ks pc lc (.int x :: st) w := by
  obtain ⟨off, d, rfl, ht⟩ := d
  intro p l e s m args below meth c H locs ls C hP hS hl
  exact lv_if_lt C.1 C.2.1 d ht (fun h => kt h p l e s m args below meth c H locs ls C hP hS hl) (fun h => kf h p l e s m args below meth c H locs ls C hP hS hl)
theorem Vr_ifge {x : Int32} (d : dj M pc (.ifCond .ge) q t) (kt : 0 ≤ x → V G M Q kc ks t lc st w) (kf : ¬ 0 ≤ x → V G M Q kc ks q lc st w) : V G M Q kc ks pc lc (.int x :: st) w := by
  obtain ⟨off, d, rfl, ht⟩ := d
  intro p l e s m args below meth c H locs ls C hP hS hl
  exact lv_if_ge C.1 C.2.1 d ht (fun h => kt h p l e s m args below meth c H locs ls C hP hS hl) (fun h => kf h p l e s m args below meth c H locs ls C hP hS hl)
theorem Vr_ifgt {x : Int32} (d : dj M pc (.ifCond .gt) q t) (kt : 0 < x → V G M Q kc ks t lc st w) (kf : ¬ 0 < x → V G M Q kc ks q lc st w) : V G M Q kc ks pc lc (.int x :: st) w := by
  obtain ⟨off, d, rfl, ht⟩ := d
  intro p l e s m args below meth c H locs ls C hP hS hl
  exact lv_if_gt C.1 C.2.1 d ht (fun h => kt h p l e s m args below meth c H locs ls C hP hS hl) (fun h => kf h p l e s m args below meth c H locs ls C hP hS hl)
theorem Vr_ifle {x : Int32} (d : dj M pc (.ifCond .le) q t) (kt : x ≤ 0 → V G M Q kc ks t lc st w) (kf : ¬ x ≤ 0 → V G M Q kc ks q lc st w) : V G M Q kc ks pc lc (.int x :: st) w := by
  obtain ⟨off, d, rfl, ht⟩ := d
  intro p l e s m args below meth c H locs ls C hP hS hl
  exact lv_if_le C.1 C.2.1 d ht (fun h => kt h p l e s m args below meth c H locs ls C hP hS hl) (fun h => kf h p l e s m args below meth c H locs ls C hP hS hl)
theorem V_goto (d : dj M pc .goto q t) (k : V G M Q kc ks t lc st w) : V G M Q kc ks pc lc st w := by
  obtain ⟨off, d, rfl, ht⟩ := d
  intro p l e s m args below meth c H locs ls C hP hS hl
  exact lv_goto C.1 C.2.1 d ht (k p l e s m args below meth c H locs ls C hP hS hl)
end R5
end
section
section R6
variable {G : gT} {M : mT} {Q : Option Value → wT → Prop} {kc ks pc q t : Nat} {lc lc' : List (Option Value)} {st : List Value} {w : wT}
theorem i32_lt {a b : Int} (ra : -2147483648 ≤ a ∧ a < 2147483648) (rb : -2147483648 ≤ b ∧ b < 2147483648) : Int32.ofInt a < Int32.ofInt b ↔ a < b := by
  rw [Int32.lt_iff_toInt_lt, Int32.toInt_ofInt_of_le (by omega) (by omega), Int32.toInt_ofInt_of_le (by omega) (by omega)]
theorem i32_le {a b : Int} (ra : -2147483648 ≤ a ∧ a < 2147483648) (rb : -2147483648 ≤ b ∧ b < 2147483648) : Int32.ofInt a ≤ Int32.ofInt b ↔ a ≤ b := by
  rw [Int32.le_iff_toInt_le, Int32.toInt_ofInt_of_le (by omega) (by omega), Int32.toInt_ofInt_of_le (by omega) (by omega)]
theorem i32_eq {a b : Int} (ra : -2147483648 ≤ a ∧ a < 2147483648) (rb : -2147483648 ≤ b ∧ b < 2147483648) : Int32.ofInt a = Int32.ofInt b ↔ a = b := by
  rw [← Int32.toInt_inj, Int32.toInt_ofInt_of_le (by omega) (by omega), Int32.toInt_ofInt_of_le (by omega) (by omega)]
theorem i64_lt {a b : Int} (ra : -9223372036854775808 ≤ a ∧ a < 9223372036854775808) (rb : -9223372036854775808 ≤ b ∧ b < 9223372036854775808) : Int64.ofInt a < Int64.ofInt b ↔ a < b := by
  rw [Int64.lt_iff_toInt_lt, Int64.toInt_ofInt_of_le (by omega) (by omega), Int64.toInt_ofInt_of_le (by omega) (by omega)]
theorem i64_eq {a b : Int} (ra : -9223372036854775808 ≤ a ∧ a < 9223372036854775808) (rb : -9223372036854775808 ≤ b ∧ b < 9223372036854775808) : Int64.ofInt a = Int64.ofInt b ↔ a = b := by
  rw [← Int64.toInt_inj, Int64.toInt_ofInt_of_le (by omega) (by omega), Int64.toInt_ofInt_of_le (by omega) (by omega)]
theorem i32_clamp {i : Int} (h : 0 ≤ i ∧ i < 2147483648) : (Int32.ofInt i).toNatClampNeg = i.toNat := by
  show (Int32.ofInt i).toInt.toNat = i.toNat
  rw [Int32.toInt_ofInt_of_le (by omega) (by omega)]
theorem i32_in {i : Int} {n : Nat} (h : 0 ≤ i ∧ i < n) (hn : n < 2147483648) : vp_in (Int32.ofInt i) n := by
  have e := i32_clamp (i := i) (by omega)
  intro hx
  rcases hx with hx | hx
  · have : Int32.ofInt i < Int32.ofInt 0 := hx
    rw [i32_lt (by omega) (by omega)] at this
    omega
  · rw [e] at hx
    omega
theorem i64_of {a : Int} (ra : -2147483648 ≤ a ∧ a < 2147483648) : (Int32.ofInt a).toInt64 = Int64.ofInt a := by
  apply Int64.toInt.inj
  rw [Int32.toInt_toInt64, Int32.toInt_ofInt_of_le (by omega) (by omega), Int64.toInt_ofInt_of_le (by omega) (by omega)]
theorem V_iadd {a b : Int} (d : dc M pc .iadd 1 q) (k : V G M Q kc ks q lc (vi (a + b) :: st) w) : V G M Q kc ks pc lc (vi b :: vi a :: st) w := Vr_iadd (x := Int32.ofInt a) (y := Int32.ofInt b) d (by rw [← Int32.ofInt_add]; exact k)
theorem V_isub {a b : Int} (d : dc M pc .isub 1 q) (k : V G M Q kc ks q lc (vi (a - b) :: st) w) : V G M Q kc ks pc lc (vi b :: vi a :: st) w := Vr_isub (x := Int32.ofInt a) (y := Int32.ofInt b) d (by rw [← Int32.ofInt_sub]; exact k)
theorem V_imul {a b : Int} (d : dc M pc .imul 1 q) (k : V G M Q kc ks q lc (vi (a * b) :: st) w) : V G M Q kc ks pc lc (vi b :: vi a :: st) w := Vr_imul (x := Int32.ofInt a) (y := Int32.ofInt b) d (by rw [← Int32.ofInt_mul]; exact k)
theorem V_ladd {a b : Int} (d : dc M pc .ladd 1 q) (k : V G M Q kc ks q lc (vl (a + b) :: st) w) : V G M Q kc ks pc lc (vl b :: vl a :: st) w := Vr_ladd (x := Int64.ofInt a) (y := Int64.ofInt b) d (by rw [← Int64.ofInt_add]; exact k)
theorem V_lsub {a b : Int} (d : dc M pc .lsub 1 q) (k : V G M Q kc ks q lc (vl (a - b) :: st) w) : V G M Q kc ks pc lc (vl b :: vl a :: st) w := Vr_lsub (x := Int64.ofInt a) (y := Int64.ofInt b) d (by rw [← Int64.ofInt_sub]; exact k)
theorem V_lmul {a b : Int} (d : dc M pc .lmul 1 q) (k : V G M Q kc ks q lc (vl (a * b) :: st) w) : V G M Q kc ks pc lc (vl b :: vl a :: st) w := Vr_lmul (x := Int64.ofInt a) (y := Int64.ofInt b) d (by rw [← Int64.ofInt_mul]; exact k)
theorem V_ineg {a : Int} (d : dc M pc .ineg 1 q) (k : V G M Q kc ks q lc (vi (-a) :: st) w) : V G M Q kc ks pc lc (vi a :: st) w := Vr_ineg (x := Int32.ofInt a) d (by rw [← Int32.ofInt_neg]; exact k)
theorem V_i2l {a : Int} (d : dc M pc .i2l 1 q) (k : V G M Q kc ks q lc (vl a :: st) w) (ra : -2147483648 ≤ a ∧ a < 2147483648 := by omega) : V G M Q kc ks pc lc (vi a :: st) w := Vr_i2l (x := Int32.ofInt a) d (by rw [i64_of ra]; exact k)
theorem V_l2i {a : Int} (d : dc M pc .l2i 1 q) (k : V G M Q kc ks q lc (vi a :: st) w) : V G M Q kc ks pc lc (vl a :: st) w := Vr_l2i (x := Int64.ofInt a) d (by rw [Int64.toInt32_ofInt]; exact k)
theorem i32_div {a b : Int} (hb : 0 < b ∧ b < 2147483648) (ra : -2147483648 ≤ a ∧ a < 2147483648) : Int32.ofInt a / Int32.ofInt b = Int32.ofInt (a.tdiv b) := (Int32.ofInt_tdiv (by show (-2147483648 : Int) ≤ a; omega) (by show a ≤ (2147483647 : Int); omega) (by show (-2147483648 : Int) ≤ b; omega) (by show b ≤ (2147483647 : Int); omega)).symm
theorem i64_div {a b : Int} (hb : 0 < b ∧ b < 9223372036854775808) (ra : -9223372036854775808 ≤ a ∧ a < 9223372036854775808) : Int64.ofInt a / Int64.ofInt b = Int64.ofInt (a.tdiv b) := (Int64.ofInt_tdiv (by show (-9223372036854775808 : Int) ≤ a; omega) (by show a ≤ (9223372036854775807 : Int); omega) (by show (-9223372036854775808 : Int) ≤ b; omega) (by show b ≤ (9223372036854775807 : Int); omega)).symm
theorem i32_ne0 {b : Int} (hb : 0 < b ∧ b < 2147483648) : ¬ Int32.ofInt b = 0 := by
  intro h
  have := (i32_eq (a := b) (b := 0) (by omega) (by omega)).mp h
  omega
theorem i64_ne0 {b : Int} (hb : 0 < b ∧ b < 9223372036854775808) : ¬ Int64.ofInt b = 0 := by
  intro h
  have := (i64_eq (a := b) (b := 0) (by omega) (by omega)).mp h
  omega
theorem V_idiv {a b : Int} (d : dc M pc .idiv 1 q) (k : V G M Q kc ks q lc (vi (a.tdiv b) :: st) w) (hb : 0 < b ∧ b < 2147483648 := by omega) (ra : -2147483648 ≤ a ∧ a < 2147483648 := by omega) : V G M Q kc ks pc lc (vi b :: vi a :: st) w := Vr_idiv (x := Int32.ofInt a) (y := Int32.ofInt b) (i32_ne0 hb) d (by rw [i32_div hb ra]; exact k)
theorem V_irem {a b : Int} (d : dc M pc .irem 1 q) (k : V G M Q kc ks q lc (vi (a.tmod b) :: st) w) (hb : 0 < b ∧ b < 2147483648 := by omega) (ra : -2147483648 ≤ a ∧ a < 2147483648 := by omega) : V G M Q kc ks pc lc (vi b :: vi a :: st) w := Vr_irem (x := Int32.ofInt a) (y := Int32.ofInt b) (i32_ne0 hb) d (by
  rw [i32_div hb ra, ← Int32.ofInt_mul, ← Int32.ofInt_sub, show a - a.tdiv b * b = a.tmod b by rw [Int.tmod_def, Int.mul_comm]]
  exact k)
theorem V_ldiv {a b : Int} (d : dc M pc .ldiv 1 q) (k : V G M Q kc ks q lc (vl (a.tdiv b) :: st) w) (hb : 0 < b ∧ b < 9223372036854775808 := by omega) (ra : -9223372036854775808 ≤ a ∧ a < 9223372036854775808 := by omega) : V G M Q kc ks pc lc (vl b :: vl a :: st) w := Vr_ldiv (x := Int64.ofInt a) (y := Int64.ofInt b) (i64_ne0 hb) d (by rw [i64_div hb ra]; exact k)
def iAnd (a b : Int) : Int := (Int32.ofInt a &&& Int32.ofInt b).toInt
def iOr (a b : Int) : Int := (Int32.ofInt a ||| Int32.ofInt b).toInt
def iXor (a b : Int) : Int := (Int32.ofInt a ^^^ Int32.ofInt b).toInt
def iShl (a b : Int) : Int := (Int32.ofInt a <<< (Int32.ofInt b &&& 31)).toInt
def iShr (a b : Int) : Int := (Int32.ofInt a >>> (Int32.ofInt b &&& 31)).toInt
def iUshr (a b : Int) : Int := (((Int32.ofInt a).toUInt32 >>> ((Int32.ofInt b).toUInt32 &&& Int32.toUInt32 31)).toInt32).toInt
def lAnd (a b : Int) : Int := (Int64.ofInt a &&& Int64.ofInt b).toInt
def lOr (a b : Int) : Int := (Int64.ofInt a ||| Int64.ofInt b).toInt
def lShl (a b : Int) : Int := (Int64.ofInt a <<< ((Int32.ofInt b).toInt64 &&& 63)).toInt
def lShr (a b : Int) : Int := (Int64.ofInt a >>> ((Int32.ofInt b).toInt64 &&& 63)).toInt
def lUshr (a b : Int) : Int := (((Int64.ofInt a).toUInt64 >>> ((Int32.ofInt b).toInt64.toUInt64 &&& Int64.toUInt64 63)).toInt64).toInt
def iChr (a : Int) : Int := (((Int32.ofInt a).toUInt32 % 65536).toInt32).toInt
theorem V_iand {a b : Int} (d : dc M pc .iand 1 q) (k : V G M Q kc ks q lc (vi (iAnd a b) :: st) w) : V G M Q kc ks pc lc (vi b :: vi a :: st) w := Vr_iand (x := Int32.ofInt a) (y := Int32.ofInt b) d (by unfold iAnd vi at k; rw [Int32.ofInt_toInt] at k; exact k)
theorem V_ior {a b : Int} (d : dc M pc .ior 1 q) (k : V G M Q kc ks q lc (vi (iOr a b) :: st) w) : V G M Q kc ks pc lc (vi b :: vi a :: st) w := Vr_ior (x := Int32.ofInt a) (y := Int32.ofInt b) d (by unfold iOr vi at k; rw [Int32.ofInt_toInt] at k; exact k)
theorem V_ixor {a b : Int} (d : dc M pc .ixor 1 q) (k : V G M Q kc ks q lc (vi (iXor a b) :: st) w) : V G M Q kc ks pc lc (vi b :: vi a :: st) w := Vr_ixor (x := Int32.ofInt a) (y := Int32.ofInt b) d (by unfold iXor vi at k; rw [Int32.ofInt_toInt] at k; exact k)
theorem V_ishl {a b : Int} (d : dc M pc .ishl 1 q) (k : V G M Q kc ks q lc (vi (iShl a b) :: st) w) : V G M Q kc ks pc lc (vi b :: vi a :: st) w := Vr_ishl (x := Int32.ofInt a) (y := Int32.ofInt b) d (by unfold iShl vi at k; rw [Int32.ofInt_toInt] at k; exact k)
theorem V_ishr {a b : Int} (d : dc M pc .ishr 1 q) (k : V G M Q kc ks q lc (vi (iShr a b) :: st) w) : V G M Q kc ks pc lc (vi b :: vi a :: st) w := Vr_ishr (x := Int32.ofInt a) (y := Int32.ofInt b) d (by unfold iShr vi at k; rw [Int32.ofInt_toInt] at k; exact k)
theorem V_iushr {a b : Int} (d : dc M pc .iushr 1 q) (k : V G M Q kc ks q lc (vi (iUshr a b) :: st) w) : V G M Q kc ks pc lc (vi b :: vi a :: st) w := Vr_iushr (x := Int32.ofInt a) (y := Int32.ofInt b) d (by unfold iUshr vi at k; rw [Int32.ofInt_toInt] at k; exact k)
theorem V_land {a b : Int} (d : dc M pc .land 1 q) (k : V G M Q kc ks q lc (vl (lAnd a b) :: st) w) : V G M Q kc ks pc lc (vl b :: vl a :: st) w := Vr_land (x := Int64.ofInt a) (y := Int64.ofInt b) d (by unfold lAnd vl at k; rw [Int64.ofInt_toInt] at k; exact k)
theorem V_lor {a b : Int} (d : dc M pc .lor 1 q) (k : V G M Q kc ks q lc (vl (lOr a b) :: st) w) : V G M Q kc ks pc lc (vl b :: vl a :: st) w := Vr_lor (x := Int64.ofInt a) (y := Int64.ofInt b) d (by unfold lOr vl at k; rw [Int64.ofInt_toInt] at k; exact k)
theorem V_lshl {a b : Int} (d : dc M pc .lshl 1 q) (k : V G M Q kc ks q lc (vl (lShl a b) :: st) w) : V G M Q kc ks pc lc (vi b :: vl a :: st) w := Vr_lshl (x := Int64.ofInt a) (y := Int32.ofInt b) d (by unfold lShl vl at k; rw [Int64.ofInt_toInt] at k; exact k)
theorem V_lshr {a b : Int} (d : dc M pc .lshr 1 q) (k : V G M Q kc ks q lc (vl (lShr a b) :: st) w) : V G M Q kc ks pc lc (vi b :: vl a :: st) w := Vr_lshr (x := Int64.ofInt a) (y := Int32.ofInt b) d (by unfold lShr vl at k; rw [Int64.ofInt_toInt] at k; exact k)
theorem V_lushr {a b : Int} (d : dc M pc .lushr 1 q) (k : V G M Q kc ks q lc (vl (lUshr a b) :: st) w) : V G M Q kc ks pc lc (vi b :: vl a :: st) w := Vr_lushr (x := Int64.ofInt a) (y := Int32.ofInt b) d (by unfold lUshr vl at k; rw [Int64.ofInt_toInt] at k; exact k)
theorem V_i2c {a : Int} (d : dc M pc .i2c 1 q) (k : V G M Q kc ks q lc (vi (iChr a) :: st) w) : V G M Q kc ks pc lc (vi a :: st) w := Vr_i2c (x := Int32.ofInt a) d (by unfold iChr vi at k; rw [Int32.ofInt_toInt] at k; exact k)
theorem V_icmpeq {a b : Int} (d : dj M pc (.if_icmp .eq) q t) (kt : a = b → V G M Q kc ks t lc st w) (kf : ¬ a = b → V G M Q kc ks q lc st w) (ra : -2147483648 ≤ a ∧ a < 2147483648 := by omega) (rb : -2147483648 ≤ b ∧ b < 2147483648 := by omega) : V G M Q kc ks pc lc (vi b :: vi a :: st) w := Vr_icmpeq (x := Int32.ofInt a) (y := Int32.ofInt b) d (fun h => kt (by rwa [i32_eq ra rb] at h)) (fun h => kf (by rwa [i32_eq ra rb] at h))
theorem V_icmpne {a b : Int} (d : dj M pc (.if_icmp .ne) q t) (kt : ¬ a = b → V G M Q kc ks t lc st w) (kf : a = b → V G M Q kc ks q lc st w) (ra : -2147483648 ≤ a ∧ a < 2147483648 := by omega) (rb : -2147483648 ≤ b ∧ b < 2147483648 := by omega) : V G M Q kc ks pc lc (vi b :: vi a :: st) w := Vr_icmpne (x := Int32.ofInt a) (y := Int32.ofInt b) d (fun h => kt (by rwa [i32_eq ra rb] at h)) (fun h => kf (by rwa [i32_eq ra rb] at h))
theorem V_icmplt {a b : Int} (d : dj M pc (.if_icmp .lt) q t) (kt : a < b → V G M Q kc ks t lc st w) (kf : ¬ a < b → V G M Q kc ks q lc st w) (ra : -2147483648 ≤ a ∧ a < 2147483648 := by omega) (rb : -2147483648 ≤ b ∧ b < 2147483648 := by omega) : V G M Q kc ks pc lc (vi b :: vi a :: st) w := Vr_icmplt (x := Int32.ofInt a) (y := Int32.ofInt b) d (fun h => kt (by rwa [i32_lt ra rb] at h)) (fun h => kf (by rwa [i32_lt ra rb] at h))
theorem V_icmpge {a b : Int} (d : dj M pc (.if_icmp .ge) q t) (kt : b ≤ a → V G M Q kc ks t lc st w) (kf : ¬ b ≤ a → V G M Q kc ks q lc st w) (ra : -2147483648 ≤ a ∧ a < 2147483648 := by omega) (rb : -2147483648 ≤ b ∧ b < 2147483648 := by omega) : V G M Q kc ks pc lc (vi b :: vi a :: st) w := Vr_icmpge (x := Int32.ofInt a) (y := Int32.ofInt b) d (fun h => kt (by rwa [i32_le rb ra] at h)) (fun h => kf (by rwa [i32_le rb ra] at h))
theorem V_icmpgt {a b : Int} (d : dj M pc (.if_icmp .gt) q t) (kt : b < a → V G M Q kc ks t lc st w) (kf : ¬ b < a → V G M Q kc ks q lc st w) (ra : -2147483648 ≤ a ∧ a < 2147483648 := by omega) (rb : -2147483648 ≤ b ∧ b < 2147483648 := by omega) : V G M Q kc ks pc lc (vi b :: vi a :: st) w := Vr_icmpgt (x := Int32.ofInt a) (y := Int32.ofInt b) d (fun h => kt (by rwa [i32_lt rb ra] at h)) (fun h => kf (by rwa [i32_lt rb ra] at h))
theorem V_icmple {a b : Int} (d : dj M pc (.if_icmp .le) q t) (kt : a ≤ b → V G M Q kc ks t lc st w) (kf : ¬ a ≤ b → V G M Q kc ks q lc st w) (ra : -2147483648 ≤ a ∧ a < 2147483648 := by omega) (rb : -2147483648 ≤ b ∧ b < 2147483648 := by omega) : V G M Q kc ks pc lc (vi b :: vi a :: st) w := Vr_icmple (x := Int32.ofInt a) (y := Int32.ofInt b) d (fun h => kt (by rwa [i32_le ra rb] at h)) (fun h => kf (by rwa [i32_le ra rb] at h))
theorem V_ifeq {a : Int} (d : dj M pc (.ifCond .eq) q t) (kt : a = 0 → V G M Q kc ks t lc st w) (kf : ¬ a = 0 → V G M Q kc ks q lc st w) (ra : -2147483648 ≤ a ∧ a < 2147483648 := by omega) : V G M Q kc ks pc lc (vi a :: st) w := Vr_ifeq (x := Int32.ofInt a) d (fun h => kt (by have h : Int32.ofInt a = Int32.ofInt 0 := h; rwa [i32_eq (b := 0) ra (by omega)] at h)) (fun h => kf (by have h : ¬ Int32.ofInt a = Int32.ofInt 0 := h; rwa [i32_eq (b := 0) ra (by omega)] at h))
theorem V_ifne {a : Int} (d : dj M pc (.ifCond .ne) q t) (kt : ¬ a = 0 → V G M Q kc ks t lc st w) (kf : a = 0 → V G M Q kc ks q lc st w) (ra : -2147483648 ≤ a ∧ a < 2147483648 := by omega) : V G M Q kc ks pc lc (vi a :: st) w := Vr_ifne (x := Int32.ofInt a) d (fun h => kt (by have h : ¬ Int32.ofInt a = Int32.ofInt 0 := h; rwa [i32_eq (b := 0) ra (by omega)] at h)) (fun h => kf (by have h : Int32.ofInt a = Int32.ofInt 0 := h; rwa [i32_eq (b := 0) ra (by omega)] at h))
theorem V_iflt {a : Int} (d : dj M pc (.ifCond .lt) q t) (kt : a < 0 → V G M Q kc ks t lc st w) (kf : ¬ a < 0 → V G M Q kc ks q lc st w) (ra : -2147483648 ≤ a ∧ a < 2147483648 := by omega) : V G M Q kc ks pc lc (vi a :: st) w := Vr_iflt (x := Int32.ofInt a) d (fun h => kt (by have h : Int32.ofInt a < Int32.ofInt 0 := h; rwa [i32_lt (b := 0) ra (by omega)] at h)) (fun h => kf (by have h : ¬ Int32.ofInt a < Int32.ofInt 0 := h; rwa [i32_lt (b := 0) ra (by omega)] at h))
theorem V_ifge {a : Int} (d : dj M pc (.ifCond .ge) q t) (kt : 0 ≤ a → V G M Q kc ks t lc st w) (kf : ¬ 0 ≤ a → V G M Q kc ks q lc st w) (ra : -2147483648 ≤ a ∧ a < 2147483648 := by omega) : V G M Q kc ks pc lc (vi a :: st) w := Vr_ifge (x := Int32.ofInt a) d (fun h => kt (by have h : Int32.ofInt 0 ≤ Int32.ofInt a := h; rwa [i32_le (a := 0) (by omega) ra] at h)) (fun h => kf (by have h : ¬ Int32.ofInt 0 ≤ Int32.ofInt a := h; rwa [i32_le (a := 0) (by omega) ra] at h))
theorem V_ifgt {a : Int} (d : dj M pc (.ifCond .gt) q t) (kt : 0 < a → V G M Q kc ks t lc st w) (kf : ¬ 0 < a → V G M Q kc ks q lc st w) (ra : -2147483648 ≤ a ∧ a < 2147483648 := by omega) : V G M Q kc ks pc lc (vi a :: st) w := Vr_ifgt (x := Int32.ofInt a) d (fun h => kt (by have h : Int32.ofInt 0 < Int32.ofInt a := h; rwa [i32_lt (a := 0) (by omega) ra] at h)) (fun h => kf (by have h : ¬ Int32.ofInt 0 < Int32.ofInt a := h; rwa [i32_lt (a := 0) (by omega) ra] at h))
theorem V_ifle {a : Int} (d : dj M pc (.ifCond .le) q t) (kt : a ≤ 0 → V G M Q kc ks t lc st w) (kf : ¬ a ≤ 0 → V G M Q kc ks q lc st w) (ra : -2147483648 ≤ a ∧ a < 2147483648 := by omega) : V G M Q kc ks pc lc (vi a :: st) w := Vr_ifle (x := Int32.ofInt a) d (fun h => kt (by have h : Int32.ofInt a ≤ Int32.ofInt 0 := h; rwa [i32_le (b := 0) ra (by omega)] at h)) (fun h => kf (by have h : ¬ Int32.ofInt a ≤ Int32.ofInt 0 := h; rwa [i32_le (b := 0) ra (by omega)] at h))
theorem lcmp_of {a b : Int} (ra : -9223372036854775808 ≤ a ∧ a < 9223372036854775808) (rb : -9223372036854775808 ≤ b ∧ b < 9223372036854775808) : lg_cmp (Int64.ofInt a) (Int64.ofInt b) = Int32.ofInt (if b < a then 1 else if a = b then 0 else -1) := by
  unfold lg_cmp
  by_cases h1 : b < a
  · rw [if_pos ((i64_lt rb ra).mpr h1), if_pos h1]; rfl
  · rw [if_neg (fun h => h1 ((i64_lt rb ra).mp h)), if_neg h1]
    by_cases h2 : a = b
    · rw [if_pos ((i64_eq ra rb).mpr h2), if_pos h2]; rfl
    · rw [if_neg (fun h => h2 ((i64_eq ra rb).mp h)), if_neg h2]; rfl
theorem icmp_r {a b : Int} : -2147483648 ≤ (if b < a then 1 else if a = b then 0 else -1 : Int) ∧ (if b < a then 1 else if a = b then 0 else -1 : Int) < 2147483648 := by
  split
  · omega
  · split <;> omega
theorem V_lcmpeq {a b : Int} {q1 : Nat} (d1 : dc M pc .lcmp 1 q1) (d : dj M q1 (.ifCond .eq) q t) (kt : a = b → V G M Q kc ks t lc st w) (kf : ¬ a = b → V G M Q kc ks q lc st w) (ra : -9223372036854775808 ≤ a ∧ a < 9223372036854775808 := by omega) (rb : -9223372036854775808 ≤ b ∧ b < 9223372036854775808 := by omega) : V G M Q kc ks pc lc (vl b :: vl a :: st) w := by
  refine Vr_lcmp (x := Int64.ofInt a) (y := Int64.ofInt b) d1 ?_
  rw [lcmp_of ra rb]
  refine V_ifeq d (fun h => kt ?_) (fun h => kf ?_) icmp_r
  · split at h
    · omega
    · split at h <;> omega
  · split at h
    · omega
    · split at h <;> omega
theorem V_lcmpne {a b : Int} {q1 : Nat} (d1 : dc M pc .lcmp 1 q1) (d : dj M q1 (.ifCond .ne) q t) (kt : ¬ a = b → V G M Q kc ks t lc st w) (kf : a = b → V G M Q kc ks q lc st w) (ra : -9223372036854775808 ≤ a ∧ a < 9223372036854775808 := by omega) (rb : -9223372036854775808 ≤ b ∧ b < 9223372036854775808 := by omega) : V G M Q kc ks pc lc (vl b :: vl a :: st) w := by
  refine Vr_lcmp (x := Int64.ofInt a) (y := Int64.ofInt b) d1 ?_
  rw [lcmp_of ra rb]
  refine V_ifne d (fun h => kt ?_) (fun h => kf ?_) icmp_r
  · split at h
    · omega
    · split at h <;> omega
  · split at h
    · omega
    · split at h <;> omega
theorem V_lcmplt {a b : Int} {q1 : Nat} (d1 : dc M pc .lcmp 1 q1) (d : dj M q1 (.ifCond .lt) q t) (kt : a < b → V G M Q kc ks t lc st w) (kf : ¬ a < b → V G M Q kc ks q lc st w) (ra : -9223372036854775808 ≤ a ∧ a < 9223372036854775808 := by omega) (rb : -9223372036854775808 ≤ b ∧ b < 9223372036854775808 := by omega) : V G M Q kc ks pc lc (vl b :: vl a :: st) w := by
  refine Vr_lcmp (x := Int64.ofInt a) (y := Int64.ofInt b) d1 ?_
  rw [lcmp_of ra rb]
  refine V_iflt d (fun h => kt ?_) (fun h => kf ?_) icmp_r
  · split at h
    · omega
    · split at h <;> omega
  · split at h
    · omega
    · split at h <;> omega
theorem V_lcmpge {a b : Int} {q1 : Nat} (d1 : dc M pc .lcmp 1 q1) (d : dj M q1 (.ifCond .ge) q t) (kt : b ≤ a → V G M Q kc ks t lc st w) (kf : ¬ b ≤ a → V G M Q kc ks q lc st w) (ra : -9223372036854775808 ≤ a ∧ a < 9223372036854775808 := by omega) (rb : -9223372036854775808 ≤ b ∧ b < 9223372036854775808 := by omega) : V G M Q kc ks pc lc (vl b :: vl a :: st) w := by
  refine Vr_lcmp (x := Int64.ofInt a) (y := Int64.ofInt b) d1 ?_
  rw [lcmp_of ra rb]
  refine V_ifge d (fun h => kt ?_) (fun h => kf ?_) icmp_r
  · split at h
    · omega
    · split at h <;> omega
  · split at h
    · omega
    · split at h <;> omega
theorem V_lcmpgt {a b : Int} {q1 : Nat} (d1 : dc M pc .lcmp 1 q1) (d : dj M q1 (.ifCond .gt) q t) (kt : b < a → V G M Q kc ks t lc st w) (kf : ¬ b < a → V G M Q kc ks q lc st w) (ra : -9223372036854775808 ≤ a ∧ a < 9223372036854775808 := by omega) (rb : -9223372036854775808 ≤ b ∧ b < 9223372036854775808 := by omega) : V G M Q kc ks pc lc (vl b :: vl a :: st) w := by
  refine Vr_lcmp (x := Int64.ofInt a) (y := Int64.ofInt b) d1 ?_
  rw [lcmp_of ra rb]
  refine V_ifgt d (fun h => kt ?_) (fun h => kf ?_) icmp_r
  · split at h
    · omega
    · split at h <;> omega
  · split at h
    · omega
    · split at h <;> omega
theorem V_lcmple {a b : Int} {q1 : Nat} (d1 : dc M pc .lcmp 1 q1) (d : dj M q1 (.ifCond .le) q t) (kt : a ≤ b → V G M Q kc ks t lc st w) (kf : ¬ a ≤ b → V G M Q kc ks q lc st w) (ra : -9223372036854775808 ≤ a ∧ a < 9223372036854775808 := by omega) (rb : -9223372036854775808 ≤ b ∧ b < 9223372036854775808 := by omega) : V G M Q kc ks pc lc (vl b :: vl a :: st) w := by
  refine Vr_lcmp (x := Int64.ofInt a) (y := Int64.ofInt b) d1 ?_
  rw [lcmp_of ra rb]
  refine V_ifle d (fun h => kt ?_) (fun h => kf ?_) icmp_r
  · split at h
    · omega
    · split at h <;> omega
  · split at h
    · omega
    · split at h <;> omega
theorem V_tabIn {dflt lo hi a : Int} {offs : Array Int} {n : Nat} {off : Int} (d : dc M pc (.tableswitch dflt lo hi offs) n q) (h1 : lo ≤ a ∧ a ≤ hi) (ho : offs[(a - lo).toNat]? = some off) (ht : (pc : Int) + off = (t : Int)) (k : V G M Q kc ks t lc st w) (ra : -2147483648 ≤ a ∧ a < 2147483648 := by omega) : V G M Q kc ks pc lc (vi a :: st) w := by
  obtain ⟨d, rfl⟩ := d
  intro p l e s m args below meth c H locs ls C hP hS hl
  have e : (Int32.ofInt a).toInt = a := Int32.toInt_ofInt_of_le (by omega) (by omega)
  exact lv_tableIn C.1 C.2.1 d (by rw [e]; omega) (by rw [e]; omega) (by rw [e]; exact ho) ht (k p l _ s m args below meth c H locs ls C hP hS hl)
theorem V_tabOut {dflt lo hi a : Int} {offs : Array Int} {n : Nat} (d : dc M pc (.tableswitch dflt lo hi offs) n q) (h1 : a < lo ∨ hi < a) (ht : (pc : Int) + dflt = (t : Int)) (k : V G M Q kc ks t lc st w) (ra : -2147483648 ≤ a ∧ a < 2147483648 := by omega) : V G M Q kc ks pc lc (vi a :: st) w := by
  obtain ⟨d, rfl⟩ := d
  intro p l e s m args below meth c H locs ls C hP hS hl
  have e : (Int32.ofInt a).toInt = a := Int32.toInt_ofInt_of_le (by omega) (by omega)
  exact lv_tableOut C.1 C.2.1 d (by rw [e]; exact h1) ht (k p l _ s m args below meth c H locs ls C hP hS hl)
end R6
end
section
theorem gad_lt {G : gT} {i : Nat} (h : i < 1000) : gad G i = gB G + i := if_pos h
theorem wls_D {G : gT} {w : wT} (h : w.1 ≤ 1000) : va_D (gA G) (wls G w) := by
  refine ⟨fun i j x y hx hy e => ?_, fun k x hx => ?_⟩
  · obtain ⟨h1, rfl⟩ := wls_at hx
    obtain ⟨h2, rfl⟩ := wls_at hy
    have e : gad G i = gad G j := e
    rw [gad_lt (by omega), gad_lt (by omega)] at e
    omega
  · obtain ⟨h1, rfl⟩ := wls_at hx
    show gB G ≤ gad G k
    rw [gad_lt (by omega)]
    omega
theorem Hp.put {G : gT} {w : wT} {H H1 : Heap} {o : Nat} {x : aE} (h : Hp G w H) (ho : o < w.1) (he : va_at (gD G) vwCl (gad G o, wre G x) H1) (z : H1.size = H.size) (oq : ∀ q : Nat, q ≠ gad G o → H1[q]? = H[q]?) : Hp G (put w o x) H1 := by
  refine ⟨?_, by rw [z]; exact h.2.1, h.2.2⟩
  have := h.1.set (wls_D h.2.2) (wls_get ho) he oq
  rwa [wls_put] at this
theorem Hp.psh {G : gT} {w : wT} {H H1 : Heap} {x : aE} (h : Hp G w H) (hn : w.1 < 1000) (he : va_at (gD G) vwCl (gad G w.1, wre G x) H1) (z : H1.size = H.size + 1) (oq : ∀ q : Nat, q < H.size → H1[q]? = H[q]?) : Hp G (psh w x) H1 := by
  refine ⟨?_, by rw [z, h.2.1]; show gB G + w.1 + 1 = gB G + (w.1 + 1); omega, by show w.1 + 1 ≤ 1000; omega⟩
  rw [← wls_psh]
  refine (h.1.kept (fun k x hx => oq x.1 ((h.1 k x hx).lt))).app (fun k x hx => ?_)
  have hz : k < 1 := (List.getElem?_eq_some_iff.mp hx).1
  rw [show k = 0 by omega] at hx
  cases hx
  exact he
/-- the class of this number, its fields, what the tables say of them -/
def cOk (ci : Nat) (C : String) (T : u_T) (N : Nat) (ty : Nat → FieldType) : Prop := vwCl[ci]? = some (C, T, N) ∧ (∀ w ∈ u_ws C T N, w ∈ aW) ∧ (∀ k, k < N → parseFieldDescriptor (T k).2.2.1 = some (ty k)) ∧ (∀ a, a < N → ∀ b, b < N → a ≠ b → (T a).2.1 ≠ (T b).2.1) ∧ Cond.instantiable C N ∈ aW ∧ Cond.initialized C ∈ aW ∧ nF ci = N ∧ ∀ k, k < N → (T k).1 = C
/-- this entry of this class's pool is field k of class ci -/
def fLk (own : String) (i ci k : Nat) (ty0 : FieldType) (fin : Bool) : Prop := ∃ C T N ty, cOk ci C T N ty ∧ k < N ∧ Cond.fieldLink own i C (T k).2.1 (T k).2.2.1 ∈ aW ∧ ty k = ty0 ∧ (T k).2.2.2 = fin ∧ (fin = true → own = C)
theorem nfs_get {G : gT} {f : Nat → Value} {N k : Nat} (h : k < N) : ((List.range N).map (fun k => gre G (f k)))[k]? = some (gre G (f k)) := by
  simp [List.getElem?_map, List.getElem?_range, h]
theorem nfs_set {G : gT} {f : Nat → Value} {N k : Nat} {v : Value} : ((List.range N).map (fun j => gre G (f j))).set k (gre G v) = (List.range N).map (fun j => gre G (up f k v j)) := by
  apply List.ext_getElem?
  intro j
  rw [List.getElem?_set]
  by_cases e : k = j
  · subst e
    by_cases h : k < N
    · simp [h, up]
    · simp [h]
  · by_cases h : j < N
    · simp [e, h, up, Ne.symm e]
    · simp [e, h]
section R7
variable {G : gT} {M : mT} {Q : Option Value → wT → Prop} {kc ks pc q t : Nat} {lc lc' : List (Option Value)} {st : List Value} {w : wT}
theorem V_getf {o ci k i : Nat} {f : Nat → Value} {ty : FieldType} {fin : Bool} (hL : fLk (mOwn M) i ci k ty fin) (ho : o < w.1) (hw : w.2 o = .inr (ci, f)) (d : dc M pc (.getfield i) 3 q) (kk : V G M Q kc ks q lc (f k :: st) w) : V G M Q kc ks pc lc (.ref o :: st) w := by
  obtain ⟨d, rfl⟩ := d
  obtain ⟨C, T, N, ty', ⟨h1, h2, h3, h4, h5, h6, h7, h8⟩, h9, h10, h11, h12⟩ := hL
  intro p l e s m args below meth c H locs ls Cc hP hS hl
  have he : (wls G w)[o]? = some (gad G o, .inr (ci, (List.range N).map (fun k => gre G (f k)))) := by rw [wls_get ho, hw, ← h7]; rfl
  exact va_get (C := C) (T := T) (N := N) Cc.1 Cc.2.1 Cc.2.2.2.2.2.1 h2 Cc.2.2.2.2.1 Cc.2.2.2.2.2.2.2.2.1 hP.1 o he h1 k h9 (Cc.2.2.2.2.2.1 _ h10) (fun x hx => by rw [h8 k h9] at hx; exact hx) (nfs_get h9) d (kk p l e s m args below meth c H locs ls Cc hP hS hl)
theorem V_putf {o ci k i : Nat} {f : Nat → Value} {ty : FieldType} {v : Value} (hL : fLk (mOwn M) i ci k ty false) (ho : o < w.1) (hw : w.2 o = .inr (ci, f)) (hn : narrow ty (gre G v) = gre G v) (hfit : fits ty (gre G v) = true) (d : dc M pc (.putfield i) 3 q) (kk : V G M Q kc ks q lc st (put w o (.inr (ci, up f k v)))) : V G M Q kc ks pc lc (v :: .ref o :: st) w := by
  obtain ⟨d, rfl⟩ := d
  obtain ⟨C, T, N, ty', ⟨hc, hin, hty, hnm, h5, h6, h7, h8⟩, hk, h10, h11, hfin, -⟩ := hL
  intro p l e s m args below meth c H locs ls Cc hP hS hl
  have he : (wls G w)[o]? = some (gad G o, .inr (ci, (List.range N).map (fun k => gre G (f k)))) := by rw [wls_get ho, hw, ← h7]; rfl
  have hK := Cc.2.2.2.2.2.2.2.2.1
  have hts := Cc.2.2.2.2.2.1
  have hown := Cc.2.2.2.2.1
  have hD := wls_D (G := G) hP.2.2
  have hap := va_apart (own := mOwn M) hts hin ty' hty hnm hK hc
  obtain ⟨r, h1, cell, q1, q2, q3, q4⟩ := hP.1 o _ he
  have hr : r = (C, T, N) := Option.some.inj (h1.symm.trans hc)
  subst hr
  obtain ⟨hSl, hfc, kC, hkC, hkind⟩ := hK.1 ci _ hc
  obtain ⟨cf, kf, fi, fd, hi, hsl⟩ := hSl k hk
  have hlay := hts _ (hin _ (u_in_lay hk))
  unfold u_lay at hlay
  rw [if_neg (by rw [hfin]; decide)] at hlay
  have hst := (u_facts hfc hkC (u_lays hts hin hk) hi).1
  have h66 := u_store hfc hkC hkind hlay hi (by rw [hty k hk, h11]) hn hfit
  refine W.putK Cc.1 Cc.2.1 (f := fd) ⟨hown, hts _ h10, ⟨_, _, _, by rw [h8 k hk] at hi; exact hi⟩, hst⟩ (by rw [q2]; exact h66) q1 q3 (by rw [hsl]; exact k2_hasslot (q4 k hk)) rfl rfl d fun H' e1 e2 e3 => ?_
  rw [hsl] at e1 ⊢
  refine kk p l e s m args below meth c H' _ ls Cc (hP.put ho ?_ e2 e3) (hS.put e2 e3 (hD.2 o _ he)) hl
  refine ⟨_, hc, t_OB.to (V := updV (vp_V ((List.range N).map (fun k => gre G (f k)))) k (gre G v)) ⟨_, e1, q2, q3, t_set q4 hap hk (gre G v)⟩ (fun j _ => ?_)⟩
  rw [vp_updV_set (by simpa using hk) (gre G v) j, nfs_set]
  show _ = vp_V (List.map _ (List.range (nF ci))) j
  rw [h7]
/-- a final field, in the constructor of its class -/
theorem V_putF {o ci k i : Nat} {f : Nat → Value} {ty : FieldType} {v : Value} (hL : fLk (mOwn M) i ci k ty true) (hmi : (mY M).name = "<init>") (ho : o < w.1) (hw : w.2 o = .inr (ci, f)) (hn : narrow ty (gre G v) = gre G v) (hfit : fits ty (gre G v) = true) (d : dc M pc (.putfield i) 3 q) (kk : V G M Q kc ks q lc st (put w o (.inr (ci, up f k v)))) : V G M Q kc ks pc lc (v :: .ref o :: st) w := by
  obtain ⟨d, rfl⟩ := d
  obtain ⟨C, T, N, ty', ⟨hc, hin, hty, hnm, h5, h6, h7, h8⟩, hk, h10, h11, hfin, hoC⟩ := hL
  have hoC := hoC rfl
  intro p l e s m args below meth c H locs ls Cc hP hS hl
  have he : (wls G w)[o]? = some (gad G o, .inr (ci, (List.range N).map (fun k => gre G (f k)))) := by rw [wls_get ho, hw, ← h7]; rfl
  have hK := Cc.2.2.2.2.2.2.2.2.1
  have hts := Cc.2.2.2.2.2.1
  have hown := Cc.2.2.2.2.1
  have hD := wls_D (G := G) hP.2.2
  have hap := va_apart (own := mOwn M) hts hin ty' hty hnm hK hc
  obtain ⟨r, h1, cell, q1, q2, q3, q4⟩ := hP.1 o _ he
  have hr : r = (C, T, N) := Option.some.inj (h1.symm.trans hc)
  subst hr
  obtain ⟨hSl, hfc, kC, hkC, hkind⟩ := hK.1 ci _ hc
  obtain ⟨cf, kf, fi, fd, hi, hsl⟩ := hSl k hk
  have hlay := hts _ (hin _ (u_in_lay hk))
  unfold u_lay at hlay
  rw [if_pos hfin] at hlay
  have hst := (u_facts hfc hkC (u_lays hts hin hk) hi).1
  have hcf : m.cls = cf := by
    obtain ⟨_, _, c', _, _, _, -, -, hf', -, -, -, hown2, -⟩ := Cond.laysFinal_spec hlay
    have e1 : c' = cf := by have := hi.symm.trans hf'; simp at this; exact this.1.symm
    rw [h8 k hk, ← hoC] at hown2
    rw [← e1]; exact Option.some.inj (hown.symm.trans hown2)
  have h66 := u_fits hfc hkC hkind (Or.inr hlay) hi (by rw [hty k hk, h11]) hn hfit
  refine W.putFinK Cc.1 Cc.2.1 hown (hts _ h10) (by rw [h8 k hk] at hi; exact hi) hst hcf (Cc.2.2.2.2.2.2.2.1.trans hmi) (by rw [q2]; exact h66) q1 q3 (by rw [hsl]; exact k2_hasslot (q4 k hk)) rfl rfl d fun H' e1 e2 e3 => ?_
  rw [hsl] at e1 ⊢
  refine kk p l e s m args below meth c H' _ ls Cc (hP.put ho ?_ e2 e3) (hS.put e2 e3 (hD.2 o _ he)) hl
  refine ⟨_, hc, t_OB.to (V := updV (vp_V ((List.range N).map (fun k => gre G (f k)))) k (gre G v)) ⟨_, e1, q2, q3, t_set q4 hap hk (gre G v)⟩ (fun j _ => ?_)⟩
  rw [vp_updV_set (by simpa using hk) (gre G v) j, nfs_set]
  show _ = vp_V (List.map _ (List.range (nF ci))) j
  rw [h7]
theorem up_i32 {f : Nat → Int} {i : Int} {x : Int} (hi : 0 ≤ i ∧ i < 2147483648) : upd (fun k => Int32.ofInt (f k)) (Int32.ofInt i).toNatClampNeg (Int32.ofInt x) = fun k => Int32.ofInt (up f i.toNat x k) := by
  funext k
  rw [i32_clamp hi]
  simp only [upd, up]
  split <;> rfl
theorem V_iaload {o n : Nat} {f : Nat → Int} {i : Int} (ho : o < w.1) (hw : w.2 o = .inl (0, n, f)) (d : dc M pc .iaload 1 q) (kk : V G M Q kc ks q lc (vi (f i.toNat) :: st) w) (hi : 0 ≤ i ∧ i < n := by omega) (hn : n < 2147483648 := by omega) : V G M Q kc ks pc lc (vi i :: .ref o :: st) w := by
  obtain ⟨d, rfl⟩ := d
  intro p l e s m args below meth c H locs ls Cc hP hS hl
  refine va_iald Cc.1 Cc.2.1 Cc.2.2.2.2.2.2.2.2.1 hP.1 o 0 (cA := gtc G 0) (n := n) (f := fun k => Int32.ofInt (f k)) (by rw [wls_get ho, hw]; rfl) rfl (i32_in hi hn) d ?_
  rw [i32_clamp (by omega)]
  exact kk p l e s m args below meth c H locs ls Cc hP hS hl
theorem V_laload {o n : Nat} {f : Nat → Int} {i : Int} (ho : o < w.1) (hw : w.2 o = .inl (1, n, f)) (d : dc M pc .laload 1 q) (kk : V G M Q kc ks q lc (vl (f i.toNat) :: st) w) (hi : 0 ≤ i ∧ i < n := by omega) (hn : n < 2147483648 := by omega) : V G M Q kc ks pc lc (vi i :: .ref o :: st) w := by
  obtain ⟨d, rfl⟩ := d
  intro p l e s m args below meth c H locs ls Cc hP hS hl
  refine va_lald Cc.1 Cc.2.1 Cc.2.2.2.2.2.2.2.2.1 hP.1 o 1 (cA := gtc G 1) (n := n) (f := fun k => Int64.ofInt (f k)) (by rw [wls_get ho, hw]; rfl) rfl (i32_in hi hn) d ?_
  rw [i32_clamp (by omega)]
  exact kk p l e s m args below meth c H locs ls Cc hP hS hl
theorem V_zaload {o n : Nat} {f : Nat → Int} {i : Int} (ho : o < w.1) (hw : w.2 o = .inl (2, n, f)) (d : dc M pc .baload 1 q) (kk : V G M Q kc ks q lc (vi (f i.toNat) :: st) w) (hi : 0 ≤ i ∧ i < n := by omega) (hn : n < 2147483648 := by omega) : V G M Q kc ks pc lc (vi i :: .ref o :: st) w := by
  obtain ⟨d, rfl⟩ := d
  intro p l e s m args below meth c H locs ls Cc hP hS hl
  refine va_zald Cc.1 Cc.2.1 Cc.2.2.2.2.2.2.2.2.1 hP.1 o 2 (cA := gtc G 2) (n := n) (f := fun k => Int32.ofInt (f k)) (by rw [wls_get ho, hw]; rfl) rfl (i32_in hi hn) d ?_
  rw [i32_clamp (by omega)]
  exact kk p l e s m args below meth c H locs ls Cc hP hS hl
theorem V_iastore {o n : Nat} {f : Nat → Int} {i x : Int} (ho : o < w.1) (hw : w.2 o = .inl (0, n, f)) (d : dc M pc .iastore 1 q) (kk : V G M Q kc ks q lc st (put w o (.inl (0, n, up f i.toNat x)))) (hi : 0 ≤ i ∧ i < n := by omega) (hn : n < 2147483648 := by omega) : V G M Q kc ks pc lc (vi x :: vi i :: .ref o :: st) w := by
  obtain ⟨d, rfl⟩ := d
  intro p l e s m args below meth c H locs ls Cc hP hS hl
  have hD := wls_D (G := G) hP.2.2
  have ha : (wls G w)[o]? = some (gad G o, .inl (gtc G 0, n, .inl (fun k => Int32.ofInt (f k)))) := by rw [wls_get ho, hw]; rfl
  have hK := Cc.2.2.2.2.2.2.2.2.1
  refine W.iast Cc.1 Cc.2.1 (hP.1 o _ ha) ((hK.2 0 _ rfl).1 n (fun j => .int (Int32.ofInt (f j)))) (fun q => by cases q) (by show ¬ (Int32.ofInt i < 0 ∨ (arrV _ _ _).slots.size ≤ _); rw [arrV_size]; exact i32_in hi hn) rfl rfl d fun H1 e1 z oq => ?_
  refine kk p l e s m args below meth c H1 _ ls Cc (hP.put ho ?_ z oq) (hS.put z oq (hD.2 o _ ha)) hl
  show H1[gad G o]? = some (vp_cell _ _)
  rw [e1]
  show some (((vp_cell (gtc G 0) (n, .inl (fun k => Int32.ofInt (f k)))).setSlot _ _)) = some (vp_cell (gtc G 0) (n, .inl (fun k => Int32.ofInt (up f i.toNat x k))))
  rw [vp_cell_i, vp_cell_i, arrV_store]
  congr 2
  funext j
  rw [i32_clamp (by omega)]
  by_cases hq : j = i.toNat
  · subst hq
    simp [updV, up]
  · simp [updV, up, hq]
theorem V_lastore {o n : Nat} {f : Nat → Int} {i x : Int} (ho : o < w.1) (hw : w.2 o = .inl (1, n, f)) (d : dc M pc .lastore 1 q) (kk : V G M Q kc ks q lc st (put w o (.inl (1, n, up f i.toNat x)))) (hi : 0 ≤ i ∧ i < n := by omega) (hn : n < 2147483648 := by omega) : V G M Q kc ks pc lc (vl x :: vi i :: .ref o :: st) w := by
  obtain ⟨d, rfl⟩ := d
  intro p l e s m args below meth c H locs ls Cc hP hS hl
  have hD := wls_D (G := G) hP.2.2
  have ha : (wls G w)[o]? = some (gad G o, .inl (gtc G 1, n, .inr (.inl (fun k => Int64.ofInt (f k))))) := by rw [wls_get ho, hw]; rfl
  have hK := Cc.2.2.2.2.2.2.2.2.1
  refine W.last Cc.1 Cc.2.1 (hP.1 o _ ha) ((hK.2 1 _ rfl).1 n (fun j => .long (Int64.ofInt (f j)))) (fun q => by cases q) (by show ¬ (Int32.ofInt i < 0 ∨ (arrV _ _ _).slots.size ≤ _); rw [arrV_size]; exact i32_in hi hn) rfl rfl d fun H1 e1 z oq => ?_
  refine kk p l e s m args below meth c H1 _ ls Cc (hP.put ho ?_ z oq) (hS.put z oq (hD.2 o _ ha)) hl
  show H1[gad G o]? = some (vp_cell _ _)
  rw [e1]
  show some (((vp_cell (gtc G 1) (n, .inr (.inl (fun k => Int64.ofInt (f k))))).setSlot _ _)) = some (vp_cell (gtc G 1) (n, .inr (.inl (fun k => Int64.ofInt (up f i.toNat x k)))))
  rw [vp_cell_l, vp_cell_l, arrV_store]
  congr 2
  funext j
  rw [i32_clamp (by omega)]
  by_cases hq : j = i.toNat
  · subst hq
    simp [updV, up]
  · simp [updV, up, hq]
theorem nar_z {x : Int} (h : x = 0 ∨ x = 1) : narrow .boolean (.int (Int32.ofInt x)) = .int (Int32.ofInt x) := by
  rcases h with rfl | rfl <;> rfl
theorem V_zastore {o n : Nat} {f : Nat → Int} {i x : Int} (hx : x = 0 ∨ x = 1) (ho : o < w.1) (hw : w.2 o = .inl (2, n, f)) (d : dc M pc .bastore 1 q) (kk : V G M Q kc ks q lc st (put w o (.inl (2, n, up f i.toNat x)))) (hi : 0 ≤ i ∧ i < n := by omega) (hn : n < 2147483648 := by omega) : V G M Q kc ks pc lc (vi x :: vi i :: .ref o :: st) w := by
  obtain ⟨d, rfl⟩ := d
  intro p l e s m args below meth c H locs ls Cc hP hS hl
  have hD := wls_D (G := G) hP.2.2
  have ha : (wls G w)[o]? = some (gad G o, .inl (gtc G 2, n, .inl (fun k => Int32.ofInt (f k)))) := by rw [wls_get ho, hw]; rfl
  have hK := Cc.2.2.2.2.2.2.2.2.1
  refine W.zast Cc.1 Cc.2.1 (hP.1 o _ ha) ((hK.2 2 _ rfl).1 n (fun j => .int (Int32.ofInt (f j)))) (fun q => by cases q) (by show ¬ (Int32.ofInt i < 0 ∨ (arrV _ _ _).slots.size ≤ _); rw [arrV_size]; exact i32_in hi hn) rfl rfl d fun H1 e1 z oq => ?_
  refine kk p l e s m args below meth c H1 _ ls Cc (hP.put ho ?_ z oq) (hS.put z oq (hD.2 o _ ha)) hl
  show H1[gad G o]? = some (vp_cell _ _)
  rw [e1, nar_z hx]
  show some (((vp_cell (gtc G 2) (n, .inl (fun k => Int32.ofInt (f k)))).setSlot _ _)) = some (vp_cell (gtc G 2) (n, .inl (fun k => Int32.ofInt (up f i.toNat x k))))
  rw [vp_cell_i, vp_cell_i, arrV_store]
  congr 2
  funext j
  rw [i32_clamp (by omega)]
  by_cases hq : j = i.toNat
  · subst hq
    simp [updV, up]
  · simp [updV, up, hq]
/-- what is read only -/
theorem V_ialoadS {j : Nat} {i : Int} (hj : j < 6) (hi : 0 ≤ i ∧ i < (stV j).length) (d : dc M pc .iaload 1 q) (kk : V G M Q kc ks q lc (vi ((stV j).getD i.toNat 0) :: st) w) : V G M Q kc ks pc lc (vi i :: .ref (1000 + j) :: st) w := by
  obtain ⟨d, rfl⟩ := d
  intro p l e s m args below meth c H locs ls Cc hP hS hl
  have hlen : (stV j).length < 10 := by
    rcases (show j = 0 ∨ j = 1 ∨ j = 2 ∨ j = 3 ∨ j = 4 ∨ j = 5 by omega) with rfl | rfl | rfl | rfl | rfl | rfl <;> decide
  have hR := (Cc.2.2.2.2.2.2.2.2.2.2.1.1 j hj).2
  have e1 : gre G (.ref (1000 + j)) = .ref (gsp G (1000 + j)) := by
    show Value.ref (gad G (1000 + j)) = _
    rw [gad, if_neg (by omega)]
  show W _ _ _ _ _ _ _ _ _ _ _ _ _ _ _ (F0 m pc ls (gre G (vi i) :: gre G (.ref (1000 + j)) :: st.map (gre G)))
  rw [e1]
  refine va_ti Cc.1 Cc.2.1 hR hS (i32_in hi (by omega)) rfl d ?_
  show W _ _ _ _ _ _ _ _ _ _ _ _ _ _ _ (F0 m (pc + 1) ls (.int (Int32.ofInt ((stV j).getD (Int32.ofInt i).toNatClampNeg 0)) :: st.map (gre G)))
  rw [i32_clamp (by omega)]
  exact kk p l e s m args below meth c H locs ls Cc hP hS hl
theorem V_ialoadX {i : Int} (hi : 0 ≤ i ∧ i < gL G) (hL : gL G ≤ 3072) (d : dc M pc .iaload 1 q) (kk : V G M Q kc ks q lc (vi (gX G i.toNat) :: st) w) : V G M Q kc ks pc lc (vi i :: .ref 1100 :: st) w := by
  obtain ⟨d, rfl⟩ := d
  intro p l e s m args below meth c H locs ls Cc hP hS hl
  have hR := Cc.2.2.2.2.2.2.2.2.2.2.1.2.1
  refine va_ti Cc.1 Cc.2.1 hR hS (i32_in hi (by omega)) rfl d ?_
  show W _ _ _ _ _ _ _ _ _ _ _ _ _ _ _ (F0 m (pc + 1) ls (.int (Int32.ofInt (gX G (Int32.ofInt i).toNatClampNeg)) :: st.map (gre G)))
  rw [i32_clamp (by omega)]
  exact kk p l e s m args below meth c H locs ls Cc hP hS hl
theorem V_lenX (d : dc M pc .arraylength 1 q) (kk : V G M Q kc ks q lc (vi (gL G) :: st) w) : V G M Q kc ks pc lc (.ref 1100 :: st) w := by
  obtain ⟨d, rfl⟩ := d
  intro p l e s m args below meth c H locs ls Cc hP hS hl
  have hR := Cc.2.2.2.2.2.2.2.2.2.2.1.2.1
  exact va_tlen Cc.1 Cc.2.1 hR hS Int32.ofInt_eq_ofNat.symm d (kk p l e s m args below meth c H locs ls Cc hP hS hl)
theorem V_lenS {j : Nat} (hj : j < 6) (d : dc M pc .arraylength 1 q) (kk : V G M Q kc ks q lc (vi ((stV j).length) :: st) w) : V G M Q kc ks pc lc (.ref (1000 + j) :: st) w := by
  obtain ⟨d, rfl⟩ := d
  intro p l e s m args below meth c H locs ls Cc hP hS hl
  have hR := (Cc.2.2.2.2.2.2.2.2.2.2.1.1 j hj).2
  have e1 : gre G (.ref (1000 + j)) = .ref (gsp G (1000 + j)) := by
    show Value.ref (gad G (1000 + j)) = _
    rw [gad, if_neg (by omega)]
  show W _ _ _ _ _ _ _ _ _ _ _ _ _ _ _ (F0 m pc ls (gre G (.ref (1000 + j)) :: st.map (gre G)))
  rw [e1]
  exact va_tlen Cc.1 Cc.2.1 hR hS Int32.ofInt_eq_ofNat.symm d (kk p l e s m args below meth c H locs ls Cc hP hS hl)
theorem V_gets {j i : Nat} (hj : j < 6) (hc : Cond.fieldLink (mOwn M) i RX10 (stN j) "[I" ∈ aW) (d : dc M pc (.getstatic i) 3 q) (kk : V G M Q kc ks q lc (.ref (1000 + j) :: st) w) : V G M Q kc ks pc lc st w := by
  obtain ⟨d, rfl⟩ := d
  intro p l e s m args below meth c H locs ls Cc hP hS hl
  have hR := (Cc.2.2.2.2.2.2.2.2.2.2.1.1 j hj).1
  refine va_gets Cc.1 Cc.2.1 hR hS Cc.2.2.2.2.1 (Cc.2.2.2.2.2.1 _ hc) (fun _ h => h) d ?_
  have := kk p l e s m args below meth c H locs ls Cc hP hS hl
  rwa [List.map_cons, gre_ref, gad, if_neg (by omega)] at this
theorem V_getsN {j i : Nat} (hj : j < 6) (hc : Cond.fieldLinkNest (mOwn M) i RX10 (stN j) "[I" RX10 ∈ nW) (d : dc M pc (.getstatic i) 3 q) (kk : V G M Q kc ks q lc (.ref (1000 + j) :: st) w) : V G M Q kc ks pc lc st w := by
  obtain ⟨d, rfl⟩ := d
  intro p l e s m args below meth c H locs ls Cc hP hS hl
  have hR := (Cc.2.2.2.2.2.2.2.2.2.2.1.1 j hj).1
  refine va_getsN Cc.1 Cc.2.1 hR hS Cc.2.2.2.2.1 (va_Nw.use rfl (Cc.2.2.2.2.2.2.2.2.2.1.2 _ hc)) (fun _ h => h) d ?_
  have := kk p l e s m args below meth c H locs ls Cc hP hS hl
  rwa [List.map_cons, gre_ref, gad, if_neg (by omega)] at this
end R7
end
section
/-- a callee: its code is among the words, how many arguments it takes beside its receiver -/
def cIn (N : mT) (n : Nat) : Prop := Cond.code (mY N) (mC N) (mLn N) (mRt N) ∈ aW ∧ Cond.initialized (mY N).cls ∈ aW ∧ ((mY N).cls ≠ "java/lang/invoke/MethodHandle" ∧ (mY N).cls ≠ "java/lang/invoke/VarHandle" ∧ (parseMethodDescriptor (mY N).desc).map (fun d => d.parameters.length) = some n)
theorem cIn.good {N : mT} {n : Nat} (h : cIn N n) : GoodIn aW (mWs N) := by
  intro w hw
  rcases List.mem_cons.mp hw with rfl | hw
  · exact ⟨h.1, good_of_word (aW_good _ h.1)⟩
  · exact ⟨hw, good_of_word (aW_good _ hw)⟩
/-- links: an entry of a class's pool is this method -/
def vLk (own : String) (i : Nat) (N : mT) (n ci : Nat) : Prop := cIn N n ∧ Cond.methodLink own i (mY N) ∈ aW ∧ Cond.instanceMethod (mY N) ∈ aW ∧ Cond.selects (mOwn N) (mY N) (mY N) ∈ aW ∧ ∃ T K, vwCl[ci]? = some (mOwn N, T, K)
def sLk (own : String) (i : Nat) (N : mT) (n : Nat) : Prop := cIn N n ∧ Cond.methodLink own i (mY N) ∈ aW ∧ Cond.static (mY N) ∈ aW
def sNk (own : String) (i : Nat) (N : mT) (n : Nat) : Prop := cIn N n ∧ Cond.methodLinkNest own i (mY N) RX10 ∈ nW ∧ Cond.static (mY N) ∈ aW
def iLk (own : String) (i : Nat) (N : mT) (n : Nat) : Prop := cIn N n ∧ Cond.methodLink own i (mY N) ∈ aW ∧ Cond.instanceMethod (mY N) ∈ aW ∧ (mY N).name = "<init>" ∧ mRt N = none
def iNk (own : String) (i : Nat) (N : mT) (n : Nat) : Prop := cIn N n ∧ Cond.methodLinkNest own i (mY N) RX10 ∈ nW ∧ Cond.instanceMethod (mY N) ∈ aW ∧ (mY N).name = "<init>" ∧ mRt N = none
/-- a callee's room in a caller's -/
abbrev rOk (M N : mT) : Prop := (mRm N).frames + 1 ≤ (mRm M).frames ∧ 8 + (mLn N + 11) + (mRm N).locals ≤ (mRm M).locals
abbrev kOk (M N : mT) (kc ks : Nat) : Prop := kc + (mRm N).cells ≤ (mRm M).cells ∧ ks + (mRm N).slots ≤ (mRm M).slots
theorem catsum (G : gT) (rest : List Value) : ((rest.map (gre G)).map fun v => v.category).sum = (rest.map fun v => v.category).sum := by
  rw [List.map_map]
  congr 1
  apply List.map_congr_left
  intro v _
  exact gre_cat G v
theorem Meets.blind {G : gT} {av : List Value} {w : wT} : FrameBlind (fun v U => v = (av.map (gre G)).toArray ∧ Hp G w U.heap ∧ Sx G U) := fun _ _ _ _ h => ⟨h.1, h.2.1, h.2.2.call⟩
section R8
variable {G : gT} {M N : mT} {Q Q' : Option Value → wT → Prop} {kc ks pc q t i n : Nat} {lc lc' : List (Option Value)} {st rest : List Value} {w : wT}
theorem V.back {p : Program} {l : Launch} {e : Env} {s : State} {m : MethodId} {args : Array Value} {below : List Frame} {meth : Method} {c : Code} {H : Heap} {locs : List Loc} {ls : Array Slot} {st0 : List Value} {a : Array Value}
    (Cc : Cx G M p s m args meth c) (hS : va_S (gA G) s.heap H locs) (hl : lh G ls (mLn M) lc)
    (hr : va_Run p l e (mRm M) s m args below meth c H locs kc ks (mRm N).cells (mRm N).slots (F0 m pc ls st0) (rest.map (gre G)) (mQ G Q' a) (gA G))
    (kk : ∀ r w', Q' r w' → V G M Q (kc + (mRm N).cells) (ks + (mRm N).slots) (pc + 3) lc (r.toList ++ rest) w') :
    W p l e (mRm M) s m args below meth c H locs kc ks (MQ below (mQ G Q) args s (mRm M).cells (mRm M).slots (gA G)) (F0 m pc ls st0) := by
  intro T hT X
  obtain ⟨v, st₀, t, T', L, h0, X', hL, e1, e2, ⟨r, w', hv, hq, hH, hz, hk⟩, go⟩ := hr T hT X
  rw [h0] at hz hk
  have hv : v = r.map (gre G) := by injection hv
  obtain ⟨t2, a1, b1⟩ := kk r w' hq p l e s m args below meth c T'.heap (locs ++ L) ls Cc (by rw [e1]; exact hH)
    ⟨Nat.le_trans hS.1 (by rw [e1]; exact hz), fun q h1 h2 => by rw [e1, hk q (Nat.lt_of_lt_of_le h1 hS.1) h2]; exact hS.2.1 q h1 h2, fun q hq => by
      rcases List.mem_append.mp hq with h | h
      · exact hS.2.2 q h
      · exact hL q h⟩ hl T' rfl X'
  refine ⟨t2, go t2 ?_, b1⟩
  have e3 : (r.toList ++ rest).map (gre G) = v.toList ++ rest.map (gre G) := by
    rw [hv, List.map_append]
    cases r <;> rfl
  rw [e3] at a1
  exact a1
theorem V_callV {o ci : Nat} {f : Nat → Value} {As : List Value} (hL : vLk (mOwn M) i N n ci) (d : dc M pc (.invokevirtual i) 3 q) (ho : o < w.1) (hw : w.2 o = .inr (ci, f)) (hst : st = As.reverse ++ .ref o :: rest) (hM : Meets G N (.ref o :: As) w Q') (kk : ∀ r w', Q' r w' → V G M Q (kc + (mRm N).cells) (ks + (mRm N).slots) q lc (r.toList ++ rest) w') (hn : As.length = n := by rfl) (hR : rOk M N := by decide) (hk : kOk M N kc ks := by decide) (hc : (rest.map fun v => v.category).sum ≤ 8 := by decide) : V G M Q kc ks pc lc st w := by
  obtain ⟨d, rfl⟩ := d
  subst hst
  obtain ⟨hN, h1, h2, h3, T, K, h4⟩ := hL
  intro p l e s m args below meth c H locs ls Cc hP hS hl
  have hts := Cc.2.2.2.2.2.1
  have he : (wls G w)[o]? = some (gad G o, .inr (ci, (List.range (nF ci)).map (fun k => gre G (f k)))) := by rw [wls_get ho, hw]; rfl
  refine V.back (a := (Value.ref (gad G o) :: As.map (gre G)).toArray) (N := N) (Q' := Q') (rest := rest) Cc hS hl ?_ kk
  refine va_runV (As := As.map (gre G)) (b := gad G o) (n := n) ⟨Cc.1, Cc.2.1, Cc.2.2.2.1, Cc.2.2.2.2.1, hts⟩ (hM l) ⟨callB_of n hts hN.good rfl rfl rfl (hts _ hN.2.1) (hts _ h1) hN.2.2 hR, hts _ h2, hts _ h3⟩ ⟨Meets.blind, va_recv Cc.2.2.2.2.2.2.2.2.1 hP.1 h4 he, fun U hU hW => ?_⟩ rfl (by rw [List.length_map]; exact hn) hl.1 (by simp [gre_ref]) (lv_room (by rw [catsum]; exact hc)) d hk
  subst hU
  exact ⟨rfl, hP, Cc.2.2.2.2.2.2.2.2.go hW hS⟩
theorem V_callS {As : List Value} (hL : sLk (mOwn M) i N n) (d : dc M pc (.invokestatic i) 3 q) (hst : st = As.reverse ++ rest) (hM : Meets G N As w Q') (kk : ∀ r w', Q' r w' → V G M Q (kc + (mRm N).cells) (ks + (mRm N).slots) q lc (r.toList ++ rest) w') (hn : As.length = n := by rfl) (hR : rOk M N := by decide) (hk : kOk M N kc ks := by decide) (hc : (rest.map fun v => v.category).sum ≤ 8 := by decide) : V G M Q kc ks pc lc st w := by
  obtain ⟨d, rfl⟩ := d
  subst hst
  obtain ⟨hN, h1, h2⟩ := hL
  intro p l e s m args below meth c H locs ls Cc hP hS hl
  have hts := Cc.2.2.2.2.2.1
  refine V.back (a := (As.map (gre G)).toArray) (N := N) (Q' := Q') (rest := rest) Cc hS hl ?_ kk
  refine va_runS (As := As.map (gre G)) (n := n) ⟨Cc.1, Cc.2.1, Cc.2.2.2.1, Cc.2.2.2.2.1, hts⟩ (hM l) ⟨callB_of n hts hN.good rfl rfl rfl (hts _ hN.2.1) (hts _ h1) hN.2.2 hR, hts _ h2⟩ ⟨Meets.blind, fun U hU hW => ?_⟩ rfl (by rw [List.length_map]; exact hn) hl.1 (by simp) (lv_room (by rw [catsum]; exact hc)) d hk
  subst hU
  exact ⟨rfl, hP, Cc.2.2.2.2.2.2.2.2.go hW hS⟩
theorem V_callSN {As : List Value} (hL : sNk (mOwn M) i N n) (d : dc M pc (.invokestatic i) 3 q) (hst : st = As.reverse ++ rest) (hM : Meets G N As w Q') (kk : ∀ r w', Q' r w' → V G M Q (kc + (mRm N).cells) (ks + (mRm N).slots) q lc (r.toList ++ rest) w') (hn : As.length = n := by rfl) (hR : rOk M N := by decide) (hk : kOk M N kc ks := by decide) (hc : (rest.map fun v => v.category).sum ≤ 8 := by decide) : V G M Q kc ks pc lc st w := by
  obtain ⟨d, rfl⟩ := d
  subst hst
  obtain ⟨hN, h1, h2⟩ := hL
  intro p l e s m args below meth c H locs ls Cc hP hS hl
  have hts := Cc.2.2.2.2.2.1
  refine V.back (a := (As.map (gre G)).toArray) (N := N) (Q' := Q') (rest := rest) Cc hS hl ?_ kk
  refine va_runSN (As := As.map (gre G)) (n := n) ⟨Cc.1, Cc.2.1, Cc.2.2.2.1, Cc.2.2.2.2.1, hts⟩ (hM l) ⟨va_cnB n hts hN.good rfl rfl rfl (Cc.2.2.2.2.2.2.2.2.2.1.2 _ h1) (hts _ hN.2.1) hN.2.2 hR, hts _ h2, trivial⟩ ⟨Meets.blind, fun U hU hW => ?_⟩ rfl (by rw [List.length_map]; exact hn) hl.1 (by simp) (lv_room (by rw [catsum]; exact hc)) d hk
  subst hU
  exact ⟨rfl, hP, Cc.2.2.2.2.2.2.2.2.go hW hS⟩
theorem V_callI {o : Nat} {As : List Value} (hL : iLk (mOwn M) i N n) (d : dc M pc (.invokespecial i) 3 q) (hst : st = As.reverse ++ .ref o :: rest) (hM : Meets G N (.ref o :: As) w Q') (kk : ∀ r w', Q' r w' → V G M Q (kc + (mRm N).cells) (ks + (mRm N).slots) q lc (r.toList ++ rest) w') (hn : As.length = n := by rfl) (hR : rOk M N := by decide) (hk : kOk M N kc ks := by decide) (hc : (rest.map fun v => v.category).sum ≤ 8 := by decide) : V G M Q kc ks pc lc st w := by
  obtain ⟨d, rfl⟩ := d
  subst hst
  obtain ⟨hN, h1, h2, h3, h4⟩ := hL
  intro p l e s m args below meth c H locs ls Cc hP hS hl
  have hts := Cc.2.2.2.2.2.1
  refine V.back (a := (Value.ref (gad G o) :: As.map (gre G)).toArray) (N := N) (Q' := Q') (rest := rest) Cc hS hl ?_ kk
  have cb := callB_of (R := mRm M) (ws' := aW) (own := mOwn M) (index := i) (rm := mRm N) n hts hN.good rfl rfl rfl (hts _ hN.2.1) (hts _ h1) hN.2.2 hR
  rw [h4] at cb
  refine va_runI (As := As.map (gre G)) (b := gad G o) (n := n) ⟨Cc.1, Cc.2.1, Cc.2.2.2.1, Cc.2.2.2.2.1, hts⟩ (hM l) ⟨cb, h3, hts _ h2⟩ ⟨Meets.blind, fun U hU hW => ?_⟩ rfl (by rw [List.length_map]; exact hn) hl.1 (by simp [gre_ref]) (lv_room (by rw [catsum]; exact hc)) d hk
  subst hU
  exact ⟨rfl, hP, Cc.2.2.2.2.2.2.2.2.go hW hS⟩
theorem V_callIN {o : Nat} {As : List Value} (hL : iNk (mOwn M) i N n) (d : dc M pc (.invokespecial i) 3 q) (hst : st = As.reverse ++ .ref o :: rest) (hM : Meets G N (.ref o :: As) w Q') (kk : ∀ r w', Q' r w' → V G M Q (kc + (mRm N).cells) (ks + (mRm N).slots) q lc (r.toList ++ rest) w') (hn : As.length = n := by rfl) (hR : rOk M N := by decide) (hk : kOk M N kc ks := by decide) (hc : (rest.map fun v => v.category).sum ≤ 8 := by decide) : V G M Q kc ks pc lc st w := by
  obtain ⟨d, rfl⟩ := d
  subst hst
  obtain ⟨hN, h1, h2, h3, h4⟩ := hL
  intro p l e s m args below meth c H locs ls Cc hP hS hl
  have hts := Cc.2.2.2.2.2.1
  refine V.back (a := (Value.ref (gad G o) :: As.map (gre G)).toArray) (N := N) (Q' := Q') (rest := rest) Cc hS hl ?_ kk
  have cb := va_cnB (R := mRm M) (ws' := aW) (own := mOwn M) (index := i) (rm := mRm N) n hts hN.good rfl rfl rfl (Cc.2.2.2.2.2.2.2.2.2.1.2 _ h1) (hts _ hN.2.1) hN.2.2 hR
  rw [h4] at cb
  refine va_runIN (As := As.map (gre G)) (b := gad G o) (n := n) ⟨Cc.1, Cc.2.1, Cc.2.2.2.1, Cc.2.2.2.2.1, hts⟩ (hM l) ⟨cb, h3, hts _ h2⟩ ⟨Meets.blind, fun U hU hW => ?_⟩ rfl (by rw [List.length_map]; exact hn) hl.1 (by simp [gre_ref]) (lv_room (by rw [catsum]; exact hc)) d hk
  subst hU
  exact ⟨rfl, hP, Cc.2.2.2.2.2.2.2.2.go hW hS⟩
/-- a method of a literal -/
def tLk (own : String) (i : Nat) (N : mT) (n : Nat) : Prop := cIn N n ∧ Cond.methodLink own i (mY N) ∈ aW ∧ Cond.instanceMethod (mY N) ∈ aW ∧ Cond.selects "java/lang/String" (mY N) (mY N) ∈ aW
theorem V_callT {j : Nat} {As : List Value} (hj : j < 8) (hL : tLk (mOwn M) i N n) (d : dc M pc (.invokevirtual i) 3 q) (hst : st = As.reverse ++ .ref (1200 + j) :: rest) (hM : Meets G N (.ref (1200 + j) :: As) w Q') (kk : ∀ r w', Q' r w' → V G M Q (kc + (mRm N).cells) (ks + (mRm N).slots) q lc (r.toList ++ rest) w') (hn : As.length = n := by rfl) (hR : rOk M N := by decide) (hk : kOk M N kc ks := by decide) (hc : (rest.map fun v => v.category).sum ≤ 8 := by decide) : V G M Q kc ks pc lc st w := by
  obtain ⟨d, rfl⟩ := d
  subst hst
  obtain ⟨hN, h1, h2, h3⟩ := hL
  intro p l e s m args below meth c H locs ls Cc hP hS hl
  have hts := Cc.2.2.2.2.2.1
  have hR2 := Cc.2.2.2.2.2.2.2.2.2.2.1.2.2.1
  refine V.back (a := (Value.ref (gad G (1200 + j)) :: As.map (gre G)).toArray) (N := N) (Q' := Q') (rest := rest) Cc hS hl ?_ kk
  have ea : gad G (1200 + j) = gsp G (1200 + j) := by rw [gad, if_neg (by omega)]
  refine va_runV (As := As.map (gre G)) (b := gad G (1200 + j)) (n := n) (C := "java/lang/String") ⟨Cc.1, Cc.2.1, Cc.2.2.2.1, Cc.2.2.2.2.1, hts⟩ (hM l) ⟨callB_of n hts hN.good rfl rfl rfl (hts _ hN.2.1) (hts _ h1) hN.2.2 hR, hts _ h2, hts _ h3⟩ ⟨Meets.blind, by rw [ea]; exact vk_recv (adK := fun i => gsp G (1200 + i)) (i := j) hR2 hj hS, fun U hU hW => ?_⟩ rfl (by rw [List.length_map]; exact hn) hl.1 (by simp [gre_ref]) (lv_room (by rw [catsum]; exact hc)) d hk
  subst hU
  exact ⟨rfl, hP, Cc.2.2.2.2.2.2.2.2.go hW hS⟩
/-- ends -/
abbrev eOk (M : mT) (kc ks : Nat) : Prop := kc ≤ (mRm M).cells ∧ ks ≤ (mRm M).slots
theorem V_ireturn {a : Int} (d : dc M pc .ireturn 1 q) (hQ : Q (some (vi a)) w) (hr : mRt M = some .int := by rfl) (hk : eOk M kc ks := by decide) : V G M Q kc ks pc lc [vi a] w := by
  obtain ⟨d, rfl⟩ := d
  intro p l e s m args below meth c H locs ls Cc hP hS hl
  refine W.widen hk.1 hk.2 ?_
  exact W.iret Cc.1 Cc.2.1 (Cc.2.2.1.trans hr) (fun t ht _ => ⟨some (vi a), w, rfl, hQ, by rw [ht]; exact hP, hS.F ht⟩) hS.2.2 d Cc.2.2.2.2.2.2.1
theorem V_zreturn {a : Int} {ty : FieldType} (hn : narrow ty (.int (Int32.ofInt a)) = .int (Int32.ofInt a)) (d : dc M pc .ireturn 1 q) (hQ : Q (some (vi a)) w) (hr : mRt M = some ty := by rfl) (hk : eOk M kc ks := by decide) : V G M Q kc ks pc lc [vi a] w := by
  obtain ⟨d, rfl⟩ := d
  intro p l e s m args below meth c H locs ls Cc hP hS hl
  refine W.widen hk.1 hk.2 ?_
  exact W.zret Cc.1 Cc.2.1 (Cc.2.2.1.trans hr) hn (fun t ht _ => ⟨some (vi a), w, rfl, hQ, by rw [ht]; exact hP, hS.F ht⟩) hS.2.2 d Cc.2.2.2.2.2.2.1
theorem V_lreturn {a : Int} (d : dc M pc .lreturn 1 q) (hQ : Q (some (vl a)) w) (hr : mRt M = some .long := by rfl) (hk : eOk M kc ks := by decide) : V G M Q kc ks pc lc [vl a] w := by
  obtain ⟨d, rfl⟩ := d
  intro p l e s m args below meth c H locs ls Cc hP hS hl
  refine W.widen hk.1 hk.2 ?_
  exact W.lret Cc.1 Cc.2.1 (Cc.2.2.1.trans hr) (fun t ht _ => ⟨some (vl a), w, rfl, hQ, by rw [ht]; exact hP, hS.F ht⟩) hS.2.2 d Cc.2.2.2.2.2.2.1
theorem V_areturn {a : Nat} {ty : FieldType} (hrt : (∃ n, ty = .object n) ∨ ∃ t, ty = .array t) (d : dc M pc .areturn 1 q) (hQ : Q (some (.ref a)) w) (hr : mRt M = some ty := by rfl) (hk : eOk M kc ks := by decide) : V G M Q kc ks pc lc [.ref a] w := by
  obtain ⟨d, rfl⟩ := d
  intro p l e s m args below meth c H locs ls Cc hP hS hl
  refine W.widen hk.1 hk.2 ?_
  exact W.aret (v := .ref (gad G a)) Cc.1 Cc.2.1 (Cc.2.2.1.trans hr) hrt (Or.inr ⟨_, rfl⟩) (fun t ht _ => ⟨some (.ref a), w, rfl, hQ, by rw [ht]; exact hP, hS.F ht⟩) hS.2.2 d Cc.2.2.2.2.2.2.1
theorem V_return (d : dc M pc .return_ 1 q) (hQ : Q none w) (hr : mRt M = none := by rfl) (hk : eOk M kc ks := by decide) : V G M Q kc ks pc lc [] w := by
  obtain ⟨d, rfl⟩ := d
  intro p l e s m args below meth c H locs ls Cc hP hS hl
  refine W.widen hk.1 hk.2 ?_
  exact W.vret Cc.1 Cc.2.1 (Cc.2.2.1.trans hr) (fun t ht _ => ⟨none, w, rfl, hQ, by rw [ht]; exact hP, hS.F ht⟩) hS.2.2 d Cc.2.2.2.2.2.2.1
/-- making -/
theorem V_objInit {o : Nat} (h1 : Cond.methodLink (mOwn M) i objectInit ∈ aW) (h2 : Cond.instanceMethod objectInit ∈ aW) (h3 : Cond.code objectInit ⟨#[0xb1]⟩ 1 none ∈ aW) (d : dc M pc (.invokespecial i) 3 q) (kk : V G M Q kc ks q lc rest w) (hR : 1 ≤ (mRm M).frames ∧ (rest.map fun v => v.category).sum + 12 ≤ (mRm M).locals := by decide) : V G M Q kc ks pc lc (.ref o :: rest) w := by
  obtain ⟨d, rfl⟩ := d
  intro p l e s m args below meth c H locs ls Cc hP hS hl
  have hts := Cc.2.2.2.2.2.1
  refine W.objInit Cc.1 Cc.2.1 Cc.2.2.2.2.1 (hts _ h1) (hts _ h2) (hts _ h3) rfl (hl.1.trans Cc.2.2.2.1.symm) (rest := rest.map (gre G)) rfl d hR.1 ?_ (kk p l e s m args below meth c H locs ls Cc hP hS hl)
  rw [catsum]
  show 2 * 0 + _ + 12 ≤ _
  omega
def dflt (ty : FieldType) : Value := match ty with
  | .int => vi 0
  | .boolean => vi 0
  | .long => vl 0
  | _ => .null
def tyOk (ty : FieldType) : Bool := match ty with
  | .int => true
  | .boolean => true
  | .object _ => true
  | .array _ => true
  | _ => false
theorem dflt_ok {G : gT} {ty : FieldType} (h : tyOk ty = true) : defaultValue ty = gre G (dflt ty) := by
  cases ty <;> first | rfl | cases h
theorem V_new {ci N' : Nat} {C : String} {T : u_T} {ty : Nat → FieldType} (hC : cOk ci C T N' ty) (hty : ∀ k, k < N' → tyOk (ty k) = true) (h1 : Cond.classLink (mOwn M) i C ∈ aW) (hw : w.1 < 1000) (d : dc M pc (.new i) 3 q) (kk : V G M Q (kc + 1) (ks + N') q lc (.ref w.1 :: st) (psh w (.inr (ci, fun k => dflt (ty k))))) (hk : kc + 1 ≤ (mRm M).cells ∧ ks + N' ≤ (mRm M).slots) : V G M Q kc ks pc lc st w := by
  obtain ⟨d, rfl⟩ := d
  intro p l e s m args below meth c H locs ls Cc hP hS hl
  obtain ⟨hc, hin, htyp, hnm, h5, h6, h7, h8⟩ := hC
  have hts := Cc.2.2.2.2.2.1
  have hKn := Cc.2.2.2.2.2.2.2.2.1.1 ci _ hc
  refine W.newcK Cc.1 Cc.2.1 Cc.2.2.2.2.1 (hts _ h1) (hts _ h5) (hts _ h6) rfl d hk.1 hk.2 hKn.2.1 rfl fun H1 kC hkC e1 z1 o1 => ?_
  have ea : H.size = gad G w.1 := by rw [gad_lt hw]; exact hP.2.1
  have := kk p l e s m args below meth c H1 locs ls Cc (hP.psh hw ?_ z1 o1) ⟨Nat.le_trans hS.1 (by omega), fun x h1 h2 => (o1 x (Nat.lt_of_lt_of_le h1 hS.1)).trans (hS.2.1 x h1 h2), hS.2.2⟩ hl
  · rw [List.map_cons, gre_ref, ← ea] at this
    exact this
  · rw [← ea]
    refine ⟨_, hc, (u_born ty hts hin hKn hkC e1 htyp).to (fun j hj => ?_)⟩
    have hj : j < N' := hj
    rw [dflt_ok (G := G) (hty j hj)]
    show _ = vp_V ((List.range (nF ci)).map _) j
    rw [h7]
    simp [vp_V, List.getElem?_map, List.getElem?_range, hj]
theorem V_newI {n : Nat} (hw : w.1 < 1000) (h1 : Cond.arrayClass .int ∈ aW) (hn : n < 100000) (d : dc M pc (.newarray .int) 2 q) (kk : V G M Q (kc + 1) (ks + n) q lc (.ref w.1 :: st) (psh w (.inl (0, n, fun _ => 0)))) (hk : kc + 1 ≤ (mRm M).cells ∧ ks + n ≤ (mRm M).slots) : V G M Q kc ks pc lc (vi n :: st) w := by
  obtain ⟨d, rfl⟩ := d
  intro p l e s m args below meth c H locs ls Cc hP hS hl
  have hts := Cc.2.2.2.2.2.1
  have hc := i32_clamp (i := (n : Int)) (by omega)
  refine va_newaK (atype := .int) Cc.1 Cc.2.1 (hts _ h1) rfl d rfl (N := n) (n := Int32.ofInt n) (fun h => ?_) (by rw [hc]; rfl) (by show n * 4 ≤ _; omega) hk.1 hk.2 rfl fun H1 cA e1 z1 o1 hAr hNm => ?_
  · have h : Int32.ofInt n < Int32.ofInt 0 := h
    rw [i32_lt (by omega) (by omega)] at h
    omega
  have ea : H.size = gad G w.1 := by rw [gad_lt hw]; exact hP.2.1
  have hNm2 : s.vm.findClass ("[" ++ FieldType.int.toString) = some (gtc G 0) := (Cc.2.2.2.2.2.2.2.2.1.2 0 _ rfl).2
  have hcA : cA = gtc G 0 := Option.some.inj (hNm.symm.trans hNm2)
  have := kk p l e s m args below meth c H1 locs ls Cc (hP.psh hw ?_ z1 o1) ⟨Nat.le_trans hS.1 (by omega), fun x h1 h2 => (o1 x (Nat.lt_of_lt_of_le h1 hS.1)).trans (hS.2.1 x h1 h2), hS.2.2⟩ hl
  · rw [List.map_cons, gre_ref, ← ea] at this
    exact this
  · rw [← ea]
    show H1[H.size]? = some (vp_cell _ _)
    rw [e1, hcA]
    rfl
theorem V_newL {n : Nat} (hw : w.1 < 1000) (h1 : Cond.arrayClass .long ∈ aW) (hn : n < 100000) (d : dc M pc (.newarray .long) 2 q) (kk : V G M Q (kc + 1) (ks + n) q lc (.ref w.1 :: st) (psh w (.inl (1, n, fun _ => 0)))) (hk : kc + 1 ≤ (mRm M).cells ∧ ks + n ≤ (mRm M).slots) : V G M Q kc ks pc lc (vi n :: st) w := by
  obtain ⟨d, rfl⟩ := d
  intro p l e s m args below meth c H locs ls Cc hP hS hl
  have hts := Cc.2.2.2.2.2.1
  have hc := i32_clamp (i := (n : Int)) (by omega)
  refine va_newaK (atype := .long) Cc.1 Cc.2.1 (hts _ h1) rfl d rfl (N := n) (n := Int32.ofInt n) (fun h => ?_) (by rw [hc]; rfl) (by show n * 8 ≤ _; omega) hk.1 hk.2 rfl fun H1 cA e1 z1 o1 hAr hNm => ?_
  · have h : Int32.ofInt n < Int32.ofInt 0 := h
    rw [i32_lt (by omega) (by omega)] at h
    omega
  have ea : H.size = gad G w.1 := by rw [gad_lt hw]; exact hP.2.1
  have hNm2 : s.vm.findClass ("[" ++ FieldType.long.toString) = some (gtc G 1) := (Cc.2.2.2.2.2.2.2.2.1.2 1 _ rfl).2
  have hcA : cA = gtc G 1 := Option.some.inj (hNm.symm.trans hNm2)
  have := kk p l e s m args below meth c H1 locs ls Cc (hP.psh hw ?_ z1 o1) ⟨Nat.le_trans hS.1 (by omega), fun x h1 h2 => (o1 x (Nat.lt_of_lt_of_le h1 hS.1)).trans (hS.2.1 x h1 h2), hS.2.2⟩ hl
  · rw [List.map_cons, gre_ref, ← ea] at this
    exact this
  · rw [← ea]
    show H1[H.size]? = some (vp_cell _ _)
    rw [e1, hcA]
    rfl
theorem V_newZ {n : Nat} (hw : w.1 < 1000) (h1 : Cond.arrayClass .boolean ∈ aW) (hn : n < 100000) (d : dc M pc (.newarray .boolean) 2 q) (kk : V G M Q (kc + 1) (ks + n) q lc (.ref w.1 :: st) (psh w (.inl (2, n, fun _ => 0)))) (hk : kc + 1 ≤ (mRm M).cells ∧ ks + n ≤ (mRm M).slots) : V G M Q kc ks pc lc (vi n :: st) w := by
  obtain ⟨d, rfl⟩ := d
  intro p l e s m args below meth c H locs ls Cc hP hS hl
  have hts := Cc.2.2.2.2.2.1
  have hc := i32_clamp (i := (n : Int)) (by omega)
  refine va_newaK (atype := .boolean) Cc.1 Cc.2.1 (hts _ h1) rfl d rfl (N := n) (n := Int32.ofInt n) (fun h => ?_) (by rw [hc]; rfl) (by show n * 1 ≤ _; omega) hk.1 hk.2 rfl fun H1 cA e1 z1 o1 hAr hNm => ?_
  · have h : Int32.ofInt n < Int32.ofInt 0 := h
    rw [i32_lt (by omega) (by omega)] at h
    omega
  have ea : H.size = gad G w.1 := by rw [gad_lt hw]; exact hP.2.1
  have hNm2 : s.vm.findClass ("[" ++ FieldType.boolean.toString) = some (gtc G 2) := (Cc.2.2.2.2.2.2.2.2.1.2 2 _ rfl).2
  have hcA : cA = gtc G 2 := Option.some.inj (hNm.symm.trans hNm2)
  have := kk p l e s m args below meth c H1 locs ls Cc (hP.psh hw ?_ z1 o1) ⟨Nat.le_trans hS.1 (by omega), fun x h1 h2 => (o1 x (Nat.lt_of_lt_of_le h1 hS.1)).trans (hS.2.1 x h1 h2), hS.2.2⟩ hl
  · rw [List.map_cons, gre_ref, ← ea] at this
    exact this
  · rw [← ea]
    show H1[H.size]? = some (vp_cell _ _)
    rw [e1, hcA]
    rfl
end R8
end
section
def cpy (f g : Nat → Int) (sp dp n : Nat) : Nat → Int := fun k => if dp ≤ k ∧ k < dp + n then f (sp + (k - dp)) else g k
section R9
variable {G : gT} {M N : mT} {Q Q' : Option Value → wT → Prop} {kc ks pc q t i n : Nat} {lc lc' : List (Option Value)} {st rest : List Value} {w : wT}
theorem cpy_real {f g : Nat → Int} {sp dp n : Nat} : va_cpy (fun k => Int32.ofInt (f k)) (fun k => Int32.ofInt (g k)) sp dp n = fun k => Int32.ofInt (cpy f g sp dp n k) := by
  funext k
  simp only [va_cpy, cpy]
  split <;> rfl
theorem V_acopy {o1 o2 n1 n2 : Nat} {f g : Nat → Int} {sp dp n : Int} (h1 : Cond.methodLink (mOwn M) i arraycopyName ∈ aW) (h2 : Cond.native arraycopyName ∈ aW) (h3 : Cond.static arraycopyName ∈ aW) (h4 : Cond.initialized "java/lang/System" ∈ aW) (ho1 : o1 < w.1) (hw1 : w.2 o1 = .inl (0, n1, f)) (ho2 : o2 < w.1) (hw2 : w.2 o2 = .inl (0, n2, g)) (d : dc M pc (.invokestatic i) 3 q)
    (kk : V G M Q kc ks q lc rest (put w o2 (.inl (0, n2, cpy f g sp.toNat dp.toNat n.toNat)))) (hb : 0 ≤ sp ∧ 0 ≤ dp ∧ 0 ≤ n ∧ sp + n ≤ n1 ∧ dp + n ≤ n2 ∧ n1 < 2147483648 ∧ n2 < 2147483648 := by omega) (hR : 1 ≤ (mRm M).frames ∧ (rest.map fun v => v.category).sum + 18 ≤ (mRm M).locals := by decide) : V G M Q kc ks pc lc (vi n :: vi dp :: .ref o2 :: vi sp :: .ref o1 :: rest) w := by
  obtain ⟨d, rfl⟩ := d
  intro p l e s m args below meth c H locs ls Cc hP hS hl
  have hts := Cc.2.2.2.2.2.1
  have hK := Cc.2.2.2.2.2.2.2.2.1
  have hD := wls_D (G := G) hP.2.2
  have ha0 : (wls G w)[o1]? = some (gad G o1, .inl (gtc G 0, n1, .inl (fun k => Int32.ofInt (f k)))) := by rw [wls_get ho1, hw1]; rfl
  have ha1 : (wls G w)[o2]? = some (gad G o2, .inl (gtc G 0, n2, .inl (fun k => Int32.ofInt (g k)))) := by rw [wls_get ho2, hw2]; rfl
  have cs := i32_clamp (i := sp) (by omega)
  have cd := i32_clamp (i := dp) (by omega)
  have cn := i32_clamp (i := n) (by omega)
  have ts : (Int32.ofInt sp).toInt = sp := Int32.toInt_ofInt_of_le (by omega) (by omega)
  have td : (Int32.ofInt dp).toInt = dp := Int32.toInt_ofInt_of_le (by omega) (by omega)
  have tn : (Int32.ofInt n).toInt = n := Int32.toInt_ofInt_of_le (by omega) (by omega)
  have nn : ∀ z : Int, 0 ≤ z ∧ z < 2147483648 → ¬ Int32.ofInt z < 0 := by
    intro z hz h
    have h : Int32.ofInt z < Int32.ofInt 0 := h
    rw [i32_lt (by omega) (by omega)] at h
    omega
  intro T hT X
  have hc0 : H[gad G o1]? = some (vp_cell (gtc G 0) (n1, .inl (fun k => Int32.ofInt (f k)))) := hP.1 o1 _ ha0
  have hc1 : H[gad G o2]? = some (vp_cell (gtc G 0) (n2, .inl (fun k => Int32.ofInt (g k)))) := hP.1 o2 _ ha1
  obtain ⟨-, k0, hk0, cm0, hkk0⟩ := (hK.2 0 _ rfl).1 n1 (fun j => .int (Int32.ofInt (f j)))
  obtain ⟨-, k1, hk1, cm1, hkk1⟩ := (hK.2 0 _ rfl).1 n2 (fun j => .int (Int32.ofInt (g j)))
  obtain ⟨vm', X', step⟩ := X.arraycopy Cc.1 Cc.2.2.2.2.1 (hts _ h1) (hts _ h2) (hts _ h3) (hts _ h4) (src := gad G o1) (dst := gad G o2) (cs := vp_cell (gtc G 0) (n1, .inl (fun k => Int32.ofInt (f k)))) (cd := vp_cell (gtc G 0) (n2, .inl (fun k => Int32.ofInt (g k)))) (srcPos := Int32.ofInt sp) (destPos := Int32.ofInt dp) (n := Int32.ofInt n) (by rw [hT]; exact hc0) (by rw [hT]; exact hc1)
    (fun _ h => by cases h) (fun _ h => by cases h) (fun h => by cases h) (fun h => by cases h) hk0 hk1 hkk0 hkk1 (by simp [refKind]) (nn sp (by omega)) (nn dp (by omega)) (nn n (by omega))
    (by rw [ts, tn]; show ¬ _ > ((arrV (gtc G 0) n1 (fun j => .int (Int32.ofInt (f j)))).slots.size : Int); rw [arrV_size]; omega)
    (by rw [td, tn]; show ¬ _ > ((arrV (gtc G 0) n2 (fun j => .int (Int32.ofInt (g j)))).slots.size : Int); rw [arrV_size]; omega)
    (fun vm₁ _ j hj => by
      rw [cn] at hj
      have e : (vp_cell (gtc G 0) (n1, .inl (fun k => Int32.ofInt (f k)))).slots.getD ((Int32.ofInt sp).toNatClampNeg + j) .null = .int (Int32.ofInt (f (sp.toNat + j))) := by
        rw [cs]
        show (arrV (gtc G 0) n1 (fun j => .int (Int32.ofInt (f j)))).slots.getD _ _ = _
        rw [Array.getD_eq_getD_getElem?, arrV_read _ _ (by omega)]
        rfl
      refine ⟨?_, ?_⟩
      · rw [e]
        rfl
      · rw [e]
        exact trivial)
    (g := F0 m pc ls ((vi n :: vi dp :: .ref o2 :: vi sp :: .ref o1 :: rest).map (gre G))) rfl (hl.1.trans Cc.2.2.2.1.symm) (rest := rest.map (gre G)) rfl (by rw [Cc.2.1]; exact d) hR.1 (by rw [catsum]; show 2 * 0 + _ + 18 ≤ _; omega)
  have e1 : copied (vp_cell (gtc G 0) (n1, .inl (fun k => Int32.ofInt (f k)))) (vp_cell (gtc G 0) (n2, .inl (fun k => Int32.ofInt (g k)))) (Int32.ofInt sp) (Int32.ofInt dp) (Int32.ofInt n) = vp_cell (gtc G 0) (n2, .inl (fun k => Int32.ofInt (cpy f g sp.toNat dp.toNat n.toNat k))) := by
    have := va_copied (fun z => .int z) (gtc G 0) (gtc G 0) (fun k => Int32.ofInt (f k)) (fun k => Int32.ofInt (g k)) (n0 := n1) (n1 := n2) (sp := (Int32.ofInt sp).toNatClampNeg) (dp := (Int32.ofInt dp).toNatClampNeg) (n := (Int32.ofInt n).toNatClampNeg) (by rw [cs, cn]; omega)
    refine Eq.trans this ?_
    rw [cs, cd, cn, cpy_real]
    rfl
  rw [e1] at X' step
  have hlt : gad G o2 < H.size := (Array.getElem?_eq_some_iff.mp hc1).1
  obtain ⟨t, a1, b1⟩ := kk p l e s m args below meth c _ _ ls Cc (hP.put (H1 := H.setIfInBounds (gad G o2) (vp_cell (gtc G 0) (n2, .inl (fun k => Int32.ofInt (cpy f g sp.toNat dp.toNat n.toNat k))))) ho2 (show (H.setIfInBounds (gad G o2) _)[gad G o2]? = some _ by simp [Array.getElem?_setIfInBounds, hlt]) (by simp) (fun q hq => by simp [Array.getElem?_setIfInBounds, Ne.symm hq])) ⟨by simp; exact hS.1, fun q g1 g2 => by
      have : q ≠ gad G o2 := fun e => g2 (by rw [e]; exact hD.2 o2 _ ha1)
      simp [Array.getElem?_setIfInBounds, Ne.symm this]
      exact hS.2.1 q g1 g2, fun q hq => by
      rcases List.mem_append.mp hq with h | h
      · exact hS.2.2 q h
      · obtain ⟨z, -, hz⟩ := List.mem_map.mp h
        rw [← hz]
        exact hD.2 o2 _ ha1⟩ hl _ (by rw [← hT]; rfl) X'
  exact ⟨t, step t a1, b1⟩
theorem gad_sp {i : Nat} (h : 1000 ≤ i) : gad G i = gsp G i := by rw [gad, if_neg (by omega)]
theorem V_ldcS {j : Nat} {tx : String} (hq : (mOwn M, i, tx, j) ∈ sRf) (d : dc M pc (.ldc i) 2 q) (kk : V G M Q kc ks q lc (.ref (1200 + j) :: st) w) : V G M Q kc ks pc lc st w := by
  obtain ⟨d, rfl⟩ := d
  intro p l e s m args below meth c H locs ls Cc hP hS hl
  have hR := Cc.2.2.2.2.2.2.2.2.2.1.1 _ hq
  refine va_ldcS Cc.1 Cc.2.1 Cc.2.2.2.2.1 hR d ?_
  have := kk p l e s m args below meth c H locs ls Cc hP hS hl
  rwa [List.map_cons, gre_ref, gad_sp (by omega)] at this
theorem V_getSc {j : Nat} (hj : j < 8) (hc : Cond.fieldLink (mOwn M) i "java/lang/String" "coder" "B" ∈ aW) (d : dc M pc (.getfield i) 3 q) (kk : V G M Q kc ks q lc (vi 0 :: st) w) : V G M Q kc ks pc lc (.ref (1200 + j) :: st) w := by
  obtain ⟨d, rfl⟩ := d
  intro p l e s m args below meth c H locs ls Cc hP hS hl
  have hR := (Cc.2.2.2.2.2.2.2.2.2.2.1.2.2.1.1 j hj).2.1
  rw [List.map_cons, gre_ref, gad_sp (by omega)]
  exact vk_getf Cc.1 Cc.2.1 hR hS Cc.2.2.2.2.1 (Cc.2.2.2.2.2.1 _ hc) (fun _ h => h) d (kk p l e s m args below meth c H locs ls Cc hP hS hl)
theorem V_getSv {j : Nat} (hj : j < 8) (hc : Cond.fieldLink (mOwn M) i "java/lang/String" "value" "[B" ∈ aW) (d : dc M pc (.getfield i) 3 q) (kk : V G M Q kc ks q lc (.ref (1300 + j) :: st) w) : V G M Q kc ks pc lc (.ref (1200 + j) :: st) w := by
  obtain ⟨d, rfl⟩ := d
  intro p l e s m args below meth c H locs ls Cc hP hS hl
  have hR := (Cc.2.2.2.2.2.2.2.2.2.2.1.2.2.1.1 j hj).2.2.1
  have := kk p l e s m args below meth c H locs ls Cc hP hS hl
  rw [List.map_cons, gre_ref, gad_sp (by omega)] at this
  rw [List.map_cons, gre_ref, gad_sp (by omega)]
  exact vk_getf Cc.1 Cc.2.1 hR hS Cc.2.2.2.2.1 (Cc.2.2.2.2.2.1 _ hc) (fun _ h => h) d this
theorem sLn_lt {j : Nat} (hj : j < 8) : sLn.getD j 0 < 10 := by
  rcases (show j = 0 ∨ j = 1 ∨ j = 2 ∨ j = 3 ∨ j = 4 ∨ j = 5 ∨ j = 6 ∨ j = 7 by omega) with rfl | rfl | rfl | rfl | rfl | rfl | rfl | rfl <;> decide
theorem V_lenB {j : Nat} (hj : j < 8) (d : dc M pc .arraylength 1 q) (kk : V G M Q kc ks q lc (vi (sLn.getD j 0) :: st) w) : V G M Q kc ks pc lc (.ref (1300 + j) :: st) w := by
  obtain ⟨d, rfl⟩ := d
  intro p l e s m args below meth c H locs ls Cc hP hS hl
  have hR := (Cc.2.2.2.2.2.2.2.2.2.2.1.2.2.1.1 j hj).2.2.2
  rw [List.map_cons, gre_ref, gad_sp (by omega)]
  exact va_tlen Cc.1 Cc.2.1 hR hS Int32.ofInt_eq_ofNat.symm d (kk p l e s m args below meth c H locs ls Cc hP hS hl)
theorem V_baloadS {j : Nat} {k : Int} (hj : j < 8) (hk : 0 ≤ k ∧ k < sLn.getD j 0) (d : dc M pc .baload 1 q) (kk : V G M Q kc ks q lc (vi (((sBy.getD j []).getD k.toNat 0).toInt) :: st) w) : V G M Q kc ks pc lc (vi k :: .ref (1300 + j) :: st) w := by
  obtain ⟨d, rfl⟩ := d
  intro p l e s m args below meth c H locs ls Cc hP hS hl
  have h10 := sLn_lt hj
  have hR := (Cc.2.2.2.2.2.2.2.2.2.2.1.2.2.1.1 j hj).2.2.2
  rw [List.map_cons, List.map_cons, gre_ref, gad_sp (by omega)]
  refine va_tb Cc.1 Cc.2.1 hR hS (i32_in hk (by omega)) rfl d ?_
  have := kk p l e s m args below meth c H locs ls Cc hP hS hl
  rw [List.map_cons, gre_vi, Int32.ofInt_toInt] at this
  show W _ _ _ _ _ _ _ _ _ _ _ _ _ _ _ (F0 m (pc + 1) ls (.int ((sBy.getD j []).getD (Int32.ofInt k).toNatClampNeg 0) :: st.map (gre G)))
  rw [i32_clamp (by omega)]
  exact this
theorem V_getsZ (hc : Cond.fieldLink (mOwn M) i "java/lang/String" "COMPACT_STRINGS" "Z" ∈ aW) (d : dc M pc (.getstatic i) 3 q) (kk : V G M Q kc ks q lc (vi 1 :: st) w) : V G M Q kc ks pc lc st w := by
  obtain ⟨d, rfl⟩ := d
  intro p l e s m args below meth c H locs ls Cc hP hS hl
  have hR := Cc.2.2.2.2.2.2.2.2.2.2.1.2.2.2.1
  exact va_gets Cc.1 Cc.2.1 hR hS Cc.2.2.2.2.1 (Cc.2.2.2.2.2.1 _ hc) (fun _ h => h) d (kk p l e s m args below meth c H locs ls Cc hP hS hl)
theorem V_getsQ (hc : Cond.fieldLink (mOwn M) i "jdk/internal/util/Preconditions" "SIOOBE_FORMATTER" "Ljava/util/function/BiFunction;" ∈ aW) (d : dc M pc (.getstatic i) 3 q) (kk : ∀ v, v = .null ∨ v = .ref 1400 → V G M Q kc ks q lc (v :: st) w) : V G M Q kc ks pc lc st w := by
  obtain ⟨d, rfl⟩ := d
  intro p l e s m args below meth c H locs ls Cc hP hS hl
  have hR := Cc.2.2.2.2.2.2.2.2.2.2.1.2.2.2.2
  exact va_gets Cc.1 Cc.2.1 hR.1 hS Cc.2.2.2.2.1 (Cc.2.2.2.2.2.1 _ hc) (fun _ h => h) d (kk _ hR.2 p l e s m args below meth c H locs ls Cc hP hS hl)
end R9
end
section
def mX0_init : mT := (RX0, yX0_init, cX0_init, 1, none, { frames := 1, cells := 2, slots := 120, locals := 20 })
def mX0_append : mT := (RX0, yX0_append, cX0_append, 3, (some .int), { frames := 0, cells := 0, slots := 0, locals := 0 })
def mX0_distance : mT := (RX0, yX0_distance, cX0_distance, 5, (some .int), { frames := 1, cells := 0, slots := 0, locals := 22 })
def mX1_init : mT := (RX1, yX1_init, cX1_init, 1, none, { frames := 1, cells := 4, slots := 1612, locals := 20 })
def mX1_fly : mT := (RX1, yX1_fly, cX1_fly, 9, none, { frames := 5, cells := 0, slots := 0, locals := 127 })
def mX1_rest : mT := (RX1, yX1_rest, cX1_rest, 2, none, { frames := 0, cells := 0, slots := 0, locals := 0 })
def mX1_goOn : mT := (RX1, yX1_goOn, cX1_goOn, 16, none, { frames := 3, cells := 0, slots := 0, locals := 69 })
def mX1_bend : mT := (RX1, yX1_bend, cX1_bend, 7, none, { frames := 0, cells := 0, slots := 0, locals := 0 })
def mX1_pull : mT := (RX1, yX1_pull, cX1_pull, 11, (some .boolean), { frames := 4, cells := 0, slots := 0, locals := 97 })
def mX1_pullBoth : mT := (RX1, yX1_pullBoth, cX1_pullBoth, 17, none, { frames := 0, cells := 0, slots := 0, locals := 0 })
def mX1_shorten : mT := (RX1, yX1_shorten, cX1_shorten, 9, none, { frames := 4, cells := 0, slots := 0, locals := 97 })
def mX1_lengthIfStretched : mT := (RX1, yX1_lengthIfStretched, cX1_lengthIfStretched, 9, (some .long), { frames := 3, cells := 0, slots := 0, locals := 69 })
def mX1_xOf : mT := (RX1, yX1_xOf, cX1_xOf, 3, (some .int), { frames := 0, cells := 0, slots := 0, locals := 0 })
def mX1_yOf : mT := (RX1, yX1_yOf, cX1_yOf, 3, (some .int), { frames := 0, cells := 0, slots := 0, locals := 0 })
def mX1_moved : mT := (RX1, yX1_moved, cX1_moved, 4, (some .long), { frames := 1, cells := 0, slots := 0, locals := 23 })
def mX1_squares : mT := (RX1, yX1_squares, cX1_squares, 4, (some .long), { frames := 0, cells := 0, slots := 0, locals := 0 })
def mX1_speedOf : mT := (RX1, yX1_speedOf, cX1_speedOf, 3, (some .int), { frames := 3, cells := 0, slots := 0, locals := 69 })
def mX1_forceOf : mT := (RX1, yX1_forceOf, cX1_forceOf, 3, (some .long), { frames := 2, cells := 0, slots := 0, locals := 46 })
def mX1_forceOfAll : mT := (RX1, yX1_forceOfAll, cX1_forceOfAll, 5, (some .long), { frames := 3, cells := 0, slots := 0, locals := 68 })
def mX1_pathOf : mT := (RX1, yX1_pathOf, cX1_pathOf, 4, (some .int), { frames := 4, cells := 0, slots := 0, locals := 91 })
def mX1_greatestSpeed : mT := (RX1, yX1_greatestSpeed, cX1_greatestSpeed, 5, (some .int), { frames := 3, cells := 0, slots := 0, locals := 69 })
def mX1_loopOf : mT := (RX1, yX1_loopOf, cX1_loopOf, 11, (some .int), { frames := 0, cells := 0, slots := 0, locals := 0 })
def mX1_hasLoop : mT := (RX1, yX1_hasLoop, cX1_hasLoop, 2, (some .boolean), { frames := 1, cells := 0, slots := 0, locals := 30 })
def mX1_isOverhead : mT := (RX1, yX1_isOverhead, cX1_isOverhead, 3, (some .boolean), { frames := 1, cells := 0, slots := 0, locals := 22 })
def mX1_isFast : mT := (RX1, yX1_isFast, cX1_isFast, 3, (some .boolean), { frames := 2, cells := 0, slots := 0, locals := 46 })
def mX1_isCrack : mT := (RX1, yX1_isCrack, cX1_isCrack, 3, (some .boolean), { frames := 3, cells := 0, slots := 0, locals := 68 })
def mX1_crackCount : mT := (RX1, yX1_crackCount, cX1_crackCount, 4, (some .int), { frames := 4, cells := 0, slots := 0, locals := 90 })
def mX1_findCrack : mT := (RX1, yX1_findCrack, cX1_findCrack, 5, (some .int), { frames := 4, cells := 0, slots := 0, locals := 90 })
def mX1_hasCrack : mT := (RX1, yX1_hasCrack, cX1_hasCrack, 3, (some .boolean), { frames := 4, cells := 0, slots := 0, locals := 90 })
def mX1_firstCrackTick : mT := (RX1, yX1_firstCrackTick, cX1_firstCrackTick, 2, (some .int), { frames := 5, cells := 0, slots := 0, locals := 112 })
def mX1_lastCrackTick : mT := (RX1, yX1_lastCrackTick, cX1_lastCrackTick, 2, (some .int), { frames := 5, cells := 0, slots := 0, locals := 112 })
def mX1_crackOf : mT := (RX1, yX1_crackOf, cX1_crackOf, 4, (some .int), { frames := 1, cells := 0, slots := 0, locals := 30 })
def mX1_loudOf : mT := (RX1, yX1_loudOf, cX1_loudOf, 4, (some .int), { frames := 4, cells := 0, slots := 0, locals := 91 })
def mX1_farOf : mT := (RX1, yX1_farOf, cX1_farOf, 5, (some .int), { frames := 3, cells := 0, slots := 0, locals := 69 })
def mX1_leastCrackFar : mT := (RX1, yX1_leastCrackFar, cX1_leastCrackFar, 7, (some .int), { frames := 4, cells := 0, slots := 0, locals := 93 })
def mX1_leastFar : mT := (RX1, yX1_leastFar, cX1_leastFar, 7, (some .int), { frames := 3, cells := 0, slots := 0, locals := 69 })
def mX1_nearestTick : mT := (RX1, yX1_nearestTick, cX1_nearestTick, 9, (some .int), { frames := 4, cells := 0, slots := 0, locals := 93 })
def mX1_leastFarOfTwo : mT := (RX1, yX1_leastFarOfTwo, cX1_leastFarOfTwo, 15, (some .int), { frames := 3, cells := 0, slots := 0, locals := 69 })
def mX1_turnsAbout : mT := (RX1, yX1_turnsAbout, cX1_turnsAbout, 8, (some .int), { frames := 1, cells := 0, slots := 0, locals := 22 })
def mX1_quarterOf : mT := (RX1, yX1_quarterOf, cX1_quarterOf, 3, (some .int), { frames := 0, cells := 0, slots := 0, locals := 0 })
def mX2_init : mT := (RX2, yX2_init, cX2_init, 1, none, { frames := 1, cells := 3, slots := 270, locals := 20 })
def mX2_addHide : mT := (RX2, yX2_addHide, cX2_addHide, 2, (some .int), { frames := 0, cells := 0, slots := 0, locals := 0 })
def mX2_addCut : mT := (RX2, yX2_addCut, cX2_addCut, 2, (some .int), { frames := 0, cells := 0, slots := 0, locals := 0 })
def mX2_fewest : mT := (RX2, yX2_fewest, cX2_fewest, 4, (some .int), { frames := 2, cells := 0, slots := 0, locals := 50 })
def mX2_isEnough : mT := (RX2, yX2_isEnough, cX2_isEnough, 6, (some .boolean), { frames := 1, cells := 0, slots := 0, locals := 25 })
def mX2_keepLeast : mT := (RX2, yX2_keepLeast, cX2_keepLeast, 3, none, { frames := 0, cells := 0, slots := 0, locals := 0 })
def mX2_afterCut : mT := (RX2, yX2_afterCut, cX2_afterCut, 6, (some .int), { frames := 0, cells := 0, slots := 0, locals := 0 })
def mX3_init : mT := (RX3, yX3_init, cX3_init, 1, none, { frames := 1, cells := 3, slots := 36, locals := 20 })
def mX3_copyFrom : mT := (RX3, yX3_copyFrom, cX3_copyFrom, 2, none, { frames := 1, cells := 0, slots := 0, locals := 30 })
def mX3_addPieces : mT := (RX3, yX3_addPieces, cX3_addPieces, 5, none, { frames := 0, cells := 0, slots := 0, locals := 0 })
def mX3_weightOf : mT := (RX3, yX3_weightOf, cX3_weightOf, 2, (some .int), { frames := 0, cells := 0, slots := 0, locals := 0 })
def mX3_bendsOf : mT := (RX3, yX3_bendsOf, cX3_bendsOf, 2, (some .int), { frames := 1, cells := 0, slots := 0, locals := 21 })
def mX3_strandsInAll : mT := (RX3, yX3_strandsInAll, cX3_strandsInAll, 3, (some .int), { frames := 0, cells := 0, slots := 0, locals := 0 })
def mX3_loseWorn : mT := (RX3, yX3_loseWorn, cX3_loseWorn, 4, (some .int), { frames := 0, cells := 0, slots := 0, locals := 0 })
def mX4_init : mT := (RX4, yX4_init, cX4_init, 1, none, { frames := 2, cells := 4, slots := 41, locals := 40 })
def mX4_read : mT := (RX4, yX4_read, cX4_read, 3, none, { frames := 9, cells := 0, slots := 0, locals := 195 })
def mX4_readClause : mT := (RX4, yX4_readClause, cX4_readClause, 2, none, { frames := 8, cells := 0, slots := 0, locals := 174 })
def mX4_readLength : mT := (RX4, yX4_readLength, cX4_readLength, 2, none, { frames := 7, cells := 0, slots := 0, locals := 150 })
def mX4_readPieces : mT := (RX4, yX4_readPieces, cX4_readPieces, 5, none, { frames := 7, cells := 0, slots := 0, locals := 150 })
def mX5_init : mT := (RX5, yX5_init, cX5_init, 1, none, { frames := 2, cells := 6, slots := 57, locals := 40 })
def mX5_run : mT := (RX5, yX5_run, cX5_run, 7, none, { frames := 6, cells := 0, slots := 0, locals := 155 })
def mX5_layRow : mT := (RX5, yX5_layRow, cX5_layRow, 2, none, { frames := 0, cells := 0, slots := 0, locals := 0 })
def mX5_compare : mT := (RX5, yX5_compare, cX5_compare, 2, none, { frames := 1, cells := 0, slots := 0, locals := 30 })
def mX5_nextRow : mT := (RX5, yX5_nextRow, cX5_nextRow, 4, (some .boolean), { frames := 0, cells := 0, slots := 0, locals := 0 })
def mX6_init : mT := (RX6, yX6_init, cX6_init, 1, none, { frames := 2, cells := 8, slots := 172, locals := 40 })
def mX6_copyFrom : mT := (RX6, yX6_copyFrom, cX6_copyFrom, 2, none, { frames := 2, cells := 0, slots := 0, locals := 51 })
def mX7_init : mT := (RX7, yX7_init, cX7_init, 1, none, { frames := 1, cells := 1, slots := 160, locals := 20 })
def mX7_append : mT := (RX7, yX7_append, cX7_append, 5, none, { frames := 0, cells := 0, slots := 0, locals := 0 })
def mX7_begin : mT := (RX7, yX7_begin, cX7_begin, 1, none, { frames := 0, cells := 0, slots := 0, locals := 0 })
def mX7_blame : mT := (RX7, yX7_blame, cX7_blame, 3, none, { frames := 0, cells := 0, slots := 0, locals := 0 })
def mX7_isFine : mT := (RX7, yX7_isFine, cX7_isFine, 1, (some .boolean), { frames := 0, cells := 0, slots := 0, locals := 0 })
def mX7_next : mT := (RX7, yX7_next, cX7_next, 1, (some .int), { frames := 0, cells := 0, slots := 0, locals := 0 })
def mX7_takesSign : mT := (RX7, yX7_takesSign, cX7_takesSign, 2, (some .boolean), { frames := 1, cells := 0, slots := 0, locals := 20 })
def mX7_needSign : mT := (RX7, yX7_needSign, cX7_needSign, 2, none, { frames := 2, cells := 0, slots := 0, locals := 41 })
def mX7_isWord : mT := (RX7, yX7_isWord, cX7_isWord, 4, (some .boolean), { frames := 5, cells := 0, slots := 0, locals := 106 })
def mX7_takesWord : mT := (RX7, yX7_takesWord, cX7_takesWord, 2, (some .boolean), { frames := 6, cells := 0, slots := 0, locals := 129 })
def mX7_needWord : mT := (RX7, yX7_needWord, cX7_needWord, 2, none, { frames := 6, cells := 0, slots := 0, locals := 129 })
def mX7_needNumber : mT := (RX7, yX7_needNumber, cX7_needNumber, 3, (some .int), { frames := 2, cells := 0, slots := 0, locals := 46 })
def mX7_needMove : mT := (RX7, yX7_needMove, cX7_needMove, 3, (some .int), { frames := 2, cells := 0, slots := 0, locals := 46 })
def mX7_readFigures : mT := (RX7, yX7_readFigures, cX7_readFigures, 5, (some .int), { frames := 1, cells := 0, slots := 0, locals := 22 })
def mX7_isLetter : mT := (RX7, yX7_isLetter, cX7_isLetter, 1, (some .boolean), { frames := 0, cells := 0, slots := 0, locals := 0 })
def mX7_isFigure : mT := (RX7, yX7_isFigure, cX7_isFigure, 1, (some .boolean), { frames := 0, cells := 0, slots := 0, locals := 0 })
def mX8_init : mT := (RX8, yX8_init, cX8_init, 1, none, { frames := 1, cells := 2, slots := 122, locals := 20 })
def mX8_copyFrom : mT := (RX8, yX8_copyFrom, cX8_copyFrom, 2, none, { frames := 1, cells := 0, slots := 0, locals := 30 })
def mX8_addStep : mT := (RX8, yX8_addStep, cX8_addStep, 6, none, { frames := 0, cells := 0, slots := 0, locals := 0 })
def mX9_init : mT := (RX9, yX9_init, cX9_init, 1, none, { frames := 1, cells := 6, slots := 189, locals := 20 })
def mX9_read : mT := (RX9, yX9_read, cX9_read, 3, none, { frames := 9, cells := 0, slots := 0, locals := 194 })
def mX9_layInto : mT := (RX9, yX9_layInto, cX9_layInto, 3, none, { frames := 1, cells := 0, slots := 0, locals := 25 })
def mX9_readPart : mT := (RX9, yX9_readPart, cX9_readPart, 2, none, { frames := 8, cells := 0, slots := 0, locals := 173 })
def mX9_readGo : mT := (RX9, yX9_readGo, cX9_readGo, 4, none, { frames := 7, cells := 0, slots := 0, locals := 150 })
def mX9_openTimes : mT := (RX9, yX9_openTimes, cX9_openTimes, 2, none, { frames := 7, cells := 0, slots := 0, locals := 150 })
def mX9_closeTimes : mT := (RX9, yX9_closeTimes, cX9_closeTimes, 5, none, { frames := 1, cells := 0, slots := 0, locals := 21 })
def mX9_copyStep : mT := (RX9, yX9_copyStep, cX9_copyStep, 2, none, { frames := 0, cells := 0, slots := 0, locals := 0 })
def mX9_addStep : mT := (RX9, yX9_addStep, cX9_addStep, 4, none, { frames := 0, cells := 0, slots := 0, locals := 0 })
def mX10_init : mT := (RX10, yX10_init, cX10_init, 1, none, { frames := 3, cells := 65, slots := 4636, locals := 60 })
def mX10_feed : mT := (RX10, yX10_feed, cX10_feed, 4, (some .int), { frames := 1, cells := 0, slots := 0, locals := 24 })
def mX10_plait : mT := (RX10, yX10_plait, cX10_plait, 2, (some .int), { frames := 10, cells := 0, slots := 0, locals := 217 })
def mX10_way : mT := (RX10, yX10_way, cX10_way, 2, (some .int), { frames := 10, cells := 0, slots := 0, locals := 216 })
def mX10_fault : mT := (RX10, yX10_fault, cX10_fault, 1, (some .int), { frames := 0, cells := 0, slots := 0, locals := 0 })
def mX10_piece : mT := (RX10, yX10_piece, cX10_piece, 4, (some .int), { frames := 2, cells := 0, slots := 0, locals := 42 })
def mX10_law : mT := (RX10, yX10_law, cX10_law, 4, (some .int), { frames := 1, cells := 0, slots := 0, locals := 20 })
def mX10_give : mT := (RX10, yX10_give, cX10_give, 3, (some .int), { frames := 1, cells := 0, slots := 0, locals := 20 })
def mX10_count : mT := (RX10, yX10_count, cX10_count, 2, (some .int), { frames := 1, cells := 0, slots := 0, locals := 22 })
def mX10_joint : mT := (RX10, yX10_joint, cX10_joint, 5, (some .int), { frames := 7, cells := 0, slots := 0, locals := 175 })
def mX10_speed : mT := (RX10, yX10_speed, cX10_speed, 3, (some .int), { frames := 7, cells := 0, slots := 0, locals := 175 })
def mX10_force : mT := (RX10, yX10_force, cX10_force, 5, (some .long), { frames := 7, cells := 0, slots := 0, locals := 175 })
def mX10_loop : mT := (RX10, yX10_loop, cX10_loop, 2, (some .int), { frames := 7, cells := 0, slots := 0, locals := 175 })
def mX10_crack : mT := (RX10, yX10_crack, cX10_crack, 5, (some .int), { frames := 7, cells := 0, slots := 0, locals := 175 })
def mX10_kind : mT := (RX10, yX10_kind, cX10_kind, 4, (some .int), { frames := 7, cells := 0, slots := 0, locals := 175 })
def mX10_turns : mT := (RX10, yX10_turns, cX10_turns, 1, (some .int), { frames := 7, cells := 0, slots := 0, locals := 175 })
def mX10_put : mT := (RX10, yX10_put, cX10_put, 4, (some .int), { frames := 2, cells := 0, slots := 0, locals := 42 })
def mX10_near : mT := (RX10, yX10_near, cX10_near, 1, (some .int), { frames := 7, cells := 0, slots := 0, locals := 175 })
def mX10_leastHand : mT := (RX10, yX10_leastHand, cX10_leastHand, 2, (some .int), { frames := 6, cells := 0, slots := 0, locals := 155 })
def mX10_loudest : mT := (RX10, yX10_loudest, cX10_loudest, 3, (some .int), { frames := 7, cells := 0, slots := 0, locals := 181 })
def mX10_aim : mT := (RX10, yX10_aim, cX10_aim, 8, (some .int), { frames := 7, cells := 0, slots := 0, locals := 175 })
def mX10_alone : mT := (RX10, yX10_alone, cX10_alone, 3, (some .int), { frames := 7, cells := 0, slots := 0, locals := 175 })
def mX10_bestAim : mT := (RX10, yX10_bestAim, cX10_bestAim, 8, (some .int), { frames := 6, cells := 0, slots := 0, locals := 155 })
def mX10_close : mT := (RX10, yX10_close, cX10_close, 5, (some .int), { frames := 7, cells := 0, slots := 0, locals := 175 })
def mX10_rhythm : mT := (RX10, yX10_rhythm, cX10_rhythm, 9, (some .int), { frames := 7, cells := 0, slots := 0, locals := 175 })
def mX10_crackOn : mT := (RX10, yX10_crackOn, cX10_crackOn, 1, (some .int), { frames := 8, cells := 0, slots := 0, locals := 198 })
def mX10_evening : mT := (RX10, yX10_evening, cX10_evening, 3, (some .int), { frames := 8, cells := 0, slots := 0, locals := 198 })
def mX10_lay : mT := (RX10, yX10_lay, cX10_lay, 3, (some .int), { frames := 1, cells := 0, slots := 0, locals := 21 })
def mX10_clear : mT := (RX10, yX10_clear, cX10_clear, 2, (some .int), { frames := 0, cells := 0, slots := 0, locals := 0 })
def mX10_cut : mT := (RX10, yX10_cut, cX10_cut, 1, (some .int), { frames := 3, cells := 0, slots := 0, locals := 73 })
def mX10_film : mT := (RX10, yX10_film, cX10_film, 3, (some .int), { frames := 1, cells := 0, slots := 0, locals := 22 })
def mX10_blank : mT := (RX10, yX10_blank, cX10_blank, 2, (some .int), { frames := 0, cells := 0, slots := 0, locals := 0 })
def mX10_told : mT := (RX10, yX10_told, cX10_told, 6, (some .int), { frames := 6, cells := 0, slots := 0, locals := 155 })
def mX10_keep : mT := (RX10, yX10_keep, cX10_keep, 3, (some .int), { frames := 3, cells := 0, slots := 0, locals := 72 })
def mX10_goBack : mT := (RX10, yX10_goBack, cX10_goBack, 3, (some .int), { frames := 3, cells := 0, slots := 0, locals := 72 })
def mX10_endReading : mT := (RX10, yX10_endReading, cX10_endReading, 1, (some .int), { frames := 0, cells := 0, slots := 0, locals := 0 })
def mX10_setChanged : mT := (RX10, yX10_setChanged, cX10_setChanged, 1, none, { frames := 0, cells := 0, slots := 0, locals := 0 })
def mX10_theThrow : mT := (RX10, yX10_theThrow, cX10_theThrow, 1, (some (.object "WhipCrack$Flight")), { frames := 6, cells := 0, slots := 0, locals := 155 })
def mX10_isJoint : mT := (RX10, yX10_isJoint, cX10_isJoint, 2, (some .boolean), { frames := 0, cells := 0, slots := 0, locals := 0 })
def mX10_isTick : mT := (RX10, yX10_isTick, cX10_isTick, 2, (some .boolean), { frames := 0, cells := 0, slots := 0, locals := 0 })
def mX10_isWithin : mT := (RX10, yX10_isWithin, cX10_isWithin, 2, (some .boolean), { frames := 0, cells := 0, slots := 0, locals := 0 })
def mX10_isPlace : mT := (RX10, yX10_isPlace, cX10_isPlace, 2, (some .boolean), { frames := 1, cells := 0, slots := 0, locals := 21 })
def mX10_isGiven : mT := (RX10, yX10_isGiven, cX10_isGiven, 1, (some .boolean), { frames := 0, cells := 0, slots := 0, locals := 0 })
def mX10_tellCrack : mT := (RX10, yX10_tellCrack, cX10_tellCrack, 6, (some .int), { frames := 5, cells := 0, slots := 0, locals := 114 })
def mX10_throwReally : mT := (RX10, yX10_throwReally, cX10_throwReally, 4, (some .int), { frames := 7, cells := 0, slots := 0, locals := 175 })
def mX10_root : mT := (RX10, yX10_root, cX10_root, 7, (some .long), { frames := 2, cells := 0, slots := 0, locals := 43 })
def mX11_init : mT := (RX11, yX11_init, cX11_init, 2, none, { frames := 1, cells := 34, slots := 6369, locals := 20 })
def mX11_in : mT := (RX11, yX11_in, cX11_in, 6, (some .boolean), { frames := 0, cells := 0, slots := 0, locals := 0 })
def mX11_one : mT := (RX11, yX11_one, cX11_one, 1, (some .int), { frames := 0, cells := 0, slots := 0, locals := 0 })
def mX11_root : mT := (RX11, yX11_root, cX11_root, 8, (some .long), { frames := 0, cells := 0, slots := 0, locals := 0 })
def mX11_span : mT := (RX11, yX11_span, cX11_span, 4, (some .long), { frames := 1, cells := 0, slots := 0, locals := 27 })
def mX11_heft : mT := (RX11, yX11_heft, cX11_heft, 1, (some .int), { frames := 0, cells := 0, slots := 0, locals := 0 })
def mX11_stiff : mT := (RX11, yX11_stiff, cX11_stiff, 1, (some .int), { frames := 0, cells := 0, slots := 0, locals := 0 })
def mX11_wears : mT := (RX11, yX11_wears, cX11_wears, 1, (some .int), { frames := 0, cells := 0, slots := 0, locals := 0 })
def mX11_feed : mT := (RX11, yX11_feed, cX11_feed, 5, (some .int), { frames := 1, cells := 0, slots := 0, locals := 25 })
def mX11_here : mT := (RX11, yX11_here, cX11_here, 1, (some .int), { frames := 0, cells := 0, slots := 0, locals := 0 })
def mX11_want : mT := (RX11, yX11_want, cX11_want, 4, (some .boolean), { frames := 0, cells := 0, slots := 0, locals := 0 })
def mX11_takeWord : mT := (RX11, yX11_takeWord, cX11_takeWord, 2, none, { frames := 1, cells := 0, slots := 0, locals := 25 })
def mX11_isWord : mT := (RX11, yX11_isWord, cX11_isWord, 11, (some .boolean), { frames := 0, cells := 0, slots := 0, locals := 0 })
def mX11_takeNumber : mT := (RX11, yX11_takeNumber, cX11_takeNumber, 10, (some .int), { frames := 1, cells := 0, slots := 0, locals := 25 })
def mX11_takeSign : mT := (RX11, yX11_takeSign, cX11_takeSign, 3, none, { frames := 1, cells := 0, slots := 0, locals := 23 })
def mX11_beginText : mT := (RX11, yX11_beginText, cX11_beginText, 1, none, { frames := 0, cells := 0, slots := 0, locals := 0 })
def mX11_takePiece : mT := (RX11, yX11_takePiece, cX11_takePiece, 6, none, { frames := 2, cells := 0, slots := 0, locals := 54 })
def mX11_plait : mT := (RX11, yX11_plait, cX11_plait, 3, (some .int), { frames := 3, cells := 0, slots := 0, locals := 79 })
def mX11_addOp : mT := (RX11, yX11_addOp, cX11_addOp, 5, none, { frames := 0, cells := 0, slots := 0, locals := 0 })
def mX11_takeGo : mT := (RX11, yX11_takeGo, cX11_takeGo, 4, none, { frames := 2, cells := 0, slots := 0, locals := 54 })
def mX11_takeWay : mT := (RX11, yX11_takeWay, cX11_takeWay, 6, none, { frames := 3, cells := 0, slots := 0, locals := 77 })
def mX11_runWay : mT := (RX11, yX11_runWay, cX11_runWay, 6, (some .boolean), { frames := 0, cells := 0, slots := 0, locals := 0 })
def mX11_way : mT := (RX11, yX11_way, cX11_way, 2, (some .int), { frames := 4, cells := 0, slots := 0, locals := 102 })
def mX11_fault : mT := (RX11, yX11_fault, cX11_fault, 1, (some .int), { frames := 0, cells := 0, slots := 0, locals := 0 })
def mX11_weightOf : mT := (RX11, yX11_weightOf, cX11_weightOf, 2, (some .int), { frames := 1, cells := 0, slots := 0, locals := 20 })
def mX11_bendsOf : mT := (RX11, yX11_bendsOf, cX11_bendsOf, 3, (some .int), { frames := 1, cells := 0, slots := 0, locals := 20 })
def mX11_piece : mT := (RX11, yX11_piece, cX11_piece, 3, (some .int), { frames := 2, cells := 0, slots := 0, locals := 42 })
def mX11_law : mT := (RX11, yX11_law, cX11_law, 5, (some .int), { frames := 1, cells := 0, slots := 0, locals := 25 })
def mX11_give : mT := (RX11, yX11_give, cX11_give, 3, (some .int), { frames := 1, cells := 0, slots := 0, locals := 25 })
def mX11_allStrands : mT := (RX11, yX11_allStrands, cX11_allStrands, 3, (some .int), { frames := 0, cells := 0, slots := 0, locals := 0 })
def mX11_count : mT := (RX11, yX11_count, cX11_count, 2, (some .int), { frames := 1, cells := 0, slots := 0, locals := 22 })
def mX11_cell : mT := (RX11, yX11_cell, cX11_cell, 2, (some .int), { frames := 0, cells := 0, slots := 0, locals := 0 })
def mX11_goOn : mT := (RX11, yX11_goOn, cX11_goOn, 13, none, { frames := 2, cells := 0, slots := 0, locals := 50 })
def mX11_bend : mT := (RX11, yX11_bend, cX11_bend, 4, none, { frames := 2, cells := 0, slots := 0, locals := 42 })
def mX11_pull : mT := (RX11, yX11_pull, cX11_pull, 18, none, { frames := 2, cells := 0, slots := 0, locals := 50 })
def mX11_hold : mT := (RX11, yX11_hold, cX11_hold, 10, none, { frames := 2, cells := 0, slots := 0, locals := 50 })
def mX11_toss : mT := (RX11, yX11_toss, cX11_toss, 5, none, { frames := 3, cells := 0, slots := 0, locals := 87 })
def mX11_noJoint : mT := (RX11, yX11_noJoint, cX11_noJoint, 2, (some .boolean), { frames := 1, cells := 0, slots := 0, locals := 25 })
def mX11_joint : mT := (RX11, yX11_joint, cX11_joint, 4, (some .int), { frames := 4, cells := 0, slots := 0, locals := 111 })
def mX11_speedOf : mT := (RX11, yX11_speedOf, cX11_speedOf, 3, (some .long), { frames := 2, cells := 0, slots := 0, locals := 50 })
def mX11_speed : mT := (RX11, yX11_speed, cX11_speed, 3, (some .int), { frames := 4, cells := 0, slots := 0, locals := 111 })
def mX11_forceOf : mT := (RX11, yX11_forceOf, cX11_forceOf, 7, (some .long), { frames := 2, cells := 0, slots := 0, locals := 41 })
def mX11_force : mT := (RX11, yX11_force, cX11_force, 6, (some .long), { frames := 4, cells := 0, slots := 0, locals := 111 })
def mX11_loopOf : mT := (RX11, yX11_loopOf, cX11_loopOf, 9, (some .int), { frames := 1, cells := 0, slots := 0, locals := 21 })
def mX11_loop : mT := (RX11, yX11_loop, cX11_loop, 2, (some .int), { frames := 4, cells := 0, slots := 0, locals := 111 })
def mX11_findCracks : mT := (RX11, yX11_findCracks, cX11_findCracks, 4, none, { frames := 3, cells := 0, slots := 0, locals := 72 })
def mX11_farOf : mT := (RX11, yX11_farOf, cX11_farOf, 3, (some .int), { frames := 2, cells := 0, slots := 0, locals := 50 })
def mX11_ofWhat : mT := (RX11, yX11_ofWhat, cX11_ofWhat, 4, (some .int), { frames := 2, cells := 0, slots := 0, locals := 49 })
def mX11_crack : mT := (RX11, yX11_crack, cX11_crack, 6, (some .int), { frames := 4, cells := 0, slots := 0, locals := 111 })
def mX11_quarter : mT := (RX11, yX11_quarter, cX11_quarter, 5, (some .int), { frames := 0, cells := 0, slots := 0, locals := 0 })
def mX11_turnsOf : mT := (RX11, yX11_turnsOf, cX11_turnsOf, 6, (some .int), { frames := 1, cells := 0, slots := 0, locals := 24 })
def mX11_isOverhead : mT := (RX11, yX11_isOverhead, cX11_isOverhead, 4, (some .boolean), { frames := 1, cells := 0, slots := 0, locals := 21 })
def mX11_hasLoop : mT := (RX11, yX11_hasLoop, cX11_hasLoop, 3, (some .boolean), { frames := 2, cells := 0, slots := 0, locals := 49 })
def mX11_kind : mT := (RX11, yX11_kind, cX11_kind, 2, (some .int), { frames := 4, cells := 0, slots := 0, locals := 111 })
def mX11_turns : mT := (RX11, yX11_turns, cX11_turns, 1, (some .int), { frames := 4, cells := 0, slots := 0, locals := 111 })
def mX11_isPlace : mT := (RX11, yX11_isPlace, cX11_isPlace, 2, (some .boolean), { frames := 1, cells := 0, slots := 0, locals := 25 })
def mX11_put : mT := (RX11, yX11_put, cX11_put, 4, (some .int), { frames := 2, cells := 0, slots := 0, locals := 46 })
def mX11_near : mT := (RX11, yX11_near, cX11_near, 4, (some .int), { frames := 4, cells := 0, slots := 0, locals := 111 })
def mX11_leastHand : mT := (RX11, yX11_leastHand, cX11_leastHand, 2, (some .int), { frames := 4, cells := 0, slots := 0, locals := 111 })
def mX11_greatestSpeed : mT := (RX11, yX11_greatestSpeed, cX11_greatestSpeed, 7, (some .long), { frames := 3, cells := 0, slots := 0, locals := 72 })
def mX11_listed : mT := (RX11, yX11_listed, cX11_listed, 1, (some .int), { frames := 0, cells := 0, slots := 0, locals := 0 })
def mX11_loudest : mT := (RX11, yX11_loudest, cX11_loudest, 10, (some .int), { frames := 4, cells := 0, slots := 0, locals := 111 })
def mX11_farFrom : mT := (RX11, yX11_farFrom, cX11_farFrom, 6, (some .long), { frames := 2, cells := 0, slots := 0, locals := 50 })
def mX11_aim : mT := (RX11, yX11_aim, cX11_aim, 8, (some .int), { frames := 4, cells := 0, slots := 0, locals := 111 })
def mX11_aloneBy : mT := (RX11, yX11_aloneBy, cX11_aloneBy, 9, (some .long), { frames := 3, cells := 0, slots := 0, locals := 75 })
def mX11_alone : mT := (RX11, yX11_alone, cX11_alone, 3, (some .int), { frames := 4, cells := 0, slots := 0, locals := 111 })
def mX11_bestAim : mT := (RX11, yX11_bestAim, cX11_bestAim, 13, (some .int), { frames := 4, cells := 0, slots := 0, locals := 111 })
def mX11_tossBoth : mT := (RX11, yX11_tossBoth, cX11_tossBoth, 5, none, { frames := 4, cells := 0, slots := 0, locals := 111 })
def mX11_closeBy : mT := (RX11, yX11_closeBy, cX11_closeBy, 11, (some .int), { frames := 2, cells := 0, slots := 0, locals := 50 })
def mX11_isTwo : mT := (RX11, yX11_isTwo, cX11_isTwo, 2, (some .boolean), { frames := 1, cells := 0, slots := 0, locals := 25 })
def mX11_close : mT := (RX11, yX11_close, cX11_close, 4, (some .int), { frames := 5, cells := 0, slots := 0, locals := 135 })
def mX11_rhythm : mT := (RX11, yX11_rhythm, cX11_rhythm, 7, (some .int), { frames := 5, cells := 0, slots := 0, locals := 135 })
def mX11_wearOnce : mT := (RX11, yX11_wearOnce, cX11_wearOnce, 6, (some .int), { frames := 4, cells := 0, slots := 0, locals := 111 })
def mX11_crackOn : mT := (RX11, yX11_crackOn, cX11_crackOn, 1, (some .int), { frames := 5, cells := 0, slots := 0, locals := 136 })
def mX11_evening : mT := (RX11, yX11_evening, cX11_evening, 4, (some .int), { frames := 5, cells := 0, slots := 0, locals := 136 })
def mX11_lay : mT := (RX11, yX11_lay, cX11_lay, 3, (some .int), { frames := 1, cells := 0, slots := 0, locals := 25 })
def mX11_clear : mT := (RX11, yX11_clear, cX11_clear, 2, (some .int), { frames := 0, cells := 0, slots := 0, locals := 0 })
def mX11_sumOf : mT := (RX11, yX11_sumOf, cX11_sumOf, 4, (some .int), { frames := 0, cells := 0, slots := 0, locals := 0 })
def mX11_canCut : mT := (RX11, yX11_canCut, cX11_canCut, 6, (some .boolean), { frames := 1, cells := 0, slots := 0, locals := 23 })
def mX11_ones : mT := (RX11, yX11_ones, cX11_ones, 3, (some .int), { frames := 0, cells := 0, slots := 0, locals := 0 })
def mX11_cut : mT := (RX11, yX11_cut, cX11_cut, 3, (some .int), { frames := 2, cells := 0, slots := 0, locals := 48 })
def mX11_film : mT := (RX11, yX11_film, cX11_film, 3, (some .int), { frames := 1, cells := 0, slots := 0, locals := 25 })
def mX11_blank : mT := (RX11, yX11_blank, cX11_blank, 2, (some .int), { frames := 0, cells := 0, slots := 0, locals := 0 })
def mX11_size : mT := (RX11, yX11_size, cX11_size, 2, (some .long), { frames := 0, cells := 0, slots := 0, locals := 0 })
def mX11_told : mT := (RX11, yX11_told, cX11_told, 9, (some .int), { frames := 4, cells := 0, slots := 0, locals := 111 })
def mX11_keep : mT := (RX11, yX11_keep, cX11_keep, 4, (some .int), { frames := 1, cells := 0, slots := 0, locals := 25 })
def mX11_goBack : mT := (RX11, yX11_goBack, cX11_goBack, 4, (some .int), { frames := 1, cells := 0, slots := 0, locals := 25 })
def mJ6_numberOfLeadingZeros_0f7a4 : mT := (RJ6, yJ6_numberOfLeadingZeros_0f7a4, cJ6_numberOfLeadingZeros_0f7a4, 2, (some .int), { frames := 0, cells := 0, slots := 0, locals := 0 })
def mJ6_bitCount_0f7a4 : mT := (RJ6, yJ6_bitCount_0f7a4, cJ6_bitCount_0f7a4, 1, (some .int), { frames := 0, cells := 0, slots := 0, locals := 0 })
def mJ13_numberOfLeadingZeros_95d88 : mT := (RJ13, yJ13_numberOfLeadingZeros_95d88, cJ13_numberOfLeadingZeros_95d88, 3, (some .int), { frames := 1, cells := 0, slots := 0, locals := 21 })
def mJ9_abs_0f7a4 : mT := (RJ9, yJ9_abs_0f7a4, cJ9_abs_0f7a4, 1, (some .int), { frames := 0, cells := 0, slots := 0, locals := 0 })
def mJ9_max_7cf53 : mT := (RJ9, yJ9_max_7cf53, cJ9_max_7cf53, 2, (some .int), { frames := 0, cells := 0, slots := 0, locals := 0 })
def mJ9_max_f86c9 : mT := (RJ9, yJ9_max_f86c9, cJ9_max_f86c9, 4, (some .long), { frames := 0, cells := 0, slots := 0, locals := 0 })
def mJ9_min_7cf53 : mT := (RJ9, yJ9_min_7cf53, cJ9_min_7cf53, 2, (some .int), { frames := 0, cells := 0, slots := 0, locals := 0 })
def mJ9_min_f86c9 : mT := (RJ9, yJ9_min_f86c9, cJ9_min_f86c9, 4, (some .long), { frames := 0, cells := 0, slots := 0, locals := 0 })
def mJ0_length_8abf5 : mT := (RJ0, yJ0_length_8abf5, cJ0_length_8abf5, 1, (some .int), { frames := 1, cells := 0, slots := 0, locals := 20 })
def mJ0_charAt_5068e : mT := (RJ0, yJ0_charAt_5068e, cJ0_charAt_5068e, 2, (some .char), { frames := 4, cells := 0, slots := 0, locals := 85 })
def mJ0_coder_7d493 : mT := (RJ0, yJ0_coder_7d493, cJ0_coder_7d493, 1, (some .byte), { frames := 0, cells := 0, slots := 0, locals := 0 })
def mJ0_isLatin1_aae02 : mT := (RJ0, yJ0_isLatin1_aae02, cJ0_isLatin1_aae02, 1, (some .boolean), { frames := 0, cells := 0, slots := 0, locals := 0 })
def mJ0_checkIndex_df160 : mT := (RJ0, yJ0_checkIndex_df160, cJ0_checkIndex_df160, 2, none, { frames := 1, cells := 0, slots := 0, locals := 22 })
def mJ1_charAt_3b067 : mT := (RJ1, yJ1_charAt_3b067, cJ1_charAt_3b067, 2, (some .char), { frames := 2, cells := 0, slots := 0, locals := 43 })
def mJ2_getChar_3b067 : mT := (RJ2, yJ2_getChar_3b067, cJ2_getChar_3b067, 2, (some .char), { frames := 1, cells := 0, slots := 0, locals := 20 })
def mJ2_length_9d52b : mT := (RJ2, yJ2_length_9d52b, cJ2_length_9d52b, 1, (some .int), { frames := 0, cells := 0, slots := 0, locals := 0 })
def mJ2_charAt_3b067 : mT := (RJ2, yJ2_charAt_3b067, cJ2_charAt_3b067, 2, (some .char), { frames := 3, cells := 0, slots := 0, locals := 64 })
def mJ2_checkIndex_2214a : mT := (RJ2, yJ2_checkIndex_2214a, cJ2_checkIndex_2214a, 2, none, { frames := 2, cells := 0, slots := 0, locals := 43 })
def mJ3_checkIndex_8e157 : mT := (RJ3, yJ3_checkIndex_8e157, cJ3_checkIndex_8e157, 3, (some .int), { frames := 0, cells := 0, slots := 0, locals := 0 })
def mL_law : mT := (RL, yL_law, cL_law, 4, (some .boolean), { frames := 13, cells := 101, slots := 11083, locals := 478 })
theorem aW_all {ws : List Cond} (h : (ws.all fun w => decide (w ∈ lw_tbl) && goodWord w) = true) : ∀ w ∈ ws, w ∈ aW := by
  intro w hw
  have h1 := List.all_eq_true.mp h w hw
  simp only [Bool.and_eq_true, decide_eq_true_eq] at h1
  exact aW_of h1.1 h1.2
theorem aW_1 {w : Cond} (h : (decide (w ∈ lw_tbl) && goodWord w) = true) : w ∈ aW := aW_all (ws := [w]) (by simpa using h) w List.mem_cons_self
theorem okX0 : cOk 0 RX0 TX0 3 tyX0 := ⟨rfl, aW_all (by decide +kernel), tyX0_ok, nmX0, aW_1 (by decide +kernel), aW_1 (by decide +kernel), rfl, by decide +kernel⟩
theorem tokX0 : ∀ k, k < 3 → tyOk (tyX0 k) = true := by decide +kernel
theorem okX1 : cOk 1 RX1 TX1 8 tyX1 := ⟨rfl, aW_all (by decide +kernel), tyX1_ok, nmX1, aW_1 (by decide +kernel), aW_1 (by decide +kernel), rfl, by decide +kernel⟩
theorem tokX1 : ∀ k, k < 8 → tyOk (tyX1 k) = true := by decide +kernel
theorem okX2 : cOk 2 RX2 TX2 5 tyX2 := ⟨rfl, aW_all (by decide +kernel), tyX2_ok, nmX2, aW_1 (by decide +kernel), aW_1 (by decide +kernel), rfl, by decide +kernel⟩
theorem tokX2 : ∀ k, k < 5 → tyOk (tyX2 k) = true := by decide +kernel
theorem okX3 : cOk 3 RX3 TX3 5 tyX3 := ⟨rfl, aW_all (by decide +kernel), tyX3_ok, nmX3, aW_1 (by decide +kernel), aW_1 (by decide +kernel), rfl, by decide +kernel⟩
theorem tokX3 : ∀ k, k < 5 → tyOk (tyX3 k) = true := by decide +kernel
theorem okX4 : cOk 4 RX4 TX4 2 tyX4 := ⟨rfl, aW_all (by decide +kernel), tyX4_ok, nmX4, aW_1 (by decide +kernel), aW_1 (by decide +kernel), rfl, by decide +kernel⟩
theorem tokX4 : ∀ k, k < 2 → tyOk (tyX4 k) = true := by decide +kernel
theorem okX5 : cOk 5 RX5 TX5 5 tyX5 := ⟨rfl, aW_all (by decide +kernel), tyX5_ok, nmX5, aW_1 (by decide +kernel), aW_1 (by decide +kernel), rfl, by decide +kernel⟩
theorem tokX5 : ∀ k, k < 5 → tyOk (tyX5 k) = true := by decide +kernel
theorem okX6 : cOk 6 RX6 TX6 4 tyX6 := ⟨rfl, aW_all (by decide +kernel), tyX6_ok, nmX6, aW_1 (by decide +kernel), aW_1 (by decide +kernel), rfl, by decide +kernel⟩
theorem tokX6 : ∀ k, k < 4 → tyOk (tyX6 k) = true := by decide +kernel
theorem okX7 : cOk 7 RX7 TX7 6 tyX7 := ⟨rfl, aW_all (by decide +kernel), tyX7_ok, nmX7, aW_1 (by decide +kernel), aW_1 (by decide +kernel), rfl, by decide +kernel⟩
theorem tokX7 : ∀ k, k < 6 → tyOk (tyX7 k) = true := by decide +kernel
theorem okX8 : cOk 8 RX8 TX8 4 tyX8 := ⟨rfl, aW_all (by decide +kernel), tyX8_ok, nmX8, aW_1 (by decide +kernel), aW_1 (by decide +kernel), rfl, by decide +kernel⟩
theorem tokX8 : ∀ k, k < 4 → tyOk (tyX8 k) = true := by decide +kernel
theorem okX9 : cOk 9 RX9 TX9 10 tyX9 := ⟨rfl, aW_all (by decide +kernel), tyX9_ok, nmX9, aW_1 (by decide +kernel), aW_1 (by decide +kernel), rfl, by decide +kernel⟩
theorem tokX9 : ∀ k, k < 10 → tyOk (tyX9 k) = true := by decide +kernel
theorem okX10 : cOk 10 RX10 TX10 18 tyX10 := ⟨rfl, aW_all (by decide +kernel), tyX10_ok, nmX10, aW_1 (by decide +kernel), aW_1 (by decide +kernel), rfl, by decide +kernel⟩
theorem tokX10 : ∀ k, k < 18 → tyOk (tyX10 k) = true := by decide +kernel
theorem okX11 : cOk 11 RX11 TX11 60 tyX11 := ⟨rfl, aW_all (by decide +kernel), tyX11_ok, nmX11, aW_1 (by decide +kernel), aW_1 (by decide +kernel), rfl, by decide +kernel⟩
theorem tokX11 : ∀ k, k < 60 → tyOk (tyX11 k) = true := by decide +kernel
end
section
theorem tW1 {w : Cond} (p : Nat) (h : tables_1_1[p]? = some w) (g : goodWord w = true) : w ∈ aW := aW_of (List.mem_append_right _ (by unfold tables_1; exact List.mem_append_left _ (List.mem_of_getElem? h))) g
theorem tW2 {w : Cond} (p : Nat) (h : tables_1_2[p]? = some w) (g : goodWord w = true) : w ∈ aW := aW_of (List.mem_append_right _ (by unfold tables_1; exact List.mem_append_right _ (List.mem_append_left _ (List.mem_of_getElem? h)))) g
theorem tW3 {w : Cond} (p : Nat) (h : tables_1_3[p]? = some w) (g : goodWord w = true) : w ∈ aW := aW_of (List.mem_append_right _ (by unfold tables_1; exact List.mem_append_right _ (List.mem_append_right _ (List.mem_append_left _ (List.mem_of_getElem? h))))) g
theorem tW4 {w : Cond} (p : Nat) (h : tables_1_4[p]? = some w) (g : goodWord w = true) : w ∈ aW := aW_of (List.mem_append_right _ (by unfold tables_1; exact List.mem_append_right _ (List.mem_append_right _ (List.mem_append_right _ (List.mem_append_left _ (List.mem_of_getElem? h)))))) g
theorem tW5 {w : Cond} (p : Nat) (h : tables_1_5[p]? = some w) (g : goodWord w = true) : w ∈ aW := aW_of (List.mem_append_right _ (by unfold tables_1; exact List.mem_append_right _ (List.mem_append_right _ (List.mem_append_right _ (List.mem_append_right _ (List.mem_append_left _ (List.mem_of_getElem? h))))))) g
theorem tW6 {w : Cond} (p : Nat) (h : tables_1_6[p]? = some w) (g : goodWord w = true) : w ∈ aW := aW_of (List.mem_append_right _ (by unfold tables_1; exact List.mem_append_right _ (List.mem_append_right _ (List.mem_append_right _ (List.mem_append_right _ (List.mem_append_right _ (List.mem_append_left _ (List.mem_of_getElem? h)))))))) g
theorem tW7 {w : Cond} (p : Nat) (h : tables_1_7[p]? = some w) (g : goodWord w = true) : w ∈ aW := aW_of (List.mem_append_right _ (by unfold tables_1; exact List.mem_append_right _ (List.mem_append_right _ (List.mem_append_right _ (List.mem_append_right _ (List.mem_append_right _ (List.mem_append_right _ ((List.mem_of_getElem? h))))))))) g
theorem sW {w : Cond} (p : Nat) (h : (k2_sels lw_privs)[p]? = some w) (g : goodWord w = true) : w ∈ aW := aW_of (List.mem_append_left _ (List.mem_of_getElem? h)) g
/-- a field that is only read from another class -/
def gLk (own : String) (i ci k : Nat) : Prop := ∃ C T N ty, cOk ci C T N ty ∧ k < N ∧ Cond.fieldLink own i C (T k).2.1 (T k).2.2.1 ∈ aW
theorem fLk.g {own : String} {i ci k : Nat} {ty : FieldType} {fin : Bool} (h : fLk own i ci k ty fin) : gLk own i ci k := by
  obtain ⟨C, T, N, ty', h1, h2, h3, -⟩ := h
  exact ⟨C, T, N, ty', h1, h2, h3⟩
theorem gLk.V {G : gT} {M : mT} {Q : Option Value → wT → Prop} {kc ks pc q : Nat} {lc : List (Option Value)} {st : List Value} {w : wT} {o ci k i : Nat} {f : Nat → Value} (hL : gLk (mOwn M) i ci k) (ho : o < w.1) (hw : w.2 o = .inr (ci, f)) (d : dc M pc (.getfield i) 3 q) (kk : V G M Q kc ks q lc (f k :: st) w) : V G M Q kc ks pc lc (.ref o :: st) w := by
  obtain ⟨d, rfl⟩ := d
  obtain ⟨C, T, N, ty', ⟨h1, h2, h3, h4, h5, h6, h7, h8⟩, h9, h10⟩ := hL
  intro p l e s m args below meth c H locs ls Cc hP hS hl
  have he : (wls G w)[o]? = some (gad G o, .inr (ci, (List.range N).map (fun k => gre G (f k)))) := by rw [wls_get ho, hw, ← h7]; rfl
  exact va_get (C := C) (T := T) (N := N) Cc.1 Cc.2.1 Cc.2.2.2.2.2.1 h2 Cc.2.2.2.2.1 Cc.2.2.2.2.2.2.2.2.1 hP.1 o he h1 k h9 (Cc.2.2.2.2.2.1 _ h10) (fun x hx => by rw [h8 k h9] at hx; exact hx) (nfs_get h9) d (kk p l e s m args below meth c H locs ls Cc hP hS hl)
set_option maxRecDepth 100000 in
theorem f_X10_10 : fLk RX10 10 10 0 (.object "WhipCrack$Setup") true := ⟨RX10, TX10, 18, tyX10, okX10, by decide, (tW2 66 rfl rfl), rfl, rfl, fun _ => rfl⟩
set_option maxRecDepth 100000 in
theorem f_X10_16 : fLk RX10 16 10 1 (.object "WhipCrack$Setup") true := ⟨RX10, TX10, 18, tyX10, okX10, by decide, (tW2 67 rfl rfl), rfl, rfl, fun _ => rfl⟩
set_option maxRecDepth 100000 in
theorem f_X10_19 : fLk RX10 19 10 2 (.object "WhipCrack$Setup") true := ⟨RX10, TX10, 18, tyX10, okX10, by decide, (tW2 68 rfl rfl), rfl, rfl, fun _ => rfl⟩
set_option maxRecDepth 100000 in
theorem f_X10_25 : fLk RX10 25 10 3 (.object "WhipCrack$Text") true := ⟨RX10, TX10, 18, tyX10, okX10, by decide, (tW2 69 rfl rfl), rfl, rfl, fun _ => rfl⟩
set_option maxRecDepth 100000 in
theorem f_X10_32 : fLk RX10 32 10 4 (.object "WhipCrack$PlaitReader") true := ⟨RX10, TX10, 18, tyX10, okX10, by decide, (tW2 70 rfl rfl), rfl, rfl, fun _ => rfl⟩
set_option maxRecDepth 100000 in
theorem f_X10_39 : fLk RX10 39 10 5 (.object "WhipCrack$WayReader") true := ⟨RX10, TX10, 18, tyX10, okX10, by decide, (tW2 71 rfl rfl), rfl, rfl, fun _ => rfl⟩
set_option maxRecDepth 100000 in
theorem f_X10_46 : fLk RX10 46 10 6 (.object "WhipCrack$Flight") true := ⟨RX10, TX10, 18, tyX10, okX10, by decide, (tW2 72 rfl rfl), rfl, rfl, fun _ => rfl⟩
set_option maxRecDepth 100000 in
theorem f_X10_50 : fLk RX10 50 10 7 (.object "WhipCrack$Flight") true := ⟨RX10, TX10, 18, tyX10, okX10, by decide, (tW2 73 rfl rfl), rfl, rfl, fun _ => rfl⟩
set_option maxRecDepth 100000 in
theorem f_X10_56 : fLk RX10 56 10 8 (.object "WhipCrack$Search") true := ⟨RX10, TX10, 18, tyX10, okX10, by decide, (tW2 74 rfl rfl), rfl, rfl, fun _ => rfl⟩
set_option maxRecDepth 100000 in
theorem f_X10_63 : fLk RX10 63 10 9 (.object "WhipCrack$Hides") true := ⟨RX10, TX10, 18, tyX10, okX10, by decide, (tW2 75 rfl rfl), rfl, rfl, fun _ => rfl⟩
set_option maxRecDepth 100000 in
theorem f_X10_70 : fLk RX10 70 10 10 (.object "WhipCrack$Film") true := ⟨RX10, TX10, 18, tyX10, okX10, by decide, (tW2 76 rfl rfl), rfl, rfl, fun _ => rfl⟩
set_option maxRecDepth 100000 in
theorem f_X10_74 : fLk RX10 74 10 11 .int false := ⟨RX10, TX10, 18, tyX10, okX10, by decide, (tW2 77 rfl rfl), rfl, rfl, fun _ => rfl⟩
set_option maxRecDepth 100000 in
theorem f_X10_78 : fLk RX10 78 10 12 .int false := ⟨RX10, TX10, 18, tyX10, okX10, by decide, (tW2 78 rfl rfl), rfl, rfl, fun _ => rfl⟩
set_option maxRecDepth 100000 in
theorem f_X10_81 : fLk RX10 81 10 13 .int false := ⟨RX10, TX10, 18, tyX10, okX10, by decide, (tW2 79 rfl rfl), rfl, rfl, fun _ => rfl⟩
set_option maxRecDepth 100000 in
theorem f_X10_84 : fLk RX10 84 10 14 .int false := ⟨RX10, TX10, 18, tyX10, okX10, by decide, (tW2 80 rfl rfl), rfl, rfl, fun _ => rfl⟩
set_option maxRecDepth 100000 in
theorem f_X10_87 : fLk RX10 87 10 15 .int false := ⟨RX10, TX10, 18, tyX10, okX10, by decide, (tW2 81 rfl rfl), rfl, rfl, fun _ => rfl⟩
set_option maxRecDepth 100000 in
theorem f_X10_90 : fLk RX10 90 10 16 .int false := ⟨RX10, TX10, 18, tyX10, okX10, by decide, (tW2 82 rfl rfl), rfl, rfl, fun _ => rfl⟩
set_option maxRecDepth 100000 in
theorem f_X10_93 : fLk RX10 93 10 17 .boolean false := ⟨RX10, TX10, 18, tyX10, okX10, by decide, (tW2 83 rfl rfl), rfl, rfl, fun _ => rfl⟩
set_option maxRecDepth 100000 in
theorem f_X10_97 : fLk RX10 97 7 1 .int false := ⟨RX7, TX7, 6, tyX7, okX7, by decide, (tW1 124 rfl rfl), rfl, rfl, fun h => by cases h⟩
set_option maxRecDepth 100000 in
theorem f_X10_112 : gLk RX10 112 6 0 := ⟨RX6, TX6, 4, tyX6, okX6, by decide, (tW1 98 rfl rfl)⟩
set_option maxRecDepth 100000 in
theorem f_X10_116 : gLk RX10 116 4 0 := ⟨RX4, TX4, 2, tyX4, okX4, by decide, (tW1 158 rfl rfl)⟩
set_option maxRecDepth 100000 in
theorem f_X10_126 : fLk RX10 126 3 0 .int false := ⟨RX3, TX3, 5, tyX3, okX3, by decide, (tW1 45 rfl rfl), rfl, rfl, fun h => by cases h⟩
set_option maxRecDepth 100000 in
theorem f_X10_130 : gLk RX10 130 6 1 := ⟨RX6, TX6, 4, tyX6, okX6, by decide, (tW1 101 rfl rfl)⟩
set_option maxRecDepth 100000 in
theorem f_X10_138 : fLk RX10 138 8 0 .int false := ⟨RX8, TX8, 4, tyX8, okX8, by decide, (tW1 79 rfl rfl), rfl, rfl, fun h => by cases h⟩
set_option maxRecDepth 100000 in
theorem f_X10_143 : gLk RX10 143 3 2 := ⟨RX3, TX3, 5, tyX3, okX3, by decide, (tW1 53 rfl rfl)⟩
set_option maxRecDepth 100000 in
theorem f_X10_147 : gLk RX10 147 3 3 := ⟨RX3, TX3, 5, tyX3, okX3, by decide, (tW1 55 rfl rfl)⟩
set_option maxRecDepth 100000 in
theorem f_X10_157 : gLk RX10 157 3 4 := ⟨RX3, TX3, 5, tyX3, okX3, by decide, (tW1 57 rfl rfl)⟩
set_option maxRecDepth 100000 in
theorem z_X10_160 : Cond.fieldLink RX10 160 RX10 "LAW_LEAST" "[I" ∈ aW := (tW3 121 rfl rfl)
set_option maxRecDepth 100000 in
theorem z_X10_163 : Cond.fieldLink RX10 163 RX10 "LAW_MOST" "[I" ∈ aW := (tW3 123 rfl rfl)
set_option maxRecDepth 100000 in
theorem f_X10_166 : gLk RX10 166 6 2 := ⟨RX6, TX6, 4, tyX6, okX6, by decide, (tW1 104 rfl rfl)⟩
set_option maxRecDepth 100000 in
theorem f_X10_173 : fLk RX10 173 3 1 .int false := ⟨RX3, TX3, 5, tyX3, okX3, by decide, (tW1 49 rfl rfl), rfl, rfl, fun h => by cases h⟩
set_option maxRecDepth 100000 in
theorem f_X10_176 : fLk RX10 176 8 1 .int false := ⟨RX8, TX8, 4, tyX8, okX8, by decide, (tW1 82 rfl rfl), rfl, rfl, fun h => by cases h⟩
set_option maxRecDepth 100000 in
theorem f_X10_182 : fLk RX10 182 2 0 .int false := ⟨RX2, TX2, 5, tyX2, okX2, by decide, (tW2 32 rfl rfl), rfl, rfl, fun h => by cases h⟩
set_option maxRecDepth 100000 in
theorem f_X10_185 : fLk RX10 185 2 1 .int false := ⟨RX2, TX2, 5, tyX2, okX2, by decide, (tW2 34 rfl rfl), rfl, rfl, fun h => by cases h⟩
set_option maxRecDepth 100000 in
theorem f_X10_188 : fLk RX10 188 0 0 .int false := ⟨RX0, TX0, 3, tyX0, okX0, by decide, (tW2 56 rfl rfl), rfl, rfl, fun h => by cases h⟩
set_option maxRecDepth 100000 in
theorem f_X10_259 : fLk RX10 259 5 0 .int false := ⟨RX5, TX5, 5, tyX5, okX5, by decide, (tW2 7 rfl rfl), rfl, rfl, fun h => by cases h⟩
set_option maxRecDepth 100000 in
theorem f_X10_266 : fLk RX10 266 5 1 .int false := ⟨RX5, TX5, 5, tyX5, okX5, by decide, (tW2 9 rfl rfl), rfl, rfl, fun h => by cases h⟩
set_option maxRecDepth 100000 in
theorem f_X10_269 : gLk RX10 269 5 2 := ⟨RX5, TX5, 5, tyX5, okX5, by decide, (tW2 11 rfl rfl)⟩
set_option maxRecDepth 100000 in
theorem f_X10_276 : fLk RX10 276 1 0 .int false := ⟨RX1, TX1, 8, tyX1, okX1, by decide, (tW1 210 rfl rfl), rfl, rfl, fun h => by cases h⟩
set_option maxRecDepth 100000 in
theorem f_X10_286 : fLk RX10 286 1 1 .int false := ⟨RX1, TX1, 8, tyX1, okX1, by decide, (tW1 213 rfl rfl), rfl, rfl, fun h => by cases h⟩
set_option maxRecDepth 100000 in
theorem f_X10_315 : fLk RX10 315 6 3 .boolean false := ⟨RX6, TX6, 4, tyX6, okX6, by decide, (tW1 106 rfl rfl), rfl, rfl, fun h => by cases h⟩
set_option maxRecDepth 100000 in
theorem f_X10_318 : fLk RX10 318 7 5 .int false := ⟨RX7, TX7, 6, tyX7, okX7, by decide, (tW1 135 rfl rfl), rfl, rfl, fun h => by cases h⟩
set_option maxRecDepth 100000 in
theorem f_X10_319 : fLk RX10 319 7 4 .int false := ⟨RX7, TX7, 6, tyX7, okX7, by decide, (tW1 133 rfl rfl), rfl, rfl, fun h => by cases h⟩
set_option maxRecDepth 100000 in
theorem f_X10_325 : fLk RX10 325 1 2 .int false := ⟨RX1, TX1, 8, tyX1, okX1, by decide, (tW1 215 rfl rfl), rfl, rfl, fun h => by cases h⟩
set_option maxRecDepth 100000 in
theorem z_X10_340 : Cond.fieldLink RX10 340 RX10 "WEARS" "[I" ∈ aW := (tW4 194 rfl rfl)
set_option maxRecDepth 100000 in
theorem f_X0_9 : fLk RX0 9 0 0 .int false := ⟨RX0, TX0, 3, tyX0, okX0, by decide, (tW2 55 rfl rfl), rfl, rfl, fun _ => rfl⟩
set_option maxRecDepth 100000 in
theorem f_X0_15 : fLk RX0 15 0 1 (.array .int) true := ⟨RX0, TX0, 3, tyX0, okX0, by decide, (tW2 57 rfl rfl), rfl, rfl, fun _ => rfl⟩
set_option maxRecDepth 100000 in
theorem f_X0_19 : fLk RX0 19 0 2 (.array .int) true := ⟨RX0, TX0, 3, tyX0, okX0, by decide, (tW2 58 rfl rfl), rfl, rfl, fun _ => rfl⟩
set_option maxRecDepth 100000 in
theorem f_X0_22 : fLk RX0 22 1 1 .int false := ⟨RX1, TX1, 8, tyX1, okX1, by decide, (tW1 212 rfl rfl), rfl, rfl, fun h => by cases h⟩
set_option maxRecDepth 100000 in
theorem f_X0_33 : fLk RX0 33 1 0 .int false := ⟨RX1, TX1, 8, tyX1, okX1, by decide, (tW1 209 rfl rfl), rfl, rfl, fun h => by cases h⟩
set_option maxRecDepth 100000 in
theorem f_X1_9 : fLk RX1 9 1 0 .int false := ⟨RX1, TX1, 8, tyX1, okX1, by decide, (tW1 208 rfl rfl), rfl, rfl, fun _ => rfl⟩
set_option maxRecDepth 100000 in
theorem f_X1_15 : fLk RX1 15 1 1 .int false := ⟨RX1, TX1, 8, tyX1, okX1, by decide, (tW1 211 rfl rfl), rfl, rfl, fun _ => rfl⟩
set_option maxRecDepth 100000 in
theorem f_X1_18 : fLk RX1 18 1 2 .int false := ⟨RX1, TX1, 8, tyX1, okX1, by decide, (tW1 214 rfl rfl), rfl, rfl, fun _ => rfl⟩
set_option maxRecDepth 100000 in
theorem f_X1_21 : fLk RX1 21 1 3 .int false := ⟨RX1, TX1, 8, tyX1, okX1, by decide, (tW1 216 rfl rfl), rfl, rfl, fun _ => rfl⟩
set_option maxRecDepth 100000 in
theorem f_X1_24 : fLk RX1 24 1 4 (.array .int) true := ⟨RX1, TX1, 8, tyX1, okX1, by decide, (tW1 217 rfl rfl), rfl, rfl, fun _ => rfl⟩
set_option maxRecDepth 100000 in
theorem f_X1_28 : fLk RX1 28 1 5 (.array .int) true := ⟨RX1, TX1, 8, tyX1, okX1, by decide, (tW1 218 rfl rfl), rfl, rfl, fun _ => rfl⟩
set_option maxRecDepth 100000 in
theorem f_X1_31 : fLk RX1 31 1 6 (.array .int) true := ⟨RX1, TX1, 8, tyX1, okX1, by decide, (tW1 219 rfl rfl), rfl, rfl, fun _ => rfl⟩
set_option maxRecDepth 100000 in
theorem f_X1_34 : fLk RX1 34 1 7 (.array .int) true := ⟨RX1, TX1, 8, tyX1, okX1, by decide, (tW1 220 rfl rfl), rfl, rfl, fun _ => rfl⟩
set_option maxRecDepth 100000 in
theorem f_X1_37 : fLk RX1 37 3 0 .int false := ⟨RX3, TX3, 5, tyX3, okX3, by decide, (tW1 42 rfl rfl), rfl, rfl, fun h => by cases h⟩
set_option maxRecDepth 100000 in
theorem f_X1_42 : fLk RX1 42 8 0 .int false := ⟨RX8, TX8, 4, tyX8, okX8, by decide, (tW1 77 rfl rfl), rfl, rfl, fun h => by cases h⟩
set_option maxRecDepth 100000 in
theorem f_X1_45 : fLk RX1 45 3 1 .int false := ⟨RX3, TX3, 5, tyX3, okX3, by decide, (tW1 48 rfl rfl), rfl, rfl, fun h => by cases h⟩
set_option maxRecDepth 100000 in
theorem f_X1_56 : gLk RX1 56 8 2 := ⟨RX8, TX8, 4, tyX8, okX8, by decide, (tW1 84 rfl rfl)⟩
set_option maxRecDepth 100000 in
theorem f_X1_57 : gLk RX1 57 8 3 := ⟨RX8, TX8, 4, tyX8, okX8, by decide, (tW1 86 rfl rfl)⟩
set_option maxRecDepth 100000 in
theorem f_X2_9 : fLk RX2 9 2 0 .int false := ⟨RX2, TX2, 5, tyX2, okX2, by decide, (tW2 31 rfl rfl), rfl, rfl, fun _ => rfl⟩
set_option maxRecDepth 100000 in
theorem f_X2_15 : fLk RX2 15 2 1 .int false := ⟨RX2, TX2, 5, tyX2, okX2, by decide, (tW2 33 rfl rfl), rfl, rfl, fun _ => rfl⟩
set_option maxRecDepth 100000 in
theorem f_X2_18 : fLk RX2 18 2 2 (.array .int) true := ⟨RX2, TX2, 5, tyX2, okX2, by decide, (tW2 35 rfl rfl), rfl, rfl, fun _ => rfl⟩
set_option maxRecDepth 100000 in
theorem f_X2_22 : fLk RX2 22 2 3 (.array .int) true := ⟨RX2, TX2, 5, tyX2, okX2, by decide, (tW2 36 rfl rfl), rfl, rfl, fun _ => rfl⟩
set_option maxRecDepth 100000 in
theorem f_X2_25 : fLk RX2 25 2 4 (.array .int) true := ⟨RX2, TX2, 5, tyX2, okX2, by decide, (tW2 37 rfl rfl), rfl, rfl, fun _ => rfl⟩
set_option maxRecDepth 100000 in
theorem f_X3_9 : fLk RX3 9 3 0 .int false := ⟨RX3, TX3, 5, tyX3, okX3, by decide, (tW1 41 rfl rfl), rfl, rfl, fun _ => rfl⟩
set_option maxRecDepth 100000 in
theorem f_X3_15 : fLk RX3 15 3 1 .int false := ⟨RX3, TX3, 5, tyX3, okX3, by decide, (tW1 46 rfl rfl), rfl, rfl, fun _ => rfl⟩
set_option maxRecDepth 100000 in
theorem f_X3_18 : fLk RX3 18 3 2 (.array .int) true := ⟨RX3, TX3, 5, tyX3, okX3, by decide, (tW1 50 rfl rfl), rfl, rfl, fun _ => rfl⟩
set_option maxRecDepth 100000 in
theorem f_X3_22 : fLk RX3 22 3 3 (.array .int) true := ⟨RX3, TX3, 5, tyX3, okX3, by decide, (tW1 54 rfl rfl), rfl, rfl, fun _ => rfl⟩
set_option maxRecDepth 100000 in
theorem f_X3_25 : fLk RX3 25 3 4 (.array .int) true := ⟨RX3, TX3, 5, tyX3, okX3, by decide, (tW1 56 rfl rfl), rfl, rfl, fun _ => rfl⟩
set_option maxRecDepth 100000 in
theorem z_X3_34 : Cond.fieldLinkNest RX3 34 RX10 "HEFT" "[I" RX10 ∈ nW := by decide +kernel
set_option maxRecDepth 100000 in
theorem z_X3_37 : Cond.fieldLinkNest RX3 37 RX10 "STIFF" "[I" RX10 ∈ nW := by decide +kernel
set_option maxRecDepth 100000 in
theorem f_X4_12 : fLk RX4 12 4 0 (.object "WhipCrack$Plait") true := ⟨RX4, TX4, 2, tyX4, okX4, by decide, (tW1 157 rfl rfl), rfl, rfl, fun _ => rfl⟩
set_option maxRecDepth 100000 in
theorem f_X4_18 : fLk RX4 18 4 1 .boolean false := ⟨RX4, TX4, 2, tyX4, okX4, by decide, (tW1 159 rfl rfl), rfl, rfl, fun _ => rfl⟩
set_option maxRecDepth 100000 in
theorem f_X4_27 : fLk RX4 27 3 0 .int false := ⟨RX3, TX3, 5, tyX3, okX3, by decide, (tW1 43 rfl rfl), rfl, rfl, fun h => by cases h⟩
set_option maxRecDepth 100000 in
theorem f_X4_31 : fLk RX4 31 3 1 .int false := ⟨RX3, TX3, 5, tyX3, okX3, by decide, (tW1 47 rfl rfl), rfl, rfl, fun h => by cases h⟩
set_option maxRecDepth 100000 in
theorem f_X4_46 : fLk RX4 46 7 1 .int false := ⟨RX7, TX7, 6, tyX7, okX7, by decide, (tW1 125 rfl rfl), rfl, rfl, fun h => by cases h⟩
set_option maxRecDepth 100000 in
theorem f_X4_69 : fLk RX4 69 7 2 .int false := ⟨RX7, TX7, 6, tyX7, okX7, by decide, (tW1 128 rfl rfl), rfl, rfl, fun h => by cases h⟩
set_option maxRecDepth 100000 in
theorem f_X4_84 : fLk RX4 84 7 3 .int false := ⟨RX7, TX7, 6, tyX7, okX7, by decide, (tW1 131 rfl rfl), rfl, rfl, fun h => by cases h⟩
set_option maxRecDepth 100000 in
theorem f_X4_89 : gLk RX4 89 3 2 := ⟨RX3, TX3, 5, tyX3, okX3, by decide, (tW1 52 rfl rfl)⟩
set_option maxRecDepth 100000 in
theorem f_X5_9 : fLk RX5 9 5 0 .int false := ⟨RX5, TX5, 5, tyX5, okX5, by decide, (tW2 6 rfl rfl), rfl, rfl, fun _ => rfl⟩
set_option maxRecDepth 100000 in
theorem f_X5_15 : fLk RX5 15 5 1 .int false := ⟨RX5, TX5, 5, tyX5, okX5, by decide, (tW2 8 rfl rfl), rfl, rfl, fun _ => rfl⟩
set_option maxRecDepth 100000 in
theorem f_X5_18 : fLk RX5 18 5 2 (.array .int) true := ⟨RX5, TX5, 5, tyX5, okX5, by decide, (tW2 10 rfl rfl), rfl, rfl, fun _ => rfl⟩
set_option maxRecDepth 100000 in
theorem f_X5_22 : fLk RX5 22 5 3 (.array .int) true := ⟨RX5, TX5, 5, tyX5, okX5, by decide, (tW2 12 rfl rfl), rfl, rfl, fun _ => rfl⟩
set_option maxRecDepth 100000 in
theorem f_X5_28 : fLk RX5 28 5 4 (.object "WhipCrack$Plait") true := ⟨RX5, TX5, 5, tyX5, okX5, by decide, (tW2 13 rfl rfl), rfl, rfl, fun _ => rfl⟩
set_option maxRecDepth 100000 in
theorem f_X5_32 : gLk RX5 32 6 0 := ⟨RX6, TX6, 4, tyX6, okX6, by decide, (tW1 97 rfl rfl)⟩
set_option maxRecDepth 100000 in
theorem f_X5_39 : fLk RX5 39 3 0 .int false := ⟨RX3, TX3, 5, tyX3, okX3, by decide, (tW1 44 rfl rfl), rfl, rfl, fun h => by cases h⟩
set_option maxRecDepth 100000 in
theorem f_X5_49 : gLk RX5 49 6 1 := ⟨RX6, TX6, 4, tyX6, okX6, by decide, (tW1 100 rfl rfl)⟩
set_option maxRecDepth 100000 in
theorem f_X5_53 : gLk RX5 53 6 2 := ⟨RX6, TX6, 4, tyX6, okX6, by decide, (tW1 103 rfl rfl)⟩
set_option maxRecDepth 100000 in
theorem f_X5_73 : gLk RX5 73 3 2 := ⟨RX3, TX3, 5, tyX3, okX3, by decide, (tW1 51 rfl rfl)⟩
set_option maxRecDepth 100000 in
theorem z_X5_76 : Cond.fieldLinkNest RX5 76 RX10 "ROW_STRANDS" "[I" RX10 ∈ nW := by decide +kernel
set_option maxRecDepth 100000 in
theorem f_X6_12 : fLk RX6 12 6 0 (.object "WhipCrack$Plait") true := ⟨RX6, TX6, 4, tyX6, okX6, by decide, (tW1 96 rfl rfl), rfl, rfl, fun _ => rfl⟩
set_option maxRecDepth 100000 in
theorem f_X6_21 : fLk RX6 21 6 1 (.object "WhipCrack$Way") true := ⟨RX6, TX6, 4, tyX6, okX6, by decide, (tW1 99 rfl rfl), rfl, rfl, fun _ => rfl⟩
set_option maxRecDepth 100000 in
theorem f_X6_25 : fLk RX6 25 6 2 (.array .int) true := ⟨RX6, TX6, 4, tyX6, okX6, by decide, (tW1 102 rfl rfl), rfl, rfl, fun _ => rfl⟩
set_option maxRecDepth 100000 in
theorem f_X6_29 : fLk RX6 29 6 3 .boolean false := ⟨RX6, TX6, 4, tyX6, okX6, by decide, (tW1 105 rfl rfl), rfl, rfl, fun _ => rfl⟩
set_option maxRecDepth 100000 in
theorem f_X7_9 : fLk RX7 9 7 0 (.array .int) true := ⟨RX7, TX7, 6, tyX7, okX7, by decide, (tW1 122 rfl rfl), rfl, rfl, fun _ => rfl⟩
set_option maxRecDepth 100000 in
theorem f_X7_15 : fLk RX7 15 7 1 .int false := ⟨RX7, TX7, 6, tyX7, okX7, by decide, (tW1 123 rfl rfl), rfl, rfl, fun _ => rfl⟩
set_option maxRecDepth 100000 in
theorem f_X7_19 : fLk RX7 19 7 2 .int false := ⟨RX7, TX7, 6, tyX7, okX7, by decide, (tW1 127 rfl rfl), rfl, rfl, fun _ => rfl⟩
set_option maxRecDepth 100000 in
theorem f_X7_22 : fLk RX7 22 7 3 .int false := ⟨RX7, TX7, 6, tyX7, okX7, by decide, (tW1 130 rfl rfl), rfl, rfl, fun _ => rfl⟩
set_option maxRecDepth 100000 in
theorem f_X7_25 : fLk RX7 25 7 4 .int false := ⟨RX7, TX7, 6, tyX7, okX7, by decide, (tW1 132 rfl rfl), rfl, rfl, fun _ => rfl⟩
set_option maxRecDepth 100000 in
theorem f_X7_28 : fLk RX7 28 7 5 .int false := ⟨RX7, TX7, 6, tyX7, okX7, by decide, (tW1 134 rfl rfl), rfl, rfl, fun _ => rfl⟩
set_option maxRecDepth 100000 in
theorem f_X8_9 : fLk RX8 9 8 0 .int false := ⟨RX8, TX8, 4, tyX8, okX8, by decide, (tW1 76 rfl rfl), rfl, rfl, fun _ => rfl⟩
set_option maxRecDepth 100000 in
theorem f_X8_15 : fLk RX8 15 8 1 .int false := ⟨RX8, TX8, 4, tyX8, okX8, by decide, (tW1 80 rfl rfl), rfl, rfl, fun _ => rfl⟩
set_option maxRecDepth 100000 in
theorem f_X8_18 : fLk RX8 18 8 2 (.array .int) true := ⟨RX8, TX8, 4, tyX8, okX8, by decide, (tW1 83 rfl rfl), rfl, rfl, fun _ => rfl⟩
set_option maxRecDepth 100000 in
theorem f_X8_22 : fLk RX8 22 8 3 (.array .int) true := ⟨RX8, TX8, 4, tyX8, okX8, by decide, (tW1 85 rfl rfl), rfl, rfl, fun _ => rfl⟩
set_option maxRecDepth 100000 in
theorem f_X9_9 : fLk RX9 9 9 0 (.array .int) true := ⟨RX9, TX9, 10, tyX9, okX9, by decide, (tW1 171 rfl rfl), rfl, rfl, fun _ => rfl⟩
set_option maxRecDepth 100000 in
theorem f_X9_15 : fLk RX9 15 9 1 (.array .int) true := ⟨RX9, TX9, 10, tyX9, okX9, by decide, (tW1 172 rfl rfl), rfl, rfl, fun _ => rfl⟩
set_option maxRecDepth 100000 in
theorem f_X9_18 : fLk RX9 18 9 2 (.array .int) true := ⟨RX9, TX9, 10, tyX9, okX9, by decide, (tW1 173 rfl rfl), rfl, rfl, fun _ => rfl⟩
set_option maxRecDepth 100000 in
theorem f_X9_21 : fLk RX9 21 9 3 .int false := ⟨RX9, TX9, 10, tyX9, okX9, by decide, (tW1 174 rfl rfl), rfl, rfl, fun _ => rfl⟩
set_option maxRecDepth 100000 in
theorem f_X9_25 : fLk RX9 25 9 4 .int false := ⟨RX9, TX9, 10, tyX9, okX9, by decide, (tW1 175 rfl rfl), rfl, rfl, fun _ => rfl⟩
set_option maxRecDepth 100000 in
theorem f_X9_28 : fLk RX9 28 9 5 (.array .int) true := ⟨RX9, TX9, 10, tyX9, okX9, by decide, (tW1 176 rfl rfl), rfl, rfl, fun _ => rfl⟩
set_option maxRecDepth 100000 in
theorem f_X9_31 : fLk RX9 31 9 6 (.array .int) true := ⟨RX9, TX9, 10, tyX9, okX9, by decide, (tW1 177 rfl rfl), rfl, rfl, fun _ => rfl⟩
set_option maxRecDepth 100000 in
theorem f_X9_34 : fLk RX9 34 9 7 (.array .int) true := ⟨RX9, TX9, 10, tyX9, okX9, by decide, (tW1 178 rfl rfl), rfl, rfl, fun _ => rfl⟩
set_option maxRecDepth 100000 in
theorem f_X9_37 : fLk RX9 37 9 8 .int false := ⟨RX9, TX9, 10, tyX9, okX9, by decide, (tW1 179 rfl rfl), rfl, rfl, fun _ => rfl⟩
set_option maxRecDepth 100000 in
theorem f_X9_40 : fLk RX9 40 9 9 .boolean false := ⟨RX9, TX9, 10, tyX9, okX9, by decide, (tW1 180 rfl rfl), rfl, rfl, fun _ => rfl⟩
set_option maxRecDepth 100000 in
theorem f_X9_61 : fLk RX9 61 7 1 .int false := ⟨RX7, TX7, 6, tyX7, okX7, by decide, (tW1 126 rfl rfl), rfl, rfl, fun h => by cases h⟩
set_option maxRecDepth 100000 in
theorem f_X9_68 : fLk RX9 68 8 0 .int false := ⟨RX8, TX8, 4, tyX8, okX8, by decide, (tW1 78 rfl rfl), rfl, rfl, fun h => by cases h⟩
set_option maxRecDepth 100000 in
theorem f_X9_71 : fLk RX9 71 8 1 .int false := ⟨RX8, TX8, 4, tyX8, okX8, by decide, (tW1 81 rfl rfl), rfl, rfl, fun h => by cases h⟩
set_option maxRecDepth 100000 in
theorem f_X9_110 : fLk RX9 110 7 2 .int false := ⟨RX7, TX7, 6, tyX7, okX7, by decide, (tW1 129 rfl rfl), rfl, rfl, fun h => by cases h⟩
set_option maxRecDepth 100000 in
theorem f_X11_7 : fLk RX11 7 11 2 (.array .int) true := ⟨RX11, TX11, 60, tyX11, okX11, by decide, (tW5 59 rfl rfl), rfl, rfl, fun _ => rfl⟩
set_option maxRecDepth 100000 in
theorem f_X11_13 : fLk RX11 13 11 3 (.array .int) true := ⟨RX11, TX11, 60, tyX11, okX11, by decide, (tW5 60 rfl rfl), rfl, rfl, fun _ => rfl⟩
set_option maxRecDepth 100000 in
theorem f_X11_16 : fLk RX11 16 11 4 (.array .int) true := ⟨RX11, TX11, 60, tyX11, okX11, by decide, (tW5 61 rfl rfl), rfl, rfl, fun _ => rfl⟩
set_option maxRecDepth 100000 in
theorem f_X11_19 : fLk RX11 19 11 7 (.array .int) true := ⟨RX11, TX11, 60, tyX11, okX11, by decide, (tW5 64 rfl rfl), rfl, rfl, fun _ => rfl⟩
set_option maxRecDepth 100000 in
theorem f_X11_22 : fLk RX11 22 11 8 (.array .int) true := ⟨RX11, TX11, 60, tyX11, okX11, by decide, (tW5 65 rfl rfl), rfl, rfl, fun _ => rfl⟩
set_option maxRecDepth 100000 in
theorem f_X11_25 : fLk RX11 25 11 9 (.array .int) true := ⟨RX11, TX11, 60, tyX11, okX11, by decide, (tW5 66 rfl rfl), rfl, rfl, fun _ => rfl⟩
set_option maxRecDepth 100000 in
theorem f_X11_28 : fLk RX11 28 11 15 (.array .int) true := ⟨RX11, TX11, 60, tyX11, okX11, by decide, (tW5 72 rfl rfl), rfl, rfl, fun _ => rfl⟩
set_option maxRecDepth 100000 in
theorem f_X11_31 : fLk RX11 31 11 21 .int false := ⟨RX11, TX11, 60, tyX11, okX11, by decide, (tW5 78 rfl rfl), rfl, rfl, fun _ => rfl⟩
set_option maxRecDepth 100000 in
theorem f_X11_35 : fLk RX11 35 11 25 (.array .int) true := ⟨RX11, TX11, 60, tyX11, okX11, by decide, (tW5 82 rfl rfl), rfl, rfl, fun _ => rfl⟩
set_option maxRecDepth 100000 in
theorem f_X11_38 : fLk RX11 38 11 26 (.array .int) true := ⟨RX11, TX11, 60, tyX11, okX11, by decide, (tW5 83 rfl rfl), rfl, rfl, fun _ => rfl⟩
set_option maxRecDepth 100000 in
theorem f_X11_41 : fLk RX11 41 11 28 (.array .int) true := ⟨RX11, TX11, 60, tyX11, okX11, by decide, (tW5 85 rfl rfl), rfl, rfl, fun _ => rfl⟩
set_option maxRecDepth 100000 in
theorem f_X11_44 : fLk RX11 44 11 29 (.array .int) true := ⟨RX11, TX11, 60, tyX11, okX11, by decide, (tW5 86 rfl rfl), rfl, rfl, fun _ => rfl⟩
set_option maxRecDepth 100000 in
theorem f_X11_47 : fLk RX11 47 11 30 (.array .int) true := ⟨RX11, TX11, 60, tyX11, okX11, by decide, (tW5 87 rfl rfl), rfl, rfl, fun _ => rfl⟩
set_option maxRecDepth 100000 in
theorem f_X11_50 : fLk RX11 50 11 31 (.array .int) true := ⟨RX11, TX11, 60, tyX11, okX11, by decide, (tW5 88 rfl rfl), rfl, rfl, fun _ => rfl⟩
set_option maxRecDepth 100000 in
theorem f_X11_53 : fLk RX11 53 11 32 (.array .int) true := ⟨RX11, TX11, 60, tyX11, okX11, by decide, (tW5 89 rfl rfl), rfl, rfl, fun _ => rfl⟩
set_option maxRecDepth 100000 in
theorem f_X11_56 : fLk RX11 56 11 33 (.array .int) true := ⟨RX11, TX11, 60, tyX11, okX11, by decide, (tW5 90 rfl rfl), rfl, rfl, fun _ => rfl⟩
set_option maxRecDepth 100000 in
theorem f_X11_59 : fLk RX11 59 11 34 (.array .int) true := ⟨RX11, TX11, 60, tyX11, okX11, by decide, (tW5 91 rfl rfl), rfl, rfl, fun _ => rfl⟩
set_option maxRecDepth 100000 in
theorem f_X11_62 : fLk RX11 62 11 35 (.array .int) true := ⟨RX11, TX11, 60, tyX11, okX11, by decide, (tW5 92 rfl rfl), rfl, rfl, fun _ => rfl⟩
set_option maxRecDepth 100000 in
theorem f_X11_65 : fLk RX11 65 11 38 (.array .long) true := ⟨RX11, TX11, 60, tyX11, okX11, by decide, (tW5 95 rfl rfl), rfl, rfl, fun _ => rfl⟩
set_option maxRecDepth 100000 in
theorem f_X11_69 : fLk RX11 69 11 39 (.array .long) true := ⟨RX11, TX11, 60, tyX11, okX11, by decide, (tW5 96 rfl rfl), rfl, rfl, fun _ => rfl⟩
set_option maxRecDepth 100000 in
theorem f_X11_72 : fLk RX11 72 11 40 .int false := ⟨RX11, TX11, 60, tyX11, okX11, by decide, (tW5 97 rfl rfl), rfl, rfl, fun _ => rfl⟩
set_option maxRecDepth 100000 in
theorem f_X11_75 : fLk RX11 75 11 42 (.array .int) true := ⟨RX11, TX11, 60, tyX11, okX11, by decide, (tW5 99 rfl rfl), rfl, rfl, fun _ => rfl⟩
set_option maxRecDepth 100000 in
theorem f_X11_78 : fLk RX11 78 11 43 (.array .int) true := ⟨RX11, TX11, 60, tyX11, okX11, by decide, (tW5 100 rfl rfl), rfl, rfl, fun _ => rfl⟩
set_option maxRecDepth 100000 in
theorem f_X11_81 : fLk RX11 81 11 44 (.array .int) true := ⟨RX11, TX11, 60, tyX11, okX11, by decide, (tW5 101 rfl rfl), rfl, rfl, fun _ => rfl⟩
set_option maxRecDepth 100000 in
theorem f_X11_84 : fLk RX11 84 11 45 (.array .int) true := ⟨RX11, TX11, 60, tyX11, okX11, by decide, (tW5 102 rfl rfl), rfl, rfl, fun _ => rfl⟩
set_option maxRecDepth 100000 in
theorem f_X11_87 : fLk RX11 87 11 46 (.array .int) true := ⟨RX11, TX11, 60, tyX11, okX11, by decide, (tW5 103 rfl rfl), rfl, rfl, fun _ => rfl⟩
set_option maxRecDepth 100000 in
theorem f_X11_90 : fLk RX11 90 11 47 (.array .long) true := ⟨RX11, TX11, 60, tyX11, okX11, by decide, (tW5 104 rfl rfl), rfl, rfl, fun _ => rfl⟩
set_option maxRecDepth 100000 in
theorem f_X11_93 : fLk RX11 93 11 48 (.array .long) true := ⟨RX11, TX11, 60, tyX11, okX11, by decide, (tW5 105 rfl rfl), rfl, rfl, fun _ => rfl⟩
set_option maxRecDepth 100000 in
theorem f_X11_96 : fLk RX11 96 11 51 (.array .int) true := ⟨RX11, TX11, 60, tyX11, okX11, by decide, (tW5 108 rfl rfl), rfl, rfl, fun _ => rfl⟩
set_option maxRecDepth 100000 in
theorem f_X11_99 : fLk RX11 99 11 52 (.array .int) true := ⟨RX11, TX11, 60, tyX11, okX11, by decide, (tW5 109 rfl rfl), rfl, rfl, fun _ => rfl⟩
set_option maxRecDepth 100000 in
theorem f_X11_102 : fLk RX11 102 11 53 (.array .boolean) true := ⟨RX11, TX11, 60, tyX11, okX11, by decide, (tW5 110 rfl rfl), rfl, rfl, fun _ => rfl⟩
set_option maxRecDepth 100000 in
theorem f_X11_106 : fLk RX11 106 11 54 (.array .boolean) true := ⟨RX11, TX11, 60, tyX11, okX11, by decide, (tW5 111 rfl rfl), rfl, rfl, fun _ => rfl⟩
set_option maxRecDepth 100000 in
theorem f_X11_109 : fLk RX11 109 11 56 (.array .int) true := ⟨RX11, TX11, 60, tyX11, okX11, by decide, (tW5 113 rfl rfl), rfl, rfl, fun _ => rfl⟩
set_option maxRecDepth 100000 in
theorem f_X11_112 : fLk RX11 112 11 57 (.array .int) true := ⟨RX11, TX11, 60, tyX11, okX11, by decide, (tW5 114 rfl rfl), rfl, rfl, fun _ => rfl⟩
set_option maxRecDepth 100000 in
theorem f_X11_115 : fLk RX11 115 11 58 (.array .int) true := ⟨RX11, TX11, 60, tyX11, okX11, by decide, (tW5 115 rfl rfl), rfl, rfl, fun _ => rfl⟩
set_option maxRecDepth 100000 in
theorem f_X11_118 : fLk RX11 118 11 59 (.array .boolean) true := ⟨RX11, TX11, 60, tyX11, okX11, by decide, (tW5 116 rfl rfl), rfl, rfl, fun _ => rfl⟩
set_option maxRecDepth 100000 in
theorem f_X11_121 : fLk RX11 121 11 0 .int false := ⟨RX11, TX11, 60, tyX11, okX11, by decide, (tW5 57 rfl rfl), rfl, rfl, fun _ => rfl⟩
set_option maxRecDepth 100000 in
theorem f_X11_124 : fLk RX11 124 11 1 .int false := ⟨RX11, TX11, 60, tyX11, okX11, by decide, (tW5 58 rfl rfl), rfl, rfl, fun _ => rfl⟩
set_option maxRecDepth 100000 in
theorem f_X11_127 : fLk RX11 127 11 5 .int false := ⟨RX11, TX11, 60, tyX11, okX11, by decide, (tW5 62 rfl rfl), rfl, rfl, fun _ => rfl⟩
set_option maxRecDepth 100000 in
theorem f_X11_130 : fLk RX11 130 11 6 .int false := ⟨RX11, TX11, 60, tyX11, okX11, by decide, (tW5 63 rfl rfl), rfl, rfl, fun _ => rfl⟩
set_option maxRecDepth 100000 in
theorem f_X11_133 : fLk RX11 133 11 10 .int false := ⟨RX11, TX11, 60, tyX11, okX11, by decide, (tW5 67 rfl rfl), rfl, rfl, fun _ => rfl⟩
set_option maxRecDepth 100000 in
theorem f_X11_136 : fLk RX11 136 11 12 .int false := ⟨RX11, TX11, 60, tyX11, okX11, by decide, (tW5 69 rfl rfl), rfl, rfl, fun _ => rfl⟩
set_option maxRecDepth 100000 in
theorem f_X11_139 : fLk RX11 139 11 13 .int false := ⟨RX11, TX11, 60, tyX11, okX11, by decide, (tW5 70 rfl rfl), rfl, rfl, fun _ => rfl⟩
set_option maxRecDepth 100000 in
theorem f_X11_156 : fLk RX11 156 11 16 .int false := ⟨RX11, TX11, 60, tyX11, okX11, by decide, (tW5 73 rfl rfl), rfl, rfl, fun _ => rfl⟩
set_option maxRecDepth 100000 in
theorem f_X11_161 : fLk RX11 161 11 17 .int false := ⟨RX11, TX11, 60, tyX11, okX11, by decide, (tW5 74 rfl rfl), rfl, rfl, fun _ => rfl⟩
set_option maxRecDepth 100000 in
theorem f_X11_164 : fLk RX11 164 11 20 .int false := ⟨RX11, TX11, 60, tyX11, okX11, by decide, (tW5 77 rfl rfl), rfl, rfl, fun _ => rfl⟩
set_option maxRecDepth 100000 in
theorem f_X11_171 : fLk RX11 171 11 18 .int false := ⟨RX11, TX11, 60, tyX11, okX11, by decide, (tW5 75 rfl rfl), rfl, rfl, fun _ => rfl⟩
set_option maxRecDepth 100000 in
theorem f_X11_178 : fLk RX11 178 11 19 .int false := ⟨RX11, TX11, 60, tyX11, okX11, by decide, (tW5 76 rfl rfl), rfl, rfl, fun _ => rfl⟩
set_option maxRecDepth 100000 in
theorem f_X11_197 : fLk RX11 197 11 22 .int false := ⟨RX11, TX11, 60, tyX11, okX11, by decide, (tW5 79 rfl rfl), rfl, rfl, fun _ => rfl⟩
set_option maxRecDepth 100000 in
theorem f_X11_210 : fLk RX11 210 11 23 .int false := ⟨RX11, TX11, 60, tyX11, okX11, by decide, (tW5 80 rfl rfl), rfl, rfl, fun _ => rfl⟩
set_option maxRecDepth 100000 in
theorem f_X11_213 : fLk RX11 213 11 24 .boolean false := ⟨RX11, TX11, 60, tyX11, okX11, by decide, (tW5 81 rfl rfl), rfl, rfl, fun _ => rfl⟩
set_option maxRecDepth 100000 in
theorem f_X11_224 : fLk RX11 224 11 27 .int false := ⟨RX11, TX11, 60, tyX11, okX11, by decide, (tW5 84 rfl rfl), rfl, rfl, fun _ => rfl⟩
set_option maxRecDepth 100000 in
theorem f_X11_234 : fLk RX11 234 11 36 .int false := ⟨RX11, TX11, 60, tyX11, okX11, by decide, (tW5 93 rfl rfl), rfl, rfl, fun _ => rfl⟩
set_option maxRecDepth 100000 in
theorem f_X11_237 : fLk RX11 237 11 37 .int false := ⟨RX11, TX11, 60, tyX11, okX11, by decide, (tW5 94 rfl rfl), rfl, rfl, fun _ => rfl⟩
set_option maxRecDepth 100000 in
theorem f_X11_275 : fLk RX11 275 11 49 .int false := ⟨RX11, TX11, 60, tyX11, okX11, by decide, (tW5 106 rfl rfl), rfl, rfl, fun _ => rfl⟩
set_option maxRecDepth 100000 in
theorem f_X11_278 : fLk RX11 278 11 50 .int false := ⟨RX11, TX11, 60, tyX11, okX11, by decide, (tW5 107 rfl rfl), rfl, rfl, fun _ => rfl⟩
set_option maxRecDepth 100000 in
theorem f_X11_281 : fLk RX11 281 11 55 .int false := ⟨RX11, TX11, 60, tyX11, okX11, by decide, (tW5 112 rfl rfl), rfl, rfl, fun _ => rfl⟩
set_option maxRecDepth 100000 in
theorem f_X11_326 : fLk RX11 326 11 41 .int false := ⟨RX11, TX11, 60, tyX11, okX11, by decide, (tW5 98 rfl rfl), rfl, rfl, fun _ => rfl⟩
set_option maxRecDepth 100000 in
theorem f_X11_329 : fLk RX11 329 11 11 .int false := ⟨RX11, TX11, 60, tyX11, okX11, by decide, (tW5 68 rfl rfl), rfl, rfl, fun _ => rfl⟩
set_option maxRecDepth 100000 in
theorem f_X11_343 : fLk RX11 343 11 14 .int false := ⟨RX11, TX11, 60, tyX11, okX11, by decide, (tW5 71 rfl rfl), rfl, rfl, fun _ => rfl⟩
set_option maxRecDepth 100000 in
theorem z_J0_9 : Cond.fieldLink RJ0 9 "java/lang/String" "value" "[B" ∈ aW := (tW7 121 rfl rfl)
set_option maxRecDepth 100000 in
theorem z_J0_15 : Cond.fieldLink RJ0 15 "java/lang/String" "coder" "B" ∈ aW := (tW7 122 rfl rfl)
set_option maxRecDepth 100000 in
theorem z_J0_38 : Cond.fieldLink RJ0 38 "java/lang/String" "COMPACT_STRINGS" "Z" ∈ aW := (tW2 172 rfl rfl)
set_option maxRecDepth 100000 in
theorem z_J0_1053 : Cond.fieldLink RJ0 1053 "jdk/internal/util/Preconditions" "SIOOBE_FORMATTER" "Ljava/util/function/BiFunction;" ∈ aW := (tW2 191 rfl rfl)
set_option maxRecDepth 100000 in
theorem z_J2_44 : Cond.fieldLink RJ2 44 "java/lang/StringUTF16" "$assertionsDisabled" "Z" ∈ aW := (tW2 209 rfl rfl)
set_option maxRecDepth 100000 in
theorem z_J2_59 : Cond.fieldLink RJ2 59 "java/lang/StringUTF16" "HI_BYTE_SHIFT" "I" ∈ aW := (tW2 211 rfl rfl)
set_option maxRecDepth 100000 in
theorem z_J2_63 : Cond.fieldLink RJ2 63 "java/lang/StringUTF16" "LO_BYTE_SHIFT" "I" ∈ aW := (tW2 213 rfl rfl)
set_option maxRecDepth 100000 in
theorem nX0_init : cIn mX0_init 0 := ⟨(tW2 53 rfl rfl), (tW1 11 rfl rfl), by decide +kernel⟩
set_option maxRecDepth 100000 in
theorem nX0_append : cIn mX0_append 2 := ⟨(tW5 13 rfl rfl), (tW1 11 rfl rfl), by decide +kernel⟩
set_option maxRecDepth 100000 in
theorem nX0_distance : cIn mX0_distance 1 := ⟨(tW5 25 rfl rfl), (tW1 11 rfl rfl), by decide +kernel⟩
set_option maxRecDepth 100000 in
theorem nX1_init : cIn mX1_init 0 := ⟨(tW1 206 rfl rfl), (tW1 8 rfl rfl), by decide +kernel⟩
set_option maxRecDepth 100000 in
theorem nX1_fly : cIn mX1_fly 4 := ⟨(tW3 159 rfl rfl), (tW1 8 rfl rfl), by decide +kernel⟩
set_option maxRecDepth 100000 in
theorem nX1_rest : cIn mX1_rest 0 := ⟨(tW3 165 rfl rfl), (tW1 8 rfl rfl), by decide +kernel⟩
set_option maxRecDepth 100000 in
theorem nX1_goOn : cIn mX1_goOn 3 := ⟨(tW3 169 rfl rfl), (tW1 8 rfl rfl), by decide +kernel⟩
set_option maxRecDepth 100000 in
theorem nX1_bend : cIn mX1_bend 1 := ⟨(tW3 188 rfl rfl), (tW1 8 rfl rfl), by decide +kernel⟩
set_option maxRecDepth 100000 in
theorem nX1_pull : cIn mX1_pull 1 := ⟨(tW3 193 rfl rfl), (tW1 8 rfl rfl), by decide +kernel⟩
set_option maxRecDepth 100000 in
theorem nX1_pullBoth : cIn mX1_pullBoth 5 := ⟨(tW3 201 rfl rfl), (tW1 8 rfl rfl), by decide +kernel⟩
set_option maxRecDepth 100000 in
theorem nX1_shorten : cIn mX1_shorten 1 := ⟨(tW3 205 rfl rfl), (tW1 8 rfl rfl), by decide +kernel⟩
set_option maxRecDepth 100000 in
theorem nX1_lengthIfStretched : cIn mX1_lengthIfStretched 2 := ⟨(tW3 197 rfl rfl), (tW1 8 rfl rfl), by decide +kernel⟩
set_option maxRecDepth 100000 in
theorem nX1_xOf : cIn mX1_xOf 2 := ⟨(tW3 209 rfl rfl), (tW1 8 rfl rfl), by decide +kernel⟩
set_option maxRecDepth 100000 in
theorem nX1_yOf : cIn mX1_yOf 2 := ⟨(tW3 213 rfl rfl), (tW1 8 rfl rfl), by decide +kernel⟩
set_option maxRecDepth 100000 in
theorem nX1_moved : cIn mX1_moved 2 := ⟨(tW3 225 rfl rfl), (tW1 8 rfl rfl), by decide +kernel⟩
set_option maxRecDepth 100000 in
theorem nX1_squares : cIn mX1_squares 2 := ⟨(tW3 228 rfl rfl), (tW1 8 rfl rfl), by decide +kernel⟩
set_option maxRecDepth 100000 in
theorem nX1_speedOf : cIn mX1_speedOf 2 := ⟨(tW3 221 rfl rfl), (tW1 8 rfl rfl), by decide +kernel⟩
set_option maxRecDepth 100000 in
theorem nX1_forceOf : cIn mX1_forceOf 2 := ⟨(tW4 1 rfl rfl), (tW1 8 rfl rfl), by decide +kernel⟩
set_option maxRecDepth 100000 in
theorem nX1_forceOfAll : cIn mX1_forceOfAll 1 := ⟨(tW3 237 rfl rfl), (tW1 8 rfl rfl), by decide +kernel⟩
set_option maxRecDepth 100000 in
theorem nX1_pathOf : cIn mX1_pathOf 1 := ⟨(tW4 193 rfl rfl), (tW1 8 rfl rfl), by decide +kernel⟩
set_option maxRecDepth 100000 in
theorem nX1_greatestSpeed : cIn mX1_greatestSpeed 0 := ⟨(tW4 131 rfl rfl), (tW1 8 rfl rfl), by decide +kernel⟩
set_option maxRecDepth 100000 in
theorem nX1_loopOf : cIn mX1_loopOf 1 := ⟨(tW4 10 rfl rfl), (tW1 8 rfl rfl), by decide +kernel⟩
set_option maxRecDepth 100000 in
theorem nX1_hasLoop : cIn mX1_hasLoop 0 := ⟨(tW4 82 rfl rfl), (tW1 8 rfl rfl), by decide +kernel⟩
set_option maxRecDepth 100000 in
theorem nX1_isOverhead : cIn mX1_isOverhead 0 := ⟨(tW4 78 rfl rfl), (tW1 8 rfl rfl), by decide +kernel⟩
set_option maxRecDepth 100000 in
theorem nX1_isFast : cIn mX1_isFast 2 := ⟨(tW4 26 rfl rfl), (tW1 8 rfl rfl), by decide +kernel⟩
set_option maxRecDepth 100000 in
theorem nX1_isCrack : cIn mX1_isCrack 2 := ⟨(tW4 22 rfl rfl), (tW1 8 rfl rfl), by decide +kernel⟩
set_option maxRecDepth 100000 in
theorem nX1_crackCount : cIn mX1_crackCount 0 := ⟨(tW4 18 rfl rfl), (tW1 8 rfl rfl), by decide +kernel⟩
set_option maxRecDepth 100000 in
theorem nX1_findCrack : cIn mX1_findCrack 1 := ⟨(tW4 30 rfl rfl), (tW1 8 rfl rfl), by decide +kernel⟩
set_option maxRecDepth 100000 in
theorem nX1_hasCrack : cIn mX1_hasCrack 1 := ⟨(tW4 70 rfl rfl), (tW1 8 rfl rfl), by decide +kernel⟩
set_option maxRecDepth 100000 in
theorem nX1_firstCrackTick : cIn mX1_firstCrackTick 0 := ⟨(tW4 66 rfl rfl), (tW1 8 rfl rfl), by decide +kernel⟩
set_option maxRecDepth 100000 in
theorem nX1_lastCrackTick : cIn mX1_lastCrackTick 0 := ⟨(tW4 74 rfl rfl), (tW1 8 rfl rfl), by decide +kernel⟩
set_option maxRecDepth 100000 in
theorem nX1_crackOf : cIn mX1_crackOf 2 := ⟨(tW4 44 rfl rfl), (tW1 8 rfl rfl), by decide +kernel⟩
set_option maxRecDepth 100000 in
theorem nX1_loudOf : cIn mX1_loudOf 3 := ⟨(tW4 50 rfl rfl), (tW1 8 rfl rfl), by decide +kernel⟩
set_option maxRecDepth 100000 in
theorem nX1_farOf : cIn mX1_farOf 4 := ⟨(tW4 38 rfl rfl), (tW1 8 rfl rfl), by decide +kernel⟩
set_option maxRecDepth 100000 in
theorem nX1_leastCrackFar : cIn mX1_leastCrackFar 2 := ⟨(tW4 104 rfl rfl), (tW1 8 rfl rfl), by decide +kernel⟩
set_option maxRecDepth 100000 in
theorem nX1_leastFar : cIn mX1_leastFar 2 := ⟨(tW4 160 rfl rfl), (tW1 8 rfl rfl), by decide +kernel⟩
set_option maxRecDepth 100000 in
theorem nX1_nearestTick : cIn mX1_nearestTick 4 := ⟨(tW4 151 rfl rfl), (tW1 8 rfl rfl), by decide +kernel⟩
set_option maxRecDepth 100000 in
theorem nX1_leastFarOfTwo : cIn mX1_leastFarOfTwo 3 := ⟨(tW4 177 rfl rfl), (tW1 8 rfl rfl), by decide +kernel⟩
set_option maxRecDepth 100000 in
theorem nX1_turnsAbout : cIn mX1_turnsAbout 2 := ⟨(tW4 59 rfl rfl), (tW1 8 rfl rfl), by decide +kernel⟩
set_option maxRecDepth 100000 in
theorem nX1_quarterOf : cIn mX1_quarterOf 3 := ⟨(tW4 62 rfl rfl), (tW1 8 rfl rfl), by decide +kernel⟩
set_option maxRecDepth 100000 in
theorem nX2_init : cIn mX2_init 0 := ⟨(tW2 29 rfl rfl), (tW1 10 rfl rfl), by decide +kernel⟩
set_option maxRecDepth 100000 in
theorem nX2_addHide : cIn mX2_addHide 1 := ⟨(tW4 211 rfl rfl), (tW1 10 rfl rfl), by decide +kernel⟩
set_option maxRecDepth 100000 in
theorem nX2_addCut : cIn mX2_addCut 1 := ⟨(tW4 215 rfl rfl), (tW1 10 rfl rfl), by decide +kernel⟩
set_option maxRecDepth 100000 in
theorem nX2_fewest : cIn mX2_fewest 0 := ⟨(tW4 227 rfl rfl), (tW1 10 rfl rfl), by decide +kernel⟩
set_option maxRecDepth 100000 in
theorem nX2_isEnough : cIn mX2_isEnough 1 := ⟨(tW4 237 rfl rfl), (tW1 10 rfl rfl), by decide +kernel⟩
set_option maxRecDepth 100000 in
theorem nX2_keepLeast : cIn mX2_keepLeast 2 := ⟨(tW5 5 rfl rfl), (tW1 10 rfl rfl), by decide +kernel⟩
set_option maxRecDepth 100000 in
theorem nX2_afterCut : cIn mX2_afterCut 3 := ⟨(tW5 1 rfl rfl), (tW1 10 rfl rfl), by decide +kernel⟩
set_option maxRecDepth 100000 in
theorem nX3_init : cIn mX3_init 0 := ⟨(tW1 39 rfl rfl), (tW1 3 rfl rfl), by decide +kernel⟩
set_option maxRecDepth 100000 in
theorem nX3_copyFrom : cIn mX3_copyFrom 1 := ⟨(tW3 27 rfl rfl), (tW1 3 rfl rfl), by decide +kernel⟩
set_option maxRecDepth 100000 in
theorem nX3_addPieces : cIn mX3_addPieces 3 := ⟨(tW3 13 rfl rfl), (tW1 3 rfl rfl), by decide +kernel⟩
set_option maxRecDepth 100000 in
theorem nX3_weightOf : cIn mX3_weightOf 1 := ⟨(tW3 105 rfl rfl), (tW1 3 rfl rfl), by decide +kernel⟩
set_option maxRecDepth 100000 in
theorem nX3_bendsOf : cIn mX3_bendsOf 1 := ⟨(tW3 111 rfl rfl), (tW1 3 rfl rfl), by decide +kernel⟩
set_option maxRecDepth 100000 in
theorem nX3_strandsInAll : cIn mX3_strandsInAll 0 := ⟨(tW3 139 rfl rfl), (tW1 3 rfl rfl), by decide +kernel⟩
set_option maxRecDepth 100000 in
theorem nX3_loseWorn : cIn mX3_loseWorn 1 := ⟨(tW4 199 rfl rfl), (tW1 3 rfl rfl), by decide +kernel⟩
set_option maxRecDepth 100000 in
theorem nX4_init : cIn mX4_init 0 := ⟨(tW1 153 rfl rfl), (tW1 6 rfl rfl), by decide +kernel⟩
set_option maxRecDepth 100000 in
theorem nX4_read : cIn mX4_read 1 := ⟨(tW2 137 rfl rfl), (tW1 6 rfl rfl), by decide +kernel⟩
set_option maxRecDepth 100000 in
theorem nX4_readClause : cIn mX4_readClause 1 := ⟨(tW2 153 rfl rfl), (tW1 6 rfl rfl), by decide +kernel⟩
set_option maxRecDepth 100000 in
theorem nX4_readLength : cIn mX4_readLength 1 := ⟨(tW3 19 rfl rfl), (tW1 6 rfl rfl), by decide +kernel⟩
set_option maxRecDepth 100000 in
theorem nX4_readPieces : cIn mX4_readPieces 1 := ⟨(tW2 218 rfl rfl), (tW1 6 rfl rfl), by decide +kernel⟩
set_option maxRecDepth 100000 in
theorem nX5_init : cIn mX5_init 0 := ⟨(tW2 2 rfl rfl), (tW1 9 rfl rfl), by decide +kernel⟩
set_option maxRecDepth 100000 in
theorem nX5_run : cIn mX5_run 4 := ⟨(tW4 118 rfl rfl), (tW1 9 rfl rfl), by decide +kernel⟩
set_option maxRecDepth 100000 in
theorem nX5_layRow : cIn mX5_layRow 0 := ⟨(tW4 123 rfl rfl), (tW1 9 rfl rfl), by decide +kernel⟩
set_option maxRecDepth 100000 in
theorem nX5_compare : cIn mX5_compare 1 := ⟨(tW4 138 rfl rfl), (tW1 9 rfl rfl), by decide +kernel⟩
set_option maxRecDepth 100000 in
theorem nX5_nextRow : cIn mX5_nextRow 0 := ⟨(tW4 143 rfl rfl), (tW1 9 rfl rfl), by decide +kernel⟩
set_option maxRecDepth 100000 in
theorem nX6_init : cIn mX6_init 0 := ⟨(tW1 33 rfl rfl), (tW1 2 rfl rfl), by decide +kernel⟩
set_option maxRecDepth 100000 in
theorem nX6_copyFrom : cIn mX6_copyFrom 1 := ⟨(tW5 39 rfl rfl), (tW1 2 rfl rfl), by decide +kernel⟩
set_option maxRecDepth 100000 in
theorem nX7_init : cIn mX7_init 0 := ⟨(tW1 120 rfl rfl), (tW1 5 rfl rfl), by decide +kernel⟩
set_option maxRecDepth 100000 in
theorem nX7_append : cIn mX7_append 2 := ⟨(tW2 128 rfl rfl), (tW1 5 rfl rfl), by decide +kernel⟩
set_option maxRecDepth 100000 in
theorem nX7_begin : cIn mX7_begin 0 := ⟨(tW2 141 rfl rfl), (tW1 5 rfl rfl), by decide +kernel⟩
set_option maxRecDepth 100000 in
theorem nX7_blame : cIn mX7_blame 2 := ⟨(tW2 234 rfl rfl), (tW1 5 rfl rfl), by decide +kernel⟩
set_option maxRecDepth 100000 in
theorem nX7_isFine : cIn mX7_isFine 0 := ⟨(tW2 145 rfl rfl), (tW1 5 rfl rfl), by decide +kernel⟩
set_option maxRecDepth 100000 in
theorem nX7_next : cIn mX7_next 0 := ⟨(tW2 149 rfl rfl), (tW1 5 rfl rfl), by decide +kernel⟩
set_option maxRecDepth 100000 in
theorem nX7_takesSign : cIn mX7_takesSign 1 := ⟨(tW3 9 rfl rfl), (tW1 5 rfl rfl), by decide +kernel⟩
set_option maxRecDepth 100000 in
theorem nX7_needSign : cIn mX7_needSign 1 := ⟨(tW3 5 rfl rfl), (tW1 5 rfl rfl), by decide +kernel⟩
set_option maxRecDepth 100000 in
theorem nX7_isWord : cIn mX7_isWord 1 := ⟨(tW2 162 rfl rfl), (tW1 5 rfl rfl), by decide +kernel⟩
set_option maxRecDepth 100000 in
theorem nX7_takesWord : cIn mX7_takesWord 1 := ⟨(tW2 158 rfl rfl), (tW1 5 rfl rfl), by decide +kernel⟩
set_option maxRecDepth 100000 in
theorem nX7_needWord : cIn mX7_needWord 1 := ⟨(tW3 0 rfl rfl), (tW1 5 rfl rfl), by decide +kernel⟩
set_option maxRecDepth 100000 in
theorem nX7_needNumber : cIn mX7_needNumber 2 := ⟨(tW2 222 rfl rfl), (tW1 5 rfl rfl), by decide +kernel⟩
set_option maxRecDepth 100000 in
theorem nX7_needMove : cIn mX7_needMove 0 := ⟨(tW3 60 rfl rfl), (tW1 5 rfl rfl), by decide +kernel⟩
set_option maxRecDepth 100000 in
theorem nX7_readFigures : cIn mX7_readFigures 2 := ⟨(tW2 227 rfl rfl), (tW1 5 rfl rfl), by decide +kernel⟩
set_option maxRecDepth 100000 in
theorem nX7_isLetter : cIn mX7_isLetter 1 := ⟨(tW2 176 rfl rfl), (tW1 5 rfl rfl), by decide +kernel⟩
set_option maxRecDepth 100000 in
theorem nX7_isFigure : cIn mX7_isFigure 1 := ⟨(tW2 230 rfl rfl), (tW1 5 rfl rfl), by decide +kernel⟩
set_option maxRecDepth 100000 in
theorem nX8_init : cIn mX8_init 0 := ⟨(tW1 74 rfl rfl), (tW1 4 rfl rfl), by decide +kernel⟩
set_option maxRecDepth 100000 in
theorem nX8_copyFrom : cIn mX8_copyFrom 1 := ⟨(tW5 44 rfl rfl), (tW1 4 rfl rfl), by decide +kernel⟩
set_option maxRecDepth 100000 in
theorem nX8_addStep : cIn mX8_addStep 3 := ⟨(tW3 93 rfl rfl), (tW1 4 rfl rfl), by decide +kernel⟩
set_option maxRecDepth 100000 in
theorem nX9_init : cIn mX9_init 0 := ⟨(tW1 169 rfl rfl), (tW1 7 rfl rfl), by decide +kernel⟩
set_option maxRecDepth 100000 in
theorem nX9_read : cIn mX9_read 1 := ⟨(tW3 43 rfl rfl), (tW1 7 rfl rfl), by decide +kernel⟩
set_option maxRecDepth 100000 in
theorem nX9_layInto : cIn mX9_layInto 1 := ⟨(tW3 89 rfl rfl), (tW1 7 rfl rfl), by decide +kernel⟩
set_option maxRecDepth 100000 in
theorem nX9_readPart : cIn mX9_readPart 1 := ⟨(tW3 50 rfl rfl), (tW1 7 rfl rfl), by decide +kernel⟩
set_option maxRecDepth 100000 in
theorem nX9_readGo : cIn mX9_readGo 1 := ⟨(tW3 56 rfl rfl), (tW1 7 rfl rfl), by decide +kernel⟩
set_option maxRecDepth 100000 in
theorem nX9_openTimes : cIn mX9_openTimes 1 := ⟨(tW3 75 rfl rfl), (tW1 7 rfl rfl), by decide +kernel⟩
set_option maxRecDepth 100000 in
theorem nX9_closeTimes : cIn mX9_closeTimes 0 := ⟨(tW3 81 rfl rfl), (tW1 7 rfl rfl), by decide +kernel⟩
set_option maxRecDepth 100000 in
theorem nX9_copyStep : cIn mX9_copyStep 1 := ⟨(tW3 85 rfl rfl), (tW1 7 rfl rfl), by decide +kernel⟩
set_option maxRecDepth 100000 in
theorem nX9_addStep : cIn mX9_addStep 3 := ⟨(tW3 67 rfl rfl), (tW1 7 rfl rfl), by decide +kernel⟩
set_option maxRecDepth 100000 in
theorem nX10_init : cIn mX10_init 0 := ⟨(tW1 25 rfl rfl), (tW1 1 rfl rfl), by decide +kernel⟩
set_option maxRecDepth 100000 in
theorem nX10_feed : cIn mX10_feed 2 := ⟨(tW2 124 rfl rfl), (tW1 1 rfl rfl), by decide +kernel⟩
set_option maxRecDepth 100000 in
theorem nX10_plait : cIn mX10_plait 0 := ⟨(tW2 133 rfl rfl), (tW1 1 rfl rfl), by decide +kernel⟩
set_option maxRecDepth 100000 in
theorem nX10_way : cIn mX10_way 0 := ⟨(tW3 39 rfl rfl), (tW1 1 rfl rfl), by decide +kernel⟩
set_option maxRecDepth 100000 in
theorem nX10_fault : cIn mX10_fault 0 := ⟨(tW3 97 rfl rfl), (tW1 1 rfl rfl), by decide +kernel⟩
set_option maxRecDepth 100000 in
theorem nX10_piece : cIn mX10_piece 2 := ⟨(tW3 101 rfl rfl), (tW1 1 rfl rfl), by decide +kernel⟩
set_option maxRecDepth 100000 in
theorem nX10_law : cIn mX10_law 2 := ⟨(tW3 120 rfl rfl), (tW1 1 rfl rfl), by decide +kernel⟩
set_option maxRecDepth 100000 in
theorem nX10_give : cIn mX10_give 1 := ⟨(tW3 128 rfl rfl), (tW1 1 rfl rfl), by decide +kernel⟩
set_option maxRecDepth 100000 in
theorem nX10_count : cIn mX10_count 1 := ⟨(tW3 135 rfl rfl), (tW1 1 rfl rfl), by decide +kernel⟩
set_option maxRecDepth 100000 in
theorem nX10_joint : cIn mX10_joint 3 := ⟨(tW3 143 rfl rfl), (tW1 1 rfl rfl), by decide +kernel⟩
set_option maxRecDepth 100000 in
theorem nX10_speed : cIn mX10_speed 2 := ⟨(tW3 217 rfl rfl), (tW1 1 rfl rfl), by decide +kernel⟩
set_option maxRecDepth 100000 in
theorem nX10_force : cIn mX10_force 2 := ⟨(tW3 232 rfl rfl), (tW1 1 rfl rfl), by decide +kernel⟩
set_option maxRecDepth 100000 in
theorem nX10_loop : cIn mX10_loop 1 := ⟨(tW4 6 rfl rfl), (tW1 1 rfl rfl), by decide +kernel⟩
set_option maxRecDepth 100000 in
theorem nX10_crack : cIn mX10_crack 2 := ⟨(tW4 14 rfl rfl), (tW1 1 rfl rfl), by decide +kernel⟩
set_option maxRecDepth 100000 in
theorem nX10_kind : cIn mX10_kind 0 := ⟨(tW4 55 rfl rfl), (tW1 1 rfl rfl), by decide +kernel⟩
set_option maxRecDepth 100000 in
theorem nX10_turns : cIn mX10_turns 0 := ⟨(tW4 86 rfl rfl), (tW1 1 rfl rfl), by decide +kernel⟩
set_option maxRecDepth 100000 in
theorem nX10_put : cIn mX10_put 3 := ⟨(tW4 90 rfl rfl), (tW1 1 rfl rfl), by decide +kernel⟩
set_option maxRecDepth 100000 in
theorem nX10_near : cIn mX10_near 0 := ⟨(tW4 100 rfl rfl), (tW1 1 rfl rfl), by decide +kernel⟩
set_option maxRecDepth 100000 in
theorem nX10_leastHand : cIn mX10_leastHand 0 := ⟨(tW4 110 rfl rfl), (tW1 1 rfl rfl), by decide +kernel⟩
set_option maxRecDepth 100000 in
theorem nX10_loudest : cIn mX10_loudest 2 := ⟨(tW4 114 rfl rfl), (tW1 1 rfl rfl), by decide +kernel⟩
set_option maxRecDepth 100000 in
theorem nX10_aim : cIn mX10_aim 5 := ⟨(tW4 147 rfl rfl), (tW1 1 rfl rfl), by decide +kernel⟩
set_option maxRecDepth 100000 in
theorem nX10_alone : cIn mX10_alone 2 := ⟨(tW4 156 rfl rfl), (tW1 1 rfl rfl), by decide +kernel⟩
set_option maxRecDepth 100000 in
theorem nX10_bestAim : cIn mX10_bestAim 3 := ⟨(tW4 168 rfl rfl), (tW1 1 rfl rfl), by decide +kernel⟩
set_option maxRecDepth 100000 in
theorem nX10_close : cIn mX10_close 3 := ⟨(tW4 173 rfl rfl), (tW1 1 rfl rfl), by decide +kernel⟩
set_option maxRecDepth 100000 in
theorem nX10_rhythm : cIn mX10_rhythm 4 := ⟨(tW4 181 rfl rfl), (tW1 1 rfl rfl), by decide +kernel⟩
set_option maxRecDepth 100000 in
theorem nX10_crackOn : cIn mX10_crackOn 0 := ⟨(tW4 185 rfl rfl), (tW1 1 rfl rfl), by decide +kernel⟩
set_option maxRecDepth 100000 in
theorem nX10_evening : cIn mX10_evening 1 := ⟨(tW4 203 rfl rfl), (tW1 1 rfl rfl), by decide +kernel⟩
set_option maxRecDepth 100000 in
theorem nX10_lay : cIn mX10_lay 2 := ⟨(tW4 207 rfl rfl), (tW1 1 rfl rfl), by decide +kernel⟩
set_option maxRecDepth 100000 in
theorem nX10_clear : cIn mX10_clear 0 := ⟨(tW4 219 rfl rfl), (tW1 1 rfl rfl), by decide +kernel⟩
set_option maxRecDepth 100000 in
theorem nX10_cut : cIn mX10_cut 0 := ⟨(tW4 223 rfl rfl), (tW1 1 rfl rfl), by decide +kernel⟩
set_option maxRecDepth 100000 in
theorem nX10_film : cIn mX10_film 2 := ⟨(tW5 9 rfl rfl), (tW1 1 rfl rfl), by decide +kernel⟩
set_option maxRecDepth 100000 in
theorem nX10_blank : cIn mX10_blank 0 := ⟨(tW5 17 rfl rfl), (tW1 1 rfl rfl), by decide +kernel⟩
set_option maxRecDepth 100000 in
theorem nX10_told : cIn mX10_told 1 := ⟨(tW5 21 rfl rfl), (tW1 1 rfl rfl), by decide +kernel⟩
set_option maxRecDepth 100000 in
theorem nX10_keep : cIn mX10_keep 1 := ⟨(tW5 35 rfl rfl), (tW1 1 rfl rfl), by decide +kernel⟩
set_option maxRecDepth 100000 in
theorem nX10_goBack : cIn mX10_goBack 1 := ⟨(tW5 50 rfl rfl), (tW1 1 rfl rfl), by decide +kernel⟩
set_option maxRecDepth 100000 in
theorem nX10_endReading : cIn mX10_endReading 0 := ⟨(tW3 23 rfl rfl), (tW1 1 rfl rfl), by decide +kernel⟩
set_option maxRecDepth 100000 in
theorem nX10_setChanged : cIn mX10_setChanged 0 := ⟨(tW3 34 rfl rfl), (tW1 1 rfl rfl), by decide +kernel⟩
set_option maxRecDepth 100000 in
theorem nX10_theThrow : cIn mX10_theThrow 0 := ⟨(tW3 155 rfl rfl), (tW1 1 rfl rfl), by decide +kernel⟩
set_option maxRecDepth 100000 in
theorem nX10_isJoint : cIn mX10_isJoint 1 := ⟨(tW3 147 rfl rfl), (tW1 1 rfl rfl), by decide +kernel⟩
set_option maxRecDepth 100000 in
theorem nX10_isTick : cIn mX10_isTick 1 := ⟨(tW3 151 rfl rfl), (tW1 1 rfl rfl), by decide +kernel⟩
set_option maxRecDepth 100000 in
theorem nX10_isWithin : cIn mX10_isWithin 2 := ⟨(tW4 96 rfl rfl), (tW1 1 rfl rfl), by decide +kernel⟩
set_option maxRecDepth 100000 in
theorem nX10_isPlace : cIn mX10_isPlace 2 := ⟨(tW4 93 rfl rfl), (tW1 1 rfl rfl), by decide +kernel⟩
set_option maxRecDepth 100000 in
theorem nX10_isGiven : cIn mX10_isGiven 1 := ⟨(tW3 131 rfl rfl), (tW1 1 rfl rfl), by decide +kernel⟩
set_option maxRecDepth 100000 in
theorem nX10_tellCrack : cIn mX10_tellCrack 4 := ⟨(tW4 34 rfl rfl), (tW1 1 rfl rfl), by decide +kernel⟩
set_option maxRecDepth 100000 in
theorem nX10_throwReally : cIn mX10_throwReally 0 := ⟨(tW4 189 rfl rfl), (tW1 1 rfl rfl), by decide +kernel⟩
set_option maxRecDepth 100000 in
theorem nX10_root : cIn mX10_root 1 := ⟨(tW3 176 rfl rfl), (tW1 1 rfl rfl), by decide +kernel⟩
set_option maxRecDepth 100000 in
theorem nX11_init : cIn mX11_init 0 := ⟨(tW5 55 rfl rfl), (tW1 12 rfl rfl), by decide +kernel⟩
set_option maxRecDepth 100000 in
theorem nX11_in : cIn mX11_in 3 := ⟨(tW6 7 rfl rfl), (tW1 12 rfl rfl), by decide +kernel⟩
set_option maxRecDepth 100000 in
theorem nX11_one : cIn mX11_one 1 := ⟨(tW6 41 rfl rfl), (tW1 12 rfl rfl), by decide +kernel⟩
set_option maxRecDepth 100000 in
theorem nX11_root : cIn mX11_root 1 := ⟨(tW6 140 rfl rfl), (tW1 12 rfl rfl), by decide +kernel⟩
set_option maxRecDepth 100000 in
theorem nX11_span : cIn mX11_span 2 := ⟨(tW6 137 rfl rfl), (tW1 12 rfl rfl), by decide +kernel⟩
set_option maxRecDepth 100000 in
theorem nX11_heft : cIn mX11_heft 1 := ⟨(tW6 86 rfl rfl), (tW1 12 rfl rfl), by decide +kernel⟩
set_option maxRecDepth 100000 in
theorem nX11_stiff : cIn mX11_stiff 1 := ⟨(tW6 93 rfl rfl), (tW1 12 rfl rfl), by decide +kernel⟩
set_option maxRecDepth 100000 in
theorem nX11_wears : cIn mX11_wears 1 := ⟨(tW7 65 rfl rfl), (tW1 12 rfl rfl), by decide +kernel⟩
set_option maxRecDepth 100000 in
theorem nX11_feed : cIn mX11_feed 2 := ⟨(tW6 3 rfl rfl), (tW1 12 rfl rfl), by decide +kernel⟩
set_option maxRecDepth 100000 in
theorem nX11_here : cIn mX11_here 0 := ⟨(tW6 20 rfl rfl), (tW1 12 rfl rfl), by decide +kernel⟩
set_option maxRecDepth 100000 in
theorem nX11_want : cIn mX11_want 3 := ⟨(tW6 47 rfl rfl), (tW1 12 rfl rfl), by decide +kernel⟩
set_option maxRecDepth 100000 in
theorem nX11_takeWord : cIn mX11_takeWord 0 := ⟨(tW6 24 rfl rfl), (tW1 12 rfl rfl), by decide +kernel⟩
set_option maxRecDepth 100000 in
theorem nX11_isWord : cIn mX11_isWord 8 := ⟨(tW6 30 rfl rfl), (tW1 12 rfl rfl), by decide +kernel⟩
set_option maxRecDepth 100000 in
theorem nX11_takeNumber : cIn mX11_takeNumber 3 := ⟨(tW6 38 rfl rfl), (tW1 12 rfl rfl), by decide +kernel⟩
set_option maxRecDepth 100000 in
theorem nX11_takeSign : cIn mX11_takeSign 1 := ⟨(tW6 51 rfl rfl), (tW1 12 rfl rfl), by decide +kernel⟩
set_option maxRecDepth 100000 in
theorem nX11_beginText : cIn mX11_beginText 0 := ⟨(tW6 16 rfl rfl), (tW1 12 rfl rfl), by decide +kernel⟩
set_option maxRecDepth 100000 in
theorem nX11_takePiece : cIn mX11_takePiece 0 := ⟨(tW6 34 rfl rfl), (tW1 12 rfl rfl), by decide +kernel⟩
set_option maxRecDepth 100000 in
theorem nX11_plait : cIn mX11_plait 0 := ⟨(tW6 12 rfl rfl), (tW1 12 rfl rfl), by decide +kernel⟩
set_option maxRecDepth 100000 in
theorem nX11_addOp : cIn mX11_addOp 4 := ⟨(tW6 63 rfl rfl), (tW1 12 rfl rfl), by decide +kernel⟩
set_option maxRecDepth 100000 in
theorem nX11_takeGo : cIn mX11_takeGo 0 := ⟨(tW6 67 rfl rfl), (tW1 12 rfl rfl), by decide +kernel⟩
set_option maxRecDepth 100000 in
theorem nX11_takeWay : cIn mX11_takeWay 0 := ⟨(tW6 59 rfl rfl), (tW1 12 rfl rfl), by decide +kernel⟩
set_option maxRecDepth 100000 in
theorem nX11_runWay : cIn mX11_runWay 0 := ⟨(tW6 71 rfl rfl), (tW1 12 rfl rfl), by decide +kernel⟩
set_option maxRecDepth 100000 in
theorem nX11_way : cIn mX11_way 0 := ⟨(tW6 55 rfl rfl), (tW1 12 rfl rfl), by decide +kernel⟩
set_option maxRecDepth 100000 in
theorem nX11_fault : cIn mX11_fault 0 := ⟨(tW6 75 rfl rfl), (tW1 12 rfl rfl), by decide +kernel⟩
set_option maxRecDepth 100000 in
theorem nX11_weightOf : cIn mX11_weightOf 1 := ⟨(tW6 83 rfl rfl), (tW1 12 rfl rfl), by decide +kernel⟩
set_option maxRecDepth 100000 in
theorem nX11_bendsOf : cIn mX11_bendsOf 1 := ⟨(tW6 90 rfl rfl), (tW1 12 rfl rfl), by decide +kernel⟩
set_option maxRecDepth 100000 in
theorem nX11_piece : cIn mX11_piece 2 := ⟨(tW6 79 rfl rfl), (tW1 12 rfl rfl), by decide +kernel⟩
set_option maxRecDepth 100000 in
theorem nX11_law : cIn mX11_law 2 := ⟨(tW6 97 rfl rfl), (tW1 12 rfl rfl), by decide +kernel⟩
set_option maxRecDepth 100000 in
theorem nX11_give : cIn mX11_give 1 := ⟨(tW6 105 rfl rfl), (tW1 12 rfl rfl), by decide +kernel⟩
set_option maxRecDepth 100000 in
theorem nX11_allStrands : cIn mX11_allStrands 0 := ⟨(tW6 115 rfl rfl), (tW1 12 rfl rfl), by decide +kernel⟩
set_option maxRecDepth 100000 in
theorem nX11_count : cIn mX11_count 1 := ⟨(tW6 111 rfl rfl), (tW1 12 rfl rfl), by decide +kernel⟩
set_option maxRecDepth 100000 in
theorem nX11_cell : cIn mX11_cell 2 := ⟨(tW6 130 rfl rfl), (tW1 12 rfl rfl), by decide +kernel⟩
set_option maxRecDepth 100000 in
theorem nX11_goOn : cIn mX11_goOn 2 := ⟨(tW6 134 rfl rfl), (tW1 12 rfl rfl), by decide +kernel⟩
set_option maxRecDepth 100000 in
theorem nX11_bend : cIn mX11_bend 2 := ⟨(tW6 147 rfl rfl), (tW1 12 rfl rfl), by decide +kernel⟩
set_option maxRecDepth 100000 in
theorem nX11_pull : cIn mX11_pull 2 := ⟨(tW6 151 rfl rfl), (tW1 12 rfl rfl), by decide +kernel⟩
set_option maxRecDepth 100000 in
theorem nX11_hold : cIn mX11_hold 2 := ⟨(tW6 155 rfl rfl), (tW1 12 rfl rfl), by decide +kernel⟩
set_option maxRecDepth 100000 in
theorem nX11_toss : cIn mX11_toss 1 := ⟨(tW6 127 rfl rfl), (tW1 12 rfl rfl), by decide +kernel⟩
set_option maxRecDepth 100000 in
theorem nX11_noJoint : cIn mX11_noJoint 1 := ⟨(tW6 123 rfl rfl), (tW1 12 rfl rfl), by decide +kernel⟩
set_option maxRecDepth 100000 in
theorem nX11_joint : cIn mX11_joint 3 := ⟨(tW6 119 rfl rfl), (tW1 12 rfl rfl), by decide +kernel⟩
set_option maxRecDepth 100000 in
theorem nX11_speedOf : cIn mX11_speedOf 2 := ⟨(tW6 163 rfl rfl), (tW1 12 rfl rfl), by decide +kernel⟩
set_option maxRecDepth 100000 in
theorem nX11_speed : cIn mX11_speed 2 := ⟨(tW6 159 rfl rfl), (tW1 12 rfl rfl), by decide +kernel⟩
set_option maxRecDepth 100000 in
theorem nX11_forceOf : cIn mX11_forceOf 2 := ⟨(tW6 172 rfl rfl), (tW1 12 rfl rfl), by decide +kernel⟩
set_option maxRecDepth 100000 in
theorem nX11_force : cIn mX11_force 2 := ⟨(tW6 167 rfl rfl), (tW1 12 rfl rfl), by decide +kernel⟩
set_option maxRecDepth 100000 in
theorem nX11_loopOf : cIn mX11_loopOf 1 := ⟨(tW6 180 rfl rfl), (tW1 12 rfl rfl), by decide +kernel⟩
set_option maxRecDepth 100000 in
theorem nX11_loop : cIn mX11_loop 1 := ⟨(tW6 176 rfl rfl), (tW1 12 rfl rfl), by decide +kernel⟩
set_option maxRecDepth 100000 in
theorem nX11_findCracks : cIn mX11_findCracks 0 := ⟨(tW6 189 rfl rfl), (tW1 12 rfl rfl), by decide +kernel⟩
set_option maxRecDepth 100000 in
theorem nX11_farOf : cIn mX11_farOf 1 := ⟨(tW6 193 rfl rfl), (tW1 12 rfl rfl), by decide +kernel⟩
set_option maxRecDepth 100000 in
theorem nX11_ofWhat : cIn mX11_ofWhat 1 := ⟨(tW6 197 rfl rfl), (tW1 12 rfl rfl), by decide +kernel⟩
set_option maxRecDepth 100000 in
theorem nX11_crack : cIn mX11_crack 2 := ⟨(tW6 184 rfl rfl), (tW1 12 rfl rfl), by decide +kernel⟩
set_option maxRecDepth 100000 in
theorem nX11_quarter : cIn mX11_quarter 3 := ⟨(tW6 208 rfl rfl), (tW1 12 rfl rfl), by decide +kernel⟩
set_option maxRecDepth 100000 in
theorem nX11_turnsOf : cIn mX11_turnsOf 0 := ⟨(tW6 205 rfl rfl), (tW1 12 rfl rfl), by decide +kernel⟩
set_option maxRecDepth 100000 in
theorem nX11_isOverhead : cIn mX11_isOverhead 0 := ⟨(tW6 212 rfl rfl), (tW1 12 rfl rfl), by decide +kernel⟩
set_option maxRecDepth 100000 in
theorem nX11_hasLoop : cIn mX11_hasLoop 0 := ⟨(tW6 216 rfl rfl), (tW1 12 rfl rfl), by decide +kernel⟩
set_option maxRecDepth 100000 in
theorem nX11_kind : cIn mX11_kind 0 := ⟨(tW6 201 rfl rfl), (tW1 12 rfl rfl), by decide +kernel⟩
set_option maxRecDepth 100000 in
theorem nX11_turns : cIn mX11_turns 0 := ⟨(tW6 220 rfl rfl), (tW1 12 rfl rfl), by decide +kernel⟩
set_option maxRecDepth 100000 in
theorem nX11_isPlace : cIn mX11_isPlace 2 := ⟨(tW6 227 rfl rfl), (tW1 12 rfl rfl), by decide +kernel⟩
set_option maxRecDepth 100000 in
theorem nX11_put : cIn mX11_put 3 := ⟨(tW6 224 rfl rfl), (tW1 12 rfl rfl), by decide +kernel⟩
set_option maxRecDepth 100000 in
theorem nX11_near : cIn mX11_near 0 := ⟨(tW6 233 rfl rfl), (tW1 12 rfl rfl), by decide +kernel⟩
set_option maxRecDepth 100000 in
theorem nX11_leastHand : cIn mX11_leastHand 0 := ⟨(tW6 237 rfl rfl), (tW1 12 rfl rfl), by decide +kernel⟩
set_option maxRecDepth 100000 in
theorem nX11_greatestSpeed : cIn mX11_greatestSpeed 0 := ⟨(tW7 10 rfl rfl), (tW1 12 rfl rfl), by decide +kernel⟩
set_option maxRecDepth 100000 in
theorem nX11_listed : cIn mX11_listed 1 := ⟨(tW7 6 rfl rfl), (tW1 12 rfl rfl), by decide +kernel⟩
set_option maxRecDepth 100000 in
theorem nX11_loudest : cIn mX11_loudest 2 := ⟨(tW7 1 rfl rfl), (tW1 12 rfl rfl), by decide +kernel⟩
set_option maxRecDepth 100000 in
theorem nX11_farFrom : cIn mX11_farFrom 4 := ⟨(tW7 18 rfl rfl), (tW1 12 rfl rfl), by decide +kernel⟩
set_option maxRecDepth 100000 in
theorem nX11_aim : cIn mX11_aim 5 := ⟨(tW7 14 rfl rfl), (tW1 12 rfl rfl), by decide +kernel⟩
set_option maxRecDepth 100000 in
theorem nX11_aloneBy : cIn mX11_aloneBy 2 := ⟨(tW7 26 rfl rfl), (tW1 12 rfl rfl), by decide +kernel⟩
set_option maxRecDepth 100000 in
theorem nX11_alone : cIn mX11_alone 2 := ⟨(tW7 22 rfl rfl), (tW1 12 rfl rfl), by decide +kernel⟩
set_option maxRecDepth 100000 in
theorem nX11_bestAim : cIn mX11_bestAim 3 := ⟨(tW7 30 rfl rfl), (tW1 12 rfl rfl), by decide +kernel⟩
set_option maxRecDepth 100000 in
theorem nX11_tossBoth : cIn mX11_tossBoth 2 := ⟨(tW7 43 rfl rfl), (tW1 12 rfl rfl), by decide +kernel⟩
set_option maxRecDepth 100000 in
theorem nX11_closeBy : cIn mX11_closeBy 1 := ⟨(tW7 47 rfl rfl), (tW1 12 rfl rfl), by decide +kernel⟩
set_option maxRecDepth 100000 in
theorem nX11_isTwo : cIn mX11_isTwo 2 := ⟨(tW7 38 rfl rfl), (tW1 12 rfl rfl), by decide +kernel⟩
set_option maxRecDepth 100000 in
theorem nX11_close : cIn mX11_close 3 := ⟨(tW7 35 rfl rfl), (tW1 12 rfl rfl), by decide +kernel⟩
set_option maxRecDepth 100000 in
theorem nX11_rhythm : cIn mX11_rhythm 4 := ⟨(tW7 52 rfl rfl), (tW1 12 rfl rfl), by decide +kernel⟩
set_option maxRecDepth 100000 in
theorem nX11_wearOnce : cIn mX11_wearOnce 0 := ⟨(tW7 62 rfl rfl), (tW1 12 rfl rfl), by decide +kernel⟩
set_option maxRecDepth 100000 in
theorem nX11_crackOn : cIn mX11_crackOn 0 := ⟨(tW7 58 rfl rfl), (tW1 12 rfl rfl), by decide +kernel⟩
set_option maxRecDepth 100000 in
theorem nX11_evening : cIn mX11_evening 1 := ⟨(tW7 70 rfl rfl), (tW1 12 rfl rfl), by decide +kernel⟩
set_option maxRecDepth 100000 in
theorem nX11_lay : cIn mX11_lay 2 := ⟨(tW7 75 rfl rfl), (tW1 12 rfl rfl), by decide +kernel⟩
set_option maxRecDepth 100000 in
theorem nX11_clear : cIn mX11_clear 0 := ⟨(tW7 80 rfl rfl), (tW1 12 rfl rfl), by decide +kernel⟩
set_option maxRecDepth 100000 in
theorem nX11_sumOf : cIn mX11_sumOf 1 := ⟨(tW7 95 rfl rfl), (tW1 12 rfl rfl), by decide +kernel⟩
set_option maxRecDepth 100000 in
theorem nX11_canCut : cIn mX11_canCut 1 := ⟨(tW7 91 rfl rfl), (tW1 12 rfl rfl), by decide +kernel⟩
set_option maxRecDepth 100000 in
theorem nX11_ones : cIn mX11_ones 1 := ⟨(tW7 87 rfl rfl), (tW1 12 rfl rfl), by decide +kernel⟩
set_option maxRecDepth 100000 in
theorem nX11_cut : cIn mX11_cut 0 := ⟨(tW7 84 rfl rfl), (tW1 12 rfl rfl), by decide +kernel⟩
set_option maxRecDepth 100000 in
theorem nX11_film : cIn mX11_film 2 := ⟨(tW7 99 rfl rfl), (tW1 12 rfl rfl), by decide +kernel⟩
set_option maxRecDepth 100000 in
theorem nX11_blank : cIn mX11_blank 0 := ⟨(tW7 104 rfl rfl), (tW1 12 rfl rfl), by decide +kernel⟩
set_option maxRecDepth 100000 in
theorem nX11_size : cIn mX11_size 1 := ⟨(tW7 111 rfl rfl), (tW1 12 rfl rfl), by decide +kernel⟩
set_option maxRecDepth 100000 in
theorem nX11_told : cIn mX11_told 1 := ⟨(tW7 108 rfl rfl), (tW1 12 rfl rfl), by decide +kernel⟩
set_option maxRecDepth 100000 in
theorem nX11_keep : cIn mX11_keep 1 := ⟨(tW7 115 rfl rfl), (tW1 12 rfl rfl), by decide +kernel⟩
set_option maxRecDepth 100000 in
theorem nX11_goBack : cIn mX11_goBack 1 := ⟨(tW7 119 rfl rfl), (tW1 12 rfl rfl), by decide +kernel⟩
set_option maxRecDepth 100000 in
theorem nJ6_numberOfLeadingZeros_0f7a4 : cIn mJ6_numberOfLeadingZeros_0f7a4 1 := ⟨(tW3 182 rfl rfl), (tW1 20 rfl rfl), by decide +kernel⟩
set_option maxRecDepth 100000 in
theorem nJ6_bitCount_0f7a4 : cIn mJ6_bitCount_0f7a4 1 := ⟨(tW4 230 rfl rfl), (tW1 20 rfl rfl), by decide +kernel⟩
set_option maxRecDepth 100000 in
theorem nJ13_numberOfLeadingZeros_95d88 : cIn mJ13_numberOfLeadingZeros_95d88 1 := ⟨(tW3 179 rfl rfl), (tW1 19 rfl rfl), by decide +kernel⟩
set_option maxRecDepth 100000 in
theorem nJ9_abs_0f7a4 : cIn mJ9_abs_0f7a4 1 := ⟨(tW5 30 rfl rfl), (tW1 18 rfl rfl), by decide +kernel⟩
set_option maxRecDepth 100000 in
theorem nJ9_max_7cf53 : cIn mJ9_max_7cf53 2 := ⟨(tW3 172 rfl rfl), (tW1 18 rfl rfl), by decide +kernel⟩
set_option maxRecDepth 100000 in
theorem nJ9_max_f86c9 : cIn mJ9_max_f86c9 2 := ⟨(tW4 134 rfl rfl), (tW1 18 rfl rfl), by decide +kernel⟩
set_option maxRecDepth 100000 in
theorem nJ9_min_7cf53 : cIn mJ9_min_7cf53 2 := ⟨(tW3 116 rfl rfl), (tW1 18 rfl rfl), by decide +kernel⟩
set_option maxRecDepth 100000 in
theorem nJ9_min_f86c9 : cIn mJ9_min_f86c9 2 := ⟨(tW4 164 rfl rfl), (tW1 18 rfl rfl), by decide +kernel⟩
set_option maxRecDepth 100000 in
theorem nJ0_length_8abf5 : cIn mJ0_length_8abf5 0 := ⟨(tW2 167 rfl rfl), (tW1 13 rfl rfl), by decide +kernel⟩
set_option maxRecDepth 100000 in
theorem nJ0_charAt_5068e : cIn mJ0_charAt_5068e 1 := ⟨(tW2 180 rfl rfl), (tW1 13 rfl rfl), by decide +kernel⟩
set_option maxRecDepth 100000 in
theorem nJ0_coder_7d493 : cIn mJ0_coder_7d493 0 := ⟨(tW2 171 rfl rfl), (tW1 13 rfl rfl), by decide +kernel⟩
set_option maxRecDepth 100000 in
theorem nJ0_isLatin1_aae02 : cIn mJ0_isLatin1_aae02 0 := ⟨(tW2 184 rfl rfl), (tW1 13 rfl rfl), by decide +kernel⟩
set_option maxRecDepth 100000 in
theorem nJ0_checkIndex_df160 : cIn mJ0_checkIndex_df160 2 := ⟨(tW2 190 rfl rfl), (tW1 13 rfl rfl), by decide +kernel⟩
set_option maxRecDepth 100000 in
theorem nJ1_charAt_3b067 : cIn mJ1_charAt_3b067 2 := ⟨(tW2 187 rfl rfl), (tW1 14 rfl rfl), by decide +kernel⟩
set_option maxRecDepth 100000 in
theorem nJ2_getChar_3b067 : cIn mJ2_getChar_3b067 2 := ⟨(tW2 208 rfl rfl), (tW1 16 rfl rfl), by decide +kernel⟩
set_option maxRecDepth 100000 in
theorem nJ2_length_9d52b : cIn mJ2_length_9d52b 1 := ⟨(tW2 204 rfl rfl), (tW1 16 rfl rfl), by decide +kernel⟩
set_option maxRecDepth 100000 in
theorem nJ2_charAt_3b067 : cIn mJ2_charAt_3b067 2 := ⟨(tW2 198 rfl rfl), (tW1 16 rfl rfl), by decide +kernel⟩
set_option maxRecDepth 100000 in
theorem nJ2_checkIndex_2214a : cIn mJ2_checkIndex_2214a 2 := ⟨(tW2 201 rfl rfl), (tW1 16 rfl rfl), by decide +kernel⟩
set_option maxRecDepth 100000 in
theorem nJ3_checkIndex_8e157 : cIn mJ3_checkIndex_8e157 3 := ⟨(tW2 195 rfl rfl), (tW1 15 rfl rfl), by decide +kernel⟩
set_option maxRecDepth 100000 in
theorem v_X10_1 : Cond.methodLink RX10 1 objectInit ∈ aW := (tW1 26 rfl rfl)
set_option maxRecDepth 100000 in
theorem v_X10_9 : iNk RX10 9 mX6_init 0 := ⟨nX6_init, by decide +kernel, (tW1 32 rfl rfl), rfl, rfl⟩
set_option maxRecDepth 100000 in
theorem v_X10_24 : iNk RX10 24 mX7_init 0 := ⟨nX7_init, by decide +kernel, (tW1 119 rfl rfl), rfl, rfl⟩
set_option maxRecDepth 100000 in
theorem v_X10_31 : iNk RX10 31 mX4_init 0 := ⟨nX4_init, by decide +kernel, (tW1 152 rfl rfl), rfl, rfl⟩
set_option maxRecDepth 100000 in
theorem v_X10_38 : iNk RX10 38 mX9_init 0 := ⟨nX9_init, by decide +kernel, (tW1 168 rfl rfl), rfl, rfl⟩
set_option maxRecDepth 100000 in
theorem v_X10_45 : iNk RX10 45 mX1_init 0 := ⟨nX1_init, by decide +kernel, (tW1 205 rfl rfl), rfl, rfl⟩
set_option maxRecDepth 100000 in
theorem v_X10_55 : iNk RX10 55 mX5_init 0 := ⟨nX5_init, by decide +kernel, (tW2 1 rfl rfl), rfl, rfl⟩
set_option maxRecDepth 100000 in
theorem v_X10_62 : iNk RX10 62 mX2_init 0 := ⟨nX2_init, by decide +kernel, (tW2 28 rfl rfl), rfl, rfl⟩
set_option maxRecDepth 100000 in
theorem v_X10_69 : iNk RX10 69 mX0_init 0 := ⟨nX0_init, by decide +kernel, (tW2 52 rfl rfl), rfl, rfl⟩
set_option maxRecDepth 100000 in
theorem v_X10_100 : vLk RX10 100 mX7_append 2 7 := ⟨nX7_append, (tW2 125 rfl rfl), (tW2 126 rfl rfl), (tW2 127 rfl rfl), _, _, rfl⟩
set_option maxRecDepth 100000 in
theorem v_X10_104 : vLk RX10 104 mX4_read 1 4 := ⟨nX4_read, (tW2 134 rfl rfl), (tW2 135 rfl rfl), (tW2 136 rfl rfl), _, _, rfl⟩
set_option maxRecDepth 100000 in
theorem v_X10_108 : vLk RX10 108 mX10_endReading 0 10 := ⟨nX10_endReading, (tW3 20 rfl rfl), (tW3 22 rfl rfl), (sW 4 rfl rfl), _, _, rfl⟩
set_option maxRecDepth 100000 in
theorem v_X10_117 : vLk RX10 117 mX3_copyFrom 1 3 := ⟨nX3_copyFrom, (tW3 24 rfl rfl), (tW3 25 rfl rfl), (tW3 26 rfl rfl), _, _, rfl⟩
set_option maxRecDepth 100000 in
theorem v_X10_123 : vLk RX10 123 mX10_setChanged 0 10 := ⟨nX10_setChanged, (tW3 31 rfl rfl), (tW3 33 rfl rfl), (sW 5 rfl rfl), _, _, rfl⟩
set_option maxRecDepth 100000 in
theorem v_X10_129 : vLk RX10 129 mX9_read 1 9 := ⟨nX9_read, (tW3 40 rfl rfl), (tW3 41 rfl rfl), (tW3 42 rfl rfl), _, _, rfl⟩
set_option maxRecDepth 100000 in
theorem v_X10_134 : vLk RX10 134 mX9_layInto 1 9 := ⟨nX9_layInto, (tW3 86 rfl rfl), (tW3 87 rfl rfl), (tW3 88 rfl rfl), _, _, rfl⟩
set_option maxRecDepth 100000 in
theorem v_X10_150 : vLk RX10 150 mX3_weightOf 1 3 := ⟨nX3_weightOf, (tW3 102 rfl rfl), (tW3 103 rfl rfl), (tW3 104 rfl rfl), _, _, rfl⟩
set_option maxRecDepth 100000 in
theorem v_X10_154 : vLk RX10 154 mX3_bendsOf 1 3 := ⟨nX3_bendsOf, (tW3 108 rfl rfl), (tW3 109 rfl rfl), (tW3 110 rfl rfl), _, _, rfl⟩
set_option maxRecDepth 100000 in
theorem v_X10_169 : sLk RX10 169 mX10_isGiven 1 := ⟨nX10_isGiven, (tW3 129 rfl rfl), (tW3 130 rfl rfl)⟩
set_option maxRecDepth 100000 in
theorem v_X10_179 : vLk RX10 179 mX3_strandsInAll 0 3 := ⟨nX3_strandsInAll, (tW3 136 rfl rfl), (tW3 137 rfl rfl), (tW3 138 rfl rfl), _, _, rfl⟩
set_option maxRecDepth 100000 in
theorem v_X10_189 : vLk RX10 189 mX10_isJoint 1 10 := ⟨nX10_isJoint, (tW3 144 rfl rfl), (tW3 146 rfl rfl), (sW 12 rfl rfl), _, _, rfl⟩
set_option maxRecDepth 100000 in
theorem v_X10_192 : vLk RX10 192 mX10_isTick 1 10 := ⟨nX10_isTick, (tW3 148 rfl rfl), (tW3 150 rfl rfl), (sW 13 rfl rfl), _, _, rfl⟩
set_option maxRecDepth 100000 in
theorem v_X10_195 : vLk RX10 195 mX10_theThrow 0 10 := ⟨nX10_theThrow, (tW3 152 rfl rfl), (tW3 154 rfl rfl), (sW 14 rfl rfl), _, _, rfl⟩
set_option maxRecDepth 100000 in
theorem v_X10_199 : vLk RX10 199 mX1_xOf 2 1 := ⟨nX1_xOf, (tW3 206 rfl rfl), (tW3 207 rfl rfl), (tW3 208 rfl rfl), _, _, rfl⟩
set_option maxRecDepth 100000 in
theorem v_X10_203 : vLk RX10 203 mX1_yOf 2 1 := ⟨nX1_yOf, (tW3 210 rfl rfl), (tW3 211 rfl rfl), (tW3 212 rfl rfl), _, _, rfl⟩
set_option maxRecDepth 100000 in
theorem v_X10_206 : vLk RX10 206 mX1_speedOf 2 1 := ⟨nX1_speedOf, (tW3 218 rfl rfl), (tW3 219 rfl rfl), (tW3 220 rfl rfl), _, _, rfl⟩
set_option maxRecDepth 100000 in
theorem v_X10_211 : vLk RX10 211 mX1_forceOfAll 1 1 := ⟨nX1_forceOfAll, (tW3 234 rfl rfl), (tW3 235 rfl rfl), (tW3 236 rfl rfl), _, _, rfl⟩
set_option maxRecDepth 100000 in
theorem v_X10_215 : vLk RX10 215 mX1_forceOf 2 1 := ⟨nX1_forceOf, (tW4 2 rfl rfl), (tW3 239 rfl rfl), (tW4 0 rfl rfl), _, _, rfl⟩
set_option maxRecDepth 100000 in
theorem v_X10_219 : vLk RX10 219 mX1_loopOf 1 1 := ⟨nX1_loopOf, (tW4 7 rfl rfl), (tW4 8 rfl rfl), (tW4 9 rfl rfl), _, _, rfl⟩
set_option maxRecDepth 100000 in
theorem v_X10_222 : vLk RX10 222 mX1_crackCount 0 1 := ⟨nX1_crackCount, (tW4 15 rfl rfl), (tW4 16 rfl rfl), (tW4 17 rfl rfl), _, _, rfl⟩
set_option maxRecDepth 100000 in
theorem v_X10_225 : vLk RX10 225 mX1_findCrack 1 1 := ⟨nX1_findCrack, (tW4 27 rfl rfl), (tW4 28 rfl rfl), (tW4 29 rfl rfl), _, _, rfl⟩
set_option maxRecDepth 100000 in
theorem v_X10_228 : vLk RX10 228 mX10_tellCrack 4 10 := ⟨nX10_tellCrack, (tW4 31 rfl rfl), (tW4 33 rfl rfl), (sW 25 rfl rfl), _, _, rfl⟩
set_option maxRecDepth 100000 in
theorem v_X10_232 : vLk RX10 232 mX1_turnsAbout 2 1 := ⟨nX1_turnsAbout, (tW4 56 rfl rfl), (tW4 57 rfl rfl), (tW4 58 rfl rfl), _, _, rfl⟩
set_option maxRecDepth 100000 in
theorem v_X10_235 : vLk RX10 235 mX1_firstCrackTick 0 1 := ⟨nX1_firstCrackTick, (tW4 63 rfl rfl), (tW4 64 rfl rfl), (tW4 65 rfl rfl), _, _, rfl⟩
set_option maxRecDepth 100000 in
theorem v_X10_238 : vLk RX10 238 mX1_lastCrackTick 0 1 := ⟨nX1_lastCrackTick, (tW4 71 rfl rfl), (tW4 72 rfl rfl), (tW4 73 rfl rfl), _, _, rfl⟩
set_option maxRecDepth 100000 in
theorem v_X10_241 : vLk RX10 241 mX1_isOverhead 0 1 := ⟨nX1_isOverhead, (tW4 75 rfl rfl), (tW4 76 rfl rfl), (tW4 77 rfl rfl), _, _, rfl⟩
set_option maxRecDepth 100000 in
theorem v_X10_245 : vLk RX10 245 mX1_hasLoop 0 1 := ⟨nX1_hasLoop, (tW4 79 rfl rfl), (tW4 80 rfl rfl), (tW4 81 rfl rfl), _, _, rfl⟩
set_option maxRecDepth 100000 in
theorem v_X10_248 : sLk RX10 248 mX10_isPlace 2 := ⟨nX10_isPlace, (tW4 91 rfl rfl), (tW4 92 rfl rfl)⟩
set_option maxRecDepth 100000 in
theorem v_X10_252 : vLk RX10 252 mX1_leastCrackFar 2 1 := ⟨nX1_leastCrackFar, (tW4 101 rfl rfl), (tW4 102 rfl rfl), (tW4 103 rfl rfl), _, _, rfl⟩
set_option maxRecDepth 100000 in
theorem v_X10_255 : vLk RX10 255 mX1_fly 4 1 := ⟨nX1_fly, (tW3 156 rfl rfl), (tW3 157 rfl rfl), (tW3 158 rfl rfl), _, _, rfl⟩
set_option maxRecDepth 100000 in
theorem v_X10_262 : vLk RX10 262 mX5_run 4 5 := ⟨nX5_run, (tW4 115 rfl rfl), (tW4 116 rfl rfl), (tW4 117 rfl rfl), _, _, rfl⟩
set_option maxRecDepth 100000 in
theorem v_X10_272 : vLk RX10 272 mX1_nearestTick 4 1 := ⟨nX1_nearestTick, (tW4 148 rfl rfl), (tW4 149 rfl rfl), (tW4 150 rfl rfl), _, _, rfl⟩
set_option maxRecDepth 100000 in
theorem v_X10_279 : vLk RX10 279 mX1_farOf 4 1 := ⟨nX1_farOf, (tW4 35 rfl rfl), (tW4 36 rfl rfl), (tW4 37 rfl rfl), _, _, rfl⟩
set_option maxRecDepth 100000 in
theorem v_X10_282 : vLk RX10 282 mX1_leastFar 2 1 := ⟨nX1_leastFar, (tW4 157 rfl rfl), (tW4 158 rfl rfl), (tW4 159 rfl rfl), _, _, rfl⟩
set_option maxRecDepth 100000 in
theorem v_X10_287 : vLk RX10 287 mX1_leastFarOfTwo 3 1 := ⟨nX1_leastFarOfTwo, (tW4 174 rfl rfl), (tW4 175 rfl rfl), (tW4 176 rfl rfl), _, _, rfl⟩
set_option maxRecDepth 100000 in
theorem v_X10_291 : vLk RX10 291 mX10_throwReally 0 10 := ⟨nX10_throwReally, (tW4 186 rfl rfl), (tW4 188 rfl rfl), (sW 30 rfl rfl), _, _, rfl⟩
set_option maxRecDepth 100000 in
theorem v_X10_294 : vLk RX10 294 mX2_addHide 1 2 := ⟨nX2_addHide, (tW4 208 rfl rfl), (tW4 209 rfl rfl), (tW4 210 rfl rfl), _, _, rfl⟩
set_option maxRecDepth 100000 in
theorem v_X10_297 : vLk RX10 297 mX2_addCut 1 2 := ⟨nX2_addCut, (tW4 212 rfl rfl), (tW4 213 rfl rfl), (tW4 214 rfl rfl), _, _, rfl⟩
set_option maxRecDepth 100000 in
theorem v_X10_300 : vLk RX10 300 mX2_fewest 0 2 := ⟨nX2_fewest, (tW4 224 rfl rfl), (tW4 225 rfl rfl), (tW4 226 rfl rfl), _, _, rfl⟩
set_option maxRecDepth 100000 in
theorem v_X10_303 : sLk RX10 303 mX10_isWithin 2 := ⟨nX10_isWithin, (tW4 94 rfl rfl), (tW4 95 rfl rfl)⟩
set_option maxRecDepth 100000 in
theorem v_X10_306 : vLk RX10 306 mX0_append 2 0 := ⟨nX0_append, (tW5 10 rfl rfl), (tW5 11 rfl rfl), (tW5 12 rfl rfl), _, _, rfl⟩
set_option maxRecDepth 100000 in
theorem v_X10_308 : vLk RX10 308 mX0_distance 1 0 := ⟨nX0_distance, (tW5 22 rfl rfl), (tW5 23 rfl rfl), (tW5 24 rfl rfl), _, _, rfl⟩
set_option maxRecDepth 100000 in
theorem v_X10_312 : vLk RX10 312 mX6_copyFrom 1 6 := ⟨nX6_copyFrom, (tW5 36 rfl rfl), (tW5 37 rfl rfl), (tW5 38 rfl rfl), _, _, rfl⟩
set_option maxRecDepth 100000 in
theorem v_X10_322 : vLk RX10 322 mX1_crackOf 2 1 := ⟨nX1_crackOf, (tW4 41 rfl rfl), (tW4 42 rfl rfl), (tW4 43 rfl rfl), _, _, rfl⟩
set_option maxRecDepth 100000 in
theorem v_X10_328 : sLk RX10 328 mJ9_max_7cf53 2 := ⟨nJ9_max_7cf53, (tW4 46 rfl rfl), (tW3 171 rfl rfl)⟩
set_option maxRecDepth 100000 in
theorem v_X10_333 : vLk RX10 333 mX1_loudOf 3 1 := ⟨nX1_loudOf, (tW4 47 rfl rfl), (tW4 48 rfl rfl), (tW4 49 rfl rfl), _, _, rfl⟩
set_option maxRecDepth 100000 in
theorem v_X10_337 : vLk RX10 337 mX1_pathOf 1 1 := ⟨nX1_pathOf, (tW4 190 rfl rfl), (tW4 191 rfl rfl), (tW4 192 rfl rfl), _, _, rfl⟩
set_option maxRecDepth 100000 in
theorem v_X10_343 : vLk RX10 343 mX3_loseWorn 1 3 := ⟨nX3_loseWorn, (tW4 196 rfl rfl), (tW4 197 rfl rfl), (tW4 198 rfl rfl), _, _, rfl⟩
set_option maxRecDepth 100000 in
theorem v_X10_346 : sLk RX10 346 mJ13_numberOfLeadingZeros_95d88 1 := ⟨nJ13_numberOfLeadingZeros_95d88, (tW3 177 rfl rfl), (tW3 178 rfl rfl)⟩
set_option maxRecDepth 100000 in
theorem v_X0_3 : Cond.methodLink RX0 3 objectInit ∈ aW := (tW2 54 rfl rfl)
set_option maxRecDepth 100000 in
theorem v_X0_27 : sLk RX0 27 mJ9_min_7cf53 2 := ⟨nJ9_min_7cf53, (tW5 26 rfl rfl), (tW3 115 rfl rfl)⟩
set_option maxRecDepth 100000 in
theorem v_X0_36 : vLk RX0 36 mX1_xOf 2 1 := ⟨nX1_xOf, (tW5 27 rfl rfl), (tW3 207 rfl rfl), (tW3 208 rfl rfl), _, _, rfl⟩
set_option maxRecDepth 100000 in
theorem v_X0_39 : sLk RX0 39 mJ9_abs_0f7a4 1 := ⟨nJ9_abs_0f7a4, (tW5 28 rfl rfl), (tW5 29 rfl rfl)⟩
set_option maxRecDepth 100000 in
theorem v_X0_43 : vLk RX0 43 mX1_yOf 2 1 := ⟨nX1_yOf, (tW5 31 rfl rfl), (tW3 211 rfl rfl), (tW3 212 rfl rfl), _, _, rfl⟩
set_option maxRecDepth 100000 in
theorem v_X1_3 : Cond.methodLink RX1 3 objectInit ∈ aW := (tW1 207 rfl rfl)
set_option maxRecDepth 100000 in
theorem v_X1_46 : vLk RX1 46 mX3_weightOf 1 3 := ⟨nX3_weightOf, (tW3 160 rfl rfl), (tW3 103 rfl rfl), (tW3 104 rfl rfl), _, _, rfl⟩
set_option maxRecDepth 100000 in
theorem v_X1_50 : vLk RX1 50 mX3_bendsOf 1 3 := ⟨nX3_bendsOf, (tW3 161 rfl rfl), (tW3 109 rfl rfl), (tW3 110 rfl rfl), _, _, rfl⟩
set_option maxRecDepth 100000 in
theorem v_X1_53 : vLk RX1 53 mX1_rest 0 1 := ⟨nX1_rest, (tW3 162 rfl rfl), (tW3 164 rfl rfl), (sW 15 rfl rfl), _, _, rfl⟩
set_option maxRecDepth 100000 in
theorem v_X1_58 : vLk RX1 58 mX1_goOn 3 1 := ⟨nX1_goOn, (tW3 166 rfl rfl), (tW3 168 rfl rfl), (sW 16 rfl rfl), _, _, rfl⟩
set_option maxRecDepth 100000 in
theorem v_X1_62 : vLk RX1 62 mX1_bend 1 1 := ⟨nX1_bend, (tW3 185 rfl rfl), (tW3 187 rfl rfl), (sW 17 rfl rfl), _, _, rfl⟩
set_option maxRecDepth 100000 in
theorem v_X1_66 : vLk RX1 66 mX1_pull 1 1 := ⟨nX1_pull, (tW3 190 rfl rfl), (tW3 192 rfl rfl), (sW 18 rfl rfl), _, _, rfl⟩
set_option maxRecDepth 100000 in
theorem v_X1_70 : vLk RX1 70 mX1_shorten 1 1 := ⟨nX1_shorten, (tW3 202 rfl rfl), (tW3 204 rfl rfl), (sW 21 rfl rfl), _, _, rfl⟩
set_option maxRecDepth 100000 in
theorem v_X1_73 : sLk RX1 73 mJ9_max_7cf53 2 := ⟨nJ9_max_7cf53, (tW3 170 rfl rfl), (tW3 171 rfl rfl)⟩
set_option maxRecDepth 100000 in
theorem v_X1_81 : sNk RX1 81 mX10_root 1 := ⟨nX10_root, by decide +kernel, (tW3 175 rfl rfl)⟩
set_option maxRecDepth 100000 in
theorem v_X1_87 : vLk RX1 87 mX1_lengthIfStretched 2 1 := ⟨nX1_lengthIfStretched, (tW3 194 rfl rfl), (tW3 196 rfl rfl), (sW 19 rfl rfl), _, _, rfl⟩
set_option maxRecDepth 100000 in
theorem v_X1_91 : vLk RX1 91 mX1_pullBoth 5 1 := ⟨nX1_pullBoth, (tW3 198 rfl rfl), (tW3 200 rfl rfl), (sW 20 rfl rfl), _, _, rfl⟩
set_option maxRecDepth 100000 in
theorem v_X1_95 : sLk RX1 95 mX1_squares 2 := ⟨nX1_squares, (tW3 226 rfl rfl), (tW3 227 rfl rfl)⟩
set_option maxRecDepth 100000 in
theorem v_X1_98 : vLk RX1 98 mX1_moved 2 1 := ⟨nX1_moved, (tW3 222 rfl rfl), (tW3 224 rfl rfl), (sW 22 rfl rfl), _, _, rfl⟩
set_option maxRecDepth 100000 in
theorem v_X1_102 : vLk RX1 102 mX1_forceOf 2 1 := ⟨nX1_forceOf, (tW3 238 rfl rfl), (tW3 239 rfl rfl), (tW4 0 rfl rfl), _, _, rfl⟩
set_option maxRecDepth 100000 in
theorem v_X1_105 : vLk RX1 105 mX1_speedOf 2 1 := ⟨nX1_speedOf, (tW4 51 rfl rfl), (tW3 219 rfl rfl), (tW3 220 rfl rfl), _, _, rfl⟩
set_option maxRecDepth 100000 in
theorem v_X1_108 : sLk RX1 108 mJ9_max_f86c9 2 := ⟨nJ9_max_f86c9, (tW4 132 rfl rfl), (tW4 133 rfl rfl)⟩
set_option maxRecDepth 100000 in
theorem v_X1_110 : vLk RX1 110 mX1_loopOf 1 1 := ⟨nX1_loopOf, (tW4 45 rfl rfl), (tW4 8 rfl rfl), (tW4 9 rfl rfl), _, _, rfl⟩
set_option maxRecDepth 100000 in
theorem v_X1_113 : vLk RX1 113 mX1_yOf 2 1 := ⟨nX1_yOf, (tW4 40 rfl rfl), (tW3 211 rfl rfl), (tW3 212 rfl rfl), _, _, rfl⟩
set_option maxRecDepth 100000 in
theorem v_X1_116 : vLk RX1 116 mX1_isFast 2 1 := ⟨nX1_isFast, (tW4 23 rfl rfl), (tW4 25 rfl rfl), (sW 24 rfl rfl), _, _, rfl⟩
set_option maxRecDepth 100000 in
theorem v_X1_120 : vLk RX1 120 mX1_isCrack 2 1 := ⟨nX1_isCrack, (tW4 19 rfl rfl), (tW4 21 rfl rfl), (sW 23 rfl rfl), _, _, rfl⟩
set_option maxRecDepth 100000 in
theorem v_X1_123 : vLk RX1 123 mX1_hasCrack 1 1 := ⟨nX1_hasCrack, (tW4 67 rfl rfl), (tW4 69 rfl rfl), (sW 26 rfl rfl), _, _, rfl⟩
set_option maxRecDepth 100000 in
theorem v_X1_126 : vLk RX1 126 mX1_xOf 2 1 := ⟨nX1_xOf, (tW4 39 rfl rfl), (tW3 207 rfl rfl), (tW3 208 rfl rfl), _, _, rfl⟩
set_option maxRecDepth 100000 in
theorem v_X1_129 : vLk RX1 129 mX1_farOf 4 1 := ⟨nX1_farOf, (tW4 105 rfl rfl), (tW4 36 rfl rfl), (tW4 37 rfl rfl), _, _, rfl⟩
set_option maxRecDepth 100000 in
theorem v_X1_133 : sLk RX1 133 mJ9_min_7cf53 2 := ⟨nJ9_min_7cf53, (tW4 106 rfl rfl), (tW3 115 rfl rfl)⟩
set_option maxRecDepth 100000 in
theorem v_X1_138 : sLk RX1 138 mJ9_min_f86c9 2 := ⟨nJ9_min_f86c9, (tW4 162 rfl rfl), (tW4 163 rfl rfl)⟩
set_option maxRecDepth 100000 in
theorem v_X1_141 : sLk RX1 141 mX1_quarterOf 3 := ⟨nX1_quarterOf, (tW4 60 rfl rfl), (tW4 61 rfl rfl)⟩
set_option maxRecDepth 100000 in
theorem v_X2_3 : Cond.methodLink RX2 3 objectInit ∈ aW := (tW2 30 rfl rfl)
set_option maxRecDepth 100000 in
theorem v_X2_28 : sLk RX2 28 mJ6_bitCount_0f7a4 1 := ⟨nJ6_bitCount_0f7a4, (tW4 228 rfl rfl), (tW4 229 rfl rfl)⟩
set_option maxRecDepth 100000 in
theorem v_X2_34 : vLk RX2 34 mX2_isEnough 1 2 := ⟨nX2_isEnough, (tW4 234 rfl rfl), (tW4 236 rfl rfl), (sW 31 rfl rfl), _, _, rfl⟩
set_option maxRecDepth 100000 in
theorem v_X2_38 : vLk RX2 38 mX2_afterCut 3 2 := ⟨nX2_afterCut, (tW4 238 rfl rfl), (tW5 0 rfl rfl), (sW 32 rfl rfl), _, _, rfl⟩
set_option maxRecDepth 100000 in
theorem v_X2_42 : vLk RX2 42 mX2_keepLeast 2 2 := ⟨nX2_keepLeast, (tW5 2 rfl rfl), (tW5 4 rfl rfl), (sW 33 rfl rfl), _, _, rfl⟩
set_option maxRecDepth 100000 in
theorem v_X3_3 : Cond.methodLink RX3 3 objectInit ∈ aW := (tW1 40 rfl rfl)
set_option maxRecDepth 100000 in
theorem v_X3_28 : Cond.methodLink RX3 28 arraycopyName ∈ aW := (tW3 28 rfl rfl)
set_option maxRecDepth 100000 in
theorem v_X3_40 : sLk RX3 40 mJ9_min_7cf53 2 := ⟨nJ9_min_7cf53, (tW3 114 rfl rfl), (tW3 115 rfl rfl)⟩
set_option maxRecDepth 100000 in
theorem v_X4_3 : Cond.methodLink RX4 3 objectInit ∈ aW := (tW1 154 rfl rfl)
set_option maxRecDepth 100000 in
theorem v_X4_11 : iNk RX4 11 mX3_init 0 := ⟨nX3_init, by decide +kernel, (tW1 38 rfl rfl), rfl, rfl⟩
set_option maxRecDepth 100000 in
theorem v_X4_22 : vLk RX4 22 mX7_begin 0 7 := ⟨nX7_begin, (tW2 138 rfl rfl), (tW2 139 rfl rfl), (tW2 140 rfl rfl), _, _, rfl⟩
set_option maxRecDepth 100000 in
theorem v_X4_34 : vLk RX4 34 mX7_isFine 0 7 := ⟨nX7_isFine, (tW2 142 rfl rfl), (tW2 143 rfl rfl), (tW2 144 rfl rfl), _, _, rfl⟩
set_option maxRecDepth 100000 in
theorem v_X4_38 : vLk RX4 38 mX7_next 0 7 := ⟨nX7_next, (tW2 146 rfl rfl), (tW2 147 rfl rfl), (tW2 148 rfl rfl), _, _, rfl⟩
set_option maxRecDepth 100000 in
theorem v_X4_42 : vLk RX4 42 mX4_readClause 1 4 := ⟨nX4_readClause, (tW2 150 rfl rfl), (tW2 152 rfl rfl), (sW 0 rfl rfl), _, _, rfl⟩
set_option maxRecDepth 100000 in
theorem v_X4_49 : vLk RX4 49 mX7_blame 2 7 := ⟨nX7_blame, (tW2 235 rfl rfl), (tW2 232 rfl rfl), (tW2 233 rfl rfl), _, _, rfl⟩
set_option maxRecDepth 100000 in
theorem v_X4_55 : vLk RX4 55 mX7_takesWord 1 7 := ⟨nX7_takesWord, (tW2 155 rfl rfl), (tW2 156 rfl rfl), (tW2 157 rfl rfl), _, _, rfl⟩
set_option maxRecDepth 100000 in
theorem v_X4_59 : vLk RX4 59 mX4_readPieces 1 4 := ⟨nX4_readPieces, (tW2 215 rfl rfl), (tW2 217 rfl rfl), (sW 1 rfl rfl), _, _, rfl⟩
set_option maxRecDepth 100000 in
theorem v_X4_63 : vLk RX4 63 mX7_isWord 1 7 := ⟨nX7_isWord, (tW3 15 rfl rfl), (tW2 160 rfl rfl), (tW2 161 rfl rfl), _, _, rfl⟩
set_option maxRecDepth 100000 in
theorem v_X4_66 : vLk RX4 66 mX4_readLength 1 4 := ⟨nX4_readLength, (tW3 16 rfl rfl), (tW3 18 rfl rfl), (sW 3 rfl rfl), _, _, rfl⟩
set_option maxRecDepth 100000 in
theorem v_X4_72 : vLk RX4 72 mX7_needWord 1 7 := ⟨nX7_needWord, (tW2 237 rfl rfl), (tW2 238 rfl rfl), (tW2 239 rfl rfl), _, _, rfl⟩
set_option maxRecDepth 100000 in
theorem v_X4_76 : vLk RX4 76 mX7_needNumber 2 7 := ⟨nX7_needNumber, (tW2 219 rfl rfl), (tW2 220 rfl rfl), (tW2 221 rfl rfl), _, _, rfl⟩
set_option maxRecDepth 100000 in
theorem v_X4_80 : vLk RX4 80 mX7_needSign 1 7 := ⟨nX7_needSign, (tW3 2 rfl rfl), (tW3 3 rfl rfl), (tW3 4 rfl rfl), _, _, rfl⟩
set_option maxRecDepth 100000 in
theorem v_X4_94 : vLk RX4 94 mX3_addPieces 3 3 := ⟨nX3_addPieces, (tW3 10 rfl rfl), (tW3 11 rfl rfl), (tW3 12 rfl rfl), _, _, rfl⟩
set_option maxRecDepth 100000 in
theorem v_X5_3 : Cond.methodLink RX5 3 objectInit ∈ aW := (tW2 3 rfl rfl)
set_option maxRecDepth 100000 in
theorem v_X5_27 : iNk RX5 27 mX3_init 0 := ⟨nX3_init, by decide +kernel, (tW1 38 rfl rfl), rfl, rfl⟩
set_option maxRecDepth 100000 in
theorem v_X5_35 : vLk RX5 35 mX3_copyFrom 1 3 := ⟨nX3_copyFrom, (tW4 119 rfl rfl), (tW3 25 rfl rfl), (tW3 26 rfl rfl), _, _, rfl⟩
set_option maxRecDepth 100000 in
theorem v_X5_42 : vLk RX5 42 mX5_layRow 0 5 := ⟨nX5_layRow, (tW4 120 rfl rfl), (tW4 122 rfl rfl), (sW 27 rfl rfl), _, _, rfl⟩
set_option maxRecDepth 100000 in
theorem v_X5_45 : vLk RX5 45 mX3_strandsInAll 0 3 := ⟨nX3_strandsInAll, (tW4 126 rfl rfl), (tW3 137 rfl rfl), (tW3 138 rfl rfl), _, _, rfl⟩
set_option maxRecDepth 100000 in
theorem v_X5_56 : vLk RX5 56 mX1_fly 4 1 := ⟨nX1_fly, (tW4 127 rfl rfl), (tW3 157 rfl rfl), (tW3 158 rfl rfl), _, _, rfl⟩
set_option maxRecDepth 100000 in
theorem v_X5_62 : vLk RX5 62 mX1_greatestSpeed 0 1 := ⟨nX1_greatestSpeed, (tW4 128 rfl rfl), (tW4 129 rfl rfl), (tW4 130 rfl rfl), _, _, rfl⟩
set_option maxRecDepth 100000 in
theorem v_X5_65 : vLk RX5 65 mX5_compare 1 5 := ⟨nX5_compare, (tW4 135 rfl rfl), (tW4 137 rfl rfl), (sW 28 rfl rfl), _, _, rfl⟩
set_option maxRecDepth 100000 in
theorem v_X5_69 : vLk RX5 69 mX5_nextRow 0 5 := ⟨nX5_nextRow, (tW4 140 rfl rfl), (tW4 142 rfl rfl), (sW 29 rfl rfl), _, _, rfl⟩
set_option maxRecDepth 100000 in
theorem v_X5_79 : Cond.methodLink RX5 79 arraycopyName ∈ aW := (tW4 139 rfl rfl)
set_option maxRecDepth 100000 in
theorem v_X6_3 : Cond.methodLink RX6 3 objectInit ∈ aW := (tW1 34 rfl rfl)
set_option maxRecDepth 100000 in
theorem v_X6_11 : iNk RX6 11 mX3_init 0 := ⟨nX3_init, by decide +kernel, (tW1 38 rfl rfl), rfl, rfl⟩
set_option maxRecDepth 100000 in
theorem v_X6_20 : iNk RX6 20 mX8_init 0 := ⟨nX8_init, by decide +kernel, (tW1 73 rfl rfl), rfl, rfl⟩
set_option maxRecDepth 100000 in
theorem v_X6_33 : vLk RX6 33 mX3_copyFrom 1 3 := ⟨nX3_copyFrom, (tW5 40 rfl rfl), (tW3 25 rfl rfl), (tW3 26 rfl rfl), _, _, rfl⟩
set_option maxRecDepth 100000 in
theorem v_X6_37 : vLk RX6 37 mX8_copyFrom 1 8 := ⟨nX8_copyFrom, (tW5 41 rfl rfl), (tW5 42 rfl rfl), (tW5 43 rfl rfl), _, _, rfl⟩
set_option maxRecDepth 100000 in
theorem v_X6_40 : Cond.methodLink RX6 40 arraycopyName ∈ aW := (tW5 46 rfl rfl)
set_option maxRecDepth 100000 in
theorem v_X7_3 : Cond.methodLink RX7 3 objectInit ∈ aW := (tW1 121 rfl rfl)
set_option maxRecDepth 100000 in
theorem v_X7_33 : vLk RX7 33 mX7_next 0 7 := ⟨nX7_next, (tW2 163 rfl rfl), (tW2 147 rfl rfl), (tW2 148 rfl rfl), _, _, rfl⟩
set_option maxRecDepth 100000 in
theorem v_X7_37 : vLk RX7 37 mX7_isFine 0 7 := ⟨nX7_isFine, (tW2 223 rfl rfl), (tW2 143 rfl rfl), (tW2 144 rfl rfl), _, _, rfl⟩
set_option maxRecDepth 100000 in
theorem v_X7_41 : vLk RX7 41 mX7_takesSign 1 7 := ⟨nX7_takesSign, (tW3 6 rfl rfl), (tW3 7 rfl rfl), (tW3 8 rfl rfl), _, _, rfl⟩
set_option maxRecDepth 100000 in
theorem v_X7_45 : vLk RX7 45 mX7_blame 2 7 := ⟨nX7_blame, (tW2 231 rfl rfl), (tW2 232 rfl rfl), (tW2 233 rfl rfl), _, _, rfl⟩
set_option maxRecDepth 100000 in
theorem v_X7_49 : tLk RX7 49 mJ0_length_8abf5 0 := ⟨nJ0_length_8abf5, (tW2 164 rfl rfl), (tW2 165 rfl rfl), (tW2 166 rfl rfl)⟩
set_option maxRecDepth 100000 in
theorem v_X7_54 : sLk RX7 54 mX7_isLetter 1 := ⟨nX7_isLetter, (tW2 174 rfl rfl), (tW2 175 rfl rfl)⟩
set_option maxRecDepth 100000 in
theorem v_X7_58 : tLk RX7 58 mJ0_charAt_5068e 1 := ⟨nJ0_charAt_5068e, (tW2 177 rfl rfl), (tW2 178 rfl rfl), (tW2 179 rfl rfl)⟩
set_option maxRecDepth 100000 in
theorem v_X7_62 : vLk RX7 62 mX7_isWord 1 7 := ⟨nX7_isWord, (tW2 159 rfl rfl), (tW2 160 rfl rfl), (tW2 161 rfl rfl), _, _, rfl⟩
set_option maxRecDepth 100000 in
theorem v_X7_66 : vLk RX7 66 mX7_readFigures 2 7 := ⟨nX7_readFigures, (tW2 224 rfl rfl), (tW2 226 rfl rfl), (sW 2 rfl rfl), _, _, rfl⟩
set_option maxRecDepth 100000 in
theorem v_X7_70 : sLk RX7 70 mX7_isFigure 1 := ⟨nX7_isFigure, (tW2 228 rfl rfl), (tW2 229 rfl rfl)⟩
set_option maxRecDepth 100000 in
theorem v_X8_3 : Cond.methodLink RX8 3 objectInit ∈ aW := (tW1 75 rfl rfl)
set_option maxRecDepth 100000 in
theorem v_X8_25 : Cond.methodLink RX8 25 arraycopyName ∈ aW := (tW5 45 rfl rfl)
set_option maxRecDepth 100000 in
theorem v_X9_3 : Cond.methodLink RX9 3 objectInit ∈ aW := (tW1 170 rfl rfl)
set_option maxRecDepth 100000 in
theorem v_X9_44 : vLk RX9 44 mX7_begin 0 7 := ⟨nX7_begin, (tW3 44 rfl rfl), (tW2 139 rfl rfl), (tW2 140 rfl rfl), _, _, rfl⟩
set_option maxRecDepth 100000 in
theorem v_X9_49 : vLk RX9 49 mX7_isFine 0 7 := ⟨nX7_isFine, (tW3 45 rfl rfl), (tW2 143 rfl rfl), (tW2 144 rfl rfl), _, _, rfl⟩
set_option maxRecDepth 100000 in
theorem v_X9_53 : vLk RX9 53 mX7_next 0 7 := ⟨nX7_next, (tW3 46 rfl rfl), (tW2 147 rfl rfl), (tW2 148 rfl rfl), _, _, rfl⟩
set_option maxRecDepth 100000 in
theorem v_X9_57 : vLk RX9 57 mX9_readPart 1 9 := ⟨nX9_readPart, (tW3 47 rfl rfl), (tW3 49 rfl rfl), (sW 6 rfl rfl), _, _, rfl⟩
set_option maxRecDepth 100000 in
theorem v_X9_64 : vLk RX9 64 mX7_blame 2 7 := ⟨nX7_blame, (tW3 76 rfl rfl), (tW2 232 rfl rfl), (tW2 233 rfl rfl), _, _, rfl⟩
set_option maxRecDepth 100000 in
theorem v_X9_72 : vLk RX9 72 mX8_addStep 3 8 := ⟨nX8_addStep, (tW3 90 rfl rfl), (tW3 91 rfl rfl), (tW3 92 rfl rfl), _, _, rfl⟩
set_option maxRecDepth 100000 in
theorem v_X9_78 : vLk RX9 78 mX7_takesWord 1 7 := ⟨nX7_takesWord, (tW3 52 rfl rfl), (tW2 156 rfl rfl), (tW2 157 rfl rfl), _, _, rfl⟩
set_option maxRecDepth 100000 in
theorem v_X9_82 : vLk RX9 82 mX9_readGo 1 9 := ⟨nX9_readGo, (tW3 53 rfl rfl), (tW3 55 rfl rfl), (sW 7 rfl rfl), _, _, rfl⟩
set_option maxRecDepth 100000 in
theorem v_X9_87 : vLk RX9 87 mX7_needNumber 2 7 := ⟨nX7_needNumber, (tW3 63 rfl rfl), (tW2 220 rfl rfl), (tW2 221 rfl rfl), _, _, rfl⟩
set_option maxRecDepth 100000 in
theorem v_X9_91 : vLk RX9 91 mX9_addStep 3 9 := ⟨nX9_addStep, (tW3 64 rfl rfl), (tW3 66 rfl rfl), (sW 8 rfl rfl), _, _, rfl⟩
set_option maxRecDepth 100000 in
theorem v_X9_92 : vLk RX9 92 mX7_needSign 1 7 := ⟨nX7_needSign, (tW3 68 rfl rfl), (tW3 3 rfl rfl), (tW3 4 rfl rfl), _, _, rfl⟩
set_option maxRecDepth 100000 in
theorem v_X9_97 : vLk RX9 97 mX7_isWord 1 7 := ⟨nX7_isWord, (tW3 71 rfl rfl), (tW2 160 rfl rfl), (tW2 161 rfl rfl), _, _, rfl⟩
set_option maxRecDepth 100000 in
theorem v_X9_100 : vLk RX9 100 mX9_openTimes 1 9 := ⟨nX9_openTimes, (tW3 72 rfl rfl), (tW3 74 rfl rfl), (sW 9 rfl rfl), _, _, rfl⟩
set_option maxRecDepth 100000 in
theorem v_X9_103 : vLk RX9 103 mX7_takesSign 1 7 := ⟨nX7_takesSign, (tW3 77 rfl rfl), (tW3 7 rfl rfl), (tW3 8 rfl rfl), _, _, rfl⟩
set_option maxRecDepth 100000 in
theorem v_X9_107 : vLk RX9 107 mX9_closeTimes 0 9 := ⟨nX9_closeTimes, (tW3 78 rfl rfl), (tW3 80 rfl rfl), (sW 10 rfl rfl), _, _, rfl⟩
set_option maxRecDepth 100000 in
theorem v_X9_113 : vLk RX9 113 mX7_needMove 0 7 := ⟨nX7_needMove, (tW3 57 rfl rfl), (tW3 58 rfl rfl), (tW3 59 rfl rfl), _, _, rfl⟩
set_option maxRecDepth 100000 in
theorem v_X9_118 : vLk RX9 118 mX7_needWord 1 7 := ⟨nX7_needWord, (tW3 62 rfl rfl), (tW2 238 rfl rfl), (tW2 239 rfl rfl), _, _, rfl⟩
set_option maxRecDepth 100000 in
theorem v_X9_122 : vLk RX9 122 mX9_copyStep 1 9 := ⟨nX9_copyStep, (tW3 82 rfl rfl), (tW3 84 rfl rfl), (sW 11 rfl rfl), _, _, rfl⟩
set_option maxRecDepth 100000 in
theorem v_L_9 : iLk RL 9 mX10_init 0 := ⟨nX10_init, (tW1 23 rfl rfl), (tW1 24 rfl rfl), rfl, rfl⟩
set_option maxRecDepth 100000 in
theorem v_L_12 : iLk RL 12 mX11_init 0 := ⟨nX11_init, (tW5 53 rfl rfl), (tW5 54 rfl rfl), rfl, rfl⟩
set_option maxRecDepth 100000 in
theorem v_L_15 : vLk RL 15 mX10_feed 2 10 := ⟨nX10_feed, (tW2 121 rfl rfl), (tW2 122 rfl rfl), (tW2 123 rfl rfl), _, _, rfl⟩
set_option maxRecDepth 100000 in
theorem v_L_19 : vLk RL 19 mX11_feed 2 11 := ⟨nX11_feed, (tW6 0 rfl rfl), (tW6 1 rfl rfl), (tW6 2 rfl rfl), _, _, rfl⟩
set_option maxRecDepth 100000 in
theorem v_L_20 : vLk RL 20 mX10_plait 0 10 := ⟨nX10_plait, (tW2 130 rfl rfl), (tW2 131 rfl rfl), (tW2 132 rfl rfl), _, _, rfl⟩
set_option maxRecDepth 100000 in
theorem v_L_24 : vLk RL 24 mX11_plait 0 11 := ⟨nX11_plait, (tW6 9 rfl rfl), (tW6 10 rfl rfl), (tW6 11 rfl rfl), _, _, rfl⟩
set_option maxRecDepth 100000 in
theorem v_L_25 : vLk RL 25 mX10_way 0 10 := ⟨nX10_way, (tW3 36 rfl rfl), (tW3 37 rfl rfl), (tW3 38 rfl rfl), _, _, rfl⟩
set_option maxRecDepth 100000 in
theorem v_L_28 : vLk RL 28 mX11_way 0 11 := ⟨nX11_way, (tW6 52 rfl rfl), (tW6 53 rfl rfl), (tW6 54 rfl rfl), _, _, rfl⟩
set_option maxRecDepth 100000 in
theorem v_L_29 : vLk RL 29 mX10_fault 0 10 := ⟨nX10_fault, (tW3 94 rfl rfl), (tW3 95 rfl rfl), (tW3 96 rfl rfl), _, _, rfl⟩
set_option maxRecDepth 100000 in
theorem v_L_32 : vLk RL 32 mX11_fault 0 11 := ⟨nX11_fault, (tW6 72 rfl rfl), (tW6 73 rfl rfl), (tW6 74 rfl rfl), _, _, rfl⟩
set_option maxRecDepth 100000 in
theorem v_L_33 : vLk RL 33 mX10_piece 2 10 := ⟨nX10_piece, (tW3 98 rfl rfl), (tW3 99 rfl rfl), (tW3 100 rfl rfl), _, _, rfl⟩
set_option maxRecDepth 100000 in
theorem v_L_37 : vLk RL 37 mX11_piece 2 11 := ⟨nX11_piece, (tW6 76 rfl rfl), (tW6 77 rfl rfl), (tW6 78 rfl rfl), _, _, rfl⟩
set_option maxRecDepth 100000 in
theorem v_L_38 : vLk RL 38 mX10_law 2 10 := ⟨nX10_law, (tW3 117 rfl rfl), (tW3 118 rfl rfl), (tW3 119 rfl rfl), _, _, rfl⟩
set_option maxRecDepth 100000 in
theorem v_L_41 : vLk RL 41 mX11_law 2 11 := ⟨nX11_law, (tW6 94 rfl rfl), (tW6 95 rfl rfl), (tW6 96 rfl rfl), _, _, rfl⟩
set_option maxRecDepth 100000 in
theorem v_L_42 : vLk RL 42 mX10_give 1 10 := ⟨nX10_give, (tW3 125 rfl rfl), (tW3 126 rfl rfl), (tW3 127 rfl rfl), _, _, rfl⟩
set_option maxRecDepth 100000 in
theorem v_L_46 : vLk RL 46 mX11_give 1 11 := ⟨nX11_give, (tW6 102 rfl rfl), (tW6 103 rfl rfl), (tW6 104 rfl rfl), _, _, rfl⟩
set_option maxRecDepth 100000 in
theorem v_L_47 : vLk RL 47 mX10_count 1 10 := ⟨nX10_count, (tW3 132 rfl rfl), (tW3 133 rfl rfl), (tW3 134 rfl rfl), _, _, rfl⟩
set_option maxRecDepth 100000 in
theorem v_L_50 : vLk RL 50 mX11_count 1 11 := ⟨nX11_count, (tW6 108 rfl rfl), (tW6 109 rfl rfl), (tW6 110 rfl rfl), _, _, rfl⟩
set_option maxRecDepth 100000 in
theorem v_L_51 : vLk RL 51 mX10_joint 3 10 := ⟨nX10_joint, (tW3 140 rfl rfl), (tW3 141 rfl rfl), (tW3 142 rfl rfl), _, _, rfl⟩
set_option maxRecDepth 100000 in
theorem v_L_55 : vLk RL 55 mX11_joint 3 11 := ⟨nX11_joint, (tW6 116 rfl rfl), (tW6 117 rfl rfl), (tW6 118 rfl rfl), _, _, rfl⟩
set_option maxRecDepth 100000 in
theorem v_L_56 : vLk RL 56 mX10_speed 2 10 := ⟨nX10_speed, (tW3 214 rfl rfl), (tW3 215 rfl rfl), (tW3 216 rfl rfl), _, _, rfl⟩
set_option maxRecDepth 100000 in
theorem v_L_59 : vLk RL 59 mX11_speed 2 11 := ⟨nX11_speed, (tW6 156 rfl rfl), (tW6 157 rfl rfl), (tW6 158 rfl rfl), _, _, rfl⟩
set_option maxRecDepth 100000 in
theorem v_L_60 : vLk RL 60 mX10_force 2 10 := ⟨nX10_force, (tW3 229 rfl rfl), (tW3 230 rfl rfl), (tW3 231 rfl rfl), _, _, rfl⟩
set_option maxRecDepth 100000 in
theorem v_L_64 : vLk RL 64 mX11_force 2 11 := ⟨nX11_force, (tW6 164 rfl rfl), (tW6 165 rfl rfl), (tW6 166 rfl rfl), _, _, rfl⟩
set_option maxRecDepth 100000 in
theorem v_L_65 : vLk RL 65 mX10_loop 1 10 := ⟨nX10_loop, (tW4 3 rfl rfl), (tW4 4 rfl rfl), (tW4 5 rfl rfl), _, _, rfl⟩
set_option maxRecDepth 100000 in
theorem v_L_68 : vLk RL 68 mX11_loop 1 11 := ⟨nX11_loop, (tW6 173 rfl rfl), (tW6 174 rfl rfl), (tW6 175 rfl rfl), _, _, rfl⟩
set_option maxRecDepth 100000 in
theorem v_L_69 : vLk RL 69 mX10_crack 2 10 := ⟨nX10_crack, (tW4 11 rfl rfl), (tW4 12 rfl rfl), (tW4 13 rfl rfl), _, _, rfl⟩
set_option maxRecDepth 100000 in
theorem v_L_72 : vLk RL 72 mX11_crack 2 11 := ⟨nX11_crack, (tW6 181 rfl rfl), (tW6 182 rfl rfl), (tW6 183 rfl rfl), _, _, rfl⟩
set_option maxRecDepth 100000 in
theorem v_L_73 : vLk RL 73 mX10_kind 0 10 := ⟨nX10_kind, (tW4 52 rfl rfl), (tW4 53 rfl rfl), (tW4 54 rfl rfl), _, _, rfl⟩
set_option maxRecDepth 100000 in
theorem v_L_76 : vLk RL 76 mX11_kind 0 11 := ⟨nX11_kind, (tW6 198 rfl rfl), (tW6 199 rfl rfl), (tW6 200 rfl rfl), _, _, rfl⟩
set_option maxRecDepth 100000 in
theorem v_L_77 : vLk RL 77 mX10_turns 0 10 := ⟨nX10_turns, (tW4 83 rfl rfl), (tW4 84 rfl rfl), (tW4 85 rfl rfl), _, _, rfl⟩
set_option maxRecDepth 100000 in
theorem v_L_80 : vLk RL 80 mX11_turns 0 11 := ⟨nX11_turns, (tW6 217 rfl rfl), (tW6 218 rfl rfl), (tW6 219 rfl rfl), _, _, rfl⟩
set_option maxRecDepth 100000 in
theorem v_L_81 : vLk RL 81 mX10_put 3 10 := ⟨nX10_put, (tW4 87 rfl rfl), (tW4 88 rfl rfl), (tW4 89 rfl rfl), _, _, rfl⟩
set_option maxRecDepth 100000 in
theorem v_L_84 : vLk RL 84 mX11_put 3 11 := ⟨nX11_put, (tW6 221 rfl rfl), (tW6 222 rfl rfl), (tW6 223 rfl rfl), _, _, rfl⟩
set_option maxRecDepth 100000 in
theorem v_L_85 : vLk RL 85 mX10_near 0 10 := ⟨nX10_near, (tW4 97 rfl rfl), (tW4 98 rfl rfl), (tW4 99 rfl rfl), _, _, rfl⟩
set_option maxRecDepth 100000 in
theorem v_L_88 : vLk RL 88 mX11_near 0 11 := ⟨nX11_near, (tW6 230 rfl rfl), (tW6 231 rfl rfl), (tW6 232 rfl rfl), _, _, rfl⟩
set_option maxRecDepth 100000 in
theorem v_L_89 : vLk RL 89 mX10_leastHand 0 10 := ⟨nX10_leastHand, (tW4 107 rfl rfl), (tW4 108 rfl rfl), (tW4 109 rfl rfl), _, _, rfl⟩
set_option maxRecDepth 100000 in
theorem v_L_92 : vLk RL 92 mX11_leastHand 0 11 := ⟨nX11_leastHand, (tW6 234 rfl rfl), (tW6 235 rfl rfl), (tW6 236 rfl rfl), _, _, rfl⟩
set_option maxRecDepth 100000 in
theorem v_L_93 : vLk RL 93 mX10_loudest 2 10 := ⟨nX10_loudest, (tW4 111 rfl rfl), (tW4 112 rfl rfl), (tW4 113 rfl rfl), _, _, rfl⟩
set_option maxRecDepth 100000 in
theorem v_L_96 : vLk RL 96 mX11_loudest 2 11 := ⟨nX11_loudest, (tW6 238 rfl rfl), (tW6 239 rfl rfl), (tW7 0 rfl rfl), _, _, rfl⟩
set_option maxRecDepth 100000 in
theorem v_L_97 : vLk RL 97 mX10_aim 5 10 := ⟨nX10_aim, (tW4 144 rfl rfl), (tW4 145 rfl rfl), (tW4 146 rfl rfl), _, _, rfl⟩
set_option maxRecDepth 100000 in
theorem v_L_101 : vLk RL 101 mX11_aim 5 11 := ⟨nX11_aim, (tW7 11 rfl rfl), (tW7 12 rfl rfl), (tW7 13 rfl rfl), _, _, rfl⟩
set_option maxRecDepth 100000 in
theorem v_L_102 : vLk RL 102 mX10_alone 2 10 := ⟨nX10_alone, (tW4 153 rfl rfl), (tW4 154 rfl rfl), (tW4 155 rfl rfl), _, _, rfl⟩
set_option maxRecDepth 100000 in
theorem v_L_105 : vLk RL 105 mX11_alone 2 11 := ⟨nX11_alone, (tW7 19 rfl rfl), (tW7 20 rfl rfl), (tW7 21 rfl rfl), _, _, rfl⟩
set_option maxRecDepth 100000 in
theorem v_L_106 : vLk RL 106 mX10_bestAim 3 10 := ⟨nX10_bestAim, (tW4 165 rfl rfl), (tW4 166 rfl rfl), (tW4 167 rfl rfl), _, _, rfl⟩
set_option maxRecDepth 100000 in
theorem v_L_109 : vLk RL 109 mX11_bestAim 3 11 := ⟨nX11_bestAim, (tW7 27 rfl rfl), (tW7 28 rfl rfl), (tW7 29 rfl rfl), _, _, rfl⟩
set_option maxRecDepth 100000 in
theorem v_L_110 : vLk RL 110 mX10_close 3 10 := ⟨nX10_close, (tW4 170 rfl rfl), (tW4 171 rfl rfl), (tW4 172 rfl rfl), _, _, rfl⟩
set_option maxRecDepth 100000 in
theorem v_L_113 : vLk RL 113 mX11_close 3 11 := ⟨nX11_close, (tW7 32 rfl rfl), (tW7 33 rfl rfl), (tW7 34 rfl rfl), _, _, rfl⟩
set_option maxRecDepth 100000 in
theorem v_L_114 : vLk RL 114 mX10_rhythm 4 10 := ⟨nX10_rhythm, (tW4 178 rfl rfl), (tW4 179 rfl rfl), (tW4 180 rfl rfl), _, _, rfl⟩
set_option maxRecDepth 100000 in
theorem v_L_118 : vLk RL 118 mX11_rhythm 4 11 := ⟨nX11_rhythm, (tW7 49 rfl rfl), (tW7 50 rfl rfl), (tW7 51 rfl rfl), _, _, rfl⟩
set_option maxRecDepth 100000 in
theorem v_L_119 : vLk RL 119 mX10_crackOn 0 10 := ⟨nX10_crackOn, (tW4 182 rfl rfl), (tW4 183 rfl rfl), (tW4 184 rfl rfl), _, _, rfl⟩
set_option maxRecDepth 100000 in
theorem v_L_122 : vLk RL 122 mX11_crackOn 0 11 := ⟨nX11_crackOn, (tW7 55 rfl rfl), (tW7 56 rfl rfl), (tW7 57 rfl rfl), _, _, rfl⟩
set_option maxRecDepth 100000 in
theorem v_L_123 : vLk RL 123 mX10_evening 1 10 := ⟨nX10_evening, (tW4 200 rfl rfl), (tW4 201 rfl rfl), (tW4 202 rfl rfl), _, _, rfl⟩
set_option maxRecDepth 100000 in
theorem v_L_126 : vLk RL 126 mX11_evening 1 11 := ⟨nX11_evening, (tW7 67 rfl rfl), (tW7 68 rfl rfl), (tW7 69 rfl rfl), _, _, rfl⟩
set_option maxRecDepth 100000 in
theorem v_L_127 : vLk RL 127 mX10_lay 2 10 := ⟨nX10_lay, (tW4 204 rfl rfl), (tW4 205 rfl rfl), (tW4 206 rfl rfl), _, _, rfl⟩
set_option maxRecDepth 100000 in
theorem v_L_130 : vLk RL 130 mX11_lay 2 11 := ⟨nX11_lay, (tW7 72 rfl rfl), (tW7 73 rfl rfl), (tW7 74 rfl rfl), _, _, rfl⟩
set_option maxRecDepth 100000 in
theorem v_L_131 : vLk RL 131 mX10_clear 0 10 := ⟨nX10_clear, (tW4 216 rfl rfl), (tW4 217 rfl rfl), (tW4 218 rfl rfl), _, _, rfl⟩
set_option maxRecDepth 100000 in
theorem v_L_134 : vLk RL 134 mX11_clear 0 11 := ⟨nX11_clear, (tW7 77 rfl rfl), (tW7 78 rfl rfl), (tW7 79 rfl rfl), _, _, rfl⟩
set_option maxRecDepth 100000 in
theorem v_L_135 : vLk RL 135 mX10_cut 0 10 := ⟨nX10_cut, (tW4 220 rfl rfl), (tW4 221 rfl rfl), (tW4 222 rfl rfl), _, _, rfl⟩
set_option maxRecDepth 100000 in
theorem v_L_138 : vLk RL 138 mX11_cut 0 11 := ⟨nX11_cut, (tW7 81 rfl rfl), (tW7 82 rfl rfl), (tW7 83 rfl rfl), _, _, rfl⟩
set_option maxRecDepth 100000 in
theorem v_L_139 : vLk RL 139 mX10_film 2 10 := ⟨nX10_film, (tW5 6 rfl rfl), (tW5 7 rfl rfl), (tW5 8 rfl rfl), _, _, rfl⟩
set_option maxRecDepth 100000 in
theorem v_L_142 : vLk RL 142 mX11_film 2 11 := ⟨nX11_film, (tW7 96 rfl rfl), (tW7 97 rfl rfl), (tW7 98 rfl rfl), _, _, rfl⟩
set_option maxRecDepth 100000 in
theorem v_L_143 : vLk RL 143 mX10_blank 0 10 := ⟨nX10_blank, (tW5 14 rfl rfl), (tW5 15 rfl rfl), (tW5 16 rfl rfl), _, _, rfl⟩
set_option maxRecDepth 100000 in
theorem v_L_146 : vLk RL 146 mX11_blank 0 11 := ⟨nX11_blank, (tW7 101 rfl rfl), (tW7 102 rfl rfl), (tW7 103 rfl rfl), _, _, rfl⟩
set_option maxRecDepth 100000 in
theorem v_L_147 : vLk RL 147 mX10_told 1 10 := ⟨nX10_told, (tW5 18 rfl rfl), (tW5 19 rfl rfl), (tW5 20 rfl rfl), _, _, rfl⟩
set_option maxRecDepth 100000 in
theorem v_L_150 : vLk RL 150 mX11_told 1 11 := ⟨nX11_told, (tW7 105 rfl rfl), (tW7 106 rfl rfl), (tW7 107 rfl rfl), _, _, rfl⟩
set_option maxRecDepth 100000 in
theorem v_L_151 : vLk RL 151 mX10_keep 1 10 := ⟨nX10_keep, (tW5 32 rfl rfl), (tW5 33 rfl rfl), (tW5 34 rfl rfl), _, _, rfl⟩
set_option maxRecDepth 100000 in
theorem v_L_154 : vLk RL 154 mX11_keep 1 11 := ⟨nX11_keep, (tW7 112 rfl rfl), (tW7 113 rfl rfl), (tW7 114 rfl rfl), _, _, rfl⟩
set_option maxRecDepth 100000 in
theorem v_L_155 : vLk RL 155 mX10_goBack 1 10 := ⟨nX10_goBack, (tW5 47 rfl rfl), (tW5 48 rfl rfl), (tW5 49 rfl rfl), _, _, rfl⟩
set_option maxRecDepth 100000 in
theorem v_L_158 : vLk RL 158 mX11_goBack 1 11 := ⟨nX11_goBack, (tW7 116 rfl rfl), (tW7 117 rfl rfl), (tW7 118 rfl rfl), _, _, rfl⟩
set_option maxRecDepth 100000 in
theorem v_X11_1 : Cond.methodLink RX11 1 objectInit ∈ aW := (tW5 56 rfl rfl)
set_option maxRecDepth 100000 in
theorem v_X11_146 : sLk RX11 146 mX11_root 1 := ⟨nX11_root, (tW6 138 rfl rfl), (tW6 139 rfl rfl)⟩
set_option maxRecDepth 100000 in
theorem v_X11_152 : sLk RX11 152 mX11_in 3 := ⟨nX11_in, (tW6 5 rfl rfl), (tW6 6 rfl rfl)⟩
set_option maxRecDepth 100000 in
theorem v_X11_167 : vLk RX11 167 mX11_here 0 11 := ⟨nX11_here, (tW6 17 rfl rfl), (tW6 19 rfl rfl), (sW 35 rfl rfl), _, _, rfl⟩
set_option maxRecDepth 100000 in
theorem v_X11_181 : sLk RX11 181 mX11_one 1 := ⟨nX11_one, (tW6 39 rfl rfl), (tW6 40 rfl rfl)⟩
set_option maxRecDepth 100000 in
theorem v_X11_189 : vLk RX11 189 mX11_want 3 11 := ⟨nX11_want, (tW6 44 rfl rfl), (tW6 46 rfl rfl), (sW 40 rfl rfl), _, _, rfl⟩
set_option maxRecDepth 100000 in
theorem v_X11_193 : vLk RX11 193 mX11_takeNumber 3 11 := ⟨nX11_takeNumber, (tW6 35 rfl rfl), (tW6 37 rfl rfl), (sW 39 rfl rfl), _, _, rfl⟩
set_option maxRecDepth 100000 in
theorem v_X11_200 : vLk RX11 200 mX11_takeWord 0 11 := ⟨nX11_takeWord, (tW6 21 rfl rfl), (tW6 23 rfl rfl), (sW 36 rfl rfl), _, _, rfl⟩
set_option maxRecDepth 100000 in
theorem v_X11_203 : vLk RX11 203 mX11_isWord 8 11 := ⟨nX11_isWord, (tW6 27 rfl rfl), (tW6 29 rfl rfl), (sW 37 rfl rfl), _, _, rfl⟩
set_option maxRecDepth 100000 in
theorem v_X11_207 : vLk RX11 207 mX11_beginText 0 11 := ⟨nX11_beginText, (tW6 13 rfl rfl), (tW6 15 rfl rfl), (sW 34 rfl rfl), _, _, rfl⟩
set_option maxRecDepth 100000 in
theorem v_X11_217 : vLk RX11 217 mX11_takePiece 0 11 := ⟨nX11_takePiece, (tW6 31 rfl rfl), (tW6 33 rfl rfl), (sW 38 rfl rfl), _, _, rfl⟩
set_option maxRecDepth 100000 in
theorem v_X11_220 : vLk RX11 220 mX11_takeSign 1 11 := ⟨nX11_takeSign, (tW6 48 rfl rfl), (tW6 50 rfl rfl), (sW 41 rfl rfl), _, _, rfl⟩
set_option maxRecDepth 100000 in
theorem v_X11_227 : vLk RX11 227 mX11_addOp 4 11 := ⟨nX11_addOp, (tW6 60 rfl rfl), (tW6 62 rfl rfl), (sW 43 rfl rfl), _, _, rfl⟩
set_option maxRecDepth 100000 in
theorem v_X11_231 : vLk RX11 231 mX11_takeGo 0 11 := ⟨nX11_takeGo, (tW6 64 rfl rfl), (tW6 66 rfl rfl), (sW 44 rfl rfl), _, _, rfl⟩
set_option maxRecDepth 100000 in
theorem v_X11_240 : vLk RX11 240 mX11_takeWay 0 11 := ⟨nX11_takeWay, (tW6 56 rfl rfl), (tW6 58 rfl rfl), (sW 42 rfl rfl), _, _, rfl⟩
set_option maxRecDepth 100000 in
theorem v_X11_243 : vLk RX11 243 mX11_runWay 0 11 := ⟨nX11_runWay, (tW6 68 rfl rfl), (tW6 70 rfl rfl), (sW 45 rfl rfl), _, _, rfl⟩
set_option maxRecDepth 100000 in
theorem v_X11_247 : sLk RX11 247 mX11_heft 1 := ⟨nX11_heft, (tW6 84 rfl rfl), (tW6 85 rfl rfl)⟩
set_option maxRecDepth 100000 in
theorem v_X11_251 : sLk RX11 251 mX11_stiff 1 := ⟨nX11_stiff, (tW6 91 rfl rfl), (tW6 92 rfl rfl)⟩
set_option maxRecDepth 100000 in
theorem v_X11_254 : vLk RX11 254 mX11_weightOf 1 11 := ⟨nX11_weightOf, (tW6 80 rfl rfl), (tW6 82 rfl rfl), (sW 46 rfl rfl), _, _, rfl⟩
set_option maxRecDepth 100000 in
theorem v_X11_257 : vLk RX11 257 mX11_bendsOf 1 11 := ⟨nX11_bendsOf, (tW6 87 rfl rfl), (tW6 89 rfl rfl), (sW 47 rfl rfl), _, _, rfl⟩
set_option maxRecDepth 100000 in
theorem v_X11_272 : vLk RX11 272 mX11_allStrands 0 11 := ⟨nX11_allStrands, (tW6 112 rfl rfl), (tW6 114 rfl rfl), (sW 48 rfl rfl), _, _, rfl⟩
set_option maxRecDepth 100000 in
theorem v_X11_284 : sLk RX11 284 mX11_cell 2 := ⟨nX11_cell, (tW6 128 rfl rfl), (tW6 129 rfl rfl)⟩
set_option maxRecDepth 100000 in
theorem v_X11_288 : sLk RX11 288 mX11_span 2 := ⟨nX11_span, (tW6 135 rfl rfl), (tW6 136 rfl rfl)⟩
set_option maxRecDepth 100000 in
theorem v_X11_294 : vLk RX11 294 mX11_goOn 2 11 := ⟨nX11_goOn, (tW6 131 rfl rfl), (tW6 133 rfl rfl), (sW 51 rfl rfl), _, _, rfl⟩
set_option maxRecDepth 100000 in
theorem v_X11_298 : vLk RX11 298 mX11_bend 2 11 := ⟨nX11_bend, (tW6 144 rfl rfl), (tW6 146 rfl rfl), (sW 52 rfl rfl), _, _, rfl⟩
set_option maxRecDepth 100000 in
theorem v_X11_301 : vLk RX11 301 mX11_pull 2 11 := ⟨nX11_pull, (tW6 148 rfl rfl), (tW6 150 rfl rfl), (sW 53 rfl rfl), _, _, rfl⟩
set_option maxRecDepth 100000 in
theorem v_X11_304 : vLk RX11 304 mX11_hold 2 11 := ⟨nX11_hold, (tW6 152 rfl rfl), (tW6 154 rfl rfl), (sW 54 rfl rfl), _, _, rfl⟩
set_option maxRecDepth 100000 in
theorem v_X11_307 : vLk RX11 307 mX11_noJoint 1 11 := ⟨nX11_noJoint, (tW6 120 rfl rfl), (tW6 122 rfl rfl), (sW 49 rfl rfl), _, _, rfl⟩
set_option maxRecDepth 100000 in
theorem v_X11_311 : vLk RX11 311 mX11_toss 1 11 := ⟨nX11_toss, (tW6 124 rfl rfl), (tW6 126 rfl rfl), (sW 50 rfl rfl), _, _, rfl⟩
set_option maxRecDepth 100000 in
theorem v_X11_314 : vLk RX11 314 mX11_speedOf 2 11 := ⟨nX11_speedOf, (tW6 160 rfl rfl), (tW6 162 rfl rfl), (sW 55 rfl rfl), _, _, rfl⟩
set_option maxRecDepth 100000 in
theorem v_X11_320 : vLk RX11 320 mX11_forceOf 2 11 := ⟨nX11_forceOf, (tW6 169 rfl rfl), (tW6 171 rfl rfl), (sW 56 rfl rfl), _, _, rfl⟩
set_option maxRecDepth 100000 in
theorem v_X11_323 : vLk RX11 323 mX11_loopOf 1 11 := ⟨nX11_loopOf, (tW6 177 rfl rfl), (tW6 179 rfl rfl), (sW 57 rfl rfl), _, _, rfl⟩
set_option maxRecDepth 100000 in
theorem v_X11_334 : vLk RX11 334 mX11_findCracks 0 11 := ⟨nX11_findCracks, (tW6 186 rfl rfl), (tW6 188 rfl rfl), (sW 58 rfl rfl), _, _, rfl⟩
set_option maxRecDepth 100000 in
theorem v_X11_337 : vLk RX11 337 mX11_farOf 1 11 := ⟨nX11_farOf, (tW6 190 rfl rfl), (tW6 192 rfl rfl), (sW 59 rfl rfl), _, _, rfl⟩
set_option maxRecDepth 100000 in
theorem v_X11_340 : vLk RX11 340 mX11_ofWhat 1 11 := ⟨nX11_ofWhat, (tW6 194 rfl rfl), (tW6 196 rfl rfl), (sW 60 rfl rfl), _, _, rfl⟩
set_option maxRecDepth 100000 in
theorem v_X11_346 : sLk RX11 346 mX11_quarter 3 := ⟨nX11_quarter, (tW6 206 rfl rfl), (tW6 207 rfl rfl)⟩
set_option maxRecDepth 100000 in
theorem v_X11_350 : vLk RX11 350 mX11_turnsOf 0 11 := ⟨nX11_turnsOf, (tW6 202 rfl rfl), (tW6 204 rfl rfl), (sW 61 rfl rfl), _, _, rfl⟩
set_option maxRecDepth 100000 in
theorem v_X11_353 : vLk RX11 353 mX11_isOverhead 0 11 := ⟨nX11_isOverhead, (tW6 209 rfl rfl), (tW6 211 rfl rfl), (sW 62 rfl rfl), _, _, rfl⟩
set_option maxRecDepth 100000 in
theorem v_X11_356 : vLk RX11 356 mX11_hasLoop 0 11 := ⟨nX11_hasLoop, (tW6 213 rfl rfl), (tW6 215 rfl rfl), (sW 63 rfl rfl), _, _, rfl⟩
set_option maxRecDepth 100000 in
theorem v_X11_363 : sLk RX11 363 mX11_isPlace 2 := ⟨nX11_isPlace, (tW6 225 rfl rfl), (tW6 226 rfl rfl)⟩
set_option maxRecDepth 100000 in
theorem v_X11_371 : sLk RX11 371 mX11_listed 1 := ⟨nX11_listed, (tW7 4 rfl rfl), (tW7 5 rfl rfl)⟩
set_option maxRecDepth 100000 in
theorem v_X11_374 : vLk RX11 374 mX11_greatestSpeed 0 11 := ⟨nX11_greatestSpeed, (tW7 7 rfl rfl), (tW7 9 rfl rfl), (sW 64 rfl rfl), _, _, rfl⟩
set_option maxRecDepth 100000 in
theorem v_X11_378 : vLk RX11 378 mX11_farFrom 4 11 := ⟨nX11_farFrom, (tW7 15 rfl rfl), (tW7 17 rfl rfl), (sW 65 rfl rfl), _, _, rfl⟩
set_option maxRecDepth 100000 in
theorem v_X11_382 : vLk RX11 382 mX11_aloneBy 2 11 := ⟨nX11_aloneBy, (tW7 23 rfl rfl), (tW7 25 rfl rfl), (sW 66 rfl rfl), _, _, rfl⟩
set_option maxRecDepth 100000 in
theorem v_X11_389 : sLk RX11 389 mX11_isTwo 2 := ⟨nX11_isTwo, (tW7 36 rfl rfl), (tW7 37 rfl rfl)⟩
set_option maxRecDepth 100000 in
theorem v_X11_394 : vLk RX11 394 mX11_tossBoth 2 11 := ⟨nX11_tossBoth, (tW7 40 rfl rfl), (tW7 42 rfl rfl), (sW 67 rfl rfl), _, _, rfl⟩
set_option maxRecDepth 100000 in
theorem v_X11_397 : vLk RX11 397 mX11_closeBy 1 11 := ⟨nX11_closeBy, (tW7 44 rfl rfl), (tW7 46 rfl rfl), (sW 68 rfl rfl), _, _, rfl⟩
set_option maxRecDepth 100000 in
theorem v_X11_404 : sLk RX11 404 mX11_wears 1 := ⟨nX11_wears, (tW7 63 rfl rfl), (tW7 64 rfl rfl)⟩
set_option maxRecDepth 100000 in
theorem v_X11_409 : vLk RX11 409 mX11_wearOnce 0 11 := ⟨nX11_wearOnce, (tW7 59 rfl rfl), (tW7 61 rfl rfl), (sW 69 rfl rfl), _, _, rfl⟩
set_option maxRecDepth 100000 in
theorem v_X11_416 : vLk RX11 416 mX11_sumOf 1 11 := ⟨nX11_sumOf, (tW7 92 rfl rfl), (tW7 94 rfl rfl), (sW 71 rfl rfl), _, _, rfl⟩
set_option maxRecDepth 100000 in
theorem v_X11_419 : sLk RX11 419 mX11_ones 1 := ⟨nX11_ones, (tW7 85 rfl rfl), (tW7 86 rfl rfl)⟩
set_option maxRecDepth 100000 in
theorem v_X11_422 : vLk RX11 422 mX11_canCut 1 11 := ⟨nX11_canCut, (tW7 88 rfl rfl), (tW7 90 rfl rfl), (sW 70 rfl rfl), _, _, rfl⟩
set_option maxRecDepth 100000 in
theorem v_X11_427 : sLk RX11 427 mX11_size 1 := ⟨nX11_size, (tW7 109 rfl rfl), (tW7 110 rfl rfl)⟩
set_option maxRecDepth 100000 in
theorem v_J13_308 : sLk RJ13 308 mJ6_numberOfLeadingZeros_0f7a4 1 := ⟨nJ6_numberOfLeadingZeros_0f7a4, (tW3 180 rfl rfl), (tW3 181 rfl rfl)⟩
set_option maxRecDepth 100000 in
theorem v_J0_335 : tLk RJ0 335 mJ0_coder_7d493 0 := ⟨nJ0_coder_7d493, (tW2 168 rfl rfl), (tW2 169 rfl rfl), (tW2 170 rfl rfl)⟩
set_option maxRecDepth 100000 in
theorem v_J0_492 : tLk RJ0 492 mJ0_isLatin1_aae02 0 := ⟨nJ0_isLatin1_aae02, (tW2 181 rfl rfl), (tW2 182 rfl rfl), (tW2 183 rfl rfl)⟩
set_option maxRecDepth 100000 in
theorem v_J0_495 : sLk RJ0 495 mJ1_charAt_3b067 2 := ⟨nJ1_charAt_3b067, (tW2 185 rfl rfl), (tW2 186 rfl rfl)⟩
set_option maxRecDepth 100000 in
theorem v_J0_498 : sLk RJ0 498 mJ2_charAt_3b067 2 := ⟨nJ2_charAt_3b067, (tW2 196 rfl rfl), (tW2 197 rfl rfl)⟩
set_option maxRecDepth 100000 in
theorem v_J0_1059 : sLk RJ0 1059 mJ3_checkIndex_8e157 3 := ⟨nJ3_checkIndex_8e157, (tW2 193 rfl rfl), (tW2 194 rfl rfl)⟩
set_option maxRecDepth 100000 in
theorem v_J1_9 : sLk RJ1 9 mJ0_checkIndex_df160 2 := ⟨nJ0_checkIndex_df160, (tW2 188 rfl rfl), (tW2 189 rfl rfl)⟩
set_option maxRecDepth 100000 in
theorem v_J2_48 : sLk RJ2 48 mJ2_length_9d52b 1 := ⟨nJ2_length_9d52b, (tW2 202 rfl rfl), (tW2 203 rfl rfl)⟩
set_option maxRecDepth 100000 in
theorem v_J2_67 : sLk RJ2 67 mJ2_checkIndex_2214a 2 := ⟨nJ2_checkIndex_2214a, (tW2 199 rfl rfl), (tW2 200 rfl rfl)⟩
set_option maxRecDepth 100000 in
theorem v_J2_71 : sLk RJ2 71 mJ2_getChar_3b067 2 := ⟨nJ2_getChar_3b067, (tW2 206 rfl rfl), (tW2 207 rfl rfl)⟩
set_option maxRecDepth 100000 in
theorem v_J2_414 : sLk RJ2 414 mJ0_checkIndex_df160 2 := ⟨nJ0_checkIndex_df160, (tW2 205 rfl rfl), (tW2 189 rfl rfl)⟩
set_option maxRecDepth 100000 in
theorem k_X10_285 : Cond.constant RX10 285 (Int32.ofInt (2147483647)) ∈ aW := (tW4 169 rfl rfl)
set_option maxRecDepth 100000 in
theorem k_X1_140 : Cond.constant RX1 140 (Int32.ofInt (2147483647)) ∈ aW := (tW4 152 rfl rfl)
set_option maxRecDepth 100000 in
theorem k_J6_264 : Cond.constant RJ6 264 (Int32.ofInt (65536)) ∈ aW := (tW3 183 rfl rfl)
set_option maxRecDepth 100000 in
theorem k_J6_265 : Cond.constant RJ6 265 (Int32.ofInt (1431655765)) ∈ aW := (tW4 231 rfl rfl)
set_option maxRecDepth 100000 in
theorem k_J6_266 : Cond.constant RJ6 266 (Int32.ofInt (858993459)) ∈ aW := (tW4 232 rfl rfl)
set_option maxRecDepth 100000 in
theorem k_J6_267 : Cond.constant RJ6 267 (Int32.ofInt (252645135)) ∈ aW := (tW4 233 rfl rfl)
set_option maxRecDepth 100000 in
theorem k_X10_209 : Cond.constantLong RX10 209 (Int64.ofInt (-1001)) ∈ aW := (tW3 233 rfl rfl)
set_option maxRecDepth 100000 in
theorem k_X10_352 : Cond.constantLong RX10 352 (Int64.ofInt (2)) ∈ aW := (tW3 184 rfl rfl)
set_option maxRecDepth 100000 in
theorem k_X1_79 : Cond.constantLong RX1 79 (Int64.ofInt (1000)) ∈ aW := (tW3 173 rfl rfl)
set_option maxRecDepth 100000 in
theorem k_X1_85 : Cond.constantLong RX1 85 (Int64.ofInt (2)) ∈ aW := (tW3 189 rfl rfl)
set_option maxRecDepth 100000 in
theorem k_X1_136 : Cond.constantLong RX1 136 (Int64.ofInt (9223372036854775807)) ∈ aW := (tW4 161 rfl rfl)
set_option maxRecDepth 100000 in
theorem k_X7_31 : Cond.constantLong RX7 31 (Int64.ofInt (255)) ∈ aW := (tW2 129 rfl rfl)
set_option maxRecDepth 100000 in
theorem k_L_13 : Cond.constantLong RL 13 (Int64.ofInt (4294967295)) ∈ aW := (tW7 120 rfl rfl)
set_option maxRecDepth 100000 in
theorem k_X11_142 : Cond.constantLong RX11 142 (Int64.ofInt (3000000000)) ∈ aW := (tW6 141 rfl rfl)
set_option maxRecDepth 100000 in
theorem k_X11_144 : Cond.constantLong RX11 144 (Int64.ofInt (2)) ∈ aW := (tW6 142 rfl rfl)
set_option maxRecDepth 100000 in
theorem k_X11_150 : Cond.constantLong RX11 150 (Int64.ofInt (8)) ∈ aW := (tW6 4 rfl rfl)
set_option maxRecDepth 100000 in
theorem k_X11_159 : Cond.constantLong RX11 159 (Int64.ofInt (255)) ∈ aW := (tW6 8 rfl rfl)
set_option maxRecDepth 100000 in
theorem k_X11_174 : Cond.constantLong RX11 174 (Int64.ofInt (97)) ∈ aW := (tW6 25 rfl rfl)
set_option maxRecDepth 100000 in
theorem k_X11_176 : Cond.constantLong RX11 176 (Int64.ofInt (122)) ∈ aW := (tW6 26 rfl rfl)
set_option maxRecDepth 100000 in
theorem k_X11_185 : Cond.constantLong RX11 185 (Int64.ofInt (48)) ∈ aW := (tW6 42 rfl rfl)
set_option maxRecDepth 100000 in
theorem k_X11_187 : Cond.constantLong RX11 187 (Int64.ofInt (57)) ∈ aW := (tW6 43 rfl rfl)
set_option maxRecDepth 100000 in
theorem k_X11_260 : Cond.constantLong RX11 260 (Int64.ofInt (4)) ∈ aW := (tW6 98 rfl rfl)
set_option maxRecDepth 100000 in
theorem k_X11_262 : Cond.constantLong RX11 262 (Int64.ofInt (2000)) ∈ aW := (tW6 99 rfl rfl)
set_option maxRecDepth 100000 in
theorem k_X11_264 : Cond.constantLong RX11 264 (Int64.ofInt (30000)) ∈ aW := (tW6 100 rfl rfl)
set_option maxRecDepth 100000 in
theorem k_X11_266 : Cond.constantLong RX11 266 (Int64.ofInt (50)) ∈ aW := (tW6 101 rfl rfl)
set_option maxRecDepth 100000 in
theorem k_X11_268 : Cond.constantLong RX11 268 (Int64.ofInt (10)) ∈ aW := (tW6 106 rfl rfl)
set_option maxRecDepth 100000 in
theorem k_X11_270 : Cond.constantLong RX11 270 (Int64.ofInt (200)) ∈ aW := (tW6 107 rfl rfl)
set_option maxRecDepth 100000 in
theorem k_X11_292 : Cond.constantLong RX11 292 (Int64.ofInt (1000)) ∈ aW := (tW6 143 rfl rfl)
set_option maxRecDepth 100000 in
theorem k_X11_318 : Cond.constantLong RX11 318 (Int64.ofInt (-1001)) ∈ aW := (tW6 168 rfl rfl)
set_option maxRecDepth 100000 in
theorem k_X11_332 : Cond.constantLong RX11 332 (Int64.ofInt (6)) ∈ aW := (tW6 185 rfl rfl)
set_option maxRecDepth 100000 in
theorem k_X11_359 : Cond.constantLong RX11 359 (Int64.ofInt (-5000)) ∈ aW := (tW6 228 rfl rfl)
set_option maxRecDepth 100000 in
theorem k_X11_361 : Cond.constantLong RX11 361 (Int64.ofInt (5000)) ∈ aW := (tW6 229 rfl rfl)
set_option maxRecDepth 100000 in
theorem k_X11_367 : Cond.constantLong RX11 367 (Int64.ofInt (96)) ∈ aW := (tW7 2 rfl rfl)
set_option maxRecDepth 100000 in
theorem k_X11_369 : Cond.constantLong RX11 369 (Int64.ofInt (-1)) ∈ aW := (tW7 3 rfl rfl)
set_option maxRecDepth 100000 in
theorem k_X11_385 : Cond.constantLong RX11 385 (Int64.ofInt (9999)) ∈ aW := (tW7 31 rfl rfl)
set_option maxRecDepth 100000 in
theorem k_X11_387 : Cond.constantLong RX11 387 (Int64.ofInt (1000000000)) ∈ aW := (tW7 48 rfl rfl)
set_option maxRecDepth 100000 in
theorem k_X11_392 : Cond.constantLong RX11 392 (Int64.ofInt (30)) ∈ aW := (tW7 39 rfl rfl)
set_option maxRecDepth 100000 in
theorem k_X11_400 : Cond.constantLong RX11 400 (Int64.ofInt (-60)) ∈ aW := (tW7 53 rfl rfl)
set_option maxRecDepth 100000 in
theorem k_X11_402 : Cond.constantLong RX11 402 (Int64.ofInt (60)) ∈ aW := (tW7 54 rfl rfl)
set_option maxRecDepth 100000 in
theorem k_X11_407 : Cond.constantLong RX11 407 (Int64.ofInt (100)) ∈ aW := (tW7 66 rfl rfl)
set_option maxRecDepth 100000 in
theorem k_X11_412 : Cond.constantLong RX11 412 (Int64.ofInt (40)) ∈ aW := (tW7 71 rfl rfl)
set_option maxRecDepth 100000 in
theorem k_X11_414 : Cond.constantLong RX11 414 (Int64.ofInt (999)) ∈ aW := (tW7 76 rfl rfl)
set_option maxRecDepth 100000 in
theorem k_X11_425 : Cond.constantLong RX11 425 (Int64.ofInt (-9999)) ∈ aW := (tW7 100 rfl rfl)
set_option maxRecDepth 100000 in
theorem c_X10_7 : Cond.classLink RX10 7 RX6 ∈ aW := (tW1 29 rfl rfl)
set_option maxRecDepth 100000 in
theorem c_X10_22 : Cond.classLink RX10 22 RX7 ∈ aW := (tW1 116 rfl rfl)
set_option maxRecDepth 100000 in
theorem c_X10_29 : Cond.classLink RX10 29 RX4 ∈ aW := (tW1 149 rfl rfl)
set_option maxRecDepth 100000 in
theorem c_X10_36 : Cond.classLink RX10 36 RX9 ∈ aW := (tW1 165 rfl rfl)
set_option maxRecDepth 100000 in
theorem c_X10_43 : Cond.classLink RX10 43 RX1 ∈ aW := (tW1 202 rfl rfl)
set_option maxRecDepth 100000 in
theorem c_X10_53 : Cond.classLink RX10 53 RX5 ∈ aW := (tW1 238 rfl rfl)
set_option maxRecDepth 100000 in
theorem c_X10_60 : Cond.classLink RX10 60 RX2 ∈ aW := (tW2 25 rfl rfl)
set_option maxRecDepth 100000 in
theorem c_X10_67 : Cond.classLink RX10 67 RX0 ∈ aW := (tW2 49 rfl rfl)
set_option maxRecDepth 100000 in
theorem c_X4_9 : Cond.classLink RX4 9 RX3 ∈ aW := (tW1 155 rfl rfl)
set_option maxRecDepth 100000 in
theorem c_X5_25 : Cond.classLink RX5 25 RX3 ∈ aW := (tW2 4 rfl rfl)
set_option maxRecDepth 100000 in
theorem c_X6_9 : Cond.classLink RX6 9 RX3 ∈ aW := (tW1 35 rfl rfl)
set_option maxRecDepth 100000 in
theorem c_X6_18 : Cond.classLink RX6 18 RX8 ∈ aW := (tW1 70 rfl rfl)
set_option maxRecDepth 100000 in
theorem c_L_7 : Cond.classLink RL 7 RX10 ∈ aW := (tW1 21 rfl rfl)
set_option maxRecDepth 100000 in
theorem c_L_10 : Cond.classLink RL 10 RX11 ∈ aW := (tW5 51 rfl rfl)
theorem oi_1 : Cond.instanceMethod objectInit ∈ aW := aW_1 (by decide +kernel)
theorem oi_2 : Cond.code objectInit ⟨#[0xb1]⟩ 1 none ∈ aW := aW_1 (by decide +kernel)
theorem ac_1 : Cond.native arraycopyName ∈ aW := aW_1 (by decide +kernel)
theorem ac_2 : Cond.static arraycopyName ∈ aW := aW_1 (by decide +kernel)
theorem ac_3 : Cond.initialized "java/lang/System" ∈ aW := aW_1 (by decide +kernel)
set_option maxRecDepth 100000 in
theorem ar_int : Cond.arrayClass .int ∈ aW := aW_1 (by decide +kernel)
set_option maxRecDepth 100000 in
theorem ar_long : Cond.arrayClass .long ∈ aW := aW_1 (by decide +kernel)
set_option maxRecDepth 100000 in
theorem ar_boolean : Cond.arrayClass .boolean ∈ aW := aW_1 (by decide +kernel)
end
