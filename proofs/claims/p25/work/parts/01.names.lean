-- ===== PART A: goes FIRST, ahead of the names: the tables' words, and 'selects' of the private methods out of them =====
/-- a private method of a class that the tables say can be made, by its rows of tables_1 -/
def lw_okq (q : MethodName × Nat) : Prop := (q.1.cls ≠ "java/lang/invoke/MethodHandle" ∧ q.1.cls ≠ "java/lang/invoke/VarHandle") ∧ Cond.instantiable q.1.cls q.2 ∈ tables_1 ∧ Cond.privateMethod q.1 ∈ tables_1 ∧ Cond.instanceMethod q.1 ∈ tables_1
theorem lw_p0 : lw_okq (⟨"StoneSheets$Laws", "push", "(I)V"⟩, 4) := ⟨⟨by decide +kernel, by decide +kernel⟩, List.mem_of_getElem? (i := 28) (by decide +kernel), List.mem_of_getElem? (i := 355) (by decide +kernel), List.mem_of_getElem? (i := 356) (by decide +kernel)⟩
theorem lw_p1 : lw_okq (⟨"StoneSheets$Laws", "pop", "()I"⟩, 4) := ⟨⟨by decide +kernel, by decide +kernel⟩, List.mem_of_getElem? (i := 28) (by decide +kernel), List.mem_of_getElem? (i := 365) (by decide +kernel), List.mem_of_getElem? (i := 366) (by decide +kernel)⟩
theorem lw_p2 : lw_okq (⟨"StoneSheets$Rubbing", "rubbedAt", "(I)I"⟩, 6) := ⟨⟨by decide +kernel, by decide +kernel⟩, List.mem_of_getElem? (i := 87) (by decide +kernel), List.mem_of_getElem? (i := 408) (by decide +kernel), List.mem_of_getElem? (i := 409) (by decide +kernel)⟩
theorem lw_p3 : lw_okq (⟨"StoneSheets$Wall", "seeAgain", "(LStoneSheets$Rubbing;I)V"⟩, 10) := ⟨⟨by decide +kernel, by decide +kernel⟩, List.mem_of_getElem? (i := 76) (by decide +kernel), List.mem_of_getElem? (i := 565) (by decide +kernel), List.mem_of_getElem? (i := 566) (by decide +kernel)⟩
theorem lw_p4 : lw_okq (⟨"StoneSheets", "rowOf", "(I)LStoneSheets$Row;"⟩, 10) := ⟨⟨by decide +kernel, by decide +kernel⟩, List.mem_of_getElem? (i := 20) (by decide +kernel), List.mem_of_getElem? (i := 628) (by decide +kernel), List.mem_of_getElem? (i := 629) (by decide +kernel)⟩
theorem lw_p5 : lw_okq (⟨"StoneSheets$Reader", "nextWord", "()V"⟩, 11) := ⟨⟨by decide +kernel, by decide +kernel⟩, List.mem_of_getElem? (i := 159) (by decide +kernel), List.mem_of_getElem? (i := 685) (by decide +kernel), List.mem_of_getElem? (i := 686) (by decide +kernel)⟩
theorem lw_p6 : lw_okq (⟨"StoneSheets$Reader", "byteAt", "(I)I"⟩, 11) := ⟨⟨by decide +kernel, by decide +kernel⟩, List.mem_of_getElem? (i := 159) (by decide +kernel), List.mem_of_getElem? (i := 689) (by decide +kernel), List.mem_of_getElem? (i := 690) (by decide +kernel)⟩
theorem lw_p7 : lw_okq (⟨"StoneSheets$Reader", "keyRead", "()I"⟩, 11) := ⟨⟨by decide +kernel, by decide +kernel⟩, List.mem_of_getElem? (i := 159) (by decide +kernel), List.mem_of_getElem? (i := 697) (by decide +kernel), List.mem_of_getElem? (i := 698) (by decide +kernel)⟩
theorem lw_p8 : lw_okq (⟨"StoneSheets$Reader", "isWord", "(Ljava/lang/String;)Z"⟩, 11) := ⟨⟨by decide +kernel, by decide +kernel⟩, List.mem_of_getElem? (i := 159) (by decide +kernel), List.mem_of_getElem? (i := 702) (by decide +kernel), List.mem_of_getElem? (i := 703) (by decide +kernel)⟩
theorem lw_p9 : lw_okq (⟨"StoneSheets$Reader", "goesOn", "(LStoneSheets$Law;)Z"⟩, 11) := ⟨⟨by decide +kernel, by decide +kernel⟩, List.mem_of_getElem? (i := 159) (by decide +kernel), List.mem_of_getElem? (i := 760) (by decide +kernel), List.mem_of_getElem? (i := 761) (by decide +kernel)⟩
theorem lw_p10 : lw_okq (⟨"StoneSheets$Reader", "takeAhead", "(I)Z"⟩, 11) := ⟨⟨by decide +kernel, by decide +kernel⟩, List.mem_of_getElem? (i := 159) (by decide +kernel), List.mem_of_getElem? (i := 764) (by decide +kernel), List.mem_of_getElem? (i := 765) (by decide +kernel)⟩
theorem lw_p11 : lw_okq (⟨"StoneSheets$Reader", "push", "(I)V"⟩, 11) := ⟨⟨by decide +kernel, by decide +kernel⟩, List.mem_of_getElem? (i := 159) (by decide +kernel), List.mem_of_getElem? (i := 768) (by decide +kernel), List.mem_of_getElem? (i := 769) (by decide +kernel)⟩
theorem lw_p12 : lw_okq (⟨"StoneSheets$Reader", "takeBehind", "(LStoneSheets$Law;I)Z"⟩, 11) := ⟨⟨by decide +kernel, by decide +kernel⟩, List.mem_of_getElem? (i := 159) (by decide +kernel), List.mem_of_getElem? (i := 772) (by decide +kernel), List.mem_of_getElem? (i := 773) (by decide +kernel)⟩
theorem lw_p13 : lw_okq (⟨"StoneSheets$Reader", "unwind", "(LStoneSheets$Law;I)V"⟩, 11) := ⟨⟨by decide +kernel, by decide +kernel⟩, List.mem_of_getElem? (i := 159) (by decide +kernel), List.mem_of_getElem? (i := 776) (by decide +kernel), List.mem_of_getElem? (i := 777) (by decide +kernel)⟩
theorem lw_p14 : lw_okq (⟨"StoneSheets$Reader", "peek", "()I"⟩, 11) := ⟨⟨by decide +kernel, by decide +kernel⟩, List.mem_of_getElem? (i := 159) (by decide +kernel), List.mem_of_getElem? (i := 780) (by decide +kernel), List.mem_of_getElem? (i := 781) (by decide +kernel)⟩
theorem lw_p15 : lw_okq (⟨"StoneSheets$Reader", "endPiece", "(LStoneSheets$Law;)V"⟩, 11) := ⟨⟨by decide +kernel, by decide +kernel⟩, List.mem_of_getElem? (i := 159) (by decide +kernel), List.mem_of_getElem? (i := 791) (by decide +kernel), List.mem_of_getElem? (i := 792) (by decide +kernel)⟩
def lw_privs_1 : List (MethodName × Nat) := [(⟨"StoneSheets$Laws", "push", "(I)V"⟩, 4), (⟨"StoneSheets$Laws", "pop", "()I"⟩, 4), (⟨"StoneSheets$Rubbing", "rubbedAt", "(I)I"⟩, 6), (⟨"StoneSheets$Wall", "seeAgain", "(LStoneSheets$Rubbing;I)V"⟩, 10), (⟨"StoneSheets", "rowOf", "(I)LStoneSheets$Row;"⟩, 10), (⟨"StoneSheets$Reader", "nextWord", "()V"⟩, 11), (⟨"StoneSheets$Reader", "byteAt", "(I)I"⟩, 11), (⟨"StoneSheets$Reader", "keyRead", "()I"⟩, 11), (⟨"StoneSheets$Reader", "isWord", "(Ljava/lang/String;)Z"⟩, 11), (⟨"StoneSheets$Reader", "goesOn", "(LStoneSheets$Law;)Z"⟩, 11), (⟨"StoneSheets$Reader", "takeAhead", "(I)Z"⟩, 11), (⟨"StoneSheets$Reader", "push", "(I)V"⟩, 11), (⟨"StoneSheets$Reader", "takeBehind", "(LStoneSheets$Law;I)Z"⟩, 11), (⟨"StoneSheets$Reader", "unwind", "(LStoneSheets$Law;I)V"⟩, 11), (⟨"StoneSheets$Reader", "peek", "()I"⟩, 11), (⟨"StoneSheets$Reader", "endPiece", "(LStoneSheets$Law;)V"⟩, 11)]
theorem lw_r1 : ∀ q ∈ lw_privs_1, lw_okq q := List.forall_mem_cons.mpr ⟨lw_p0, List.forall_mem_cons.mpr ⟨lw_p1, List.forall_mem_cons.mpr ⟨lw_p2, List.forall_mem_cons.mpr ⟨lw_p3, List.forall_mem_cons.mpr ⟨lw_p4, List.forall_mem_cons.mpr ⟨lw_p5, List.forall_mem_cons.mpr ⟨lw_p6, List.forall_mem_cons.mpr ⟨lw_p7, List.forall_mem_cons.mpr ⟨lw_p8, List.forall_mem_cons.mpr ⟨lw_p9, List.forall_mem_cons.mpr ⟨lw_p10, List.forall_mem_cons.mpr ⟨lw_p11, List.forall_mem_cons.mpr ⟨lw_p12, List.forall_mem_cons.mpr ⟨lw_p13, List.forall_mem_cons.mpr ⟨lw_p14, List.forall_mem_cons.mpr ⟨lw_p15, fun _ h => absurd h List.not_mem_nil⟩⟩⟩⟩⟩⟩⟩⟩⟩⟩⟩⟩⟩⟩⟩⟩
theorem lw_p16 : lw_okq (⟨"StoneSheets$Reader", "takePiece", "(LStoneSheets$Law;)Z"⟩, 11) := ⟨⟨by decide +kernel, by decide +kernel⟩, List.mem_of_getElem? (i := 159) (by decide +kernel), List.mem_of_getElem? (i := 795) (by decide +kernel), List.mem_of_getElem? (i := 796) (by decide +kernel)⟩
theorem lw_p17 : lw_okq (⟨"StoneSheets$Reader", "numberRead", "()I"⟩, 11) := ⟨⟨by decide +kernel, by decide +kernel⟩, List.mem_of_getElem? (i := 159) (by decide +kernel), List.mem_of_getElem? (i := 799) (by decide +kernel), List.mem_of_getElem? (i := 800) (by decide +kernel)⟩
theorem lw_p18 : lw_okq (⟨"StoneSheets$Reader", "nameRead", "(I)I"⟩, 11) := ⟨⟨by decide +kernel, by decide +kernel⟩, List.mem_of_getElem? (i := 159) (by decide +kernel), List.mem_of_getElem? (i := 804) (by decide +kernel), List.mem_of_getElem? (i := 805) (by decide +kernel)⟩
theorem lw_p19 : lw_okq (⟨"StoneSheets", "slotOf", "(I)LStoneSheets$Slot;"⟩, 10) := ⟨⟨by decide +kernel, by decide +kernel⟩, List.mem_of_getElem? (i := 20) (by decide +kernel), List.mem_of_getElem? (i := 931) (by decide +kernel), List.mem_of_getElem? (i := 932) (by decide +kernel)⟩
theorem lw_p20 : lw_okq (⟨"StoneSheetsModel", "comes", "(III)V"⟩, 32) := ⟨⟨by decide +kernel, by decide +kernel⟩, List.mem_of_getElem? (i := 974) (by decide +kernel), List.mem_of_getElem? (i := 1089) (by decide +kernel), List.mem_of_getElem? (i := 1090) (by decide +kernel)⟩
theorem lw_p21 : lw_okq (⟨"StoneSheetsModel", "sets", "(III)V"⟩, 32) := ⟨⟨by decide +kernel, by decide +kernel⟩, List.mem_of_getElem? (i := 974) (by decide +kernel), List.mem_of_getElem? (i := 1093) (by decide +kernel), List.mem_of_getElem? (i := 1094) (by decide +kernel)⟩
theorem lw_p22 : lw_okq (⟨"StoneSheetsModel", "isRubbing", "(I)Z"⟩, 32) := ⟨⟨by decide +kernel, by decide +kernel⟩, List.mem_of_getElem? (i := 974) (by decide +kernel), List.mem_of_getElem? (i := 1101) (by decide +kernel), List.mem_of_getElem? (i := 1102) (by decide +kernel)⟩
theorem lw_p23 : lw_okq (⟨"StoneSheetsModel", "of", "(II)I"⟩, 32) := ⟨⟨by decide +kernel, by decide +kernel⟩, List.mem_of_getElem? (i := 974) (by decide +kernel), List.mem_of_getElem? (i := 1105) (by decide +kernel), List.mem_of_getElem? (i := 1106) (by decide +kernel)⟩
theorem lw_p24 : lw_okq (⟨"StoneSheetsModel", "covers", "(I)I"⟩, 32) := ⟨⟨by decide +kernel, by decide +kernel⟩, List.mem_of_getElem? (i := 974) (by decide +kernel), List.mem_of_getElem? (i := 1109) (by decide +kernel), List.mem_of_getElem? (i := 1110) (by decide +kernel)⟩
theorem lw_p25 : lw_okq (⟨"StoneSheetsModel", "coversFrom", "(II)I"⟩, 32) := ⟨⟨by decide +kernel, by decide +kernel⟩, List.mem_of_getElem? (i := 974) (by decide +kernel), List.mem_of_getElem? (i := 1113) (by decide +kernel), List.mem_of_getElem? (i := 1114) (by decide +kernel)⟩
theorem lw_p26 : lw_okq (⟨"StoneSheetsModel", "gains", "(I)I"⟩, 32) := ⟨⟨by decide +kernel, by decide +kernel⟩, List.mem_of_getElem? (i := 974) (by decide +kernel), List.mem_of_getElem? (i := 1118) (by decide +kernel), List.mem_of_getElem? (i := 1119) (by decide +kernel)⟩
theorem lw_p27 : lw_okq (⟨"StoneSheetsModel", "counts", "(I)I"⟩, 32) := ⟨⟨by decide +kernel, by decide +kernel⟩, List.mem_of_getElem? (i := 974) (by decide +kernel), List.mem_of_getElem? (i := 1122) (by decide +kernel), List.mem_of_getElem? (i := 1123) (by decide +kernel)⟩
theorem lw_p28 : lw_okq (⟨"StoneSheetsModel", "textAt", "(I)I"⟩, 32) := ⟨⟨by decide +kernel, by decide +kernel⟩, List.mem_of_getElem? (i := 974) (by decide +kernel), List.mem_of_getElem? (i := 1126) (by decide +kernel), List.mem_of_getElem? (i := 1127) (by decide +kernel)⟩
theorem lw_p29 : lw_okq (⟨"StoneSheetsModel", "worked", "(I)I"⟩, 32) := ⟨⟨by decide +kernel, by decide +kernel⟩, List.mem_of_getElem? (i := 974) (by decide +kernel), List.mem_of_getElem? (i := 1130) (by decide +kernel), List.mem_of_getElem? (i := 1131) (by decide +kernel)⟩
theorem lw_p30 : lw_okq (⟨"StoneSheetsModel", "loses", "(I)I"⟩, 32) := ⟨⟨by decide +kernel, by decide +kernel⟩, List.mem_of_getElem? (i := 974) (by decide +kernel), List.mem_of_getElem? (i := 1140) (by decide +kernel), List.mem_of_getElem? (i := 1141) (by decide +kernel)⟩
theorem lw_p31 : lw_okq (⟨"StoneSheetsModel", "worth", "(I)I"⟩, 32) := ⟨⟨by decide +kernel, by decide +kernel⟩, List.mem_of_getElem? (i := 974) (by decide +kernel), List.mem_of_getElem? (i := 1144) (by decide +kernel), List.mem_of_getElem? (i := 1145) (by decide +kernel)⟩
def lw_privs_2 : List (MethodName × Nat) := [(⟨"StoneSheets$Reader", "takePiece", "(LStoneSheets$Law;)Z"⟩, 11), (⟨"StoneSheets$Reader", "numberRead", "()I"⟩, 11), (⟨"StoneSheets$Reader", "nameRead", "(I)I"⟩, 11), (⟨"StoneSheets", "slotOf", "(I)LStoneSheets$Slot;"⟩, 10), (⟨"StoneSheetsModel", "comes", "(III)V"⟩, 32), (⟨"StoneSheetsModel", "sets", "(III)V"⟩, 32), (⟨"StoneSheetsModel", "isRubbing", "(I)Z"⟩, 32), (⟨"StoneSheetsModel", "of", "(II)I"⟩, 32), (⟨"StoneSheetsModel", "covers", "(I)I"⟩, 32), (⟨"StoneSheetsModel", "coversFrom", "(II)I"⟩, 32), (⟨"StoneSheetsModel", "gains", "(I)I"⟩, 32), (⟨"StoneSheetsModel", "counts", "(I)I"⟩, 32), (⟨"StoneSheetsModel", "textAt", "(I)I"⟩, 32), (⟨"StoneSheetsModel", "worked", "(I)I"⟩, 32), (⟨"StoneSheetsModel", "loses", "(I)I"⟩, 32), (⟨"StoneSheetsModel", "worth", "(I)I"⟩, 32)]
theorem lw_r2 : ∀ q ∈ lw_privs_2, lw_okq q := List.forall_mem_cons.mpr ⟨lw_p16, List.forall_mem_cons.mpr ⟨lw_p17, List.forall_mem_cons.mpr ⟨lw_p18, List.forall_mem_cons.mpr ⟨lw_p19, List.forall_mem_cons.mpr ⟨lw_p20, List.forall_mem_cons.mpr ⟨lw_p21, List.forall_mem_cons.mpr ⟨lw_p22, List.forall_mem_cons.mpr ⟨lw_p23, List.forall_mem_cons.mpr ⟨lw_p24, List.forall_mem_cons.mpr ⟨lw_p25, List.forall_mem_cons.mpr ⟨lw_p26, List.forall_mem_cons.mpr ⟨lw_p27, List.forall_mem_cons.mpr ⟨lw_p28, List.forall_mem_cons.mpr ⟨lw_p29, List.forall_mem_cons.mpr ⟨lw_p30, List.forall_mem_cons.mpr ⟨lw_p31, fun _ h => absurd h List.not_mem_nil⟩⟩⟩⟩⟩⟩⟩⟩⟩⟩⟩⟩⟩⟩⟩⟩
theorem lw_p32 : lw_okq (⟨"StoneSheetsModel", "saysAt", "(II)I"⟩, 32) := ⟨⟨by decide +kernel, by decide +kernel⟩, List.mem_of_getElem? (i := 974) (by decide +kernel), List.mem_of_getElem? (i := 1152) (by decide +kernel), List.mem_of_getElem? (i := 1153) (by decide +kernel)⟩
theorem lw_p33 : lw_okq (⟨"StoneSheetsModel", "becomes", "(II)I"⟩, 32) := ⟨⟨by decide +kernel, by decide +kernel⟩, List.mem_of_getElem? (i := 974) (by decide +kernel), List.mem_of_getElem? (i := 1171) (by decide +kernel), List.mem_of_getElem? (i := 1172) (by decide +kernel)⟩
theorem lw_p34 : lw_okq (⟨"StoneSheetsModel", "drawn", "()I"⟩, 32) := ⟨⟨by decide +kernel, by decide +kernel⟩, List.mem_of_getElem? (i := 974) (by decide +kernel), List.mem_of_getElem? (i := 1197) (by decide +kernel), List.mem_of_getElem? (i := 1198) (by decide +kernel)⟩
theorem lw_p35 : lw_okq (⟨"StoneSheetsModel", "falseOf", "(II)I"⟩, 32) := ⟨⟨by decide +kernel, by decide +kernel⟩, List.mem_of_getElem? (i := 974) (by decide +kernel), List.mem_of_getElem? (i := 1211) (by decide +kernel), List.mem_of_getElem? (i := 1212) (by decide +kernel)⟩
theorem lw_p36 : lw_okq (⟨"StoneSheetsModel", "joinBy", "(III)I"⟩, 32) := ⟨⟨by decide +kernel, by decide +kernel⟩, List.mem_of_getElem? (i := 974) (by decide +kernel), List.mem_of_getElem? (i := 1223) (by decide +kernel), List.mem_of_getElem? (i := 1224) (by decide +kernel)⟩
theorem lw_p37 : lw_okq (⟨"StoneSheetsModel", "doClash", "(II)Z"⟩, 32) := ⟨⟨by decide +kernel, by decide +kernel⟩, List.mem_of_getElem? (i := 974) (by decide +kernel), List.mem_of_getElem? (i := 1231) (by decide +kernel), List.mem_of_getElem? (i := 1232) (by decide +kernel)⟩
theorem lw_p38 : lw_okq (⟨"StoneSheetsModel", "findClashing", "()V"⟩, 32) := ⟨⟨by decide +kernel, by decide +kernel⟩, List.mem_of_getElem? (i := 974) (by decide +kernel), List.mem_of_getElem? (i := 1239) (by decide +kernel), List.mem_of_getElem? (i := 1240) (by decide +kernel)⟩
theorem lw_p39 : lw_okq (⟨"StoneSheetsModel", "laidOnes", "()I"⟩, 32) := ⟨⟨by decide +kernel, by decide +kernel⟩, List.mem_of_getElem? (i := 974) (by decide +kernel), List.mem_of_getElem? (i := 1243) (by decide +kernel), List.mem_of_getElem? (i := 1244) (by decide +kernel)⟩
theorem lw_p40 : lw_okq (⟨"StoneSheetsModel", "areAtPeace", "(I)Z"⟩, 32) := ⟨⟨by decide +kernel, by decide +kernel⟩, List.mem_of_getElem? (i := 974) (by decide +kernel), List.mem_of_getElem? (i := 1250) (by decide +kernel), List.mem_of_getElem? (i := 1251) (by decide +kernel)⟩
theorem lw_p41 : lw_okq (⟨"StoneSheetsModel", "coveredBy", "(I)I"⟩, 32) := ⟨⟨by decide +kernel, by decide +kernel⟩, List.mem_of_getElem? (i := 974) (by decide +kernel), List.mem_of_getElem? (i := 1258) (by decide +kernel), List.mem_of_getElem? (i := 1259) (by decide +kernel)⟩
theorem lw_p42 : lw_okq (⟨"StoneSheetsModel", "otherwiseAt", "(I)I"⟩, 32) := ⟨⟨by decide +kernel, by decide +kernel⟩, List.mem_of_getElem? (i := 974) (by decide +kernel), List.mem_of_getElem? (i := 1266) (by decide +kernel), List.mem_of_getElem? (i := 1267) (by decide +kernel)⟩
theorem lw_p43 : lw_okq (⟨"StoneSheetsModel", "goesOn", "()V"⟩, 32) := ⟨⟨by decide +kernel, by decide +kernel⟩, List.mem_of_getElem? (i := 974) (by decide +kernel), List.mem_of_getElem? (i := 1275) (by decide +kernel), List.mem_of_getElem? (i := 1276) (by decide +kernel)⟩
theorem lw_p44 : lw_okq (⟨"StoneSheetsModel", "allTrust", "()I"⟩, 32) := ⟨⟨by decide +kernel, by decide +kernel⟩, List.mem_of_getElem? (i := 974) (by decide +kernel), List.mem_of_getElem? (i := 1283) (by decide +kernel), List.mem_of_getElem? (i := 1284) (by decide +kernel)⟩
theorem lw_p45 : lw_okq (⟨"StoneSheetsModel", "laysBy", "()V"⟩, 32) := ⟨⟨by decide +kernel, by decide +kernel⟩, List.mem_of_getElem? (i := 974) (by decide +kernel), List.mem_of_getElem? (i := 1291) (by decide +kernel), List.mem_of_getElem? (i := 1292) (by decide +kernel)⟩
theorem lw_p46 : lw_okq (⟨"StoneSheetsModel", "goesOnMany", "(I)V"⟩, 32) := ⟨⟨by decide +kernel, by decide +kernel⟩, List.mem_of_getElem? (i := 974) (by decide +kernel), List.mem_of_getElem? (i := 1295) (by decide +kernel), List.mem_of_getElem? (i := 1296) (by decide +kernel)⟩
theorem lw_p47 : lw_okq (⟨"StoneSheetsModel", "laysBack", "()V"⟩, 32) := ⟨⟨by decide +kernel, by decide +kernel⟩, List.mem_of_getElem? (i := 974) (by decide +kernel), List.mem_of_getElem? (i := 1299) (by decide +kernel), List.mem_of_getElem? (i := 1300) (by decide +kernel)⟩
def lw_privs_3 : List (MethodName × Nat) := [(⟨"StoneSheetsModel", "saysAt", "(II)I"⟩, 32), (⟨"StoneSheetsModel", "becomes", "(II)I"⟩, 32), (⟨"StoneSheetsModel", "drawn", "()I"⟩, 32), (⟨"StoneSheetsModel", "falseOf", "(II)I"⟩, 32), (⟨"StoneSheetsModel", "joinBy", "(III)I"⟩, 32), (⟨"StoneSheetsModel", "doClash", "(II)Z"⟩, 32), (⟨"StoneSheetsModel", "findClashing", "()V"⟩, 32), (⟨"StoneSheetsModel", "laidOnes", "()I"⟩, 32), (⟨"StoneSheetsModel", "areAtPeace", "(I)Z"⟩, 32), (⟨"StoneSheetsModel", "coveredBy", "(I)I"⟩, 32), (⟨"StoneSheetsModel", "otherwiseAt", "(I)I"⟩, 32), (⟨"StoneSheetsModel", "goesOn", "()V"⟩, 32), (⟨"StoneSheetsModel", "allTrust", "()I"⟩, 32), (⟨"StoneSheetsModel", "laysBy", "()V"⟩, 32), (⟨"StoneSheetsModel", "goesOnMany", "(I)V"⟩, 32), (⟨"StoneSheetsModel", "laysBack", "()V"⟩, 32)]
theorem lw_r3 : ∀ q ∈ lw_privs_3, lw_okq q := List.forall_mem_cons.mpr ⟨lw_p32, List.forall_mem_cons.mpr ⟨lw_p33, List.forall_mem_cons.mpr ⟨lw_p34, List.forall_mem_cons.mpr ⟨lw_p35, List.forall_mem_cons.mpr ⟨lw_p36, List.forall_mem_cons.mpr ⟨lw_p37, List.forall_mem_cons.mpr ⟨lw_p38, List.forall_mem_cons.mpr ⟨lw_p39, List.forall_mem_cons.mpr ⟨lw_p40, List.forall_mem_cons.mpr ⟨lw_p41, List.forall_mem_cons.mpr ⟨lw_p42, List.forall_mem_cons.mpr ⟨lw_p43, List.forall_mem_cons.mpr ⟨lw_p44, List.forall_mem_cons.mpr ⟨lw_p45, List.forall_mem_cons.mpr ⟨lw_p46, List.forall_mem_cons.mpr ⟨lw_p47, fun _ h => absurd h List.not_mem_nil⟩⟩⟩⟩⟩⟩⟩⟩⟩⟩⟩⟩⟩⟩⟩⟩
theorem lw_p48 : lw_okq (⟨"StoneSheetsModel", "parse", "()I"⟩, 32) := ⟨⟨by decide +kernel, by decide +kernel⟩, List.mem_of_getElem? (i := 974) (by decide +kernel), List.mem_of_getElem? (i := 1340) (by decide +kernel), List.mem_of_getElem? (i := 1341) (by decide +kernel)⟩
theorem lw_p49 : lw_okq (⟨"StoneSheetsModel", "nextToken", "()V"⟩, 32) := ⟨⟨by decide +kernel, by decide +kernel⟩, List.mem_of_getElem? (i := 974) (by decide +kernel), List.mem_of_getElem? (i := 1344) (by decide +kernel), List.mem_of_getElem? (i := 1345) (by decide +kernel)⟩
theorem lw_p50 : lw_okq (⟨"StoneSheetsModel", "isLetter", "(I)Z"⟩, 32) := ⟨⟨by decide +kernel, by decide +kernel⟩, List.mem_of_getElem? (i := 974) (by decide +kernel), List.mem_of_getElem? (i := 1348) (by decide +kernel), List.mem_of_getElem? (i := 1349) (by decide +kernel)⟩
theorem lw_p51 : lw_okq (⟨"StoneSheetsModel", "isDigit", "(I)Z"⟩, 32) := ⟨⟨by decide +kernel, by decide +kernel⟩, List.mem_of_getElem? (i := 974) (by decide +kernel), List.mem_of_getElem? (i := 1354) (by decide +kernel), List.mem_of_getElem? (i := 1355) (by decide +kernel)⟩
theorem lw_p52 : lw_okq (⟨"StoneSheetsModel", "key", "()I"⟩, 32) := ⟨⟨by decide +kernel, by decide +kernel⟩, List.mem_of_getElem? (i := 974) (by decide +kernel), List.mem_of_getElem? (i := 1360) (by decide +kernel), List.mem_of_getElem? (i := 1361) (by decide +kernel)⟩
theorem lw_p53 : lw_okq (⟨"StoneSheetsModel", "isWordAt", "(IIII)Z"⟩, 32) := ⟨⟨by decide +kernel, by decide +kernel⟩, List.mem_of_getElem? (i := 974) (by decide +kernel), List.mem_of_getElem? (i := 1364) (by decide +kernel), List.mem_of_getElem? (i := 1365) (by decide +kernel)⟩
theorem lw_p54 : lw_okq (⟨"StoneSheetsModel", "either", "(I)Z"⟩, 32) := ⟨⟨by decide +kernel, by decide +kernel⟩, List.mem_of_getElem? (i := 974) (by decide +kernel), List.mem_of_getElem? (i := 1368) (by decide +kernel), List.mem_of_getElem? (i := 1369) (by decide +kernel)⟩
theorem lw_p55 : lw_okq (⟨"StoneSheetsModel", "both", "(I)Z"⟩, 32) := ⟨⟨by decide +kernel, by decide +kernel⟩, List.mem_of_getElem? (i := 974) (by decide +kernel), List.mem_of_getElem? (i := 1372) (by decide +kernel), List.mem_of_getElem? (i := 1373) (by decide +kernel)⟩
theorem lw_p56 : lw_okq (⟨"StoneSheetsModel", "test", "(I)Z"⟩, 32) := ⟨⟨by decide +kernel, by decide +kernel⟩, List.mem_of_getElem? (i := 974) (by decide +kernel), List.mem_of_getElem? (i := 1376) (by decide +kernel), List.mem_of_getElem? (i := 1377) (by decide +kernel)⟩
theorem lw_p57 : lw_okq (⟨"StoneSheetsModel", "sum", "(I)Z"⟩, 32) := ⟨⟨by decide +kernel, by decide +kernel⟩, List.mem_of_getElem? (i := 974) (by decide +kernel), List.mem_of_getElem? (i := 1380) (by decide +kernel), List.mem_of_getElem? (i := 1381) (by decide +kernel)⟩
theorem lw_p58 : lw_okq (⟨"StoneSheetsModel", "term", "(I)Z"⟩, 32) := ⟨⟨by decide +kernel, by decide +kernel⟩, List.mem_of_getElem? (i := 974) (by decide +kernel), List.mem_of_getElem? (i := 1384) (by decide +kernel), List.mem_of_getElem? (i := 1385) (by decide +kernel)⟩
theorem lw_p59 : lw_okq (⟨"StoneSheetsModel", "part0", "(I)Z"⟩, 32) := ⟨⟨by decide +kernel, by decide +kernel⟩, List.mem_of_getElem? (i := 974) (by decide +kernel), List.mem_of_getElem? (i := 1388) (by decide +kernel), List.mem_of_getElem? (i := 1389) (by decide +kernel)⟩
theorem lw_p60 : lw_okq (⟨"StoneSheetsModel", "step", "(II)V"⟩, 32) := ⟨⟨by decide +kernel, by decide +kernel⟩, List.mem_of_getElem? (i := 974) (by decide +kernel), List.mem_of_getElem? (i := 1392) (by decide +kernel), List.mem_of_getElem? (i := 1393) (by decide +kernel)⟩
theorem lw_p61 : lw_okq (⟨"StoneSheetsModel", "isSign", "(I)Z"⟩, 32) := ⟨⟨by decide +kernel, by decide +kernel⟩, List.mem_of_getElem? (i := 974) (by decide +kernel), List.mem_of_getElem? (i := 1399) (by decide +kernel), List.mem_of_getElem? (i := 1400) (by decide +kernel)⟩
theorem lw_p62 : lw_okq (⟨"StoneSheetsModel", "isText", "(I)Z"⟩, 32) := ⟨⟨by decide +kernel, by decide +kernel⟩, List.mem_of_getElem? (i := 974) (by decide +kernel), List.mem_of_getElem? (i := 1407) (by decide +kernel), List.mem_of_getElem? (i := 1408) (by decide +kernel)⟩
theorem lw_p63 : lw_okq (⟨"StoneSheetsModel", "setAside", "([I[I)V"⟩, 32) := ⟨⟨by decide +kernel, by decide +kernel⟩, List.mem_of_getElem? (i := 974) (by decide +kernel), List.mem_of_getElem? (i := 1482) (by decide +kernel), List.mem_of_getElem? (i := 1483) (by decide +kernel)⟩
def lw_privs_4 : List (MethodName × Nat) := [(⟨"StoneSheetsModel", "parse", "()I"⟩, 32), (⟨"StoneSheetsModel", "nextToken", "()V"⟩, 32), (⟨"StoneSheetsModel", "isLetter", "(I)Z"⟩, 32), (⟨"StoneSheetsModel", "isDigit", "(I)Z"⟩, 32), (⟨"StoneSheetsModel", "key", "()I"⟩, 32), (⟨"StoneSheetsModel", "isWordAt", "(IIII)Z"⟩, 32), (⟨"StoneSheetsModel", "either", "(I)Z"⟩, 32), (⟨"StoneSheetsModel", "both", "(I)Z"⟩, 32), (⟨"StoneSheetsModel", "test", "(I)Z"⟩, 32), (⟨"StoneSheetsModel", "sum", "(I)Z"⟩, 32), (⟨"StoneSheetsModel", "term", "(I)Z"⟩, 32), (⟨"StoneSheetsModel", "part0", "(I)Z"⟩, 32), (⟨"StoneSheetsModel", "step", "(II)V"⟩, 32), (⟨"StoneSheetsModel", "isSign", "(I)Z"⟩, 32), (⟨"StoneSheetsModel", "isText", "(I)Z"⟩, 32), (⟨"StoneSheetsModel", "setAside", "([I[I)V"⟩, 32)]
theorem lw_r4 : ∀ q ∈ lw_privs_4, lw_okq q := List.forall_mem_cons.mpr ⟨lw_p48, List.forall_mem_cons.mpr ⟨lw_p49, List.forall_mem_cons.mpr ⟨lw_p50, List.forall_mem_cons.mpr ⟨lw_p51, List.forall_mem_cons.mpr ⟨lw_p52, List.forall_mem_cons.mpr ⟨lw_p53, List.forall_mem_cons.mpr ⟨lw_p54, List.forall_mem_cons.mpr ⟨lw_p55, List.forall_mem_cons.mpr ⟨lw_p56, List.forall_mem_cons.mpr ⟨lw_p57, List.forall_mem_cons.mpr ⟨lw_p58, List.forall_mem_cons.mpr ⟨lw_p59, List.forall_mem_cons.mpr ⟨lw_p60, List.forall_mem_cons.mpr ⟨lw_p61, List.forall_mem_cons.mpr ⟨lw_p62, List.forall_mem_cons.mpr ⟨lw_p63, fun _ h => absurd h List.not_mem_nil⟩⟩⟩⟩⟩⟩⟩⟩⟩⟩⟩⟩⟩⟩⟩⟩
def lw_privs : List (MethodName × Nat) := lw_privs_1 ++ (lw_privs_2 ++ (lw_privs_3 ++ (lw_privs_4)))
def lw_tbl : List Cond := k2_sels lw_privs ++ tables_1
theorem lw_privs_ok : ∀ q ∈ lw_privs, lw_okq q := by
  show ∀ q ∈ lw_privs_1 ++ (lw_privs_2 ++ (lw_privs_3 ++ (lw_privs_4))), lw_okq q
  exact List.forall_mem_append.mpr ⟨lw_r1, List.forall_mem_append.mpr ⟨lw_r2, List.forall_mem_append.mpr ⟨lw_r3, lw_r4⟩⟩⟩
-- ===== names of the classes, their fields (printed by program from the claim) =====
def RJ0 : String := "java/lang/String"
def RJ1 : String := "java/lang/StringLatin1"
def RJ10 : String := "java/lang/System"
def RJ11 : String := "java/lang/Character"
def RJ2 : String := "java/lang/StringUTF16"
def RJ3 : String := "jdk/internal/util/Preconditions"
def RJ6 : String := "java/lang/Integer"
def RJ7 : String := "java/util/Arrays"
def RJ9 : String := "java/lang/Math"
def RJx145de : String := "java/io/Serializable"
def RJx3cf43 : String := "java/lang/constant/ConstantDesc"
def RJx9f9b0 : String := "java/lang/CharSequence"
def RJxb160c : String := "java/lang/Comparable"
def RJxfd54e : String := "java/lang/constant/Constable"
def RX0 : String := "StoneSheets$Law"
def RX1 : String := "StoneSheets$Laws"
def RX2 : String := "StoneSheets$Reader"
def RX3 : String := "StoneSheets$Row"
def RX4 : String := "StoneSheets$Rubbing"
def RX5 : String := "StoneSheets$Slot"
def RX6 : String := "StoneSheets$Wall"
def RX7 : String := "StoneSheets"
def RX8 : String := "StoneSheetsModel"
def TX0 : u_T := fun k => match k with
  | 0 => ("StoneSheets$Law", "code", "[I", true)
  | 1 => ("StoneSheets$Law", "length", "I", false)
  | 2 => ("StoneSheets$Law", "key", "I", false)
  | _ => ("StoneSheets$Law", "pieces", "I", false)
def tyX0 : Nat → FieldType := fun k => match k with
  | 0 => .array .int
  | 1 => .int
  | 2 => .int
  | _ => .int
theorem nmX0 : ∀ a, a < 4 → ∀ b, b < 4 → a ≠ b → (TX0 a).2.1 ≠ (TX0 b).2.1 := by decide +kernel
theorem tyX0_ok : ∀ k, k < 4 → parseFieldDescriptor (TX0 k).2.2.1 = some (tyX0 k) := by decide +kernel
def TX1 : u_T := fun k => match k with
  | 0 => ("StoneSheets$Laws", "rows", "[LStoneSheets$Law;", true)
  | 1 => ("StoneSheets$Laws", "draft", "LStoneSheets$Law;", true)
  | 2 => ("StoneSheets$Laws", "stack", "[I", true)
  | _ => ("StoneSheets$Laws", "top", "I", false)
def tyX1 : Nat → FieldType := fun k => match k with
  | 0 => .array (.object "StoneSheets$Law")
  | 1 => .object "StoneSheets$Law"
  | 2 => .array .int
  | _ => .int
theorem nmX1 : ∀ a, a < 4 → ∀ b, b < 4 → a ≠ b → (TX1 a).2.1 ≠ (TX1 b).2.1 := by decide +kernel
theorem tyX1_ok : ∀ k, k < 4 → parseFieldDescriptor (TX1 k).2.2.1 = some (tyX1 k) := by decide +kernel
def TX2 : u_T := fun k => match k with
  | 0 => ("StoneSheets$Reader", "tape", "[I", true)
  | 1 => ("StoneSheets$Reader", "length", "I", false)
  | 2 => ("StoneSheets$Reader", "sort", "I", false)
  | 3 => ("StoneSheets$Reader", "start", "I", false)
  | 4 => ("StoneSheets$Reader", "place", "I", false)
  | 5 => ("StoneSheets$Reader", "glued", "Z", false)
  | 6 => ("StoneSheets$Reader", "signs", "[I", true)
  | 7 => ("StoneSheets$Reader", "top", "I", false)
  | 8 => ("StoneSheets$Reader", "brackets", "I", false)
  | 9 => ("StoneSheets$Reader", "nots", "I", false)
  | _ => ("StoneSheets$Reader", "wanting", "Z", false)
def tyX2 : Nat → FieldType := fun k => match k with
  | 0 => .array .int
  | 1 => .int
  | 2 => .int
  | 3 => .int
  | 4 => .int
  | 5 => .boolean
  | 6 => .array .int
  | 7 => .int
  | 8 => .int
  | 9 => .int
  | _ => .boolean
theorem nmX2 : ∀ a, a < 11 → ∀ b, b < 11 → a ≠ b → (TX2 a).2.1 ≠ (TX2 b).2.1 := by decide +kernel
theorem tyX2_ok : ∀ k, k < 11 → parseFieldDescriptor (TX2 k).2.2.1 = some (tyX2 k) := by decide +kernel
def TX3 : u_T := fun k => match k with
  | 0 => ("StoneSheets$Row", "values", "[I", true)
  | 1 => ("StoneSheets$Row", "sort", "I", false)
  | _ => ("StoneSheets$Row", "length", "I", false)
def tyX3 : Nat → FieldType := fun k => match k with
  | 0 => .array .int
  | 1 => .int
  | _ => .int
theorem nmX3 : ∀ a, a < 3 → ∀ b, b < 3 → a ≠ b → (TX3 a).2.1 ≠ (TX3 b).2.1 := by decide +kernel
theorem tyX3_ok : ∀ k, k < 3 → parseFieldDescriptor (TX3 k).2.2.1 = some (tyX3 k) := by decide +kernel
def TX4 : u_T := fun k => match k with
  | 0 => ("StoneSheets$Rubbing", "kind", "I", false)
  | 1 => ("StoneSheets$Rubbing", "raw", "I", false)
  | 2 => ("StoneSheets$Rubbing", "size", "I", false)
  | 3 => ("StoneSheets$Rubbing", "turned", "I", false)
  | 4 => ("StoneSheets$Rubbing", "laid", "I", false)
  | _ => ("StoneSheets$Rubbing", "trust", "I", false)
def tyX4 : Nat → FieldType := fun k => match k with
  | 0 => .int
  | 1 => .int
  | 2 => .int
  | 3 => .int
  | 4 => .int
  | _ => .int
theorem nmX4 : ∀ a, a < 6 → ∀ b, b < 6 → a ≠ b → (TX4 a).2.1 ≠ (TX4 b).2.1 := by decide +kernel
theorem tyX4_ok : ∀ k, k < 6 → parseFieldDescriptor (TX4 k).2.2.1 = some (tyX4 k) := by decide +kernel
def TX5 : u_T := fun k => match k with
  | 0 => ("StoneSheets$Slot", "rubbing", "LStoneSheets$Rubbing;", true)
  | 1 => ("StoneSheets$Slot", "row", "LStoneSheets$Row;", true)
  | 2 => ("StoneSheets$Slot", "thing", "I", false)
  | _ => ("StoneSheets$Slot", "number", "I", false)
def tyX5 : Nat → FieldType := fun k => match k with
  | 0 => .object "StoneSheets$Rubbing"
  | 1 => .object "StoneSheets$Row"
  | 2 => .int
  | _ => .int
theorem nmX5 : ∀ a, a < 4 → ∀ b, b < 4 → a ≠ b → (TX5 a).2.1 ≠ (TX5 b).2.1 := by decide +kernel
theorem tyX5_ok : ∀ k, k < 4 → parseFieldDescriptor (TX5 k).2.2.1 = some (tyX5 k) := by decide +kernel
def TX6 : u_T := fun k => match k with
  | 0 => ("StoneSheets$Wall", "laws", "LStoneSheets$Laws;", true)
  | 1 => ("StoneSheets$Wall", "marks", "[I", true)
  | 2 => ("StoneSheets$Wall", "rubbings", "[LStoneSheets$Rubbing;", true)
  | 3 => ("StoneSheets$Wall", "clashing", "[I", true)
  | 4 => ("StoneSheets$Wall", "counting", "[I", true)
  | 5 => ("StoneSheets$Wall", "many", "I", false)
  | 6 => ("StoneSheets$Wall", "texts", "I", false)
  | 7 => ("StoneSheets$Wall", "tide", "I", false)
  | 8 => ("StoneSheets$Wall", "found", "I", false)
  | _ => ("StoneSheets$Wall", "z", "I", false)
def tyX6 : Nat → FieldType := fun k => match k with
  | 0 => .object "StoneSheets$Laws"
  | 1 => .array .int
  | 2 => .array (.object "StoneSheets$Rubbing")
  | 3 => .array .int
  | 4 => .array .int
  | 5 => .int
  | 6 => .int
  | 7 => .int
  | 8 => .int
  | _ => .int
theorem nmX6 : ∀ a, a < 10 → ∀ b, b < 10 → a ≠ b → (TX6 a).2.1 ≠ (TX6 b).2.1 := by decide +kernel
theorem tyX6_ok : ∀ k, k < 10 → parseFieldDescriptor (TX6 k).2.2.1 = some (tyX6 k) := by decide +kernel
def TX7 : u_T := fun k => match k with
  | 0 => ("StoneSheets", "laws", "LStoneSheets$Laws;", true)
  | 1 => ("StoneSheets", "wall", "LStoneSheets$Wall;", true)
  | 2 => ("StoneSheets", "image", "LStoneSheets$Wall;", true)
  | 3 => ("StoneSheets", "thought", "LStoneSheets$Wall;", true)
  | 4 => ("StoneSheets", "reader", "LStoneSheets$Reader;", true)
  | 5 => ("StoneSheets", "rows", "[LStoneSheets$Row;", true)
  | 6 => ("StoneSheets", "slots", "[LStoneSheets$Slot;", true)
  | 7 => ("StoneSheets", "numbers", "[I", true)
  | 8 => ("StoneSheets", "waiting", "I", false)
  | _ => ("StoneSheets", "imaged", "Z", false)
def tyX7 : Nat → FieldType := fun k => match k with
  | 0 => .object "StoneSheets$Laws"
  | 1 => .object "StoneSheets$Wall"
  | 2 => .object "StoneSheets$Wall"
  | 3 => .object "StoneSheets$Wall"
  | 4 => .object "StoneSheets$Reader"
  | 5 => .array (.object "StoneSheets$Row")
  | 6 => .array (.object "StoneSheets$Slot")
  | 7 => .array .int
  | 8 => .int
  | _ => .boolean
theorem nmX7 : ∀ a, a < 10 → ∀ b, b < 10 → a ≠ b → (TX7 a).2.1 ≠ (TX7 b).2.1 := by decide +kernel
theorem tyX7_ok : ∀ k, k < 10 → parseFieldDescriptor (TX7 k).2.2.1 = some (tyX7 k) := by decide +kernel
def TX8 : u_T := fun k => match k with
  | 0 => ("StoneSheetsModel", "s", "[I", true)
  | 1 => ("StoneSheetsModel", "image", "[I", true)
  | 2 => ("StoneSheetsModel", "aside", "[I", true)
  | 3 => ("StoneSheetsModel", "hasImage", "Z", false)
  | 4 => ("StoneSheetsModel", "tSort", "[I", true)
  | 5 => ("StoneSheetsModel", "tSize", "[I", true)
  | 6 => ("StoneSheetsModel", "tNumber", "[I", true)
  | 7 => ("StoneSheetsModel", "held", "[I", true)
  | 8 => ("StoneSheetsModel", "heldNumber", "[I", true)
  | 9 => ("StoneSheetsModel", "heldWorth", "[I", true)
  | 10 => ("StoneSheetsModel", "heldSize", "[I", true)
  | 11 => ("StoneSheetsModel", "heldRow", "[I", true)
  | 12 => ("StoneSheetsModel", "clashing", "[I", true)
  | 13 => ("StoneSheetsModel", "close", "[I", true)
  | 14 => ("StoneSheetsModel", "tape", "[I", true)
  | 15 => ("StoneSheetsModel", "taped", "I", false)
  | 16 => ("StoneSheetsModel", "begin", "I", false)
  | 17 => ("StoneSheetsModel", "behind", "I", false)
  | 18 => ("StoneSheetsModel", "token", "I", false)
  | 19 => ("StoneSheetsModel", "number", "I", false)
  | 20 => ("StoneSheetsModel", "letter", "I", false)
  | 21 => ("StoneSheetsModel", "deep", "I", false)
  | 22 => ("StoneSheetsModel", "turned", "I", false)
  | 23 => ("StoneSheetsModel", "laid", "I", false)
  | 24 => ("StoneSheetsModel", "laidAt", "I", false)
  | 25 => ("StoneSheetsModel", "said", "I", false)
  | 26 => ("StoneSheetsModel", "named", "[I", true)
  | 27 => ("StoneSheetsModel", "pile", "[I", true)
  | 28 => ("StoneSheetsModel", "carried", "[I", true)
  | 29 => ("StoneSheetsModel", "waits", "[I", true)
  | 30 => ("StoneSheetsModel", "waiting", "I", false)
  | _ => ("StoneSheetsModel", "rowDue", "[I", true)
def tyX8 : Nat → FieldType := fun k => match k with
  | 0 => .array .int
  | 1 => .array .int
  | 2 => .array .int
  | 3 => .boolean
  | 4 => .array .int
  | 5 => .array .int
  | 6 => .array .int
  | 7 => .array .int
  | 8 => .array .int
  | 9 => .array .int
  | 10 => .array .int
  | 11 => .array .int
  | 12 => .array .int
  | 13 => .array .int
  | 14 => .array .int
  | 15 => .int
  | 16 => .int
  | 17 => .int
  | 18 => .int
  | 19 => .int
  | 20 => .int
  | 21 => .int
  | 22 => .int
  | 23 => .int
  | 24 => .int
  | 25 => .int
  | 26 => .array .int
  | 27 => .array .int
  | 28 => .array .int
  | 29 => .array .int
  | 30 => .int
  | _ => .array .int
theorem nmX8 : ∀ a, a < 32 → ∀ b, b < 32 → a ≠ b → (TX8 a).2.1 ≠ (TX8 b).2.1 := by decide +kernel
theorem tyX8_ok : ∀ k, k < 32 → parseFieldDescriptor (TX8 k).2.2.1 = some (tyX8 k) := by decide +kernel
abbrev pcls : List vw_C := [(RX0, TX0, 4), (RX1, TX1, 4), (RX2, TX2, 11), (RX3, TX3, 3), (RX4, TX4, 6), (RX5, TX5, 4), (RX6, TX6, 10), (RX7, TX7, 10), (RX8, TX8, 32)]
def ptyp : Nat → Nat → FieldType := fun c => match c with
  | 0 => tyX0
  | 1 => tyX1
  | 2 => tyX2
  | 3 => tyX3
  | 4 => tyX4
  | 5 => tyX5
  | 6 => tyX6
  | 7 => tyX7
  | _ => tyX8
def pini : Nat → List Value := fun c => match c with
  | 0 => [.null, .int 0, .int 0, .int 0]
  | 1 => [.null, .null, .null, .int 0]
  | 2 => [.null, .int 0, .int 0, .int 0, .int 0, .int 0, .null, .int 0, .int 0, .int 0, .int 0]
  | 3 => [.null, .int 0, .int 0]
  | 4 => [.int 0, .int 0, .int 0, .int 0, .int 0, .int 0]
  | 5 => [.null, .null, .int 0, .int 0]
  | 6 => [.null, .null, .null, .null, .null, .int 0, .int 0, .int 0, .int 0, .int 0]
  | 7 => [.null, .null, .null, .null, .null, .null, .null, .null, .int 0, .int 0]
  | _ => [.null, .null, .null, .int 0, .null, .null, .null, .null, .null, .null, .null, .null, .null, .null, .null, .int 0, .int 0, .int 0, .int 0, .int 0, .int 0, .int 0, .int 0, .int 0, .int 0, .int 0, .null, .null, .null, .null, .int 0, .null]
theorem iX0 : u_ws RX0 TX0 4 = [114, 116, 118, 120].filterMap (fun i => lw_tbl[i]?) := by decide +kernel
theorem iX1 : u_ws RX1 TX1 4 = [130, 132, 134, 136].filterMap (fun i => lw_tbl[i]?) := by decide +kernel
theorem iX2 : u_ws RX2 TX2 11 = [240, 242, 244, 246, 248, 250, 252, 254, 256, 258, 260].filterMap (fun i => lw_tbl[i]?) := by decide +kernel
theorem iX3 : u_ws RX3 TX3 3 = [278, 280, 282].filterMap (fun i => lw_tbl[i]?) := by decide +kernel
theorem iX4 : u_ws RX4 TX4 6 = [171, 173, 175, 177, 179, 181].filterMap (fun i => lw_tbl[i]?) := by decide +kernel
theorem iX5 : u_ws RX5 TX5 4 = [301, 303, 305, 307].filterMap (fun i => lw_tbl[i]?) := by decide +kernel
theorem iX6 : u_ws RX6 TX6 10 = [201, 203, 205, 207, 209, 211, 213, 215, 217, 219].filterMap (fun i => lw_tbl[i]?) := by decide +kernel
theorem iX7 : u_ws RX7 TX7 10 = [320, 322, 324, 326, 328, 330, 332, 334, 336, 338].filterMap (fun i => lw_tbl[i]?) := by decide +kernel
theorem iX8 : u_ws RX8 TX8 32 = [1075, 1077, 1079, 1081, 1083, 1085, 1087, 1089, 1091, 1093, 1095, 1097, 1099, 1101, 1103, 1105, 1107, 1109, 1111, 1113, 1115, 1117, 1119, 1121, 1123, 1125, 1127, 1129, 1131, 1133, 1135, 1137].filterMap (fun i => lw_tbl[i]?) := by decide +kernel
