section
-- ===== PART A: goes FIRST, ahead of the names: the tables' words, and 'selects' of the private methods out of them =====
/-- a private method of a class that the tables say can be made, by its rows of tables_1 -/
def lw_okq (q : MethodName × Nat) : Prop := (q.1.cls ≠ "java/lang/invoke/MethodHandle" ∧ q.1.cls ≠ "java/lang/invoke/VarHandle") ∧ Cond.instantiable q.1.cls q.2 ∈ tables_1 ∧ Cond.privateMethod q.1 ∈ tables_1 ∧ Cond.instanceMethod q.1 ∈ tables_1
theorem lw_p0 : lw_okq (⟨"StoneSheets$Laws", "push", "(I)V"⟩, 4) := ⟨⟨by decide +kernel, by decide +kernel⟩, List.mem_of_getElem? (i := 28) (by decide +kernel), List.mem_of_getElem? (i := 355) (by decide +kernel), List.mem_of_getElem? (i := 356) (by decide +kernel)⟩
theorem lw_p1 : lw_okq (⟨"StoneSheets$Laws", "pop", "()I"⟩, 4) := ⟨⟨by decide +kernel, by decide +kernel⟩, List.mem_of_getElem? (i := 28) (by decide +kernel), List.mem_of_getElem? (i := 365) (by decide +kernel), List.mem_of_getElem? (i := 366) (by decide +kernel)⟩
theorem lw_p2 : lw_okq (⟨"StoneSheets$Rubbing", "rubbedAt", "(I)I"⟩, 6) := ⟨⟨by decide +kernel, by decide +kernel⟩, List.mem_of_getElem? (i := 87) (by decide +kernel), List.mem_of_getElem? (i := 408) (by decide +kernel), List.mem_of_getElem? (i := 409) (by decide +kernel)⟩
theorem lw_p3 : lw_okq (⟨"StoneSheets$Wall", "seeAgain", "(LStoneSheets$Rubbing;I)V"⟩, 10) := ⟨⟨by decide +kernel, by decide +kernel⟩, List.mem_of_getElem? (i := 76) (by decide +kernel), List.mem_of_getElem? (i := 565) (by decide +kernel), List.mem_of_getElem? (i := 566) (by decide +kernel)⟩
theorem lw_p4 : lw_okq (⟨"StoneSheets", "rowOf", "(I)LStoneSheets$Row;"⟩, 10) := ⟨⟨by decide +kernel, by decide +kernel⟩, List.mem_of_getElem? (i := 20) (by decide +kernel), List.mem_of_getElem? (i := 628) (by decide +kernel), List.mem_of_getElem? (i := 629) (by decide +kernel)⟩
theorem lw_p5 : lw_okq (⟨"StoneSheets$Reader", "nextWord", "()V"⟩, 11) := ⟨⟨by decide +kernel, by decide +kernel⟩, List.mem_of_getElem? (i := 159) (by decide +kernel), List.mem_of_getElem? (i := 685) (by decide +kernel), List.mem_of_getElem? (i := 686) (by decide +kernel)⟩
theorem lw_p6 : lw_okq (⟨"StoneSheets$Reader", "byteAt", "(I)I"⟩, 11) := ⟨⟨by decide +kernel, by decide +kernel⟩, List.mem_of_getElem? (i := 159) (by decide +kernel), List.mem_of_getElem? (i := 689) (by decide +kernel), List.mem_of_getElem? (i := 690) (by decide +kernel)⟩
theorem lw_p7 : lw_okq (⟨"StoneSheets$Reader", "keyRead", "()I"⟩, 11) := ⟨⟨by decide +kernel, by decide +kernel⟩, List.mem_of_getElem? (i := 159) (by decide +kernel), List.mem_of_getElem? (i := 697) (by decide +kernel), List.mem_of_getElem? (i := 698) (by decide +kernel)⟩
theorem lw_p8 : lw_okq (⟨"StoneSheets$Reader", "isWord", "(Ljava/lang/String;)Z"⟩, 11) := ⟨⟨by decide +kernel, by decide +kernel⟩, List.mem_of_getElem? (i := 159) (by decide +kernel), List.mem_of_getElem? (i := 702) (by decide +kernel), List.mem_of_getElem? (i := 703) (by decide +kernel)⟩
theorem lw_p9 : lw_okq (⟨"StoneSheets$Reader", "goesOn", "(LStoneSheets$Law;)Z"⟩, 11) := ⟨⟨by decide +kernel, by decide +kernel⟩, List.mem_of_getElem? (i := 159) (by decide +kernel), List.mem_of_getElem? (i := 760) (by decide +kernel), List.mem_of_getElem? (i := 761) (by decide +kernel)⟩
theorem lw_p10 : lw_okq (⟨"StoneSheets$Reader", "takeAhead", "(I)Z"⟩, 11) := ⟨⟨by decide +kernel, by decide +kernel⟩, List.mem_of_getElem? (i := 159) (by decide +kernel), List.mem_of_getElem? (i := 764) (by decide +kernel), List.mem_of_getElem? (i := 765) (by decide +kernel)⟩
theorem lw_p11 : lw_okq (⟨"StoneSheets$Reader", "push", "(I)V"⟩, 11) := ⟨⟨by decide +kernel, by decide +kernel⟩, List.mem_of_getElem? (i := 159) (by decide +kernel), List.mem_of_getElem? (i := 768) (by decide +kernel), List.mem_of_getElem? (i := 769) (by decide +kernel)⟩
theorem lw_p12 : lw_okq (⟨"StoneSheets$Reader", "takeBehind", "(LStoneSheets$Law;I)Z"⟩, 11) := ⟨⟨by decide +kernel, by decide +kernel⟩, List.mem_of_getElem? (i := 159) (by decide +kernel), List.mem_of_getElem? (i := 772) (by decide +kernel), List.mem_of_getElem? (i := 773) (by decide +kernel)⟩
theorem lw_p13 : lw_okq (⟨"StoneSheets$Reader", "unwind", "(LStoneSheets$Law;I)V"⟩, 11) := ⟨⟨by decide +kernel, by decide +kernel⟩, List.mem_of_getElem? (i := 159) (by decide +kernel), List.mem_of_getElem? (i := 776) (by decide +kernel), List.mem_of_getElem? (i := 777) (by decide +kernel)⟩
theorem lw_p14 : lw_okq (⟨"StoneSheets$Reader", "peek", "()I"⟩, 11) := ⟨⟨by decide +kernel, by decide +kernel⟩, List.mem_of_getElem? (i := 159) (by decide +kernel), List.mem_of_getElem? (i := 780) (by decide +kernel), List.mem_of_getElem? (i := 781) (by decide +kernel)⟩
theorem lw_p15 : lw_okq (⟨"StoneSheets$Reader", "endPiece", "(LStoneSheets$Law;)V"⟩, 11) := ⟨⟨by decide +kernel, by decide +kernel⟩, List.mem_of_getElem? (i := 159) (by decide +kernel), List.mem_of_getElem? (i := 791) (by decide +kernel), List.mem_of_getElem? (i := 792) (by decide +kernel)⟩
def lw_privs_1 : List (MethodName × Nat) := [(⟨"StoneSheets$Laws", "push", "(I)V"⟩, 4), (⟨"StoneSheets$Laws", "pop", "()I"⟩, 4), (⟨"StoneSheets$Rubbing", "rubbedAt", "(I)I"⟩, 6), (⟨"StoneSheets$Wall", "seeAgain", "(LStoneSheets$Rubbing;I)V"⟩, 10), (⟨"StoneSheets", "rowOf", "(I)LStoneSheets$Row;"⟩, 10), (⟨"StoneSheets$Reader", "nextWord", "()V"⟩, 11), (⟨"StoneSheets$Reader", "byteAt", "(I)I"⟩, 11), (⟨"StoneSheets$Reader", "keyRead", "()I"⟩, 11), (⟨"StoneSheets$Reader", "isWord", "(Ljava/lang/String;)Z"⟩, 11), (⟨"StoneSheets$Reader", "goesOn", "(LStoneSheets$Law;)Z"⟩, 11), (⟨"StoneSheets$Reader", "takeAhead", "(I)Z"⟩, 11), (⟨"StoneSheets$Reader", "push", "(I)V"⟩, 11), (⟨"StoneSheets$Reader", "takeBehind", "(LStoneSheets$Law;I)Z"⟩, 11), (⟨"StoneSheets$Reader", "unwind", "(LStoneSheets$Law;I)V"⟩, 11), (⟨"StoneSheets$Reader", "peek", "()I"⟩, 11), (⟨"StoneSheets$Reader", "endPiece", "(LStoneSheets$Law;)V"⟩, 11)]
theorem lw_r1 : ∀ q ∈ lw_privs_1, lw_okq q := List.forall_mem_cons.mpr ⟨lw_p0, List.forall_mem_cons.mpr ⟨lw_p1, List.forall_mem_cons.mpr ⟨lw_p2, List.forall_mem_cons.mpr ⟨lw_p3, List.forall_mem_cons.mpr ⟨lw_p4, List.forall_mem_cons.mpr ⟨lw_p5, List.forall_mem_cons.mpr ⟨lw_p6, List.forall_mem_cons.mpr ⟨lw_p7, List.forall_mem_cons.mpr ⟨lw_p8, List.forall_mem_cons.mpr ⟨lw_p9, List.forall_mem_cons.mpr ⟨lw_p10, List.forall_mem_cons.mpr ⟨lw_p11, List.forall_mem_cons.mpr ⟨lw_p12, List.forall_mem_cons.mpr ⟨lw_p13, List.forall_mem_cons.mpr ⟨lw_p14, List.forall_mem_cons.mpr ⟨lw_p15, fun _ h => absurd h List.not_mem_nil⟩⟩⟩⟩⟩⟩⟩⟩⟩⟩⟩⟩⟩⟩⟩⟩
theorem lw_p16 : lw_okq (⟨"StoneSheets$Reader", "takePiece", "(LStoneSheets$Law;)Z"⟩, 11) := ⟨⟨by decide +kernel, by decide +kernel⟩, List.mem_of_getElem? (i := 159) (by decide +kernel), List.mem_of_getElem? (i := 795) (by decide +kernel), List.mem_of_getElem? (i := 796) (by decide +kernel)⟩
theorem lw_p17 : lw_okq (⟨"StoneSheets$Reader", "numberRead", "()I"⟩, 11) := ⟨⟨by decide +kernel, by decide +kernel⟩, List.mem_of_getElem? (i := 159) (by decide +kernel), List.mem_of_getElem? (i := 799) (by decide +kernel), List.mem_of_getElem? (i := 800) (by decide +kernel)⟩
theorem lw_p18 : lw_okq (⟨"StoneSheets$Reader", "nameRead", "(I)I"⟩, 11) := ⟨⟨by decide +kernel, by decide +kernel⟩, List.mem_of_getElem? (i := 159) (by decide +kernel), List.mem_of_getElem? (i := 804) (by decide +kernel), List.mem_of_getElem? (i := 805) (by decide +kernel)⟩
theorem lw_p19 : lw_okq (⟨"StoneSheets", "slotOf", "(I)LStoneSheets$Slot;"⟩, 10) := ⟨⟨by decide +kernel, by decide +kernel⟩, List.mem_of_getElem? (i := 20) (by decide +kernel), List.mem_of_getElem? (i := 931) (by decide +kernel), List.mem_of_getElem? (i := 932) (by decide +kernel)⟩
theorem lw_p20 : lw_okq (⟨"StoneSheetsModel", "comes", "(III)V"⟩, 32) := ⟨⟨by decide +kernel, by decide +kernel⟩, List.mem_of_getElem? (i := 974) (by decide +kernel), List.mem_of_getElem? (i := 1089) (by decide +kernel), List.mem_of_getElem? (i := 1090) (by decide +kernel)⟩
theorem lw_p21 : lw_okq (⟨"StoneSheetsModel", "sets", "(III)V"⟩, 32) := ⟨⟨by decide +kernel, by decide +kernel⟩, List.mem_of_getElem? (i := 974) (by decide +kernel), List.mem_of_getElem? (i := 1093) (by decide +kernel), List.mem_of_getElem? (i := 1094) (by decide +kernel)⟩
theorem lw_p22 : lw_okq (⟨"StoneSheetsModel", "isRubbing", "(I)Z"⟩, 32) := ⟨⟨by decide +kernel, by decide +kernel⟩, List.mem_of_getElem? (i := 974) (by decide +kernel), List.mem_of_getElem? (i := 1101) (by decide +kernel), List.mem_of_getElem? (i := 1102) (by decide +kernel)⟩
theorem lw_p23 : lw_okq (⟨"StoneSheetsModel", "of", "(II)I"⟩, 32) := ⟨⟨by decide +kernel, by decide +kernel⟩, List.mem_of_getElem? (i := 974) (by decide +kernel), List.mem_of_getElem? (i := 1105) (by decide +kernel), List.mem_of_getElem? (i := 1106) (by decide +kernel)⟩
theorem lw_p24 : lw_okq (⟨"StoneSheetsModel", "covers", "(I)I"⟩, 32) := ⟨⟨by decide +kernel, by decide +kernel⟩, List.mem_of_getElem? (i := 974) (by decide +kernel), List.mem_of_getElem? (i := 1109) (by decide +kernel), List.mem_of_getElem? (i := 1110) (by decide +kernel)⟩
theorem lw_p25 : lw_okq (⟨"StoneSheetsModel", "coversFrom", "(II)I"⟩, 32) := ⟨⟨by decide +kernel, by decide +kernel⟩, List.mem_of_getElem? (i := 974) (by decide +kernel), List.mem_of_getElem? (i := 1113) (by decide +kernel), List.mem_of_getElem? (i := 1114) (by decide +kernel)⟩
theorem lw_p26 : lw_okq (⟨"StoneSheetsModel", "gains", "(I)I"⟩, 32) := ⟨⟨by decide +kernel, by decide +kernel⟩, List.mem_of_getElem? (i := 974) (by decide +kernel), List.mem_of_getElem? (i := 1118) (by decide +kernel), List.mem_of_getElem? (i := 1119) (by decide +kernel)⟩
theorem lw_p27 : lw_okq (⟨"StoneSheetsModel", "counts", "(I)I"⟩, 32) := ⟨⟨by decide +kernel, by decide +kernel⟩, List.mem_of_getElem? (i := 974) (by decide +kernel), List.mem_of_getElem? (i := 1122) (by decide +kernel), List.mem_of_getElem? (i := 1123) (by decide +kernel)⟩
theorem lw_p28 : lw_okq (⟨"StoneSheetsModel", "textAt", "(I)I"⟩, 32) := ⟨⟨by decide +kernel, by decide +kernel⟩, List.mem_of_getElem? (i := 974) (by decide +kernel), List.mem_of_getElem? (i := 1126) (by decide +kernel), List.mem_of_getElem? (i := 1127) (by decide +kernel)⟩
theorem lw_p29 : lw_okq (⟨"StoneSheetsModel", "worked", "(I)I"⟩, 32) := ⟨⟨by decide +kernel, by decide +kernel⟩, List.mem_of_getElem? (i := 974) (by decide +kernel), List.mem_of_getElem? (i := 1130) (by decide +kernel), List.mem_of_getElem? (i := 1131) (by decide +kernel)⟩
theorem lw_p30 : lw_okq (⟨"StoneSheetsModel", "loses", "(I)I"⟩, 32) := ⟨⟨by decide +kernel, by decide +kernel⟩, List.mem_of_getElem? (i := 974) (by decide +kernel), List.mem_of_getElem? (i := 1140) (by decide +kernel), List.mem_of_getElem? (i := 1141) (by decide +kernel)⟩
theorem lw_p31 : lw_okq (⟨"StoneSheetsModel", "worth", "(I)I"⟩, 32) := ⟨⟨by decide +kernel, by decide +kernel⟩, List.mem_of_getElem? (i := 974) (by decide +kernel), List.mem_of_getElem? (i := 1144) (by decide +kernel), List.mem_of_getElem? (i := 1145) (by decide +kernel)⟩
def lw_privs_2 : List (MethodName × Nat) := [(⟨"StoneSheets$Reader", "takePiece", "(LStoneSheets$Law;)Z"⟩, 11), (⟨"StoneSheets$Reader", "numberRead", "()I"⟩, 11), (⟨"StoneSheets$Reader", "nameRead", "(I)I"⟩, 11), (⟨"StoneSheets", "slotOf", "(I)LStoneSheets$Slot;"⟩, 10), (⟨"StoneSheetsModel", "comes", "(III)V"⟩, 32), (⟨"StoneSheetsModel", "sets", "(III)V"⟩, 32), (⟨"StoneSheetsModel", "isRubbing", "(I)Z"⟩, 32), (⟨"StoneSheetsModel", "of", "(II)I"⟩, 32), (⟨"StoneSheetsModel", "covers", "(I)I"⟩, 32), (⟨"StoneSheetsModel", "coversFrom", "(II)I"⟩, 32), (⟨"StoneSheetsModel", "gains", "(I)I"⟩, 32), (⟨"StoneSheetsModel", "counts", "(I)I"⟩, 32), (⟨"StoneSheetsModel", "textAt", "(I)I"⟩, 32), (⟨"StoneSheetsModel", "worked", "(I)I"⟩, 32), (⟨"StoneSheetsModel", "loses", "(I)I"⟩, 32), (⟨"StoneSheetsModel", "worth", "(I)I"⟩, 32)]
theorem lw_r2 : ∀ q ∈ lw_privs_2, lw_okq q := List.forall_mem_cons.mpr ⟨lw_p16, List.forall_mem_cons.mpr ⟨lw_p17, List.forall_mem_cons.mpr ⟨lw_p18, List.forall_mem_cons.mpr ⟨lw_p19, List.forall_mem_cons.mpr ⟨lw_p20, List.forall_mem_cons.mpr ⟨lw_p21, List.forall_mem_cons.mpr ⟨lw_p22, List.forall_mem_cons.mpr ⟨lw_p23, List.forall_mem_cons.mpr ⟨lw_p24, List.forall_mem_cons.mpr ⟨lw_p25, List.forall_mem_cons.mpr ⟨lw_p26, List.forall_mem_cons.mpr ⟨lw_p27, List.forall_mem_cons.mpr ⟨lw_p28, List.forall_mem_cons.mpr ⟨lw_p29, List.forall_mem_cons.mpr ⟨lw_p30, List.forall_mem_cons.mpr ⟨lw_p31, fun _ h => absurd h List.not_mem_nil⟩⟩⟩⟩⟩⟩⟩⟩⟩⟩⟩⟩⟩⟩⟩⟩
theorem lw_p32 : lw_okq (⟨"StoneSheetsModel", "saysAt", "(II)I"⟩, 32) := ⟨⟨by decide +kernel, by decide +kernel⟩, List.mem_of_getElem? (i := 974) (by decide +kernel), List.mem_of_getElem? (i := 1152) (by decide +kernel), List.mem_of_getElem? (i := 1153) (by decide +kernel)⟩
theorem lw_p33 : lw_okq (⟨"StoneSheetsModel", "becomes", "(II)I"⟩, 32) := ⟨⟨by decide +kernel, by decide +kernel⟩, List.mem_of_getElem? (i := 974) (by decide +kernel), List.mem_of_getElem? (i := 1171) (by decide +kernel), List.mem_of_getElem? (i := 1172) (by decide +kernel)⟩
theorem lw_p34 : lw_okq (⟨"StoneSheetsModel", "drawn", "()I"⟩, 32) := ⟨⟨by decide +kernel, by decide +kernel⟩, List.mem_of_getElem? (i := 974) (by decide +kernel), List.mem_of_getElem? (i := 1197) (by decide +kernel), List.mem_of_getElem? (i := 1198) (by decide +kernel)⟩
theorem lw_p35 : lw_okq (⟨"StoneSheetsModel", "falseOf", "(II)I"⟩, 32) := ⟨⟨by decide +kernel, by decide +kernel⟩, List.mem_of_getElem? (i := 974) (by decide +kernel), List.mem_of_getElem? (i := 1211) (by decide +kernel), List.mem_of_getElem? (i := 1212) (by decide +kernel)⟩
theorem lw_p36 : lw_okq (⟨"StoneSheetsModel", "joinBy", "(III)I"⟩, 32) := ⟨⟨by decide +kernel, by decide +kernel⟩, List.mem_of_getElem? (i := 974) (by decide +kernel), List.mem_of_getElem? (i := 1223) (by decide +kernel), List.mem_of_getElem? (i := 1224) (by decide +kernel)⟩
theorem lw_p37 : lw_okq (⟨"StoneSheetsModel", "doClash", "(II)Z"⟩, 32) := ⟨⟨by decide +kernel, by decide +kernel⟩, List.mem_of_getElem? (i := 974) (by decide +kernel), List.mem_of_getElem? (i := 1231) (by decide +kernel), List.mem_of_getElem? (i := 1232) (by decide +kernel)⟩
theorem lw_p38 : lw_okq (⟨"StoneSheetsModel", "findClashing", "()V"⟩, 32) := ⟨⟨by decide +kernel, by decide +kernel⟩, List.mem_of_getElem? (i := 974) (by decide +kernel), List.mem_of_getElem? (i := 1239) (by decide +kernel), List.mem_of_getElem? (i := 1240) (by decide +kernel)⟩
theorem lw_p39 : lw_okq (⟨"StoneSheetsModel", "laidOnes", "()I"⟩, 32) := ⟨⟨by decide +kernel, by decide +kernel⟩, List.mem_of_getElem? (i := 974) (by decide +kernel), List.mem_of_getElem? (i := 1243) (by decide +kernel), List.mem_of_getElem? (i := 1244) (by decide +kernel)⟩
theorem lw_p40 : lw_okq (⟨"StoneSheetsModel", "areAtPeace", "(I)Z"⟩, 32) := ⟨⟨by decide +kernel, by decide +kernel⟩, List.mem_of_getElem? (i := 974) (by decide +kernel), List.mem_of_getElem? (i := 1250) (by decide +kernel), List.mem_of_getElem? (i := 1251) (by decide +kernel)⟩
theorem lw_p41 : lw_okq (⟨"StoneSheetsModel", "coveredBy", "(I)I"⟩, 32) := ⟨⟨by decide +kernel, by decide +kernel⟩, List.mem_of_getElem? (i := 974) (by decide +kernel), List.mem_of_getElem? (i := 1258) (by decide +kernel), List.mem_of_getElem? (i := 1259) (by decide +kernel)⟩
theorem lw_p42 : lw_okq (⟨"StoneSheetsModel", "otherwiseAt", "(I)I"⟩, 32) := ⟨⟨by decide +kernel, by decide +kernel⟩, List.mem_of_getElem? (i := 974) (by decide +kernel), List.mem_of_getElem? (i := 1266) (by decide +kernel), List.mem_of_getElem? (i := 1267) (by decide +kernel)⟩
theorem lw_p43 : lw_okq (⟨"StoneSheetsModel", "goesOn", "()V"⟩, 32) := ⟨⟨by decide +kernel, by decide +kernel⟩, List.mem_of_getElem? (i := 974) (by decide +kernel), List.mem_of_getElem? (i := 1275) (by decide +kernel), List.mem_of_getElem? (i := 1276) (by decide +kernel)⟩
theorem lw_p44 : lw_okq (⟨"StoneSheetsModel", "allTrust", "()I"⟩, 32) := ⟨⟨by decide +kernel, by decide +kernel⟩, List.mem_of_getElem? (i := 974) (by decide +kernel), List.mem_of_getElem? (i := 1283) (by decide +kernel), List.mem_of_getElem? (i := 1284) (by decide +kernel)⟩
theorem lw_p45 : lw_okq (⟨"StoneSheetsModel", "laysBy", "()V"⟩, 32) := ⟨⟨by decide +kernel, by decide +kernel⟩, List.mem_of_getElem? (i := 974) (by decide +kernel), List.mem_of_getElem? (i := 1291) (by decide +kernel), List.mem_of_getElem? (i := 1292) (by decide +kernel)⟩
theorem lw_p46 : lw_okq (⟨"StoneSheetsModel", "goesOnMany", "(I)V"⟩, 32) := ⟨⟨by decide +kernel, by decide +kernel⟩, List.mem_of_getElem? (i := 974) (by decide +kernel), List.mem_of_getElem? (i := 1295) (by decide +kernel), List.mem_of_getElem? (i := 1296) (by decide +kernel)⟩
theorem lw_p47 : lw_okq (⟨"StoneSheetsModel", "laysBack", "()V"⟩, 32) := ⟨⟨by decide +kernel, by decide +kernel⟩, List.mem_of_getElem? (i := 974) (by decide +kernel), List.mem_of_getElem? (i := 1299) (by decide +kernel), List.mem_of_getElem? (i := 1300) (by decide +kernel)⟩
def lw_privs_3 : List (MethodName × Nat) := [(⟨"StoneSheetsModel", "saysAt", "(II)I"⟩, 32), (⟨"StoneSheetsModel", "becomes", "(II)I"⟩, 32), (⟨"StoneSheetsModel", "drawn", "()I"⟩, 32), (⟨"StoneSheetsModel", "falseOf", "(II)I"⟩, 32), (⟨"StoneSheetsModel", "joinBy", "(III)I"⟩, 32), (⟨"StoneSheetsModel", "doClash", "(II)Z"⟩, 32), (⟨"StoneSheetsModel", "findClashing", "()V"⟩, 32), (⟨"StoneSheetsModel", "laidOnes", "()I"⟩, 32), (⟨"StoneSheetsModel", "areAtPeace", "(I)Z"⟩, 32), (⟨"StoneSheetsModel", "coveredBy", "(I)I"⟩, 32), (⟨"StoneSheetsModel", "otherwiseAt", "(I)I"⟩, 32), (⟨"StoneSheetsModel", "goesOn", "()V"⟩, 32), (⟨"StoneSheetsModel", "allTrust", "()I"⟩, 32), (⟨"StoneSheetsModel", "laysBy", "()V"⟩, 32), (⟨"StoneSheetsModel", "goesOnMany", "(I)V"⟩, 32), (⟨"StoneSheetsModel", "laysBack", "()V"⟩, 32)]
theorem lw_r3 : ∀ q ∈ lw_privs_3, lw_okq q := List.forall_mem_cons.mpr ⟨lw_p32, List.forall_mem_cons.mpr ⟨lw_p33, List.forall_mem_cons.mpr ⟨lw_p34, List.forall_mem_cons.mpr ⟨lw_p35, List.forall_mem_cons.mpr ⟨lw_p36, List.forall_mem_cons.mpr ⟨lw_p37, List.forall_mem_cons.mpr ⟨lw_p38, List.forall_mem_cons.mpr ⟨lw_p39, List.forall_mem_cons.mpr ⟨lw_p40, List.forall_mem_cons.mpr ⟨lw_p41, List.forall_mem_cons.mpr ⟨lw_p42, List.forall_mem_cons.mpr ⟨lw_p43, List.forall_mem_cons.mpr ⟨lw_p44, List.forall_mem_cons.mpr ⟨lw_p45, List.forall_mem_cons.mpr ⟨lw_p46, List.forall_mem_cons.mpr ⟨lw_p47, fun _ h => absurd h List.not_mem_nil⟩⟩⟩⟩⟩⟩⟩⟩⟩⟩⟩⟩⟩⟩⟩⟩
theorem lw_p48 : lw_okq (⟨"StoneSheetsModel", "parse", "()I"⟩, 32) := ⟨⟨by decide +kernel, by decide +kernel⟩, List.mem_of_getElem? (i := 974) (by decide +kernel), List.mem_of_getElem? (i := 1340) (by decide +kernel), List.mem_of_getElem? (i := 1341) (by decide +kernel)⟩
theorem lw_p49 : lw_okq (⟨"StoneSheetsModel", "nextToken", "()V"⟩, 32) := ⟨⟨by decide +kernel, by decide +kernel⟩, List.mem_of_getElem? (i := 974) (by decide +kernel), List.mem_of_getElem? (i := 1344) (by decide +kernel), List.mem_of_getElem? (i := 1345) (by decide +kernel)⟩
theorem lw_p50 : lw_okq (⟨"StoneSheetsModel", "isLetter", "(I)Z"⟩, 32) := ⟨⟨by decide +kernel, by decide +kernel⟩, List.mem_of_getElem? (i := 974) (by decide +kernel), List.mem_of_getElem? (i := 1348) (by decide +kernel), List.mem_of_getElem? (i := 1349) (by decide +kernel)⟩
theorem lw_p51 : lw_okq (⟨"StoneSheetsModel", "isDigit", "(I)Z"⟩, 32) := ⟨⟨by decide +kernel, by decide +kernel⟩, List.mem_of_getElem? (i := 974) (by decide +kernel), List.mem_of_getElem? (i := 1354) (by decide +kernel), List.mem_of_getElem? (i := 1355) (by decide +kernel)⟩
theorem lw_p52 : lw_okq (⟨"StoneSheetsModel", "key", "()I"⟩, 32) := ⟨⟨by decide +kernel, by decide +kernel⟩, List.mem_of_getElem? (i := 974) (by decide +kernel), List.mem_of_getElem? (i := 1360) (by decide +kernel), List.mem_of_getElem? (i := 1361) (by decide +kernel)⟩
theorem lw_p53 : lw_okq (⟨"StoneSheetsModel", "isWordAt", "(IIII)Z"⟩, 32) := ⟨⟨by decide +kernel, by decide +kernel⟩, List.mem_of_getElem? (i := 974) (by decide +kernel), List.mem_of_getElem? (i := 1364) (by decide +kernel), List.mem_of_getElem? (i := 1365) (by decide +kernel)⟩
theorem lw_p54 : lw_okq (⟨"StoneSheetsModel", "either", "(I)Z"⟩, 32) := ⟨⟨by decide +kernel, by decide +kernel⟩, List.mem_of_getElem? (i := 974) (by decide +kernel), List.mem_of_getElem? (i := 1368) (by decide +kernel), List.mem_of_getElem? (i := 1369) (by decide +kernel)⟩
theorem lw_p55 : lw_okq (⟨"StoneSheetsModel", "both", "(I)Z"⟩, 32) := ⟨⟨by decide +kernel, by decide +kernel⟩, List.mem_of_getElem? (i := 974) (by decide +kernel), List.mem_of_getElem? (i := 1372) (by decide +kernel), List.mem_of_getElem? (i := 1373) (by decide +kernel)⟩
theorem lw_p56 : lw_okq (⟨"StoneSheetsModel", "test", "(I)Z"⟩, 32) := ⟨⟨by decide +kernel, by decide +kernel⟩, List.mem_of_getElem? (i := 974) (by decide +kernel), List.mem_of_getElem? (i := 1376) (by decide +kernel), List.mem_of_getElem? (i := 1377) (by decide +kernel)⟩
theorem lw_p57 : lw_okq (⟨"StoneSheetsModel", "sum", "(I)Z"⟩, 32) := ⟨⟨by decide +kernel, by decide +kernel⟩, List.mem_of_getElem? (i := 974) (by decide +kernel), List.mem_of_getElem? (i := 1380) (by decide +kernel), List.mem_of_getElem? (i := 1381) (by decide +kernel)⟩
theorem lw_p58 : lw_okq (⟨"StoneSheetsModel", "term", "(I)Z"⟩, 32) := ⟨⟨by decide +kernel, by decide +kernel⟩, List.mem_of_getElem? (i := 974) (by decide +kernel), List.mem_of_getElem? (i := 1384) (by decide +kernel), List.mem_of_getElem? (i := 1385) (by decide +kernel)⟩
theorem lw_p59 : lw_okq (⟨"StoneSheetsModel", "part0", "(I)Z"⟩, 32) := ⟨⟨by decide +kernel, by decide +kernel⟩, List.mem_of_getElem? (i := 974) (by decide +kernel), List.mem_of_getElem? (i := 1388) (by decide +kernel), List.mem_of_getElem? (i := 1389) (by decide +kernel)⟩
theorem lw_p60 : lw_okq (⟨"StoneSheetsModel", "step", "(II)V"⟩, 32) := ⟨⟨by decide +kernel, by decide +kernel⟩, List.mem_of_getElem? (i := 974) (by decide +kernel), List.mem_of_getElem? (i := 1392) (by decide +kernel), List.mem_of_getElem? (i := 1393) (by decide +kernel)⟩
theorem lw_p61 : lw_okq (⟨"StoneSheetsModel", "isSign", "(I)Z"⟩, 32) := ⟨⟨by decide +kernel, by decide +kernel⟩, List.mem_of_getElem? (i := 974) (by decide +kernel), List.mem_of_getElem? (i := 1399) (by decide +kernel), List.mem_of_getElem? (i := 1400) (by decide +kernel)⟩
theorem lw_p62 : lw_okq (⟨"StoneSheetsModel", "isText", "(I)Z"⟩, 32) := ⟨⟨by decide +kernel, by decide +kernel⟩, List.mem_of_getElem? (i := 974) (by decide +kernel), List.mem_of_getElem? (i := 1407) (by decide +kernel), List.mem_of_getElem? (i := 1408) (by decide +kernel)⟩
theorem lw_p63 : lw_okq (⟨"StoneSheetsModel", "setAside", "([I[I)V"⟩, 32) := ⟨⟨by decide +kernel, by decide +kernel⟩, List.mem_of_getElem? (i := 974) (by decide +kernel), List.mem_of_getElem? (i := 1482) (by decide +kernel), List.mem_of_getElem? (i := 1483) (by decide +kernel)⟩
def lw_privs_4 : List (MethodName × Nat) := [(⟨"StoneSheetsModel", "parse", "()I"⟩, 32), (⟨"StoneSheetsModel", "nextToken", "()V"⟩, 32), (⟨"StoneSheetsModel", "isLetter", "(I)Z"⟩, 32), (⟨"StoneSheetsModel", "isDigit", "(I)Z"⟩, 32), (⟨"StoneSheetsModel", "key", "()I"⟩, 32), (⟨"StoneSheetsModel", "isWordAt", "(IIII)Z"⟩, 32), (⟨"StoneSheetsModel", "either", "(I)Z"⟩, 32), (⟨"StoneSheetsModel", "both", "(I)Z"⟩, 32), (⟨"StoneSheetsModel", "test", "(I)Z"⟩, 32), (⟨"StoneSheetsModel", "sum", "(I)Z"⟩, 32), (⟨"StoneSheetsModel", "term", "(I)Z"⟩, 32), (⟨"StoneSheetsModel", "part0", "(I)Z"⟩, 32), (⟨"StoneSheetsModel", "step", "(II)V"⟩, 32), (⟨"StoneSheetsModel", "isSign", "(I)Z"⟩, 32), (⟨"StoneSheetsModel", "isText", "(I)Z"⟩, 32), (⟨"StoneSheetsModel", "setAside", "([I[I)V"⟩, 32)]
theorem lw_r4 : ∀ q ∈ lw_privs_4, lw_okq q := List.forall_mem_cons.mpr ⟨lw_p48, List.forall_mem_cons.mpr ⟨lw_p49, List.forall_mem_cons.mpr ⟨lw_p50, List.forall_mem_cons.mpr ⟨lw_p51, List.forall_mem_cons.mpr ⟨lw_p52, List.forall_mem_cons.mpr ⟨lw_p53, List.forall_mem_cons.mpr ⟨lw_p54, List.forall_mem_cons.mpr ⟨lw_p55, List.forall_mem_cons.mpr ⟨lw_p56, List.forall_mem_cons.mpr ⟨lw_p57, List.forall_mem_cons.mpr ⟨lw_p58, List.forall_mem_cons.mpr ⟨lw_p59, List.forall_mem_cons.mpr ⟨lw_p60, List.forall_mem_cons.mpr ⟨lw_p61, List.forall_mem_cons.mpr ⟨lw_p62, List.forall_mem_cons.mpr ⟨lw_p63, fun _ h => absurd h List.not_mem_nil⟩⟩⟩⟩⟩⟩⟩⟩⟩⟩⟩⟩⟩⟩⟩⟩
def lw_privs : List (MethodName × Nat) := lw_privs_1 ++ (lw_privs_2 ++ (lw_privs_3 ++ (lw_privs_4)))
def lw_tbl : List Cond := k2_sels lw_privs ++ tables_1
theorem lw_privs_ok : ∀ q ∈ lw_privs, lw_okq q := by
  show ∀ q ∈ lw_privs_1 ++ (lw_privs_2 ++ (lw_privs_3 ++ (lw_privs_4))), lw_okq q
  exact List.forall_mem_append.mpr ⟨lw_r1, List.forall_mem_append.mpr ⟨lw_r2, List.forall_mem_append.mpr ⟨lw_r3, lw_r4⟩⟩⟩
-- ===== names of the classes, their fields (printed by program from the claim) =====
def RJ0 : String := "java/lang/String"
def RJ1 : String := "java/lang/StringLatin1"
def RJ10 : String := "java/lang/System"
def RJ11 : String := "java/lang/Character"
def RJ2 : String := "java/lang/StringUTF16"
def RJ3 : String := "jdk/internal/util/Preconditions"
def RJ6 : String := "java/lang/Integer"
def RJ7 : String := "java/util/Arrays"
def RJ9 : String := "java/lang/Math"
def RJx145de : String := "java/io/Serializable"
def RJx3cf43 : String := "java/lang/constant/ConstantDesc"
def RJx9f9b0 : String := "java/lang/CharSequence"
def RJxb160c : String := "java/lang/Comparable"
def RJxfd54e : String := "java/lang/constant/Constable"
def RX0 : String := "StoneSheets$Law"
def RX1 : String := "StoneSheets$Laws"
def RX2 : String := "StoneSheets$Reader"
def RX3 : String := "StoneSheets$Row"
def RX4 : String := "StoneSheets$Rubbing"
def RX5 : String := "StoneSheets$Slot"
def RX6 : String := "StoneSheets$Wall"
def RX7 : String := "StoneSheets"
def RX8 : String := "StoneSheetsModel"
def TX0 : u_T := fun k => match k with
  | 0 => ("StoneSheets$Law", "code", "[I", true)
  | 1 => ("StoneSheets$Law", "length", "I", false)
  | 2 => ("StoneSheets$Law", "key", "I", false)
  | _ => ("StoneSheets$Law", "pieces", "I", false)
def tyX0 : Nat → FieldType := fun k => match k with
  | 0 => .array .int
  | 1 => .int
  | 2 => .int
  | _ => .int
theorem nmX0 : ∀ a, a < 4 → ∀ b, b < 4 → a ≠ b → (TX0 a).2.1 ≠ (TX0 b).2.1 := by decide +kernel
theorem tyX0_ok : ∀ k, k < 4 → parseFieldDescriptor (TX0 k).2.2.1 = some (tyX0 k) := by decide +kernel
def TX1 : u_T := fun k => match k with
  | 0 => ("StoneSheets$Laws", "rows", "[LStoneSheets$Law;", true)
  | 1 => ("StoneSheets$Laws", "draft", "LStoneSheets$Law;", true)
  | 2 => ("StoneSheets$Laws", "stack", "[I", true)
  | _ => ("StoneSheets$Laws", "top", "I", false)
def tyX1 : Nat → FieldType := fun k => match k with
  | 0 => .array (.object "StoneSheets$Law")
  | 1 => .object "StoneSheets$Law"
  | 2 => .array .int
  | _ => .int
theorem nmX1 : ∀ a, a < 4 → ∀ b, b < 4 → a ≠ b → (TX1 a).2.1 ≠ (TX1 b).2.1 := by decide +kernel
theorem tyX1_ok : ∀ k, k < 4 → parseFieldDescriptor (TX1 k).2.2.1 = some (tyX1 k) := by decide +kernel
def TX2 : u_T := fun k => match k with
  | 0 => ("StoneSheets$Reader", "tape", "[I", true)
  | 1 => ("StoneSheets$Reader", "length", "I", false)
  | 2 => ("StoneSheets$Reader", "sort", "I", false)
  | 3 => ("StoneSheets$Reader", "start", "I", false)
  | 4 => ("StoneSheets$Reader", "place", "I", false)
  | 5 => ("StoneSheets$Reader", "glued", "Z", false)
  | 6 => ("StoneSheets$Reader", "signs", "[I", true)
  | 7 => ("StoneSheets$Reader", "top", "I", false)
  | 8 => ("StoneSheets$Reader", "brackets", "I", false)
  | 9 => ("StoneSheets$Reader", "nots", "I", false)
  | _ => ("StoneSheets$Reader", "wanting", "Z", false)
def tyX2 : Nat → FieldType := fun k => match k with
  | 0 => .array .int
  | 1 => .int
  | 2 => .int
  | 3 => .int
  | 4 => .int
  | 5 => .boolean
  | 6 => .array .int
  | 7 => .int
  | 8 => .int
  | 9 => .int
  | _ => .boolean
theorem nmX2 : ∀ a, a < 11 → ∀ b, b < 11 → a ≠ b → (TX2 a).2.1 ≠ (TX2 b).2.1 := by decide +kernel
theorem tyX2_ok : ∀ k, k < 11 → parseFieldDescriptor (TX2 k).2.2.1 = some (tyX2 k) := by decide +kernel
def TX3 : u_T := fun k => match k with
  | 0 => ("StoneSheets$Row", "values", "[I", true)
  | 1 => ("StoneSheets$Row", "sort", "I", false)
  | _ => ("StoneSheets$Row", "length", "I", false)
def tyX3 : Nat → FieldType := fun k => match k with
  | 0 => .array .int
  | 1 => .int
  | _ => .int
theorem nmX3 : ∀ a, a < 3 → ∀ b, b < 3 → a ≠ b → (TX3 a).2.1 ≠ (TX3 b).2.1 := by decide +kernel
theorem tyX3_ok : ∀ k, k < 3 → parseFieldDescriptor (TX3 k).2.2.1 = some (tyX3 k) := by decide +kernel
def TX4 : u_T := fun k => match k with
  | 0 => ("StoneSheets$Rubbing", "kind", "I", false)
  | 1 => ("StoneSheets$Rubbing", "raw", "I", false)
  | 2 => ("StoneSheets$Rubbing", "size", "I", false)
  | 3 => ("StoneSheets$Rubbing", "turned", "I", false)
  | 4 => ("StoneSheets$Rubbing", "laid", "I", false)
  | _ => ("StoneSheets$Rubbing", "trust", "I", false)
def tyX4 : Nat → FieldType := fun k => match k with
  | 0 => .int
  | 1 => .int
  | 2 => .int
  | 3 => .int
  | 4 => .int
  | _ => .int
theorem nmX4 : ∀ a, a < 6 → ∀ b, b < 6 → a ≠ b → (TX4 a).2.1 ≠ (TX4 b).2.1 := by decide +kernel
theorem tyX4_ok : ∀ k, k < 6 → parseFieldDescriptor (TX4 k).2.2.1 = some (tyX4 k) := by decide +kernel
def TX5 : u_T := fun k => match k with
  | 0 => ("StoneSheets$Slot", "rubbing", "LStoneSheets$Rubbing;", true)
  | 1 => ("StoneSheets$Slot", "row", "LStoneSheets$Row;", true)
  | 2 => ("StoneSheets$Slot", "thing", "I", false)
  | _ => ("StoneSheets$Slot", "number", "I", false)
def tyX5 : Nat → FieldType := fun k => match k with
  | 0 => .object "StoneSheets$Rubbing"
  | 1 => .object "StoneSheets$Row"
  | 2 => .int
  | _ => .int
theorem nmX5 : ∀ a, a < 4 → ∀ b, b < 4 → a ≠ b → (TX5 a).2.1 ≠ (TX5 b).2.1 := by decide +kernel
theorem tyX5_ok : ∀ k, k < 4 → parseFieldDescriptor (TX5 k).2.2.1 = some (tyX5 k) := by decide +kernel
def TX6 : u_T := fun k => match k with
  | 0 => ("StoneSheets$Wall", "laws", "LStoneSheets$Laws;", true)
  | 1 => ("StoneSheets$Wall", "marks", "[I", true)
  | 2 => ("StoneSheets$Wall", "rubbings", "[LStoneSheets$Rubbing;", true)
  | 3 => ("StoneSheets$Wall", "clashing", "[I", true)
  | 4 => ("StoneSheets$Wall", "counting", "[I", true)
  | 5 => ("StoneSheets$Wall", "many", "I", false)
  | 6 => ("StoneSheets$Wall", "texts", "I", false)
  | 7 => ("StoneSheets$Wall", "tide", "I", false)
  | 8 => ("StoneSheets$Wall", "found", "I", false)
  | _ => ("StoneSheets$Wall", "z", "I", false)
def tyX6 : Nat → FieldType := fun k => match k with
  | 0 => .object "StoneSheets$Laws"
  | 1 => .array .int
  | 2 => .array (.object "StoneSheets$Rubbing")
  | 3 => .array .int
  | 4 => .array .int
  | 5 => .int
  | 6 => .int
  | 7 => .int
  | 8 => .int
  | _ => .int
theorem nmX6 : ∀ a, a < 10 → ∀ b, b < 10 → a ≠ b → (TX6 a).2.1 ≠ (TX6 b).2.1 := by decide +kernel
theorem tyX6_ok : ∀ k, k < 10 → parseFieldDescriptor (TX6 k).2.2.1 = some (tyX6 k) := by decide +kernel
def TX7 : u_T := fun k => match k with
  | 0 => ("StoneSheets", "laws", "LStoneSheets$Laws;", true)
  | 1 => ("StoneSheets", "wall", "LStoneSheets$Wall;", true)
  | 2 => ("StoneSheets", "image", "LStoneSheets$Wall;", true)
  | 3 => ("StoneSheets", "thought", "LStoneSheets$Wall;", true)
  | 4 => ("StoneSheets", "reader", "LStoneSheets$Reader;", true)
  | 5 => ("StoneSheets", "rows", "[LStoneSheets$Row;", true)
  | 6 => ("StoneSheets", "slots", "[LStoneSheets$Slot;", true)
  | 7 => ("StoneSheets", "numbers", "[I", true)
  | 8 => ("StoneSheets", "waiting", "I", false)
  | _ => ("StoneSheets", "imaged", "Z", false)
def tyX7 : Nat → FieldType := fun k => match k with
  | 0 => .object "StoneSheets$Laws"
  | 1 => .object "StoneSheets$Wall"
  | 2 => .object "StoneSheets$Wall"
  | 3 => .object "StoneSheets$Wall"
  | 4 => .object "StoneSheets$Reader"
  | 5 => .array (.object "StoneSheets$Row")
  | 6 => .array (.object "StoneSheets$Slot")
  | 7 => .array .int
  | 8 => .int
  | _ => .boolean
theorem nmX7 : ∀ a, a < 10 → ∀ b, b < 10 → a ≠ b → (TX7 a).2.1 ≠ (TX7 b).2.1 := by decide +kernel
theorem tyX7_ok : ∀ k, k < 10 → parseFieldDescriptor (TX7 k).2.2.1 = some (tyX7 k) := by decide +kernel
def TX8 : u_T := fun k => match k with
  | 0 => ("StoneSheetsModel", "s", "[I", true)
  | 1 => ("StoneSheetsModel", "image", "[I", true)
  | 2 => ("StoneSheetsModel", "aside", "[I", true)
  | 3 => ("StoneSheetsModel", "hasImage", "Z", false)
  | 4 => ("StoneSheetsModel", "tSort", "[I", true)
  | 5 => ("StoneSheetsModel", "tSize", "[I", true)
  | 6 => ("StoneSheetsModel", "tNumber", "[I", true)
  | 7 => ("StoneSheetsModel", "held", "[I", true)
  | 8 => ("StoneSheetsModel", "heldNumber", "[I", true)
  | 9 => ("StoneSheetsModel", "heldWorth", "[I", true)
  | 10 => ("StoneSheetsModel", "heldSize", "[I", true)
  | 11 => ("StoneSheetsModel", "heldRow", "[I", true)
  | 12 => ("StoneSheetsModel", "clashing", "[I", true)
  | 13 => ("StoneSheetsModel", "close", "[I", true)
  | 14 => ("StoneSheetsModel", "tape", "[I", true)
  | 15 => ("StoneSheetsModel", "taped", "I", false)
  | 16 => ("StoneSheetsModel", "begin", "I", false)
  | 17 => ("StoneSheetsModel", "behind", "I", false)
  | 18 => ("StoneSheetsModel", "token", "I", false)
  | 19 => ("StoneSheetsModel", "number", "I", false)
  | 20 => ("StoneSheetsModel", "letter", "I", false)
  | 21 => ("StoneSheetsModel", "deep", "I", false)
  | 22 => ("StoneSheetsModel", "turned", "I", false)
  | 23 => ("StoneSheetsModel", "laid", "I", false)
  | 24 => ("StoneSheetsModel", "laidAt", "I", false)
  | 25 => ("StoneSheetsModel", "said", "I", false)
  | 26 => ("StoneSheetsModel", "named", "[I", true)
  | 27 => ("StoneSheetsModel", "pile", "[I", true)
  | 28 => ("StoneSheetsModel", "carried", "[I", true)
  | 29 => ("StoneSheetsModel", "waits", "[I", true)
  | 30 => ("StoneSheetsModel", "waiting", "I", false)
  | _ => ("StoneSheetsModel", "rowDue", "[I", true)
def tyX8 : Nat → FieldType := fun k => match k with
  | 0 => .array .int
  | 1 => .array .int
  | 2 => .array .int
  | 3 => .boolean
  | 4 => .array .int
  | 5 => .array .int
  | 6 => .array .int
  | 7 => .array .int
  | 8 => .array .int
  | 9 => .array .int
  | 10 => .array .int
  | 11 => .array .int
  | 12 => .array .int
  | 13 => .array .int
  | 14 => .array .int
  | 15 => .int
  | 16 => .int
  | 17 => .int
  | 18 => .int
  | 19 => .int
  | 20 => .int
  | 21 => .int
  | 22 => .int
  | 23 => .int
  | 24 => .int
  | 25 => .int
  | 26 => .array .int
  | 27 => .array .int
  | 28 => .array .int
  | 29 => .array .int
  | 30 => .int
  | _ => .array .int
theorem nmX8 : ∀ a, a < 32 → ∀ b, b < 32 → a ≠ b → (TX8 a).2.1 ≠ (TX8 b).2.1 := by decide +kernel
theorem tyX8_ok : ∀ k, k < 32 → parseFieldDescriptor (TX8 k).2.2.1 = some (tyX8 k) := by decide +kernel
abbrev pcls : List vw_C := [(RX0, TX0, 4), (RX1, TX1, 4), (RX2, TX2, 11), (RX3, TX3, 3), (RX4, TX4, 6), (RX5, TX5, 4), (RX6, TX6, 10), (RX7, TX7, 10), (RX8, TX8, 32)]
def ptyp : Nat → Nat → FieldType := fun c => match c with
  | 0 => tyX0
  | 1 => tyX1
  | 2 => tyX2
  | 3 => tyX3
  | 4 => tyX4
  | 5 => tyX5
  | 6 => tyX6
  | 7 => tyX7
  | _ => tyX8
def pini : Nat → List Value := fun c => match c with
  | 0 => [.null, .int 0, .int 0, .int 0]
  | 1 => [.null, .null, .null, .int 0]
  | 2 => [.null, .int 0, .int 0, .int 0, .int 0, .int 0, .null, .int 0, .int 0, .int 0, .int 0]
  | 3 => [.null, .int 0, .int 0]
  | 4 => [.int 0, .int 0, .int 0, .int 0, .int 0, .int 0]
  | 5 => [.null, .null, .int 0, .int 0]
  | 6 => [.null, .null, .null, .null, .null, .int 0, .int 0, .int 0, .int 0, .int 0]
  | 7 => [.null, .null, .null, .null, .null, .null, .null, .null, .int 0, .int 0]
  | _ => [.null, .null, .null, .int 0, .null, .null, .null, .null, .null, .null, .null, .null, .null, .null, .null, .int 0, .int 0, .int 0, .int 0, .int 0, .int 0, .int 0, .int 0, .int 0, .int 0, .int 0, .null, .null, .null, .null, .int 0, .null]
theorem iX0 : u_ws RX0 TX0 4 = [114, 116, 118, 120].filterMap (fun i => lw_tbl[i]?) := by decide +kernel
theorem iX1 : u_ws RX1 TX1 4 = [130, 132, 134, 136].filterMap (fun i => lw_tbl[i]?) := by decide +kernel
theorem iX2 : u_ws RX2 TX2 11 = [240, 242, 244, 246, 248, 250, 252, 254, 256, 258, 260].filterMap (fun i => lw_tbl[i]?) := by decide +kernel
theorem iX3 : u_ws RX3 TX3 3 = [278, 280, 282].filterMap (fun i => lw_tbl[i]?) := by decide +kernel
theorem iX4 : u_ws RX4 TX4 6 = [171, 173, 175, 177, 179, 181].filterMap (fun i => lw_tbl[i]?) := by decide +kernel
theorem iX5 : u_ws RX5 TX5 4 = [301, 303, 305, 307].filterMap (fun i => lw_tbl[i]?) := by decide +kernel
theorem iX6 : u_ws RX6 TX6 10 = [201, 203, 205, 207, 209, 211, 213, 215, 217, 219].filterMap (fun i => lw_tbl[i]?) := by decide +kernel
theorem iX7 : u_ws RX7 TX7 10 = [320, 322, 324, 326, 328, 330, 332, 334, 336, 338].filterMap (fun i => lw_tbl[i]?) := by decide +kernel
theorem iX8 : u_ws RX8 TX8 32 = [1075, 1077, 1079, 1081, 1083, 1085, 1087, 1089, 1091, 1093, 1095, 1097, 1099, 1101, 1103, 1105, 1107, 1109, 1111, 1113, 1115, 1117, 1119, 1121, 1123, 1125, 1127, 1129, 1131, 1133, 1135, 1137].filterMap (fun i => lw_tbl[i]?) := by decide +kernel
end
section
/-! ===== THE PURE MACHINE: what the bytecode of the claim's methods does, as a function of pure values; cells are numbered from 0 in the order of their making ===== -/
abbrev pC : Type := (Nat × (Nat → Int32)) ⊕ ((Nat × Nat × (Nat → Option Nat)) ⊕ (Nat × List Value))
abbrev pE : Type := Nat × Instr × Nat × Nat × Value × List Nat
abbrev pM : Type := MethodName × ByteArray × Nat × Option FieldType × Nat × Nat × List pE
abbrev pL : Type := List (Option Value)
abbrev pS : Type := Nat × pL × List Value × List pC × Nat × Nat
abbrev pR : Type := Option Value × List pC × Nat × Nat
abbrev pX : Type := Nat → Option (Nat × (Nat → Int32))
abbrev pV : Type := pM → List Value → List pC → Option (Option Value)
def e_pc (e : pE) : Nat := e.1
def e_in (e : pE) : Instr := e.2.1
def e_x (e : pE) : Nat := e.2.2.1
def e_y (e : pE) : Nat := e.2.2.2.1
def e_v (e : pE) : Value := e.2.2.2.2.1
def e_ts (e : pE) : List Nat := e.2.2.2.2.2
def m_y (M : pM) : MethodName := M.1
def m_b (M : pM) : ByteArray := M.2.1
def m_l (M : pM) : Nat := M.2.2.1
def m_r (M : pM) : Option FieldType := M.2.2.2.1
def m_k (M : pM) : Nat := M.2.2.2.2.1
def m_c (M : pM) : Nat := M.2.2.2.2.2.1
def m_code (M : pM) : List pE := M.2.2.2.2.2.2
def pget (L : pL) (i : Nat) : Option Value := match L[i]? with
  | some v => v
  | none => none
def pcat2 (o : Option Value) : Bool := match o with
  | some (.long _) => true
  | some (.double _) => true
  | _ => false
def pset (L : pL) (i : Nat) (v : Value) : Option pL := if i < L.length then (if pcat2 (pget L (i - 1)) = true then none else some (L.set i (some v))) else none
def pexp : List Value → pL
  | [] => []
  | .long x :: vs => some (.long x) :: none :: pexp vs
  | .double x :: vs => some (.double x) :: none :: pexp vs
  | v :: vs => some v :: pexp vs
def pent (n : Nat) (as : List Value) : pL := pexp as ++ List.replicate (n - (pexp as).length) none
def pcs (st : List Value) : Nat := (st.map fun v => v.category).sum
def pnx (i : Nat) (L : pL) (st : List Value) (h : List pC) : Option pS := some (i + 1, L, st, h, 0, 0)
def pc1 (k : ClassFile.Cond) (a : Int32) : Bool := match k with
  | .eq => decide (a = 0)
  | .ne => decide (¬ a = 0)
  | .lt => decide (a < 0)
  | .ge => decide (0 ≤ a)
  | .gt => decide (0 < a)
  | .le => decide (a ≤ 0)
def pc2 (k : ClassFile.Cond) (a b : Int32) : Bool := match k with
  | .eq => decide (a = b)
  | .ne => decide (¬ a = b)
  | .lt => decide (a < b)
  | .ge => decide (b ≤ a)
  | .gt => decide (b < a)
  | .le => decide (a ≤ b)
def psw (z : Int) : List (Int × Nat) → Nat → Nat
  | [], d => d
  | (k, t) :: r, d => if z = k then t else psw z r d
def pkeysT (lo : Int) : List Nat → List (Int × Nat)
  | [] => []
  | t :: r => (lo, t) :: pkeysT (lo + 1) r
def pkeys (e : pE) : List (Int × Nat) := match e_in e with
  | .tableswitch _ lo _ _ => pkeysT lo (e_ts e)
  | .lookupswitch _ ps => (ps.toList.map (fun q => q.1)).zip (e_ts e)
  | _ => []
def pfit (ty : FieldType) (v : Value) : Bool := match ty, v with
  | .int, .int _ => true
  | .boolean, .int x => decide (x = 0 ∨ x = 1)
  | .object _, .null => true
  | .object _, .ref _ => true
  | .array _, .null => true
  | .array _, .ref _ => true
  | _, _ => false
def pbin (f : Int32 → Int32 → Int32) (i : Nat) (L : pL) (st : List Value) (h : List pC) : Option pS := match st with
  | .int b :: .int a :: r => pnx i L (.int (f a b) :: r) h
  | _ => none
def pldi (e : pE) (i : Nat) (L : pL) (st : List Value) (h : List pC) : Option pS := match pget L (e_x e) with
  | some (.int a) => pnx i L (.int a :: st) h
  | _ => none
def pldl (e : pE) (i : Nat) (L : pL) (st : List Value) (h : List pC) : Option pS := match pget L (e_x e) with
  | some (.long a) => pnx i L (.long a :: st) h
  | _ => none
def plda (e : pE) (i : Nat) (L : pL) (st : List Value) (h : List pC) : Option pS := match pget L (e_x e) with
  | some (.ref a) => pnx i L (.ref a :: st) h
  | some .null => pnx i L (.null :: st) h
  | some (.retAddr a) => pnx i L (.retAddr a :: st) h
  | _ => none
def psto (o : Option pL) (i : Nat) (st : List Value) (h : List pC) : Option pS := match o with
  | some L => pnx i L st h
  | none => none
def psti (e : pE) (i : Nat) (L : pL) (st : List Value) (h : List pC) : Option pS := match st with
  | .int a :: r => psto (pset L (e_x e) (.int a)) i r h
  | _ => none
def psta (e : pE) (i : Nat) (L : pL) (st : List Value) (h : List pC) : Option pS := match st with
  | .ref a :: r => psto (pset L (e_x e) (.ref a)) i r h
  | .null :: r => psto (pset L (e_x e) .null) i r h
  | _ => none
def pinc (n : Int) (e : pE) (i : Nat) (L : pL) (st : List Value) (h : List pC) : Option pS := match pget L (e_x e) with
  | some (.int a) => psto (pset L (e_x e) (.int (a + Int32.ofInt n))) i st h
  | _ => none
def pIn (j : Int32) (n : Nat) : Prop := 0 ≤ j ∧ j.toNatClampNeg < n
def pobj (h : List pC) (a : Nat) : Option (Nat × List Value) := match h[a]? with
  | some (.inr (.inr o)) => some o
  | _ => none
def pint (h : List pC) (a : Nat) : Option (Nat × (Nat → Int32)) := match h[a]? with
  | some (.inl o) => some o
  | _ => none
def pref (h : List pC) (a : Nat) : Option (Nat × Nat × (Nat → Option Nat)) := match h[a]? with
  | some (.inr (.inl o)) => some o
  | _ => none
def pgetf (e : pE) (i : Nat) (L : pL) (st : List Value) (h : List pC) : Option pS := match st with
  | .ref a :: r => match pobj h a with
    | some o => if o.1 = e_x e then (match o.2[e_y e]? with
      | some v => pnx i L (v :: r) h
      | none => none) else none
    | none => none
  | _ => none
def pputf (e : pE) (i : Nat) (L : pL) (st : List Value) (h : List pC) : Option pS := match st with
  | v :: .ref a :: r => match pobj h a with
    | some o => if o.1 = e_x e then (if pfit (ptyp (e_x e) (e_y e)) v = true then pnx i L r (h.set a (.inr (.inr (o.1, o.2.set (e_y e) v)))) else none) else none
    | none => none
  | _ => none
def piald (E : pX) (i : Nat) (L : pL) (st : List Value) (h : List pC) : Option pS := match st with
  | .int j :: .ref a :: r => match pint h a with
    | some x => if 0 ≤ j ∧ j.toNatClampNeg < x.1 then pnx i L (.int (x.2 j.toNatClampNeg) :: r) h else none
    | none => none
  | .int j :: .retAddr k :: r => match E k with
    | some x => if 0 ≤ j ∧ j.toNatClampNeg < x.1 then pnx i L (.int (x.2 j.toNatClampNeg) :: r) h else none
    | none => none
  | _ => none
def piast (i : Nat) (L : pL) (st : List Value) (h : List pC) : Option pS := match st with
  | .int v :: .int j :: .ref a :: r => match pint h a with
    | some x => if 0 ≤ j ∧ j.toNatClampNeg < x.1 then pnx i L r (h.set a (.inl (x.1, va_up x.2 j.toNatClampNeg v))) else none
    | none => none
  | _ => none
def paald (i : Nat) (L : pL) (st : List Value) (h : List pC) : Option pS := match st with
  | .int j :: .ref a :: r => match pref h a with
    | some x => if 0 ≤ j ∧ j.toNatClampNeg < x.2.1 then pnx i L (va_rf (x.2.2 j.toNatClampNeg) :: r) h else none
    | none => none
  | _ => none
def paast (i : Nat) (L : pL) (st : List Value) (h : List pC) : Option pS := match st with
  | .ref v :: .int j :: .ref a :: r => match pref h a, pobj h v with
    | some x, some o => if o.1 = x.1 then (if 0 ≤ j ∧ j.toNatClampNeg < x.2.1 then pnx i L r (h.set a (.inr (.inl (x.1, x.2.1, va_up x.2.2 j.toNatClampNeg (some v))))) else none) else none
    | _, _ => none
  | _ => none
def palen (E : pX) (i : Nat) (L : pL) (st : List Value) (h : List pC) : Option pS := match st with
  | .ref a :: r => match h[a]? with
    | some (.inl x) => pnx i L (.int (Int32.ofNat x.1) :: r) h
    | some (.inr (.inl x)) => pnx i L (.int (Int32.ofNat x.2.1) :: r) h
    | _ => none
  | .retAddr k :: r => match E k with
    | some x => pnx i L (.int (Int32.ofNat x.1) :: r) h
    | none => none
  | _ => none
def pnewc (e : pE) (i : Nat) (L : pL) (st : List Value) (h : List pC) : Option pS := if e_x e < pcls.length then some (i + 1, L, .ref h.length :: st, h ++ [.inr (.inr (e_x e, pini (e_x e)))], 1, (pini (e_x e)).length) else none
def pnewa (i : Nat) (L : pL) (st : List Value) (h : List pC) : Option pS := match st with
  | .int n :: r => if 0 ≤ n ∧ n ≤ 100000 then some (i + 1, L, .ref h.length :: r, h ++ [.inl (n.toNatClampNeg, fun _ => 0)], 1, n.toNatClampNeg) else none
  | _ => none
def pnewq (e : pE) (i : Nat) (L : pL) (st : List Value) (h : List pC) : Option pS := match st with
  | .int n :: r => if e_x e < pcls.length ∧ 0 ≤ n ∧ n ≤ 100000 then some (i + 1, L, .ref h.length :: r, h ++ [.inr (.inl (e_x e, n.toNatClampNeg, fun _ => none))], 1, n.toNatClampNeg) else none
  | _ => none
def pocopy (e : pE) (i : Nat) (L : pL) (st : List Value) (h : List pC) : Option pS := match st with
  | .int n :: .int dp :: .ref a1 :: .int sp :: .ref a0 :: r => if e_x e = 99999 ∧ pcs r ≤ 8 then (match pint h a0, pint h a1 with
    | some x, some y => if 0 ≤ sp ∧ 0 ≤ dp ∧ 0 ≤ n ∧ sp.toNatClampNeg + n.toNatClampNeg ≤ x.1 ∧ dp.toNatClampNeg + n.toNatClampNeg ≤ y.1 then pnx i L r (h.set a1 (.inl (y.1, va_cpy x.2 y.2 sp.toNatClampNeg dp.toNatClampNeg n.toNatClampNeg))) else none
    | _, _ => none) else none
  | _ => none
def pm2 (f : Int32 → Int32 → Int32) (i : Nat) (L : pL) (st : List Value) (h : List pC) : Option pS := match st with
  | .int b :: .int a :: r => if pcs r ≤ 8 then pnx i L (.int (f a b) :: r) h else none
  | _ => none
def pm1 (f : Int32 → Int32) (i : Nat) (L : pL) (st : List Value) (h : List pC) : Option pS := match st with
  | .int a :: r => if pcs r ≤ 8 then pnx i L (.int (f a) :: r) h else none
  | _ => none
/-- the JDK's own: Math.max, min, abs; System.arraycopy -/
def pnats (e : pE) (i : Nat) (L : pL) (st : List Value) (h : List pC) : Option pS :=
  if e_x e = 99990 then pm2 (fun a b => if a < b then b else a) i L st h else if e_x e = 99991 then pm2 (fun a b => if b < a then b else a) i L st h else if e_x e = 99992 then pm1 (fun a => if 0 ≤ a then a else 0 - a) i L st h else pocopy e i L st h
def poini (e : pE) (i : Nat) (L : pL) (st : List Value) (h : List pC) : Option pS := match st with
  | .ref _ :: r => if e_x e = 99999 ∧ pcs r ≤ 8 then pnx i L r h else none
  | _ => none
def pdiv (f : Int32 → Int32 → Int32) (i : Nat) (L : pL) (st : List Value) (h : List pC) : Option pS := match st with
  | .int b :: .int a :: r => if b = 0 then none else pnx i L (.int (f a b) :: r) h
  | _ => none
def puni (f : Int32 → Value) (i : Nat) (L : pL) (st : List Value) (h : List pC) : Option pS := match st with
  | .int a :: r => pnx i L (f a :: r) h
  | _ => none
def plbin (f : Int64 → Int64 → Value) (i : Nat) (L : pL) (st : List Value) (h : List pC) : Option pS := match st with
  | .long b :: .long a :: r => pnx i L (f a b :: r) h
  | _ => none
def pdup (i : Nat) (L : pL) (st : List Value) (h : List pC) : Option pS := match st with
  | v :: r => if v.category = 1 then pnx i L (v :: v :: r) h else none
  | _ => none
def pdup2 (i : Nat) (L : pL) (st : List Value) (h : List pC) : Option pS := match st with
  | v :: w :: r => if v.category = 1 ∧ w.category = 1 then pnx i L (v :: w :: v :: w :: r) h else none
  | _ => none
def ppop (i : Nat) (L : pL) (st : List Value) (h : List pC) : Option pS := match st with
  | v :: r => if v.category = 1 then pnx i L r h else none
  | _ => none
def pif1 (k : ClassFile.Cond) (x i : Nat) (L : pL) (st : List Value) (h : List pC) : Option pS := match st with
  | .int a :: r => some (cond (pc1 k a) x (i + 1), L, r, h, 0, 0)
  | _ => none
def pif2 (k : ClassFile.Cond) (x i : Nat) (L : pL) (st : List Value) (h : List pC) : Option pS := match st with
  | .int b :: .int a :: r => some (cond (pc2 k a b) x (i + 1), L, r, h, 0, 0)
  | _ => none
def pifn (x i : Nat) (L : pL) (st : List Value) (h : List pC) : Option pS := match st with
  | .null :: r => some (x, L, r, h, 0, 0)
  | .ref _ :: r => pnx i L r h
  | _ => none
def pifnn (x i : Nat) (L : pL) (st : List Value) (h : List pC) : Option pS := match st with
  | .null :: r => pnx i L r h
  | .ref _ :: r => some (x, L, r, h, 0, 0)
  | _ => none
def pswi (ks : List (Int × Nat)) (x i : Nat) (L : pL) (st : List Value) (h : List pC) : Option pS := match st with
  | .int a :: r => some (psw a.toInt ks x, L, r, h, 0, 0)
  | _ => none
/-- one instruction that is no call of a method of the program, and no return -/
def pstep (E : pX) (e : pE) (i : Nat) (L : pL) (st : List Value) (h : List pC) : Option pS := match e_in e with
  | .iconst _ => pnx i L (e_v e :: st) h
  | .bipush _ => pnx i L (e_v e :: st) h
  | .sipush _ => pnx i L (e_v e :: st) h
  | .lconst _ => pnx i L (e_v e :: st) h
  | .ldc _ => pnx i L (e_v e :: st) h
  | .ldc_w _ => pnx i L (e_v e :: st) h
  | .ldc2_w _ => pnx i L (e_v e :: st) h
  | .aconst_null => pnx i L (.null :: st) h
  | .iload _ => pldi e i L st h
  | .iload_n _ => pldi e i L st h
  | .lload _ => pldl e i L st h
  | .lload_n _ => pldl e i L st h
  | .aload _ => plda e i L st h
  | .aload_n _ => plda e i L st h
  | .istore _ => psti e i L st h
  | .istore_n _ => psti e i L st h
  | .astore _ => psta e i L st h
  | .astore_n _ => psta e i L st h
  | .iinc _ n => pinc n e i L st h
  | .iadd => pbin (fun a b => a + b) i L st h
  | .isub => pbin (fun a b => a - b) i L st h
  | .imul => pbin (fun a b => a * b) i L st h
  | .iand => pbin (fun a b => a &&& b) i L st h
  | .ior => pbin (fun a b => a ||| b) i L st h
  | .ixor => pbin (fun a b => a ^^^ b) i L st h
  | .ishl => pbin (fun a b => a <<< (b &&& 31)) i L st h
  | .ishr => pbin (fun a b => a >>> (b &&& 31)) i L st h
  | .iushr => pbin (fun a b => (a.toUInt32 >>> (b.toUInt32 &&& Int32.toUInt32 31)).toInt32) i L st h
  | .idiv => pdiv (fun a b => a / b) i L st h
  | .irem => pdiv (fun a b => a - a / b * b) i L st h
  | .ineg => puni (fun a => .int (-a)) i L st h
  | .i2l => puni (fun a => .long a.toInt64) i L st h
  | .i2s => puni (fun a => .int a.toInt16.toInt32) i L st h
  | .i2c => puni (fun a => .int (a.toUInt32 % 65536).toInt32) i L st h
  | .ladd => plbin (fun a b => .long (a + b)) i L st h
  | .lcmp => plbin (fun a b => .int (lg_cmp a b)) i L st h
  | .dup => pdup i L st h
  | .dup2 => pdup2 i L st h
  | .pop => ppop i L st h
  | .goto _ => some (e_x e, L, st, h, 0, 0)
  | .ifCond k _ => pif1 k (e_x e) i L st h
  | .if_icmp k _ => pif2 k (e_x e) i L st h
  | .ifnull _ => pifn (e_x e) i L st h
  | .ifnonnull _ => pifnn (e_x e) i L st h
  | .tableswitch _ _ _ _ => pswi (pkeys e) (e_x e) i L st h
  | .lookupswitch _ _ => pswi (pkeys e) (e_x e) i L st h
  | .getfield _ => pgetf e i L st h
  | .putfield _ => pputf e i L st h
  | .iaload => piald E i L st h
  | .iastore => piast i L st h
  | .aaload => paald i L st h
  | .aastore => paast i L st h
  | .arraylength => palen E i L st h
  | .new _ => pnewc e i L st h
  | .newarray _ => pnewa i L st h
  | .anewarray _ => pnewq e i L st h
  | .invokestatic _ => pnats e i L st h
  | .invokespecial _ => poini e i L st h
  | _ => none
def pret (M : pM) (e : pE) (st : List Value) : Option (Option Value) := match e_in e, st with
  | .return_, [] => match m_r M with
    | none => some none
    | _ => none
  | .ireturn, [.int v] => match m_r M with
    | some .int => some (some (.int v))
    | some .boolean => if v = 0 ∨ v = 1 then some (some (.int v)) else none
    | _ => none
  | .areturn, [.null] => match m_r M with
    | some (.object _) => some (some .null)
    | _ => none
  | .areturn, [.ref a] => match m_r M with
    | some (.object _) => some (some (.ref a))
    | _ => none
  | _, _ => none
/-- a call of a method of the program: it, its arguments, what stays on the stack -/
def pcall (P : List pM) (e : pE) (st : List Value) (h : List pC) : Option (pM × List Value × List Value) := match e_in e with
  | .invokestatic _ => match P[e_x e]? with
    | some M => if m_k M = 0 ∧ e_y e ≤ st.length ∧ pcs (st.drop (e_y e)) ≤ 8 then some (M, (st.take (e_y e)).reverse, st.drop (e_y e)) else none
    | none => none
  | .invokevirtual _ => match P[e_x e]? with
    | some M => match st.drop (e_y e) with
      | .ref b :: r => match pobj h b with
        | some o => if m_k M = 1 ∧ o.1 = m_c M ∧ pcs r ≤ 8 then some (M, .ref b :: (st.take (e_y e)).reverse, r) else none
        | none => none
      | _ => none
    | none => none
  | .invokespecial _ => match P[e_x e]? with
    | some M => match st.drop (e_y e) with
      | .ref b :: r => if m_k M = 2 ∧ pcs r ≤ 8 then some (M, .ref b :: (st.take (e_y e)).reverse, r) else none
      | _ => none
    | none => none
  | _ => none
/-- a run of a method from the instruction of number i to its end: what it answers, the cells behind it, how many were made, of how many slots together -/
def pexec (P : List pM) (E : pX) (V : pV) : Nat → Nat → pM → Nat → pL → List Value → List pC → Option pR
  | 0, _, _, _, _, _, _ => none
  | _ + 1, 0, _, _, _, _, _ => none
  | f + 1, d + 1, M, i, L, st, h => match (m_code M)[i]? with
    | none => none
    | some e => match pret M e st with
      | some r => some (r, h, 0, 0)
      | none => match pcall P e st h with
        | some (N, as, rest) => match m_code N with
          | [] => if 6 ≤ d then (match V N as h with
            | some r => pexec P E V f (d + 1) M (i + 1) L (r.toList ++ rest) h
            | none => none) else none
          | _ :: _ => if (pexp as).length ≤ m_l N then (match pexec P E V f d N 0 (pent (m_l N) as) [] h with
            | some (r, h1, k1, n1) => match pexec P E V f (d + 1) M (i + 1) L (r.toList ++ rest) h1 with
              | some (r2, h2, k2, n2) => some (r2, h2, k1 + k2, n1 + n2)
              | none => none
            | none => none) else none
        | none => match pstep E e i L st h with
          | some (i', L', st', h', dk, dn) => match pexec P E V f (d + 1) M i' L' st' h' with
            | some (r2, h2, k2, n2) => some (r2, h2, dk + k2, dn + n2)
            | none => none
          | none => none
end
section
/-! ===== WHAT THE MACHINE HOLDS OF THE PURE CELLS ===== -/
def emb (X : Nat → Nat) (bs : Nat) (v : Value) : Value := match v with
  | .ref a => .ref (bs + a)
  | .retAddr k => .ref (X k)
  | w => w
theorem emb_cat (X : Nat → Nat) (bs : Nat) (v : Value) : (emb X bs v).category = v.category := by cases v <;> rfl
theorem emb_rf (X : Nat → Nat) (bs : Nat) (r : Option Nat) : emb X bs (va_rf r) = va_rf (r.map (fun a => bs + a)) := by cases r <;> rfl
theorem emb_pcs (X : Nat → Nat) (bs : Nat) (st : List Value) : ((st.map (emb X bs)).map fun v => v.category).sum = pcs st := by
  unfold pcs
  rw [List.map_map]
  congr 1
  apply List.map_congr_left
  intro v _
  exact emb_cat X bs v
def cAt (D : va_G) (X : Nat → Nat) (bs : Nat) (U : State) (c : pC) (a : Nat) (H : Heap) : Prop := match c with
  | .inl x => ∃ cA : ClassId, H[a]? = some (arrV cA x.1 (fun j => .int (x.2 j))) ∧ ArrOfT U cA .int
  | .inr (.inl x) => ∃ (cA : ClassId) (r : vw_C), pcls[x.1]? = some r ∧ H[a]? = some (arrV cA x.2.1 (fun j => va_rf ((x.2.2 j).map (fun a => bs + a)))) ∧ ArrOfT U cA (.object r.1) ∧ va_RA U cA (.object r.1)
  | .inr (.inr x) => ∃ r : vw_C, pcls[x.1]? = some r ∧ x.2.length = r.2.2 ∧ t_OB a (D.1 x.1) r.2.2 (D.2 x.1) H (fun k => emb X bs (x.2.getD k .null))
def Rep (D : va_G) (X : Nat → Nat) (bs : Nat) (U : State) (h : List pC) (H : Heap) : Prop := H.size = bs + h.length ∧ ∀ (k : Nat) (c : pC), h[k]? = some c → cAt D X bs U c (bs + k) H
section REP
variable {D : va_G} {X : Nat → Nat} {bs : Nat} {U u : State} {h : List pC} {H H1 : Heap} {c c0 : pC} {a k : Nat}
theorem cAt.kept (hc : cAt D X bs U c a H) (hq : H1[a]? = H[a]?) : cAt D X bs U c a H1 := by
  rcases c with x | x | x
  · obtain ⟨cA, h1, h2⟩ := hc
    exact ⟨cA, hq.trans h1, h2⟩
  · obtain ⟨cA, r, h0, h1, h2⟩ := hc
    exact ⟨cA, r, h0, hq.trans h1, h2⟩
  · obtain ⟨r, h0, h1, h2⟩ := hc
    exact ⟨r, h0, h1, h2.kept hq⟩
theorem cAt.moved (hvm : u.vm.Alike U.vm) (hc : cAt D X bs u c a H) : cAt D X bs U c a H := by
  rcases c with x | x | x
  · obtain ⟨cA, h1, h2⟩ := hc
    exact ⟨cA, h1, arrOfT_moved hvm h2⟩
  · obtain ⟨cA, r, h0, h1, h2, h3⟩ := hc
    exact ⟨cA, r, h0, h1, arrOfT_moved hvm h2, h3.moved hvm⟩
  · exact hc
theorem Rep.moved (hvm : u.vm.Alike U.vm) (R : Rep D X bs u h H) : Rep D X bs U h H := ⟨R.1, fun k c hk => (R.2 k c hk).moved hvm⟩
theorem Rep.lt (R : Rep D X bs U h H) (hk : h[k]? = some c0) : bs + k < H.size := by
  have h1 := (List.getElem?_eq_some_iff.mp hk).1
  have h2 := R.1
  omega
theorem Rep.set (R : Rep D X bs U h H) (hk : h[k]? = some c0) (hz : H1.size = H.size) (hc : cAt D X bs U c (bs + k) H1) (oq : ∀ q : Nat, q ≠ bs + k → H1[q]? = H[q]?) : Rep D X bs U (h.set k c) H1 := by
  refine ⟨by rw [hz, R.1, List.length_set], fun j e hj => ?_⟩
  by_cases hjk : j = k
  · subst hjk
    rw [List.getElem?_set_self (List.getElem?_eq_some_iff.mp hk).1] at hj
    cases hj
    exact hc
  · rw [List.getElem?_set_ne (Ne.symm hjk)] at hj
    exact (R.2 j e hj).kept (oq _ (by omega))
theorem Rep.push (R : Rep D X bs U h H) (hz : H1.size = H.size + 1) (hc : cAt D X bs U c H.size H1) (oq : ∀ q : Nat, q < H.size → H1[q]? = H[q]?) : Rep D X bs U (h ++ [c]) H1 := by
  have hR := R.1
  refine ⟨by rw [hz, hR, List.length_append]; rfl, fun j e hj => ?_⟩
  by_cases hl : j < h.length
  · rw [List.getElem?_append_left hl] at hj
    exact (R.2 j e hj).kept (oq _ (by omega))
  · have h1 := (List.getElem?_eq_some_iff.mp hj).1
    rw [List.length_append] at h1
    have h2 : j = h.length := by
      have h3 : [c].length = 1 := rfl
      omega
    subst h2
    rw [List.getElem?_append_right (Nat.le_refl _), Nat.sub_self] at hj
    cases hj
    rw [← hR]
    exact hc
theorem pobj_at {o : Nat × List Value} (ho : pobj h a = some o) : h[a]? = some (.inr (.inr o)) := by
  unfold pobj at ho
  split at ho
  · rename_i x hx
    cases ho
    exact hx
  · cases ho
theorem pint_at {o : Nat × (Nat → Int32)} (ho : pint h a = some o) : h[a]? = some (.inl o) := by
  unfold pint at ho
  split at ho
  · rename_i x hx
    cases ho
    exact hx
  · cases ho
theorem pref_at {o : Nat × Nat × (Nat → Option Nat)} (ho : pref h a = some o) : h[a]? = some (.inr (.inl o)) := by
  unfold pref at ho
  split at ho
  · rename_i x hx
    cases ho
    exact hx
  · cases ho
end REP
/-! the locals -/
def LH (X : Nat → Nat) (bs : Nat) (ls : Array Slot) (n : Nat) (L : pL) : Prop := lv_has ls n [] ∧ L.length = n ∧ ∀ (i : Nat) (v : Value), pget L i = some v → ls[i]? = some (.val (emb X bs v))
def pLl (X : Nat → Nat) (bs : Nat) (L : pL) : List (Nat × Value) := (List.range L.length).filterMap fun i => (pget L i).map fun v => (i, emb X bs v)
section LHS
variable {X : Nat → Nat} {bs n i : Nat} {ls ls' : Array Slot} {L L' : pL} {v w : Value}
theorem pget_lt (hv : pget L i = some v) : i < L.length := by
  unfold pget at hv
  split at hv
  · rename_i x hx
    exact (List.getElem?_eq_some_iff.mp hx).1
  · cases hv
theorem pLl_mem (hv : pget L i = some v) : (i, emb X bs v) ∈ pLl X bs L := List.mem_filterMap.mpr ⟨i, List.mem_range.mpr (pget_lt hv), by rw [hv]; rfl⟩
theorem LH.has (h : LH X bs ls n L) : lv_has ls n (pLl X bs L) := by
  refine ⟨h.1.1, h.1.2.1, fun q hq => ?_⟩
  obtain ⟨j, -, hj⟩ := List.mem_filterMap.mp hq
  cases hv : pget L j with
  | none => rw [hv] at hj; cases hj
  | some v =>
    rw [hv] at hj
    cases hj
    exact h.2.2 j v hv
theorem pcat2_of (hw : pcat2 (some w) = false) : w.category = 1 := by cases w <;> first | rfl | cases hw
theorem LH.of (hL : L.length = n) (hp : pset L i v = some L') (h : lv_has ls' n ((i, emb X bs v) :: (pLl X bs L).filter (fun q => !(q.1 == i) && !(q.1 + 1 == i && q.2.category == 2)))) : LH X bs ls' n L' := by
  unfold pset at hp
  split at hp
  · rename_i hi
    split at hp
    · cases hp
    · rename_i hc
      cases hp
      refine ⟨⟨h.1, h.2.1, fun q hq => by cases hq⟩, by rw [List.length_set]; exact hL, fun j w hw => ?_⟩
      by_cases hji : j = i
      · subst hji
        unfold pget at hw
        rw [List.getElem?_set_self hi] at hw
        cases hw
        exact h.2.2 _ List.mem_cons_self
      · have hw2 : pget L j = some w := by
          unfold pget at hw ⊢
          rw [List.getElem?_set_ne (Ne.symm hji)] at hw
          exact hw
        refine h.2.2 (j, emb X bs w) (List.mem_cons_of_mem _ (List.mem_filter.mpr ⟨pLl_mem hw2, ?_⟩))
        by_cases hj1 : j + 1 = i
        · have hj2 : i - 1 = j := by omega
          rw [hj2, hw2] at hc
          have hcat := pcat2_of (by simpa using hc)
          simp [hji, emb_cat, hcat]
        · simp [hji, hj1]
  · cases hp
theorem pset_lt (hp : pset L i v = some L') : i < L.length := by
  unfold pset at hp
  split at hp
  · assumption
  · cases hp
end LHS
theorem pexp_len (X : Nat → Nat) (bs : Nat) : ∀ as : List Value, (lg_sl (as.map (emb X bs))).length = (pexp as).length
  | [] => rfl
  | v :: vs => by
    have ih := pexp_len X bs vs
    unfold lg_sl at ih ⊢
    rw [List.map_cons, List.flatMap_cons, List.length_append, ih, emb_cat]
    cases v <;> simp [pexp, Value.category] <;> omega
theorem pexp_in (X : Nat → Nat) (bs : Nat) : ∀ (as : List Value) (k i : Nat) (v : Value), (pexp as)[i]? = some (some v) → (k + i, emb X bs v) ∈ lv_args k (as.map (emb X bs))
  | [], k, i, v, h => by simp [pexp] at h
  | w :: vs, k, i, v, h => by
    have one : ∀ (hc : w.category = 1) (he : pexp (w :: vs) = some w :: pexp vs), (k + i, emb X bs v) ∈ lv_args k ((w :: vs).map (emb X bs)) := by
      intro hc he
      rw [he] at h
      rw [List.map_cons]
      unfold lv_args
      rw [emb_cat, hc, if_neg (by decide)]
      cases i with
      | zero => rw [List.getElem?_cons_zero] at h; cases h; exact List.mem_cons_self
      | succ i =>
        rw [List.getElem?_cons_succ] at h
        have := pexp_in X bs vs (k + 1) i v h
        rw [show k + (i + 1) = k + 1 + i by omega]
        exact List.mem_cons_of_mem _ this
    have two : ∀ (hc : w.category = 2) (he : pexp (w :: vs) = some w :: none :: pexp vs), (k + i, emb X bs v) ∈ lv_args k ((w :: vs).map (emb X bs)) := by
      intro hc he
      rw [he] at h
      rw [List.map_cons]
      unfold lv_args
      rw [emb_cat, hc, if_pos rfl]
      match i, h with
      | 0, h => rw [List.getElem?_cons_zero] at h; cases h; exact List.mem_cons_self
      | 1, h => rw [List.getElem?_cons_succ, List.getElem?_cons_zero] at h; cases h
      | i + 2, h =>
        rw [List.getElem?_cons_succ, List.getElem?_cons_succ] at h
        have := pexp_in X bs vs (k + 2) i v h
        rw [show k + (i + 2) = k + 2 + i by omega]
        exact List.mem_cons_of_mem _ this
    cases w <;> first | exact one rfl rfl | exact two rfl rfl
theorem LH.entry (X : Nat → Nat) (bs n : Nat) (as : List Value) (hn : (pexp as).length ≤ n) : LH X bs ((lg_sl (as.map (emb X bs)) ++ List.replicate (n - (lg_sl (as.map (emb X bs))).length) Slot.unset).toArray) n (pent n as) := by
  have h := lv_entry (as.map (emb X bs)) (n := n) (by rw [pexp_len]; exact hn)
  refine ⟨⟨h.1, h.2.1, fun q hq => by cases hq⟩, ?_, fun i v hv => ?_⟩
  · unfold pent
    rw [List.length_append, List.length_replicate]
    omega
  · have hi : (pexp as)[i]? = some (some v) := by
      unfold pget pent at hv
      by_cases hl : i < (pexp as).length
      · rw [List.getElem?_append_left hl] at hv
        cases hx : (pexp as)[i]? with
        | none => rw [hx] at hv; cases hv
        | some o => rw [hx] at hv; exact congrArg some hv
      · rw [List.getElem?_append_right (by omega)] at hv
        cases hx : (List.replicate (n - (pexp as).length) (none : Option Value))[i - (pexp as).length]? with
        | none => rw [hx] at hv; cases hv
        | some o =>
          rw [hx] at hv
          have := List.eq_of_mem_replicate (List.mem_of_getElem? hx)
          rw [this] at hv
          cases hv
    have := pexp_in X bs as 0 i v hi
    rw [Nat.zero_add] at this
    exact h.2.2 _ this
end
section
/-! ===== WHEN A TABLE IS THE METHOD'S: checks that the kernel makes ===== -/
def pcOf (code : List pE) (i : Nat) : Nat := match code[i]? with
  | some t => e_pc t
  | none => 0
def ilen (x : Instr) : Nat := match x with
  | .bipush _ => 2
  | .ldc _ => 2
  | .iload _ => 2
  | .lload _ => 2
  | .aload _ => 2
  | .istore _ => 2
  | .astore _ => 2
  | .newarray _ => 2
  | .sipush _ => 3
  | .ldc_w _ => 3
  | .ldc2_w _ => 3
  | .iinc _ _ => 3
  | .goto _ => 3
  | .ifCond _ _ => 3
  | .if_icmp _ _ => 3
  | .ifnull _ => 3
  | .ifnonnull _ => 3
  | .getfield _ => 3
  | .putfield _ => 3
  | .new _ => 3
  | .anewarray _ => 3
  | .invokestatic _ => 3
  | .invokevirtual _ => 3
  | .invokespecial _ => 3
  | _ => 1
def pwdec (b : ByteArray) (t : pE) : Bool := match e_in t with
  | .tableswitch d lo hi os => decide (decode b (e_pc t) = .ok (.tableswitch d lo hi os, e_y t))
  | .lookupswitch d ps => decide (decode b (e_pc t) = .ok (.lookupswitch d ps, e_y t))
  | ins => decide (decode b (e_pc t) = .ok (ins, ilen ins))
def pwnext (code : List pE) (i : Nat) (t : pE) : Bool := match e_in t with
  | .goto _ => true
  | .ireturn => true
  | .areturn => true
  | .return_ => true
  | .tableswitch _ _ _ _ => true
  | .lookupswitch _ _ => true
  | ins => decide (pcOf code (i + 1) = e_pc t + ilen ins)
def pwint (v : Value) : Bool := match v with
  | .int _ => true
  | _ => false
def pwlong (v : Value) : Bool := match v with
  | .long _ => true
  | _ => false
def pnn (P : List pM) (x y : Nat) : Bool := match P[x]? with
  | some N => decide ((parseMethodDescriptor (m_y N).desc).map (fun d => d.parameters.length) = some y)
  | none => true
def pfok (M : pM) (x y : Nat) (w : Bool) : Bool := match pcls[x]? with
  | some q => decide (y < q.2.2) && (!w || (decide ((q.2.1 y).2.2.2 = false) || (decide (m_k M = 2) && decide ((q.2.1 y).1 = (m_y M).cls))))
  | none => false
def pwarg (P : List pM) (M : pM) (t : pE) : Bool := match e_in t with
  | .iconst n => decide (e_v t = .int (Int32.ofInt n))
  | .bipush n => decide (e_v t = .int (Int8.ofInt n).toInt32)
  | .sipush n => decide (e_v t = .int (Int16.ofInt n).toInt32)
  | .lconst n => decide (e_v t = .long (Int64.ofNat (n : Nat)))
  | .ldc _ => pwint (e_v t)
  | .ldc_w _ => pwint (e_v t)
  | .ldc2_w _ => pwlong (e_v t)
  | .iload n => decide (n = e_x t)
  | .lload n => decide (n = e_x t)
  | .aload n => decide (n = e_x t)
  | .istore n => decide (n = e_x t)
  | .astore n => decide (n = e_x t)
  | .iload_n n => decide ((n : Nat) = e_x t)
  | .lload_n n => decide ((n : Nat) = e_x t)
  | .aload_n n => decide ((n : Nat) = e_x t)
  | .istore_n n => decide ((n : Nat) = e_x t)
  | .astore_n n => decide ((n : Nat) = e_x t)
  | .iinc n _ => decide (n = e_x t)
  | .goto off => decide ((e_pc t : Int) + off = (pcOf (m_code M) (e_x t) : Int))
  | .ifCond _ off => decide ((e_pc t : Int) + off = (pcOf (m_code M) (e_x t) : Int))
  | .if_icmp _ off => decide ((e_pc t : Int) + off = (pcOf (m_code M) (e_x t) : Int))
  | .ifnull off => decide ((e_pc t : Int) + off = (pcOf (m_code M) (e_x t) : Int))
  | .ifnonnull off => decide ((e_pc t : Int) + off = (pcOf (m_code M) (e_x t) : Int))
  | .tableswitch d lo hi os => decide ((e_pc t : Int) + d = (pcOf (m_code M) (e_x t) : Int)) && (decide (hi = lo + ((e_ts t).length : Int) - 1) && decide (os.toList.map (fun z => (e_pc t : Int) + z) = (e_ts t).map (fun z => (pcOf (m_code M) z : Int))))
  | .lookupswitch d ps => decide ((e_pc t : Int) + d = (pcOf (m_code M) (e_x t) : Int)) && ((ps.toList.zip (ps.toList.drop 1)).all (fun (a, next) => a.1 < next.1) && decide (ps.toList.map (fun z => (e_pc t : Int) + z.2) = (e_ts t).map (fun z => (pcOf (m_code M) z : Int))))
  | .getfield _ => pfok M (e_x t) (e_y t) false
  | .putfield _ => pfok M (e_x t) (e_y t) true
  | .newarray a => decide (a = .int)
  | .invokestatic _ => pnn P (e_x t) (e_y t)
  | .invokevirtual _ => pnn P (e_x t) (e_y t)
  | .invokespecial _ => pnn P (e_x t) (e_y t)
  | _ => true
def plk (own : String) (k : Nat) (y : MethodName) (v : Value) : Cond := match v with
  | .null => .methodLink own k y
  | _ => .methodLinkNest own k y "StoneSheets"
def pnlk (own : String) (k x : Nat) : List Cond :=
  if x = 99990 then [.methodLink own k Lib.Math.max.name, .static Lib.Math.max.name, .initialized "java/lang/Math", .code Lib.Math.max.name Lib.Math.max.code 2 (some .int)]
  else if x = 99991 then [.methodLink own k Lib.Math.min.name, .static Lib.Math.min.name, .initialized "java/lang/Math", .code Lib.Math.min.name Lib.Math.min.code 2 (some .int)]
  else if x = 99992 then [.methodLink own k Lib.Math.abs.name, .static Lib.Math.abs.name, .initialized "java/lang/Math", .code Lib.Math.abs.name Lib.Math.abs.code 1 (some .int)]
  else [.methodLink own k arraycopyName, .native arraycopyName, .static arraycopyName, .initialized "java/lang/System"]
/-- the words that an instruction links by -/
def plnk (P : List pM) (own : String) (t : pE) : List Cond := match e_in t with
  | .ldc k => match e_v t with
    | .int v => [.constant own k v]
    | _ => []
  | .ldc_w k => match e_v t with
    | .int v => [.constant own k v]
    | _ => []
  | .ldc2_w k => match e_v t with
    | .long v => [.constantLong own k v]
    | _ => []
  | .getfield k => match pcls[e_x t]? with
    | some q => [.fieldLink own k (q.2.1 (e_y t)).1 (q.2.1 (e_y t)).2.1 (q.2.1 (e_y t)).2.2.1]
    | none => []
  | .putfield k => match pcls[e_x t]? with
    | some q => [.fieldLink own k (q.2.1 (e_y t)).1 (q.2.1 (e_y t)).2.1 (q.2.1 (e_y t)).2.2.1]
    | none => []
  | .new k => match pcls[e_x t]? with
    | some q => [.classLink own k q.1, .instantiable q.1 q.2.2, .initialized q.1]
    | none => []
  | .newarray _ => [.arrayClass .int]
  | .anewarray k => match pcls[e_x t]? with
    | some q => [.classLink own k q.1, .arrayOver (.object q.1)]
    | none => []
  | .invokestatic k => match P[e_x t]? with
    | some N => [plk own k (m_y N) (e_v t)]
    | none => pnlk own k (e_x t)
  | .invokevirtual k => match P[e_x t]? with
    | some N => [.methodLink own k (m_y N)]
    | none => []
  | .invokespecial k => match P[e_x t]? with
    | some N => [plk own k (m_y N) (e_v t)]
    | none => [.methodLink own k Lib.objectInit, .instanceMethod Lib.objectInit, .code Lib.objectInit ⟨#[0xb1]⟩ 1 none]
  | _ => []
def plnks (P : List pM) (M : pM) : List Cond := (m_code M).flatMap (plnk P (m_y M).cls)
/-- the words by which a method is called -/
def pmw (M : pM) : List Cond := match m_k M with
  | 0 => [.code (m_y M) (m_b M) (m_l M) (m_r M), .static (m_y M), .initialized (m_y M).cls]
  | 1 => [.code (m_y M) (m_b M) (m_l M) (m_r M), .instanceMethod (m_y M), .selects (m_y M).cls (m_y M) (m_y M), .initialized (m_y M).cls]
  | _ => [.code (m_y M) (m_b M) (m_l M) (m_r M), .instanceMethod (m_y M), .initialized (m_y M).cls]
def pwAll (P : List pM) (M : pM) : Nat → List pE → Bool
  | _, [] => true
  | i, t :: r => (pwdec (m_b M) t && (pwnext (m_code M) i t && pwarg P M t)) && pwAll P M (i + 1) r
def pmB (M : pM) : Bool := plainName (m_y M).cls && (decide ((m_y M).cls ≠ "java/lang/invoke/MethodHandle") && (decide ((m_y M).cls ≠ "java/lang/invoke/VarHandle") && (decide (m_l M ≤ 21 ∧ pcOf (m_code M) 0 = 0) && (match m_k M with
  | 0 => true
  | 1 => decide ((pcls[m_c M]?).map (fun q => q.1) = some (m_y M).cls)
  | _ => decide (m_k M = 2) && (decide ((m_y M).name = "<init>") && decide (m_r M = none))))))
def pwB (P : List pM) (M : pM) : Bool := pmB M && pwAll P M 0 (m_code M)
def nword (w : Cond) : Bool := match w with
  | .methodLinkNest _ _ _ _ => true
  | .arrayOver (.object _) => true
  | _ => false
def uword (w : Cond) : Bool := goodWord w || nword w
def utbl : List Cond := lw_tbl.filter uword
def gtbl : List Cond := lw_tbl.filter goodWord
theorem in_of {ws : List Cond} {ps : List Nat} (h : ws = ps.filterMap (fun i => lw_tbl[i]?)) (hu : ws.all uword = true) : ∀ w ∈ ws, w ∈ utbl := by
  intro w hw
  refine List.mem_filter.mpr ⟨?_, List.all_eq_true.mp hu w hw⟩
  rw [h] at hw
  obtain ⟨i, -, hi⟩ := List.mem_filterMap.mp hw
  exact List.mem_of_getElem? hi
def WFe (P : List pM) (M : pM) : Prop := pwAll P M 0 (m_code M) = true ∧ ∀ w ∈ plnks P M, w ∈ utbl
def WFm (P : List pM) (M : pM) : Prop := WFe P M ∧ pmB M = true ∧ ∀ w ∈ pmw M, w ∈ utbl
theorem WFm.of {P : List pM} {M : pM} {ps qs : List Nat} (h1 : pwB P M = true) (h2 : plnks P M = ps.filterMap (fun i => lw_tbl[i]?)) (h3 : pmw M = qs.filterMap (fun i => lw_tbl[i]?)) (hu : (plnks P M ++ pmw M).all uword = true) : WFm P M := by
  unfold pwB at h1
  rw [Bool.and_eq_true] at h1
  rw [List.all_append, Bool.and_eq_true] at hu
  exact ⟨⟨h1.2, in_of h2 hu.1⟩, h1.1, in_of h3 hu.2⟩
theorem pwAll_at {P : List pM} {M : pM} : ∀ (l : List pE) (i j : Nat) (t : pE), pwAll P M i l = true → l[j]? = some t → (pwdec (m_b M) t && (pwnext (m_code M) (i + j) t && pwarg P M t)) = true
  | [], i, j, t, _, h => by simp at h
  | u :: r, i, j, t, hw, h => by
    unfold pwAll at hw
    rw [Bool.and_eq_true] at hw
    cases j with
    | zero =>
      rw [List.getElem?_cons_zero] at h
      cases h
      exact hw.1
    | succ j =>
      rw [List.getElem?_cons_succ] at h
      have := pwAll_at r (i + 1) j t hw.2 h
      rw [show i + (j + 1) = i + 1 + j by omega]
      exact this
/-! ===== A POINT OF A RUN, on the machine ===== -/
/-- what the law knew at its entry, of a state that came out of it: the tables' words, the given premises, the low cells -/
def GS (bs : Nat) (U : State) : Prop := ∃ (A : Array Value) (s0 : State), (∀ w ∈ lw_tbl, w.before A s0 = true) ∧ (Jvm.Cond.and given_1 narrow_1).before A s0 = true ∧ s0.WarmedH U.vm ∧ s0.heap.size = bs ∧ ∀ q : Nat, q < bs → U.heap[q]? = s0.heap[q]?
theorem GS.same {bs : Nat} {u U : State} (hv : u.vm = U.vm) (hh : U.heap = u.heap) (hp : GS bs u) : GS bs U := by
  obtain ⟨A, s0, h1, h2, h3, h4, h5⟩ := hp
  exact ⟨A, s0, h1, h2, by rw [← hv]; exact h3, h4, fun q hq => by rw [hh]; exact h5 q hq⟩
theorem GS.warm {bs : Nat} {s U : State} (hW : s.WarmedH U.vm) (hl : ∀ q : Nat, q < bs → U.heap[q]? = s.heap[q]?) (hp : GS bs s) : GS bs U := by
  obtain ⟨A, s0, h1, h2, h3, h4, h5⟩ := hp
  exact ⟨A, s0, h1, h2, h3.trans hW, h4, fun q hq => (hl q hq).trans (h5 q hq)⟩
def Cx (p : Program) (s : State) (m : MethodId) (args : Array Value) (meth : Method) (c : Code) (D : va_G) (X : Nat → Nat) (bs : Nat) (E : pX) (M : pM) : Prop :=
  p.tables.exec = Jvm.exec ∧ c.code = m_b M ∧ c.maxLocals = m_l M ∧ s.vm.findClass (m_y M).cls = some m.cls ∧ (∀ w ∈ utbl, w.before args s = true) ∧ va_K D pcls [] s ∧ (∀ (k : Nat) (x : Nat × (Nat → Int32)), E k = some x → va_X (X k) x.1 x.2 s s.heap ∧ X k < bs) ∧ ((m_k M = 2 → meth.name = "<init>") ∧ GS bs s)
section PWS
variable {p : Program} {l : Launch} {e : Env} {R : Room} {s : State} {m : MethodId} {args : Array Value} {below : List Frame} {meth : Method} {c : Code} {Q : State → Prop} {D : va_G} {X : Nat → Nat} {bs : Nat} {E : pX} {P : List pM} {M : pM}
def PW (p : Program) (l : Launch) (e : Env) (R : Room) (s : State) (m : MethodId) (args : Array Value) (below : List Frame) (meth : Method) (c : Code) (Q : State → Prop) (D : va_G) (X : Nat → Nat) (bs : Nat) (M : pM) (i : Nat) (L : pL) (st : List Value) (h : List pC) (cells slots : Nat) : Prop :=
  ∀ (H : Heap) (locs : List Loc) (ls : Array Slot), Rep D X bs s h H → LH X bs ls (m_l M) L → (∀ q : Nat, q < bs → H[q]? = s.heap[q]?) → (∀ x ∈ locs, bs ≤ x.base) → W p l e R s m args below meth c H locs cells slots Q (F0 m (pcOf (m_code M) i) ls (st.map (emb X bs)))
def SWc (p : Program) (s : State) (m : MethodId) (args : Array Value) (meth : Method) (c : Code) (D : va_G) (X : Nat → Nat) (bs : Nat) (E : pX) (P : List pM) (M : pM) (i : Nat) (t : pE) : Prop :=
  Cx p s m args meth c D X bs E M ∧ (m_code M)[i]? = some t ∧ pwdec (m_b M) t = true ∧ pwnext (m_code M) i t = true ∧ pwarg P M t = true ∧ ∀ w ∈ plnk P (m_y M).cls t, w ∈ utbl
variable {i pc x y : Nat} {v : Value} {ts : List Nat} {L L' : pL} {st st' r : List Value} {h h' : List pC} {cells slots : Nat}
theorem pcOf_at {t : pE} (he : (m_code M)[i]? = some t) : pcOf (m_code M) i = e_pc t := by
  unfold pcOf
  rw [he]
theorem pw_st {len : Nat} (hpc : pcOf (m_code M) i = pc) (hn : pcOf (m_code M) (i + 1) = pc + len) (k : PW p l e R s m args below meth c Q D X bs M (i + 1) L st' h cells slots)
    (row : ∀ (H : Heap) (locs : List Loc) (ls : Array Slot), LH X bs ls (m_l M) L → W p l e R s m args below meth c H locs cells slots Q (F0 m (pc + len) ls (st'.map (emb X bs))) → W p l e R s m args below meth c H locs cells slots Q (F0 m pc ls (st.map (emb X bs)))) : PW p l e R s m args below meth c Q D X bs M i L st h cells slots := by
  intro H locs ls HR HL h1 h2
  rw [hpc]
  refine row H locs ls HL ?_
  rw [← hn]
  exact k H locs ls HR HL h1 h2
theorem pw_sto {len : Nat} {w : Value} (hpc : pcOf (m_code M) i = pc) (hn : pcOf (m_code M) (i + 1) = pc + len) (hp : pset L x w = some L') (k : PW p l e R s m args below meth c Q D X bs M (i + 1) L' st' h cells slots)
    (row : ∀ (H : Heap) (locs : List Loc) (ls : Array Slot), LH X bs ls (m_l M) L → x < m_l M → lv_has ls (m_l M) (pLl X bs L) → (∀ ls' : Array Slot, lv_has ls' (m_l M) ((x, emb X bs w) :: (pLl X bs L).filter (fun q => !(q.1 == x) && !(q.1 + 1 == x && q.2.category == 2))) → W p l e R s m args below meth c H locs cells slots Q (F0 m (pc + len) ls' (st'.map (emb X bs)))) → W p l e R s m args below meth c H locs cells slots Q (F0 m pc ls (st.map (emb X bs)))) : PW p l e R s m args below meth c Q D X bs M i L st h cells slots := by
  intro H locs ls HR HL h1 h2
  rw [hpc]
  refine row H locs ls HL (by have := pset_lt hp; rw [HL.2.1] at this; exact this) HL.has (fun ls' hl => ?_)
  rw [← hn]
  exact k H locs ls' HR (LH.of HL.2.1 hp hl) h1 h2
theorem pw_j {j tgt : Nat} (hpc : pcOf (m_code M) i = pc) (hj : pcOf (m_code M) j = tgt) (k : PW p l e R s m args below meth c Q D X bs M j L st' h cells slots)
    (row : ∀ (H : Heap) (locs : List Loc) (ls : Array Slot), W p l e R s m args below meth c H locs cells slots Q (F0 m tgt ls (st'.map (emb X bs))) → W p l e R s m args below meth c H locs cells slots Q (F0 m pc ls (st.map (emb X bs)))) : PW p l e R s m args below meth c Q D X bs M i L st h cells slots := by
  intro H locs ls HR HL h1 h2
  rw [hpc]
  refine row H locs ls ?_
  rw [← hj]
  exact k H locs ls HR HL h1 h2

theorem sw_iconst {n : Int} (B : SWc p s m args meth c D X bs E P M i (pc, .iconst n, x, y, v, ts)) (k : PW p l e R s m args below meth c Q D X bs M (i + 1) L (v :: st) h cells slots) : PW p l e R s m args below meth c Q D X bs M i L (st) h cells slots := by
  obtain ⟨C, he, hd0, hn0, ha0, hl⟩ := B
  have hd : decode (m_b M) pc = .ok (.iconst n, 1) := of_decide_eq_true hd0
  have hn : pcOf (m_code M) (i + 1) = pc + 1 := of_decide_eq_true hn0
  have ha : v = .int (Int32.ofInt n) := of_decide_eq_true ha0
  subst ha
  exact pw_st (pcOf_at he) hn k (fun H locs ls HL w => lv_iconst C.1 C.2.1 hd rfl w)
theorem sw_bipush {n : Int} (B : SWc p s m args meth c D X bs E P M i (pc, .bipush n, x, y, v, ts)) (k : PW p l e R s m args below meth c Q D X bs M (i + 1) L (v :: st) h cells slots) : PW p l e R s m args below meth c Q D X bs M i L (st) h cells slots := by
  obtain ⟨C, he, hd0, hn0, ha0, hl⟩ := B
  have hd : decode (m_b M) pc = .ok (.bipush n, 2) := of_decide_eq_true hd0
  have hn : pcOf (m_code M) (i + 1) = pc + 2 := of_decide_eq_true hn0
  have ha : v = .int (Int8.ofInt n).toInt32 := of_decide_eq_true ha0
  subst ha
  exact pw_st (pcOf_at he) hn k (fun H locs ls HL w => lv_bipush C.1 C.2.1 hd rfl w)
theorem sw_sipush {n : Int} (B : SWc p s m args meth c D X bs E P M i (pc, .sipush n, x, y, v, ts)) (k : PW p l e R s m args below meth c Q D X bs M (i + 1) L (v :: st) h cells slots) : PW p l e R s m args below meth c Q D X bs M i L (st) h cells slots := by
  obtain ⟨C, he, hd0, hn0, ha0, hl⟩ := B
  have hd : decode (m_b M) pc = .ok (.sipush n, 3) := of_decide_eq_true hd0
  have hn : pcOf (m_code M) (i + 1) = pc + 3 := of_decide_eq_true hn0
  have ha : v = .int (Int16.ofInt n).toInt32 := of_decide_eq_true ha0
  subst ha
  exact pw_st (pcOf_at he) hn k (fun H locs ls HL w => lv_sipush C.1 C.2.1 hd rfl w)
theorem sw_lconst {n : Fin 2} (B : SWc p s m args meth c D X bs E P M i (pc, .lconst n, x, y, v, ts)) (k : PW p l e R s m args below meth c Q D X bs M (i + 1) L (v :: st) h cells slots) : PW p l e R s m args below meth c Q D X bs M i L (st) h cells slots := by
  obtain ⟨C, he, hd0, hn0, ha0, hl⟩ := B
  have hd : decode (m_b M) pc = .ok (.lconst n, 1) := of_decide_eq_true hd0
  have hn : pcOf (m_code M) (i + 1) = pc + 1 := of_decide_eq_true hn0
  have ha : v = .long (Int64.ofNat (n : Nat)) := of_decide_eq_true ha0
  subst ha
  exact pw_st (pcOf_at he) hn k (fun H locs ls HL w => lv_lconst C.1 C.2.1 hd rfl w)
theorem sw_ldc {n : Nat} (B : SWc p s m args meth c D X bs E P M i (pc, .ldc n, x, y, v, ts)) (k : PW p l e R s m args below meth c Q D X bs M (i + 1) L (v :: st) h cells slots) : PW p l e R s m args below meth c Q D X bs M i L (st) h cells slots := by
  obtain ⟨C, he, hd0, hn0, ha0, hl⟩ := B
  have hd : decode (m_b M) pc = .ok (.ldc n, 2) := of_decide_eq_true hd0
  have hn : pcOf (m_code M) (i + 1) = pc + 2 := of_decide_eq_true hn0
  have ha : pwint v = true := ha0
  cases v <;> try (cases ha; done)
  rename_i z
  have hc : (Jvm.Cond.constant (m_y M).cls n z).before args s = true := C.2.2.2.2.1 _ (hl _ List.mem_cons_self)
  exact pw_st (pcOf_at he) hn k (fun H locs ls HL w => lv_ldc C.1 C.2.1 C.2.2.2.1 hc hd w)
theorem sw_ldc_w {n : Nat} (B : SWc p s m args meth c D X bs E P M i (pc, .ldc_w n, x, y, v, ts)) (k : PW p l e R s m args below meth c Q D X bs M (i + 1) L (v :: st) h cells slots) : PW p l e R s m args below meth c Q D X bs M i L (st) h cells slots := by
  obtain ⟨C, he, hd0, hn0, ha0, hl⟩ := B
  have hd : decode (m_b M) pc = .ok (.ldc_w n, 3) := of_decide_eq_true hd0
  have hn : pcOf (m_code M) (i + 1) = pc + 3 := of_decide_eq_true hn0
  have ha : pwint v = true := ha0
  cases v <;> try (cases ha; done)
  rename_i z
  have hc : (Jvm.Cond.constant (m_y M).cls n z).before args s = true := C.2.2.2.2.1 _ (hl _ List.mem_cons_self)
  exact pw_st (pcOf_at he) hn k (fun H locs ls HL w => lv_ldcw C.1 C.2.1 C.2.2.2.1 hc hd w)
theorem sw_ldc2_w {n : Nat} (B : SWc p s m args meth c D X bs E P M i (pc, .ldc2_w n, x, y, v, ts)) (k : PW p l e R s m args below meth c Q D X bs M (i + 1) L (v :: st) h cells slots) : PW p l e R s m args below meth c Q D X bs M i L (st) h cells slots := by
  obtain ⟨C, he, hd0, hn0, ha0, hl⟩ := B
  have hd : decode (m_b M) pc = .ok (.ldc2_w n, 3) := of_decide_eq_true hd0
  have hn : pcOf (m_code M) (i + 1) = pc + 3 := of_decide_eq_true hn0
  have ha : pwlong v = true := ha0
  cases v <;> try (cases ha; done)
  rename_i z
  have hc : (Jvm.Cond.constantLong (m_y M).cls n z).before args s = true := C.2.2.2.2.1 _ (hl _ List.mem_cons_self)
  exact pw_st (pcOf_at he) hn k (fun H locs ls HL w => lv_ldc2 C.1 C.2.1 C.2.2.2.1 hc hd w)
theorem sw_aconst_null  (B : SWc p s m args meth c D X bs E P M i (pc, .aconst_null, x, y, v, ts))  (k : PW p l e R s m args below meth c Q D X bs M (i + 1) L (.null :: st) h cells slots) : PW p l e R s m args below meth c Q D X bs M i L (st) h cells slots := by
  obtain ⟨C, he, hd0, hn0, ha0, hl⟩ := B
  have hd : decode (m_b M) pc = .ok (.aconst_null, 1) := of_decide_eq_true hd0
  have hn : pcOf (m_code M) (i + 1) = pc + 1 := of_decide_eq_true hn0
  exact pw_st (pcOf_at he) hn k (fun H locs ls HL w => lv_null C.1 C.2.1 hd w)
theorem sw_iload {n : Nat} {a : Int32} (B : SWc p s m args meth c D X bs E P M i (pc, .iload n, x, y, v, ts)) (hv : pget L x = some (.int a)) (k : PW p l e R s m args below meth c Q D X bs M (i + 1) L (.int a :: st) h cells slots) : PW p l e R s m args below meth c Q D X bs M i L (st) h cells slots := by
  obtain ⟨C, he, hd0, hn0, ha0, hl⟩ := B
  have hd : decode (m_b M) pc = .ok (.iload n, 2) := of_decide_eq_true hd0
  have hn : pcOf (m_code M) (i + 1) = pc + 2 := of_decide_eq_true hn0
  have ha : n = x := of_decide_eq_true ha0
  subst ha
  exact pw_st (pcOf_at he) hn k (fun H locs ls HL w => lv_iload C.1 C.2.1 hd (HL.2.2 _ _ hv) w)
theorem sw_iload_n {n : Fin 4} {a : Int32} (B : SWc p s m args meth c D X bs E P M i (pc, .iload_n n, x, y, v, ts)) (hv : pget L x = some (.int a)) (k : PW p l e R s m args below meth c Q D X bs M (i + 1) L (.int a :: st) h cells slots) : PW p l e R s m args below meth c Q D X bs M i L (st) h cells slots := by
  obtain ⟨C, he, hd0, hn0, ha0, hl⟩ := B
  have hd : decode (m_b M) pc = .ok (.iload_n n, 1) := of_decide_eq_true hd0
  have hn : pcOf (m_code M) (i + 1) = pc + 1 := of_decide_eq_true hn0
  have ha : (n : Nat) = x := of_decide_eq_true ha0
  exact pw_st (pcOf_at he) hn k (fun H locs ls HL w => lv_iload_n C.1 C.2.1 hd ha (HL.2.2 _ _ hv) w)
theorem sw_lload {n : Nat} {a : Int64} (B : SWc p s m args meth c D X bs E P M i (pc, .lload n, x, y, v, ts)) (hv : pget L x = some (.long a)) (k : PW p l e R s m args below meth c Q D X bs M (i + 1) L (.long a :: st) h cells slots) : PW p l e R s m args below meth c Q D X bs M i L (st) h cells slots := by
  obtain ⟨C, he, hd0, hn0, ha0, hl⟩ := B
  have hd : decode (m_b M) pc = .ok (.lload n, 2) := of_decide_eq_true hd0
  have hn : pcOf (m_code M) (i + 1) = pc + 2 := of_decide_eq_true hn0
  have ha : n = x := of_decide_eq_true ha0
  subst ha
  exact pw_st (pcOf_at he) hn k (fun H locs ls HL w => lv_lload C.1 C.2.1 hd (HL.2.2 _ _ hv) w)
theorem sw_lload_n {n : Fin 4} {a : Int64} (B : SWc p s m args meth c D X bs E P M i (pc, .lload_n n, x, y, v, ts)) (hv : pget L x = some (.long a)) (k : PW p l e R s m args below meth c Q D X bs M (i + 1) L (.long a :: st) h cells slots) : PW p l e R s m args below meth c Q D X bs M i L (st) h cells slots := by
  obtain ⟨C, he, hd0, hn0, ha0, hl⟩ := B
  have hd : decode (m_b M) pc = .ok (.lload_n n, 1) := of_decide_eq_true hd0
  have hn : pcOf (m_code M) (i + 1) = pc + 1 := of_decide_eq_true hn0
  have ha : (n : Nat) = x := of_decide_eq_true ha0
  exact pw_st (pcOf_at he) hn k (fun H locs ls HL w => lv_lload_n C.1 C.2.1 hd ha (HL.2.2 _ _ hv) w)
theorem sw_aload {n : Nat} {a : Nat} (B : SWc p s m args meth c D X bs E P M i (pc, .aload n, x, y, v, ts)) (hv : pget L x = some (.ref a)) (k : PW p l e R s m args below meth c Q D X bs M (i + 1) L (.ref a :: st) h cells slots) : PW p l e R s m args below meth c Q D X bs M i L (st) h cells slots := by
  obtain ⟨C, he, hd0, hn0, ha0, hl⟩ := B
  have hd : decode (m_b M) pc = .ok (.aload n, 2) := of_decide_eq_true hd0
  have hn : pcOf (m_code M) (i + 1) = pc + 2 := of_decide_eq_true hn0
  have ha : n = x := of_decide_eq_true ha0
  subst ha
  exact pw_st (pcOf_at he) hn k (fun H locs ls HL w => lv_aload C.1 C.2.1 hd (HL.2.2 _ _ hv) w)
theorem sw_aload_n {n : Fin 4} {a : Nat} (B : SWc p s m args meth c D X bs E P M i (pc, .aload_n n, x, y, v, ts)) (hv : pget L x = some (.ref a)) (k : PW p l e R s m args below meth c Q D X bs M (i + 1) L (.ref a :: st) h cells slots) : PW p l e R s m args below meth c Q D X bs M i L (st) h cells slots := by
  obtain ⟨C, he, hd0, hn0, ha0, hl⟩ := B
  have hd : decode (m_b M) pc = .ok (.aload_n n, 1) := of_decide_eq_true hd0
  have hn : pcOf (m_code M) (i + 1) = pc + 1 := of_decide_eq_true hn0
  have ha : (n : Nat) = x := of_decide_eq_true ha0
  exact pw_st (pcOf_at he) hn k (fun H locs ls HL w => lv_aload_n C.1 C.2.1 hd ha (HL.2.2 _ _ hv) w)
theorem sw_aloadN {n : Nat}  (B : SWc p s m args meth c D X bs E P M i (pc, .aload n, x, y, v, ts)) (hv : pget L x = some (.null)) (k : PW p l e R s m args below meth c Q D X bs M (i + 1) L (.null :: st) h cells slots) : PW p l e R s m args below meth c Q D X bs M i L (st) h cells slots := by
  obtain ⟨C, he, hd0, hn0, ha0, hl⟩ := B
  have hd : decode (m_b M) pc = .ok (.aload n, 2) := of_decide_eq_true hd0
  have hn : pcOf (m_code M) (i + 1) = pc + 2 := of_decide_eq_true hn0
  have ha : n = x := of_decide_eq_true ha0
  subst ha
  exact pw_st (pcOf_at he) hn k (fun H locs ls HL w => lv_aloadN C.1 C.2.1 hd (HL.2.2 _ _ hv) w)
theorem sw_aload_nN {n : Fin 4}  (B : SWc p s m args meth c D X bs E P M i (pc, .aload_n n, x, y, v, ts)) (hv : pget L x = some (.null)) (k : PW p l e R s m args below meth c Q D X bs M (i + 1) L (.null :: st) h cells slots) : PW p l e R s m args below meth c Q D X bs M i L (st) h cells slots := by
  obtain ⟨C, he, hd0, hn0, ha0, hl⟩ := B
  have hd : decode (m_b M) pc = .ok (.aload_n n, 1) := of_decide_eq_true hd0
  have hn : pcOf (m_code M) (i + 1) = pc + 1 := of_decide_eq_true hn0
  have ha : (n : Nat) = x := of_decide_eq_true ha0
  exact pw_st (pcOf_at he) hn k (fun H locs ls HL w => lv_aload_nN C.1 C.2.1 hd ha (HL.2.2 _ _ hv) w)
theorem sw_aloadX {n : Nat} {a : Nat} (B : SWc p s m args meth c D X bs E P M i (pc, .aload n, x, y, v, ts)) (hv : pget L x = some (.retAddr a)) (k : PW p l e R s m args below meth c Q D X bs M (i + 1) L (.retAddr a :: st) h cells slots) : PW p l e R s m args below meth c Q D X bs M i L (st) h cells slots := by
  obtain ⟨C, he, hd0, hn0, ha0, hl⟩ := B
  have hd : decode (m_b M) pc = .ok (.aload n, 2) := of_decide_eq_true hd0
  have hn : pcOf (m_code M) (i + 1) = pc + 2 := of_decide_eq_true hn0
  have ha : n = x := of_decide_eq_true ha0
  subst ha
  exact pw_st (pcOf_at he) hn k (fun H locs ls HL w => lv_aload C.1 C.2.1 hd (HL.2.2 _ _ hv) w)
theorem sw_aload_nX {n : Fin 4} {a : Nat} (B : SWc p s m args meth c D X bs E P M i (pc, .aload_n n, x, y, v, ts)) (hv : pget L x = some (.retAddr a)) (k : PW p l e R s m args below meth c Q D X bs M (i + 1) L (.retAddr a :: st) h cells slots) : PW p l e R s m args below meth c Q D X bs M i L (st) h cells slots := by
  obtain ⟨C, he, hd0, hn0, ha0, hl⟩ := B
  have hd : decode (m_b M) pc = .ok (.aload_n n, 1) := of_decide_eq_true hd0
  have hn : pcOf (m_code M) (i + 1) = pc + 1 := of_decide_eq_true hn0
  have ha : (n : Nat) = x := of_decide_eq_true ha0
  exact pw_st (pcOf_at he) hn k (fun H locs ls HL w => lv_aload_n C.1 C.2.1 hd ha (HL.2.2 _ _ hv) w)
theorem sw_istore {n : Nat} {a : Int32} (B : SWc p s m args meth c D X bs E P M i (pc, .istore n, x, y, v, ts)) (hp : pset L x (.int a) = some L') (k : PW p l e R s m args below meth c Q D X bs M (i + 1) L' (r) h cells slots) : PW p l e R s m args below meth c Q D X bs M i L (.int a :: r) h cells slots := by
  obtain ⟨C, he, hd0, hn0, ha0, hl⟩ := B
  have hd : decode (m_b M) pc = .ok (.istore n, 2) := of_decide_eq_true hd0
  have hn : pcOf (m_code M) (i + 1) = pc + 2 := of_decide_eq_true hn0
  have ha : n = x := of_decide_eq_true ha0
  subst ha
  exact pw_sto (pcOf_at he) hn hp k (fun H locs ls HL hlt hl kk => lv_istore C.1 C.2.1 hd hl hlt rfl kk)
theorem sw_istore_n {n : Fin 4} {a : Int32} (B : SWc p s m args meth c D X bs E P M i (pc, .istore_n n, x, y, v, ts)) (hp : pset L x (.int a) = some L') (k : PW p l e R s m args below meth c Q D X bs M (i + 1) L' (r) h cells slots) : PW p l e R s m args below meth c Q D X bs M i L (.int a :: r) h cells slots := by
  obtain ⟨C, he, hd0, hn0, ha0, hl⟩ := B
  have hd : decode (m_b M) pc = .ok (.istore_n n, 1) := of_decide_eq_true hd0
  have hn : pcOf (m_code M) (i + 1) = pc + 1 := of_decide_eq_true hn0
  have ha : (n : Nat) = x := of_decide_eq_true ha0
  exact pw_sto (pcOf_at he) hn hp k (fun H locs ls HL hlt hl kk => lv_istore_n C.1 C.2.1 hd ha hl hlt rfl kk)
theorem sw_astore {n : Nat} {a : Nat} (B : SWc p s m args meth c D X bs E P M i (pc, .astore n, x, y, v, ts)) (hp : pset L x (.ref a) = some L') (k : PW p l e R s m args below meth c Q D X bs M (i + 1) L' (r) h cells slots) : PW p l e R s m args below meth c Q D X bs M i L (.ref a :: r) h cells slots := by
  obtain ⟨C, he, hd0, hn0, ha0, hl⟩ := B
  have hd : decode (m_b M) pc = .ok (.astore n, 2) := of_decide_eq_true hd0
  have hn : pcOf (m_code M) (i + 1) = pc + 2 := of_decide_eq_true hn0
  have ha : n = x := of_decide_eq_true ha0
  subst ha
  exact pw_sto (pcOf_at he) hn hp k (fun H locs ls HL hlt hl kk => lv_astore C.1 C.2.1 hd hl hlt rfl kk)
theorem sw_astore_n {n : Fin 4} {a : Nat} (B : SWc p s m args meth c D X bs E P M i (pc, .astore_n n, x, y, v, ts)) (hp : pset L x (.ref a) = some L') (k : PW p l e R s m args below meth c Q D X bs M (i + 1) L' (r) h cells slots) : PW p l e R s m args below meth c Q D X bs M i L (.ref a :: r) h cells slots := by
  obtain ⟨C, he, hd0, hn0, ha0, hl⟩ := B
  have hd : decode (m_b M) pc = .ok (.astore_n n, 1) := of_decide_eq_true hd0
  have hn : pcOf (m_code M) (i + 1) = pc + 1 := of_decide_eq_true hn0
  have ha : (n : Nat) = x := of_decide_eq_true ha0
  exact pw_sto (pcOf_at he) hn hp k (fun H locs ls HL hlt hl kk => lv_astore_n C.1 C.2.1 hd ha hl hlt rfl kk)
theorem sw_astoreN {n : Nat}  (B : SWc p s m args meth c D X bs E P M i (pc, .astore n, x, y, v, ts)) (hp : pset L x (.null) = some L') (k : PW p l e R s m args below meth c Q D X bs M (i + 1) L' (r) h cells slots) : PW p l e R s m args below meth c Q D X bs M i L (.null :: r) h cells slots := by
  obtain ⟨C, he, hd0, hn0, ha0, hl⟩ := B
  have hd : decode (m_b M) pc = .ok (.astore n, 2) := of_decide_eq_true hd0
  have hn : pcOf (m_code M) (i + 1) = pc + 2 := of_decide_eq_true hn0
  have ha : n = x := of_decide_eq_true ha0
  subst ha
  exact pw_sto (pcOf_at he) hn hp k (fun H locs ls HL hlt hl kk => lv_astoreN C.1 C.2.1 hd hl hlt rfl kk)
theorem sw_astore_nN {n : Fin 4}  (B : SWc p s m args meth c D X bs E P M i (pc, .astore_n n, x, y, v, ts)) (hp : pset L x (.null) = some L') (k : PW p l e R s m args below meth c Q D X bs M (i + 1) L' (r) h cells slots) : PW p l e R s m args below meth c Q D X bs M i L (.null :: r) h cells slots := by
  obtain ⟨C, he, hd0, hn0, ha0, hl⟩ := B
  have hd : decode (m_b M) pc = .ok (.astore_n n, 1) := of_decide_eq_true hd0
  have hn : pcOf (m_code M) (i + 1) = pc + 1 := of_decide_eq_true hn0
  have ha : (n : Nat) = x := of_decide_eq_true ha0
  exact pw_sto (pcOf_at he) hn hp k (fun H locs ls HL hlt hl kk => lv_astore_nN C.1 C.2.1 hd ha hl hlt rfl kk)
theorem sw_iinc {n : Nat} {z : Int} {a : Int32} (B : SWc p s m args meth c D X bs E P M i (pc, .iinc n z, x, y, v, ts)) (hv : pget L x = some (.int a)) (hp : pset L x (.int (a + Int32.ofInt z)) = some L') (k : PW p l e R s m args below meth c Q D X bs M (i + 1) L' (st) h cells slots) : PW p l e R s m args below meth c Q D X bs M i L (st) h cells slots := by
  obtain ⟨C, he, hd0, hn0, ha0, hl⟩ := B
  have hd : decode (m_b M) pc = .ok (.iinc n z, 3) := of_decide_eq_true hd0
  have hn : pcOf (m_code M) (i + 1) = pc + 3 := of_decide_eq_true hn0
  have ha : n = x := of_decide_eq_true ha0
  subst ha
  obtain ⟨q, hq⟩ := List.getElem?_of_mem (pLl_mem (X := X) (bs := bs) hv)
  exact pw_sto (pcOf_at he) hn hp k (fun H locs ls HL hlt hl kk => lv_iinc C.1 C.2.1 hd hl (k := q) hq rfl hlt rfl kk)
theorem sw_iadd {a b : Int32} (B : SWc p s m args meth c D X bs E P M i (pc, .iadd, x, y, v, ts))  (k : PW p l e R s m args below meth c Q D X bs M (i + 1) L (.int (a + b) :: r) h cells slots) : PW p l e R s m args below meth c Q D X bs M i L (.int b :: .int a :: r) h cells slots := by
  obtain ⟨C, he, hd0, hn0, ha0, hl⟩ := B
  have hd : decode (m_b M) pc = .ok (.iadd, 1) := of_decide_eq_true hd0
  have hn : pcOf (m_code M) (i + 1) = pc + 1 := of_decide_eq_true hn0
  exact pw_st (pcOf_at he) hn k (fun H locs ls HL w => lv_iadd C.1 C.2.1 hd w)
theorem sw_isub {a b : Int32} (B : SWc p s m args meth c D X bs E P M i (pc, .isub, x, y, v, ts))  (k : PW p l e R s m args below meth c Q D X bs M (i + 1) L (.int (a - b) :: r) h cells slots) : PW p l e R s m args below meth c Q D X bs M i L (.int b :: .int a :: r) h cells slots := by
  obtain ⟨C, he, hd0, hn0, ha0, hl⟩ := B
  have hd : decode (m_b M) pc = .ok (.isub, 1) := of_decide_eq_true hd0
  have hn : pcOf (m_code M) (i + 1) = pc + 1 := of_decide_eq_true hn0
  exact pw_st (pcOf_at he) hn k (fun H locs ls HL w => lv_isub C.1 C.2.1 hd w)
theorem sw_imul {a b : Int32} (B : SWc p s m args meth c D X bs E P M i (pc, .imul, x, y, v, ts))  (k : PW p l e R s m args below meth c Q D X bs M (i + 1) L (.int (a * b) :: r) h cells slots) : PW p l e R s m args below meth c Q D X bs M i L (.int b :: .int a :: r) h cells slots := by
  obtain ⟨C, he, hd0, hn0, ha0, hl⟩ := B
  have hd : decode (m_b M) pc = .ok (.imul, 1) := of_decide_eq_true hd0
  have hn : pcOf (m_code M) (i + 1) = pc + 1 := of_decide_eq_true hn0
  exact pw_st (pcOf_at he) hn k (fun H locs ls HL w => lv_imul C.1 C.2.1 hd w)
theorem sw_iand {a b : Int32} (B : SWc p s m args meth c D X bs E P M i (pc, .iand, x, y, v, ts))  (k : PW p l e R s m args below meth c Q D X bs M (i + 1) L (.int (a &&& b) :: r) h cells slots) : PW p l e R s m args below meth c Q D X bs M i L (.int b :: .int a :: r) h cells slots := by
  obtain ⟨C, he, hd0, hn0, ha0, hl⟩ := B
  have hd : decode (m_b M) pc = .ok (.iand, 1) := of_decide_eq_true hd0
  have hn : pcOf (m_code M) (i + 1) = pc + 1 := of_decide_eq_true hn0
  exact pw_st (pcOf_at he) hn k (fun H locs ls HL w => lv_iand C.1 C.2.1 hd w)
theorem sw_ior {a b : Int32} (B : SWc p s m args meth c D X bs E P M i (pc, .ior, x, y, v, ts))  (k : PW p l e R s m args below meth c Q D X bs M (i + 1) L (.int (a ||| b) :: r) h cells slots) : PW p l e R s m args below meth c Q D X bs M i L (.int b :: .int a :: r) h cells slots := by
  obtain ⟨C, he, hd0, hn0, ha0, hl⟩ := B
  have hd : decode (m_b M) pc = .ok (.ior, 1) := of_decide_eq_true hd0
  have hn : pcOf (m_code M) (i + 1) = pc + 1 := of_decide_eq_true hn0
  exact pw_st (pcOf_at he) hn k (fun H locs ls HL w => lv_ior C.1 C.2.1 hd w)
theorem sw_ixor {a b : Int32} (B : SWc p s m args meth c D X bs E P M i (pc, .ixor, x, y, v, ts))  (k : PW p l e R s m args below meth c Q D X bs M (i + 1) L (.int (a ^^^ b) :: r) h cells slots) : PW p l e R s m args below meth c Q D X bs M i L (.int b :: .int a :: r) h cells slots := by
  obtain ⟨C, he, hd0, hn0, ha0, hl⟩ := B
  have hd : decode (m_b M) pc = .ok (.ixor, 1) := of_decide_eq_true hd0
  have hn : pcOf (m_code M) (i + 1) = pc + 1 := of_decide_eq_true hn0
  exact pw_st (pcOf_at he) hn k (fun H locs ls HL w => lv_ixor C.1 C.2.1 hd w)
theorem sw_ishl {a b : Int32} (B : SWc p s m args meth c D X bs E P M i (pc, .ishl, x, y, v, ts))  (k : PW p l e R s m args below meth c Q D X bs M (i + 1) L (.int (a <<< (b &&& 31)) :: r) h cells slots) : PW p l e R s m args below meth c Q D X bs M i L (.int b :: .int a :: r) h cells slots := by
  obtain ⟨C, he, hd0, hn0, ha0, hl⟩ := B
  have hd : decode (m_b M) pc = .ok (.ishl, 1) := of_decide_eq_true hd0
  have hn : pcOf (m_code M) (i + 1) = pc + 1 := of_decide_eq_true hn0
  exact pw_st (pcOf_at he) hn k (fun H locs ls HL w => lv_ishl C.1 C.2.1 hd w)
theorem sw_ishr {a b : Int32} (B : SWc p s m args meth c D X bs E P M i (pc, .ishr, x, y, v, ts))  (k : PW p l e R s m args below meth c Q D X bs M (i + 1) L (.int (a >>> (b &&& 31)) :: r) h cells slots) : PW p l e R s m args below meth c Q D X bs M i L (.int b :: .int a :: r) h cells slots := by
  obtain ⟨C, he, hd0, hn0, ha0, hl⟩ := B
  have hd : decode (m_b M) pc = .ok (.ishr, 1) := of_decide_eq_true hd0
  have hn : pcOf (m_code M) (i + 1) = pc + 1 := of_decide_eq_true hn0
  exact pw_st (pcOf_at he) hn k (fun H locs ls HL w => lv_ishr C.1 C.2.1 hd w)
theorem sw_iushr {a b : Int32} (B : SWc p s m args meth c D X bs E P M i (pc, .iushr, x, y, v, ts))  (k : PW p l e R s m args below meth c Q D X bs M (i + 1) L (.int (a.toUInt32 >>> (b.toUInt32 &&& Int32.toUInt32 31)).toInt32 :: r) h cells slots) : PW p l e R s m args below meth c Q D X bs M i L (.int b :: .int a :: r) h cells slots := by
  obtain ⟨C, he, hd0, hn0, ha0, hl⟩ := B
  have hd : decode (m_b M) pc = .ok (.iushr, 1) := of_decide_eq_true hd0
  have hn : pcOf (m_code M) (i + 1) = pc + 1 := of_decide_eq_true hn0
  exact pw_st (pcOf_at he) hn k (fun H locs ls HL w => lv_iushr C.1 C.2.1 hd rfl w)
theorem sw_idiv {a b : Int32} (B : SWc p s m args meth c D X bs E P M i (pc, .idiv, x, y, v, ts)) (h0 : ¬ b = 0) (k : PW p l e R s m args below meth c Q D X bs M (i + 1) L (.int (a / b) :: r) h cells slots) : PW p l e R s m args below meth c Q D X bs M i L (.int b :: .int a :: r) h cells slots := by
  obtain ⟨C, he, hd0, hn0, ha0, hl⟩ := B
  have hd : decode (m_b M) pc = .ok (.idiv, 1) := of_decide_eq_true hd0
  have hn : pcOf (m_code M) (i + 1) = pc + 1 := of_decide_eq_true hn0
  exact pw_st (pcOf_at he) hn k (fun H locs ls HL w => lv_idiv C.1 C.2.1 hd h0 w)
theorem sw_irem {a b : Int32} (B : SWc p s m args meth c D X bs E P M i (pc, .irem, x, y, v, ts)) (h0 : ¬ b = 0) (k : PW p l e R s m args below meth c Q D X bs M (i + 1) L (.int (a - a / b * b) :: r) h cells slots) : PW p l e R s m args below meth c Q D X bs M i L (.int b :: .int a :: r) h cells slots := by
  obtain ⟨C, he, hd0, hn0, ha0, hl⟩ := B
  have hd : decode (m_b M) pc = .ok (.irem, 1) := of_decide_eq_true hd0
  have hn : pcOf (m_code M) (i + 1) = pc + 1 := of_decide_eq_true hn0
  exact pw_st (pcOf_at he) hn k (fun H locs ls HL w => lv_irem C.1 C.2.1 hd h0 w)
theorem sw_ineg {a : Int32} (B : SWc p s m args meth c D X bs E P M i (pc, .ineg, x, y, v, ts))  (k : PW p l e R s m args below meth c Q D X bs M (i + 1) L (.int (-a) :: r) h cells slots) : PW p l e R s m args below meth c Q D X bs M i L (.int a :: r) h cells slots := by
  obtain ⟨C, he, hd0, hn0, ha0, hl⟩ := B
  have hd : decode (m_b M) pc = .ok (.ineg, 1) := of_decide_eq_true hd0
  have hn : pcOf (m_code M) (i + 1) = pc + 1 := of_decide_eq_true hn0
  exact pw_st (pcOf_at he) hn k (fun H locs ls HL w => lv_ineg C.1 C.2.1 hd w)
theorem sw_i2l {a : Int32} (B : SWc p s m args meth c D X bs E P M i (pc, .i2l, x, y, v, ts))  (k : PW p l e R s m args below meth c Q D X bs M (i + 1) L (.long a.toInt64 :: r) h cells slots) : PW p l e R s m args below meth c Q D X bs M i L (.int a :: r) h cells slots := by
  obtain ⟨C, he, hd0, hn0, ha0, hl⟩ := B
  have hd : decode (m_b M) pc = .ok (.i2l, 1) := of_decide_eq_true hd0
  have hn : pcOf (m_code M) (i + 1) = pc + 1 := of_decide_eq_true hn0
  exact pw_st (pcOf_at he) hn k (fun H locs ls HL w => lv_i2l C.1 C.2.1 hd rfl w)
theorem sw_i2s {a : Int32} (B : SWc p s m args meth c D X bs E P M i (pc, .i2s, x, y, v, ts))  (k : PW p l e R s m args below meth c Q D X bs M (i + 1) L (.int a.toInt16.toInt32 :: r) h cells slots) : PW p l e R s m args below meth c Q D X bs M i L (.int a :: r) h cells slots := by
  obtain ⟨C, he, hd0, hn0, ha0, hl⟩ := B
  have hd : decode (m_b M) pc = .ok (.i2s, 1) := of_decide_eq_true hd0
  have hn : pcOf (m_code M) (i + 1) = pc + 1 := of_decide_eq_true hn0
  exact pw_st (pcOf_at he) hn k (fun H locs ls HL w => lv_i2s C.1 C.2.1 hd rfl w)
theorem sw_i2c {a : Int32} (B : SWc p s m args meth c D X bs E P M i (pc, .i2c, x, y, v, ts))  (k : PW p l e R s m args below meth c Q D X bs M (i + 1) L (.int (a.toUInt32 % 65536).toInt32 :: r) h cells slots) : PW p l e R s m args below meth c Q D X bs M i L (.int a :: r) h cells slots := by
  obtain ⟨C, he, hd0, hn0, ha0, hl⟩ := B
  have hd : decode (m_b M) pc = .ok (.i2c, 1) := of_decide_eq_true hd0
  have hn : pcOf (m_code M) (i + 1) = pc + 1 := of_decide_eq_true hn0
  exact pw_st (pcOf_at he) hn k (fun H locs ls HL w => lv_i2c C.1 C.2.1 hd rfl w)
theorem sw_ladd {a b : Int64} (B : SWc p s m args meth c D X bs E P M i (pc, .ladd, x, y, v, ts))  (k : PW p l e R s m args below meth c Q D X bs M (i + 1) L (.long (a + b) :: r) h cells slots) : PW p l e R s m args below meth c Q D X bs M i L (.long b :: .long a :: r) h cells slots := by
  obtain ⟨C, he, hd0, hn0, ha0, hl⟩ := B
  have hd : decode (m_b M) pc = .ok (.ladd, 1) := of_decide_eq_true hd0
  have hn : pcOf (m_code M) (i + 1) = pc + 1 := of_decide_eq_true hn0
  exact pw_st (pcOf_at he) hn k (fun H locs ls HL w => lv_ladd C.1 C.2.1 hd w)
theorem sw_lcmp {a b : Int64} (B : SWc p s m args meth c D X bs E P M i (pc, .lcmp, x, y, v, ts))  (k : PW p l e R s m args below meth c Q D X bs M (i + 1) L (.int (lg_cmp a b) :: r) h cells slots) : PW p l e R s m args below meth c Q D X bs M i L (.long b :: .long a :: r) h cells slots := by
  obtain ⟨C, he, hd0, hn0, ha0, hl⟩ := B
  have hd : decode (m_b M) pc = .ok (.lcmp, 1) := of_decide_eq_true hd0
  have hn : pcOf (m_code M) (i + 1) = pc + 1 := of_decide_eq_true hn0
  exact pw_st (pcOf_at he) hn k (fun H locs ls HL w => W.lcmp C.1 C.2.1 hd w)
theorem sw_dup {a : Value} (B : SWc p s m args meth c D X bs E P M i (pc, .dup, x, y, v, ts)) (hc : a.category = 1) (k : PW p l e R s m args below meth c Q D X bs M (i + 1) L (a :: a :: r) h cells slots) : PW p l e R s m args below meth c Q D X bs M i L (a :: r) h cells slots := by
  obtain ⟨C, he, hd0, hn0, ha0, hl⟩ := B
  have hd : decode (m_b M) pc = .ok (.dup, 1) := of_decide_eq_true hd0
  have hn : pcOf (m_code M) (i + 1) = pc + 1 := of_decide_eq_true hn0
  exact pw_st (pcOf_at he) hn k (fun H locs ls HL w => lv_dup C.1 C.2.1 hd (by rw [emb_cat]; exact hc) w)
theorem sw_dup2 {a b : Value} (B : SWc p s m args meth c D X bs E P M i (pc, .dup2, x, y, v, ts)) (hc : a.category = 1 ∧ b.category = 1) (k : PW p l e R s m args below meth c Q D X bs M (i + 1) L (a :: b :: a :: b :: r) h cells slots) : PW p l e R s m args below meth c Q D X bs M i L (a :: b :: r) h cells slots := by
  obtain ⟨C, he, hd0, hn0, ha0, hl⟩ := B
  have hd : decode (m_b M) pc = .ok (.dup2, 1) := of_decide_eq_true hd0
  have hn : pcOf (m_code M) (i + 1) = pc + 1 := of_decide_eq_true hn0
  exact pw_st (pcOf_at he) hn k (fun H locs ls HL w => lv_dup2_11 C.1 C.2.1 hd (by rw [emb_cat]; exact hc.1) (by rw [emb_cat]; exact hc.2) w)
theorem sw_pop {a : Value} (B : SWc p s m args meth c D X bs E P M i (pc, .pop, x, y, v, ts)) (hc : a.category = 1) (k : PW p l e R s m args below meth c Q D X bs M (i + 1) L (r) h cells slots) : PW p l e R s m args below meth c Q D X bs M i L (a :: r) h cells slots := by
  obtain ⟨C, he, hd0, hn0, ha0, hl⟩ := B
  have hd : decode (m_b M) pc = .ok (.pop, 1) := of_decide_eq_true hd0
  have hn : pcOf (m_code M) (i + 1) = pc + 1 := of_decide_eq_true hn0
  exact pw_st (pcOf_at he) hn k (fun H locs ls HL w => lv_pop C.1 C.2.1 hd (by rw [emb_cat]; exact hc) w)
theorem sw_goto {z : Int} (B : SWc p s m args meth c D X bs E P M i (pc, .goto z, x, y, v, ts)) (k : PW p l e R s m args below meth c Q D X bs M x L (st) h cells slots) : PW p l e R s m args below meth c Q D X bs M i L (st) h cells slots := by
  obtain ⟨C, he, hd0, hn0, ha0, hl⟩ := B
  have hd : decode (m_b M) pc = .ok (.goto z, 3) := of_decide_eq_true hd0
  have ha : (pc : Int) + z = (pcOf (m_code M) x : Int) := of_decide_eq_true ha0
  exact pw_j (pcOf_at he) rfl k (fun H locs ls w => lv_goto C.1 C.2.1 hd ha w)
theorem sw_ifCond {k0 : ClassFile.Cond} {z : Int} {a : Int32} (B : SWc p s m args meth c D X bs E P M i (pc, .ifCond k0 z, x, y, v, ts)) (kt : pc1 k0 a = true → PW p l e R s m args below meth c Q D X bs M x L (r) h cells slots) (kf : pc1 k0 a = false → PW p l e R s m args below meth c Q D X bs M (i + 1) L (r) h cells slots) : PW p l e R s m args below meth c Q D X bs M i L (.int a :: r) h cells slots := by
  obtain ⟨C, he, hd0, hn0, ha0, hl⟩ := B
  have hd : decode (m_b M) pc = .ok (.ifCond k0 z, 3) := of_decide_eq_true hd0
  have hn : pcOf (m_code M) (i + 1) = pc + 3 := of_decide_eq_true hn0
  have ha : (pc : Int) + z = (pcOf (m_code M) x : Int) := of_decide_eq_true ha0
  intro H locs ls HR HL h1 h2
  rw [show pcOf (m_code M) i = pc from pcOf_at he]
  have kt := fun q => kt q H locs ls HR HL h1 h2
  have kf := fun q => kf q H locs ls HR HL h1 h2
  rw [hn] at kf
  cases k0
  · exact lv_if_eq C.1 C.2.1 hd ha (fun q => kt (decide_eq_true q)) (fun q => kf (decide_eq_false q))
  · exact lv_if_ne C.1 C.2.1 hd ha (fun q => kt (decide_eq_true q)) (fun q => kf (decide_eq_false (fun z => z q)))
  · exact lv_if_lt C.1 C.2.1 hd ha (fun q => kt (decide_eq_true q)) (fun q => kf (decide_eq_false q))
  · exact lv_if_ge C.1 C.2.1 hd ha (fun q => kt (decide_eq_true q)) (fun q => kf (decide_eq_false q))
  · exact lv_if_gt C.1 C.2.1 hd ha (fun q => kt (decide_eq_true q)) (fun q => kf (decide_eq_false q))
  · exact lv_if_le C.1 C.2.1 hd ha (fun q => kt (decide_eq_true q)) (fun q => kf (decide_eq_false q))
theorem sw_if_icmp {k0 : ClassFile.Cond} {z : Int} {a b : Int32} (B : SWc p s m args meth c D X bs E P M i (pc, .if_icmp k0 z, x, y, v, ts)) (kt : pc2 k0 a b = true → PW p l e R s m args below meth c Q D X bs M x L (r) h cells slots) (kf : pc2 k0 a b = false → PW p l e R s m args below meth c Q D X bs M (i + 1) L (r) h cells slots) : PW p l e R s m args below meth c Q D X bs M i L (.int b :: .int a :: r) h cells slots := by
  obtain ⟨C, he, hd0, hn0, ha0, hl⟩ := B
  have hd : decode (m_b M) pc = .ok (.if_icmp k0 z, 3) := of_decide_eq_true hd0
  have hn : pcOf (m_code M) (i + 1) = pc + 3 := of_decide_eq_true hn0
  have ha : (pc : Int) + z = (pcOf (m_code M) x : Int) := of_decide_eq_true ha0
  intro H locs ls HR HL h1 h2
  rw [show pcOf (m_code M) i = pc from pcOf_at he]
  have kt := fun q => kt q H locs ls HR HL h1 h2
  have kf := fun q => kf q H locs ls HR HL h1 h2
  rw [hn] at kf
  cases k0
  · exact lv_icmp_eq C.1 C.2.1 hd ha (fun q => kt (decide_eq_true q)) (fun q => kf (decide_eq_false q))
  · exact lv_icmp_ne C.1 C.2.1 hd ha (fun q => kt (decide_eq_true q)) (fun q => kf (decide_eq_false (fun z => z q)))
  · exact lv_icmp_lt C.1 C.2.1 hd ha (fun q => kt (decide_eq_true q)) (fun q => kf (decide_eq_false q))
  · exact lv_icmp_ge C.1 C.2.1 hd ha (fun q => kt (decide_eq_true q)) (fun q => kf (decide_eq_false q))
  · exact lv_icmp_gt C.1 C.2.1 hd ha (fun q => kt (decide_eq_true q)) (fun q => kf (decide_eq_false q))
  · exact lv_icmp_le C.1 C.2.1 hd ha (fun q => kt (decide_eq_true q)) (fun q => kf (decide_eq_false q))
theorem sw_ifnullJ {z : Int}  (B : SWc p s m args meth c D X bs E P M i (pc, .ifnull z, x, y, v, ts)) (k : PW p l e R s m args below meth c Q D X bs M x L (r) h cells slots) : PW p l e R s m args below meth c Q D X bs M i L (.null :: r) h cells slots := by
  obtain ⟨C, he, hd0, hn0, ha0, hl⟩ := B
  have hd : decode (m_b M) pc = .ok (.ifnull z, 3) := of_decide_eq_true hd0
  have ha : (pc : Int) + z = (pcOf (m_code M) x : Int) := of_decide_eq_true ha0
  exact pw_j (pcOf_at he) rfl k (fun H locs ls w => lv_ifnullN C.1 C.2.1 hd ha w)
theorem sw_ifnullF {z : Int} {a : Nat} (B : SWc p s m args meth c D X bs E P M i (pc, .ifnull z, x, y, v, ts)) (k : PW p l e R s m args below meth c Q D X bs M (i + 1) L (r) h cells slots) : PW p l e R s m args below meth c Q D X bs M i L (.ref a :: r) h cells slots := by
  obtain ⟨C, he, hd0, hn0, ha0, hl⟩ := B
  have hd : decode (m_b M) pc = .ok (.ifnull z, 3) := of_decide_eq_true hd0
  have hn : pcOf (m_code M) (i + 1) = pc + 3 := of_decide_eq_true hn0
  exact pw_st (pcOf_at he) hn k (fun H locs ls HL w => lv_ifnull C.1 C.2.1 hd w)
theorem sw_ifnonnullJ {z : Int} {a : Nat} (B : SWc p s m args meth c D X bs E P M i (pc, .ifnonnull z, x, y, v, ts)) (k : PW p l e R s m args below meth c Q D X bs M x L (r) h cells slots) : PW p l e R s m args below meth c Q D X bs M i L (.ref a :: r) h cells slots := by
  obtain ⟨C, he, hd0, hn0, ha0, hl⟩ := B
  have hd : decode (m_b M) pc = .ok (.ifnonnull z, 3) := of_decide_eq_true hd0
  have ha : (pc : Int) + z = (pcOf (m_code M) x : Int) := of_decide_eq_true ha0
  exact pw_j (pcOf_at he) rfl k (fun H locs ls w => lv_ifnonnull C.1 C.2.1 hd ha w)
theorem sw_ifnonnullF {z : Int}  (B : SWc p s m args meth c D X bs E P M i (pc, .ifnonnull z, x, y, v, ts)) (k : PW p l e R s m args below meth c Q D X bs M (i + 1) L (r) h cells slots) : PW p l e R s m args below meth c Q D X bs M i L (.null :: r) h cells slots := by
  obtain ⟨C, he, hd0, hn0, ha0, hl⟩ := B
  have hd : decode (m_b M) pc = .ok (.ifnonnull z, 3) := of_decide_eq_true hd0
  have hn : pcOf (m_code M) (i + 1) = pc + 3 := of_decide_eq_true hn0
  exact pw_st (pcOf_at he) hn k (fun H locs ls HL w => lv_ifnonnullN C.1 C.2.1 hd w)
end PWS
end
section
/-! ===== instructions that read or change cells ===== -/
def PclOK (ci : Nat) (q : vw_C) : Prop := (∀ w ∈ u_ws q.1 q.2.1 q.2.2, w ∈ utbl) ∧ (∀ a, a < q.2.2 → ∀ b, b < q.2.2 → a ≠ b → (q.2.1 a).2.1 ≠ (q.2.1 b).2.1) ∧ (∀ k, k < q.2.2 → parseFieldDescriptor (q.2.1 k).2.2.1 = some (ptyp ci k)) ∧ (pini ci).length = q.2.2 ∧ (∀ k, k < q.2.2 → defaultValue (ptyp ci k) = (pini ci).getD k .null) ∧ ∀ k, k < q.2.2 → (pini ci).getD k .null = .null ∨ (pini ci).getD k .null = .int 0
theorem pcl_ok (ci : Nat) (q : vw_C) (hq : pcls[ci]? = some q) : PclOK ci q := by
  match ci, hq with
  | 0, hq => cases hq; exact ⟨in_of iX0 (by decide +kernel), nmX0, tyX0_ok, rfl, by decide +kernel, by decide +kernel⟩
  | 1, hq => cases hq; exact ⟨in_of iX1 (by decide +kernel), nmX1, tyX1_ok, rfl, by decide +kernel, by decide +kernel⟩
  | 2, hq => cases hq; exact ⟨in_of iX2 (by decide +kernel), nmX2, tyX2_ok, rfl, by decide +kernel, by decide +kernel⟩
  | 3, hq => cases hq; exact ⟨in_of iX3 (by decide +kernel), nmX3, tyX3_ok, rfl, by decide +kernel, by decide +kernel⟩
  | 4, hq => cases hq; exact ⟨in_of iX4 (by decide +kernel), nmX4, tyX4_ok, rfl, by decide +kernel, by decide +kernel⟩
  | 5, hq => cases hq; exact ⟨in_of iX5 (by decide +kernel), nmX5, tyX5_ok, rfl, by decide +kernel, by decide +kernel⟩
  | 6, hq => cases hq; exact ⟨in_of iX6 (by decide +kernel), nmX6, tyX6_ok, rfl, by decide +kernel, by decide +kernel⟩
  | 7, hq => cases hq; exact ⟨in_of iX7 (by decide +kernel), nmX7, tyX7_ok, rfl, by decide +kernel, by decide +kernel⟩
  | 8, hq => cases hq; exact ⟨in_of iX8 (by decide +kernel), nmX8, tyX8_ok, rfl, by decide +kernel, by decide +kernel⟩
  | ci + 9, hq => simp [pcls] at hq
theorem vpV_map (X : Nat → Nat) (bs : Nat) (l : List Value) (k : Nat) : vp_V (l.map (emb X bs)) k = emb X bs (l.getD k .null) := by
  unfold vp_V
  rw [List.getD_eq_getElem?_getD, List.getD_eq_getElem?_getD, List.getElem?_map]
  cases l[k]? <;> rfl
theorem pIn_vp {j : Int32} {n : Nat} (h : 0 ≤ j ∧ j.toNatClampNeg < n) : ¬ (j < 0 ∨ n ≤ j.toNatClampNeg) := by
  rintro (q | q)
  · exact absurd h.1 (Int32.not_le.mpr q)
  · exact absurd h.2 (Nat.not_lt.mpr q)
theorem pfit_emb {X : Nat → Nat} {bs : Nat} {ty : FieldType} {w : Value} (h : pfit ty w = true) : narrow ty (emb X bs w) = emb X bs w ∧ fits ty (emb X bs w) = true := by
  cases ty <;> cases w <;> first | (cases h; done) | exact ⟨rfl, rfl⟩ | skip
  have h := of_decide_eq_true h
  rcases h with rfl | rfl <;> exact ⟨rfl, rfl⟩
theorem pj_le {j : Int32} (hj : 0 ≤ j ∧ j ≤ 100000) : j.toNatClampNeg ≤ 100000 := by
  have h1 := Int32.le_iff_toInt_le.mp hj.2
  have h2 : (100000 : Int32).toInt = 100000 := by decide
  rw [h2] at h1
  show j.toInt.toNat ≤ 100000
  omega
section PWH
variable {p : Program} {l : Launch} {e : Env} {R : Room} {s : State} {m : MethodId} {args : Array Value} {below : List Frame} {meth : Method} {c : Code} {Q : State → Prop} {D : va_G} {X : Nat → Nat} {bs : Nat} {E : pX} {P : List pM} {M : pM}
variable {i pc x y : Nat} {v : Value} {ts : List Nat} {L L' : pL} {st st' r : List Value} {h h' : List pC} {cells slots : Nat}
theorem plnk_f {own : String} {n : Nat} {q : vw_C} (hq : pcls[x]? = some q) : plnk P own (pc, .getfield n, x, y, v, ts) = [.fieldLink own n (q.2.1 y).1 (q.2.1 y).2.1 (q.2.1 y).2.2.1] := by
  show (match pcls[x]? with
    | some q => [Cond.fieldLink own n (q.2.1 y).1 (q.2.1 y).2.1 (q.2.1 y).2.2.1]
    | none => []) = _
  rw [hq]
theorem plnk_p {own : String} {n : Nat} {q : vw_C} (hq : pcls[x]? = some q) : plnk P own (pc, .putfield n, x, y, v, ts) = [.fieldLink own n (q.2.1 y).1 (q.2.1 y).2.1 (q.2.1 y).2.2.1] := by
  show (match pcls[x]? with
    | some q => [Cond.fieldLink own n (q.2.1 y).1 (q.2.1 y).2.1 (q.2.1 y).2.2.1]
    | none => []) = _
  rw [hq]

theorem sw_getfield {n a : Nat} {o : Nat × List Value} {w : Value} (B : SWc p s m args meth c D X bs E P M i (pc, .getfield n, x, y, v, ts)) (ho : pobj h a = some o) (hx1 : o.1 = x) (hw : o.2[y]? = some w) (k : PW p l e R s m args below meth c Q D X bs M (i + 1) L (w :: r) h cells slots) : PW p l e R s m args below meth c Q D X bs M i L (.ref a :: r) h cells slots := by
  obtain ⟨C, he, hd0, hn0, ha0, hl⟩ := B
  have hd : decode (m_b M) pc = .ok (.getfield n, 3) := of_decide_eq_true hd0
  have hn : pcOf (m_code M) (i + 1) = pc + 3 := of_decide_eq_true hn0
  have ha : pfok M x y false = true := ha0
  unfold pfok at ha
  cases hq : pcls[x]? with
  | none => rw [hq] at ha; cases ha
  | some q =>
    rw [hq] at ha
    have hy : y < q.2.2 := by simpa using ha
    rw [plnk_f hq] at hl
    have hlk := C.2.2.2.2.1 _ (hl _ List.mem_cons_self)
    intro H locs ls HR HL h1 h2
    rw [show pcOf (m_code M) i = pc from pcOf_at he]
    obtain ⟨r0, hr0, hlen, hOB⟩ := HR.2 a _ (pobj_at ho)
    rw [hx1] at hr0 hOB
    cases hr0.symm.trans hq
    obtain ⟨C0, T0, N0⟩ := q
    have hP : va_P D pcls [(bs + a, .inr (x, o.2.map (emb X bs)))] H := fun j q hj => by
      have hz : j < 1 := (List.getElem?_eq_some_iff.mp hj).1
      rw [show j = 0 by omega] at hj
      cases hj
      exact ⟨_, hq, hOB.to (fun k _ => (vpV_map X bs o.2 k).symm)⟩
    refine va_get (D := D) (ci := x) (v := emb X bs w) (tys := []) C.1 C.2.1 C.2.2.2.2.1 (pcl_ok x _ hq).1 C.2.2.2.1 C.2.2.2.2.2.1 hP 0 rfl hq y hy hlk (fun _ h9 => h9) (by rw [List.getElem?_map, hw]; rfl) hd ?_
    rw [← hn]
    exact k H locs ls HR HL h1 h2
theorem sw_putfield {n a : Nat} {o : Nat × List Value} {w : Value} (B : SWc p s m args meth c D X bs E P M i (pc, .putfield n, x, y, v, ts)) (ho : pobj h a = some o) (hx1 : o.1 = x) (hf : pfit (ptyp x y) w = true) (k : PW p l e R s m args below meth c Q D X bs M (i + 1) L (r) (h.set a (.inr (.inr (o.1, o.2.set y w)))) cells slots) : PW p l e R s m args below meth c Q D X bs M i L (w :: .ref a :: r) h cells slots := by
  obtain ⟨C, he, hd0, hn0, ha0, hl⟩ := B
  have hd : decode (m_b M) pc = .ok (.putfield n, 3) := of_decide_eq_true hd0
  have hn : pcOf (m_code M) (i + 1) = pc + 3 := of_decide_eq_true hn0
  have ha : pfok M x y true = true := ha0
  unfold pfok at ha
  cases hq : pcls[x]? with
  | none => rw [hq] at ha; cases ha
  | some q =>
    rw [hq] at ha
    have hy : y < q.2.2 ∧ ((q.2.1 y).2.2.2 = false ∨ (m_k M = 2 ∧ (q.2.1 y).1 = (m_y M).cls)) := by simpa using ha
    rw [plnk_p hq] at hl
    have hlk := C.2.2.2.2.1 _ (hl _ List.mem_cons_self)
    intro H locs ls HR HL h1 h2
    rw [show pcOf (m_code M) i = pc from pcOf_at he]
    obtain ⟨r0, hr0, hlen, hOB⟩ := HR.2 a _ (pobj_at ho)
    rw [hx1] at hr0 hOB
    cases hr0.symm.trans hq
    obtain ⟨hy, hfk⟩ := hy
    obtain ⟨C0, T0, N0⟩ := q
    obtain ⟨hin, hnm, hty, hini, -⟩ := pcl_ok x _ hq
    have hap := va_apart (own := (m_y M).cls) C.2.2.2.2.1 hin (ptyp x) hty hnm C.2.2.2.2.2.1 hq
    obtain ⟨hS, hfc, kC, hkC, hkind⟩ := C.2.2.2.2.2.1.1 x _ hq
    obtain ⟨cf, kf, fi, f, hi, hsl⟩ := hS y hy
    obtain ⟨cell, q1, q2, q3, q4⟩ := hOB
    have hst := (u_facts hfc hkC (u_lays C.2.2.2.2.1 hin hy) hi).1
    obtain ⟨hnar, hfit⟩ := pfit_emb (X := X) (bs := bs) hf
    have h6 := u_fits hfc hkC hkind (u_lays C.2.2.2.2.1 hin hy) hi (hty y hy) hnar hfit
    have hlay := C.2.2.2.2.1 _ (hin _ (u_in_lay hy))
    unfold u_lay at hlay
    have fin : ∀ H' : Heap, H'[bs + a]? = some (cell.setSlot f.slot (emb X bs w)) → H'.size = H.size → (∀ q : Nat, q ≠ bs + a → H'[q]? = H[q]?) → W p l e R s m args below meth c H' (locs ++ [⟨bs + a, f.slot⟩]) cells slots Q (F0 m (pc + 3) ls (r.map (emb X bs))) := by
      intro H' e1 e2 e3
      rw [← hn]
      refine k H' _ ls (HR.set (pobj_at ho) e2 ⟨(C0, T0, N0), by rw [hx1]; exact hq, by rw [List.length_set]; exact hlen, ?_⟩ e3) HL (fun q hq => (e3 q (Nat.ne_of_lt (Nat.lt_of_lt_of_le hq (Nat.le_add_right _ _)))).trans (h1 q hq)) (fun z hz => ?_)
      · rw [hx1]
        rw [hsl] at e1
        refine t_OB.to (V := updV (fun k => emb X bs (o.2.getD k .null)) y (emb X bs w)) ⟨_, e1, q2, q3, t_set q4 hap hy (emb X bs w)⟩ (fun j hj => ?_)
        show (if j = y then emb X bs w else emb X bs (o.2.getD j .null)) = emb X bs ((o.2.set y w).getD j .null)
        rw [List.getD_eq_getElem?_getD, List.getD_eq_getElem?_getD]
        by_cases hjy : j = y
        · subst hjy
          rw [if_pos rfl, List.getElem?_set_self (by rw [hlen]; exact hy)]
          rfl
        · rw [if_neg hjy, List.getElem?_set_ne (Ne.symm hjy)]
      · rcases List.mem_append.mp hz with hz | hz
        · exact h2 z hz
        · rw [List.mem_singleton.mp hz]
          exact Nat.le_add_right _ _
    have hlt : f.slot < cell.slots.size := by rw [hsl]; exact k2_hasslot (q4 y hy)
    by_cases hfin : (T0 y).2.2.2 = true
    · rw [if_pos hfin] at hlay
      obtain ⟨hk2, hdecl⟩ : m_k M = 2 ∧ (T0 y).1 = (m_y M).cls := by
        rcases hfk with q | q
        · have q : (T0 y).2.2.2 = false := q
          rw [hfin] at q; cases q
        · exact q
      have hcf : m.cls = cf := by
        obtain ⟨_, _, c', _, _, _, -, -, hf', -, -, -, hown2, -⟩ := Cond.laysFinal_spec hlay
        have e1 : c' = cf := by have := hi.symm.trans hf'; simp at this; exact this.1.symm
        rw [hdecl] at hown2
        rw [← e1]; exact Option.some.inj (C.2.2.2.1.symm.trans hown2)
      exact W.putFinK C.1 C.2.1 C.2.2.2.1 hlk hi hst hcf (C.2.2.2.2.2.2.2.1 hk2) (by rw [q2]; exact h6) q1 q3 hlt rfl rfl hd fin
    · rw [if_neg hfin] at hlay
      have h7 := u_store hfc hkC hkind hlay hi (hty y hy) hnar hfit
      exact W.putK C.1 C.2.1 (f := f) ⟨C.2.2.2.1, hlk, ⟨_, _, _, hi⟩, hst⟩ (by rw [q2]; exact h7) q1 q3 hlt rfl rfl hd fin
theorem sw_iaload {a : Nat} {j : Int32} {o : Nat × (Nat → Int32)} (B : SWc p s m args meth c D X bs E P M i (pc, .iaload, x, y, v, ts)) (ho : pint h a = some o) (hj : 0 ≤ j ∧ j.toNatClampNeg < o.1) (k : PW p l e R s m args below meth c Q D X bs M (i + 1) L (.int (o.2 j.toNatClampNeg) :: r) h cells slots) : PW p l e R s m args below meth c Q D X bs M i L (.int j :: .ref a :: r) h cells slots := by
  obtain ⟨C, he, hd0, hn0, ha0, hl⟩ := B
  have hd : decode (m_b M) pc = .ok (.iaload, 1) := of_decide_eq_true hd0
  have hn : pcOf (m_code M) (i + 1) = pc + 1 := of_decide_eq_true hn0
  intro H locs ls HR HL h1 h2
  rw [show pcOf (m_code M) i = pc from pcOf_at he]
  obtain ⟨cA, hc, hArr⟩ := HR.2 a _ (pint_at ho)
  refine W.iald (v := .int (o.2 j.toNatClampNeg)) C.1 C.2.1 hc (hArr o.1 (fun j => .int (o.2 j))) (fun q => by cases q) (by show ¬ (j < 0 ∨ (arrV _ _ _).slots.size ≤ _); rw [arrV_size]; exact pIn_vp hj) (by show (arrV _ _ _).slots[_]? = _; rw [arrV_read _ _ hj.2]) rfl rfl hd ?_
  show W p l e R s m args below meth c H locs cells slots Q (F0 m (pc + 1) ls _)
  rw [← hn]
  exact k H locs ls HR HL h1 h2
theorem sw_ialoadX {a : Nat} {j : Int32} {o : Nat × (Nat → Int32)} (B : SWc p s m args meth c D X bs E P M i (pc, .iaload, x, y, v, ts)) (ho : E a = some o) (hj : 0 ≤ j ∧ j.toNatClampNeg < o.1) (k : PW p l e R s m args below meth c Q D X bs M (i + 1) L (.int (o.2 j.toNatClampNeg) :: r) h cells slots) : PW p l e R s m args below meth c Q D X bs M i L (.int j :: .retAddr a :: r) h cells slots := by
  obtain ⟨C, he, hd0, hn0, ha0, hl⟩ := B
  have hd : decode (m_b M) pc = .ok (.iaload, 1) := of_decide_eq_true hd0
  have hn : pcOf (m_code M) (i + 1) = pc + 1 := of_decide_eq_true hn0
  intro H locs ls HR HL h1 h2
  rw [show pcOf (m_code M) i = pc from pcOf_at he]
  obtain ⟨⟨scr, g1, g2, g3, g4, g5⟩, g6⟩ := C.2.2.2.2.2.2.1 a o ho
  refine W.iald (v := .int (o.2 j.toNatClampNeg)) C.1 C.2.1 (by rw [h1 _ g6]; exact g1) g2 g3 (by rw [g4]; exact pIn_vp hj) (g5 _ hj.2) rfl rfl hd ?_
  show W p l e R s m args below meth c H locs cells slots Q (F0 m (pc + 1) ls _)
  rw [← hn]
  exact k H locs ls HR HL h1 h2
theorem sw_iastore {a : Nat} {j w : Int32} {o : Nat × (Nat → Int32)} (B : SWc p s m args meth c D X bs E P M i (pc, .iastore, x, y, v, ts)) (ho : pint h a = some o) (hj : 0 ≤ j ∧ j.toNatClampNeg < o.1) (k : PW p l e R s m args below meth c Q D X bs M (i + 1) L (r) (h.set a (.inl (o.1, va_up o.2 j.toNatClampNeg w))) cells slots) : PW p l e R s m args below meth c Q D X bs M i L (.int w :: .int j :: .ref a :: r) h cells slots := by
  obtain ⟨C, he, hd0, hn0, ha0, hl⟩ := B
  have hd : decode (m_b M) pc = .ok (.iastore, 1) := of_decide_eq_true hd0
  have hn : pcOf (m_code M) (i + 1) = pc + 1 := of_decide_eq_true hn0
  intro H locs ls HR HL h1 h2
  rw [show pcOf (m_code M) i = pc from pcOf_at he]
  obtain ⟨cA, hc, hArr⟩ := HR.2 a _ (pint_at ho)
  refine W.iast C.1 C.2.1 hc (hArr o.1 (fun j => .int (o.2 j))) (fun q => by cases q) (by show ¬ (j < 0 ∨ (arrV _ _ _).slots.size ≤ _); rw [arrV_size]; exact pIn_vp hj) rfl rfl hd (fun H' e1 e2 e3 => ?_)
  show W p l e R s m args below meth c H' _ cells slots Q (F0 m (pc + 1) ls _)
  rw [← hn]
  refine k H' _ ls (HR.set (pint_at ho) e2 ⟨cA, ?_, hArr⟩ e3) HL (fun q hq => (e3 q (Nat.ne_of_lt (Nat.lt_of_lt_of_le hq (Nat.le_add_right _ _)))).trans (h1 q hq)) (fun z hz => ?_)
  · rw [e1, arrV_store]
    congr 2
    funext q
    by_cases hq : q = j.toNatClampNeg
    · subst hq
      simp [updV, va_up]
    · simp [updV, va_up, hq]
  · rcases List.mem_append.mp hz with hz | hz
    · exact h2 z hz
    · rw [List.mem_singleton.mp hz]
      exact Nat.le_add_right _ _
theorem sw_aaload {a : Nat} {j : Int32} {o : Nat × Nat × (Nat → Option Nat)} (B : SWc p s m args meth c D X bs E P M i (pc, .aaload, x, y, v, ts)) (ho : pref h a = some o) (hj : 0 ≤ j ∧ j.toNatClampNeg < o.2.1) (k : PW p l e R s m args below meth c Q D X bs M (i + 1) L (va_rf (o.2.2 j.toNatClampNeg) :: r) h cells slots) : PW p l e R s m args below meth c Q D X bs M i L (.int j :: .ref a :: r) h cells slots := by
  obtain ⟨C, he, hd0, hn0, ha0, hl⟩ := B
  have hd : decode (m_b M) pc = .ok (.aaload, 1) := of_decide_eq_true hd0
  have hn : pcOf (m_code M) (i + 1) = pc + 1 := of_decide_eq_true hn0
  intro H locs ls HR HL h1 h2
  rw [show pcOf (m_code M) i = pc from pcOf_at he]
  obtain ⟨cA, r0, hr0, hc, hArr, -⟩ := HR.2 a _ (pref_at ho)
  refine W.aald (v := va_rf ((o.2.2 j.toNatClampNeg).map (fun a => bs + a))) (ty := .object r0.1) C.1 C.2.1 hc (hArr o.2.1 _) rfl (fun q => by cases q) (by show ¬ (j < 0 ∨ (arrV _ _ _).slots.size ≤ _); rw [arrV_size]; exact pIn_vp hj) (by show (arrV _ _ _).slots[_]? = _; rw [arrV_read _ _ hj.2]) rfl rfl hd ?_
  show W p l e R s m args below meth c H locs cells slots Q (F0 m (pc + 1) ls _)
  rw [← hn, ← emb_rf X bs]
  exact k H locs ls HR HL h1 h2
theorem sw_aastore {a b : Nat} {j : Int32} {o : Nat × Nat × (Nat → Option Nat)} {q0 : Nat × List Value} (B : SWc p s m args meth c D X bs E P M i (pc, .aastore, x, y, v, ts)) (ho : pref h a = some o) (hb : pobj h b = some q0) (hx1 : q0.1 = o.1) (hj : 0 ≤ j ∧ j.toNatClampNeg < o.2.1) (k : PW p l e R s m args below meth c Q D X bs M (i + 1) L (r) (h.set a (.inr (.inl (o.1, o.2.1, va_up o.2.2 j.toNatClampNeg (some b))))) cells slots) : PW p l e R s m args below meth c Q D X bs M i L (.ref b :: .int j :: .ref a :: r) h cells slots := by
  obtain ⟨C, he, hd0, hn0, ha0, hl⟩ := B
  have hd : decode (m_b M) pc = .ok (.aastore, 1) := of_decide_eq_true hd0
  have hn : pcOf (m_code M) (i + 1) = pc + 1 := of_decide_eq_true hn0
  intro H locs ls HR HL h1 h2
  rw [show pcOf (m_code M) i = pc from pcOf_at he]
  obtain ⟨cA, r0, hr0, hc, hArr, hRA⟩ := HR.2 a _ (pref_at ho)
  obtain ⟨r1, hr1, hlen, cellV, g1, g2, g3, -⟩ := HR.2 b _ (pobj_at hb)
  rw [hx1] at hr1 g2
  cases hr0.symm.trans hr1
  have hcls := (C.2.2.2.2.2.1.1 o.1 r0 hr0).2
  obtain ⟨kA, comp, k1, k2, k3, k4⟩ := id hRA
  have hcomp : comp = D.1 o.1 := Option.some.inj (k3.symm.trans hcls.1)
  subst hcomp
  obtain ⟨kC, hkC, -⟩ := hcls.2
  have h0 : ¬ j < 0 := Int32.not_lt.mpr hj.1
  refine W.aast C.1 C.2.1 hc (fun q h => by cases h) (fun h => by cases h) k1 k2 rfl hkC ⟨h0, by show _ < (arrV _ _ _).slots.size; rw [arrV_size]; exact hj.2⟩ g1 (fun q h => by rw [g3] at h; cases h) (by rw [g2]; exact hkC) (by rw [g2]; exact va_assign hcls) rfl rfl hd (fun H' e1 e2 e3 => ?_)
  show W p l e R s m args below meth c H' _ cells slots Q (F0 m (pc + 1) ls _)
  rw [← hn]
  refine k H' _ ls (HR.set (pref_at ho) e2 ⟨cA, r0, hr0, ?_, hArr, hRA⟩ e3) HL (fun q hq => (e3 q (Nat.ne_of_lt (Nat.lt_of_lt_of_le hq (Nat.le_add_right _ _)))).trans (h1 q hq)) (fun z hz => ?_)
  · rw [e1, arrV_store]
    congr 2
    funext q
    by_cases hq : q = j.toNatClampNeg
    · subst hq
      simp [updV, va_up, va_rf]
    · simp [updV, va_up, hq]
  · rcases List.mem_append.mp hz with hz | hz
    · exact h2 z hz
    · rw [List.mem_singleton.mp hz]
      exact Nat.le_add_right _ _
theorem sw_alenI {a : Nat} {o : Nat × (Nat → Int32)} (B : SWc p s m args meth c D X bs E P M i (pc, .arraylength, x, y, v, ts)) (ho : h[a]? = some (.inl o)) (k : PW p l e R s m args below meth c Q D X bs M (i + 1) L (.int (Int32.ofNat o.1) :: r) h cells slots) : PW p l e R s m args below meth c Q D X bs M i L (.ref a :: r) h cells slots := by
  obtain ⟨C, he, hd0, hn0, ha0, hl⟩ := B
  have hd : decode (m_b M) pc = .ok (.arraylength, 1) := of_decide_eq_true hd0
  have hn : pcOf (m_code M) (i + 1) = pc + 1 := of_decide_eq_true hn0
  intro H locs ls HR HL h1 h2
  rw [show pcOf (m_code M) i = pc from pcOf_at he]
  obtain ⟨cA, hc, hArr⟩ := HR.2 a _ ho
  refine W.alen (n := Int32.ofNat o.1) C.1 C.2.1 hc (hArr o.1 (fun j => .int (o.2 j))) (by rw [arrV_size] <;> rfl) rfl rfl hd ?_
  show W p l e R s m args below meth c H locs cells slots Q (F0 m (pc + 1) ls _)
  rw [← hn]
  exact k H locs ls HR HL h1 h2
theorem sw_alenR {a : Nat} {o : Nat × Nat × (Nat → Option Nat)} (B : SWc p s m args meth c D X bs E P M i (pc, .arraylength, x, y, v, ts)) (ho : h[a]? = some (.inr (.inl o))) (k : PW p l e R s m args below meth c Q D X bs M (i + 1) L (.int (Int32.ofNat o.2.1) :: r) h cells slots) : PW p l e R s m args below meth c Q D X bs M i L (.ref a :: r) h cells slots := by
  obtain ⟨C, he, hd0, hn0, ha0, hl⟩ := B
  have hd : decode (m_b M) pc = .ok (.arraylength, 1) := of_decide_eq_true hd0
  have hn : pcOf (m_code M) (i + 1) = pc + 1 := of_decide_eq_true hn0
  intro H locs ls HR HL h1 h2
  rw [show pcOf (m_code M) i = pc from pcOf_at he]
  obtain ⟨cA, r0, hr0, hc, hArr, -⟩ := HR.2 a _ ho
  refine W.alen (n := Int32.ofNat o.2.1) C.1 C.2.1 hc (hArr o.2.1 _) (by rw [arrV_size] <;> rfl) rfl rfl hd ?_
  show W p l e R s m args below meth c H locs cells slots Q (F0 m (pc + 1) ls _)
  rw [← hn]
  exact k H locs ls HR HL h1 h2
theorem sw_alenX {a : Nat} {o : Nat × (Nat → Int32)} (B : SWc p s m args meth c D X bs E P M i (pc, .arraylength, x, y, v, ts)) (ho : E a = some o) (k : PW p l e R s m args below meth c Q D X bs M (i + 1) L (.int (Int32.ofNat o.1) :: r) h cells slots) : PW p l e R s m args below meth c Q D X bs M i L (.retAddr a :: r) h cells slots := by
  obtain ⟨C, he, hd0, hn0, ha0, hl⟩ := B
  have hd : decode (m_b M) pc = .ok (.arraylength, 1) := of_decide_eq_true hd0
  have hn : pcOf (m_code M) (i + 1) = pc + 1 := of_decide_eq_true hn0
  intro H locs ls HR HL h1 h2
  rw [show pcOf (m_code M) i = pc from pcOf_at he]
  obtain ⟨⟨scr, g1, g2, g3, g4, g5⟩, g6⟩ := C.2.2.2.2.2.2.1 a o ho
  refine W.alen (n := Int32.ofNat o.1) C.1 C.2.1 (by rw [h1 _ g6]; exact g1) g2 (by rw [g4] <;> rfl) rfl rfl hd ?_
  show W p l e R s m args below meth c H locs cells slots Q (F0 m (pc + 1) ls _)
  rw [← hn]
  exact k H locs ls HR HL h1 h2
theorem sw_new {n : Nat} (B : SWc p s m args meth c D X bs E P M i (pc, .new n, x, y, v, ts)) (hx1 : x < pcls.length) (hc1 : cells + 1 ≤ R.cells) (hs1 : slots + (pini x).length ≤ R.slots) (k : PW p l e R s m args below meth c Q D X bs M (i + 1) L (.ref h.length :: st) (h ++ [.inr (.inr (x, pini x))]) (cells + 1) (slots + (pini x).length)) : PW p l e R s m args below meth c Q D X bs M i L (st) h cells slots := by
  obtain ⟨C, he, hd0, hn0, ha0, hl⟩ := B
  have hd : decode (m_b M) pc = .ok (.new n, 3) := of_decide_eq_true hd0
  have hn : pcOf (m_code M) (i + 1) = pc + 3 := of_decide_eq_true hn0
  cases hq : pcls[x]? with
  | none => exact absurd hx1 (Nat.not_lt.mpr (List.getElem?_eq_none_iff.mp hq))
  | some q =>
    have hl2 : plnk P (m_y M).cls (pc, .new n, x, y, v, ts) = [.classLink (m_y M).cls n q.1, .instantiable q.1 q.2.2, .initialized q.1] := by
      show (match pcls[x]? with
        | some q => [Cond.classLink (m_y M).cls n q.1, .instantiable q.1 q.2.2, .initialized q.1]
        | none => []) = _
      rw [hq]
    rw [hl2] at hl
    have w1 := C.2.2.2.2.1 _ (hl _ List.mem_cons_self)
    have w2 := C.2.2.2.2.1 _ (hl _ (List.mem_cons_of_mem _ List.mem_cons_self))
    have w3 := C.2.2.2.2.1 _ (hl _ (List.mem_cons_of_mem _ (List.mem_cons_of_mem _ List.mem_cons_self)))
    obtain ⟨C0, T0, N0⟩ := q
    obtain ⟨hin, hnm, hty, hini, hdef, hem⟩ := pcl_ok x _ hq
    have hini : (pini x).length = N0 := hini
    intro H locs ls HR HL h1 h2
    rw [show pcOf (m_code M) i = pc from pcOf_at he]
    have hKn := C.2.2.2.2.2.1.1 x _ hq
    refine W.newcK C.1 C.2.1 C.2.2.2.1 w1 w2 w3 rfl hd hc1 (by rw [← hini]; exact hs1) hKn.2.1 rfl (fun H' kC hkC e1 e2 e3 => ?_)
    show W p l e R s m args below meth c H' _ _ _ Q (F0 m (pc + 3) ls _)
    rw [← hn, ← hini]
    have hb := HR.1
    rw [hb]
    refine k H' locs ls (HR.push e2 ⟨_, hq, hini, ?_⟩ e3) HL (fun q hq => (e3 q (by omega)).trans (h1 q hq)) h2
    refine (u_born (ptyp x) C.2.2.2.2.1 hin hKn hkC e1 hty).to (fun j hj => ?_)
    rw [hdef j hj]
    rcases hem j hj with q | q <;> rw [q] <;> rfl
theorem sw_newarray {n : ArrayType} {j : Int32} (B : SWc p s m args meth c D X bs E P M i (pc, .newarray n, x, y, v, ts)) (hj : 0 ≤ j ∧ j ≤ 100000) (hc1 : cells + 1 ≤ R.cells) (hs1 : slots + j.toNatClampNeg ≤ R.slots) (k : PW p l e R s m args below meth c Q D X bs M (i + 1) L (.ref h.length :: r) (h ++ [.inl (j.toNatClampNeg, fun _ => 0)]) (cells + 1) (slots + j.toNatClampNeg)) : PW p l e R s m args below meth c Q D X bs M i L (.int j :: r) h cells slots := by
  obtain ⟨C, he, hd0, hn0, ha0, hl⟩ := B
  have hd : decode (m_b M) pc = .ok (.newarray n, 2) := of_decide_eq_true hd0
  have hn : pcOf (m_code M) (i + 1) = pc + 2 := of_decide_eq_true hn0
  have ha : n = .int := of_decide_eq_true ha0
  subst ha
  have w1 : (Cond.arrayClass .int).before args s = true := C.2.2.2.2.1 _ (hl _ List.mem_cons_self)
  intro H locs ls HR HL h1 h2
  rw [show pcOf (m_code M) i = pc from pcOf_at he]
  have h0 : ¬ j < 0 := Int32.not_lt.mpr hj.1
  have hsz := pj_le hj
  refine W.newaK (atype := .int) (N := j.toNatClampNeg) C.1 C.2.1 w1 rfl hd rfl h0 rfl (by show j.toNatClampNeg * 4 ≤ 536870912; omega) hc1 hs1 rfl (fun H' cA e1 e2 e3 hArr => ?_)
  show W p l e R s m args below meth c H' _ _ _ Q (F0 m (pc + 2) ls _)
  rw [← hn]
  have hb := HR.1
  rw [hb]
  exact k H' locs ls (HR.push e2 ⟨cA, e1, hArr⟩ e3) HL (fun q hq => (e3 q (by omega)).trans (h1 q hq)) h2
theorem sw_anewarray {n : Nat} {j : Int32} (B : SWc p s m args meth c D X bs E P M i (pc, .anewarray n, x, y, v, ts)) (hx1 : x < pcls.length) (hj : 0 ≤ j ∧ j ≤ 100000) (hc1 : cells + 1 ≤ R.cells) (hs1 : slots + j.toNatClampNeg ≤ R.slots) (k : PW p l e R s m args below meth c Q D X bs M (i + 1) L (.ref h.length :: r) (h ++ [.inr (.inl (x, j.toNatClampNeg, fun _ => none))]) (cells + 1) (slots + j.toNatClampNeg)) : PW p l e R s m args below meth c Q D X bs M i L (.int j :: r) h cells slots := by
  obtain ⟨C, he, hd0, hn0, ha0, hl⟩ := B
  have hd : decode (m_b M) pc = .ok (.anewarray n, 3) := of_decide_eq_true hd0
  have hn : pcOf (m_code M) (i + 1) = pc + 3 := of_decide_eq_true hn0
  cases hq : pcls[x]? with
  | none => exact absurd hx1 (Nat.not_lt.mpr (List.getElem?_eq_none_iff.mp hq))
  | some q =>
    have hl2 : plnk P (m_y M).cls (pc, .anewarray n, x, y, v, ts) = [.classLink (m_y M).cls n q.1, .arrayOver (.object q.1)] := by
      show (match pcls[x]? with
        | some q => [Cond.classLink (m_y M).cls n q.1, .arrayOver (.object q.1)]
        | none => []) = _
      rw [hq]
    rw [hl2] at hl
    have w1 := C.2.2.2.2.1 _ (hl _ List.mem_cons_self)
    have w2 := C.2.2.2.2.1 _ (hl _ (List.mem_cons_of_mem _ List.mem_cons_self))
    intro H locs ls HR HL h1 h2
    rw [show pcOf (m_code M) i = pc from pcOf_at he]
    have h0 : ¬ j < 0 := Int32.not_lt.mpr hj.1
    have hsz := pj_le hj
    refine W.anew C.1 C.2.1 C.2.2.2.1 w1 w2 rfl hd rfl h0 (by omega) hc1 hs1 (fun cA kA comp f1 f2 f3 f4 => ?_)
    generalize hH1 : H.push ({ cls := cA, slots := Array.replicate j.toNatClampNeg .null, vm := .none } : Cell) = H1
    have e2 : H1.size = H.size + 1 := by rw [← hH1, Array.size_push]
    have e1 : H1[H.size]? = some (arrV cA j.toNatClampNeg (fun _ => .null)) := by rw [← hH1, Array.getElem?_push_size, ← arrV_new]
    have e3 : ∀ q : Nat, q < H.size → H1[q]? = H[q]? := fun q hq => by rw [← hH1, Array.getElem?_push, if_neg (Nat.ne_of_lt hq)]
    have hArr : ArrOfT s cA (.object q.1) := fun N z => ⟨(fun k h => by cases h), kA, f2, comp, f3⟩
    show W p l e R s m args below meth c H1 _ _ _ Q (F0 m (pc + 3) ls _)
    rw [← hn]
    have hb := HR.1
    rw [hb]
    exact k H1 locs ls (HR.push e2 ⟨cA, q, hq, e1, hArr, kA, comp, f2, f3, f4, f1⟩ e3) HL (fun q hq => (e3 q (by omega)).trans (h1 q hq)) h2
theorem sw_oini {n a : Nat} (B : SWc p s m args meth c D X bs E P M i (pc, .invokespecial n, x, y, v, ts)) (hP : P[x]? = none) (hr8 : pcs r ≤ 8) (hR1 : 1 ≤ R.frames) (hR2 : 40 ≤ R.locals) (k : PW p l e R s m args below meth c Q D X bs M (i + 1) L (r) h cells slots) : PW p l e R s m args below meth c Q D X bs M i L (.ref a :: r) h cells slots := by
  obtain ⟨C, he, hd0, hn0, ha0, hl⟩ := B
  have hd : decode (m_b M) pc = .ok (.invokespecial n, 3) := of_decide_eq_true hd0
  have hn : pcOf (m_code M) (i + 1) = pc + 3 := of_decide_eq_true hn0
  have hl2 : plnk P (m_y M).cls (pc, .invokespecial n, x, y, v, ts) = [.methodLink (m_y M).cls n Lib.objectInit, .instanceMethod Lib.objectInit, .code Lib.objectInit ⟨#[0xb1]⟩ 1 none] := by
    show (match P[x]? with
      | some N => [plk (m_y M).cls n (m_y N) v]
      | none => [Cond.methodLink (m_y M).cls n Lib.objectInit, .instanceMethod Lib.objectInit, .code Lib.objectInit ⟨#[0xb1]⟩ 1 none]) = _
    rw [hP]
  rw [hl2] at hl
  have w1 := C.2.2.2.2.1 _ (hl _ List.mem_cons_self)
  have w2 := C.2.2.2.2.1 _ (hl _ (List.mem_cons_of_mem _ List.mem_cons_self))
  have w3 := C.2.2.2.2.1 _ (hl _ (List.mem_cons_of_mem _ (List.mem_cons_of_mem _ List.mem_cons_self)))
  intro H locs ls HR HL h1 h2
  rw [show pcOf (m_code M) i = pc from pcOf_at he]
  refine W.objInit C.1 C.2.1 C.2.2.2.1 w1 w2 w3 rfl (by show ls.size = _; rw [C.2.2.1]; exact HL.1.1) (a := bs + a) (rest := r.map (emb X bs)) rfl hd hR1 (by
    have := emb_pcs X bs r
    show 2 * 0 + ((r.map (emb X bs)).map fun v => v.category).sum + 12 ≤ R.locals
    omega) ?_
  show W p l e R s m args below meth c H locs cells slots Q (F0 m (pc + 3) ls _)
  rw [← hn]
  exact k H locs ls HR HL h1 h2
end PWH
end
section
/-! ===== arraycopy, switches ===== -/
theorem i32_nat {z : Int32} (hz : 0 ≤ z) : z.toInt = (z.toNatClampNeg : Int) := by
  have h0 : (0 : Int) ≤ z.toInt := by simpa using Int32.le_iff_toInt_le.mp hz
  show z.toInt = ((z.toInt.toNat : Nat) : Int)
  omega
theorem pswT (z : Int) (d : Nat) : ∀ (ts : List Nat) (lo : Int), ((z < lo ∨ lo + (ts.length : Int) - 1 < z) → psw z (pkeysT lo ts) d = d) ∧ (¬ z < lo → ¬ lo + (ts.length : Int) - 1 < z → ts[(z - lo).toNat]? = some (psw z (pkeysT lo ts) d))
  | [], lo => ⟨fun _ => rfl, fun h1 h2 => absurd h2 (by simp; omega)⟩
  | t :: r, lo => by
    obtain ⟨i1, i2⟩ := pswT z d r (lo + 1)
    unfold pkeysT psw
    rw [List.length_cons]
    constructor
    · intro hz
      rw [if_neg (by omega)]
      exact i1 (by omega)
    · intro h1 h2
      by_cases he : z = lo
      · rw [if_pos he, he]
        have : (lo - lo).toNat = 0 := by omega
        rw [this]
        rfl
      · rw [if_neg he]
        have : (z - lo).toNat = (z - (lo + 1)).toNat + 1 := by omega
        rw [this, List.getElem?_cons_succ]
        exact i2 (by omega) (by omega)
theorem pswL (pc : Nat) (g : Nat → Nat) (z d : Int) (x : Nat) (hd : (pc : Int) + d = (g x : Int)) : ∀ (ps : List (Int × Int)) (ts : List Nat), ps.map (fun q => (pc : Int) + q.2) = ts.map (fun q => (g q : Int)) → (pc : Int) + Op.lookupswitch.offset ps d z = (g (psw z ((ps.map (fun q => q.1)).zip ts) x) : Int)
  | [], ts, _ => hd
  | (a, b) :: r, [], hm => by simp at hm
  | (a, b) :: r, t :: ts, hm => by
    rw [List.map_cons, List.map_cons, List.cons.injEq] at hm
    rw [List.map_cons, List.zip_cons_cons, Op.lookupswitch.offset_cons]
    unfold psw
    by_cases hz : z = a
    · rw [if_pos hz, if_pos hz.symm]
      exact hm.1
    · rw [if_neg hz, if_neg (fun q => hz q.symm)]
      exact pswL pc g z d x hd r ts hm.2
section PWC
variable {p : Program} {l : Launch} {e : Env} {R : Room} {s : State} {m : MethodId} {args : Array Value} {below : List Frame} {meth : Method} {c : Code} {Q : State → Prop} {D : va_G} {X : Nat → Nat} {bs : Nat} {E : pX} {P : List pM} {M : pM}
variable {i pc x y : Nat} {v : Value} {ts : List Nat} {L L' : pL} {st st' r : List Value} {h h' : List pC} {cells slots : Nat}
theorem sw_table {dd lo hi : Int} {os : Array Int} {a : Int32} (B : SWc p s m args meth c D X bs E P M i (pc, .tableswitch dd lo hi os, x, y, v, ts)) (k : PW p l e R s m args below meth c Q D X bs M (psw a.toInt (pkeysT lo ts) x) L (r) h cells slots) : PW p l e R s m args below meth c Q D X bs M i L (.int a :: r) h cells slots := by
  obtain ⟨C, he, hd0, hn0, ha0, hl⟩ := B
  have hd : decode (m_b M) pc = .ok (.tableswitch dd lo hi os, y) := of_decide_eq_true hd0
  have ha : (decide ((pc : Int) + dd = (pcOf (m_code M) x : Int)) && (decide (hi = lo + (ts.length : Int) - 1) && decide (os.toList.map (fun z => (pc : Int) + z) = ts.map (fun z => (pcOf (m_code M) z : Int))))) = true := ha0
  rw [Bool.and_eq_true, Bool.and_eq_true] at ha
  have a1 := of_decide_eq_true ha.1
  have a2 := of_decide_eq_true ha.2.1
  have a3 := of_decide_eq_true ha.2.2
  obtain ⟨i1, i2⟩ := pswT a.toInt x ts lo
  by_cases hz : a.toInt < lo ∨ hi < a.toInt
  · rw [i1 (by omega)] at k
    exact pw_j (pcOf_at he) rfl k (fun H locs ls w => lv_tableOut C.1 C.2.1 hd hz a1 w)
  · have b1 : ¬ a.toInt < lo := fun q => hz (Or.inl q)
    have b2 : ¬ hi < a.toInt := fun q => hz (Or.inr q)
    have i2 := i2 b1 (by omega)
    have g := congrArg (fun l : List Int => l[(a.toInt - lo).toNat]?) a3
    simp only [List.getElem?_map, i2, Option.map_some] at g
    cases ho : os.toList[(a.toInt - lo).toNat]? with
    | none => rw [ho] at g; cases g
    | some off =>
      rw [ho] at g
      have g : (pc : Int) + off = (pcOf (m_code M) (psw a.toInt (pkeysT lo ts) x) : Int) := Option.some.inj g
      exact pw_j (pcOf_at he) rfl k (fun H locs ls w => lv_tableIn C.1 C.2.1 hd b1 b2 (by rw [← Array.getElem?_toList]; exact ho) g w)
theorem sw_lookup {dd : Int} {ps : Array (Int × Int)} {a : Int32} (B : SWc p s m args meth c D X bs E P M i (pc, .lookupswitch dd ps, x, y, v, ts)) (k : PW p l e R s m args below meth c Q D X bs M (psw a.toInt ((ps.toList.map (fun q => q.1)).zip ts) x) L (r) h cells slots) : PW p l e R s m args below meth c Q D X bs M i L (.int a :: r) h cells slots := by
  obtain ⟨C, he, hd0, hn0, ha0, hl⟩ := B
  have hd : decode (m_b M) pc = .ok (.lookupswitch dd ps, y) := of_decide_eq_true hd0
  have ha : (decide ((pc : Int) + dd = (pcOf (m_code M) x : Int)) && ((ps.toList.zip (ps.toList.drop 1)).all (fun (a, next) => a.1 < next.1) && decide (ps.toList.map (fun z => (pc : Int) + z.2) = ts.map (fun z => (pcOf (m_code M) z : Int))))) = true := ha0
  rw [Bool.and_eq_true, Bool.and_eq_true] at ha
  have a1 := of_decide_eq_true ha.1
  have a3 := of_decide_eq_true ha.2.2
  exact pw_j (pcOf_at he) rfl k (fun H locs ls w => lv_lookup C.1 C.2.1 hd ha.2.1 rfl (pswL pc (pcOf (m_code M)) a.toInt dd x a1 ps.toList ts a3) w)
theorem sw_copy {n a0 a1 : Nat} {sp dp z : Int32} {o0 o1 : Nat × (Nat → Int32)} (B : SWc p s m args meth c D X bs E P M i (pc, .invokestatic n, x, y, v, ts)) (hP : P[x]? = none) (hx9 : x = 99999) (hr8 : pcs r ≤ 8) (hR1 : 1 ≤ R.frames) (hR2 : 40 ≤ R.locals) (hi0 : pint h a0 = some o0) (hi1 : pint h a1 = some o1)
    (hz : 0 ≤ sp ∧ 0 ≤ dp ∧ 0 ≤ z ∧ sp.toNatClampNeg + z.toNatClampNeg ≤ o0.1 ∧ dp.toNatClampNeg + z.toNatClampNeg ≤ o1.1) (k : PW p l e R s m args below meth c Q D X bs M (i + 1) L (r) (h.set a1 (.inl (o1.1, va_cpy o0.2 o1.2 sp.toNatClampNeg dp.toNatClampNeg z.toNatClampNeg))) cells slots) : PW p l e R s m args below meth c Q D X bs M i L (.int z :: .int dp :: .ref a1 :: .int sp :: .ref a0 :: r) h cells slots := by
  obtain ⟨C, he, hd0, hn0, ha0, hl⟩ := B
  have hd : decode (m_b M) pc = .ok (.invokestatic n, 3) := of_decide_eq_true hd0
  have hn : pcOf (m_code M) (i + 1) = pc + 3 := of_decide_eq_true hn0
  subst hx9
  have hl2 : plnk P (m_y M).cls (pc, .invokestatic n, 99999, y, v, ts) = [.methodLink (m_y M).cls n arraycopyName, .native arraycopyName, .static arraycopyName, .initialized "java/lang/System"] := by
    show (match P[99999]? with
      | some N => [plk (m_y M).cls n (m_y N) v]
      | none => pnlk (m_y M).cls n 99999) = _
    rw [hP]
    rfl
  rw [hl2] at hl
  have w1 := C.2.2.2.2.1 _ (hl _ List.mem_cons_self)
  have w2 := C.2.2.2.2.1 _ (hl _ (List.mem_cons_of_mem _ List.mem_cons_self))
  have w3 := C.2.2.2.2.1 _ (hl _ (List.mem_cons_of_mem _ (List.mem_cons_of_mem _ List.mem_cons_self)))
  have w4 := C.2.2.2.2.1 _ (hl _ (List.mem_cons_of_mem _ (List.mem_cons_of_mem _ (List.mem_cons_of_mem _ List.mem_cons_self))))
  intro H locs ls HR HL g1 g2
  rw [show pcOf (m_code M) i = pc from pcOf_at he]
  obtain ⟨c0, hc0, hA0⟩ := HR.2 a0 _ (pint_at hi0)
  obtain ⟨c1, hc1, hA1⟩ := HR.2 a1 _ (pint_at hi1)
  obtain ⟨-, k0, hk0, cm0, hkk0⟩ := hA0 o0.1 (fun j => .int (o0.2 j))
  obtain ⟨-, k1, hk1, cm1, hkk1⟩ := hA1 o1.1 (fun j => .int (o1.2 j))
  have hprim : refKind FieldType.int = false := rfl
  have hpc := emb_pcs X bs r
  intro T hT Z
  obtain ⟨vm', Z', step⟩ := Z.arraycopy C.1 C.2.2.2.1 w1 w2 w3 w4 (src := bs + a0) (dst := bs + a1) (cs := arrV c0 o0.1 (fun j => .int (o0.2 j))) (cd := arrV c1 o1.1 (fun j => .int (o1.2 j))) (srcPos := sp) (destPos := dp) (n := z) (by rw [hT]; exact hc0) (by rw [hT]; exact hc1)
    (fun _ h => by cases h) (fun _ h => by cases h) (fun h => by cases h) (fun h => by cases h) hk0 hk1 hkk0 hkk1 (by simp [hprim]) (Int32.not_lt.mpr hz.1) (Int32.not_lt.mpr hz.2.1) (Int32.not_lt.mpr hz.2.2.1)
    (by rw [i32_nat hz.1, i32_nat hz.2.2.1]; show ¬ _ > ((arrV c0 o0.1 (fun j => .int (o0.2 j))).slots.size : Int); rw [arrV_size]; omega)
    (by rw [i32_nat hz.2.1, i32_nat hz.2.2.1]; show ¬ _ > ((arrV c1 o1.1 (fun j => .int (o1.2 j))).slots.size : Int); rw [arrV_size]; omega)
    (fun vm₁ _ i hi => by
      have e : (arrV c0 o0.1 (fun j => .int (o0.2 j))).slots.getD (sp.toNatClampNeg + i) .null = .int (o0.2 (sp.toNatClampNeg + i)) := by
        rw [Array.getD_eq_getD_getElem?, arrV_read _ _ (by omega)]
        rfl
      refine ⟨?_, ?_⟩
      · rw [e]
        rfl
      · rw [e]
        exact trivial)
    (g := F0 m pc ls (.int z :: .int dp :: .ref (bs + a1) :: .int sp :: .ref (bs + a0) :: r.map (emb X bs))) rfl (by show ls.size = _; rw [C.2.2.1]; exact HL.1.1) (rest := r.map (emb X bs)) rfl (by rw [C.2.1]; exact hd) hR1 (by
      have hw : nativeFrameWords "java/lang/System" "arraycopy" 5 + 11 ≤ 32 := by decide +kernel
      show 2 * 0 + ((r.map (emb X bs)).map fun v => v.category).sum + _ ≤ _
      omega)
  have e1 : copied (arrV c0 o0.1 (fun j => .int (o0.2 j))) (arrV c1 o1.1 (fun j => .int (o1.2 j))) sp dp z = arrV c1 o1.1 (fun j => .int (va_cpy o0.2 o1.2 sp.toNatClampNeg dp.toNatClampNeg z.toNatClampNeg j)) := va_copied (fun z => .int z) c0 c1 o0.2 o1.2 hz.2.2.2.1
  rw [e1] at Z' step
  have hlt : bs + a1 < H.size := (Array.getElem?_eq_some_iff.mp hc1).1
  generalize hcell : arrV c1 o1.1 (fun j => .int (va_cpy o0.2 o1.2 sp.toNatClampNeg dp.toNatClampNeg z.toNatClampNeg j)) = cell at Z' step
  have hheap : ((T.setVm vm').setCell (bs + a1) cell).heap = H.setIfInBounds (bs + a1) cell := by rw [← hT]; rfl
  have oq : ∀ q : Nat, q ≠ bs + a1 → (H.setIfInBounds (bs + a1) cell)[q]? = H[q]? := fun q hq => by simp [Array.getElem?_setIfInBounds, Ne.symm hq]
  have e2 : (H.setIfInBounds (bs + a1) cell)[bs + a1]? = some cell := by simp [Array.getElem?_setIfInBounds, hlt]
  have kk := fun (locs1 : List Loc) (hl : ∀ x ∈ locs1, bs ≤ x.base) => k (H.setIfInBounds (bs + a1) cell) locs1 ls (HR.set (pint_at hi1) (by simp) ⟨c1, by rw [hcell]; exact e2, hA1⟩ oq) HL (fun q hq => (oq q (by omega)).trans (g1 q hq)) hl
  rw [hn] at kk
  obtain ⟨t, b1, b2⟩ := kk _ (fun q hq => by
      rcases List.mem_append.mp hq with h | h
      · exact g2 q h
      · obtain ⟨w, -, hw⟩ := List.mem_map.mp h
        rw [← hw]
        exact Nat.le_add_right _ _) _ hheap Z'
  exact ⟨t, step t b1, b2⟩

theorem sw_mmax {n : Nat} {a b : Int32} (B : SWc p s m args meth c D X bs E P M i (pc, .invokestatic n, 99990, y, v, ts)) (hP : P[99990]? = none) (hr8 : pcs r ≤ 8) (hR1 : 1 ≤ R.frames) (hR2 : 40 ≤ R.locals) (hc : cells ≤ R.cells) (hsl : slots ≤ R.slots) (k : PW p l e R s m args below meth c Q D X bs M (i + 1) L (.int (if a < b then b else a) :: r) h cells slots) : PW p l e R s m args below meth c Q D X bs M i L (.int b :: .int a :: r) h cells slots := by
  obtain ⟨C, he, hd0, hn0, ha0, hl⟩ := B
  have hd : decode (m_b M) pc = .ok (.invokestatic n, 3) := of_decide_eq_true hd0
  have hn : pcOf (m_code M) (i + 1) = pc + 3 := of_decide_eq_true hn0
  have hl2 : plnk P (m_y M).cls (pc, .invokestatic n, 99990, y, v, ts) = [.methodLink (m_y M).cls n Lib.Math.max.name, .static Lib.Math.max.name, .initialized "java/lang/Math", .code Lib.Math.max.name Lib.Math.max.code 2 (some .int)] := by
    show (match P[99990]? with
      | some N => [plk (m_y M).cls n (m_y N) v]
      | none => pnlk (m_y M).cls n 99990) = _
    rw [hP]
    rfl
  rw [hl2] at hl
  have w1 := C.2.2.2.2.1 _ (hl _ List.mem_cons_self)
  have w2 := C.2.2.2.2.1 _ (hl _ (List.mem_cons_of_mem _ List.mem_cons_self))
  have w3 := C.2.2.2.2.1 _ (hl _ (List.mem_cons_of_mem _ (List.mem_cons_of_mem _ List.mem_cons_self)))
  have w4 := C.2.2.2.2.1 _ (hl _ (List.mem_cons_of_mem _ (List.mem_cons_of_mem _ (List.mem_cons_of_mem _ List.mem_cons_self))))
  exact pw_st (pcOf_at he) hn k (fun H locs ls HL w => va_mmax C.1 C.2.1 (by rw [C.2.2.1]; exact HL.1.1.symm) C.2.2.2.1 w1 w2 w3 w4 hR1 (by
    have := emb_pcs X bs r
    omega) hc hsl hd w)
theorem sw_mmin {n : Nat} {a b : Int32} (B : SWc p s m args meth c D X bs E P M i (pc, .invokestatic n, 99991, y, v, ts)) (hP : P[99991]? = none) (hr8 : pcs r ≤ 8) (hR1 : 1 ≤ R.frames) (hR2 : 40 ≤ R.locals) (hc : cells ≤ R.cells) (hsl : slots ≤ R.slots) (k : PW p l e R s m args below meth c Q D X bs M (i + 1) L (.int (if b < a then b else a) :: r) h cells slots) : PW p l e R s m args below meth c Q D X bs M i L (.int b :: .int a :: r) h cells slots := by
  obtain ⟨C, he, hd0, hn0, ha0, hl⟩ := B
  have hd : decode (m_b M) pc = .ok (.invokestatic n, 3) := of_decide_eq_true hd0
  have hn : pcOf (m_code M) (i + 1) = pc + 3 := of_decide_eq_true hn0
  have hl2 : plnk P (m_y M).cls (pc, .invokestatic n, 99991, y, v, ts) = [.methodLink (m_y M).cls n Lib.Math.min.name, .static Lib.Math.min.name, .initialized "java/lang/Math", .code Lib.Math.min.name Lib.Math.min.code 2 (some .int)] := by
    show (match P[99991]? with
      | some N => [plk (m_y M).cls n (m_y N) v]
      | none => pnlk (m_y M).cls n 99991) = _
    rw [hP]
    rfl
  rw [hl2] at hl
  have w1 := C.2.2.2.2.1 _ (hl _ List.mem_cons_self)
  have w2 := C.2.2.2.2.1 _ (hl _ (List.mem_cons_of_mem _ List.mem_cons_self))
  have w3 := C.2.2.2.2.1 _ (hl _ (List.mem_cons_of_mem _ (List.mem_cons_of_mem _ List.mem_cons_self)))
  have w4 := C.2.2.2.2.1 _ (hl _ (List.mem_cons_of_mem _ (List.mem_cons_of_mem _ (List.mem_cons_of_mem _ List.mem_cons_self))))
  exact pw_st (pcOf_at he) hn k (fun H locs ls HL w => va_mmin C.1 C.2.1 (by rw [C.2.2.1]; exact HL.1.1.symm) C.2.2.2.1 w1 w2 w3 w4 hR1 (by
    have := emb_pcs X bs r
    omega) hc hsl hd w)
theorem sw_mabs {n : Nat} {a : Int32} (B : SWc p s m args meth c D X bs E P M i (pc, .invokestatic n, 99992, y, v, ts)) (hP : P[99992]? = none) (hr8 : pcs r ≤ 8) (hR1 : 1 ≤ R.frames) (hR2 : 40 ≤ R.locals) (hc : cells ≤ R.cells) (hsl : slots ≤ R.slots) (k : PW p l e R s m args below meth c Q D X bs M (i + 1) L (.int (if 0 ≤ a then a else 0 - a) :: r) h cells slots) : PW p l e R s m args below meth c Q D X bs M i L (.int a :: r) h cells slots := by
  obtain ⟨C, he, hd0, hn0, ha0, hl⟩ := B
  have hd : decode (m_b M) pc = .ok (.invokestatic n, 3) := of_decide_eq_true hd0
  have hn : pcOf (m_code M) (i + 1) = pc + 3 := of_decide_eq_true hn0
  have hl2 : plnk P (m_y M).cls (pc, .invokestatic n, 99992, y, v, ts) = [.methodLink (m_y M).cls n Lib.Math.abs.name, .static Lib.Math.abs.name, .initialized "java/lang/Math", .code Lib.Math.abs.name Lib.Math.abs.code 1 (some .int)] := by
    show (match P[99992]? with
      | some N => [plk (m_y M).cls n (m_y N) v]
      | none => pnlk (m_y M).cls n 99992) = _
    rw [hP]
    rfl
  rw [hl2] at hl
  have w1 := C.2.2.2.2.1 _ (hl _ List.mem_cons_self)
  have w2 := C.2.2.2.2.1 _ (hl _ (List.mem_cons_of_mem _ List.mem_cons_self))
  have w3 := C.2.2.2.2.1 _ (hl _ (List.mem_cons_of_mem _ (List.mem_cons_of_mem _ List.mem_cons_self)))
  have w4 := C.2.2.2.2.1 _ (hl _ (List.mem_cons_of_mem _ (List.mem_cons_of_mem _ (List.mem_cons_of_mem _ List.mem_cons_self))))
  exact pw_st (pcOf_at he) hn k (fun H locs ls HL w => va_mabs C.1 C.2.1 (by rw [C.2.2.1]; exact HL.1.1.symm) C.2.2.2.1 w1 w2 w3 w4 hR1 (by
    have := emb_pcs X bs r
    omega) hc hsl hd w)
end PWC

/-! ===== one step of the pure machine is one step of the machine ===== -/
theorem pnx_inv {i : Nat} {L : pL} {st : List Value} {h : List pC} {σ : pS} (hs : pnx i L st h = some σ) : σ = (i + 1, L, st, h, 0, 0) := (Option.some.inj hs).symm
theorem psto_inv {q : Option pL} {i : Nat} {st : List Value} {h : List pC} {σ : pS} (hs : psto q i st h = some σ) : ∃ L', q = some L' ∧ σ = (i + 1, L', st, h, 0, 0) := by
  cases q with
  | none => cases hs
  | some L' => exact ⟨L', rfl, pnx_inv hs⟩
section PWD
variable {p : Program} {l : Launch} {e : Env} {R : Room} {s : State} {m : MethodId} {args : Array Value} {below : List Frame} {meth : Method} {c : Code} {Q : State → Prop} {D : va_G} {X : Nat → Nat} {bs : Nat} {E : pX} {P : List pM} {M : pM}
variable {i pc x y : Nat} {v : Value} {ts : List Nat} {L L' : pL} {st st' r : List Value} {h h' : List pC} {cells slots : Nat}
variable {t : pE} {σ : pS}
theorem pbin_inv {f : Int32 → Int32 → Int32} (hs : pbin f i L st h = some σ) : ∃ a b r, st = .int b :: .int a :: r ∧ σ = (i + 1, L, .int (f a b) :: r, h, 0, 0) := by
  unfold pbin at hs
  split at hs
  · exact ⟨_, _, _, rfl, pnx_inv hs⟩
  · cases hs
theorem pldi_inv (hs : pldi t i L st h = some σ) : ∃ a, pget L (e_x t) = some (.int a) ∧ σ = (i + 1, L, .int a :: st, h, 0, 0) := by
  unfold pldi at hs
  split at hs
  · rename_i q
    exact ⟨_, q, pnx_inv hs⟩
  · cases hs
theorem pldl_inv (hs : pldl t i L st h = some σ) : ∃ a, pget L (e_x t) = some (.long a) ∧ σ = (i + 1, L, .long a :: st, h, 0, 0) := by
  unfold pldl at hs
  split at hs
  · rename_i q
    exact ⟨_, q, pnx_inv hs⟩
  · cases hs
theorem plda_inv (hs : plda t i L st h = some σ) : (∃ a, pget L (e_x t) = some (.ref a) ∧ σ = (i + 1, L, .ref a :: st, h, 0, 0)) ∨ (pget L (e_x t) = some .null ∧ σ = (i + 1, L, .null :: st, h, 0, 0)) ∨ ∃ a, pget L (e_x t) = some (.retAddr a) ∧ σ = (i + 1, L, .retAddr a :: st, h, 0, 0) := by
  unfold plda at hs
  split at hs
  · rename_i q
    exact Or.inl ⟨_, q, pnx_inv hs⟩
  · rename_i q
    exact Or.inr (Or.inl ⟨q, pnx_inv hs⟩)
  · rename_i q
    exact Or.inr (Or.inr ⟨_, q, pnx_inv hs⟩)
  · cases hs
theorem psti_inv (hs : psti t i L st h = some σ) : ∃ a r L', st = .int a :: r ∧ pset L (e_x t) (.int a) = some L' ∧ σ = (i + 1, L', r, h, 0, 0) := by
  unfold psti at hs
  split at hs
  · obtain ⟨L', q, e⟩ := psto_inv hs
    exact ⟨_, _, L', rfl, q, e⟩
  · cases hs
theorem psta_inv (hs : psta t i L st h = some σ) : (∃ a r L', st = .ref a :: r ∧ pset L (e_x t) (.ref a) = some L' ∧ σ = (i + 1, L', r, h, 0, 0)) ∨ ∃ r L', st = .null :: r ∧ pset L (e_x t) .null = some L' ∧ σ = (i + 1, L', r, h, 0, 0) := by
  unfold psta at hs
  split at hs
  · obtain ⟨L', q, e⟩ := psto_inv hs
    exact Or.inl ⟨_, _, L', rfl, q, e⟩
  · obtain ⟨L', q, e⟩ := psto_inv hs
    exact Or.inr ⟨_, L', rfl, q, e⟩
  · cases hs
theorem sw_all (B : SWc p s m args meth c D X bs E P M i t) (hR1 : 1 ≤ R.frames) (hR2 : 40 ≤ R.locals) (hPl : P.length ≤ 90000) (hs : pstep E t i L st h = some σ) (hc : cells + σ.2.2.2.2.1 ≤ R.cells) (hsl : slots + σ.2.2.2.2.2 ≤ R.slots) (k : PW p l e R s m args below meth c Q D X bs M σ.1 σ.2.1 σ.2.2.1 σ.2.2.2.1 (cells + σ.2.2.2.2.1) (slots + σ.2.2.2.2.2)) : PW p l e R s m args below meth c Q D X bs M i L st h cells slots := by
  obtain ⟨pc, ins, x, y, v, ts⟩ := t
  have hPn : ∀ z, z = 99999 → P[z]? = none := fun z hz => List.getElem?_eq_none_iff.mpr (by omega)
  have hPm : ∀ z, 90000 ≤ z → P[z]? = none := fun z hz => List.getElem?_eq_none_iff.mpr (by omega)
  cases ins
  case iconst n =>
    obtain rfl := pnx_inv hs
    exact sw_iconst B k
  case bipush n =>
    obtain rfl := pnx_inv hs
    exact sw_bipush B k
  case sipush n =>
    obtain rfl := pnx_inv hs
    exact sw_sipush B k
  case lconst n =>
    obtain rfl := pnx_inv hs
    exact sw_lconst B k
  case ldc n =>
    obtain rfl := pnx_inv hs
    exact sw_ldc B k
  case ldc_w n =>
    obtain rfl := pnx_inv hs
    exact sw_ldc_w B k
  case ldc2_w n =>
    obtain rfl := pnx_inv hs
    exact sw_ldc2_w B k
  case aconst_null =>
    obtain rfl := pnx_inv hs
    exact sw_aconst_null B k
  case iload n =>
    obtain ⟨a, hv, rfl⟩ := pldi_inv (t := (pc, .iload n, x, y, v, ts)) hs
    exact sw_iload B hv k
  case iload_n n =>
    obtain ⟨a, hv, rfl⟩ := pldi_inv (t := (pc, .iload_n n, x, y, v, ts)) hs
    exact sw_iload_n B hv k
  case lload n =>
    obtain ⟨a, hv, rfl⟩ := pldl_inv (t := (pc, .lload n, x, y, v, ts)) hs
    exact sw_lload B hv k
  case lload_n n =>
    obtain ⟨a, hv, rfl⟩ := pldl_inv (t := (pc, .lload_n n, x, y, v, ts)) hs
    exact sw_lload_n B hv k
  case aload n =>
    rcases plda_inv (t := (pc, .aload n, x, y, v, ts)) hs with ⟨a, hv, rfl⟩ | ⟨hv, rfl⟩ | ⟨a, hv, rfl⟩
    · exact sw_aload B hv k
    · exact sw_aloadN B hv k
    · exact sw_aloadX B hv k
  case aload_n n =>
    rcases plda_inv (t := (pc, .aload_n n, x, y, v, ts)) hs with ⟨a, hv, rfl⟩ | ⟨hv, rfl⟩ | ⟨a, hv, rfl⟩
    · exact sw_aload_n B hv k
    · exact sw_aload_nN B hv k
    · exact sw_aload_nX B hv k
  case istore n =>
    obtain ⟨a, r, L1, rfl, hp, rfl⟩ := psti_inv (t := (pc, .istore n, x, y, v, ts)) hs
    exact sw_istore B hp k
  case istore_n n =>
    obtain ⟨a, r, L1, rfl, hp, rfl⟩ := psti_inv (t := (pc, .istore_n n, x, y, v, ts)) hs
    exact sw_istore_n B hp k
  case astore n =>
    rcases psta_inv (t := (pc, .astore n, x, y, v, ts)) hs with ⟨a, r, L1, rfl, hp, rfl⟩ | ⟨r, L1, rfl, hp, rfl⟩
    · exact sw_astore B hp k
    · exact sw_astoreN B hp k
  case astore_n n =>
    rcases psta_inv (t := (pc, .astore_n n, x, y, v, ts)) hs with ⟨a, r, L1, rfl, hp, rfl⟩ | ⟨r, L1, rfl, hp, rfl⟩
    · exact sw_astore_n B hp k
    · exact sw_astore_nN B hp k
  case iinc n z =>
    have hs : pinc z (pc, .iinc n z, x, y, v, ts) i L st h = some σ := hs
    unfold pinc at hs
    split at hs
    · rename_i hv
      obtain ⟨L1, hp, rfl⟩ := psto_inv hs
      exact sw_iinc B hv hp k
    · cases hs
  case iadd =>
    obtain ⟨a, b, r, rfl, rfl⟩ := pbin_inv hs
    exact sw_iadd B k
  case isub =>
    obtain ⟨a, b, r, rfl, rfl⟩ := pbin_inv hs
    exact sw_isub B k
  case imul =>
    obtain ⟨a, b, r, rfl, rfl⟩ := pbin_inv hs
    exact sw_imul B k
  case iand =>
    obtain ⟨a, b, r, rfl, rfl⟩ := pbin_inv hs
    exact sw_iand B k
  case ior =>
    obtain ⟨a, b, r, rfl, rfl⟩ := pbin_inv hs
    exact sw_ior B k
  case ixor =>
    obtain ⟨a, b, r, rfl, rfl⟩ := pbin_inv hs
    exact sw_ixor B k
  case ishl =>
    obtain ⟨a, b, r, rfl, rfl⟩ := pbin_inv hs
    exact sw_ishl B k
  case ishr =>
    obtain ⟨a, b, r, rfl, rfl⟩ := pbin_inv hs
    exact sw_ishr B k
  case iushr =>
    obtain ⟨a, b, r, rfl, rfl⟩ := pbin_inv hs
    exact sw_iushr B k
  case idiv =>
    have hs : pdiv (fun a b => a / b) i L st h = some σ := hs
    unfold pdiv at hs
    split at hs
    · split at hs
      · cases hs
      · rename_i h0
        obtain rfl := pnx_inv hs
        exact sw_idiv B h0 k
    · cases hs
  case irem =>
    have hs : pdiv (fun a b => a - a / b * b) i L st h = some σ := hs
    unfold pdiv at hs
    split at hs
    · split at hs
      · cases hs
      · rename_i h0
        obtain rfl := pnx_inv hs
        exact sw_irem B h0 k
    · cases hs
  case ineg =>
    have hs : puni (fun a => .int (-a)) i L st h = some σ := hs
    unfold puni at hs
    split at hs
    · obtain rfl := pnx_inv hs
      exact sw_ineg B k
    · cases hs
  case i2l =>
    have hs : puni (fun a => .long a.toInt64) i L st h = some σ := hs
    unfold puni at hs
    split at hs
    · obtain rfl := pnx_inv hs
      exact sw_i2l B k
    · cases hs
  case i2s =>
    have hs : puni (fun a => .int a.toInt16.toInt32) i L st h = some σ := hs
    unfold puni at hs
    split at hs
    · obtain rfl := pnx_inv hs
      exact sw_i2s B k
    · cases hs
  case i2c =>
    have hs : puni (fun a => .int (a.toUInt32 % 65536).toInt32) i L st h = some σ := hs
    unfold puni at hs
    split at hs
    · obtain rfl := pnx_inv hs
      exact sw_i2c B k
    · cases hs
  case ladd =>
    have hs : plbin (fun a b => .long (a + b)) i L st h = some σ := hs
    unfold plbin at hs
    split at hs
    · obtain rfl := pnx_inv hs
      exact sw_ladd B k
    · cases hs
  case lcmp =>
    have hs : plbin (fun a b => .int (lg_cmp a b)) i L st h = some σ := hs
    unfold plbin at hs
    split at hs
    · obtain rfl := pnx_inv hs
      exact sw_lcmp B k
    · cases hs
  case dup =>
    have hs : pdup i L st h = some σ := hs
    unfold pdup at hs
    split at hs
    · split at hs
      · rename_i h0
        obtain rfl := pnx_inv hs
        exact sw_dup B h0 k
      · cases hs
    · cases hs
  case dup2 =>
    have hs : pdup2 i L st h = some σ := hs
    unfold pdup2 at hs
    split at hs
    · split at hs
      · rename_i h0
        obtain rfl := pnx_inv hs
        exact sw_dup2 B h0 k
      · cases hs
    · cases hs
  case pop =>
    have hs : ppop i L st h = some σ := hs
    unfold ppop at hs
    split at hs
    · split at hs
      · rename_i h0
        obtain rfl := pnx_inv hs
        exact sw_pop B h0 k
      · cases hs
    · cases hs
  case goto z =>
    obtain rfl : σ = (x, L, st, h, 0, 0) := (Option.some.inj hs).symm
    exact sw_goto B k
  case ifCond k0 z =>
    have hs : pif1 k0 x i L st h = some σ := hs
    unfold pif1 at hs
    split at hs
    · obtain rfl := (Option.some.inj hs).symm
      refine sw_ifCond B (fun q => ?_) (fun q => ?_)
      · simp only [q, cond_true] at k
        exact k
      · simp only [q, cond_false] at k
        exact k
    · cases hs
  case if_icmp k0 z =>
    have hs : pif2 k0 x i L st h = some σ := hs
    unfold pif2 at hs
    split at hs
    · obtain rfl := (Option.some.inj hs).symm
      refine sw_if_icmp B (fun q => ?_) (fun q => ?_)
      · simp only [q, cond_true] at k
        exact k
      · simp only [q, cond_false] at k
        exact k
    · cases hs
  case ifnull z =>
    have hs : pifn x i L st h = some σ := hs
    unfold pifn at hs
    split at hs
    · obtain rfl := (Option.some.inj hs).symm
      exact sw_ifnullJ B k
    · obtain rfl := pnx_inv hs
      exact sw_ifnullF B k
    · cases hs
  case ifnonnull z =>
    have hs : pifnn x i L st h = some σ := hs
    unfold pifnn at hs
    split at hs
    · obtain rfl := pnx_inv hs
      exact sw_ifnonnullF B k
    · obtain rfl := (Option.some.inj hs).symm
      exact sw_ifnonnullJ B k
    · cases hs
  case tableswitch dd lo hi os =>
    have hs : pswi (pkeysT lo ts) x i L st h = some σ := hs
    unfold pswi at hs
    split at hs
    · obtain rfl := (Option.some.inj hs).symm
      exact sw_table B k
    · cases hs
  case lookupswitch dd ps =>
    have hs : pswi ((ps.toList.map (fun q => q.1)).zip ts) x i L st h = some σ := hs
    unfold pswi at hs
    split at hs
    · obtain rfl := (Option.some.inj hs).symm
      exact sw_lookup B k
    · cases hs
  case getfield n =>
    have hs : pgetf (pc, .getfield n, x, y, v, ts) i L st h = some σ := hs
    unfold pgetf at hs
    split at hs
    · split at hs
      · rename_i ho
        split at hs
        · rename_i hx1
          split at hs
          · rename_i hw
            obtain rfl := pnx_inv hs
            exact sw_getfield B ho hx1 hw k
          · cases hs
        · cases hs
      · cases hs
    · cases hs
  case putfield n =>
    have hs : pputf (pc, .putfield n, x, y, v, ts) i L st h = some σ := hs
    unfold pputf at hs
    split at hs
    · split at hs
      · rename_i ho
        split at hs
        · rename_i hx1
          split at hs
          · rename_i hf
            obtain rfl := pnx_inv hs
            exact sw_putfield B ho hx1 hf k
          · cases hs
        · cases hs
      · cases hs
    · cases hs
  case iaload =>
    have hs : piald E i L st h = some σ := hs
    unfold piald at hs
    split at hs
    · split at hs
      · rename_i ho
        split at hs
        · rename_i hj
          obtain rfl := pnx_inv hs
          exact sw_iaload B ho hj k
        · cases hs
      · cases hs
    · split at hs
      · rename_i ho
        split at hs
        · rename_i hj
          obtain rfl := pnx_inv hs
          exact sw_ialoadX B ho hj k
        · cases hs
      · cases hs
    · cases hs
  case iastore =>
    have hs : piast i L st h = some σ := hs
    unfold piast at hs
    split at hs
    · split at hs
      · rename_i ho
        split at hs
        · rename_i hj
          obtain rfl := pnx_inv hs
          exact sw_iastore B ho hj k
        · cases hs
      · cases hs
    · cases hs
  case aaload =>
    have hs : paald i L st h = some σ := hs
    unfold paald at hs
    split at hs
    · split at hs
      · rename_i ho
        split at hs
        · rename_i hj
          obtain rfl := pnx_inv hs
          exact sw_aaload B ho hj k
        · cases hs
      · cases hs
    · cases hs
  case aastore =>
    have hs : paast i L st h = some σ := hs
    unfold paast at hs
    split at hs
    · split at hs
      · rename_i ho hb
        split at hs
        · rename_i hx1
          split at hs
          · rename_i hj
            obtain rfl := pnx_inv hs
            exact sw_aastore B ho hb hx1 hj k
          · cases hs
        · cases hs
      · cases hs
    · cases hs
  case arraylength =>
    have hs : palen E i L st h = some σ := hs
    unfold palen at hs
    split at hs
    · split at hs
      · rename_i ho
        obtain rfl := pnx_inv hs
        exact sw_alenI B ho k
      · rename_i ho
        obtain rfl := pnx_inv hs
        exact sw_alenR B ho k
      · cases hs
    · split at hs
      · rename_i ho
        obtain rfl := pnx_inv hs
        exact sw_alenX B ho k
      · cases hs
    · cases hs
  case new n =>
    have hs : pnewc (pc, .new n, x, y, v, ts) i L st h = some σ := hs
    unfold pnewc at hs
    split at hs
    · rename_i hx1
      obtain rfl := (Option.some.inj hs).symm
      exact sw_new B hx1 hc hsl k
    · cases hs
  case newarray n =>
    have hs : pnewa i L st h = some σ := hs
    unfold pnewa at hs
    split at hs
    · split at hs
      · rename_i hj
        obtain rfl := (Option.some.inj hs).symm
        exact sw_newarray B hj hc hsl k
      · cases hs
    · cases hs
  case anewarray n =>
    have hs : pnewq (pc, .anewarray n, x, y, v, ts) i L st h = some σ := hs
    unfold pnewq at hs
    split at hs
    · split at hs
      · rename_i hj
        obtain rfl := (Option.some.inj hs).symm
        exact sw_anewarray B hj.1 hj.2 hc hsl k
      · cases hs
    · cases hs
  case invokestatic n =>
    have hq : pnats (pc, .invokestatic n, x, y, v, ts) i L st h = some σ := hs
    clear hs
    unfold pnats at hq
    split at hq
    · rename_i hx1
      obtain rfl : x = 99990 := hx1
      unfold pm2 at hq
      split at hq
      · split at hq
        · rename_i h8
          obtain rfl := pnx_inv hq
          exact sw_mmax B (hPm _ (by decide)) h8 hR1 hR2 hc hsl k
        · cases hq
      · cases hq
    · split at hq
      · rename_i hx1
        obtain rfl : x = 99991 := hx1
        unfold pm2 at hq
        split at hq
        · split at hq
          · rename_i h8
            obtain rfl := pnx_inv hq
            exact sw_mmin B (hPm _ (by decide)) h8 hR1 hR2 hc hsl k
          · cases hq
        · cases hq
      · split at hq
        · rename_i hx1
          obtain rfl : x = 99992 := hx1
          unfold pm1 at hq
          split at hq
          · split at hq
            · rename_i h8
              obtain rfl := pnx_inv hq
              exact sw_mabs B (hPm _ (by decide)) h8 hR1 hR2 hc hsl k
            · cases hq
          · cases hq
        · unfold pocopy at hq
          split at hq
          · split at hq
            · rename_i hx1
              split at hq
              · rename_i h0 h1
                split at hq
                · rename_i hz
                  obtain rfl := pnx_inv hq
                  exact sw_copy B (hPn _ hx1.1) hx1.1 hx1.2 hR1 hR2 h0 h1 hz k
                · cases hq
              · cases hq
            · cases hq
          · cases hq
  case invokespecial n =>
    have hs : poini (pc, .invokespecial n, x, y, v, ts) i L st h = some σ := hs
    unfold poini at hs
    split at hs
    · split at hs
      · rename_i hx1
        obtain rfl := pnx_inv hs
        exact sw_oini B (hPn _ hx1.1) hx1.2 hR1 hR2 k
      · cases hs
    · cases hs
  all_goals (have hs2 : (none : Option pS) = some σ := hs; cases hs2)
end PWD
end
section
/-! ===== calls, and a whole run ===== -/
theorem good_u {w : Cond} (h : w ∈ gtbl) : w ∈ utbl := by
  obtain ⟨h1, h2⟩ := List.mem_filter.mp h
  exact List.mem_filter.mpr ⟨h1, by unfold uword; rw [h2]; rfl⟩
theorem good_g {w : Cond} (h : w ∈ gtbl) : (w.onTables && w.keeps) = true ∨ ∃ ty, w = .arrayClass ty := good_of_word (List.mem_filter.mp h).2
def PCx (D : va_G) (X : Nat → Nat) (bs : Nat) (E : pX) (h : List pC) (U : State) : Prop := Rep D X bs U h U.heap ∧ va_K D pcls [] U ∧ (∀ (k : Nat) (x : Nat × (Nat → Int32)), E k = some x → va_X (X k) x.1 x.2 U U.heap ∧ X k < bs) ∧ (∀ w ∈ utbl, nword w = true → w.before #[] U = true) ∧ GS bs U
def PQ (D : va_G) (X : Nat → Nat) (bs : Nat) (r : Option Value) (h' : List pC) : Array Value → State → Outcome → State → Prop := fun _ st o t => o = .returned (r.map (emb X bs)) ∧ Rep D X bs t h' t.heap ∧ ∀ q : Nat, q < bs → t.heap[q]? = st.heap[q]?
def pws (M : pM) : List Cond := .code (m_y M) (m_b M) (m_l M) (m_r M) :: gtbl
def prm (d k n : Nat) : Room := { frames := d, cells := k, slots := n, locals := 40 * d }
/-- a method's contract: from the cells h, with these arguments, it answers r, the cells behind it are h' -/
def Cn (l : Launch) (E : pX) (M : pM) (d : Nat) (as : List Value) (h : List pC) (r : Option Value) (h' : List pC) (k n : Nat) : Prop :=
  ∀ (D : va_G) (X : Nat → Nat) (bs : Nat), Met l (m_y M) (pws M) (prm d k n) (va_Pc (as.map (emb X bs)) (PCx D X bs E h)) (PQ D X bs r h') k n (fun q => bs ≤ q)
theorem nword_same {w : Cond} (hw : nword w = true) {A A' : Array Value} {u U : State} (h : u.vm = U.vm) (hb : w.before A u = true) : w.before A' U = true := by
  unfold nword at hw
  split at hw
  · exact va_tabs rfl h hb
  · exact (va_AO.moved (u := u) (U := U) (by rw [h]; exact Vm.Alike.refl U.vm) hb)
  · cases hw
theorem nword_warm {w : Cond} (hw : nword w = true) {A A' : Array Value} {u U : State} (h : u.WarmedH U.vm) (hb : w.before A u = true) : w.before A' U = true := by
  unfold nword at hw
  split at hw
  · exact va_Nw.use rfl (va_Nw.warmM h (va_Nw.of rfl hb))
  · exact (va_AO.moved (u := u) (U := U) h.alike hb)
  · cases hw
theorem PCx.same {D : va_G} {X : Nat → Nat} {bs : Nat} {E : pX} {h : List pC} {u U : State} (hv : u.vm = U.vm) (hh : U.heap = u.heap) (hp : PCx D X bs E h u) : PCx D X bs E h U := by
  obtain ⟨h1, h2, h3, h4, h5⟩ := hp
  have hvm : u.vm.Alike U.vm := by rw [hv]; exact Vm.Alike.refl U.vm
  exact ⟨by rw [hh]; exact h1.moved hvm, h2.moved hvm, fun k x hk => ⟨by rw [hh]; exact (h3 k x hk).1.moved hvm, (h3 k x hk).2⟩, fun w hw hn => nword_same hn hv (h4 w hw hn), h5.same hv hh⟩
theorem fr_blind (av : List Value) (D : va_G) (X : Nat → Nat) (bs : Nat) (E : pX) (h : List pC) : FrameBlind (va_Pc av (PCx D X bs E h)) := fun a U g mk q => ⟨q.1, q.2.same (u := U) (U := U.calling g mk a) rfl rfl⟩
section PWE
variable {p : Program} {l : Launch} {e : Env} {R : Room} {s : State} {m : MethodId} {args : Array Value} {below : List Frame} {meth : Method} {c : Code} {Q : State → Prop} {D : va_G} {X : Nat → Nat} {bs : Nat} {E : pX} {P : List pM} {M N : pM}
variable {i pc x y : Nat} {v : Value} {ts : List Nat} {L L' : pL} {st st' r : List Value} {h h1 : List pC} {cells slots k1 n1 d : Nat} {r1 : Option Value}
theorem cx_at {H : Heap} (C : Cx p s m args meth c D X bs E M) (HR : Rep D X bs s h H) (g1 : ∀ q : Nat, q < bs → H[q]? = s.heap[q]?) (U : State) (hU : U.heap = H) (hW : s.WarmedH U.vm) : PCx D X bs E h U := by
  refine ⟨by rw [hU]; exact HR.moved hW.alike, C.2.2.2.2.2.1.moved hW.alike, fun k x hk => ?_, fun w hw hn => nword_warm hn hW (C.2.2.2.2.1 w hw), C.2.2.2.2.2.2.2.2.warm hW (fun q hq => by rw [hU]; exact g1 q hq)⟩
  obtain ⟨q1, q2⟩ := C.2.2.2.2.2.2.1 k x hk
  exact ⟨(q1.moved hW.alike).kept (by rw [hU]; exact g1 _ q2), q2⟩
theorem run_go {H : Heap} {locs : List Loc} {ls : Array Slot} {st0 rest : List Value} {a : Array Value} (hr : va_Run p l e R s m args below meth c H locs cells slots k1 n1 (F0 m pc ls st0) (rest.map (emb X bs)) (PQ D X bs r1 h1 a) (fun q => bs ≤ q))
    (HL : LH X bs ls (m_l M) L) (g1 : ∀ q : Nat, q < bs → H[q]? = s.heap[q]?) (g2 : ∀ x ∈ locs, bs ≤ x.base) (hn : pcOf (m_code M) (i + 1) = pc + 3)
    (kk : PW p l e R s m args below meth c Q D X bs M (i + 1) L (r1.toList ++ rest) h1 (cells + k1) (slots + n1)) : W p l e R s m args below meth c H locs cells slots Q (F0 m pc ls st0) := by
  intro T hT Z
  obtain ⟨v, st₀, t, T', Lc, h0, Z', hL, e1, e2, ⟨hv, hRp, hlow⟩, stp⟩ := hr T hT Z
  have hv : v = r1.map (emb X bs) := Outcome.returned.inj hv
  have hal : s.vm.Alike t.vm := by rw [← e2]; exact Z'.warmed.alike
  obtain ⟨t2, a1, b1⟩ := kk T'.heap (locs ++ Lc) ls (by rw [e1]; exact hRp.moved hal.symm) HL (fun q hq => by rw [e1, hlow q hq, h0]; exact g1 q hq) (fun z hz => by
    rcases List.mem_append.mp hz with hz | hz
    · exact g2 z hz
    · exact hL z hz) T' rfl Z'
  refine ⟨t2, stp t2 ?_, b1⟩
  rw [hn] at a1
  have hst : (r1.toList ++ rest).map (emb X bs) = v.toList ++ rest.map (emb X bs) := by
    rw [hv, List.map_append]
    cases r1 <;> rfl
  rw [hst] at a1
  exact a1
theorem pmB_s (h : pmB N = true) : plainName (m_y N).cls = true ∧ (m_y N).cls ≠ "java/lang/invoke/MethodHandle" ∧ (m_y N).cls ≠ "java/lang/invoke/VarHandle" ∧ (m_l N ≤ 21 ∧ pcOf (m_code N) 0 = 0) ∧ (m_k N = 1 → (pcls[m_c N]?).map (fun q => q.1) = some (m_y N).cls) ∧ (m_k N = 2 → (m_y N).name = "<init>" ∧ m_r N = none) := by
  unfold pmB at h
  rw [Bool.and_eq_true, Bool.and_eq_true, Bool.and_eq_true, Bool.and_eq_true] at h
  obtain ⟨h1, h2, h3, h4, h5⟩ := h
  refine ⟨h1, of_decide_eq_true h2, of_decide_eq_true h3, of_decide_eq_true h4, fun hk => ?_, fun hk => ?_⟩
  · rw [hk] at h5
    exact of_decide_eq_true h5
  · rw [hk] at h5
    have h5 : (decide (2 = 2) && (decide ((m_y N).name = "<init>") && decide (m_r N = none))) = true := h5
    rw [Bool.and_eq_true, Bool.and_eq_true] at h5
    exact ⟨of_decide_eq_true h5.2.1, of_decide_eq_true h5.2.2⟩
theorem pws_in (hN : ∀ w ∈ pmw N, w ∈ utbl) : GoodIn utbl (pws N) := by
  intro w hw
  rcases List.mem_cons.mp hw with rfl | hw
  · refine ⟨hN _ ?_, Or.inl rfl⟩
    unfold pmw
    split <;> exact List.mem_cons_self
  · exact ⟨good_u hw, good_g hw⟩
theorem stk_split {st : List Value} {y b : Nat} {r : List Value} (h : st.drop y = .ref b :: r) : st.map (emb X bs) = (((st.take y).reverse).map (emb X bs)).reverse ++ .ref (bs + b) :: r.map (emb X bs) ∧ (((st.take y).reverse).map (emb X bs)).length = y := by
  constructor
  · have h2 := List.take_append_drop y st
    rw [h] at h2
    rw [← List.map_reverse, List.reverse_reverse]
    conv => lhs; rw [← h2]
    rw [List.map_append]
    rfl
  · have hl : y < st.length := by
      have := congrArg List.length h
      rw [List.length_drop, List.length_cons] at this
      omega
    rw [List.length_map, List.length_reverse, List.length_take]
    omega
theorem stk_splitS {st : List Value} {y : Nat} (h : y ≤ st.length) : st.map (emb X bs) = (((st.take y).reverse).map (emb X bs)).reverse ++ (st.drop y).map (emb X bs) ∧ (((st.take y).reverse).map (emb X bs)).length = y := by
  constructor
  · rw [← List.map_reverse, List.reverse_reverse, ← List.map_append, List.take_append_drop]
  · rw [List.length_map, List.length_reverse, List.length_take]
    omega
theorem sum8 {r : List Value} (h : pcs r ≤ 8) : ((r.map (emb X bs)).map fun v => v.category).sum ≤ 8 := by
  rw [emb_pcs]
  exact h
theorem plk_nn {own : String} {k : Nat} {z : MethodName} {v : Value} (h : v ≠ .null) : plk own k z v = .methodLinkNest own k z "StoneSheets" := by cases v <;> first | rfl | exact absurd rfl h
theorem call_go {t : pE} {as rest : List Value} (B : SWc p s m args meth c D X bs E P M i t) (hc : pcall P t st h = some (N, as, rest)) (hN : WFm P N) (hM : Cn l E N d as h r1 h1 k1 n1) (hR : d + 1 ≤ R.frames ∧ 40 * (d + 1) ≤ R.locals ∧ cells + k1 ≤ R.cells ∧ slots + n1 ≤ R.slots)
    (kk : PW p l e R s m args below meth c Q D X bs M (i + 1) L (r1.toList ++ rest) h1 (cells + k1) (slots + n1)) : PW p l e R s m args below meth c Q D X bs M i L st h cells slots := by
  obtain ⟨pc, ins, x, y, v, ts⟩ := t
  obtain ⟨C, he, hd0, hn0, ha0, hl⟩ := B
  intro H locs ls HR HL g1 g2
  rw [show pcOf (m_code M) i = pc from pcOf_at he]
  obtain ⟨hNe, hNb, hNw⟩ := hN
  obtain ⟨b1, b2, b3, ⟨b4, b40⟩, b5, b6⟩ := pmB_s hNb
  have hroom : (prm d k1 n1).frames + 1 ≤ R.frames ∧ 8 + (m_l N + 11) + (prm d k1 n1).locals ≤ R.locals := ⟨hR.1, by show 8 + (m_l N + 11) + 40 * d ≤ R.locals; omega⟩
  have S : CallFix p m c (m_b M) (m_l M) s args utbl (m_y M).cls := ⟨C.1, C.2.1, C.2.2.1, C.2.2.2.1, C.2.2.2.2.1⟩
  have hts := C.2.2.2.2.1
  have hG : GoodIn utbl (pws N) := pws_in hNw
  have hls : ls.size = m_l M := HL.1.1
  unfold pcall at hc
  split at hc
  · -- invokestatic
    rename_i n hin
    obtain rfl : ins = .invokestatic n := hin
    split at hc
    · rename_i N' hx
      have hx : P[x]? = some N' := hx
      split at hc
      · rename_i hcond
        cases hc
        obtain ⟨c1, c2, c3⟩ := hcond
        have c2 : y ≤ st.length := c2
        have c3 : pcs (st.drop y) ≤ 8 := c3
        have hd : decode (m_b M) pc = .ok (.invokestatic n, 3) := of_decide_eq_true hd0
        have hn : pcOf (m_code M) (i + 1) = pc + 3 := of_decide_eq_true hn0
        have ha : pnn P x y = true := ha0
        unfold pnn at ha
        rw [hx] at ha
        have ha := of_decide_eq_true ha
        have hl2 : plnk P (m_y M).cls (pc, .invokestatic n, x, y, v, ts) = [plk (m_y M).cls n (m_y N) v] := by
          show (match P[x]? with
            | some N => [plk (m_y M).cls n (m_y N) v]
            | none => pnlk (m_y M).cls n x) = _
          rw [hx]
        rw [hl2] at hl
        have hlk := hl _ List.mem_cons_self
        have hk0 : pmw N = [.code (m_y N) (m_b N) (m_l N) (m_r N), .static (m_y N), .initialized (m_y N).cls] := by unfold pmw; rw [c1]; rfl
        rw [hk0] at hNw
        have w2 := hNw _ (List.mem_cons_of_mem _ List.mem_cons_self)
        have w3 := hNw _ (List.mem_cons_of_mem _ (List.mem_cons_of_mem _ List.mem_cons_self))
        obtain ⟨sp1, sp2⟩ := stk_splitS (X := X) (bs := bs) c2
        have hp : PreS s H (va_Pc ((((st.take y).reverse)).map (emb X bs)) (PCx D X bs E h)) (((st.take y).reverse).map (emb X bs)) := ⟨fr_blind _ D X bs E h, fun U hU hW => ⟨rfl, cx_at C HR g1 U hU hW⟩⟩
        by_cases hv : v = .null
        · subst hv
          have cw := va_cwS (R := R) (s := s) (args := args) (own := (m_y M).cls) (index := n) (rm := prm d k1 n1) (mc := k1) (ms := n1) y hts (ws := pws N) (fun w hw => by
            rcases List.mem_append.mp hw with hw | hw
            · rcases List.mem_cons.mp hw with rfl | hw
              · exact ⟨hlk, Or.inl rfl⟩
              · rcases List.mem_cons.mp hw with rfl | hw
                · exact ⟨w2, Or.inl rfl⟩
                · rw [List.mem_singleton.mp hw]; exact ⟨w3, Or.inl rfl⟩
            · exact hG w hw) rfl rfl rfl ⟨b2, b3, ha⟩ hroom
          exact run_go (va_runS S (hM D X bs) cw hp rfl sp2 hls sp1 (lv_room (sum8 c3)) hd ⟨hR.2.2.1, hR.2.2.2⟩) HL g1 g2 hn kk
        · rw [plk_nn hv] at hlk
          have cw := va_cnB (R := R) (s := s) (args := args) (own := (m_y M).cls) (host := "StoneSheets") (index := n) (rm := prm d k1 n1) (mc := k1) (ms := n1) y hts (ws := pws N) hG rfl rfl rfl (va_Nw.of rfl (hts _ hlk)) (hts _ w3) ⟨b2, b3, ha⟩ hroom
          exact run_go (va_runSN S (hM D X bs) ⟨cw, hts _ w2, trivial⟩ hp rfl sp2 hls sp1 (lv_room (sum8 c3)) hd ⟨hR.2.2.1, hR.2.2.2⟩) HL g1 g2 hn kk
      · cases hc
    · cases hc
  · -- invokevirtual
    rename_i n hin
    obtain rfl : ins = .invokevirtual n := hin
    split at hc
    · rename_i N' hx
      have hx : P[x]? = some N' := hx
      split at hc
      · rename_i b r hdr
        have hdr : st.drop y = .ref b :: r := hdr
        split at hc
        · rename_i o ho
          split at hc
          · rename_i hcond
            cases hc
            obtain ⟨c1, c2, c3⟩ := hcond
            have hd : decode (m_b M) pc = .ok (.invokevirtual n, 3) := of_decide_eq_true hd0
            have hn : pcOf (m_code M) (i + 1) = pc + 3 := of_decide_eq_true hn0
            have ha : pnn P x y = true := ha0
            unfold pnn at ha
            rw [hx] at ha
            have ha := of_decide_eq_true ha
            have hl2 : plnk P (m_y M).cls (pc, .invokevirtual n, x, y, v, ts) = [.methodLink (m_y M).cls n (m_y N)] := by
              show (match P[x]? with
                | some N => [Cond.methodLink (m_y M).cls n (m_y N)]
                | none => []) = _
              rw [hx]
            rw [hl2] at hl
            have hlk := hl _ List.mem_cons_self
            have hk0 : pmw N = [.code (m_y N) (m_b N) (m_l N) (m_r N), .instanceMethod (m_y N), .selects (m_y N).cls (m_y N) (m_y N), .initialized (m_y N).cls] := by unfold pmw; rw [c1]; rfl
            rw [hk0] at hNw
            have w2 := hNw _ (List.mem_cons_of_mem _ List.mem_cons_self)
            have w3 := hNw _ (List.mem_cons_of_mem _ (List.mem_cons_of_mem _ List.mem_cons_self))
            have w4 := hNw _ (List.mem_cons_of_mem _ (List.mem_cons_of_mem _ (List.mem_cons_of_mem _ List.mem_cons_self)))
            obtain ⟨sp1, sp2⟩ := stk_split (X := X) (bs := bs) hdr
            have hrecv : ∃ cellB : Cell, H[bs + b]? = some cellB ∧ cellB.vm.isStatics = false ∧ s.vm.findClass (m_y N).cls = some cellB.cls := by
              obtain ⟨r0, hr0, hlen, cell, q1, q2, q3, -⟩ := HR.2 b _ (pobj_at ho)
              have b5 := b5 c1
              rw [← c2, hr0] at b5
              have b5 : r0.1 = (m_y N).cls := Option.some.inj b5
              refine ⟨cell, q1, by rw [q3]; rfl, ?_⟩
              rw [← b5, q2]
              exact (C.2.2.2.2.2.1.1 _ r0 hr0).2.1
            have hp : PreV s H (m_y N).cls (bs + b) (va_Pc ((Value.ref b :: (st.take y).reverse).map (emb X bs)) (PCx D X bs E h)) (((st.take y).reverse).map (emb X bs)) := ⟨fr_blind _ D X bs E h, hrecv, fun U hU hW => ⟨rfl, cx_at C HR g1 U hU hW⟩⟩
            have cw := cwV (R := R) (s := s) (args := args) (own := (m_y M).cls) (C := (m_y N).cls) (index := n) (rm := prm d k1 n1) (mc := k1) (ms := n1) y hts (ws := pws N) (fun w hw => by
              rcases List.mem_append.mp hw with hw | hw
              · rcases List.mem_cons.mp hw with rfl | hw
                · exact ⟨hlk, Or.inl rfl⟩
                · rcases List.mem_cons.mp hw with rfl | hw
                  · exact ⟨w2, Or.inl rfl⟩
                  · rcases List.mem_cons.mp hw with rfl | hw
                    · exact ⟨w3, Or.inl rfl⟩
                    · rw [List.mem_singleton.mp hw]; exact ⟨w4, Or.inl rfl⟩
              · exact hG w hw) rfl rfl rfl ⟨rfl, b2, b3, ha⟩ hroom
            exact run_go (va_runV S (hM D X bs) cw hp rfl sp2 hls sp1 (lv_room (sum8 c3)) hd ⟨hR.2.2.1, hR.2.2.2⟩) HL g1 g2 hn kk
          · cases hc
        · cases hc
      · cases hc
    · cases hc
  · -- invokespecial
    rename_i n hin
    obtain rfl : ins = .invokespecial n := hin
    split at hc
    · rename_i N' hx
      have hx : P[x]? = some N' := hx
      split at hc
      · rename_i b r hdr
        have hdr : st.drop y = .ref b :: r := hdr
        split at hc
        · rename_i hcond
          cases hc
          obtain ⟨c1, c3⟩ := hcond
          have hd : decode (m_b M) pc = .ok (.invokespecial n, 3) := of_decide_eq_true hd0
          have hn : pcOf (m_code M) (i + 1) = pc + 3 := of_decide_eq_true hn0
          have ha : pnn P x y = true := ha0
          unfold pnn at ha
          rw [hx] at ha
          have ha := of_decide_eq_true ha
          have hl2 : plnk P (m_y M).cls (pc, .invokespecial n, x, y, v, ts) = [plk (m_y M).cls n (m_y N) v] := by
            show (match P[x]? with
              | some N => [plk (m_y M).cls n (m_y N) v]
              | none => [Cond.methodLink (m_y M).cls n Lib.objectInit, .instanceMethod Lib.objectInit, .code Lib.objectInit ⟨#[0xb1]⟩ 1 none]) = _
            rw [hx]
          rw [hl2] at hl
          have hlk := hl _ List.mem_cons_self
          have hk0 : pmw N = [.code (m_y N) (m_b N) (m_l N) (m_r N), .instanceMethod (m_y N), .initialized (m_y N).cls] := by unfold pmw; rw [c1]; rfl
          rw [hk0] at hNw
          have w2 := hNw _ (List.mem_cons_of_mem _ List.mem_cons_self)
          have w3 := hNw _ (List.mem_cons_of_mem _ (List.mem_cons_of_mem _ List.mem_cons_self))
          obtain ⟨hinit, hret⟩ := b6 c1
          obtain ⟨sp1, sp2⟩ := stk_split (X := X) (bs := bs) hdr
          have hp : PreS s H (va_Pc ((Value.ref b :: (st.take y).reverse).map (emb X bs)) (PCx D X bs E h)) (.ref (bs + b) :: ((st.take y).reverse).map (emb X bs)) := ⟨fr_blind _ D X bs E h, fun U hU hW => ⟨rfl, cx_at C HR g1 U hU hW⟩⟩
          have hw : pws N = .code (m_y N) (m_b N) (m_l N) none :: gtbl := by unfold pws; rw [hret]
          by_cases hv : v = .null
          · subst hv
            have cw := cwI (R := R) (s := s) (args := args) (own := (m_y M).cls) (index := n) (rm := prm d k1 n1) (mc := k1) (ms := n1) y hts (ws := pws N) hG hw rfl rfl (hts _ w3) (hts _ hlk) (hts _ w2) hinit ⟨b2, b3, ha⟩ hroom
            exact run_go (va_runI S (hM D X bs) cw hp rfl sp2 hls sp1 (lv_room (sum8 c3)) hd ⟨hR.2.2.1, hR.2.2.2⟩) HL g1 g2 hn kk
          · rw [plk_nn hv] at hlk
            have cw := va_cnB (R := R) (s := s) (args := args) (own := (m_y M).cls) (host := "StoneSheets") (index := n) (rm := prm d k1 n1) (mc := k1) (ms := n1) y hts (ws := pws N) hG hw rfl rfl (va_Nw.of rfl (hts _ hlk)) (hts _ w3) ⟨b2, b3, ha⟩ hroom
            exact run_go (va_runIN S (hM D X bs) ⟨cw, hinit, hts _ w2⟩ hp rfl sp2 hls sp1 (lv_room (sum8 c3)) hd ⟨hR.2.2.1, hR.2.2.2⟩) HL g1 g2 hn kk
        · cases hc
      · cases hc
    · cases hc
  · cases hc
end PWE
theorem pcall_in {P : List pM} {t : pE} {st : List Value} {h : List pC} {N : pM} {as rest : List Value} (hc : pcall P t st h = some (N, as, rest)) : N ∈ P := by
  unfold pcall at hc
  split at hc
  · split at hc
    · rename_i hx
      split at hc
      · cases hc
        exact List.mem_of_getElem? hx
      · cases hc
    · cases hc
  · split at hc
    · rename_i hx
      split at hc
      · split at hc
        · split at hc
          · cases hc
            exact List.mem_of_getElem? hx
          · cases hc
        · cases hc
      · cases hc
    · cases hc
  · split at hc
    · rename_i hx
      split at hc
      · split at hc
        · cases hc
          exact List.mem_of_getElem? hx
        · cases hc
      · cases hc
    · cases hc
  · cases hc
theorem ret_ok {p : Program} {l : Launch} {e : Env} {R : Room} {s : State} {m : MethodId} {args : Array Value} {below : List Frame} {meth : Method} {c : Code} {D : va_G} {X : Nat → Nat} {bs : Nat} {E : pX} {M : pM} (C : Cx p s m args meth c D X bs E M) (hr : meth.sig.returnType = m_r M) (hlocks : meth.locks = false) {i : Nat} {L : pL} {st : List Value} {h : List pC} {t : pE} {r : Option Value} {cells slots : Nat}
    (he : (m_code M)[i]? = some t) (hd : pwdec (m_b M) t = true) (hp : pret M t st = some r) : PW p l e R s m args below meth c (MQ below (PQ D X bs r h) args s cells slots (fun q => bs ≤ q)) D X bs M i L st h cells slots := by
  obtain ⟨pc, ins, x, y, v, ts⟩ := t
  intro H locs ls HR HL g1 g2
  rw [show pcOf (m_code M) i = pc from pcOf_at he]
  have q0 : ∀ (w : Option Value) (t : State), t.heap = H → s.WarmedH t.vm → PQ D X bs w h args s (.returned (w.map (emb X bs))) t := fun w t ht hW => ⟨rfl, by rw [ht]; exact HR.moved hW.alike, fun q hq => by rw [ht]; exact g1 q hq⟩
  unfold pret at hp
  split at hp
  · rename_i hin
    obtain rfl : ins = .return_ := hin
    have hd : decode (m_b M) pc = .ok (.return_, 1) := of_decide_eq_true hd
    split at hp
    · rename_i hm
      cases hp
      exact W.vret C.1 C.2.1 (hr.trans hm) (q0 none) g2 hd hlocks
    · cases hp
  · rename_i z hin
    obtain rfl : ins = .ireturn := hin
    have hd : decode (m_b M) pc = .ok (.ireturn, 1) := of_decide_eq_true hd
    split at hp
    · rename_i hm
      cases hp
      exact W.iret C.1 C.2.1 (hr.trans hm) (q0 (some (.int z))) g2 hd hlocks
    · rename_i hm
      split at hp
      · rename_i hz
        cases hp
        exact W.zret (ty := .boolean) C.1 C.2.1 (hr.trans hm) (by rcases hz with rfl | rfl <;> rfl) (q0 (some (.int z))) g2 hd hlocks
      · cases hp
    · cases hp
  · rename_i hin
    obtain rfl : ins = .areturn := hin
    have hd : decode (m_b M) pc = .ok (.areturn, 1) := of_decide_eq_true hd
    split at hp
    · rename_i cn hm
      cases hp
      exact W.aret C.1 C.2.1 (hr.trans hm) (Or.inl ⟨cn, rfl⟩) (Or.inl rfl) (q0 (some .null)) g2 hd hlocks
    · cases hp
  · rename_i a hin
    obtain rfl : ins = .areturn := hin
    have hd : decode (m_b M) pc = .ok (.areturn, 1) := of_decide_eq_true hd
    split at hp
    · rename_i cn hm
      cases hp
      exact W.aret C.1 C.2.1 (hr.trans hm) (Or.inl ⟨cn, rfl⟩) (Or.inr ⟨bs + a, rfl⟩) (q0 (some (.ref a))) g2 hd hlocks
    · cases hp
  · cases hp
theorem wfe_at {P : List pM} {M : pM} (hW : WFe P M) {i : Nat} {t : pE} (he : (m_code M)[i]? = some t) : pwdec (m_b M) t = true ∧ pwnext (m_code M) i t = true ∧ pwarg P M t = true ∧ ∀ w ∈ plnk P (m_y M).cls t, w ∈ utbl := by
  have h := pwAll_at (m_code M) 0 i t hW.1 he
  rw [Nat.zero_add, Bool.and_eq_true, Bool.and_eq_true] at h
  exact ⟨h.1, h.2.1, h.2.2, fun w hw => hW.2 w (List.mem_flatMap.mpr ⟨t, List.mem_of_getElem? he, hw⟩)⟩
/-- what a run of the pure machine with fuel f says of the machine -/
def Snd (l : Launch) (P : List pM) (E : pX) (V : pV) (f : Nat) : Prop :=
  ∀ (d : Nat) (M : pM) (i : Nat) (L : pL) (st : List Value) (h : List pC) (r : Option Value) (h' : List pC) (k n : Nat), pexec P E V f d M i L st h = some (r, h', k, n) → WFe P M →
    ∀ (p : Program) (e : Env) (R : Room) (s : State) (m : MethodId) (args : Array Value) (below : List Frame) (meth : Method) (c : Code) (Q : State → Prop) (D : va_G) (X : Nat → Nat) (bs : Nat), Cx p s m args meth c D X bs E M → d ≤ R.frames → 40 * d ≤ R.locals →
    ∀ mc ms cells slots : Nat, cells + k = mc → slots + n = ms → mc ≤ R.cells → ms ≤ R.slots →
    (∀ (i : Nat) (L : pL) (st : List Value) (t : pE), (m_code M)[i]? = some t → pret M t st = some r → PW p l e R s m args below meth c Q D X bs M i L st h' mc ms) → PW p l e R s m args below meth c Q D X bs M i L st h cells slots
theorem cn_of {l : Launch} {P : List pM} {E : pX} {V : pV} {f : Nat} (hS : Snd l P E V f) {d : Nat} {M : pM} {as : List Value} {h h' : List pC} {r : Option Value} {k n : Nat} (hM : WFm P M) (hlen : (pexp as).length ≤ m_l M) (hx : pexec P E V f d M 0 (pent (m_l M) as) [] h = some (r, h', k, n)) : Cn l E M d as h r h' k n := by
  intro D X bs
  obtain ⟨hMe, hMb, hMw⟩ := hM
  obtain ⟨b1, b2, b3, ⟨b4, b40⟩, b5, b6⟩ := pmB_s hMb
  refine Met.ofW (cc := m_b M) (maxL := m_l M) (ret := m_r M) b1 rfl ?_
  intro p e s m args below meth c s₁ B hml hv
  obtain ⟨rfl, hR, hK, hE, hN, hG⟩ := hv
  have hts : ∀ w ∈ pws M, w.before ((as.map (emb X bs)).toArray) s = true := atoms_spec (ws := pws M) B.pre
  have C : Cx p s m ((as.map (emb X bs)).toArray) meth c D X bs E M := ⟨B.exec, B.bytes, hml, findClass_of_methodNamed B.named, fun w hw => (by
    obtain ⟨hw1, hw2⟩ := List.mem_filter.mp hw
    by_cases hg : goodWord w = true
    · exact hts w (List.mem_cons_of_mem _ (List.mem_filter.mpr ⟨hw1, hg⟩))
    · have hn : nword w = true := by
        unfold uword at hw2
        rw [show goodWord w = false by simpa using hg, Bool.false_or] at hw2
        exact hw2
      exact nword_same hn rfl (hN w hw hn)), hK, hE, fun hk => (name_of_methodNamed B.named B.method).1.trans (b6 hk).1, hG⟩
  have hH := LH.entry X bs (m_l M) as hlen
  rw [lg_entry_eq]
  have key := hS d M 0 (pent (m_l M) as) [] h r h' k n hx hMe p e (headSpec (pws M) (prm d k n)).room s m ((as.map (emb X bs)).toArray) below meth c (MQ below (PQ D X bs r h') ((as.map (emb X bs)).toArray) s k n (fun q => bs ≤ q)) D X bs C (Nat.le_refl _) (Nat.le_refl _) k n 0 0 (Nat.zero_add _) (Nat.zero_add _) (Nat.le_refl _) (Nat.le_refl _)
    (fun i L st t he hp => ret_ok C B.returns B.notSynchronized he (wfe_at hMe he).1 hp) s.heap [] _ hR hH (fun _ _ => rfl) (fun x hx => by cases hx)
  rw [b40] at key
  exact key
theorem snd {l : Launch} {P : List pM} {E : pX} {V : pV} (hP : ∀ M ∈ P, WFm P M) (hPl : P.length ≤ 90000) (hV : ∀ M ∈ P, m_code M = [] → ∀ (as : List Value) (h : List pC) (r : Option Value), V M as h = some r → (∃ (t : pE) (st rest : List Value), pcall P t st h = some (M, as, rest)) → ∀ d : Nat, 6 ≤ d → Cn l E M d as h r h 0 0) : ∀ f : Nat, Snd l P E V f := by
  intro f
  induction f with
  | zero =>
    intro d M i L st h r h' k n hx
    cases hx
  | succ f ih =>
    intro d M i L st h r h' k n hx hMe p e R s m args below meth c Q D X bs C hR1 hR2 mc ms cells slots hcm hsm hcR hsR hret
    cases d with
    | zero => cases hx
    | succ d =>
      unfold pexec at hx
      split at hx
      · cases hx
      · rename_i t he
        obtain ⟨wd, wn, wa, wl⟩ := wfe_at hMe he
        have B : SWc p s m args meth c D X bs E P M i t := ⟨C, he, wd, wn, wa, wl⟩
        split at hx
        · rename_i rr hpr
          cases hx
          rw [← hcm, ← hsm] at hret
          exact hret i L st t he hpr
        · split at hx
          · rename_i N as rest hpc
            have hN := hP N (pcall_in hpc)
            split at hx
            · rename_i hcode
              split at hx
              · rename_i h6
                split at hx
                · rename_i r1 hv
                  have hM := hV N (pcall_in hpc) hcode as h r1 hv ⟨_, _, _, hpc⟩ d h6
                  refine call_go B hpc hN hM ⟨by omega, by omega, by omega, by omega⟩ ?_
                  exact ih (d + 1) M (i + 1) L (r1.toList ++ rest) h r h' k n hx hMe p e R s m args below meth c Q D X bs C hR1 hR2 mc ms _ _ (by omega) (by omega) hcR hsR hret
                · cases hx
              · cases hx
            · split at hx
              · rename_i hlen
                split at hx
                · rename_i r1 h1 k1 n1 hx1
                  split at hx
                  · rename_i r2 h2 k2 n2 hx2
                    cases hx
                    have hM := cn_of ih hN hlen hx1
                    refine call_go B hpc hN hM ⟨by omega, by omega, by omega, by omega⟩ ?_
                    exact ih (d + 1) M (i + 1) L (r1.toList ++ rest) h1 r h' k2 n2 hx2 hMe p e R s m args below meth c Q D X bs C hR1 hR2 mc ms _ _ (by omega) (by omega) hcR hsR hret
                  · cases hx
                · cases hx
              · cases hx
          · split at hx
            · rename_i i1 L1 st1 h1 dk dn hst
              split at hx
              · rename_i r2 h2 k2 n2 hx2
                cases hx
                refine sw_all B (by omega) (by omega) hPl hst (by show cells + dk ≤ R.cells; omega) (by show slots + dn ≤ R.slots; omega) ?_
                exact ih (d + 1) M i1 L1 st1 h1 r h' k2 n2 hx2 hMe p e R s m args below meth c Q D X bs C hR1 hR2 mc ms _ _ (by show cells + dk + k2 = mc; omega) (by show slots + dn + n2 = ms; omega) hcR hsR hret
              · cases hx
            · cases hx
end
section
/-! ===== runs of the pure machine, fuel left out ===== -/
section RAS
variable {P : List pM} {E : pX} {V : pV}
theorem pexec_up (f : Nat) : ∀ (d : Nat) (M : pM) (i : Nat) (L : pL) (st : List Value) (h : List pC) (res : pR), pexec P E V f d M i L st h = some res → pexec P E V (f + 1) d M i L st h = some res := by
  induction f with
  | zero =>
    intro d M i L st h res hx
    cases hx
  | succ f ih =>
    intro d M i L st h res hx
    cases d with
    | zero => cases hx
    | succ d =>
      rw [pexec] at hx ⊢
      cases he : (m_code M)[i]? with
      | none => rw [he] at hx; cases hx
      | some t =>
        rw [he] at hx
        dsimp only at hx ⊢
        cases hpr : pret M t st with
        | some rr => rw [hpr] at hx; exact hx
        | none =>
          rw [hpr] at hx
          dsimp only at hx ⊢
          cases hpc : pcall P t st h with
          | some w =>
            obtain ⟨N, as, rest⟩ := w
            rw [hpc] at hx
            dsimp only at hx ⊢
            cases hcode : m_code N with
            | nil =>
              rw [hcode] at hx
              dsimp only at hx ⊢
              split at hx
              · rename_i h6
                rw [if_pos h6]
                cases hv : V N as h with
                | none => rw [hv] at hx; cases hx
                | some r1 =>
                  rw [hv] at hx
                  exact ih _ _ _ _ _ _ _ hx
              · cases hx
            | cons u us =>
              rw [hcode] at hx
              dsimp only at hx ⊢
              split at hx
              · rename_i h6
                rw [if_pos h6]
                cases h1 : pexec P E V f d N 0 (pent (m_l N) as) [] h with
                | none => rw [h1] at hx; cases hx
                | some w =>
                  rw [ih _ _ _ _ _ _ _ h1]
                  rw [h1] at hx
                  obtain ⟨r1, g1, k1, n1⟩ := w
                  dsimp only at hx ⊢
                  cases h2 : pexec P E V f (d + 1) M (i + 1) L (r1.toList ++ rest) g1 with
                  | none => rw [h2] at hx; cases hx
                  | some w =>
                    rw [ih _ _ _ _ _ _ _ h2]
                    rw [h2] at hx
                    exact hx
              · cases hx
          | none =>
            rw [hpc] at hx
            dsimp only at hx ⊢
            cases hps : pstep E t i L st h with
            | none => rw [hps] at hx; cases hx
            | some w =>
              obtain ⟨i1, L1, st1, g1, dk, dn⟩ := w
              rw [hps] at hx
              dsimp only at hx ⊢
              cases h2 : pexec P E V f (d + 1) M i1 L1 st1 g1 with
              | none => rw [h2] at hx; cases hx
              | some w =>
                rw [ih _ _ _ _ _ _ _ h2]
                rw [h2] at hx
                exact hx
theorem pexec_le {f g : Nat} (hfg : f ≤ g) {d : Nat} {M : pM} {i : Nat} {L : pL} {st : List Value} {h : List pC} {res : pR} (hx : pexec P E V f d M i L st h = some res) : pexec P E V g d M i L st h = some res := by
  induction hfg with
  | refl => exact hx
  | step _ ih => exact pexec_up _ _ _ _ _ _ _ _ ih
def RA (P : List pM) (E : pX) (V : pV) (d : Nat) (M : pM) (i : Nat) (L : pL) (st : List Value) (h : List pC) (res : pR) : Prop := ∃ f, pexec P E V f d M i L st h = some res
def Run (P : List pM) (E : pX) (V : pV) (d : Nat) (N : pM) (as : List Value) (h : List pC) (res : pR) : Prop := (pexp as).length ≤ m_l N ∧ (∃ u us, m_code N = u :: us) ∧ RA P E V d N 0 (pent (m_l N) as) [] h res
variable {d : Nat} {M N : pM} {i i' : Nat} {L L' : pL} {st st' : List Value} {h h' h1 h2 : List pC} {t : pE} {r r1 r2 : Option Value} {k1 n1 k2 n2 : Nat} {res : pR}
theorem RA.ret (he : (m_code M)[i]? = some t) (hr : pret M t st = some r) : RA P E V (d + 1) M i L st h (r, h, 0, 0) := ⟨1, by rw [pexec, he]; dsimp only; rw [hr]⟩
theorem RA.step {dk dn : Nat} (he : (m_code M)[i]? = some t) (hr : pret M t st = none) (hc : pcall P t st h = none) (hs : pstep E t i L st h = some (i', L', st', h', dk, dn)) (k : RA P E V (d + 1) M i' L' st' h' (r, h2, k2, n2)) : RA P E V (d + 1) M i L st h (r, h2, dk + k2, dn + n2) := by
  obtain ⟨f, hf⟩ := k
  refine ⟨f + 1, ?_⟩
  rw [pexec, he]
  dsimp only
  rw [hr]
  dsimp only
  rw [hc]
  dsimp only
  rw [hs]
  dsimp only
  rw [hf]
theorem RA.step0 (he : (m_code M)[i]? = some t) (hr : pret M t st = none) (hc : pcall P t st h = none) (hs : pstep E t i L st h = some (i', L', st', h', 0, 0)) (k : RA P E V (d + 1) M i' L' st' h' res) : RA P E V (d + 1) M i L st h res := by
  obtain ⟨r, h2, k2, n2⟩ := res
  have q := RA.step he hr hc hs k
  rw [Nat.zero_add, Nat.zero_add] at q
  exact q
theorem RA.call {as rest : List Value} (he : (m_code M)[i]? = some t) (hr : pret M t st = none) (hc : pcall P t st h = some (N, as, rest)) (h0 : Run P E V d N as h (r1, h1, k1, n1)) (k : RA P E V (d + 1) M (i + 1) L (r1.toList ++ rest) h1 (r2, h2, k2, n2)) : RA P E V (d + 1) M i L st h (r2, h2, k1 + k2, n1 + n2) := by
  obtain ⟨hlen, ⟨u, us, hcode⟩, f, hf⟩ := h0
  obtain ⟨g, hg⟩ := k
  refine ⟨f + g + 1, ?_⟩
  rw [pexec, he]
  dsimp only
  rw [hr]
  dsimp only
  rw [hc]
  dsimp only
  rw [hcode]
  dsimp only
  rw [if_pos hlen, pexec_le (Nat.le_add_right f g) hf]
  dsimp only
  rw [pexec_le (Nat.le_add_left g f) hg]
theorem RA.call0 {as rest : List Value} (he : (m_code M)[i]? = some t) (hr : pret M t st = none) (hc : pcall P t st h = some (N, as, rest)) (h0 : Run P E V d N as h (r1, h1, 0, 0)) (k : RA P E V (d + 1) M (i + 1) L (r1.toList ++ rest) h1 res) : RA P E V (d + 1) M i L st h res := by
  obtain ⟨r, h2, k2, n2⟩ := res
  have q := RA.call he hr hc h0 k
  rw [Nat.zero_add, Nat.zero_add] at q
  exact q
theorem RA.prim {as rest : List Value} (he : (m_code M)[i]? = some t) (hr : pret M t st = none) (hc : pcall P t st h = some (N, as, rest)) (hcode : m_code N = []) (h6 : 6 ≤ d) (hv : V N as h = some r1) (k : RA P E V (d + 1) M (i + 1) L (r1.toList ++ rest) h res) : RA P E V (d + 1) M i L st h res := by
  obtain ⟨g, hg⟩ := k
  refine ⟨g + 1, ?_⟩
  rw [pexec, he]
  dsimp only
  rw [hr]
  dsimp only
  rw [hc]
  dsimp only
  rw [hcode]
  dsimp only
  rw [if_pos h6, hv]
  exact hg
def psteps (P : List pM) (E : pX) (M : pM) : Nat → Nat → pL → List Value → List pC → Option (Nat × pL × List Value × List pC)
  | 0, i, L, st, h => some (i, L, st, h)
  | n + 1, i, L, st, h => match (m_code M)[i]? with
    | some t => match pret M t st, pcall P t st h, pstep E t i L st h with
      | none, none, some (i', L', st', h', 0, 0) => psteps P E M n i' L' st' h'
      | _, _, _ => none
    | none => none
theorem RA.steps : ∀ (n : Nat) {i : Nat} {L : pL} {st : List Value} {h : List pC}, psteps P E M n i L st h = some (i', L', st', h') → RA P E V (d + 1) M i' L' st' h' res → RA P E V (d + 1) M i L st h res
  | 0, i, L, st, h, hs, k => by cases hs; exact k
  | n + 1, i, L, st, h, hs, k => by
    rw [psteps] at hs
    split at hs
    · rename_i t he
      split at hs
      · rename_i hr hc hps
        exact RA.step0 he hr hc hps (RA.steps n hs k)
      · cases hs
    · cases hs
theorem RA.if1 {k0 : ClassFile.Cond} {z : Int} {a : Int32} {pc x y : Nat} {v : Value} {ts : List Nat} {rest : List Value} (he : (m_code M)[i]? = some (pc, .ifCond k0 z, x, y, v, ts)) (kt : pc1 k0 a = true → RA P E V (d + 1) M x L rest h res) (kf : pc1 k0 a = false → RA P E V (d + 1) M (i + 1) L rest h res) : RA P E V (d + 1) M i L (.int a :: rest) h res := by
  cases hb : pc1 k0 a with
  | true => exact RA.step0 he rfl rfl (by show some (cond (pc1 k0 a) x (i + 1), L, rest, h, 0, 0) = _; rw [hb]; rfl) (kt hb)
  | false => exact RA.step0 he rfl rfl (by show some (cond (pc1 k0 a) x (i + 1), L, rest, h, 0, 0) = _; rw [hb]; rfl) (kf hb)
theorem RA.if2 {k0 : ClassFile.Cond} {z : Int} {a b : Int32} {pc x y : Nat} {v : Value} {ts : List Nat} {rest : List Value} (he : (m_code M)[i]? = some (pc, .if_icmp k0 z, x, y, v, ts)) (kt : pc2 k0 a b = true → RA P E V (d + 1) M x L rest h res) (kf : pc2 k0 a b = false → RA P E V (d + 1) M (i + 1) L rest h res) : RA P E V (d + 1) M i L (.int b :: .int a :: rest) h res := by
  cases hb : pc2 k0 a b with
  | true => exact RA.step0 he rfl rfl (by show some (cond (pc2 k0 a b) x (i + 1), L, rest, h, 0, 0) = _; rw [hb]; rfl) (kt hb)
  | false => exact RA.step0 he rfl rfl (by show some (cond (pc2 k0 a b) x (i + 1), L, rest, h, 0, 0) = _; rw [hb]; rfl) (kf hb)
theorem RA.to {res' : pR} (k : RA P E V d M i L st h res) (hq : res = res') : RA P E V d M i L st h res' := hq ▸ k
end RAS
end
section
/-! ===== objects stay objects of their class ===== -/
def Shp (h h' : List pC) : Prop := ∀ (a : Nat) (o : Nat × List Value), pobj h a = some o → ∃ o', pobj h' a = some o' ∧ o'.1 = o.1
theorem Shp.rf (h : List pC) : Shp h h := fun a o ho => ⟨o, ho, rfl⟩
theorem Shp.tr {h1 h2 h3 : List pC} (h12 : Shp h1 h2) (h23 : Shp h2 h3) : Shp h1 h3 := fun a o ho => by
  obtain ⟨o2, q2, e2⟩ := h12 a o ho
  obtain ⟨o3, q3, e3⟩ := h23 a o2 q2
  exact ⟨o3, q3, e3.trans e2⟩
theorem Shp.set {h : List pC} {k : Nat} {c c' : pC} (hk : h[k]? = some c) (hc : ∀ o, c = .inr (.inr o) → ∃ o', c' = .inr (.inr o') ∧ o'.1 = o.1) : Shp h (h.set k c') := by
  intro a o ho
  by_cases e : k = a
  · subst e
    have h1 := pobj_at ho
    rw [hk] at h1
    obtain ⟨o', q1, q2⟩ := hc o (Option.some.inj h1)
    refine ⟨o', ?_, q2⟩
    unfold pobj
    rw [List.getElem?_set_self (List.getElem?_eq_some_iff.mp hk).1, q1]
  · refine ⟨o, ?_, rfl⟩
    unfold pobj at ho ⊢
    rw [List.getElem?_set_ne e]
    exact ho
theorem Shp.push (h : List pC) (c : pC) : Shp h (h ++ [c]) := by
  intro a o ho
  refine ⟨o, ?_, rfl⟩
  have h1 := pobj_at ho
  unfold pobj
  rw [List.getElem?_append_left (List.getElem?_eq_some_iff.mp h1).1, h1]
section SHP
variable {E : pX} {P : List pM} {V : pV} {t : pE} {i : Nat} {L : pL} {st : List Value} {h : List pC} {σ : pS}
theorem pstep_shp (hs : pstep E t i L st h = some σ) : Shp h σ.2.2.2.1 := by
  obtain ⟨pc, ins, x, y, v, ts⟩ := t
  cases ins
  case iconst n =>
    obtain rfl := pnx_inv hs
    exact Shp.rf _
  case bipush n =>
    obtain rfl := pnx_inv hs
    exact Shp.rf _
  case sipush n =>
    obtain rfl := pnx_inv hs
    exact Shp.rf _
  case lconst n =>
    obtain rfl := pnx_inv hs
    exact Shp.rf _
  case ldc n =>
    obtain rfl := pnx_inv hs
    exact Shp.rf _
  case ldc_w n =>
    obtain rfl := pnx_inv hs
    exact Shp.rf _
  case ldc2_w n =>
    obtain rfl := pnx_inv hs
    exact Shp.rf _
  case aconst_null =>
    obtain rfl := pnx_inv hs
    exact Shp.rf _
  case iload n =>
    obtain ⟨a, hv, rfl⟩ := pldi_inv (t := (pc, .iload n, x, y, v, ts)) hs
    exact Shp.rf _
  case iload_n n =>
    obtain ⟨a, hv, rfl⟩ := pldi_inv (t := (pc, .iload_n n, x, y, v, ts)) hs
    exact Shp.rf _
  case lload n =>
    obtain ⟨a, hv, rfl⟩ := pldl_inv (t := (pc, .lload n, x, y, v, ts)) hs
    exact Shp.rf _
  case lload_n n =>
    obtain ⟨a, hv, rfl⟩ := pldl_inv (t := (pc, .lload_n n, x, y, v, ts)) hs
    exact Shp.rf _
  case aload n =>
    rcases plda_inv (t := (pc, .aload n, x, y, v, ts)) hs with ⟨a, hv, rfl⟩ | ⟨hv, rfl⟩ | ⟨a, hv, rfl⟩
    · exact Shp.rf _
    · exact Shp.rf _
    · exact Shp.rf _
  case aload_n n =>
    rcases plda_inv (t := (pc, .aload_n n, x, y, v, ts)) hs with ⟨a, hv, rfl⟩ | ⟨hv, rfl⟩ | ⟨a, hv, rfl⟩
    · exact Shp.rf _
    · exact Shp.rf _
    · exact Shp.rf _
  case istore n =>
    obtain ⟨a, r, L1, rfl, hp, rfl⟩ := psti_inv (t := (pc, .istore n, x, y, v, ts)) hs
    exact Shp.rf _
  case istore_n n =>
    obtain ⟨a, r, L1, rfl, hp, rfl⟩ := psti_inv (t := (pc, .istore_n n, x, y, v, ts)) hs
    exact Shp.rf _
  case astore n =>
    rcases psta_inv (t := (pc, .astore n, x, y, v, ts)) hs with ⟨a, r, L1, rfl, hp, rfl⟩ | ⟨r, L1, rfl, hp, rfl⟩
    · exact Shp.rf _
    · exact Shp.rf _
  case astore_n n =>
    rcases psta_inv (t := (pc, .astore_n n, x, y, v, ts)) hs with ⟨a, r, L1, rfl, hp, rfl⟩ | ⟨r, L1, rfl, hp, rfl⟩
    · exact Shp.rf _
    · exact Shp.rf _
  case iinc n z =>
    have hs : pinc z (pc, .iinc n z, x, y, v, ts) i L st h = some σ := hs
    unfold pinc at hs
    split at hs
    · rename_i hv
      obtain ⟨L1, hp, rfl⟩ := psto_inv hs
      exact Shp.rf _
    · cases hs
  case iadd =>
    obtain ⟨a, b, r, rfl, rfl⟩ := pbin_inv hs
    exact Shp.rf _
  case isub =>
    obtain ⟨a, b, r, rfl, rfl⟩ := pbin_inv hs
    exact Shp.rf _
  case imul =>
    obtain ⟨a, b, r, rfl, rfl⟩ := pbin_inv hs
    exact Shp.rf _
  case iand =>
    obtain ⟨a, b, r, rfl, rfl⟩ := pbin_inv hs
    exact Shp.rf _
  case ior =>
    obtain ⟨a, b, r, rfl, rfl⟩ := pbin_inv hs
    exact Shp.rf _
  case ixor =>
    obtain ⟨a, b, r, rfl, rfl⟩ := pbin_inv hs
    exact Shp.rf _
  case ishl =>
    obtain ⟨a, b, r, rfl, rfl⟩ := pbin_inv hs
    exact Shp.rf _
  case ishr =>
    obtain ⟨a, b, r, rfl, rfl⟩ := pbin_inv hs
    exact Shp.rf _
  case iushr =>
    obtain ⟨a, b, r, rfl, rfl⟩ := pbin_inv hs
    exact Shp.rf _
  case idiv =>
    have hs : pdiv (fun a b => a / b) i L st h = some σ := hs
    unfold pdiv at hs
    split at hs
    · split at hs
      · cases hs
      · rename_i h0
        obtain rfl := pnx_inv hs
        exact Shp.rf _
    · cases hs
  case irem =>
    have hs : pdiv (fun a b => a - a / b * b) i L st h = some σ := hs
    unfold pdiv at hs
    split at hs
    · split at hs
      · cases hs
      · rename_i h0
        obtain rfl := pnx_inv hs
        exact Shp.rf _
    · cases hs
  case ineg =>
    have hs : puni (fun a => .int (-a)) i L st h = some σ := hs
    unfold puni at hs
    split at hs
    · obtain rfl := pnx_inv hs
      exact Shp.rf _
    · cases hs
  case i2l =>
    have hs : puni (fun a => .long a.toInt64) i L st h = some σ := hs
    unfold puni at hs
    split at hs
    · obtain rfl := pnx_inv hs
      exact Shp.rf _
    · cases hs
  case i2s =>
    have hs : puni (fun a => .int a.toInt16.toInt32) i L st h = some σ := hs
    unfold puni at hs
    split at hs
    · obtain rfl := pnx_inv hs
      exact Shp.rf _
    · cases hs
  case i2c =>
    have hs : puni (fun a => .int (a.toUInt32 % 65536).toInt32) i L st h = some σ := hs
    unfold puni at hs
    split at hs
    · obtain rfl := pnx_inv hs
      exact Shp.rf _
    · cases hs
  case ladd =>
    have hs : plbin (fun a b => .long (a + b)) i L st h = some σ := hs
    unfold plbin at hs
    split at hs
    · obtain rfl := pnx_inv hs
      exact Shp.rf _
    · cases hs
  case lcmp =>
    have hs : plbin (fun a b => .int (lg_cmp a b)) i L st h = some σ := hs
    unfold plbin at hs
    split at hs
    · obtain rfl := pnx_inv hs
      exact Shp.rf _
    · cases hs
  case dup =>
    have hs : pdup i L st h = some σ := hs
    unfold pdup at hs
    split at hs
    · split at hs
      · rename_i h0
        obtain rfl := pnx_inv hs
        exact Shp.rf _
      · cases hs
    · cases hs
  case dup2 =>
    have hs : pdup2 i L st h = some σ := hs
    unfold pdup2 at hs
    split at hs
    · split at hs
      · rename_i h0
        obtain rfl := pnx_inv hs
        exact Shp.rf _
      · cases hs
    · cases hs
  case pop =>
    have hs : ppop i L st h = some σ := hs
    unfold ppop at hs
    split at hs
    · split at hs
      · rename_i h0
        obtain rfl := pnx_inv hs
        exact Shp.rf _
      · cases hs
    · cases hs
  case goto z =>
    obtain rfl : σ = (x, L, st, h, 0, 0) := (Option.some.inj hs).symm
    exact Shp.rf _
  case ifCond k0 z =>
    have hs : pif1 k0 x i L st h = some σ := hs
    unfold pif1 at hs
    split at hs
    · obtain rfl := (Option.some.inj hs).symm
      exact Shp.rf _
    · cases hs
  case if_icmp k0 z =>
    have hs : pif2 k0 x i L st h = some σ := hs
    unfold pif2 at hs
    split at hs
    · obtain rfl := (Option.some.inj hs).symm
      exact Shp.rf _
    · cases hs
  case ifnull z =>
    have hs : pifn x i L st h = some σ := hs
    unfold pifn at hs
    split at hs
    · obtain rfl := (Option.some.inj hs).symm
      exact Shp.rf _
    · obtain rfl := pnx_inv hs
      exact Shp.rf _
    · cases hs
  case ifnonnull z =>
    have hs : pifnn x i L st h = some σ := hs
    unfold pifnn at hs
    split at hs
    · obtain rfl := pnx_inv hs
      exact Shp.rf _
    · obtain rfl := (Option.some.inj hs).symm
      exact Shp.rf _
    · cases hs
  case tableswitch dd lo hi os =>
    have hs : pswi (pkeysT lo ts) x i L st h = some σ := hs
    unfold pswi at hs
    split at hs
    · obtain rfl := (Option.some.inj hs).symm
      exact Shp.rf _
    · cases hs
  case lookupswitch dd ps =>
    have hs : pswi ((ps.toList.map (fun q => q.1)).zip ts) x i L st h = some σ := hs
    unfold pswi at hs
    split at hs
    · obtain rfl := (Option.some.inj hs).symm
      exact Shp.rf _
    · cases hs
  case getfield n =>
    have hs : pgetf (pc, .getfield n, x, y, v, ts) i L st h = some σ := hs
    unfold pgetf at hs
    split at hs
    · split at hs
      · rename_i ho
        split at hs
        · rename_i hx1
          split at hs
          · rename_i hw
            obtain rfl := pnx_inv hs
            exact Shp.rf _
          · cases hs
        · cases hs
      · cases hs
    · cases hs
  case putfield n =>
    have hs : pputf (pc, .putfield n, x, y, v, ts) i L st h = some σ := hs
    unfold pputf at hs
    split at hs
    · split at hs
      · rename_i ho
        split at hs
        · rename_i hx1
          split at hs
          · rename_i hf
            obtain rfl := pnx_inv hs
            exact Shp.set (pobj_at ho) (fun o h => by cases h; exact ⟨_, rfl, rfl⟩)
          · cases hs
        · cases hs
      · cases hs
    · cases hs
  case iaload =>
    have hs : piald E i L st h = some σ := hs
    unfold piald at hs
    split at hs
    · split at hs
      · rename_i ho
        split at hs
        · rename_i hj
          obtain rfl := pnx_inv hs
          exact Shp.rf _
        · cases hs
      · cases hs
    · split at hs
      · rename_i ho
        split at hs
        · rename_i hj
          obtain rfl := pnx_inv hs
          exact Shp.rf _
        · cases hs
      · cases hs
    · cases hs
  case iastore =>
    have hs : piast i L st h = some σ := hs
    unfold piast at hs
    split at hs
    · split at hs
      · rename_i ho
        split at hs
        · rename_i hj
          obtain rfl := pnx_inv hs
          exact Shp.set (pint_at ho) (fun o h => by cases h)
        · cases hs
      · cases hs
    · cases hs
  case aaload =>
    have hs : paald i L st h = some σ := hs
    unfold paald at hs
    split at hs
    · split at hs
      · rename_i ho
        split at hs
        · rename_i hj
          obtain rfl := pnx_inv hs
          exact Shp.rf _
        · cases hs
      · cases hs
    · cases hs
  case aastore =>
    have hs : paast i L st h = some σ := hs
    unfold paast at hs
    split at hs
    · split at hs
      · rename_i ho hb
        split at hs
        · rename_i hx1
          split at hs
          · rename_i hj
            obtain rfl := pnx_inv hs
            exact Shp.set (pref_at ho) (fun o h => by cases h)
          · cases hs
        · cases hs
      · cases hs
    · cases hs
  case arraylength =>
    have hs : palen E i L st h = some σ := hs
    unfold palen at hs
    split at hs
    · split at hs
      · rename_i ho
        obtain rfl := pnx_inv hs
        exact Shp.rf _
      · rename_i ho
        obtain rfl := pnx_inv hs
        exact Shp.rf _
      · cases hs
    · split at hs
      · rename_i ho
        obtain rfl := pnx_inv hs
        exact Shp.rf _
      · cases hs
    · cases hs
  case new n =>
    have hs : pnewc (pc, .new n, x, y, v, ts) i L st h = some σ := hs
    unfold pnewc at hs
    split at hs
    · rename_i hx1
      obtain rfl := (Option.some.inj hs).symm
      exact Shp.push _ _
    · cases hs
  case newarray n =>
    have hs : pnewa i L st h = some σ := hs
    unfold pnewa at hs
    split at hs
    · split at hs
      · rename_i hj
        obtain rfl := (Option.some.inj hs).symm
        exact Shp.push _ _
      · cases hs
    · cases hs
  case anewarray n =>
    have hs : pnewq (pc, .anewarray n, x, y, v, ts) i L st h = some σ := hs
    unfold pnewq at hs
    split at hs
    · split at hs
      · rename_i hj
        obtain rfl := (Option.some.inj hs).symm
        exact Shp.push _ _
      · cases hs
    · cases hs
  case invokestatic n =>
    have hq : pnats (pc, .invokestatic n, x, y, v, ts) i L st h = some σ := hs
    clear hs
    unfold pnats at hq
    split at hq
    · rename_i hx1
      obtain rfl : x = 99990 := hx1
      unfold pm2 at hq
      split at hq
      · split at hq
        · rename_i h8
          obtain rfl := pnx_inv hq
          exact Shp.rf _
        · cases hq
      · cases hq
    · split at hq
      · rename_i hx1
        obtain rfl : x = 99991 := hx1
        unfold pm2 at hq
        split at hq
        · split at hq
          · rename_i h8
            obtain rfl := pnx_inv hq
            exact Shp.rf _
          · cases hq
        · cases hq
      · split at hq
        · rename_i hx1
          obtain rfl : x = 99992 := hx1
          unfold pm1 at hq
          split at hq
          · split at hq
            · rename_i h8
              obtain rfl := pnx_inv hq
              exact Shp.rf _
            · cases hq
          · cases hq
        · unfold pocopy at hq
          split at hq
          · split at hq
            · rename_i hx1
              split at hq
              · rename_i h0 h1
                split at hq
                · rename_i hz
                  obtain rfl := pnx_inv hq
                  exact Shp.set (pint_at h1) (fun o h => by cases h)
                · cases hq
              · cases hq
            · cases hq
          · cases hq
  case invokespecial n =>
    have hs : poini (pc, .invokespecial n, x, y, v, ts) i L st h = some σ := hs
    unfold poini at hs
    split at hs
    · split at hs
      · rename_i hx1
        obtain rfl := pnx_inv hs
        exact Shp.rf _
      · cases hs
    · cases hs
  all_goals (have hs2 : (none : Option pS) = some σ := hs; cases hs2)
theorem pexec_shp : ∀ (f d : Nat) (M : pM) (i : Nat) (L : pL) (st : List Value) (h : List pC) (res : pR), pexec P E V f d M i L st h = some res → Shp h res.2.1 := by
  intro f
  induction f with
  | zero =>
    intro d M i L st h res hx
    cases hx
  | succ f ih =>
    intro d M i L st h res hx
    cases d with
    | zero => cases hx
    | succ d =>
      unfold pexec at hx
      split at hx
      · cases hx
      · split at hx
        · cases hx
          exact Shp.rf _
        · split at hx
          · split at hx
            · split at hx
              · split at hx
                · exact ih _ _ _ _ _ _ _ hx
                · cases hx
              · cases hx
            · split at hx
              · split at hx
                · rename_i h1
                  split at hx
                  · rename_i h2
                    cases hx
                    have e1 := ih _ _ _ _ _ _ _ h1
                    have e2 := ih _ _ _ _ _ _ _ h2
                    exact Shp.tr e1 e2
                  · cases hx
                · cases hx
              · cases hx
          · split at hx
            · rename_i hst
              split at hx
              · rename_i h2
                cases hx
                have e1 := pstep_shp hst
                have e2 := ih _ _ _ _ _ _ _ h2
                exact Shp.tr e1 e2
              · cases hx
            · cases hx
theorem Run.shp {d : Nat} {N : pM} {as : List Value} {res : pR} (hr : Run P E V d N as h res) : Shp h res.2.1 := by
  obtain ⟨-, -, f, hf⟩ := hr
  exact pexec_shp f _ _ _ _ _ _ _ hf
end SHP
end
section
/-! ===== the methods as tables (printed by program) ===== -/
def mX0_init : pM := (⟨RX0, "<init>", "()V"⟩, prog_2_method_1_code, 1, none, 2, 0, [(0, .aload_n 0, 0, 0, .null, []),
  (1, .invokespecial 3, 99999, 0, .null, []),
  (4, .aload_n 0, 0, 0, .null, []),
  (5, .bipush 96, 0, 0, .int 96, []),
  (7, .newarray .int, 0, 0, .null, []),
  (9, .putfield 9, 0, 0, .null, []),
  (12, .return_, 0, 0, .null, [])])
def mX0_begin : pM := (⟨RX0, "begin", "(I)V"⟩, prog_2_method_2_code, 2, none, 1, 0, [(0, .aload_n 0, 0, 0, .null, []),
  (1, .iload_n 1, 1, 0, .null, []),
  (2, .putfield 15, 0, 2, .null, []),
  (5, .aload_n 0, 0, 0, .null, []),
  (6, .iconst 0, 0, 0, .int 0, []),
  (7, .putfield 19, 0, 1, .null, []),
  (10, .aload_n 0, 0, 0, .null, []),
  (11, .iconst 0, 0, 0, .int 0, []),
  (12, .putfield 22, 0, 3, .null, []),
  (15, .return_, 0, 0, .null, [])])
def mX0_add : pM := (⟨RX0, "add", "(I)V"⟩, prog_2_method_3_code, 2, none, 1, 0, [(0, .aload_n 0, 0, 0, .null, []),
  (1, .getfield 19, 0, 1, .null, []),
  (4, .ifCond .lt 35, 21, 0, .null, []),
  (7, .aload_n 0, 0, 0, .null, []),
  (8, .getfield 19, 0, 1, .null, []),
  (11, .aload_n 0, 0, 0, .null, []),
  (12, .getfield 9, 0, 0, .null, []),
  (15, .arraylength, 0, 0, .null, []),
  (16, .if_icmp .ge 23, 21, 0, .null, []),
  (19, .aload_n 0, 0, 0, .null, []),
  (20, .getfield 9, 0, 0, .null, []),
  (23, .aload_n 0, 0, 0, .null, []),
  (24, .getfield 19, 0, 1, .null, []),
  (27, .iload_n 1, 1, 0, .null, []),
  (28, .iastore, 0, 0, .null, []),
  (29, .aload_n 0, 0, 0, .null, []),
  (30, .dup, 0, 0, .null, []),
  (31, .getfield 19, 0, 1, .null, []),
  (34, .iconst 1, 0, 0, .int 1, []),
  (35, .iadd, 0, 0, .null, []),
  (36, .putfield 19, 0, 1, .null, []),
  (39, .return_, 0, 0, .null, [])])
def mX0_at : pM := (⟨RX0, "at", "(I)I"⟩, prog_2_method_4_code, 2, (some FieldType.int), 1, 0, [(0, .iload_n 1, 1, 0, .null, []),
  (1, .ifCond .lt 21, 12, 0, .null, []),
  (4, .iload_n 1, 1, 0, .null, []),
  (5, .aload_n 0, 0, 0, .null, []),
  (6, .getfield 9, 0, 0, .null, []),
  (9, .arraylength, 0, 0, .null, []),
  (10, .if_icmp .ge 12, 12, 0, .null, []),
  (13, .aload_n 0, 0, 0, .null, []),
  (14, .getfield 9, 0, 0, .null, []),
  (17, .iload_n 1, 1, 0, .null, []),
  (18, .iaload, 0, 0, .null, []),
  (19, .goto 4, 13, 0, .null, []),
  (22, .iconst 0, 0, 0, .int 0, []),
  (23, .ireturn, 0, 0, .null, [])])
def mX0_takeFrom : pM := (⟨RX0, "takeFrom", "(LStoneSheets$Law;)V"⟩, prog_2_method_5_code, 2, none, 1, 0, [(0, .aload_n 1, 1, 0, .null, []),
  (1, .getfield 9, 0, 0, .null, []),
  (4, .iconst 0, 0, 0, .int 0, []),
  (5, .aload_n 0, 0, 0, .null, []),
  (6, .getfield 9, 0, 0, .null, []),
  (9, .iconst 0, 0, 0, .int 0, []),
  (10, .bipush 96, 0, 0, .int 96, []),
  (12, .invokestatic 25, 99999, 0, .null, []),
  (15, .aload_n 0, 0, 0, .null, []),
  (16, .aload_n 1, 1, 0, .null, []),
  (17, .getfield 19, 0, 1, .null, []),
  (20, .putfield 19, 0, 1, .null, []),
  (23, .aload_n 0, 0, 0, .null, []),
  (24, .aload_n 1, 1, 0, .null, []),
  (25, .getfield 15, 0, 2, .null, []),
  (28, .putfield 15, 0, 2, .null, []),
  (31, .aload_n 0, 0, 0, .null, []),
  (32, .aload_n 1, 1, 0, .null, []),
  (33, .getfield 22, 0, 3, .null, []),
  (36, .putfield 22, 0, 3, .null, []),
  (39, .return_, 0, 0, .null, [])])
def mX1_init : pM := (⟨RX1, "<init>", "()V"⟩, prog_3_method_1_code, 2, none, 2, 1, [(0, .aload_n 0, 0, 0, .null, []),
  (1, .invokespecial 3, 99999, 0, .null, []),
  (4, .aload_n 0, 0, 0, .null, []),
  (5, .bipush 14, 0, 0, .int 14, []),
  (7, .anewarray 9, 0, 0, .null, []),
  (10, .putfield 11, 1, 0, .null, []),
  (13, .aload_n 0, 0, 0, .null, []),
  (14, .new 9, 0, 0, .null, []),
  (17, .dup, 0, 0, .null, []),
  (18, .invokespecial 17, 0, 0, .int 1, []),
  (21, .putfield 18, 1, 1, .null, []),
  (24, .aload_n 0, 0, 0, .null, []),
  (25, .bipush 96, 0, 0, .int 96, []),
  (27, .newarray .int, 0, 0, .null, []),
  (29, .putfield 22, 1, 2, .null, []),
  (32, .iconst 0, 0, 0, .int 0, []),
  (33, .istore_n 1, 1, 0, .null, []),
  (34, .iload_n 1, 1, 0, .null, []),
  (35, .aload_n 0, 0, 0, .null, []),
  (36, .getfield 11, 1, 0, .null, []),
  (39, .arraylength, 0, 0, .null, []),
  (40, .if_icmp .ge 22, 31, 0, .null, []),
  (43, .aload_n 0, 0, 0, .null, []),
  (44, .getfield 11, 1, 0, .null, []),
  (47, .iload_n 1, 1, 0, .null, []),
  (48, .new 9, 0, 0, .null, []),
  (51, .dup, 0, 0, .null, []),
  (52, .invokespecial 17, 0, 0, .int 1, []),
  (55, .aastore, 0, 0, .null, []),
  (56, .iinc 1 1, 1, 0, .null, []),
  (59, .goto (-25), 17, 0, .null, []),
  (62, .return_, 0, 0, .null, [])])
def mX1_one : pM := (⟨RX1, "one", "(I)LStoneSheets$Law;"⟩, prog_3_method_2_code, 2, (some (FieldType.object "StoneSheets$Law")), 1, 1, [(0, .iload_n 1, 1, 0, .null, []),
  (1, .ifCond .lt 21, 12, 0, .null, []),
  (4, .iload_n 1, 1, 0, .null, []),
  (5, .aload_n 0, 0, 0, .null, []),
  (6, .getfield 11, 1, 0, .null, []),
  (9, .arraylength, 0, 0, .null, []),
  (10, .if_icmp .ge 12, 12, 0, .null, []),
  (13, .aload_n 0, 0, 0, .null, []),
  (14, .getfield 11, 1, 0, .null, []),
  (17, .iload_n 1, 1, 0, .null, []),
  (18, .aaload, 0, 0, .null, []),
  (19, .goto 4, 13, 0, .null, []),
  (22, .aconst_null, 0, 0, .null, []),
  (23, .areturn, 0, 0, .null, [])])
def mX1_worked : pM := (⟨RX1, "worked", "(LStoneSheets$Law;LStoneSheets$Wall;LStoneSheets$Rubbing;)I"⟩, prog_3_method_3_code, 7, (some FieldType.int), 1, 1, [(0, .aload_n 0, 0, 0, .null, []),
  (1, .iconst 0, 0, 0, .int 0, []),
  (2, .putfield 26, 1, 3, .null, []),
  (5, .iconst 0, 0, 0, .int 0, []),
  (6, .istore 4, 4, 0, .null, []),
  (8, .iload 4, 4, 0, .null, []),
  (10, .aload_n 1, 1, 0, .null, []),
  (11, .getfield 30, 0, 1, .null, []),
  (14, .if_icmp .ge 103, 56, 0, .null, []),
  (17, .aload_n 1, 1, 0, .null, []),
  (18, .iload 4, 4, 0, .null, []),
  (20, .invokevirtual 33, 3, 1, .null, []),
  (23, .istore 5, 5, 0, .null, []),
  (25, .iload 5, 5, 0, .null, []),
  (27, .ifCond .lt 12, 19, 0, .null, []),
  (30, .aload_n 0, 0, 0, .null, []),
  (31, .iload 5, 5, 0, .null, []),
  (33, .invokevirtual 37, 8, 1, .null, []),
  (36, .goto 75, 54, 0, .null, []),
  (39, .iload 5, 5, 0, .null, []),
  (41, .ineg, 0, 0, .null, []),
  (42, .invokestatic 41, 19, 1, .null, []),
  (45, .ifCond .eq 18, 31, 0, .null, []),
  (48, .aload_n 0, 0, 0, .null, []),
  (49, .iload 5, 5, 0, .null, []),
  (51, .ineg, 0, 0, .null, []),
  (52, .aload_n 2, 2, 0, .null, []),
  (53, .aload_n 3, 3, 0, .null, []),
  (54, .invokestatic 47, 10, 3, .null, []),
  (57, .invokevirtual 37, 8, 1, .null, []),
  (60, .goto 51, 54, 0, .null, []),
  (63, .iload 5, 5, 0, .null, []),
  (65, .bipush (-33), 0, 0, .int (-33), []),
  (67, .if_icmp .ne 22, 43, 0, .null, []),
  (70, .aload_n 0, 0, 0, .null, []),
  (71, .aload_n 0, 0, 0, .null, []),
  (72, .invokevirtual 51, 9, 0, .null, []),
  (75, .ifCond .ne 7, 40, 0, .null, []),
  (78, .iconst 1, 0, 0, .int 1, []),
  (79, .goto 4, 41, 0, .null, []),
  (82, .iconst 0, 0, 0, .int 0, []),
  (83, .invokevirtual 37, 8, 1, .null, []),
  (86, .goto 25, 54, 0, .null, []),
  (89, .aload_n 0, 0, 0, .null, []),
  (90, .invokevirtual 51, 9, 0, .null, []),
  (93, .istore 6, 6, 0, .null, []),
  (95, .aload_n 0, 0, 0, .null, []),
  (96, .iload 5, 5, 0, .null, []),
  (98, .ineg, 0, 0, .null, []),
  (99, .aload_n 0, 0, 0, .null, []),
  (100, .invokevirtual 51, 9, 0, .null, []),
  (103, .iload 6, 6, 0, .null, []),
  (105, .invokestatic 55, 11, 3, .null, []),
  (108, .invokevirtual 37, 8, 1, .null, []),
  (111, .iinc 4 1, 4, 0, .null, []),
  (114, .goto (-106), 5, 0, .null, []),
  (117, .aload_n 0, 0, 0, .null, []),
  (118, .invokevirtual 51, 9, 0, .null, []),
  (121, .ireturn, 0, 0, .null, [])])
def mX1_push : pM := (⟨RX1, "push", "(I)V"⟩, prog_3_method_4_code, 2, none, 1, 1, [(0, .aload_n 0, 0, 0, .null, []),
  (1, .getfield 26, 1, 3, .null, []),
  (4, .ifCond .lt 35, 21, 0, .null, []),
  (7, .aload_n 0, 0, 0, .null, []),
  (8, .getfield 26, 1, 3, .null, []),
  (11, .aload_n 0, 0, 0, .null, []),
  (12, .getfield 22, 1, 2, .null, []),
  (15, .arraylength, 0, 0, .null, []),
  (16, .if_icmp .ge 23, 21, 0, .null, []),
  (19, .aload_n 0, 0, 0, .null, []),
  (20, .getfield 22, 1, 2, .null, []),
  (23, .aload_n 0, 0, 0, .null, []),
  (24, .getfield 26, 1, 3, .null, []),
  (27, .iload_n 1, 1, 0, .null, []),
  (28, .iastore, 0, 0, .null, []),
  (29, .aload_n 0, 0, 0, .null, []),
  (30, .dup, 0, 0, .null, []),
  (31, .getfield 26, 1, 3, .null, []),
  (34, .iconst 1, 0, 0, .int 1, []),
  (35, .iadd, 0, 0, .null, []),
  (36, .putfield 26, 1, 3, .null, []),
  (39, .return_, 0, 0, .null, [])])
def mX1_pop : pM := (⟨RX1, "pop", "()I"⟩, prog_3_method_5_code, 1, (some FieldType.int), 1, 1, [(0, .aload_n 0, 0, 0, .null, []),
  (1, .getfield 26, 1, 3, .null, []),
  (4, .ifCond .le 15, 9, 0, .null, []),
  (7, .aload_n 0, 0, 0, .null, []),
  (8, .getfield 26, 1, 3, .null, []),
  (11, .aload_n 0, 0, 0, .null, []),
  (12, .getfield 22, 1, 2, .null, []),
  (15, .arraylength, 0, 0, .null, []),
  (16, .if_icmp .le 5, 11, 0, .null, []),
  (19, .iconst 0, 0, 0, .int 0, []),
  (20, .ireturn, 0, 0, .null, []),
  (21, .aload_n 0, 0, 0, .null, []),
  (22, .dup, 0, 0, .null, []),
  (23, .getfield 26, 1, 3, .null, []),
  (26, .iconst 1, 0, 0, .int 1, []),
  (27, .isub, 0, 0, .null, []),
  (28, .putfield 26, 1, 3, .null, []),
  (31, .aload_n 0, 0, 0, .null, []),
  (32, .getfield 22, 1, 2, .null, []),
  (35, .aload_n 0, 0, 0, .null, []),
  (36, .getfield 26, 1, 3, .null, []),
  (39, .iaload, 0, 0, .null, []),
  (40, .ireturn, 0, 0, .null, [])])
def mX1_named : pM := (⟨RX1, "named", "(ILStoneSheets$Wall;LStoneSheets$Rubbing;)I"⟩, prog_3_method_6_code, 3, (some FieldType.int), 0, 1, [(0, .iload_n 0, 0, 0, .null, []),
  (1, .lookupswitch 79 #[(102, 48), (110, 43), (115, 66), (116, 53)], 22, 43, .null, [5, 2, 15, 8]),
  (44, .aload_n 1, 1, 0, .null, []),
  (45, .getfield 59, 6, 7, .null, []),
  (48, .ireturn, 0, 0, .null, []),
  (49, .aload_n 1, 1, 0, .null, []),
  (50, .getfield 64, 6, 8, .null, []),
  (53, .ireturn, 0, 0, .null, []),
  (54, .aload_n 2, 2, 0, .null, []),
  (55, .ifnonnull 7, 12, 0, .null, []),
  (58, .iconst 0, 0, 0, .int 0, []),
  (59, .goto 7, 14, 0, .null, []),
  (62, .aload_n 2, 2, 0, .null, []),
  (63, .getfield 67, 4, 5, .null, []),
  (66, .ireturn, 0, 0, .null, []),
  (67, .aload_n 2, 2, 0, .null, []),
  (68, .ifnonnull 7, 19, 0, .null, []),
  (71, .iconst 0, 0, 0, .int 0, []),
  (72, .goto 7, 21, 0, .null, []),
  (75, .aload_n 2, 2, 0, .null, []),
  (76, .getfield 72, 4, 2, .null, []),
  (79, .ireturn, 0, 0, .null, []),
  (80, .aload_n 2, 2, 0, .null, []),
  (81, .ifnonnull 7, 26, 0, .null, []),
  (84, .iconst 0, 0, 0, .int 0, []),
  (85, .goto 7, 28, 0, .null, []),
  (88, .aload_n 2, 2, 0, .null, []),
  (89, .getfield 75, 4, 4, .null, []),
  (92, .ireturn, 0, 0, .null, [])])
def mX1_joined : pM := (⟨RX1, "joined", "(III)I"⟩, prog_3_method_7_code, 3, (some FieldType.int), 0, 1, [(0, .iload_n 0, 0, 0, .null, []),
  (1, .lookupswitch 148 #[(38, 89), (42, 144), (43, 136), (45, 140), (60, 103), (61, 114), (62, 125), (124, 75)], 51, 75, .null, [10, 47, 39, 43, 18, 25, 32, 2]),
  (76, .iload_n 1, 1, 0, .null, []),
  (77, .ifCond .ne 7, 6, 0, .null, []),
  (80, .iload_n 2, 2, 0, .null, []),
  (81, .ifCond .eq 7, 8, 0, .null, []),
  (84, .iconst 1, 0, 0, .int 1, []),
  (85, .goto 4, 9, 0, .null, []),
  (88, .iconst 0, 0, 0, .int 0, []),
  (89, .ireturn, 0, 0, .null, []),
  (90, .iload_n 1, 1, 0, .null, []),
  (91, .ifCond .eq 11, 16, 0, .null, []),
  (94, .iload_n 2, 2, 0, .null, []),
  (95, .ifCond .eq 7, 16, 0, .null, []),
  (98, .iconst 1, 0, 0, .int 1, []),
  (99, .goto 4, 17, 0, .null, []),
  (102, .iconst 0, 0, 0, .int 0, []),
  (103, .ireturn, 0, 0, .null, []),
  (104, .iload_n 1, 1, 0, .null, []),
  (105, .iload_n 2, 2, 0, .null, []),
  (106, .if_icmp .ge 7, 23, 0, .null, []),
  (109, .iconst 1, 0, 0, .int 1, []),
  (110, .goto 4, 24, 0, .null, []),
  (113, .iconst 0, 0, 0, .int 0, []),
  (114, .ireturn, 0, 0, .null, []),
  (115, .iload_n 1, 1, 0, .null, []),
  (116, .iload_n 2, 2, 0, .null, []),
  (117, .if_icmp .ne 7, 30, 0, .null, []),
  (120, .iconst 1, 0, 0, .int 1, []),
  (121, .goto 4, 31, 0, .null, []),
  (124, .iconst 0, 0, 0, .int 0, []),
  (125, .ireturn, 0, 0, .null, []),
  (126, .iload_n 1, 1, 0, .null, []),
  (127, .iload_n 2, 2, 0, .null, []),
  (128, .if_icmp .le 7, 37, 0, .null, []),
  (131, .iconst 1, 0, 0, .int 1, []),
  (132, .goto 4, 38, 0, .null, []),
  (135, .iconst 0, 0, 0, .int 0, []),
  (136, .ireturn, 0, 0, .null, []),
  (137, .iload_n 1, 1, 0, .null, []),
  (138, .iload_n 2, 2, 0, .null, []),
  (139, .iadd, 0, 0, .null, []),
  (140, .ireturn, 0, 0, .null, []),
  (141, .iload_n 1, 1, 0, .null, []),
  (142, .iload_n 2, 2, 0, .null, []),
  (143, .isub, 0, 0, .null, []),
  (144, .ireturn, 0, 0, .null, []),
  (145, .iload_n 1, 1, 0, .null, []),
  (146, .iload_n 2, 2, 0, .null, []),
  (147, .imul, 0, 0, .null, []),
  (148, .ireturn, 0, 0, .null, []),
  (149, .iload_n 2, 2, 0, .null, []),
  (150, .ifCond .ne 7, 55, 0, .null, []),
  (153, .iconst 0, 0, 0, .int 0, []),
  (154, .goto 6, 58, 0, .null, []),
  (157, .iload_n 1, 1, 0, .null, []),
  (158, .iload_n 2, 2, 0, .null, []),
  (159, .idiv, 0, 0, .null, []),
  (160, .ireturn, 0, 0, .null, [])])
def mX2_init : pM := (⟨RX2, "<init>", "()V"⟩, prog_4_method_1_code, 1, none, 2, 2, [(0, .aload_n 0, 0, 0, .null, []),
  (1, .invokespecial 3, 99999, 0, .null, []),
  (4, .aload_n 0, 0, 0, .null, []),
  (5, .bipush 96, 0, 0, .int 96, []),
  (7, .newarray .int, 0, 0, .null, []),
  (9, .putfield 9, 2, 0, .null, []),
  (12, .aload_n 0, 0, 0, .null, []),
  (13, .bipush 96, 0, 0, .int 96, []),
  (15, .newarray .int, 0, 0, .null, []),
  (17, .putfield 15, 2, 6, .null, []),
  (20, .return_, 0, 0, .null, [])])
def mX2_hasRoom : pM := (⟨RX2, "hasRoom", "(I)Z"⟩, prog_4_method_2_code, 2, (some FieldType.boolean), 1, 2, [(0, .aload_n 0, 0, 0, .null, []),
  (1, .getfield 18, 2, 1, .null, []),
  (4, .iload_n 1, 1, 0, .null, []),
  (5, .iadd, 0, 0, .null, []),
  (6, .bipush 96, 0, 0, .int 96, []),
  (8, .if_icmp .gt 7, 8, 0, .null, []),
  (11, .iconst 1, 0, 0, .int 1, []),
  (12, .goto 4, 9, 0, .null, []),
  (15, .iconst 0, 0, 0, .int 0, []),
  (16, .ireturn, 0, 0, .null, [])])
def mX2_takeNumber : pM := (⟨RX2, "takeNumber", "(I)V"⟩, prog_4_method_3_code, 3, none, 1, 2, [(0, .bipush 24, 0, 0, .int 24, []),
  (2, .istore_n 2, 2, 0, .null, []),
  (3, .iload_n 2, 2, 0, .null, []),
  (4, .ifCond .lt 54, 31, 0, .null, []),
  (7, .aload_n 0, 0, 0, .null, []),
  (8, .getfield 18, 2, 1, .null, []),
  (11, .ifCond .lt 41, 29, 0, .null, []),
  (14, .aload_n 0, 0, 0, .null, []),
  (15, .getfield 18, 2, 1, .null, []),
  (18, .aload_n 0, 0, 0, .null, []),
  (19, .getfield 9, 2, 0, .null, []),
  (22, .arraylength, 0, 0, .null, []),
  (23, .if_icmp .ge 29, 29, 0, .null, []),
  (26, .aload_n 0, 0, 0, .null, []),
  (27, .getfield 9, 2, 0, .null, []),
  (30, .aload_n 0, 0, 0, .null, []),
  (31, .getfield 18, 2, 1, .null, []),
  (34, .iload_n 1, 1, 0, .null, []),
  (35, .iload_n 2, 2, 0, .null, []),
  (36, .iushr, 0, 0, .null, []),
  (37, .sipush 255, 0, 0, .int 255, []),
  (40, .iand, 0, 0, .null, []),
  (41, .iastore, 0, 0, .null, []),
  (42, .aload_n 0, 0, 0, .null, []),
  (43, .dup, 0, 0, .null, []),
  (44, .getfield 18, 2, 1, .null, []),
  (47, .iconst 1, 0, 0, .int 1, []),
  (48, .iadd, 0, 0, .null, []),
  (49, .putfield 18, 2, 1, .null, []),
  (52, .iinc 2 (-8), 2, 0, .null, []),
  (55, .goto (-52), 2, 0, .null, []),
  (58, .return_, 0, 0, .null, [])])
def mX2_readInto : pM := (⟨RX2, "readInto", "(LStoneSheets$Law;)I"⟩, prog_4_method_4_code, 4, (some FieldType.int), 1, 2, [(0, .aload_n 0, 0, 0, .null, []),
  (1, .iconst 0, 0, 0, .int 0, []),
  (2, .putfield 22, 2, 4, .null, []),
  (5, .aload_n 0, 0, 0, .null, []),
  (6, .iconst 3, 0, 0, .int 3, []),
  (7, .putfield 25, 2, 2, .null, []),
  (10, .aload_n 0, 0, 0, .null, []),
  (11, .invokevirtual 28, 16, 0, .null, []),
  (14, .aload_n 0, 0, 0, .null, []),
  (15, .invokevirtual 31, 20, 0, .null, []),
  (18, .istore_n 2, 2, 0, .null, []),
  (19, .iload_n 2, 2, 0, .null, []),
  (20, .ifCond .ge 8, 16, 0, .null, []),
  (23, .aload_n 0, 0, 0, .null, []),
  (24, .getfield 35, 2, 3, .null, []),
  (27, .ireturn, 0, 0, .null, []),
  (28, .aload_n 1, 1, 0, .null, []),
  (29, .iload_n 2, 2, 0, .null, []),
  (30, .invokevirtual 38, 1, 1, .null, []),
  (33, .aload_n 0, 0, 0, .null, []),
  (34, .iconst 0, 0, 0, .int 0, []),
  (35, .putfield 44, 2, 7, .null, []),
  (38, .aload_n 0, 0, 0, .null, []),
  (39, .iconst 0, 0, 0, .int 0, []),
  (40, .putfield 47, 2, 8, .null, []),
  (43, .aload_n 0, 0, 0, .null, []),
  (44, .iconst 0, 0, 0, .int 0, []),
  (45, .putfield 50, 2, 9, .null, []),
  (48, .aload_n 0, 0, 0, .null, []),
  (49, .iconst 1, 0, 0, .int 1, []),
  (50, .putfield 53, 2, 10, .null, []),
  (53, .aload_n 0, 0, 0, .null, []),
  (54, .invokevirtual 28, 16, 0, .null, []),
  (57, .iconst 0, 0, 0, .int 0, []),
  (58, .istore_n 3, 3, 0, .null, []),
  (59, .iload_n 3, 3, 0, .null, []),
  (60, .bipush 96, 0, 0, .int 96, []),
  (62, .if_icmp .ge 33, 52, 0, .null, []),
  (65, .aload_n 0, 0, 0, .null, []),
  (66, .getfield 25, 2, 2, .null, []),
  (69, .ifCond .eq 26, 52, 0, .null, []),
  (72, .aload_n 0, 0, 0, .null, []),
  (73, .aload_n 1, 1, 0, .null, []),
  (74, .invokevirtual 57, 22, 1, .null, []),
  (77, .ifCond .ne 8, 48, 0, .null, []),
  (80, .aload_n 0, 0, 0, .null, []),
  (81, .getfield 35, 2, 3, .null, []),
  (84, .ireturn, 0, 0, .null, []),
  (85, .aload_n 0, 0, 0, .null, []),
  (86, .invokevirtual 28, 16, 0, .null, []),
  (89, .iinc 3 1, 3, 0, .null, []),
  (92, .goto (-33), 35, 0, .null, []),
  (95, .aload_n 0, 0, 0, .null, []),
  (96, .getfield 53, 2, 10, .null, []),
  (99, .ifCond .ne 10, 58, 0, .null, []),
  (102, .aload_n 0, 0, 0, .null, []),
  (103, .getfield 47, 2, 8, .null, []),
  (106, .ifCond .le 8, 61, 0, .null, []),
  (109, .aload_n 0, 0, 0, .null, []),
  (110, .getfield 35, 2, 3, .null, []),
  (113, .ireturn, 0, 0, .null, []),
  (114, .aload_n 0, 0, 0, .null, []),
  (115, .aload_n 1, 1, 0, .null, []),
  (116, .iconst 1, 0, 0, .int 1, []),
  (117, .invokevirtual 61, 29, 2, .null, []),
  (120, .iconst (-1), 0, 0, .int (-1), []),
  (121, .ireturn, 0, 0, .null, [])])
def mX2_nextWord : pM := (⟨RX2, "nextWord", "()V"⟩, prog_4_method_5_code, 3, none, 1, 2, [(0, .aload_n 0, 0, 0, .null, []),
  (1, .getfield 25, 2, 2, .null, []),
  (4, .iconst 1, 0, 0, .int 1, []),
  (5, .if_icmp .eq 11, 8, 0, .null, []),
  (8, .aload_n 0, 0, 0, .null, []),
  (9, .getfield 25, 2, 2, .null, []),
  (12, .iconst 2, 0, 0, .int 2, []),
  (13, .if_icmp .ne 7, 10, 0, .null, []),
  (16, .iconst 1, 0, 0, .int 1, []),
  (17, .goto 4, 11, 0, .null, []),
  (20, .iconst 0, 0, 0, .int 0, []),
  (21, .istore_n 1, 1, 0, .null, []),
  (22, .aload_n 0, 0, 0, .null, []),
  (23, .getfield 22, 2, 4, .null, []),
  (26, .istore_n 2, 2, 0, .null, []),
  (27, .aload_n 0, 0, 0, .null, []),
  (28, .getfield 22, 2, 4, .null, []),
  (31, .aload_n 0, 0, 0, .null, []),
  (32, .getfield 18, 2, 1, .null, []),
  (35, .if_icmp .ge 29, 33, 0, .null, []),
  (38, .aload_n 0, 0, 0, .null, []),
  (39, .aload_n 0, 0, 0, .null, []),
  (40, .getfield 22, 2, 4, .null, []),
  (43, .invokevirtual 65, 17, 1, .null, []),
  (46, .bipush 32, 0, 0, .int 32, []),
  (48, .if_icmp .ne 16, 33, 0, .null, []),
  (51, .aload_n 0, 0, 0, .null, []),
  (52, .dup, 0, 0, .null, []),
  (53, .getfield 22, 2, 4, .null, []),
  (56, .iconst 1, 0, 0, .int 1, []),
  (57, .iadd, 0, 0, .null, []),
  (58, .putfield 22, 2, 4, .null, []),
  (61, .goto (-34), 15, 0, .null, []),
  (64, .aload_n 0, 0, 0, .null, []),
  (65, .aload_n 0, 0, 0, .null, []),
  (66, .getfield 22, 2, 4, .null, []),
  (69, .putfield 35, 2, 3, .null, []),
  (72, .aload_n 0, 0, 0, .null, []),
  (73, .aload_n 0, 0, 0, .null, []),
  (74, .aload_n 0, 0, 0, .null, []),
  (75, .getfield 35, 2, 3, .null, []),
  (78, .invokevirtual 65, 17, 1, .null, []),
  (81, .invokestatic 69, 18, 1, .null, []),
  (84, .putfield 25, 2, 2, .null, []),
  (87, .aload_n 0, 0, 0, .null, []),
  (88, .iload_n 1, 1, 0, .null, []),
  (89, .ifCond .eq 15, 53, 0, .null, []),
  (92, .aload_n 0, 0, 0, .null, []),
  (93, .getfield 35, 2, 3, .null, []),
  (96, .iload_n 2, 2, 0, .null, []),
  (97, .if_icmp .ne 7, 53, 0, .null, []),
  (100, .iconst 1, 0, 0, .int 1, []),
  (101, .goto 4, 54, 0, .null, []),
  (104, .iconst 0, 0, 0, .int 0, []),
  (105, .putfield 72, 2, 5, .null, []),
  (108, .aload_n 0, 0, 0, .null, []),
  (109, .getfield 25, 2, 2, .null, []),
  (112, .ifCond .eq 13, 64, 0, .null, []),
  (115, .aload_n 0, 0, 0, .null, []),
  (116, .dup, 0, 0, .null, []),
  (117, .getfield 22, 2, 4, .null, []),
  (120, .iconst 1, 0, 0, .int 1, []),
  (121, .iadd, 0, 0, .null, []),
  (122, .putfield 22, 2, 4, .null, []),
  (125, .aload_n 0, 0, 0, .null, []),
  (126, .getfield 25, 2, 2, .null, []),
  (129, .iconst 3, 0, 0, .int 3, []),
  (130, .if_icmp .eq 45, 88, 0, .null, []),
  (133, .aload_n 0, 0, 0, .null, []),
  (134, .getfield 22, 2, 4, .null, []),
  (137, .aload_n 0, 0, 0, .null, []),
  (138, .getfield 18, 2, 1, .null, []),
  (141, .if_icmp .ge 34, 88, 0, .null, []),
  (144, .aload_n 0, 0, 0, .null, []),
  (145, .aload_n 0, 0, 0, .null, []),
  (146, .getfield 22, 2, 4, .null, []),
  (149, .invokevirtual 65, 17, 1, .null, []),
  (152, .invokestatic 69, 18, 1, .null, []),
  (155, .aload_n 0, 0, 0, .null, []),
  (156, .getfield 25, 2, 2, .null, []),
  (159, .if_icmp .ne 16, 88, 0, .null, []),
  (162, .aload_n 0, 0, 0, .null, []),
  (163, .dup, 0, 0, .null, []),
  (164, .getfield 22, 2, 4, .null, []),
  (167, .iconst 1, 0, 0, .int 1, []),
  (168, .iadd, 0, 0, .null, []),
  (169, .putfield 22, 2, 4, .null, []),
  (172, .goto (-47), 64, 0, .null, []),
  (175, .return_, 0, 0, .null, [])])
def mX2_byteAt : pM := (⟨RX2, "byteAt", "(I)I"⟩, prog_4_method_6_code, 2, (some FieldType.int), 1, 2, [(0, .iload_n 1, 1, 0, .null, []),
  (1, .ifCond .lt 29, 16, 0, .null, []),
  (4, .iload_n 1, 1, 0, .null, []),
  (5, .aload_n 0, 0, 0, .null, []),
  (6, .getfield 18, 2, 1, .null, []),
  (9, .if_icmp .ge 21, 16, 0, .null, []),
  (12, .iload_n 1, 1, 0, .null, []),
  (13, .aload_n 0, 0, 0, .null, []),
  (14, .getfield 9, 2, 0, .null, []),
  (17, .arraylength, 0, 0, .null, []),
  (18, .if_icmp .ge 12, 16, 0, .null, []),
  (21, .aload_n 0, 0, 0, .null, []),
  (22, .getfield 9, 2, 0, .null, []),
  (25, .iload_n 1, 1, 0, .null, []),
  (26, .iaload, 0, 0, .null, []),
  (27, .goto 4, 17, 0, .null, []),
  (30, .iconst (-1), 0, 0, .int (-1), []),
  (31, .ireturn, 0, 0, .null, [])])
def mX2_sortOf : pM := (⟨RX2, "sortOf", "(I)I"⟩, prog_4_method_7_code, 1, (some FieldType.int), 0, 2, [(0, .iload_n 0, 0, 0, .null, []),
  (1, .ifCond .ge 5, 4, 0, .null, []),
  (4, .iconst 0, 0, 0, .int 0, []),
  (5, .ireturn, 0, 0, .null, []),
  (6, .iload_n 0, 0, 0, .null, []),
  (7, .invokestatic 75, 19, 1, .null, []),
  (10, .ifCond .eq 5, 9, 0, .null, []),
  (13, .iconst 1, 0, 0, .int 1, []),
  (14, .ireturn, 0, 0, .null, []),
  (15, .iload_n 0, 0, 0, .null, []),
  (16, .bipush 48, 0, 0, .int 48, []),
  (18, .if_icmp .lt 13, 17, 0, .null, []),
  (21, .iload_n 0, 0, 0, .null, []),
  (22, .bipush 57, 0, 0, .int 57, []),
  (24, .if_icmp .gt 7, 17, 0, .null, []),
  (27, .iconst 2, 0, 0, .int 2, []),
  (28, .goto 4, 18, 0, .null, []),
  (31, .iconst 3, 0, 0, .int 3, []),
  (32, .ireturn, 0, 0, .null, [])])
def mX2_isLetter : pM := (⟨RX2, "isLetter", "(I)Z"⟩, prog_4_method_8_code, 1, (some FieldType.boolean), 0, 2, [(0, .iload_n 0, 0, 0, .null, []),
  (1, .bipush 97, 0, 0, .int 97, []),
  (3, .if_icmp .lt 13, 8, 0, .null, []),
  (6, .iload_n 0, 0, 0, .null, []),
  (7, .bipush 122, 0, 0, .int 122, []),
  (9, .if_icmp .gt 7, 8, 0, .null, []),
  (12, .iconst 1, 0, 0, .int 1, []),
  (13, .goto 4, 9, 0, .null, []),
  (16, .iconst 0, 0, 0, .int 0, []),
  (17, .ireturn, 0, 0, .null, [])])
def mX2_keyRead : pM := (⟨RX2, "keyRead", "()I"⟩, prog_4_method_9_code, 1, (some FieldType.int), 1, 2, [])
def mX2_isWord : pM := (⟨RX2, "isWord", "(Ljava/lang/String;)Z"⟩, prog_4_method_10_code, 3, (some FieldType.boolean), 1, 2, [])
def mX2_goesOn : pM := (⟨RX2, "goesOn", "(LStoneSheets$Law;)Z"⟩, prog_4_method_11_code, 2, (some FieldType.boolean), 1, 2, [(0, .aload_n 0, 0, 0, .null, []),
  (1, .getfield 25, 2, 2, .null, []),
  (4, .iconst 3, 0, 0, .int 3, []),
  (5, .if_icmp .ne 39, 22, 0, .null, []),
  (8, .aload_n 0, 0, 0, .null, []),
  (9, .getfield 53, 2, 10, .null, []),
  (12, .ifCond .eq 18, 14, 0, .null, []),
  (15, .aload_n 0, 0, 0, .null, []),
  (16, .aload_n 0, 0, 0, .null, []),
  (17, .aload_n 0, 0, 0, .null, []),
  (18, .getfield 35, 2, 3, .null, []),
  (21, .invokevirtual 65, 17, 1, .null, []),
  (24, .invokevirtual 97, 26, 1, .null, []),
  (27, .goto 16, 21, 0, .null, []),
  (30, .aload_n 0, 0, 0, .null, []),
  (31, .aload_n 1, 1, 0, .null, []),
  (32, .aload_n 0, 0, 0, .null, []),
  (33, .aload_n 0, 0, 0, .null, []),
  (34, .getfield 35, 2, 3, .null, []),
  (37, .invokevirtual 65, 17, 1, .null, []),
  (40, .invokevirtual 100, 27, 2, .null, []),
  (43, .ireturn, 0, 0, .null, []),
  (44, .aload_n 0, 0, 0, .null, []),
  (45, .getfield 53, 2, 10, .null, []),
  (48, .ifCond .eq 22, 34, 0, .null, []),
  (51, .aload_n 0, 0, 0, .null, []),
  (52, .getfield 72, 2, 5, .null, []),
  (55, .ifCond .ne 15, 34, 0, .null, []),
  (58, .aload_n 0, 0, 0, .null, []),
  (59, .aload_n 1, 1, 0, .null, []),
  (60, .invokevirtual 104, 23, 1, .null, []),
  (63, .ifCond .eq 7, 34, 0, .null, []),
  (66, .iconst 1, 0, 0, .int 1, []),
  (67, .goto 4, 35, 0, .null, []),
  (70, .iconst 0, 0, 0, .int 0, []),
  (71, .ireturn, 0, 0, .null, [])])
def mX2_takePiece : pM := (⟨RX2, "takePiece", "(LStoneSheets$Law;)Z"⟩, prog_4_method_12_code, 3, (some FieldType.boolean), 1, 2, [(0, .aload_n 0, 0, 0, .null, []),
  (1, .getfield 25, 2, 2, .null, []),
  (4, .iconst 2, 0, 0, .int 2, []),
  (5, .if_icmp .ne 10, 7, 0, .null, []),
  (8, .aload_n 0, 0, 0, .null, []),
  (9, .invokevirtual 107, 24, 0, .null, []),
  (12, .goto 11, 11, 0, .null, []),
  (15, .aload_n 0, 0, 0, .null, []),
  (16, .aload_n 1, 1, 0, .null, []),
  (17, .getfield 110, 0, 2, .null, []),
  (20, .invokevirtual 113, 25, 1, .null, []),
  (23, .istore_n 2, 2, 0, .null, []),
  (24, .iload_n 2, 2, 0, .null, []),
  (25, .ldc 116, 0, 0, .int (-1000000005), []),
  (27, .if_icmp .ne 5, 17, 0, .null, []),
  (30, .iconst 0, 0, 0, .int 0, []),
  (31, .ireturn, 0, 0, .null, []),
  (32, .aload_n 1, 1, 0, .null, []),
  (33, .iload_n 2, 2, 0, .null, []),
  (34, .invokevirtual 117, 2, 1, .null, []),
  (37, .aload_n 1, 1, 0, .null, []),
  (38, .dup, 0, 0, .null, []),
  (39, .getfield 120, 0, 3, .null, []),
  (42, .iconst 1, 0, 0, .int 1, []),
  (43, .iadd, 0, 0, .null, []),
  (44, .putfield 120, 0, 3, .null, []),
  (47, .aload_n 0, 0, 0, .null, []),
  (48, .aload_n 1, 1, 0, .null, []),
  (49, .invokevirtual 123, 28, 1, .null, []),
  (52, .iconst 1, 0, 0, .int 1, []),
  (53, .ireturn, 0, 0, .null, [])])
def mX2_numberRead : pM := (⟨RX2, "numberRead", "()I"⟩, prog_4_method_13_code, 3, (some FieldType.int), 1, 2, [(0, .aload_n 0, 0, 0, .null, []),
  (1, .getfield 22, 2, 4, .null, []),
  (4, .aload_n 0, 0, 0, .null, []),
  (5, .getfield 35, 2, 3, .null, []),
  (8, .isub, 0, 0, .null, []),
  (9, .iconst 4, 0, 0, .int 4, []),
  (10, .if_icmp .le 6, 9, 0, .null, []),
  (13, .ldc 116, 0, 0, .int (-1000000005), []),
  (15, .ireturn, 0, 0, .null, []),
  (16, .iconst 0, 0, 0, .int 0, []),
  (17, .istore_n 1, 1, 0, .null, []),
  (18, .aload_n 0, 0, 0, .null, []),
  (19, .getfield 35, 2, 3, .null, []),
  (22, .istore_n 2, 2, 0, .null, []),
  (23, .iload_n 2, 2, 0, .null, []),
  (24, .aload_n 0, 0, 0, .null, []),
  (25, .getfield 22, 2, 4, .null, []),
  (28, .if_icmp .ge 23, 30, 0, .null, []),
  (31, .bipush 10, 0, 0, .int 10, []),
  (33, .iload_n 1, 1, 0, .null, []),
  (34, .imul, 0, 0, .null, []),
  (35, .aload_n 0, 0, 0, .null, []),
  (36, .iload_n 2, 2, 0, .null, []),
  (37, .invokevirtual 65, 17, 1, .null, []),
  (40, .iadd, 0, 0, .null, []),
  (41, .bipush 48, 0, 0, .int 48, []),
  (43, .isub, 0, 0, .null, []),
  (44, .istore_n 1, 1, 0, .null, []),
  (45, .iinc 2 1, 2, 0, .null, []),
  (48, .goto (-25), 14, 0, .null, []),
  (51, .iload_n 1, 1, 0, .null, []),
  (52, .ireturn, 0, 0, .null, [])])
def mX2_nameRead : pM := (⟨RX2, "nameRead", "(I)I"⟩, prog_4_method_14_code, 4, (some FieldType.int), 1, 2, [])
def mX2_takeAhead : pM := (⟨RX2, "takeAhead", "(I)Z"⟩, prog_4_method_15_code, 2, (some FieldType.boolean), 1, 2, [(0, .iload_n 1, 1, 0, .null, []),
  (1, .bipush 40, 0, 0, .int 40, []),
  (3, .if_icmp .ne 29, 18, 0, .null, []),
  (6, .aload_n 0, 0, 0, .null, []),
  (7, .getfield 47, 2, 8, .null, []),
  (10, .bipush 8, 0, 0, .int 8, []),
  (12, .if_icmp .ge 20, 18, 0, .null, []),
  (15, .aload_n 0, 0, 0, .null, []),
  (16, .dup, 0, 0, .null, []),
  (17, .getfield 47, 2, 8, .null, []),
  (20, .iconst 1, 0, 0, .int 1, []),
  (21, .iadd, 0, 0, .null, []),
  (22, .putfield 47, 2, 8, .null, []),
  (25, .aload_n 0, 0, 0, .null, []),
  (26, .iload_n 1, 1, 0, .null, []),
  (27, .invokevirtual 136, 31, 1, .null, []),
  (30, .iconst 1, 0, 0, .int 1, []),
  (31, .ireturn, 0, 0, .null, []),
  (32, .iload_n 1, 1, 0, .null, []),
  (33, .bipush 33, 0, 0, .int 33, []),
  (35, .if_icmp .ne 29, 36, 0, .null, []),
  (38, .aload_n 0, 0, 0, .null, []),
  (39, .getfield 50, 2, 9, .null, []),
  (42, .bipush 8, 0, 0, .int 8, []),
  (44, .if_icmp .ge 20, 36, 0, .null, []),
  (47, .aload_n 0, 0, 0, .null, []),
  (48, .dup, 0, 0, .null, []),
  (49, .getfield 50, 2, 9, .null, []),
  (52, .iconst 1, 0, 0, .int 1, []),
  (53, .iadd, 0, 0, .null, []),
  (54, .putfield 50, 2, 9, .null, []),
  (57, .aload_n 0, 0, 0, .null, []),
  (58, .iload_n 1, 1, 0, .null, []),
  (59, .invokevirtual 136, 31, 1, .null, []),
  (62, .iconst 1, 0, 0, .int 1, []),
  (63, .ireturn, 0, 0, .null, []),
  (64, .iconst 0, 0, 0, .int 0, []),
  (65, .ireturn, 0, 0, .null, [])])
def mX2_takeBehind : pM := (⟨RX2, "takeBehind", "(LStoneSheets$Law;I)Z"⟩, prog_4_method_16_code, 4, (some FieldType.boolean), 1, 2, [(0, .iload_n 2, 2, 0, .null, []),
  (1, .bipush 41, 0, 0, .int 41, []),
  (3, .if_icmp .ne 43, 27, 0, .null, []),
  (6, .aload_n 0, 0, 0, .null, []),
  (7, .getfield 47, 2, 8, .null, []),
  (10, .ifCond .le 36, 27, 0, .null, []),
  (13, .aload_n 0, 0, 0, .null, []),
  (14, .aload_n 1, 1, 0, .null, []),
  (15, .iconst 1, 0, 0, .int 1, []),
  (16, .invokevirtual 61, 29, 2, .null, []),
  (19, .aload_n 0, 0, 0, .null, []),
  (20, .dup, 0, 0, .null, []),
  (21, .getfield 44, 2, 7, .null, []),
  (24, .iconst 1, 0, 0, .int 1, []),
  (25, .isub, 0, 0, .null, []),
  (26, .putfield 44, 2, 7, .null, []),
  (29, .aload_n 0, 0, 0, .null, []),
  (30, .dup, 0, 0, .null, []),
  (31, .getfield 47, 2, 8, .null, []),
  (34, .iconst 1, 0, 0, .int 1, []),
  (35, .isub, 0, 0, .null, []),
  (36, .putfield 47, 2, 8, .null, []),
  (39, .aload_n 0, 0, 0, .null, []),
  (40, .aload_n 1, 1, 0, .null, []),
  (41, .invokevirtual 123, 28, 1, .null, []),
  (44, .iconst 1, 0, 0, .int 1, []),
  (45, .ireturn, 0, 0, .null, []),
  (46, .iload_n 2, 2, 0, .null, []),
  (47, .invokestatic 139, 30, 1, .null, []),
  (50, .istore_n 3, 3, 0, .null, []),
  (51, .iload_n 3, 3, 0, .null, []),
  (52, .ifCond .ne 5, 34, 0, .null, []),
  (55, .iconst 0, 0, 0, .int 0, []),
  (56, .ireturn, 0, 0, .null, []),
  (57, .aload_n 0, 0, 0, .null, []),
  (58, .aload_n 1, 1, 0, .null, []),
  (59, .iload_n 3, 3, 0, .null, []),
  (60, .iconst 3, 0, 0, .int 3, []),
  (61, .if_icmp .ne 9, 43, 0, .null, []),
  (64, .iload_n 3, 3, 0, .null, []),
  (65, .iconst 1, 0, 0, .int 1, []),
  (66, .iadd, 0, 0, .null, []),
  (67, .goto 4, 44, 0, .null, []),
  (70, .iload_n 3, 3, 0, .null, []),
  (71, .invokevirtual 61, 29, 2, .null, []),
  (74, .iload_n 3, 3, 0, .null, []),
  (75, .iconst 3, 0, 0, .int 3, []),
  (76, .if_icmp .ne 16, 55, 0, .null, []),
  (79, .aload_n 0, 0, 0, .null, []),
  (80, .invokevirtual 142, 32, 0, .null, []),
  (83, .invokestatic 139, 30, 1, .null, []),
  (86, .iconst 3, 0, 0, .int 3, []),
  (87, .if_icmp .ne 5, 55, 0, .null, []),
  (90, .iconst 0, 0, 0, .int 0, []),
  (91, .ireturn, 0, 0, .null, []),
  (92, .aload_n 0, 0, 0, .null, []),
  (93, .iload_n 2, 2, 0, .null, []),
  (94, .invokevirtual 136, 31, 1, .null, []),
  (97, .aload_n 0, 0, 0, .null, []),
  (98, .iconst 1, 0, 0, .int 1, []),
  (99, .putfield 53, 2, 10, .null, []),
  (102, .iconst 1, 0, 0, .int 1, []),
  (103, .ireturn, 0, 0, .null, [])])
def mX2_endPiece : pM := (⟨RX2, "endPiece", "(LStoneSheets$Law;)V"⟩, prog_4_method_17_code, 2, none, 1, 2, [(0, .aload_n 0, 0, 0, .null, []),
  (1, .getfield 44, 2, 7, .null, []),
  (4, .ifCond .le 44, 25, 0, .null, []),
  (7, .aload_n 0, 0, 0, .null, []),
  (8, .invokevirtual 142, 32, 0, .null, []),
  (11, .bipush 33, 0, 0, .int 33, []),
  (13, .if_icmp .ne 35, 25, 0, .null, []),
  (16, .aload_n 1, 1, 0, .null, []),
  (17, .aload_n 0, 0, 0, .null, []),
  (18, .invokevirtual 142, 32, 0, .null, []),
  (21, .ineg, 0, 0, .null, []),
  (22, .invokevirtual 117, 2, 1, .null, []),
  (25, .aload_n 0, 0, 0, .null, []),
  (26, .dup, 0, 0, .null, []),
  (27, .getfield 44, 2, 7, .null, []),
  (30, .iconst 1, 0, 0, .int 1, []),
  (31, .isub, 0, 0, .null, []),
  (32, .putfield 44, 2, 7, .null, []),
  (35, .aload_n 0, 0, 0, .null, []),
  (36, .dup, 0, 0, .null, []),
  (37, .getfield 50, 2, 9, .null, []),
  (40, .iconst 1, 0, 0, .int 1, []),
  (41, .isub, 0, 0, .null, []),
  (42, .putfield 50, 2, 9, .null, []),
  (45, .goto (-45), 0, 0, .null, []),
  (48, .aload_n 0, 0, 0, .null, []),
  (49, .iconst 0, 0, 0, .int 0, []),
  (50, .putfield 53, 2, 10, .null, []),
  (53, .return_, 0, 0, .null, [])])
def mX2_unwind : pM := (⟨RX2, "unwind", "(LStoneSheets$Law;I)V"⟩, prog_4_method_18_code, 3, none, 1, 2, [(0, .aload_n 0, 0, 0, .null, []),
  (1, .getfield 44, 2, 7, .null, []),
  (4, .ifCond .le 36, 20, 0, .null, []),
  (7, .aload_n 0, 0, 0, .null, []),
  (8, .invokevirtual 142, 32, 0, .null, []),
  (11, .invokestatic 139, 30, 1, .null, []),
  (14, .iload_n 2, 2, 0, .null, []),
  (15, .if_icmp .lt 25, 20, 0, .null, []),
  (18, .aload_n 1, 1, 0, .null, []),
  (19, .aload_n 0, 0, 0, .null, []),
  (20, .invokevirtual 142, 32, 0, .null, []),
  (23, .ineg, 0, 0, .null, []),
  (24, .invokevirtual 117, 2, 1, .null, []),
  (27, .aload_n 0, 0, 0, .null, []),
  (28, .dup, 0, 0, .null, []),
  (29, .getfield 44, 2, 7, .null, []),
  (32, .iconst 1, 0, 0, .int 1, []),
  (33, .isub, 0, 0, .null, []),
  (34, .putfield 44, 2, 7, .null, []),
  (37, .goto (-37), 0, 0, .null, []),
  (40, .return_, 0, 0, .null, [])])
def mX2_rankOf : pM := (⟨RX2, "rankOf", "(I)I"⟩, prog_4_method_19_code, 1, (some FieldType.int), 0, 2, [(0, .iload_n 0, 0, 0, .null, []),
  (1, .lookupswitch 93 #[(38, 85), (42, 91), (43, 89), (45, 89), (47, 91), (60, 87), (61, 87), (62, 87), (124, 83)], 12, 83, .null, [4, 10, 8, 8, 10, 6, 6, 6, 2]),
  (84, .iconst 1, 0, 0, .int 1, []),
  (85, .ireturn, 0, 0, .null, []),
  (86, .iconst 2, 0, 0, .int 2, []),
  (87, .ireturn, 0, 0, .null, []),
  (88, .iconst 3, 0, 0, .int 3, []),
  (89, .ireturn, 0, 0, .null, []),
  (90, .iconst 4, 0, 0, .int 4, []),
  (91, .ireturn, 0, 0, .null, []),
  (92, .iconst 5, 0, 0, .int 5, []),
  (93, .ireturn, 0, 0, .null, []),
  (94, .iconst 0, 0, 0, .int 0, []),
  (95, .ireturn, 0, 0, .null, [])])
def mX2_push : pM := (⟨RX2, "push", "(I)V"⟩, prog_4_method_20_code, 2, none, 1, 2, [(0, .aload_n 0, 0, 0, .null, []),
  (1, .getfield 44, 2, 7, .null, []),
  (4, .ifCond .lt 35, 21, 0, .null, []),
  (7, .aload_n 0, 0, 0, .null, []),
  (8, .getfield 44, 2, 7, .null, []),
  (11, .aload_n 0, 0, 0, .null, []),
  (12, .getfield 15, 2, 6, .null, []),
  (15, .arraylength, 0, 0, .null, []),
  (16, .if_icmp .ge 23, 21, 0, .null, []),
  (19, .aload_n 0, 0, 0, .null, []),
  (20, .getfield 15, 2, 6, .null, []),
  (23, .aload_n 0, 0, 0, .null, []),
  (24, .getfield 44, 2, 7, .null, []),
  (27, .iload_n 1, 1, 0, .null, []),
  (28, .iastore, 0, 0, .null, []),
  (29, .aload_n 0, 0, 0, .null, []),
  (30, .dup, 0, 0, .null, []),
  (31, .getfield 44, 2, 7, .null, []),
  (34, .iconst 1, 0, 0, .int 1, []),
  (35, .iadd, 0, 0, .null, []),
  (36, .putfield 44, 2, 7, .null, []),
  (39, .return_, 0, 0, .null, [])])
def mX2_peek : pM := (⟨RX2, "peek", "()I"⟩, prog_4_method_21_code, 1, (some FieldType.int), 1, 2, [(0, .aload_n 0, 0, 0, .null, []),
  (1, .getfield 44, 2, 7, .null, []),
  (4, .ifCond .le 29, 17, 0, .null, []),
  (7, .aload_n 0, 0, 0, .null, []),
  (8, .getfield 44, 2, 7, .null, []),
  (11, .aload_n 0, 0, 0, .null, []),
  (12, .getfield 15, 2, 6, .null, []),
  (15, .arraylength, 0, 0, .null, []),
  (16, .if_icmp .gt 17, 17, 0, .null, []),
  (19, .aload_n 0, 0, 0, .null, []),
  (20, .getfield 15, 2, 6, .null, []),
  (23, .aload_n 0, 0, 0, .null, []),
  (24, .getfield 44, 2, 7, .null, []),
  (27, .iconst 1, 0, 0, .int 1, []),
  (28, .isub, 0, 0, .null, []),
  (29, .iaload, 0, 0, .null, []),
  (30, .goto 4, 18, 0, .null, []),
  (33, .iconst 0, 0, 0, .int 0, []),
  (34, .ireturn, 0, 0, .null, [])])
def mX3_init : pM := (⟨RX3, "<init>", "()V"⟩, prog_5_method_1_code, 1, none, 2, 3, [(0, .aload_n 0, 0, 0, .null, []),
  (1, .invokespecial 3, 99999, 0, .null, []),
  (4, .aload_n 0, 0, 0, .null, []),
  (5, .bipush 24, 0, 0, .int 24, []),
  (7, .newarray .int, 0, 0, .null, []),
  (9, .putfield 9, 3, 0, .null, []),
  (12, .aload_n 0, 0, 0, .null, []),
  (13, .iconst (-1), 0, 0, .int (-1), []),
  (14, .putfield 15, 3, 1, .null, []),
  (17, .return_, 0, 0, .null, [])])
def mX3_become : pM := (⟨RX3, "become", "(II)V"⟩, prog_5_method_2_code, 3, none, 1, 3, [(0, .aload_n 0, 0, 0, .null, []),
  (1, .iload_n 1, 1, 0, .null, []),
  (2, .putfield 15, 3, 1, .null, []),
  (5, .aload_n 0, 0, 0, .null, []),
  (6, .iload_n 2, 2, 0, .null, []),
  (7, .putfield 19, 3, 2, .null, []),
  (10, .aload_n 0, 0, 0, .null, []),
  (11, .getfield 9, 3, 0, .null, []),
  (14, .iconst 0, 0, 0, .int 0, []),
  (15, .invokestatic 22, 245, 2, .null, []),
  (18, .return_, 0, 0, .null, [])])
def mX3_isMissing : pM := (⟨RX3, "isMissing", "()Z"⟩, prog_5_method_3_code, 1, (some FieldType.boolean), 1, 3, [(0, .aload_n 0, 0, 0, .null, []),
  (1, .getfield 15, 3, 1, .null, []),
  (4, .iconst (-1), 0, 0, .int (-1), []),
  (5, .if_icmp .ne 7, 6, 0, .null, []),
  (8, .iconst 1, 0, 0, .int 1, []),
  (9, .goto 4, 7, 0, .null, []),
  (12, .iconst 0, 0, 0, .int 0, []),
  (13, .ireturn, 0, 0, .null, [])])
def mX3_has : pM := (⟨RX3, "has", "(I)Z"⟩, prog_5_method_4_code, 2, (some FieldType.boolean), 1, 3, [(0, .iload_n 1, 1, 0, .null, []),
  (1, .ifCond .lt 15, 8, 0, .null, []),
  (4, .iload_n 1, 1, 0, .null, []),
  (5, .aload_n 0, 0, 0, .null, []),
  (6, .getfield 19, 3, 2, .null, []),
  (9, .if_icmp .ge 7, 8, 0, .null, []),
  (12, .iconst 1, 0, 0, .int 1, []),
  (13, .goto 4, 9, 0, .null, []),
  (16, .iconst 0, 0, 0, .int 0, []),
  (17, .ireturn, 0, 0, .null, [])])
def mX3_hasAll : pM := (⟨RX3, "hasAll", "(II)Z"⟩, prog_5_method_5_code, 3, (some FieldType.boolean), 1, 3, [(0, .iload_n 1, 1, 0, .null, []),
  (1, .ifCond .lt 41, 22, 0, .null, []),
  (4, .iload_n 2, 2, 0, .null, []),
  (5, .ifCond .lt 37, 22, 0, .null, []),
  (8, .aload_n 0, 0, 0, .null, []),
  (9, .getfield 19, 3, 2, .null, []),
  (12, .aload_n 0, 0, 0, .null, []),
  (13, .getfield 9, 3, 0, .null, []),
  (16, .arraylength, 0, 0, .null, []),
  (17, .if_icmp .gt 25, 22, 0, .null, []),
  (20, .iload_n 1, 1, 0, .null, []),
  (21, .aload_n 0, 0, 0, .null, []),
  (22, .getfield 19, 3, 2, .null, []),
  (25, .if_icmp .gt 17, 22, 0, .null, []),
  (28, .iload_n 2, 2, 0, .null, []),
  (29, .aload_n 0, 0, 0, .null, []),
  (30, .getfield 19, 3, 2, .null, []),
  (33, .iload_n 1, 1, 0, .null, []),
  (34, .isub, 0, 0, .null, []),
  (35, .if_icmp .gt 7, 22, 0, .null, []),
  (38, .iconst 1, 0, 0, .int 1, []),
  (39, .goto 4, 23, 0, .null, []),
  (42, .iconst 0, 0, 0, .int 0, []),
  (43, .ireturn, 0, 0, .null, [])])
def mX3_at : pM := (⟨RX3, "at", "(I)I"⟩, prog_5_method_6_code, 2, (some FieldType.int), 1, 3, [(0, .aload_n 0, 0, 0, .null, []),
  (1, .iload_n 1, 1, 0, .null, []),
  (2, .invokevirtual 28, 36, 1, .null, []),
  (5, .ifCond .eq 21, 14, 0, .null, []),
  (8, .iload_n 1, 1, 0, .null, []),
  (9, .aload_n 0, 0, 0, .null, []),
  (10, .getfield 9, 3, 0, .null, []),
  (13, .arraylength, 0, 0, .null, []),
  (14, .if_icmp .ge 12, 14, 0, .null, []),
  (17, .aload_n 0, 0, 0, .null, []),
  (18, .getfield 9, 3, 0, .null, []),
  (21, .iload_n 1, 1, 0, .null, []),
  (22, .iaload, 0, 0, .null, []),
  (23, .goto 5, 15, 0, .null, []),
  (26, .ldc 32, 0, 0, .int (-1000000005), []),
  (28, .ireturn, 0, 0, .null, [])])
def mX3_put : pM := (⟨RX3, "put", "(II)V"⟩, prog_5_method_7_code, 3, none, 1, 3, [(0, .aload_n 0, 0, 0, .null, []),
  (1, .iload_n 1, 1, 0, .null, []),
  (2, .invokevirtual 28, 36, 1, .null, []),
  (5, .ifCond .eq 19, 14, 0, .null, []),
  (8, .iload_n 1, 1, 0, .null, []),
  (9, .aload_n 0, 0, 0, .null, []),
  (10, .getfield 9, 3, 0, .null, []),
  (13, .arraylength, 0, 0, .null, []),
  (14, .if_icmp .ge 10, 14, 0, .null, []),
  (17, .aload_n 0, 0, 0, .null, []),
  (18, .getfield 9, 3, 0, .null, []),
  (21, .iload_n 1, 1, 0, .null, []),
  (22, .iload_n 2, 2, 0, .null, []),
  (23, .iastore, 0, 0, .null, []),
  (24, .return_, 0, 0, .null, [])])
def mX3_takeFrom : pM := (⟨RX3, "takeFrom", "(LStoneSheets$Row;)V"⟩, prog_5_method_8_code, 2, none, 1, 3, [(0, .aload_n 1, 1, 0, .null, []),
  (1, .ifnull 34, 18, 0, .null, []),
  (4, .aload_n 1, 1, 0, .null, []),
  (5, .getfield 9, 3, 0, .null, []),
  (8, .iconst 0, 0, 0, .int 0, []),
  (9, .aload_n 0, 0, 0, .null, []),
  (10, .getfield 9, 3, 0, .null, []),
  (13, .iconst 0, 0, 0, .int 0, []),
  (14, .bipush 24, 0, 0, .int 24, []),
  (16, .invokestatic 33, 99999, 0, .null, []),
  (19, .aload_n 0, 0, 0, .null, []),
  (20, .aload_n 1, 1, 0, .null, []),
  (21, .getfield 15, 3, 1, .null, []),
  (24, .putfield 15, 3, 1, .null, []),
  (27, .aload_n 0, 0, 0, .null, []),
  (28, .aload_n 1, 1, 0, .null, []),
  (29, .getfield 19, 3, 2, .null, []),
  (32, .putfield 19, 3, 2, .null, []),
  (35, .return_, 0, 0, .null, [])])
def mX4_init : pM := (⟨RX4, "<init>", "()V"⟩, prog_6_method_1_code, 1, none, 2, 4, [(0, .aload_n 0, 0, 0, .null, []),
  (1, .invokespecial 3, 99999, 0, .null, []),
  (4, .aload_n 0, 0, 0, .null, []),
  (5, .iconst 1, 0, 0, .int 1, []),
  (6, .putfield 9, 4, 2, .null, []),
  (9, .aload_n 0, 0, 0, .null, []),
  (10, .bipush 16, 0, 0, .int 16, []),
  (12, .putfield 15, 4, 4, .null, []),
  (15, .aload_n 0, 0, 0, .null, []),
  (16, .bipush 50, 0, 0, .int 50, []),
  (18, .putfield 18, 4, 5, .null, []),
  (21, .return_, 0, 0, .null, [])])
def mX4_begin : pM := (⟨RX4, "begin", "(III)V"⟩, prog_6_method_2_code, 4, none, 1, 4, [(0, .aload_n 0, 0, 0, .null, []),
  (1, .iload_n 1, 1, 0, .null, []),
  (2, .putfield 21, 4, 0, .null, []),
  (5, .aload_n 0, 0, 0, .null, []),
  (6, .iload_n 2, 2, 0, .null, []),
  (7, .putfield 24, 4, 1, .null, []),
  (10, .aload_n 0, 0, 0, .null, []),
  (11, .iload_n 3, 3, 0, .null, []),
  (12, .putfield 9, 4, 2, .null, []),
  (15, .aload_n 0, 0, 0, .null, []),
  (16, .iconst 0, 0, 0, .int 0, []),
  (17, .putfield 27, 4, 3, .null, []),
  (20, .aload_n 0, 0, 0, .null, []),
  (21, .bipush 16, 0, 0, .int 16, []),
  (23, .putfield 15, 4, 4, .null, []),
  (26, .aload_n 0, 0, 0, .null, []),
  (27, .bipush 50, 0, 0, .int 50, []),
  (29, .putfield 18, 4, 5, .null, []),
  (32, .return_, 0, 0, .null, [])])
def mX4_takeFrom : pM := (⟨RX4, "takeFrom", "(LStoneSheets$Rubbing;)V"⟩, prog_6_method_3_code, 2, none, 1, 4, [(0, .aload_n 1, 1, 0, .null, []),
  (1, .ifnull 51, 26, 0, .null, []),
  (4, .aload_n 0, 0, 0, .null, []),
  (5, .aload_n 1, 1, 0, .null, []),
  (6, .getfield 21, 4, 0, .null, []),
  (9, .putfield 21, 4, 0, .null, []),
  (12, .aload_n 0, 0, 0, .null, []),
  (13, .aload_n 1, 1, 0, .null, []),
  (14, .getfield 24, 4, 1, .null, []),
  (17, .putfield 24, 4, 1, .null, []),
  (20, .aload_n 0, 0, 0, .null, []),
  (21, .aload_n 1, 1, 0, .null, []),
  (22, .getfield 9, 4, 2, .null, []),
  (25, .putfield 9, 4, 2, .null, []),
  (28, .aload_n 0, 0, 0, .null, []),
  (29, .aload_n 1, 1, 0, .null, []),
  (30, .getfield 27, 4, 3, .null, []),
  (33, .putfield 27, 4, 3, .null, []),
  (36, .aload_n 0, 0, 0, .null, []),
  (37, .aload_n 1, 1, 0, .null, []),
  (38, .getfield 15, 4, 4, .null, []),
  (41, .putfield 15, 4, 4, .null, []),
  (44, .aload_n 0, 0, 0, .null, []),
  (45, .aload_n 1, 1, 0, .null, []),
  (46, .getfield 18, 4, 5, .null, []),
  (49, .putfield 18, 4, 5, .null, []),
  (52, .return_, 0, 0, .null, [])])
def mX4_value : pM := (⟨RX4, "value", "(I)I"⟩, prog_6_method_4_code, 2, (some FieldType.int), 1, 4, [(0, .iload_n 1, 1, 0, .null, []),
  (1, .tableswitch 51 1 4 #[31, 36, 41, 46], 14, 31, .null, [2, 5, 8, 11]),
  (32, .aload_n 0, 0, 0, .null, []),
  (33, .getfield 24, 4, 1, .null, []),
  (36, .ireturn, 0, 0, .null, []),
  (37, .aload_n 0, 0, 0, .null, []),
  (38, .getfield 9, 4, 2, .null, []),
  (41, .ireturn, 0, 0, .null, []),
  (42, .aload_n 0, 0, 0, .null, []),
  (43, .getfield 27, 4, 3, .null, []),
  (46, .ireturn, 0, 0, .null, []),
  (47, .aload_n 0, 0, 0, .null, []),
  (48, .getfield 15, 4, 4, .null, []),
  (51, .ireturn, 0, 0, .null, []),
  (52, .aload_n 0, 0, 0, .null, []),
  (53, .getfield 18, 4, 5, .null, []),
  (56, .ireturn, 0, 0, .null, [])])
def mX4_become : pM := (⟨RX4, "become", "(II)V"⟩, prog_6_method_5_code, 3, none, 1, 4, [(0, .iload_n 1, 1, 0, .null, []),
  (1, .tableswitch 63 1 4 #[31, 39, 47, 55], 18, 31, .null, [2, 6, 10, 14]),
  (32, .aload_n 0, 0, 0, .null, []),
  (33, .iload_n 2, 2, 0, .null, []),
  (34, .putfield 24, 4, 1, .null, []),
  (37, .goto 32, 21, 0, .null, []),
  (40, .aload_n 0, 0, 0, .null, []),
  (41, .iload_n 2, 2, 0, .null, []),
  (42, .putfield 9, 4, 2, .null, []),
  (45, .goto 24, 21, 0, .null, []),
  (48, .aload_n 0, 0, 0, .null, []),
  (49, .iload_n 2, 2, 0, .null, []),
  (50, .putfield 27, 4, 3, .null, []),
  (53, .goto 16, 21, 0, .null, []),
  (56, .aload_n 0, 0, 0, .null, []),
  (57, .iload_n 2, 2, 0, .null, []),
  (58, .putfield 15, 4, 4, .null, []),
  (61, .goto 8, 21, 0, .null, []),
  (64, .aload_n 0, 0, 0, .null, []),
  (65, .iload_n 2, 2, 0, .null, []),
  (66, .putfield 18, 4, 5, .null, []),
  (69, .return_, 0, 0, .null, [])])
def mX4_isOf : pM := (⟨RX4, "isOf", "(I)Z"⟩, prog_6_method_6_code, 4, (some FieldType.boolean), 1, 4, [])
def mX4_isLaid : pM := (⟨RX4, "isLaid", "()Z"⟩, prog_6_method_7_code, 1, (some FieldType.boolean), 1, 4, [(0, .aload_n 0, 0, 0, .null, []),
  (1, .getfield 15, 4, 4, .null, []),
  (4, .bipush 16, 0, 0, .int 16, []),
  (6, .if_icmp .eq 7, 6, 0, .null, []),
  (9, .iconst 1, 0, 0, .int 1, []),
  (10, .goto 4, 7, 0, .null, []),
  (13, .iconst 0, 0, 0, .int 0, []),
  (14, .ireturn, 0, 0, .null, [])])
def mX4_covers : pM := (⟨RX4, "covers", "(I)Z"⟩, prog_6_method_8_code, 2, (some FieldType.boolean), 1, 4, [(0, .aload_n 0, 0, 0, .null, []),
  (1, .invokevirtual 34, 47, 0, .null, []),
  (4, .ifCond .eq 35, 19, 0, .null, []),
  (7, .iload_n 1, 1, 0, .null, []),
  (8, .invokestatic 38, 133, 1, .int 1, []),
  (11, .ifCond .eq 28, 19, 0, .null, []),
  (14, .iload_n 1, 1, 0, .null, []),
  (15, .aload_n 0, 0, 0, .null, []),
  (16, .getfield 15, 4, 4, .null, []),
  (19, .if_icmp .lt 20, 19, 0, .null, []),
  (22, .iload_n 1, 1, 0, .null, []),
  (23, .aload_n 0, 0, 0, .null, []),
  (24, .getfield 15, 4, 4, .null, []),
  (27, .aload_n 0, 0, 0, .null, []),
  (28, .getfield 9, 4, 2, .null, []),
  (31, .iadd, 0, 0, .null, []),
  (32, .if_icmp .ge 7, 19, 0, .null, []),
  (35, .iconst 1, 0, 0, .int 1, []),
  (36, .goto 4, 20, 0, .null, []),
  (39, .iconst 0, 0, 0, .int 0, []),
  (40, .ireturn, 0, 0, .null, [])])
def mX4_covered : pM := (⟨RX4, "covered", "()I"⟩, prog_6_method_9_code, 3, (some FieldType.int), 1, 4, [(0, .iconst 0, 0, 0, .int 0, []),
  (1, .istore_n 1, 1, 0, .null, []),
  (2, .iconst 0, 0, 0, .int 0, []),
  (3, .istore_n 2, 2, 0, .null, []),
  (4, .iload_n 2, 2, 0, .null, []),
  (5, .bipush 16, 0, 0, .int 16, []),
  (7, .if_icmp .ge 23, 19, 0, .null, []),
  (10, .aload_n 0, 0, 0, .null, []),
  (11, .iload_n 2, 2, 0, .null, []),
  (12, .invokevirtual 42, 48, 1, .null, []),
  (15, .ifCond .eq 9, 17, 0, .null, []),
  (18, .iload_n 1, 1, 0, .null, []),
  (19, .iconst 1, 0, 0, .int 1, []),
  (20, .iload_n 2, 2, 0, .null, []),
  (21, .ishl, 0, 0, .null, []),
  (22, .ior, 0, 0, .null, []),
  (23, .istore_n 1, 1, 0, .null, []),
  (24, .iinc 2 1, 2, 0, .null, []),
  (27, .goto (-23), 4, 0, .null, []),
  (30, .iload_n 1, 1, 0, .null, []),
  (31, .ireturn, 0, 0, .null, [])])
def mX4_sayAt : pM := (⟨RX4, "sayAt", "(I)I"⟩, prog_6_method_10_code, 2, (some FieldType.int), 1, 4, [(0, .iload_n 1, 1, 0, .null, []),
  (1, .ifCond .lt 11, 6, 0, .null, []),
  (4, .iload_n 1, 1, 0, .null, []),
  (5, .aload_n 0, 0, 0, .null, []),
  (6, .getfield 9, 4, 2, .null, []),
  (9, .if_icmp .lt 5, 8, 0, .null, []),
  (12, .iconst 0, 0, 0, .int 0, []),
  (13, .ireturn, 0, 0, .null, []),
  (14, .aload_n 0, 0, 0, .null, []),
  (15, .getfield 21, 4, 0, .null, []),
  (18, .tableswitch 89 1 5 #[34, 55, 43, 64, 87], 42, 34, .null, [11, 22, 16, 27, 40]),
  (52, .aload_n 0, 0, 0, .null, []),
  (53, .iload_n 1, 1, 0, .null, []),
  (54, .invokevirtual 45, 51, 1, .null, []),
  (57, .invokestatic 49, 52, 1, .null, []),
  (60, .ireturn, 0, 0, .null, []),
  (61, .aload_n 0, 0, 0, .null, []),
  (62, .iload_n 1, 1, 0, .null, []),
  (63, .invokevirtual 45, 51, 1, .null, []),
  (66, .invokestatic 49, 52, 1, .null, []),
  (69, .invokestatic 49, 52, 1, .null, []),
  (72, .ireturn, 0, 0, .null, []),
  (73, .aload_n 0, 0, 0, .null, []),
  (74, .iload_n 1, 1, 0, .null, []),
  (75, .invokevirtual 45, 51, 1, .null, []),
  (78, .invokestatic 52, 53, 1, .null, []),
  (81, .ireturn, 0, 0, .null, []),
  (82, .iload_n 1, 1, 0, .null, []),
  (83, .aload_n 0, 0, 0, .null, []),
  (84, .getfield 9, 4, 2, .null, []),
  (87, .iconst 2, 0, 0, .int 2, []),
  (88, .idiv, 0, 0, .null, []),
  (89, .if_icmp .ne 7, 35, 0, .null, []),
  (92, .iconst 3, 0, 0, .int 3, []),
  (93, .goto 11, 39, 0, .null, []),
  (96, .aload_n 0, 0, 0, .null, []),
  (97, .iload_n 1, 1, 0, .null, []),
  (98, .invokevirtual 45, 51, 1, .null, []),
  (101, .invokestatic 52, 53, 1, .null, []),
  (104, .ireturn, 0, 0, .null, []),
  (105, .iconst 2, 0, 0, .int 2, []),
  (106, .ireturn, 0, 0, .null, []),
  (107, .aload_n 0, 0, 0, .null, []),
  (108, .iload_n 1, 1, 0, .null, []),
  (109, .invokevirtual 45, 51, 1, .null, []),
  (112, .ireturn, 0, 0, .null, [])])
def mX4_rubbedAt : pM := (⟨RX4, "rubbedAt", "(I)I"⟩, prog_6_method_11_code, 3, (some FieldType.int), 1, 4, [(0, .aload_n 0, 0, 0, .null, []),
  (1, .getfield 27, 4, 3, .null, []),
  (4, .iconst 1, 0, 0, .int 1, []),
  (5, .if_icmp .ne 14, 11, 0, .null, []),
  (8, .aload_n 0, 0, 0, .null, []),
  (9, .getfield 9, 4, 2, .null, []),
  (12, .iconst 1, 0, 0, .int 1, []),
  (13, .isub, 0, 0, .null, []),
  (14, .iload_n 1, 1, 0, .null, []),
  (15, .isub, 0, 0, .null, []),
  (16, .goto 4, 12, 0, .null, []),
  (19, .iload_n 1, 1, 0, .null, []),
  (20, .istore_n 2, 2, 0, .null, []),
  (21, .aload_n 0, 0, 0, .null, []),
  (22, .getfield 24, 4, 1, .null, []),
  (25, .iconst 2, 0, 0, .int 2, []),
  (26, .iload_n 2, 2, 0, .null, []),
  (27, .imul, 0, 0, .null, []),
  (28, .ishr, 0, 0, .null, []),
  (29, .iconst 3, 0, 0, .int 3, []),
  (30, .iand, 0, 0, .null, []),
  (31, .ireturn, 0, 0, .null, [])])
def mX4_bolder : pM := (⟨RX4, "bolder", "(I)I"⟩, prog_6_method_12_code, 1, (some FieldType.int), 0, 4, [(0, .iload_n 0, 0, 0, .null, []),
  (1, .ifCond .le 13, 8, 0, .null, []),
  (4, .iconst 3, 0, 0, .int 3, []),
  (5, .iload_n 0, 0, 0, .null, []),
  (6, .iconst 1, 0, 0, .int 1, []),
  (7, .iadd, 0, 0, .null, []),
  (8, .invokestatic 55, 99991, 0, .null, []),
  (11, .goto 4, 9, 0, .null, []),
  (14, .iload_n 0, 0, 0, .null, []),
  (15, .ireturn, 0, 0, .null, [])])
def mX4_fainter : pM := (⟨RX4, "fainter", "(I)I"⟩, prog_6_method_13_code, 1, (some FieldType.int), 0, 4, [(0, .iconst 0, 0, 0, .int 0, []),
  (1, .iload_n 0, 0, 0, .null, []),
  (2, .iconst 1, 0, 0, .int 1, []),
  (3, .isub, 0, 0, .null, []),
  (4, .invokestatic 61, 99990, 0, .null, []),
  (7, .ireturn, 0, 0, .null, [])])
def mX4_gainOver : pM := (⟨RX4, "gainOver", "(I)I"⟩, prog_6_method_14_code, 2, (some FieldType.int), 1, 4, [(0, .aload_n 0, 0, 0, .null, []),
  (1, .getfield 21, 4, 0, .null, []),
  (4, .tableswitch 52 1 5 #[36, 40, 36, 44, 50], 19, 36, .null, [3, 7, 3, 11, 17]),
  (40, .iload_n 1, 1, 0, .null, []),
  (41, .iconst 1, 0, 0, .int 1, []),
  (42, .iadd, 0, 0, .null, []),
  (43, .ireturn, 0, 0, .null, []),
  (44, .iload_n 1, 1, 0, .null, []),
  (45, .iconst 2, 0, 0, .int 2, []),
  (46, .idiv, 0, 0, .null, []),
  (47, .ireturn, 0, 0, .null, []),
  (48, .iload_n 1, 1, 0, .null, []),
  (49, .iconst 2, 0, 0, .int 2, []),
  (50, .idiv, 0, 0, .null, []),
  (51, .iconst 2, 0, 0, .int 2, []),
  (52, .iadd, 0, 0, .null, []),
  (53, .ireturn, 0, 0, .null, []),
  (54, .iconst 0, 0, 0, .int 0, []),
  (55, .ireturn, 0, 0, .null, []),
  (56, .iload_n 1, 1, 0, .null, []),
  (57, .ireturn, 0, 0, .null, [])])
def mX4_loss : pM := (⟨RX4, "loss", "()I"⟩, prog_6_method_15_code, 1, (some FieldType.int), 1, 4, [(0, .aload_n 0, 0, 0, .null, []),
  (1, .getfield 21, 4, 0, .null, []),
  (4, .tableswitch 47 1 5 #[36, 42, 39, 42, 44], 11, 36, .null, [3, 7, 5, 7, 9]),
  (40, .bipush 7, 0, 0, .int 7, []),
  (42, .ireturn, 0, 0, .null, []),
  (43, .bipush 14, 0, 0, .int 14, []),
  (45, .ireturn, 0, 0, .null, []),
  (46, .iconst 3, 0, 0, .int 3, []),
  (47, .ireturn, 0, 0, .null, []),
  (48, .bipush 20, 0, 0, .int 20, []),
  (50, .ireturn, 0, 0, .null, []),
  (51, .iconst 5, 0, 0, .int 5, []),
  (52, .ireturn, 0, 0, .null, [])])
def mX4_worth : pM := (⟨RX4, "worth", "()I"⟩, prog_6_method_16_code, 1, (some FieldType.int), 1, 4, [(0, .aload_n 0, 0, 0, .null, []),
  (1, .getfield 21, 4, 0, .null, []),
  (4, .tableswitch 73 1 5 #[36, 52, 43, 60, 71], 29, 36, .null, [3, 15, 8, 20, 27]),
  (40, .aload_n 0, 0, 0, .null, []),
  (41, .getfield 18, 4, 5, .null, []),
  (44, .iconst 5, 0, 0, .int 5, []),
  (45, .iadd, 0, 0, .null, []),
  (46, .ireturn, 0, 0, .null, []),
  (47, .iconst 2, 0, 0, .int 2, []),
  (48, .aload_n 0, 0, 0, .null, []),
  (49, .getfield 18, 4, 5, .null, []),
  (52, .iconst 5, 0, 0, .int 5, []),
  (53, .iadd, 0, 0, .null, []),
  (54, .imul, 0, 0, .null, []),
  (55, .ireturn, 0, 0, .null, []),
  (56, .bipush 99, 0, 0, .int 99, []),
  (58, .aload_n 0, 0, 0, .null, []),
  (59, .getfield 18, 4, 5, .null, []),
  (62, .isub, 0, 0, .null, []),
  (63, .ireturn, 0, 0, .null, []),
  (64, .bipush 99, 0, 0, .int 99, []),
  (66, .aload_n 0, 0, 0, .null, []),
  (67, .getfield 18, 4, 5, .null, []),
  (70, .isub, 0, 0, .null, []),
  (71, .bipush 6, 0, 0, .int 6, []),
  (73, .isub, 0, 0, .null, []),
  (74, .ireturn, 0, 0, .null, []),
  (75, .iconst 1, 0, 0, .int 1, []),
  (76, .ireturn, 0, 0, .null, []),
  (77, .aload_n 0, 0, 0, .null, []),
  (78, .getfield 18, 4, 5, .null, []),
  (81, .ireturn, 0, 0, .null, [])])
def mX4_joined : pM := (⟨RX4, "joined", "(LStoneSheets$Rubbing;I)I"⟩, prog_6_method_17_code, 5, (some FieldType.int), 1, 4, [(0, .iconst 0, 0, 0, .int 0, []),
  (1, .istore_n 3, 3, 0, .null, []),
  (2, .iload_n 2, 2, 0, .null, []),
  (3, .istore 4, 4, 0, .null, []),
  (5, .iload 4, 4, 0, .null, []),
  (7, .aload_n 0, 0, 0, .null, []),
  (8, .getfield 9, 4, 2, .null, []),
  (11, .if_icmp .ge 46, 31, 0, .null, []),
  (14, .iload 4, 4, 0, .null, []),
  (16, .iload_n 2, 2, 0, .null, []),
  (17, .isub, 0, 0, .null, []),
  (18, .aload_n 1, 1, 0, .null, []),
  (19, .getfield 9, 4, 2, .null, []),
  (22, .if_icmp .ge 35, 31, 0, .null, []),
  (25, .iload_n 3, 3, 0, .null, []),
  (26, .aload_n 0, 0, 0, .null, []),
  (27, .iload 4, 4, 0, .null, []),
  (29, .invokevirtual 64, 50, 1, .null, []),
  (32, .aload_n 1, 1, 0, .null, []),
  (33, .iload 4, 4, 0, .null, []),
  (35, .iload_n 2, 2, 0, .null, []),
  (36, .isub, 0, 0, .null, []),
  (37, .invokevirtual 64, 50, 1, .null, []),
  (40, .if_icmp .ne 7, 26, 0, .null, []),
  (43, .iconst 1, 0, 0, .int 1, []),
  (44, .goto 5, 27, 0, .null, []),
  (47, .bipush (-2), 0, 0, .int (-2), []),
  (49, .iadd, 0, 0, .null, []),
  (50, .istore_n 3, 3, 0, .null, []),
  (51, .iinc 4 1, 4, 0, .null, []),
  (54, .goto (-49), 4, 0, .null, []),
  (57, .iload_n 3, 3, 0, .null, []),
  (58, .ireturn, 0, 0, .null, [])])
def mX4_clashes : pM := (⟨RX4, "clashes", "(LStoneSheets$Rubbing;)Z"⟩, prog_6_method_18_code, 3, (some FieldType.boolean), 1, 4, [(0, .iconst 0, 0, 0, .int 0, []),
  (1, .istore_n 2, 2, 0, .null, []),
  (2, .iload_n 2, 2, 0, .null, []),
  (3, .bipush 16, 0, 0, .int 16, []),
  (5, .if_icmp .ge 50, 30, 0, .null, []),
  (8, .aload_n 0, 0, 0, .null, []),
  (9, .iload_n 2, 2, 0, .null, []),
  (10, .invokevirtual 42, 48, 1, .null, []),
  (13, .ifCond .eq 36, 28, 0, .null, []),
  (16, .aload_n 1, 1, 0, .null, []),
  (17, .iload_n 2, 2, 0, .null, []),
  (18, .invokevirtual 42, 48, 1, .null, []),
  (21, .ifCond .eq 28, 28, 0, .null, []),
  (24, .aload_n 0, 0, 0, .null, []),
  (25, .iload_n 2, 2, 0, .null, []),
  (26, .aload_n 0, 0, 0, .null, []),
  (27, .getfield 15, 4, 4, .null, []),
  (30, .isub, 0, 0, .null, []),
  (31, .invokevirtual 64, 50, 1, .null, []),
  (34, .aload_n 1, 1, 0, .null, []),
  (35, .iload_n 2, 2, 0, .null, []),
  (36, .aload_n 1, 1, 0, .null, []),
  (37, .getfield 15, 4, 4, .null, []),
  (40, .isub, 0, 0, .null, []),
  (41, .invokevirtual 64, 50, 1, .null, []),
  (44, .if_icmp .eq 5, 28, 0, .null, []),
  (47, .iconst 1, 0, 0, .int 1, []),
  (48, .ireturn, 0, 0, .null, []),
  (49, .iinc 2 1, 2, 0, .null, []),
  (52, .goto (-50), 2, 0, .null, []),
  (55, .iconst 0, 0, 0, .int 0, []),
  (56, .ireturn, 0, 0, .null, [])])
def mX5_init : pM := (⟨RX5, "<init>", "()V"⟩, prog_7_method_1_code, 1, none, 2, 5, [(0, .aload_n 0, 0, 0, .null, []),
  (1, .invokespecial 1, 99999, 0, .null, []),
  (4, .aload_n 0, 0, 0, .null, []),
  (5, .new 7, 4, 0, .null, []),
  (8, .dup, 0, 0, .null, []),
  (9, .invokespecial 9, 41, 0, .int 1, []),
  (12, .putfield 10, 5, 0, .null, []),
  (15, .aload_n 0, 0, 0, .null, []),
  (16, .new 16, 3, 0, .null, []),
  (19, .dup, 0, 0, .null, []),
  (20, .invokespecial 18, 33, 0, .int 1, []),
  (23, .putfield 19, 5, 1, .null, []),
  (26, .aload_n 0, 0, 0, .null, []),
  (27, .iconst 0, 0, 0, .int 0, []),
  (28, .putfield 23, 5, 2, .null, []),
  (31, .return_, 0, 0, .null, [])])
def mX6_init : pM := (⟨RX6, "<init>", "(LStoneSheets$Laws;)V"⟩, prog_8_method_1_code, 3, none, 2, 6, [(0, .aload_n 0, 0, 0, .null, []),
  (1, .invokespecial 3, 99999, 0, .null, []),
  (4, .aload_n 0, 0, 0, .null, []),
  (5, .bipush 16, 0, 0, .int 16, []),
  (7, .newarray .int, 0, 0, .null, []),
  (9, .putfield 9, 6, 1, .null, []),
  (12, .aload_n 0, 0, 0, .null, []),
  (13, .bipush 9, 0, 0, .int 9, []),
  (15, .anewarray 15, 4, 0, .null, []),
  (18, .putfield 17, 6, 2, .null, []),
  (21, .aload_n 0, 0, 0, .null, []),
  (22, .bipush 9, 0, 0, .int 9, []),
  (24, .newarray .int, 0, 0, .null, []),
  (26, .putfield 21, 6, 3, .null, []),
  (29, .aload_n 0, 0, 0, .null, []),
  (30, .iconst 3, 0, 0, .int 3, []),
  (31, .newarray .int, 0, 0, .null, []),
  (33, .putfield 24, 6, 4, .null, []),
  (36, .aload_n 0, 0, 0, .null, []),
  (37, .iconst 1, 0, 0, .int 1, []),
  (38, .putfield 27, 6, 9, .null, []),
  (41, .aload_n 0, 0, 0, .null, []),
  (42, .aload_n 1, 1, 0, .null, []),
  (43, .putfield 31, 6, 0, .null, []),
  (46, .aload_n 0, 0, 0, .null, []),
  (47, .getfield 24, 6, 4, .null, []),
  (50, .ldc 35, 0, 0, .int (-1000000005), []),
  (52, .invokestatic 36, 245, 2, .null, []),
  (55, .iconst 0, 0, 0, .int 0, []),
  (56, .istore_n 2, 2, 0, .null, []),
  (57, .iload_n 2, 2, 0, .null, []),
  (58, .aload_n 0, 0, 0, .null, []),
  (59, .getfield 17, 6, 2, .null, []),
  (62, .arraylength, 0, 0, .null, []),
  (63, .if_icmp .ge 22, 44, 0, .null, []),
  (66, .aload_n 0, 0, 0, .null, []),
  (67, .getfield 17, 6, 2, .null, []),
  (70, .iload_n 2, 2, 0, .null, []),
  (71, .new 15, 4, 0, .null, []),
  (74, .dup, 0, 0, .null, []),
  (75, .invokespecial 42, 41, 0, .int 1, []),
  (78, .aastore, 0, 0, .null, []),
  (79, .iinc 2 1, 2, 0, .null, []),
  (82, .goto (-25), 30, 0, .null, []),
  (85, .return_, 0, 0, .null, [])])
def mX6_takeFrom : pM := (⟨RX6, "takeFrom", "(LStoneSheets$Wall;)V"⟩, prog_8_method_2_code, 4, none, 1, 6, [(0, .aload_n 1, 1, 0, .null, []),
  (1, .getfield 9, 6, 1, .null, []),
  (4, .iconst 0, 0, 0, .int 0, []),
  (5, .aload_n 0, 0, 0, .null, []),
  (6, .getfield 9, 6, 1, .null, []),
  (9, .iconst 0, 0, 0, .int 0, []),
  (10, .bipush 16, 0, 0, .int 16, []),
  (12, .invokestatic 43, 99999, 0, .null, []),
  (15, .aload_n 1, 1, 0, .null, []),
  (16, .getfield 24, 6, 4, .null, []),
  (19, .iconst 0, 0, 0, .int 0, []),
  (20, .aload_n 0, 0, 0, .null, []),
  (21, .getfield 24, 6, 4, .null, []),
  (24, .iconst 0, 0, 0, .int 0, []),
  (25, .iconst 3, 0, 0, .int 3, []),
  (26, .invokestatic 43, 99999, 0, .null, []),
  (29, .aload_n 0, 0, 0, .null, []),
  (30, .aload_n 1, 1, 0, .null, []),
  (31, .getfield 49, 6, 5, .null, []),
  (34, .putfield 49, 6, 5, .null, []),
  (37, .aload_n 0, 0, 0, .null, []),
  (38, .aload_n 1, 1, 0, .null, []),
  (39, .getfield 52, 6, 6, .null, []),
  (42, .putfield 52, 6, 6, .null, []),
  (45, .aload_n 0, 0, 0, .null, []),
  (46, .aload_n 1, 1, 0, .null, []),
  (47, .getfield 55, 6, 7, .null, []),
  (50, .putfield 55, 6, 7, .null, []),
  (53, .aload_n 0, 0, 0, .null, []),
  (54, .aload_n 1, 1, 0, .null, []),
  (55, .getfield 58, 6, 8, .null, []),
  (58, .putfield 58, 6, 8, .null, []),
  (61, .aload_n 0, 0, 0, .null, []),
  (62, .aload_n 1, 1, 0, .null, []),
  (63, .getfield 27, 6, 9, .null, []),
  (66, .putfield 27, 6, 9, .null, []),
  (69, .iconst 0, 0, 0, .int 0, []),
  (70, .istore_n 2, 2, 0, .null, []),
  (71, .iload_n 2, 2, 0, .null, []),
  (72, .aload_n 0, 0, 0, .null, []),
  (73, .getfield 49, 6, 5, .null, []),
  (76, .if_icmp .ge 28, 55, 0, .null, []),
  (79, .aload_n 0, 0, 0, .null, []),
  (80, .iload_n 2, 2, 0, .null, []),
  (81, .invokevirtual 61, 64, 1, .null, []),
  (84, .astore_n 3, 3, 0, .null, []),
  (85, .aload_n 3, 3, 0, .null, []),
  (86, .ifnull 12, 53, 0, .null, []),
  (89, .aload_n 3, 3, 0, .null, []),
  (90, .aload_n 1, 1, 0, .null, []),
  (91, .iload_n 2, 2, 0, .null, []),
  (92, .invokevirtual 61, 64, 1, .null, []),
  (95, .invokevirtual 65, 43, 1, .null, []),
  (98, .iinc 2 1, 2, 0, .null, []),
  (101, .goto (-30), 38, 0, .null, []),
  (104, .return_, 0, 0, .null, [])])
def mX6_hasRoom : pM := (⟨RX6, "hasRoom", "()Z"⟩, prog_8_method_3_code, 1, (some FieldType.boolean), 1, 6, [(0, .aload_n 0, 0, 0, .null, []),
  (1, .getfield 49, 6, 5, .null, []),
  (4, .bipush 9, 0, 0, .int 9, []),
  (6, .if_icmp .ge 7, 6, 0, .null, []),
  (9, .iconst 1, 0, 0, .int 1, []),
  (10, .goto 4, 7, 0, .null, []),
  (13, .iconst 0, 0, 0, .int 0, []),
  (14, .ireturn, 0, 0, .null, [])])
def mX6_add : pM := (⟨RX6, "add", "(III)I"⟩, prog_8_method_4_code, 6, (some FieldType.int), 1, 6, [(0, .aload_n 0, 0, 0, .null, []),
  (1, .getfield 49, 6, 5, .null, []),
  (4, .istore 4, 4, 0, .null, []),
  (6, .aload_n 0, 0, 0, .null, []),
  (7, .dup, 0, 0, .null, []),
  (8, .getfield 49, 6, 5, .null, []),
  (11, .iconst 1, 0, 0, .int 1, []),
  (12, .iadd, 0, 0, .null, []),
  (13, .putfield 49, 6, 5, .null, []),
  (16, .aload_n 0, 0, 0, .null, []),
  (17, .iload 4, 4, 0, .null, []),
  (19, .invokevirtual 61, 64, 1, .null, []),
  (22, .astore 5, 5, 0, .null, []),
  (24, .aload 5, 5, 0, .null, []),
  (26, .ifnull 11, 20, 0, .null, []),
  (29, .aload 5, 5, 0, .null, []),
  (31, .iload_n 1, 1, 0, .null, []),
  (32, .iload_n 2, 2, 0, .null, []),
  (33, .iload_n 3, 3, 0, .null, []),
  (34, .invokevirtual 69, 42, 3, .null, []),
  (37, .iload 4, 4, 0, .null, []),
  (39, .ireturn, 0, 0, .null, [])])
def mX6_one : pM := (⟨RX6, "one", "(I)LStoneSheets$Rubbing;"⟩, prog_8_method_5_code, 2, (some (FieldType.object "StoneSheets$Rubbing")), 1, 6, [(0, .iload_n 1, 1, 0, .null, []),
  (1, .ifCond .lt 29, 16, 0, .null, []),
  (4, .iload_n 1, 1, 0, .null, []),
  (5, .aload_n 0, 0, 0, .null, []),
  (6, .getfield 49, 6, 5, .null, []),
  (9, .if_icmp .ge 21, 16, 0, .null, []),
  (12, .iload_n 1, 1, 0, .null, []),
  (13, .aload_n 0, 0, 0, .null, []),
  (14, .getfield 17, 6, 2, .null, []),
  (17, .arraylength, 0, 0, .null, []),
  (18, .if_icmp .ge 12, 16, 0, .null, []),
  (21, .aload_n 0, 0, 0, .null, []),
  (22, .getfield 17, 6, 2, .null, []),
  (25, .iload_n 1, 1, 0, .null, []),
  (26, .aaload, 0, 0, .null, []),
  (27, .goto 4, 17, 0, .null, []),
  (30, .aconst_null, 0, 0, .null, []),
  (31, .areturn, 0, 0, .null, [])])
def mX6_trustOf : pM := (⟨RX6, "trustOf", "(I)I"⟩, prog_8_method_6_code, 3, (some FieldType.int), 1, 6, [(0, .aload_n 0, 0, 0, .null, []),
  (1, .iload_n 1, 1, 0, .null, []),
  (2, .invokevirtual 61, 64, 1, .null, []),
  (5, .astore_n 2, 2, 0, .null, []),
  (6, .aload_n 2, 2, 0, .null, []),
  (7, .ifnonnull 7, 8, 0, .null, []),
  (10, .iconst 0, 0, 0, .int 0, []),
  (11, .goto 7, 10, 0, .null, []),
  (14, .aload_n 2, 2, 0, .null, []),
  (15, .getfield 73, 4, 5, .null, []),
  (18, .ireturn, 0, 0, .null, [])])
def mX6_layOne : pM := (⟨RX6, "layOne", "(II)V"⟩, prog_8_method_7_code, 4, none, 1, 6, [(0, .aload_n 0, 0, 0, .null, []),
  (1, .iload_n 1, 1, 0, .null, []),
  (2, .invokevirtual 61, 64, 1, .null, []),
  (5, .astore_n 3, 3, 0, .null, []),
  (6, .aload_n 3, 3, 0, .null, []),
  (7, .ifnull 8, 9, 0, .null, []),
  (10, .aload_n 3, 3, 0, .null, []),
  (11, .iload_n 2, 2, 0, .null, []),
  (12, .putfield 76, 4, 4, .null, []),
  (15, .return_, 0, 0, .null, [])])
def mX6_markAt : pM := (⟨RX6, "markAt", "(I)I"⟩, prog_8_method_8_code, 2, (some FieldType.int), 1, 6, [(0, .iload_n 1, 1, 0, .null, []),
  (1, .ifCond .lt 21, 12, 0, .null, []),
  (4, .iload_n 1, 1, 0, .null, []),
  (5, .aload_n 0, 0, 0, .null, []),
  (6, .getfield 9, 6, 1, .null, []),
  (9, .arraylength, 0, 0, .null, []),
  (10, .if_icmp .ge 12, 12, 0, .null, []),
  (13, .aload_n 0, 0, 0, .null, []),
  (14, .getfield 9, 6, 1, .null, []),
  (17, .iload_n 1, 1, 0, .null, []),
  (18, .iaload, 0, 0, .null, []),
  (19, .goto 4, 13, 0, .null, []),
  (22, .iconst 0, 0, 0, .int 0, []),
  (23, .ireturn, 0, 0, .null, [])])
def mX6_carveAt : pM := (⟨RX6, "carveAt", "(II)V"⟩, prog_8_method_9_code, 3, none, 1, 6, [(0, .iload_n 1, 1, 0, .null, []),
  (1, .ifCond .lt 19, 12, 0, .null, []),
  (4, .iload_n 1, 1, 0, .null, []),
  (5, .aload_n 0, 0, 0, .null, []),
  (6, .getfield 9, 6, 1, .null, []),
  (9, .arraylength, 0, 0, .null, []),
  (10, .if_icmp .ge 10, 12, 0, .null, []),
  (13, .aload_n 0, 0, 0, .null, []),
  (14, .getfield 9, 6, 1, .null, []),
  (17, .iload_n 1, 1, 0, .null, []),
  (18, .iload_n 2, 2, 0, .null, []),
  (19, .iastore, 0, 0, .null, []),
  (20, .return_, 0, 0, .null, [])])
def mX6_draw : pM := (⟨RX6, "draw", "()I"⟩, prog_8_method_10_code, 1, (some FieldType.int), 1, 6, [(0, .aload_n 0, 0, 0, .null, []),
  (1, .aload_n 0, 0, 0, .null, []),
  (2, .getfield 27, 6, 9, .null, []),
  (5, .ldc 79, 0, 0, .int 1103515245, []),
  (7, .imul, 0, 0, .null, []),
  (8, .sipush 12345, 0, 0, .int 12345, []),
  (11, .iadd, 0, 0, .null, []),
  (12, .putfield 27, 6, 9, .null, []),
  (15, .aload_n 0, 0, 0, .null, []),
  (16, .getfield 27, 6, 9, .null, []),
  (19, .bipush 8, 0, 0, .int 8, []),
  (21, .iushr, 0, 0, .null, []),
  (22, .ireturn, 0, 0, .null, [])])
def mX6_falsehood : pM := (⟨RX6, "falsehood", "(LStoneSheets$Rubbing;I)I"⟩, prog_8_method_11_code, 5, (some FieldType.int), 1, 6, [(0, .iconst 0, 0, 0, .int 0, []),
  (1, .istore_n 3, 3, 0, .null, []),
  (2, .iconst 0, 0, 0, .int 0, []),
  (3, .istore 4, 4, 0, .null, []),
  (5, .iload 4, 4, 0, .null, []),
  (7, .aload_n 1, 1, 0, .null, []),
  (8, .getfield 80, 4, 2, .null, []),
  (11, .if_icmp .ge 38, 25, 0, .null, []),
  (14, .iload_n 2, 2, 0, .null, []),
  (15, .iload 4, 4, 0, .null, []),
  (17, .iadd, 0, 0, .null, []),
  (18, .bipush 16, 0, 0, .int 16, []),
  (20, .if_icmp .ge 29, 25, 0, .null, []),
  (23, .aload_n 1, 1, 0, .null, []),
  (24, .iload 4, 4, 0, .null, []),
  (26, .invokevirtual 83, 50, 1, .null, []),
  (29, .aload_n 0, 0, 0, .null, []),
  (30, .iload_n 2, 2, 0, .null, []),
  (31, .iload 4, 4, 0, .null, []),
  (33, .iadd, 0, 0, .null, []),
  (34, .invokevirtual 87, 67, 1, .null, []),
  (37, .if_icmp .eq 6, 23, 0, .null, []),
  (40, .iinc 3 1, 3, 0, .null, []),
  (43, .iinc 4 1, 4, 0, .null, []),
  (46, .goto (-41), 4, 0, .null, []),
  (49, .iload_n 3, 3, 0, .null, []),
  (50, .ireturn, 0, 0, .null, [])])
def mX6_trustOfAll : pM := (⟨RX6, "trustOfAll", "()I"⟩, prog_8_method_12_code, 3, (some FieldType.int), 1, 6, [(0, .iconst 0, 0, 0, .int 0, []),
  (1, .istore_n 1, 1, 0, .null, []),
  (2, .iconst 0, 0, 0, .int 0, []),
  (3, .istore_n 2, 2, 0, .null, []),
  (4, .iload_n 2, 2, 0, .null, []),
  (5, .aload_n 0, 0, 0, .null, []),
  (6, .getfield 49, 6, 5, .null, []),
  (9, .if_icmp .ge 17, 16, 0, .null, []),
  (12, .iload_n 1, 1, 0, .null, []),
  (13, .aload_n 0, 0, 0, .null, []),
  (14, .iload_n 2, 2, 0, .null, []),
  (15, .invokevirtual 90, 65, 1, .null, []),
  (18, .iadd, 0, 0, .null, []),
  (19, .istore_n 1, 1, 0, .null, []),
  (20, .iinc 2 1, 2, 0, .null, []),
  (23, .goto (-19), 4, 0, .null, []),
  (26, .iload_n 1, 1, 0, .null, []),
  (27, .ireturn, 0, 0, .null, [])])
def mX6_laidSet : pM := (⟨RX6, "laidSet", "()I"⟩, prog_8_method_13_code, 4, (some FieldType.int), 1, 6, [(0, .iconst 0, 0, 0, .int 0, []),
  (1, .istore_n 1, 1, 0, .null, []),
  (2, .iconst 0, 0, 0, .int 0, []),
  (3, .istore_n 2, 2, 0, .null, []),
  (4, .iload_n 2, 2, 0, .null, []),
  (5, .aload_n 0, 0, 0, .null, []),
  (6, .getfield 49, 6, 5, .null, []),
  (9, .if_icmp .ge 32, 25, 0, .null, []),
  (12, .aload_n 0, 0, 0, .null, []),
  (13, .iload_n 2, 2, 0, .null, []),
  (14, .invokevirtual 61, 64, 1, .null, []),
  (17, .astore_n 3, 3, 0, .null, []),
  (18, .aload_n 3, 3, 0, .null, []),
  (19, .ifnull 16, 23, 0, .null, []),
  (22, .aload_n 3, 3, 0, .null, []),
  (23, .invokevirtual 93, 47, 0, .null, []),
  (26, .ifCond .eq 9, 23, 0, .null, []),
  (29, .iload_n 1, 1, 0, .null, []),
  (30, .iconst 1, 0, 0, .int 1, []),
  (31, .iload_n 2, 2, 0, .null, []),
  (32, .ishl, 0, 0, .null, []),
  (33, .ior, 0, 0, .null, []),
  (34, .istore_n 1, 1, 0, .null, []),
  (35, .iinc 2 1, 2, 0, .null, []),
  (38, .goto (-34), 4, 0, .null, []),
  (41, .iload_n 1, 1, 0, .null, []),
  (42, .ireturn, 0, 0, .null, [])])
def mX6_coveredBy : pM := (⟨RX6, "coveredBy", "(I)I"⟩, prog_8_method_14_code, 5, (some FieldType.int), 1, 6, [(0, .iconst 0, 0, 0, .int 0, []),
  (1, .istore_n 2, 2, 0, .null, []),
  (2, .iconst 0, 0, 0, .int 0, []),
  (3, .istore_n 3, 3, 0, .null, []),
  (4, .iload_n 3, 3, 0, .null, []),
  (5, .aload_n 0, 0, 0, .null, []),
  (6, .getfield 49, 6, 5, .null, []),
  (9, .if_icmp .ge 38, 28, 0, .null, []),
  (12, .aload_n 0, 0, 0, .null, []),
  (13, .iload_n 3, 3, 0, .null, []),
  (14, .invokevirtual 61, 64, 1, .null, []),
  (17, .astore 4, 4, 0, .null, []),
  (19, .aload 4, 4, 0, .null, []),
  (21, .ifnull 20, 26, 0, .null, []),
  (24, .iload_n 1, 1, 0, .null, []),
  (25, .iload_n 3, 3, 0, .null, []),
  (26, .ishr, 0, 0, .null, []),
  (27, .iconst 1, 0, 0, .int 1, []),
  (28, .iand, 0, 0, .null, []),
  (29, .iconst 1, 0, 0, .int 1, []),
  (30, .if_icmp .ne 11, 26, 0, .null, []),
  (33, .iload_n 2, 2, 0, .null, []),
  (34, .aload 4, 4, 0, .null, []),
  (36, .invokevirtual 97, 49, 0, .null, []),
  (39, .ior, 0, 0, .null, []),
  (40, .istore_n 2, 2, 0, .null, []),
  (41, .iinc 3 1, 3, 0, .null, []),
  (44, .goto (-40), 4, 0, .null, []),
  (47, .iload_n 2, 2, 0, .null, []),
  (48, .ireturn, 0, 0, .null, [])])
def mX6_open : pM := (⟨RX6, "open", "()I"⟩, prog_8_method_15_code, 1, (some FieldType.int), 1, 6, [(0, .ldc 101, 0, 0, .int 65535, []),
  (2, .aload_n 0, 0, 0, .null, []),
  (3, .aload_n 0, 0, 0, .null, []),
  (4, .invokevirtual 102, 72, 0, .null, []),
  (7, .invokevirtual 105, 73, 1, .null, []),
  (10, .iconst (-1), 0, 0, .int (-1), []),
  (11, .ixor, 0, 0, .null, []),
  (12, .iand, 0, 0, .null, []),
  (13, .ireturn, 0, 0, .null, [])])
def mX6_noteClashes : pM := (⟨RX6, "noteClashes", "()V"⟩, prog_8_method_16_code, 5, none, 1, 6, [(0, .iconst 0, 0, 0, .int 0, []),
  (1, .istore_n 1, 1, 0, .null, []),
  (2, .iload_n 1, 1, 0, .null, []),
  (3, .aload_n 0, 0, 0, .null, []),
  (4, .getfield 49, 6, 5, .null, []),
  (7, .if_icmp .ge 89, 55, 0, .null, []),
  (10, .iload_n 1, 1, 0, .null, []),
  (11, .aload_n 0, 0, 0, .null, []),
  (12, .getfield 21, 6, 3, .null, []),
  (15, .arraylength, 0, 0, .null, []),
  (16, .if_icmp .ge 80, 55, 0, .null, []),
  (19, .aload_n 0, 0, 0, .null, []),
  (20, .getfield 21, 6, 3, .null, []),
  (23, .iload_n 1, 1, 0, .null, []),
  (24, .iconst 0, 0, 0, .int 0, []),
  (25, .iastore, 0, 0, .null, []),
  (26, .aload_n 0, 0, 0, .null, []),
  (27, .iload_n 1, 1, 0, .null, []),
  (28, .invokevirtual 61, 64, 1, .null, []),
  (31, .astore_n 2, 2, 0, .null, []),
  (32, .iconst 0, 0, 0, .int 0, []),
  (33, .istore_n 3, 3, 0, .null, []),
  (34, .iload_n 3, 3, 0, .null, []),
  (35, .aload_n 0, 0, 0, .null, []),
  (36, .getfield 49, 6, 5, .null, []),
  (39, .if_icmp .ge 51, 53, 0, .null, []),
  (42, .aload_n 0, 0, 0, .null, []),
  (43, .iload_n 3, 3, 0, .null, []),
  (44, .invokevirtual 61, 64, 1, .null, []),
  (47, .astore 4, 4, 0, .null, []),
  (49, .iload_n 1, 1, 0, .null, []),
  (50, .iload_n 3, 3, 0, .null, []),
  (51, .if_icmp .eq 33, 51, 0, .null, []),
  (54, .aload_n 2, 2, 0, .null, []),
  (55, .ifnull 29, 51, 0, .null, []),
  (58, .aload 4, 4, 0, .null, []),
  (60, .ifnull 24, 51, 0, .null, []),
  (63, .aload_n 2, 2, 0, .null, []),
  (64, .aload 4, 4, 0, .null, []),
  (66, .invokevirtual 108, 58, 1, .null, []),
  (69, .ifCond .eq 15, 51, 0, .null, []),
  (72, .aload_n 0, 0, 0, .null, []),
  (73, .getfield 21, 6, 3, .null, []),
  (76, .iload_n 1, 1, 0, .null, []),
  (77, .dup2, 0, 0, .null, []),
  (78, .iaload, 0, 0, .null, []),
  (79, .iconst 1, 0, 0, .int 1, []),
  (80, .iload_n 3, 3, 0, .null, []),
  (81, .ishl, 0, 0, .null, []),
  (82, .ior, 0, 0, .null, []),
  (83, .iastore, 0, 0, .null, []),
  (84, .iinc 3 1, 3, 0, .null, []),
  (87, .goto (-53), 22, 0, .null, []),
  (90, .iinc 1 1, 1, 0, .null, []),
  (93, .goto (-91), 2, 0, .null, []),
  (96, .return_, 0, 0, .null, [])])
def mX6_anyClash : pM := (⟨RX6, "anyClash", "(I)Z"⟩, prog_8_method_17_code, 3, (some FieldType.boolean), 1, 6, [(0, .iconst 0, 0, 0, .int 0, []),
  (1, .istore_n 2, 2, 0, .null, []),
  (2, .iload_n 2, 2, 0, .null, []),
  (3, .aload_n 0, 0, 0, .null, []),
  (4, .getfield 49, 6, 5, .null, []),
  (7, .if_icmp .ge 40, 29, 0, .null, []),
  (10, .iload_n 2, 2, 0, .null, []),
  (11, .aload_n 0, 0, 0, .null, []),
  (12, .getfield 21, 6, 3, .null, []),
  (15, .arraylength, 0, 0, .null, []),
  (16, .if_icmp .ge 31, 29, 0, .null, []),
  (19, .iload_n 1, 1, 0, .null, []),
  (20, .iload_n 2, 2, 0, .null, []),
  (21, .ishr, 0, 0, .null, []),
  (22, .iconst 1, 0, 0, .int 1, []),
  (23, .iand, 0, 0, .null, []),
  (24, .iconst 1, 0, 0, .int 1, []),
  (25, .if_icmp .ne 16, 27, 0, .null, []),
  (28, .aload_n 0, 0, 0, .null, []),
  (29, .getfield 21, 6, 3, .null, []),
  (32, .iload_n 2, 2, 0, .null, []),
  (33, .iaload, 0, 0, .null, []),
  (34, .iload_n 1, 1, 0, .null, []),
  (35, .iand, 0, 0, .null, []),
  (36, .ifCond .eq 5, 27, 0, .null, []),
  (39, .iconst 1, 0, 0, .int 1, []),
  (40, .ireturn, 0, 0, .null, []),
  (41, .iinc 2 1, 2, 0, .null, []),
  (44, .goto (-42), 2, 0, .null, []),
  (47, .iconst 0, 0, 0, .int 0, []),
  (48, .ireturn, 0, 0, .null, [])])
def mX6_deniers : pM := (⟨RX6, "deniers", "(I)I"⟩, prog_8_method_18_code, 5, (some FieldType.int), 1, 6, [(0, .iconst 0, 0, 0, .int 0, []),
  (1, .istore_n 2, 2, 0, .null, []),
  (2, .iconst 0, 0, 0, .int 0, []),
  (3, .istore_n 3, 3, 0, .null, []),
  (4, .iload_n 3, 3, 0, .null, []),
  (5, .aload_n 0, 0, 0, .null, []),
  (6, .getfield 49, 6, 5, .null, []),
  (9, .if_icmp .ge 53, 31, 0, .null, []),
  (12, .aload_n 0, 0, 0, .null, []),
  (13, .iload_n 3, 3, 0, .null, []),
  (14, .invokevirtual 61, 64, 1, .null, []),
  (17, .astore 4, 4, 0, .null, []),
  (19, .aload 4, 4, 0, .null, []),
  (21, .ifnull 35, 29, 0, .null, []),
  (24, .aload 4, 4, 0, .null, []),
  (26, .iload_n 1, 1, 0, .null, []),
  (27, .invokevirtual 112, 48, 1, .null, []),
  (30, .ifCond .eq 26, 29, 0, .null, []),
  (33, .aload 4, 4, 0, .null, []),
  (35, .iload_n 1, 1, 0, .null, []),
  (36, .aload 4, 4, 0, .null, []),
  (38, .getfield 76, 4, 4, .null, []),
  (41, .isub, 0, 0, .null, []),
  (42, .invokevirtual 83, 50, 1, .null, []),
  (45, .aload_n 0, 0, 0, .null, []),
  (46, .iload_n 1, 1, 0, .null, []),
  (47, .invokevirtual 87, 67, 1, .null, []),
  (50, .if_icmp .eq 6, 29, 0, .null, []),
  (53, .iinc 2 1, 2, 0, .null, []),
  (56, .iinc 3 1, 3, 0, .null, []),
  (59, .goto (-55), 4, 0, .null, []),
  (62, .iload_n 2, 2, 0, .null, []),
  (63, .ireturn, 0, 0, .null, [])])
def mX6_flow : pM := (⟨RX6, "flow", "(I)V"⟩, prog_8_method_19_code, 6, none, 1, 6, [(0, .iconst 0, 0, 0, .int 0, []),
  (1, .istore_n 2, 2, 0, .null, []),
  (2, .iload_n 2, 2, 0, .null, []),
  (3, .iload_n 1, 1, 0, .null, []),
  (4, .if_icmp .ge 74, 40, 0, .null, []),
  (7, .aload_n 0, 0, 0, .null, []),
  (8, .invokevirtual 116, 69, 0, .null, []),
  (11, .bipush 16, 0, 0, .int 16, []),
  (13, .irem, 0, 0, .null, []),
  (14, .istore_n 3, 3, 0, .null, []),
  (15, .iconst 0, 0, 0, .int 0, []),
  (16, .istore 4, 4, 0, .null, []),
  (18, .iload 4, 4, 0, .null, []),
  (20, .aload_n 0, 0, 0, .null, []),
  (21, .getfield 49, 6, 5, .null, []),
  (24, .if_icmp .ge 38, 32, 0, .null, []),
  (27, .aload_n 0, 0, 0, .null, []),
  (28, .iload 4, 4, 0, .null, []),
  (30, .invokevirtual 61, 64, 1, .null, []),
  (33, .astore 5, 5, 0, .null, []),
  (35, .aload 5, 5, 0, .null, []),
  (37, .ifnull 19, 30, 0, .null, []),
  (40, .aload 5, 5, 0, .null, []),
  (42, .iload_n 3, 3, 0, .null, []),
  (43, .invokevirtual 112, 48, 1, .null, []),
  (46, .ifCond .eq 10, 30, 0, .null, []),
  (49, .aload_n 0, 0, 0, .null, []),
  (50, .aload 5, 5, 0, .null, []),
  (52, .iload_n 3, 3, 0, .null, []),
  (53, .invokevirtual 119, 79, 2, .null, []),
  (56, .iinc 4 1, 4, 0, .null, []),
  (59, .goto (-41), 12, 0, .null, []),
  (62, .aload_n 0, 0, 0, .null, []),
  (63, .dup, 0, 0, .null, []),
  (64, .getfield 55, 6, 7, .null, []),
  (67, .iconst 1, 0, 0, .int 1, []),
  (68, .iadd, 0, 0, .null, []),
  (69, .putfield 55, 6, 7, .null, []),
  (72, .iinc 2 1, 2, 0, .null, []),
  (75, .goto (-73), 2, 0, .null, []),
  (78, .return_, 0, 0, .null, [])])
def mX6_seeAgain : pM := (⟨RX6, "seeAgain", "(LStoneSheets$Rubbing;I)V"⟩, prog_8_method_20_code, 3, none, 1, 6, [(0, .aload_n 1, 1, 0, .null, []),
  (1, .iload_n 2, 2, 0, .null, []),
  (2, .aload_n 1, 1, 0, .null, []),
  (3, .getfield 76, 4, 4, .null, []),
  (6, .isub, 0, 0, .null, []),
  (7, .invokevirtual 83, 50, 1, .null, []),
  (10, .aload_n 0, 0, 0, .null, []),
  (11, .iload_n 2, 2, 0, .null, []),
  (12, .invokevirtual 87, 67, 1, .null, []),
  (15, .if_icmp .ne 25, 21, 0, .null, []),
  (18, .aload_n 1, 1, 0, .null, []),
  (19, .bipush 99, 0, 0, .int 99, []),
  (21, .aload_n 1, 1, 0, .null, []),
  (22, .getfield 73, 4, 5, .null, []),
  (25, .aload_n 0, 0, 0, .null, []),
  (26, .aload_n 1, 1, 0, .null, []),
  (27, .invokevirtual 123, 80, 1, .null, []),
  (30, .iadd, 0, 0, .null, []),
  (31, .invokestatic 127, 99991, 0, .null, []),
  (34, .putfield 73, 4, 5, .null, []),
  (37, .goto 16, 28, 0, .null, []),
  (40, .aload_n 1, 1, 0, .null, []),
  (41, .dup, 0, 0, .null, []),
  (42, .getfield 73, 4, 5, .null, []),
  (45, .aload_n 1, 1, 0, .null, []),
  (46, .invokevirtual 133, 55, 0, .null, []),
  (49, .isub, 0, 0, .null, []),
  (50, .putfield 73, 4, 5, .null, []),
  (53, .aload_n 1, 1, 0, .null, []),
  (54, .getfield 73, 4, 5, .null, []),
  (57, .ifCond .gt 24, 43, 0, .null, []),
  (60, .aload_n 1, 1, 0, .null, []),
  (61, .iconst 0, 0, 0, .int 0, []),
  (62, .putfield 73, 4, 5, .null, []),
  (65, .aload_n 1, 1, 0, .null, []),
  (66, .bipush 16, 0, 0, .int 16, []),
  (68, .putfield 76, 4, 4, .null, []),
  (71, .aload_n 0, 0, 0, .null, []),
  (72, .dup, 0, 0, .null, []),
  (73, .getfield 58, 6, 8, .null, []),
  (76, .iconst 1, 0, 0, .int 1, []),
  (77, .iadd, 0, 0, .null, []),
  (78, .putfield 58, 6, 8, .null, []),
  (81, .return_, 0, 0, .null, [])])
def mX6_gainOf : pM := (⟨RX6, "gainOf", "(LStoneSheets$Rubbing;)I"⟩, prog_8_method_21_code, 2, (some FieldType.int), 1, 6, [(0, .aload_n 1, 1, 0, .null, []),
  (1, .aload_n 0, 0, 0, .null, []),
  (2, .iconst 0, 0, 0, .int 0, []),
  (3, .aload_n 1, 1, 0, .null, []),
  (4, .iconst 3, 0, 0, .int 3, []),
  (5, .invokevirtual 136, 81, 3, .null, []),
  (8, .iconst 0, 0, 0, .int 0, []),
  (9, .bipush 99, 0, 0, .int 99, []),
  (11, .invokestatic 140, 132, 3, .int 1, []),
  (14, .invokevirtual 144, 54, 1, .null, []),
  (17, .ireturn, 0, 0, .null, [])])
def mX6_given : pM := (⟨RX6, "given", "(ILStoneSheets$Rubbing;I)I"⟩, prog_8_method_22_code, 5, (some FieldType.int), 1, 6, [(0, .aload_n 0, 0, 0, .null, []),
  (1, .aload_n 0, 0, 0, .null, []),
  (2, .iload_n 1, 1, 0, .null, []),
  (3, .invokevirtual 147, 82, 1, .null, []),
  (6, .invokevirtual 150, 83, 1, .null, []),
  (9, .astore 4, 4, 0, .null, []),
  (11, .aload 4, 4, 0, .null, []),
  (13, .ifnonnull 7, 10, 0, .null, []),
  (16, .iload_n 3, 3, 0, .null, []),
  (17, .goto 14, 16, 0, .null, []),
  (20, .aload_n 0, 0, 0, .null, []),
  (21, .getfield 31, 6, 0, .null, []),
  (24, .aload 4, 4, 0, .null, []),
  (26, .aload_n 0, 0, 0, .null, []),
  (27, .aload_n 2, 2, 0, .null, []),
  (28, .invokevirtual 154, 7, 3, .null, []),
  (31, .ireturn, 0, 0, .null, [])])
def mX6_textFor : pM := (⟨RX6, "textFor", "(I)I"⟩, prog_8_method_23_code, 2, (some FieldType.int), 1, 6, [(0, .iload_n 1, 1, 0, .null, []),
  (1, .ifCond .lt 21, 12, 0, .null, []),
  (4, .iload_n 1, 1, 0, .null, []),
  (5, .aload_n 0, 0, 0, .null, []),
  (6, .getfield 24, 6, 4, .null, []),
  (9, .arraylength, 0, 0, .null, []),
  (10, .if_icmp .ge 12, 12, 0, .null, []),
  (13, .aload_n 0, 0, 0, .null, []),
  (14, .getfield 24, 6, 4, .null, []),
  (17, .iload_n 1, 1, 0, .null, []),
  (18, .iaload, 0, 0, .null, []),
  (19, .goto 5, 13, 0, .null, []),
  (22, .ldc 35, 0, 0, .int (-1000000005), []),
  (24, .ireturn, 0, 0, .null, [])])
def mX6_lawAt : pM := (⟨RX6, "lawAt", "(I)LStoneSheets$Law;"⟩, prog_8_method_24_code, 2, (some (FieldType.object "StoneSheets$Law")), 1, 6, [(0, .iload_n 1, 1, 0, .null, []),
  (1, .aload_n 0, 0, 0, .null, []),
  (2, .getfield 52, 6, 6, .null, []),
  (5, .if_icmp .ge 14, 9, 0, .null, []),
  (8, .aload_n 0, 0, 0, .null, []),
  (9, .getfield 31, 6, 0, .null, []),
  (12, .iload_n 1, 1, 0, .null, []),
  (13, .invokevirtual 160, 6, 1, .null, []),
  (16, .goto 4, 10, 0, .null, []),
  (19, .aconst_null, 0, 0, .null, []),
  (20, .areturn, 0, 0, .null, [])])
def mX6_addText : pM := (⟨RX6, "addText", "()I"⟩, prog_8_method_25_code, 3, (some FieldType.int), 1, 6, [(0, .aload_n 0, 0, 0, .null, []),
  (1, .getfield 31, 6, 0, .null, []),
  (4, .aload_n 0, 0, 0, .null, []),
  (5, .getfield 52, 6, 6, .null, []),
  (8, .invokevirtual 160, 6, 1, .null, []),
  (11, .astore_n 1, 1, 0, .null, []),
  (12, .aload_n 0, 0, 0, .null, []),
  (13, .getfield 31, 6, 0, .null, []),
  (16, .getfield 162, 1, 1, .null, []),
  (19, .getfield 166, 0, 2, .null, []),
  (22, .istore_n 2, 2, 0, .null, []),
  (23, .aload_n 1, 1, 0, .null, []),
  (24, .ifnull 16, 20, 0, .null, []),
  (27, .iload_n 2, 2, 0, .null, []),
  (28, .ifCond .lt 12, 20, 0, .null, []),
  (31, .iload_n 2, 2, 0, .null, []),
  (32, .aload_n 0, 0, 0, .null, []),
  (33, .getfield 24, 6, 4, .null, []),
  (36, .arraylength, 0, 0, .null, []),
  (37, .if_icmp .lt 6, 22, 0, .null, []),
  (40, .ldc 171, 0, 0, .int (-1000000003), []),
  (42, .ireturn, 0, 0, .null, []),
  (43, .aload_n 1, 1, 0, .null, []),
  (44, .aload_n 0, 0, 0, .null, []),
  (45, .getfield 31, 6, 0, .null, []),
  (48, .getfield 162, 1, 1, .null, []),
  (51, .invokevirtual 172, 4, 1, .null, []),
  (54, .aload_n 0, 0, 0, .null, []),
  (55, .getfield 24, 6, 4, .null, []),
  (58, .iload_n 2, 2, 0, .null, []),
  (59, .aload_n 0, 0, 0, .null, []),
  (60, .getfield 52, 6, 6, .null, []),
  (63, .iastore, 0, 0, .null, []),
  (64, .aload_n 0, 0, 0, .null, []),
  (65, .dup, 0, 0, .null, []),
  (66, .getfield 52, 6, 6, .null, []),
  (69, .iconst 1, 0, 0, .int 1, []),
  (70, .iadd, 0, 0, .null, []),
  (71, .putfield 52, 6, 6, .null, []),
  (74, .aload_n 0, 0, 0, .null, []),
  (75, .getfield 52, 6, 6, .null, []),
  (78, .iconst 1, 0, 0, .int 1, []),
  (79, .isub, 0, 0, .null, []),
  (80, .ireturn, 0, 0, .null, [])])
def mX7_init : pM := (⟨RX7, "<init>", "()V"⟩, prog_1_method_1_code, 2, none, 2, 7, [(0, .aload_n 0, 0, 0, .null, []),
  (1, .invokespecial 1, 99999, 0, .null, []),
  (4, .aload_n 0, 0, 0, .null, []),
  (5, .new 7, 1, 0, .null, []),
  (8, .dup, 0, 0, .null, []),
  (9, .invokespecial 9, 5, 0, .null, []),
  (12, .putfield 10, 7, 0, .null, []),
  (15, .aload_n 0, 0, 0, .null, []),
  (16, .new 16, 6, 0, .null, []),
  (19, .dup, 0, 0, .null, []),
  (20, .aload_n 0, 0, 0, .null, []),
  (21, .getfield 10, 7, 0, .null, []),
  (24, .invokespecial 18, 60, 1, .null, []),
  (27, .putfield 21, 7, 1, .null, []),
  (30, .aload_n 0, 0, 0, .null, []),
  (31, .new 16, 6, 0, .null, []),
  (34, .dup, 0, 0, .null, []),
  (35, .aload_n 0, 0, 0, .null, []),
  (36, .getfield 10, 7, 0, .null, []),
  (39, .invokespecial 18, 60, 1, .null, []),
  (42, .putfield 25, 7, 2, .null, []),
  (45, .aload_n 0, 0, 0, .null, []),
  (46, .new 16, 6, 0, .null, []),
  (49, .dup, 0, 0, .null, []),
  (50, .aload_n 0, 0, 0, .null, []),
  (51, .getfield 10, 7, 0, .null, []),
  (54, .invokespecial 18, 60, 1, .null, []),
  (57, .putfield 28, 7, 3, .null, []),
  (60, .aload_n 0, 0, 0, .null, []),
  (61, .new 31, 2, 0, .null, []),
  (64, .dup, 0, 0, .null, []),
  (65, .invokespecial 33, 12, 0, .int 1, []),
  (68, .putfield 34, 7, 4, .null, []),
  (71, .aload_n 0, 0, 0, .null, []),
  (72, .iconst 4, 0, 0, .int 4, []),
  (73, .anewarray 38, 3, 0, .null, []),
  (76, .putfield 40, 7, 5, .null, []),
  (79, .aload_n 0, 0, 0, .null, []),
  (80, .iconst 5, 0, 0, .int 5, []),
  (81, .anewarray 44, 5, 0, .null, []),
  (84, .putfield 46, 7, 6, .null, []),
  (87, .aload_n 0, 0, 0, .null, []),
  (88, .bipush 60, 0, 0, .int 60, []),
  (90, .newarray .int, 0, 0, .null, []),
  (92, .putfield 50, 7, 7, .null, []),
  (95, .iconst 0, 0, 0, .int 0, []),
  (96, .istore_n 1, 1, 0, .null, []),
  (97, .iload_n 1, 1, 0, .null, []),
  (98, .aload_n 0, 0, 0, .null, []),
  (99, .getfield 40, 7, 5, .null, []),
  (102, .arraylength, 0, 0, .null, []),
  (103, .if_icmp .ge 22, 61, 0, .null, []),
  (106, .aload_n 0, 0, 0, .null, []),
  (107, .getfield 40, 7, 5, .null, []),
  (110, .iload_n 1, 1, 0, .null, []),
  (111, .new 38, 3, 0, .null, []),
  (114, .dup, 0, 0, .null, []),
  (115, .invokespecial 54, 33, 0, .int 1, []),
  (118, .aastore, 0, 0, .null, []),
  (119, .iinc 1 1, 1, 0, .null, []),
  (122, .goto (-25), 47, 0, .null, []),
  (125, .iconst 0, 0, 0, .int 0, []),
  (126, .istore_n 1, 1, 0, .null, []),
  (127, .iload_n 1, 1, 0, .null, []),
  (128, .aload_n 0, 0, 0, .null, []),
  (129, .getfield 46, 7, 6, .null, []),
  (132, .arraylength, 0, 0, .null, []),
  (133, .if_icmp .ge 22, 77, 0, .null, []),
  (136, .aload_n 0, 0, 0, .null, []),
  (137, .getfield 46, 7, 6, .null, []),
  (140, .iload_n 1, 1, 0, .null, []),
  (141, .new 44, 5, 0, .null, []),
  (144, .dup, 0, 0, .null, []),
  (145, .invokespecial 55, 59, 0, .int 1, []),
  (148, .aastore, 0, 0, .null, []),
  (149, .iinc 1 1, 1, 0, .null, []),
  (152, .goto (-25), 63, 0, .null, []),
  (155, .return_, 0, 0, .null, [])])
def mX7_rubbing : pM := (⟨RX7, "rubbing", "(III)I"⟩, prog_1_method_2_code, 4, (some FieldType.int), 1, 7, [(0, .iload_n 1, 1, 0, .null, []),
  (1, .invokestatic 56, 134, 1, .null, []),
  (4, .ifCond .eq 23, 13, 0, .null, []),
  (7, .iload_n 2, 2, 0, .null, []),
  (8, .iconst 0, 0, 0, .int 0, []),
  (9, .ldc 60, 0, 0, .int 65535, []),
  (11, .invokestatic 61, 131, 3, .null, []),
  (14, .ifCond .eq 13, 13, 0, .null, []),
  (17, .iload_n 3, 3, 0, .null, []),
  (18, .iconst 1, 0, 0, .int 1, []),
  (19, .bipush 8, 0, 0, .int 8, []),
  (21, .invokestatic 61, 131, 3, .null, []),
  (24, .ifCond .ne 6, 15, 0, .null, []),
  (27, .ldc 65, 0, 0, .int (-1000000001), []),
  (29, .ireturn, 0, 0, .null, []),
  (30, .aload_n 0, 0, 0, .null, []),
  (31, .getfield 21, 7, 1, .null, []),
  (34, .invokevirtual 66, 62, 0, .null, []),
  (37, .ifCond .eq 16, 26, 0, .null, []),
  (40, .aload_n 0, 0, 0, .null, []),
  (41, .getfield 21, 7, 1, .null, []),
  (44, .iload_n 1, 1, 0, .null, []),
  (45, .iload_n 2, 2, 0, .null, []),
  (46, .iload_n 3, 3, 0, .null, []),
  (47, .invokevirtual 70, 63, 3, .null, []),
  (50, .goto 5, 27, 0, .null, []),
  (53, .ldc 74, 0, 0, .int (-1000000003), []),
  (55, .ireturn, 0, 0, .null, [])])
def mX7_told : pM := (⟨RX7, "told", "(II)I"⟩, prog_1_method_3_code, 4, (some FieldType.int), 1, 7, [(0, .aload_n 0, 0, 0, .null, []),
  (1, .getfield 21, 7, 1, .null, []),
  (4, .iload_n 1, 1, 0, .null, []),
  (5, .invokevirtual 75, 64, 1, .null, []),
  (8, .astore_n 3, 3, 0, .null, []),
  (9, .aload_n 3, 3, 0, .null, []),
  (10, .ifnonnull 6, 9, 0, .null, []),
  (13, .ldc 65, 0, 0, .int (-1000000001), []),
  (15, .ireturn, 0, 0, .null, []),
  (16, .iload_n 2, 2, 0, .null, []),
  (17, .tableswitch 84 0 9 #[55, 84, 84, 84, 84, 84, 60, 65, 74, 79], 28, 55, .null, [11, 28, 28, 28, 28, 28, 14, 17, 22, 25]),
  (72, .aload_n 3, 3, 0, .null, []),
  (73, .getfield 79, 4, 0, .null, []),
  (76, .ireturn, 0, 0, .null, []),
  (77, .aload_n 3, 3, 0, .null, []),
  (78, .invokevirtual 85, 49, 0, .null, []),
  (81, .ireturn, 0, 0, .null, []),
  (82, .aload_n 0, 0, 0, .null, []),
  (83, .getfield 21, 7, 1, .null, []),
  (86, .aload_n 3, 3, 0, .null, []),
  (87, .invokevirtual 89, 80, 1, .null, []),
  (90, .ireturn, 0, 0, .null, []),
  (91, .aload_n 3, 3, 0, .null, []),
  (92, .invokevirtual 93, 55, 0, .null, []),
  (95, .ireturn, 0, 0, .null, []),
  (96, .aload_n 3, 3, 0, .null, []),
  (97, .invokevirtual 96, 56, 0, .null, []),
  (100, .ireturn, 0, 0, .null, []),
  (101, .iload_n 2, 2, 0, .null, []),
  (102, .invokestatic 99, 135, 1, .null, []),
  (105, .ifCond .eq 11, 35, 0, .null, []),
  (108, .aload_n 3, 3, 0, .null, []),
  (109, .iload_n 2, 2, 0, .null, []),
  (110, .invokevirtual 102, 44, 1, .null, []),
  (113, .goto 5, 36, 0, .null, []),
  (116, .ldc 65, 0, 0, .int (-1000000001), []),
  (118, .ireturn, 0, 0, .null, [])])
def mX7_says : pM := (⟨RX7, "says", "(II)I"⟩, prog_1_method_4_code, 4, (some FieldType.int), 1, 7, [(0, .aload_n 0, 0, 0, .null, []),
  (1, .getfield 21, 7, 1, .null, []),
  (4, .iload_n 1, 1, 0, .null, []),
  (5, .invokevirtual 75, 64, 1, .null, []),
  (8, .astore_n 3, 3, 0, .null, []),
  (9, .aload_n 3, 3, 0, .null, []),
  (10, .ifnull 25, 19, 0, .null, []),
  (13, .iload_n 2, 2, 0, .null, []),
  (14, .iconst 0, 0, 0, .int 0, []),
  (15, .aload_n 3, 3, 0, .null, []),
  (16, .getfield 106, 4, 2, .null, []),
  (19, .iconst 1, 0, 0, .int 1, []),
  (20, .isub, 0, 0, .null, []),
  (21, .invokestatic 61, 131, 3, .null, []),
  (24, .ifCond .eq 11, 19, 0, .null, []),
  (27, .aload_n 3, 3, 0, .null, []),
  (28, .iload_n 2, 2, 0, .null, []),
  (29, .invokevirtual 109, 50, 1, .null, []),
  (32, .goto 5, 20, 0, .null, []),
  (35, .ldc 65, 0, 0, .int (-1000000001), []),
  (37, .ireturn, 0, 0, .null, [])])
def mX7_as : pM := (⟨RX7, "as", "(II)I"⟩, prog_1_method_5_code, 4, (some FieldType.int), 1, 7, [(0, .aload_n 0, 0, 0, .null, []),
  (1, .getfield 21, 7, 1, .null, []),
  (4, .iload_n 1, 1, 0, .null, []),
  (5, .invokevirtual 75, 64, 1, .null, []),
  (8, .astore_n 3, 3, 0, .null, []),
  (9, .aload_n 3, 3, 0, .null, []),
  (10, .ifnull 10, 10, 0, .null, []),
  (13, .iload_n 2, 2, 0, .null, []),
  (14, .invokestatic 56, 134, 1, .null, []),
  (17, .ifCond .ne 6, 12, 0, .null, []),
  (20, .ldc 65, 0, 0, .int (-1000000001), []),
  (22, .ireturn, 0, 0, .null, []),
  (23, .aload_n 3, 3, 0, .null, []),
  (24, .iload_n 2, 2, 0, .null, []),
  (25, .invokevirtual 112, 46, 1, .null, []),
  (28, .ifCond .eq 10, 19, 0, .null, []),
  (31, .aload_n 3, 3, 0, .null, []),
  (32, .getfield 106, 4, 2, .null, []),
  (35, .goto 5, 20, 0, .null, []),
  (38, .ldc 115, 0, 0, .int (-1000000012), []),
  (40, .ireturn, 0, 0, .null, [])])
def mX7_turns : pM := (⟨RX7, "turns", "(II)I"⟩, prog_1_method_6_code, 5, (some FieldType.int), 1, 7, [(0, .aload_n 0, 0, 0, .null, []),
  (1, .getfield 21, 7, 1, .null, []),
  (4, .iload_n 1, 1, 0, .null, []),
  (5, .invokevirtual 75, 64, 1, .null, []),
  (8, .astore_n 3, 3, 0, .null, []),
  (9, .aload_n 3, 3, 0, .null, []),
  (10, .ifnull 10, 10, 0, .null, []),
  (13, .iload_n 2, 2, 0, .null, []),
  (14, .invokestatic 56, 134, 1, .null, []),
  (17, .ifCond .ne 6, 12, 0, .null, []),
  (20, .ldc 65, 0, 0, .int (-1000000001), []),
  (22, .ireturn, 0, 0, .null, []),
  (23, .aload_n 3, 3, 0, .null, []),
  (24, .getfield 79, 4, 0, .null, []),
  (27, .istore 4, 4, 0, .null, []),
  (29, .aload_n 3, 3, 0, .null, []),
  (30, .iload_n 2, 2, 0, .null, []),
  (31, .putfield 79, 4, 0, .null, []),
  (34, .iload 4, 4, 0, .null, []),
  (36, .ireturn, 0, 0, .null, [])])
def mX7_set : pM := (⟨RX7, "set", "(III)I"⟩, prog_1_method_7_code, 6, (some FieldType.int), 1, 7, [(0, .aload_n 0, 0, 0, .null, []),
  (1, .getfield 21, 7, 1, .null, []),
  (4, .iload_n 1, 1, 0, .null, []),
  (5, .invokevirtual 75, 64, 1, .null, []),
  (8, .astore 4, 4, 0, .null, []),
  (10, .aload 4, 4, 0, .null, []),
  (12, .ifnull 25, 17, 0, .null, []),
  (15, .iload_n 2, 2, 0, .null, []),
  (16, .invokestatic 99, 135, 1, .null, []),
  (19, .ifCond .eq 18, 17, 0, .null, []),
  (22, .iload_n 3, 3, 0, .null, []),
  (23, .iload_n 2, 2, 0, .null, []),
  (24, .invokestatic 116, 136, 1, .null, []),
  (27, .iload_n 2, 2, 0, .null, []),
  (28, .invokestatic 119, 137, 1, .null, []),
  (31, .invokestatic 61, 131, 3, .null, []),
  (34, .ifCond .ne 6, 19, 0, .null, []),
  (37, .ldc 65, 0, 0, .int (-1000000001), []),
  (39, .ireturn, 0, 0, .null, []),
  (40, .aload 4, 4, 0, .null, []),
  (42, .iload_n 2, 2, 0, .null, []),
  (43, .invokevirtual 102, 44, 1, .null, []),
  (46, .istore 5, 5, 0, .null, []),
  (48, .aload 4, 4, 0, .null, []),
  (50, .iload_n 2, 2, 0, .null, []),
  (51, .iload_n 3, 3, 0, .null, []),
  (52, .invokevirtual 122, 45, 2, .null, []),
  (55, .iload 5, 5, 0, .null, []),
  (57, .ireturn, 0, 0, .null, [])])
def mX7_carve : pM := (⟨RX7, "carve", "(II)I"⟩, prog_1_method_8_code, 4, (some FieldType.int), 1, 7, [(0, .iload_n 1, 1, 0, .null, []),
  (1, .invokestatic 126, 133, 1, .null, []),
  (4, .ifCond .eq 12, 8, 0, .null, []),
  (7, .iload_n 2, 2, 0, .null, []),
  (8, .iconst 0, 0, 0, .int 0, []),
  (9, .iconst 3, 0, 0, .int 3, []),
  (10, .invokestatic 61, 131, 3, .null, []),
  (13, .ifCond .ne 6, 10, 0, .null, []),
  (16, .ldc 65, 0, 0, .int (-1000000001), []),
  (18, .ireturn, 0, 0, .null, []),
  (19, .aload_n 0, 0, 0, .null, []),
  (20, .getfield 21, 7, 1, .null, []),
  (23, .iload_n 1, 1, 0, .null, []),
  (24, .invokevirtual 129, 67, 1, .null, []),
  (27, .istore_n 3, 3, 0, .null, []),
  (28, .aload_n 0, 0, 0, .null, []),
  (29, .getfield 21, 7, 1, .null, []),
  (32, .iload_n 1, 1, 0, .null, []),
  (33, .iload_n 2, 2, 0, .null, []),
  (34, .invokevirtual 132, 68, 2, .null, []),
  (37, .iload_n 3, 3, 0, .null, []),
  (38, .ireturn, 0, 0, .null, [])])
def mX7_carved : pM := (⟨RX7, "carved", "(I)I"⟩, prog_1_method_9_code, 2, (some FieldType.int), 1, 7, [(0, .iload_n 1, 1, 0, .null, []),
  (1, .invokestatic 126, 133, 1, .null, []),
  (4, .ifCond .eq 14, 8, 0, .null, []),
  (7, .aload_n 0, 0, 0, .null, []),
  (8, .getfield 21, 7, 1, .null, []),
  (11, .iload_n 1, 1, 0, .null, []),
  (12, .invokevirtual 129, 67, 1, .null, []),
  (15, .goto 5, 9, 0, .null, []),
  (18, .ldc 65, 0, 0, .int (-1000000001), []),
  (20, .ireturn, 0, 0, .null, [])])
def mX7_deal : pM := (⟨RX7, "deal", "(I)I"⟩, prog_1_method_10_code, 6, (some FieldType.int), 1, 7, [(0, .iload_n 1, 1, 0, .null, []),
  (1, .iconst 1, 0, 0, .int 1, []),
  (2, .bipush 9, 0, 0, .int 9, []),
  (4, .invokestatic 61, 131, 3, .null, []),
  (7, .ifCond .ne 6, 7, 0, .null, []),
  (10, .ldc 65, 0, 0, .int (-1000000001), []),
  (12, .ireturn, 0, 0, .null, []),
  (13, .iconst 0, 0, 0, .int 0, []),
  (14, .istore_n 2, 2, 0, .null, []),
  (15, .iload_n 2, 2, 0, .null, []),
  (16, .iload_n 1, 1, 0, .null, []),
  (17, .if_icmp .ge 69, 45, 0, .null, []),
  (20, .aload_n 0, 0, 0, .null, []),
  (21, .getfield 21, 7, 1, .null, []),
  (24, .invokevirtual 66, 62, 0, .null, []),
  (27, .ifCond .eq 59, 45, 0, .null, []),
  (30, .aload_n 0, 0, 0, .null, []),
  (31, .getfield 21, 7, 1, .null, []),
  (34, .invokevirtual 135, 69, 0, .null, []),
  (37, .bipush 6, 0, 0, .int 6, []),
  (39, .irem, 0, 0, .null, []),
  (40, .istore_n 3, 3, 0, .null, []),
  (41, .aload_n 0, 0, 0, .null, []),
  (42, .getfield 21, 7, 1, .null, []),
  (45, .invokevirtual 135, 69, 0, .null, []),
  (48, .ldc 138, 0, 0, .int 65536, []),
  (50, .irem, 0, 0, .null, []),
  (51, .istore 4, 4, 0, .null, []),
  (53, .iconst 1, 0, 0, .int 1, []),
  (54, .aload_n 0, 0, 0, .null, []),
  (55, .getfield 21, 7, 1, .null, []),
  (58, .invokevirtual 135, 69, 0, .null, []),
  (61, .bipush 8, 0, 0, .int 8, []),
  (63, .irem, 0, 0, .null, []),
  (64, .iadd, 0, 0, .null, []),
  (65, .istore 5, 5, 0, .null, []),
  (67, .aload_n 0, 0, 0, .null, []),
  (68, .getfield 21, 7, 1, .null, []),
  (71, .iload_n 3, 3, 0, .null, []),
  (72, .iload 4, 4, 0, .null, []),
  (74, .iload 5, 5, 0, .null, []),
  (76, .invokevirtual 70, 63, 3, .null, []),
  (79, .pop, 0, 0, .null, []),
  (80, .iinc 2 1, 2, 0, .null, []),
  (83, .goto (-68), 9, 0, .null, []),
  (86, .iload_n 2, 2, 0, .null, []),
  (87, .ireturn, 0, 0, .null, [])])
def mX7_seed : pM := (⟨RX7, "seed", "(I)I"⟩, prog_1_method_11_code, 3, (some FieldType.int), 1, 7, [(0, .aload_n 0, 0, 0, .null, []),
  (1, .getfield 21, 7, 1, .null, []),
  (4, .getfield 139, 6, 9, .null, []),
  (7, .istore_n 2, 2, 0, .null, []),
  (8, .aload_n 0, 0, 0, .null, []),
  (9, .getfield 21, 7, 1, .null, []),
  (12, .iload_n 1, 1, 0, .null, []),
  (13, .putfield 139, 6, 9, .null, []),
  (16, .iload_n 2, 2, 0, .null, []),
  (17, .ireturn, 0, 0, .null, [])])
def mX7_falseAt : pM := (⟨RX7, "falseAt", "(II)I"⟩, prog_1_method_12_code, 4, (some FieldType.int), 1, 7, [(0, .aload_n 0, 0, 0, .null, []),
  (1, .getfield 21, 7, 1, .null, []),
  (4, .iload_n 1, 1, 0, .null, []),
  (5, .invokevirtual 75, 64, 1, .null, []),
  (8, .astore_n 3, 3, 0, .null, []),
  (9, .aload_n 3, 3, 0, .null, []),
  (10, .ifnull 22, 16, 0, .null, []),
  (13, .iload_n 2, 2, 0, .null, []),
  (14, .invokestatic 126, 133, 1, .null, []),
  (17, .ifCond .eq 15, 16, 0, .null, []),
  (20, .aload_n 0, 0, 0, .null, []),
  (21, .getfield 21, 7, 1, .null, []),
  (24, .aload_n 3, 3, 0, .null, []),
  (25, .iload_n 2, 2, 0, .null, []),
  (26, .invokevirtual 142, 70, 2, .null, []),
  (29, .goto 5, 17, 0, .null, []),
  (32, .ldc 65, 0, 0, .int (-1000000001), []),
  (34, .ireturn, 0, 0, .null, [])])
def mX7_fits : pM := (⟨RX7, "fits", "(II)I"⟩, prog_1_method_13_code, 8, (some FieldType.int), 1, 7, [(0, .aload_n 0, 0, 0, .null, []),
  (1, .getfield 21, 7, 1, .null, []),
  (4, .iload_n 1, 1, 0, .null, []),
  (5, .invokevirtual 75, 64, 1, .null, []),
  (8, .astore_n 3, 3, 0, .null, []),
  (9, .aload_n 3, 3, 0, .null, []),
  (10, .ifnull 12, 12, 0, .null, []),
  (13, .iload_n 2, 2, 0, .null, []),
  (14, .iconst 0, 0, 0, .int 0, []),
  (15, .iconst 1, 0, 0, .int 1, []),
  (16, .invokestatic 61, 131, 3, .null, []),
  (19, .ifCond .ne 6, 14, 0, .null, []),
  (22, .ldc 65, 0, 0, .int (-1000000001), []),
  (24, .ireturn, 0, 0, .null, []),
  (25, .iconst 0, 0, 0, .int 0, []),
  (26, .istore 4, 4, 0, .null, []),
  (28, .aload_n 0, 0, 0, .null, []),
  (29, .getfield 21, 7, 1, .null, []),
  (32, .aload_n 3, 3, 0, .null, []),
  (33, .iconst 0, 0, 0, .int 0, []),
  (34, .invokevirtual 142, 70, 2, .null, []),
  (37, .istore 5, 5, 0, .null, []),
  (39, .iconst 1, 0, 0, .int 1, []),
  (40, .istore 6, 6, 0, .null, []),
  (42, .iload 6, 6, 0, .null, []),
  (44, .bipush 16, 0, 0, .int 16, []),
  (46, .aload_n 3, 3, 0, .null, []),
  (47, .getfield 106, 4, 2, .null, []),
  (50, .isub, 0, 0, .null, []),
  (51, .if_icmp .gt 36, 45, 0, .null, []),
  (54, .aload_n 0, 0, 0, .null, []),
  (55, .getfield 21, 7, 1, .null, []),
  (58, .aload_n 3, 3, 0, .null, []),
  (59, .iload 6, 6, 0, .null, []),
  (61, .invokevirtual 142, 70, 2, .null, []),
  (64, .istore 7, 7, 0, .null, []),
  (66, .iload 7, 7, 0, .null, []),
  (68, .iload 5, 5, 0, .null, []),
  (70, .if_icmp .ge 11, 43, 0, .null, []),
  (73, .iload 7, 7, 0, .null, []),
  (75, .istore 5, 5, 0, .null, []),
  (77, .iload 6, 6, 0, .null, []),
  (79, .istore 4, 4, 0, .null, []),
  (81, .iinc 6 1, 6, 0, .null, []),
  (84, .goto (-42), 24, 0, .null, []),
  (87, .iload_n 2, 2, 0, .null, []),
  (88, .ifCond .ne 8, 49, 0, .null, []),
  (91, .iload 4, 4, 0, .null, []),
  (93, .goto 5, 50, 0, .null, []),
  (96, .iload 5, 5, 0, .null, []),
  (98, .ireturn, 0, 0, .null, [])])
def mX7_join : pM := (⟨RX7, "join", "(III)I"⟩, prog_1_method_14_code, 10, (some FieldType.int), 1, 7, [(0, .aload_n 0, 0, 0, .null, []),
  (1, .getfield 21, 7, 1, .null, []),
  (4, .iload_n 1, 1, 0, .null, []),
  (5, .invokevirtual 75, 64, 1, .null, []),
  (8, .astore 4, 4, 0, .null, []),
  (10, .aload_n 0, 0, 0, .null, []),
  (11, .getfield 21, 7, 1, .null, []),
  (14, .iload_n 2, 2, 0, .null, []),
  (15, .invokevirtual 75, 64, 1, .null, []),
  (18, .astore 5, 5, 0, .null, []),
  (20, .aload 4, 4, 0, .null, []),
  (22, .ifnull 22, 22, 0, .null, []),
  (25, .aload 5, 5, 0, .null, []),
  (27, .ifnull 17, 22, 0, .null, []),
  (30, .iload_n 1, 1, 0, .null, []),
  (31, .iload_n 2, 2, 0, .null, []),
  (32, .if_icmp .eq 12, 22, 0, .null, []),
  (35, .iload_n 3, 3, 0, .null, []),
  (36, .iconst 0, 0, 0, .int 0, []),
  (37, .iconst 1, 0, 0, .int 1, []),
  (38, .invokestatic 61, 131, 3, .null, []),
  (41, .ifCond .ne 6, 24, 0, .null, []),
  (44, .ldc 65, 0, 0, .int (-1000000001), []),
  (46, .ireturn, 0, 0, .null, []),
  (47, .iconst 0, 0, 0, .int 0, []),
  (48, .istore 6, 6, 0, .null, []),
  (50, .aload 4, 4, 0, .null, []),
  (52, .aload 5, 5, 0, .null, []),
  (54, .iconst 0, 0, 0, .int 0, []),
  (55, .invokevirtual 146, 57, 2, .null, []),
  (58, .istore 7, 7, 0, .null, []),
  (60, .iconst 1, 0, 0, .int 1, []),
  (61, .istore 8, 8, 0, .null, []),
  (63, .iload 8, 8, 0, .null, []),
  (65, .aload 4, 4, 0, .null, []),
  (67, .getfield 106, 4, 2, .null, []),
  (70, .if_icmp .ge 35, 51, 0, .null, []),
  (73, .aload 4, 4, 0, .null, []),
  (75, .aload 5, 5, 0, .null, []),
  (77, .iload 8, 8, 0, .null, []),
  (79, .invokevirtual 146, 57, 2, .null, []),
  (82, .istore 9, 9, 0, .null, []),
  (84, .iload 9, 9, 0, .null, []),
  (86, .iload 7, 7, 0, .null, []),
  (88, .if_icmp .le 11, 49, 0, .null, []),
  (91, .iload 9, 9, 0, .null, []),
  (93, .istore 7, 7, 0, .null, []),
  (95, .iload 8, 8, 0, .null, []),
  (97, .istore 6, 6, 0, .null, []),
  (99, .iinc 8 1, 8, 0, .null, []),
  (102, .goto (-39), 33, 0, .null, []),
  (105, .iload_n 3, 3, 0, .null, []),
  (106, .ifCond .ne 8, 55, 0, .null, []),
  (109, .iload 6, 6, 0, .null, []),
  (111, .goto 5, 56, 0, .null, []),
  (114, .iload 7, 7, 0, .null, []),
  (116, .ireturn, 0, 0, .null, [])])
def mX7_clash : pM := (⟨RX7, "clash", "(II)I"⟩, prog_1_method_15_code, 5, (some FieldType.int), 1, 7, [(0, .aload_n 0, 0, 0, .null, []),
  (1, .getfield 21, 7, 1, .null, []),
  (4, .iload_n 1, 1, 0, .null, []),
  (5, .invokevirtual 75, 64, 1, .null, []),
  (8, .astore_n 3, 3, 0, .null, []),
  (9, .aload_n 0, 0, 0, .null, []),
  (10, .getfield 21, 7, 1, .null, []),
  (13, .iload_n 2, 2, 0, .null, []),
  (14, .invokevirtual 75, 64, 1, .null, []),
  (17, .astore 4, 4, 0, .null, []),
  (19, .aload_n 3, 3, 0, .null, []),
  (20, .ifnull 13, 17, 0, .null, []),
  (23, .aload 4, 4, 0, .null, []),
  (25, .ifnull 8, 17, 0, .null, []),
  (28, .iload_n 1, 1, 0, .null, []),
  (29, .iload_n 2, 2, 0, .null, []),
  (30, .if_icmp .ne 6, 19, 0, .null, []),
  (33, .ldc 65, 0, 0, .int (-1000000001), []),
  (35, .ireturn, 0, 0, .null, []),
  (36, .aload_n 3, 3, 0, .null, []),
  (37, .aload 4, 4, 0, .null, []),
  (39, .invokevirtual 149, 58, 1, .null, []),
  (42, .ifCond .eq 7, 25, 0, .null, []),
  (45, .iconst 1, 0, 0, .int 1, []),
  (46, .goto 4, 26, 0, .null, []),
  (49, .iconst 0, 0, 0, .int 0, []),
  (50, .ireturn, 0, 0, .null, [])])
def mX7_undone : pM := (⟨RX7, "undone", "()I"⟩, prog_1_method_16_code, 4, (some FieldType.int), 1, 7, [(0, .aload_n 0, 0, 0, .null, []),
  (1, .getfield 21, 7, 1, .null, []),
  (4, .invokevirtual 153, 75, 0, .null, []),
  (7, .aload_n 0, 0, 0, .null, []),
  (8, .getfield 21, 7, 1, .null, []),
  (11, .invokevirtual 156, 72, 0, .null, []),
  (14, .istore_n 1, 1, 0, .null, []),
  (15, .iload_n 1, 1, 0, .null, []),
  (16, .istore_n 2, 2, 0, .null, []),
  (17, .iconst 0, 0, 0, .int 0, []),
  (18, .istore_n 3, 3, 0, .null, []),
  (19, .iload_n 3, 3, 0, .null, []),
  (20, .iload_n 1, 1, 0, .null, []),
  (21, .if_icmp .ge 35, 32, 0, .null, []),
  (24, .iload_n 3, 3, 0, .null, []),
  (25, .iload_n 2, 2, 0, .null, []),
  (26, .iload_n 1, 1, 0, .null, []),
  (27, .invokestatic 159, 138, 3, .null, []),
  (30, .ifCond .eq 20, 30, 0, .null, []),
  (33, .aload_n 0, 0, 0, .null, []),
  (34, .getfield 21, 7, 1, .null, []),
  (37, .iload_n 1, 1, 0, .null, []),
  (38, .iload_n 3, 3, 0, .null, []),
  (39, .iconst (-1), 0, 0, .int (-1), []),
  (40, .ixor, 0, 0, .null, []),
  (41, .iand, 0, 0, .null, []),
  (42, .invokevirtual 162, 76, 1, .null, []),
  (45, .ifCond .ne 5, 30, 0, .null, []),
  (48, .iload_n 3, 3, 0, .null, []),
  (49, .istore_n 2, 2, 0, .null, []),
  (50, .iinc 3 1, 3, 0, .null, []),
  (53, .goto (-34), 11, 0, .null, []),
  (56, .iload_n 2, 2, 0, .null, []),
  (57, .ireturn, 0, 0, .null, [])])
def mX7_borne : pM := (⟨RX7, "borne", "()I"⟩, prog_1_method_17_code, 5, (some FieldType.int), 1, 7, [(0, .aload_n 0, 0, 0, .null, []),
  (1, .getfield 21, 7, 1, .null, []),
  (4, .invokevirtual 156, 72, 0, .null, []),
  (7, .istore_n 1, 1, 0, .null, []),
  (8, .aload_n 0, 0, 0, .null, []),
  (9, .getfield 21, 7, 1, .null, []),
  (12, .iload_n 1, 1, 0, .null, []),
  (13, .invokevirtual 165, 73, 1, .null, []),
  (16, .istore_n 2, 2, 0, .null, []),
  (17, .iload_n 1, 1, 0, .null, []),
  (18, .istore_n 3, 3, 0, .null, []),
  (19, .iconst 0, 0, 0, .int 0, []),
  (20, .istore 4, 4, 0, .null, []),
  (22, .iload 4, 4, 0, .null, []),
  (24, .iload_n 1, 1, 0, .null, []),
  (25, .if_icmp .ge 35, 31, 0, .null, []),
  (28, .iload 4, 4, 0, .null, []),
  (30, .iload_n 3, 3, 0, .null, []),
  (31, .iload_n 1, 1, 0, .null, []),
  (32, .invokestatic 159, 138, 3, .null, []),
  (35, .ifCond .eq 19, 29, 0, .null, []),
  (38, .aload_n 0, 0, 0, .null, []),
  (39, .getfield 21, 7, 1, .null, []),
  (42, .iload 4, 4, 0, .null, []),
  (44, .invokevirtual 165, 73, 1, .null, []),
  (47, .iload_n 2, 2, 0, .null, []),
  (48, .if_icmp .ne 6, 29, 0, .null, []),
  (51, .iload 4, 4, 0, .null, []),
  (53, .istore_n 3, 3, 0, .null, []),
  (54, .iinc 4 1, 4, 0, .null, []),
  (57, .goto (-35), 13, 0, .null, []),
  (60, .iload_n 3, 3, 0, .null, []),
  (61, .ireturn, 0, 0, .null, [])])
def mX7_look : pM := (⟨RX7, "look", "(I)I"⟩, prog_1_method_18_code, 6, (some FieldType.int), 1, 7, [(0, .iload_n 1, 1, 0, .null, []),
  (1, .iconst 0, 0, 0, .int 0, []),
  (2, .iconst 1, 0, 0, .int 1, []),
  (3, .invokestatic 61, 131, 3, .null, []),
  (6, .ifCond .ne 6, 7, 0, .null, []),
  (9, .ldc 65, 0, 0, .int (-1000000001), []),
  (11, .ireturn, 0, 0, .null, []),
  (12, .iconst 0, 0, 0, .int 0, []),
  (13, .istore_n 2, 2, 0, .null, []),
  (14, .aload_n 0, 0, 0, .null, []),
  (15, .getfield 21, 7, 1, .null, []),
  (18, .iconst 0, 0, 0, .int 0, []),
  (19, .invokevirtual 168, 77, 1, .null, []),
  (22, .istore_n 3, 3, 0, .null, []),
  (23, .iconst 1, 0, 0, .int 1, []),
  (24, .istore 4, 4, 0, .null, []),
  (26, .iload 4, 4, 0, .null, []),
  (28, .bipush 16, 0, 0, .int 16, []),
  (30, .if_icmp .ge 32, 33, 0, .null, []),
  (33, .aload_n 0, 0, 0, .null, []),
  (34, .getfield 21, 7, 1, .null, []),
  (37, .iload 4, 4, 0, .null, []),
  (39, .invokevirtual 168, 77, 1, .null, []),
  (42, .istore 5, 5, 0, .null, []),
  (44, .iload 5, 5, 0, .null, []),
  (46, .iload_n 3, 3, 0, .null, []),
  (47, .if_icmp .le 9, 31, 0, .null, []),
  (50, .iload 5, 5, 0, .null, []),
  (52, .istore_n 3, 3, 0, .null, []),
  (53, .iload 4, 4, 0, .null, []),
  (55, .istore_n 2, 2, 0, .null, []),
  (56, .iinc 4 1, 4, 0, .null, []),
  (59, .goto (-33), 16, 0, .null, []),
  (62, .iload_n 1, 1, 0, .null, []),
  (63, .ifCond .ne 7, 37, 0, .null, []),
  (66, .iload_n 2, 2, 0, .null, []),
  (67, .goto 4, 38, 0, .null, []),
  (70, .iload_n 3, 3, 0, .null, []),
  (71, .ireturn, 0, 0, .null, [])])
def mX7_tides : pM := (⟨RX7, "tides", "(I)I"⟩, prog_1_method_19_code, 3, (some FieldType.int), 1, 7, [(0, .iload_n 1, 1, 0, .null, []),
  (1, .iconst 1, 0, 0, .int 1, []),
  (2, .bipush 100, 0, 0, .int 100, []),
  (4, .invokestatic 61, 131, 3, .null, []),
  (7, .ifCond .ne 6, 7, 0, .null, []),
  (10, .ldc 65, 0, 0, .int (-1000000001), []),
  (12, .ireturn, 0, 0, .null, []),
  (13, .aload_n 0, 0, 0, .null, []),
  (14, .getfield 21, 7, 1, .null, []),
  (17, .getfield 171, 6, 8, .null, []),
  (20, .istore_n 2, 2, 0, .null, []),
  (21, .aload_n 0, 0, 0, .null, []),
  (22, .getfield 21, 7, 1, .null, []),
  (25, .iload_n 1, 1, 0, .null, []),
  (26, .sipush 9999, 0, 0, .int 9999, []),
  (29, .aload_n 0, 0, 0, .null, []),
  (30, .getfield 21, 7, 1, .null, []),
  (33, .getfield 174, 6, 7, .null, []),
  (36, .isub, 0, 0, .null, []),
  (37, .invokestatic 177, 99991, 0, .null, []),
  (40, .invokevirtual 183, 78, 1, .null, []),
  (43, .aload_n 0, 0, 0, .null, []),
  (44, .getfield 21, 7, 1, .null, []),
  (47, .getfield 171, 6, 8, .null, []),
  (50, .iload_n 2, 2, 0, .null, []),
  (51, .isub, 0, 0, .null, []),
  (52, .ireturn, 0, 0, .null, [])])
def mX7_book : pM := (⟨RX7, "book", "(I)I"⟩, prog_1_method_20_code, 2, (some FieldType.int), 1, 7, [(0, .iload_n 1, 1, 0, .null, []),
  (1, .tableswitch 63 0 3 #[31, 39, 47, 55], 18, 31, .null, [2, 6, 10, 14]),
  (32, .aload_n 0, 0, 0, .null, []),
  (33, .getfield 21, 7, 1, .null, []),
  (36, .getfield 171, 6, 8, .null, []),
  (39, .ireturn, 0, 0, .null, []),
  (40, .aload_n 0, 0, 0, .null, []),
  (41, .getfield 21, 7, 1, .null, []),
  (44, .invokevirtual 187, 71, 0, .null, []),
  (47, .ireturn, 0, 0, .null, []),
  (48, .aload_n 0, 0, 0, .null, []),
  (49, .getfield 21, 7, 1, .null, []),
  (52, .invokevirtual 156, 72, 0, .null, []),
  (55, .ireturn, 0, 0, .null, []),
  (56, .aload_n 0, 0, 0, .null, []),
  (57, .getfield 21, 7, 1, .null, []),
  (60, .invokevirtual 190, 74, 0, .null, []),
  (63, .ireturn, 0, 0, .null, []),
  (64, .ldc 65, 0, 0, .int (-1000000001), []),
  (66, .ireturn, 0, 0, .null, [])])
def mX7_behind : pM := (⟨RX7, "behind", "(II)I"⟩, prog_1_method_21_code, 3, (some FieldType.int), 1, 7, [(0, .iload_n 1, 1, 0, .null, []),
  (1, .iconst 0, 0, 0, .int 0, []),
  (2, .bipush 100, 0, 0, .int 100, []),
  (4, .invokestatic 61, 131, 3, .null, []),
  (7, .ifCond .eq 20, 14, 0, .null, []),
  (10, .iload_n 2, 2, 0, .null, []),
  (11, .iconst 0, 0, 0, .int 0, []),
  (12, .iconst 2, 0, 0, .int 2, []),
  (13, .aload_n 0, 0, 0, .null, []),
  (14, .getfield 21, 7, 1, .null, []),
  (17, .getfield 193, 6, 5, .null, []),
  (20, .iadd, 0, 0, .null, []),
  (21, .invokestatic 61, 131, 3, .null, []),
  (24, .ifCond .ne 6, 16, 0, .null, []),
  (27, .ldc 65, 0, 0, .int (-1000000001), []),
  (29, .ireturn, 0, 0, .null, []),
  (30, .aload_n 0, 0, 0, .null, []),
  (31, .getfield 28, 7, 3, .null, []),
  (34, .aload_n 0, 0, 0, .null, []),
  (35, .getfield 21, 7, 1, .null, []),
  (38, .invokevirtual 196, 61, 1, .null, []),
  (41, .aload_n 0, 0, 0, .null, []),
  (42, .getfield 28, 7, 3, .null, []),
  (45, .iload_n 1, 1, 0, .null, []),
  (46, .invokevirtual 183, 78, 1, .null, []),
  (49, .iload_n 2, 2, 0, .null, []),
  (50, .tableswitch 50 0 2 #[26, 34, 42], 39, 26, .null, [27, 31, 35]),
  (76, .aload_n 0, 0, 0, .null, []),
  (77, .getfield 28, 7, 3, .null, []),
  (80, .invokevirtual 187, 71, 0, .null, []),
  (83, .ireturn, 0, 0, .null, []),
  (84, .aload_n 0, 0, 0, .null, []),
  (85, .getfield 28, 7, 3, .null, []),
  (88, .invokevirtual 156, 72, 0, .null, []),
  (91, .ireturn, 0, 0, .null, []),
  (92, .aload_n 0, 0, 0, .null, []),
  (93, .getfield 28, 7, 3, .null, []),
  (96, .getfield 171, 6, 8, .null, []),
  (99, .ireturn, 0, 0, .null, []),
  (100, .aload_n 0, 0, 0, .null, []),
  (101, .getfield 28, 7, 3, .null, []),
  (104, .iload_n 2, 2, 0, .null, []),
  (105, .iconst 3, 0, 0, .int 3, []),
  (106, .isub, 0, 0, .null, []),
  (107, .invokevirtual 200, 65, 1, .null, []),
  (110, .ireturn, 0, 0, .null, [])])
def mX7_lasts : pM := (⟨RX7, "lasts", "()I"⟩, prog_1_method_22_code, 2, (some FieldType.int), 1, 7, [(0, .aload_n 0, 0, 0, .null, []),
  (1, .getfield 28, 7, 3, .null, []),
  (4, .aload_n 0, 0, 0, .null, []),
  (5, .getfield 21, 7, 1, .null, []),
  (8, .invokevirtual 196, 61, 1, .null, []),
  (11, .iconst 0, 0, 0, .int 0, []),
  (12, .istore_n 1, 1, 0, .null, []),
  (13, .iload_n 1, 1, 0, .null, []),
  (14, .sipush 300, 0, 0, .int 300, []),
  (17, .if_icmp .gt 29, 22, 0, .null, []),
  (20, .aload_n 0, 0, 0, .null, []),
  (21, .getfield 28, 7, 3, .null, []),
  (24, .invokevirtual 156, 72, 0, .null, []),
  (27, .ifCond .ne 5, 16, 0, .null, []),
  (30, .iload_n 1, 1, 0, .null, []),
  (31, .ireturn, 0, 0, .null, []),
  (32, .aload_n 0, 0, 0, .null, []),
  (33, .getfield 28, 7, 3, .null, []),
  (36, .iconst 1, 0, 0, .int 1, []),
  (37, .invokevirtual 183, 78, 1, .null, []),
  (40, .iinc 1 1, 1, 0, .null, []),
  (43, .goto (-30), 7, 0, .null, []),
  (46, .ldc 203, 0, 0, .int (-1000000005), []),
  (48, .ireturn, 0, 0, .null, [])])
def mX7_best : pM := (⟨RX7, "best", "(III)I"⟩, prog_1_method_23_code, 8, (some FieldType.int), 1, 7, [(0, .aload_n 0, 0, 0, .null, []),
  (1, .getfield 21, 7, 1, .null, []),
  (4, .iload_n 1, 1, 0, .null, []),
  (5, .invokevirtual 75, 64, 1, .null, []),
  (8, .ifnull 22, 15, 0, .null, []),
  (11, .iload_n 2, 2, 0, .null, []),
  (12, .iconst 1, 0, 0, .int 1, []),
  (13, .bipush 60, 0, 0, .int 60, []),
  (15, .invokestatic 61, 131, 3, .null, []),
  (18, .ifCond .eq 12, 15, 0, .null, []),
  (21, .iload_n 3, 3, 0, .null, []),
  (22, .iconst 0, 0, 0, .int 0, []),
  (23, .iconst 1, 0, 0, .int 1, []),
  (24, .invokestatic 61, 131, 3, .null, []),
  (27, .ifCond .ne 6, 17, 0, .null, []),
  (30, .ldc 65, 0, 0, .int (-1000000001), []),
  (32, .ireturn, 0, 0, .null, []),
  (33, .iconst 0, 0, 0, .int 0, []),
  (34, .istore 4, 4, 0, .null, []),
  (36, .iconst (-1), 0, 0, .int (-1), []),
  (37, .istore 5, 5, 0, .null, []),
  (39, .iconst 0, 0, 0, .int 0, []),
  (40, .istore 6, 6, 0, .null, []),
  (42, .iload 6, 6, 0, .null, []),
  (44, .bipush 16, 0, 0, .int 16, []),
  (46, .if_icmp .ge 63, 54, 0, .null, []),
  (49, .aload_n 0, 0, 0, .null, []),
  (50, .getfield 28, 7, 3, .null, []),
  (53, .aload_n 0, 0, 0, .null, []),
  (54, .getfield 21, 7, 1, .null, []),
  (57, .invokevirtual 196, 61, 1, .null, []),
  (60, .aload_n 0, 0, 0, .null, []),
  (61, .getfield 28, 7, 3, .null, []),
  (64, .iload_n 1, 1, 0, .null, []),
  (65, .iload 6, 6, 0, .null, []),
  (67, .invokevirtual 204, 66, 2, .null, []),
  (70, .aload_n 0, 0, 0, .null, []),
  (71, .getfield 28, 7, 3, .null, []),
  (74, .iload_n 2, 2, 0, .null, []),
  (75, .invokevirtual 183, 78, 1, .null, []),
  (78, .aload_n 0, 0, 0, .null, []),
  (79, .getfield 28, 7, 3, .null, []),
  (82, .iload_n 1, 1, 0, .null, []),
  (83, .invokevirtual 200, 65, 1, .null, []),
  (86, .istore 7, 7, 0, .null, []),
  (88, .iload 7, 7, 0, .null, []),
  (90, .iload 5, 5, 0, .null, []),
  (92, .if_icmp .le 11, 52, 0, .null, []),
  (95, .iload 7, 7, 0, .null, []),
  (97, .istore 5, 5, 0, .null, []),
  (99, .iload 6, 6, 0, .null, []),
  (101, .istore 4, 4, 0, .null, []),
  (103, .iinc 6 1, 6, 0, .null, []),
  (106, .goto (-64), 23, 0, .null, []),
  (109, .iload_n 3, 3, 0, .null, []),
  (110, .ifCond .ne 8, 58, 0, .null, []),
  (113, .iload 4, 4, 0, .null, []),
  (115, .goto 5, 59, 0, .null, []),
  (118, .iload 5, 5, 0, .null, []),
  (120, .ireturn, 0, 0, .null, [])])
def mX7_taught : pM := (⟨RX7, "taught", "(II)I"⟩, prog_1_method_24_code, 7, (some FieldType.int), 1, 7, [(0, .iload_n 1, 1, 0, .null, []),
  (1, .iconst 1, 0, 0, .int 1, []),
  (2, .bipush 60, 0, 0, .int 60, []),
  (4, .invokestatic 61, 131, 3, .null, []),
  (7, .ifCond .eq 12, 10, 0, .null, []),
  (10, .iload_n 2, 2, 0, .null, []),
  (11, .iconst 0, 0, 0, .int 0, []),
  (12, .iconst 1, 0, 0, .int 1, []),
  (13, .invokestatic 61, 131, 3, .null, []),
  (16, .ifCond .ne 6, 12, 0, .null, []),
  (19, .ldc 65, 0, 0, .int (-1000000001), []),
  (21, .ireturn, 0, 0, .null, []),
  (22, .iconst 0, 0, 0, .int 0, []),
  (23, .istore_n 3, 3, 0, .null, []),
  (24, .iconst (-1), 0, 0, .int (-1), []),
  (25, .istore 4, 4, 0, .null, []),
  (27, .iconst 0, 0, 0, .int 0, []),
  (28, .istore 5, 5, 0, .null, []),
  (30, .iload 5, 5, 0, .null, []),
  (32, .bipush 16, 0, 0, .int 16, []),
  (34, .if_icmp .ge 73, 55, 0, .null, []),
  (37, .aload_n 0, 0, 0, .null, []),
  (38, .getfield 28, 7, 3, .null, []),
  (41, .aload_n 0, 0, 0, .null, []),
  (42, .getfield 21, 7, 1, .null, []),
  (45, .invokevirtual 196, 61, 1, .null, []),
  (48, .aload_n 0, 0, 0, .null, []),
  (49, .getfield 28, 7, 3, .null, []),
  (52, .iload 5, 5, 0, .null, []),
  (54, .aload_n 0, 0, 0, .null, []),
  (55, .getfield 21, 7, 1, .null, []),
  (58, .iload 5, 5, 0, .null, []),
  (60, .invokevirtual 129, 67, 1, .null, []),
  (63, .iconst 1, 0, 0, .int 1, []),
  (64, .iadd, 0, 0, .null, []),
  (65, .iconst 4, 0, 0, .int 4, []),
  (66, .irem, 0, 0, .null, []),
  (67, .invokevirtual 132, 68, 2, .null, []),
  (70, .aload_n 0, 0, 0, .null, []),
  (71, .getfield 28, 7, 3, .null, []),
  (74, .iload_n 1, 1, 0, .null, []),
  (75, .invokevirtual 183, 78, 1, .null, []),
  (78, .aload_n 0, 0, 0, .null, []),
  (79, .getfield 28, 7, 3, .null, []),
  (82, .invokevirtual 187, 71, 0, .null, []),
  (85, .istore 6, 6, 0, .null, []),
  (87, .iload 6, 6, 0, .null, []),
  (89, .iload 4, 4, 0, .null, []),
  (91, .if_icmp .le 10, 53, 0, .null, []),
  (94, .iload 6, 6, 0, .null, []),
  (96, .istore 4, 4, 0, .null, []),
  (98, .iload 5, 5, 0, .null, []),
  (100, .istore_n 3, 3, 0, .null, []),
  (101, .iinc 5 1, 5, 0, .null, []),
  (104, .goto (-74), 18, 0, .null, []),
  (107, .iload_n 2, 2, 0, .null, []),
  (108, .ifCond .ne 7, 59, 0, .null, []),
  (111, .iload_n 3, 3, 0, .null, []),
  (112, .goto 5, 60, 0, .null, []),
  (115, .iload 4, 4, 0, .null, []),
  (117, .ireturn, 0, 0, .null, [])])
def mX7_whose : pM := (⟨RX7, "whose", "(II)I"⟩, prog_1_method_25_code, 8, (some FieldType.int), 1, 7, [(0, .aload_n 0, 0, 0, .null, []),
  (1, .iload_n 1, 1, 0, .null, []),
  (2, .invokevirtual 207, 140, 1, .null, []),
  (5, .astore_n 3, 3, 0, .null, []),
  (6, .aload_n 3, 3, 0, .null, []),
  (7, .ifnull 12, 11, 0, .null, []),
  (10, .iload_n 2, 2, 0, .null, []),
  (11, .iconst 0, 0, 0, .int 0, []),
  (12, .iconst 1, 0, 0, .int 1, []),
  (13, .invokestatic 61, 131, 3, .null, []),
  (16, .ifCond .ne 6, 13, 0, .null, []),
  (19, .ldc 65, 0, 0, .int (-1000000001), []),
  (21, .ireturn, 0, 0, .null, []),
  (22, .aload_n 3, 3, 0, .null, []),
  (23, .invokevirtual 211, 35, 0, .null, []),
  (26, .ifCond .eq 6, 18, 0, .null, []),
  (29, .ldc 214, 0, 0, .int (-1000000011), []),
  (31, .ireturn, 0, 0, .null, []),
  (32, .ldc 203, 0, 0, .int (-1000000005), []),
  (34, .istore 4, 4, 0, .null, []),
  (36, .ldc 203, 0, 0, .int (-1000000005), []),
  (38, .istore 5, 5, 0, .null, []),
  (40, .iconst 0, 0, 0, .int 0, []),
  (41, .istore 6, 6, 0, .null, []),
  (43, .iload 6, 6, 0, .null, []),
  (45, .aload_n 0, 0, 0, .null, []),
  (46, .getfield 21, 7, 1, .null, []),
  (49, .getfield 193, 6, 5, .null, []),
  (52, .if_icmp .ge 44, 47, 0, .null, []),
  (55, .aload_n 0, 0, 0, .null, []),
  (56, .getfield 21, 7, 1, .null, []),
  (59, .iload 6, 6, 0, .null, []),
  (61, .invokevirtual 75, 64, 1, .null, []),
  (64, .aload_n 3, 3, 0, .null, []),
  (65, .invokestatic 215, 139, 2, .null, []),
  (68, .istore 7, 7, 0, .null, []),
  (70, .iload 6, 6, 0, .null, []),
  (72, .ifCond .eq 10, 41, 0, .null, []),
  (75, .iload 7, 7, 0, .null, []),
  (77, .iload 5, 5, 0, .null, []),
  (79, .if_icmp .ge 11, 45, 0, .null, []),
  (82, .iload 7, 7, 0, .null, []),
  (84, .istore 5, 5, 0, .null, []),
  (86, .iload 6, 6, 0, .null, []),
  (88, .istore 4, 4, 0, .null, []),
  (90, .iinc 6 1, 6, 0, .null, []),
  (93, .goto (-50), 24, 0, .null, []),
  (96, .iload_n 2, 2, 0, .null, []),
  (97, .ifCond .ne 8, 51, 0, .null, []),
  (100, .iload 4, 4, 0, .null, []),
  (102, .goto 5, 52, 0, .null, []),
  (105, .iload 5, 5, 0, .null, []),
  (107, .ireturn, 0, 0, .null, [])])
def mX7_fee : pM := (⟨RX7, "fee", "()I"⟩, prog_1_method_26_code, 1, (some FieldType.int), 1, 7, [(0, .aload_n 0, 0, 0, .null, []),
  (1, .getfield 21, 7, 1, .null, []),
  (4, .iconst 1, 0, 0, .int 1, []),
  (5, .aconst_null, 0, 0, .null, []),
  (6, .aload_n 0, 0, 0, .null, []),
  (7, .getfield 21, 7, 1, .null, []),
  (10, .getfield 171, 6, 8, .null, []),
  (13, .invokevirtual 219, 81, 3, .null, []),
  (16, .ireturn, 0, 0, .null, [])])
def mX7_fine : pM := (⟨RX7, "fine", "(I)I"⟩, prog_1_method_27_code, 3, (some FieldType.int), 1, 7, [(0, .aload_n 0, 0, 0, .null, []),
  (1, .getfield 21, 7, 1, .null, []),
  (4, .iload_n 1, 1, 0, .null, []),
  (5, .invokevirtual 75, 64, 1, .null, []),
  (8, .astore_n 2, 2, 0, .null, []),
  (9, .aload_n 2, 2, 0, .null, []),
  (10, .ifnonnull 8, 9, 0, .null, []),
  (13, .ldc 65, 0, 0, .int (-1000000001), []),
  (15, .goto 16, 16, 0, .null, []),
  (18, .aload_n 0, 0, 0, .null, []),
  (19, .getfield 21, 7, 1, .null, []),
  (22, .iconst 2, 0, 0, .int 2, []),
  (23, .aload_n 2, 2, 0, .null, []),
  (24, .aload_n 2, 2, 0, .null, []),
  (25, .getfield 223, 4, 5, .null, []),
  (28, .invokevirtual 219, 81, 3, .null, []),
  (31, .ireturn, 0, 0, .null, [])])
def mX7_feed : pM := (⟨RX7, "feed", "(III)I"⟩, prog_1_method_28_code, 4, (some FieldType.int), 1, 7, [(0, .aload_n 0, 0, 0, .null, []),
  (1, .getfield 34, 7, 4, .null, []),
  (4, .bipush 12, 0, 0, .int 12, []),
  (6, .invokevirtual 226, 13, 1, .null, []),
  (9, .ifCond .ne 6, 7, 0, .null, []),
  (12, .ldc 74, 0, 0, .int (-1000000003), []),
  (14, .ireturn, 0, 0, .null, []),
  (15, .aload_n 0, 0, 0, .null, []),
  (16, .getfield 34, 7, 4, .null, []),
  (19, .iload_n 1, 1, 0, .null, []),
  (20, .invokevirtual 228, 14, 1, .null, []),
  (23, .aload_n 0, 0, 0, .null, []),
  (24, .getfield 34, 7, 4, .null, []),
  (27, .iload_n 2, 2, 0, .null, []),
  (28, .invokevirtual 228, 14, 1, .null, []),
  (31, .aload_n 0, 0, 0, .null, []),
  (32, .getfield 34, 7, 4, .null, []),
  (35, .iload_n 3, 3, 0, .null, []),
  (36, .invokevirtual 228, 14, 1, .null, []),
  (39, .aload_n 0, 0, 0, .null, []),
  (40, .getfield 34, 7, 4, .null, []),
  (43, .getfield 231, 2, 1, .null, []),
  (46, .ireturn, 0, 0, .null, [])])
def mX7_trim : pM := (⟨RX7, "trim", "(I)I"⟩, prog_1_method_29_code, 2, (some FieldType.int), 1, 7, [(0, .iload_n 1, 1, 0, .null, []),
  (1, .iconst 0, 0, 0, .int 0, []),
  (2, .aload_n 0, 0, 0, .null, []),
  (3, .getfield 34, 7, 4, .null, []),
  (6, .getfield 231, 2, 1, .null, []),
  (9, .invokestatic 61, 131, 3, .null, []),
  (12, .ifCond .ne 6, 9, 0, .null, []),
  (15, .ldc 65, 0, 0, .int (-1000000001), []),
  (17, .ireturn, 0, 0, .null, []),
  (18, .aload_n 0, 0, 0, .null, []),
  (19, .getfield 34, 7, 4, .null, []),
  (22, .iload_n 1, 1, 0, .null, []),
  (23, .putfield 231, 2, 1, .null, []),
  (26, .iload_n 1, 1, 0, .null, []),
  (27, .ireturn, 0, 0, .null, [])])
def mX7_text : pM := (⟨RX7, "text", "()I"⟩, prog_1_method_30_code, 2, (some FieldType.int), 1, 7, [(0, .aload_n 0, 0, 0, .null, []),
  (1, .getfield 34, 7, 4, .null, []),
  (4, .aload_n 0, 0, 0, .null, []),
  (5, .getfield 10, 7, 0, .null, []),
  (8, .getfield 234, 1, 1, .null, []),
  (11, .invokevirtual 238, 15, 1, .null, []),
  (14, .istore_n 1, 1, 0, .null, []),
  (15, .aload_n 0, 0, 0, .null, []),
  (16, .getfield 34, 7, 4, .null, []),
  (19, .iconst 0, 0, 0, .int 0, []),
  (20, .putfield 231, 2, 1, .null, []),
  (23, .iload_n 1, 1, 0, .null, []),
  (24, .ifCond .lt 8, 17, 0, .null, []),
  (27, .bipush (-100), 0, 0, .int (-100), []),
  (29, .iload_n 1, 1, 0, .null, []),
  (30, .isub, 0, 0, .null, []),
  (31, .ireturn, 0, 0, .null, []),
  (32, .aload_n 0, 0, 0, .null, []),
  (33, .getfield 21, 7, 1, .null, []),
  (36, .getfield 242, 6, 6, .null, []),
  (39, .bipush 14, 0, 0, .int 14, []),
  (41, .if_icmp .ge 13, 26, 0, .null, []),
  (44, .aload_n 0, 0, 0, .null, []),
  (45, .getfield 21, 7, 1, .null, []),
  (48, .invokevirtual 245, 84, 0, .null, []),
  (51, .goto 5, 27, 0, .null, []),
  (54, .ldc 74, 0, 0, .int (-1000000003), []),
  (56, .ireturn, 0, 0, .null, [])])
def mX7_textTold : pM := (⟨RX7, "textTold", "(II)I"⟩, prog_1_method_31_code, 4, (some FieldType.int), 1, 7, [(0, .aload_n 0, 0, 0, .null, []),
  (1, .getfield 21, 7, 1, .null, []),
  (4, .iload_n 1, 1, 0, .null, []),
  (5, .invokevirtual 248, 83, 1, .null, []),
  (8, .astore_n 3, 3, 0, .null, []),
  (9, .aload_n 3, 3, 0, .null, []),
  (10, .ifnull 12, 12, 0, .null, []),
  (13, .iload_n 2, 2, 0, .null, []),
  (14, .iconst 0, 0, 0, .int 0, []),
  (15, .iconst 1, 0, 0, .int 1, []),
  (16, .invokestatic 61, 131, 3, .null, []),
  (19, .ifCond .ne 6, 14, 0, .null, []),
  (22, .ldc 65, 0, 0, .int (-1000000001), []),
  (24, .ireturn, 0, 0, .null, []),
  (25, .iload_n 2, 2, 0, .null, []),
  (26, .ifCond .ne 10, 19, 0, .null, []),
  (29, .aload_n 3, 3, 0, .null, []),
  (30, .getfield 252, 0, 2, .null, []),
  (33, .goto 7, 21, 0, .null, []),
  (36, .aload_n 3, 3, 0, .null, []),
  (37, .getfield 257, 0, 3, .null, []),
  (40, .ireturn, 0, 0, .null, [])])
def mX7_why : pM := (⟨RX7, "why", "(I)I"⟩, prog_1_method_32_code, 2, (some FieldType.int), 1, 7, [(0, .iload_n 1, 1, 0, .null, []),
  (1, .iconst 0, 0, 0, .int 0, []),
  (2, .iconst 2, 0, 0, .int 2, []),
  (3, .invokestatic 61, 131, 3, .null, []),
  (6, .ifCond .eq 14, 10, 0, .null, []),
  (9, .aload_n 0, 0, 0, .null, []),
  (10, .getfield 21, 7, 1, .null, []),
  (13, .iload_n 1, 1, 0, .null, []),
  (14, .invokevirtual 260, 82, 1, .null, []),
  (17, .goto 5, 11, 0, .null, []),
  (20, .ldc 65, 0, 0, .int (-1000000001), []),
  (22, .ireturn, 0, 0, .null, [])])
def mX7_sheet : pM := (⟨RX7, "sheet", "(III)I"⟩, prog_1_method_33_code, 5, (some FieldType.int), 1, 7, [(0, .aload_n 0, 0, 0, .null, []),
  (1, .iload_n 1, 1, 0, .null, []),
  (2, .invokevirtual 207, 140, 1, .null, []),
  (5, .astore 4, 4, 0, .null, []),
  (7, .aload 4, 4, 0, .null, []),
  (9, .ifnull 12, 11, 0, .null, []),
  (12, .iload_n 2, 2, 0, .null, []),
  (13, .iconst (-1), 0, 0, .int (-1), []),
  (14, .iconst 1, 0, 0, .int 1, []),
  (15, .invokestatic 61, 131, 3, .null, []),
  (18, .ifCond .ne 6, 13, 0, .null, []),
  (21, .ldc 65, 0, 0, .int (-1000000001), []),
  (23, .ireturn, 0, 0, .null, []),
  (24, .iload_n 2, 2, 0, .null, []),
  (25, .iconst (-1), 0, 0, .int (-1), []),
  (26, .if_icmp .ne 12, 22, 0, .null, []),
  (29, .aload 4, 4, 0, .null, []),
  (31, .iconst (-1), 0, 0, .int (-1), []),
  (32, .iconst 0, 0, 0, .int 0, []),
  (33, .invokevirtual 263, 34, 2, .null, []),
  (36, .iconst 0, 0, 0, .int 0, []),
  (37, .ireturn, 0, 0, .null, []),
  (38, .iload_n 3, 3, 0, .null, []),
  (39, .bipush 24, 0, 0, .int 24, []),
  (41, .if_icmp .le 6, 27, 0, .null, []),
  (44, .ldc 65, 0, 0, .int (-1000000001), []),
  (46, .ireturn, 0, 0, .null, []),
  (47, .iload_n 3, 3, 0, .null, []),
  (48, .ifCond .ge 7, 31, 0, .null, []),
  (51, .ldc_w 264, 0, 0, .int (-1000000014), []),
  (54, .ireturn, 0, 0, .null, []),
  (55, .aload 4, 4, 0, .null, []),
  (57, .iload_n 2, 2, 0, .null, []),
  (58, .iload_n 3, 3, 0, .null, []),
  (59, .invokevirtual 263, 34, 2, .null, []),
  (62, .iload_n 3, 3, 0, .null, []),
  (63, .ireturn, 0, 0, .null, [])])
def mX7_mark : pM := (⟨RX7, "mark", "(III)I"⟩, prog_1_method_34_code, 5, (some FieldType.int), 1, 7, [(0, .aload_n 0, 0, 0, .null, []),
  (1, .iload_n 1, 1, 0, .null, []),
  (2, .invokevirtual 207, 140, 1, .null, []),
  (5, .astore 4, 4, 0, .null, []),
  (7, .aload 4, 4, 0, .null, []),
  (9, .ifnonnull 6, 8, 0, .null, []),
  (12, .ldc 65, 0, 0, .int (-1000000001), []),
  (14, .ireturn, 0, 0, .null, []),
  (15, .aload 4, 4, 0, .null, []),
  (17, .invokevirtual 211, 35, 0, .null, []),
  (20, .ifCond .eq 6, 13, 0, .null, []),
  (23, .ldc 214, 0, 0, .int (-1000000011), []),
  (25, .ireturn, 0, 0, .null, []),
  (26, .aload 4, 4, 0, .null, []),
  (28, .iload_n 2, 2, 0, .null, []),
  (29, .invokevirtual 265, 36, 1, .null, []),
  (32, .ifCond .ne 7, 19, 0, .null, []),
  (35, .ldc_w 268, 0, 0, .int (-1000000013), []),
  (38, .ireturn, 0, 0, .null, []),
  (39, .aload 4, 4, 0, .null, []),
  (41, .getfield 269, 3, 1, .null, []),
  (44, .ifCond .ne 22, 34, 0, .null, []),
  (47, .iload_n 3, 3, 0, .null, []),
  (48, .ldc 203, 0, 0, .int (-1000000005), []),
  (50, .if_icmp .ne 6, 27, 0, .null, []),
  (53, .ldc 115, 0, 0, .int (-1000000012), []),
  (55, .ireturn, 0, 0, .null, []),
  (56, .aload 4, 4, 0, .null, []),
  (58, .iload_n 2, 2, 0, .null, []),
  (59, .iload_n 3, 3, 0, .null, []),
  (60, .i2s, 0, 0, .null, []),
  (61, .invokevirtual 272, 39, 2, .null, []),
  (64, .iconst 1, 0, 0, .int 1, []),
  (65, .ireturn, 0, 0, .null, []),
  (66, .iload_n 3, 3, 0, .null, []),
  (67, .ldc 203, 0, 0, .int (-1000000005), []),
  (69, .if_icmp .eq 19, 44, 0, .null, []),
  (72, .iload_n 3, 3, 0, .null, []),
  (73, .ldc_w 275, 0, 0, .int (-99999), []),
  (76, .ldc_w 276, 0, 0, .int 99999, []),
  (79, .invokestatic 61, 131, 3, .null, []),
  (82, .ifCond .ne 6, 44, 0, .null, []),
  (85, .ldc 65, 0, 0, .int (-1000000001), []),
  (87, .ireturn, 0, 0, .null, []),
  (88, .aload 4, 4, 0, .null, []),
  (90, .iload_n 2, 2, 0, .null, []),
  (91, .iload_n 3, 3, 0, .null, []),
  (92, .invokevirtual 272, 39, 2, .null, []),
  (95, .iconst 1, 0, 0, .int 1, []),
  (96, .ireturn, 0, 0, .null, [])])
def mX7_pour : pM := (⟨RX7, "pour", "(I)I"⟩, prog_1_method_35_code, 7, (some FieldType.int), 1, 7, [(0, .aload_n 0, 0, 0, .null, []),
  (1, .iload_n 1, 1, 0, .null, []),
  (2, .invokevirtual 207, 140, 1, .null, []),
  (5, .astore_n 2, 2, 0, .null, []),
  (6, .aload_n 2, 2, 0, .null, []),
  (7, .ifnonnull 6, 8, 0, .null, []),
  (10, .ldc 65, 0, 0, .int (-1000000001), []),
  (12, .ireturn, 0, 0, .null, []),
  (13, .aload_n 2, 2, 0, .null, []),
  (14, .invokevirtual 211, 35, 0, .null, []),
  (17, .ifCond .eq 6, 13, 0, .null, []),
  (20, .ldc 214, 0, 0, .int (-1000000011), []),
  (22, .ireturn, 0, 0, .null, []),
  (23, .iconst 0, 0, 0, .int 0, []),
  (24, .istore_n 3, 3, 0, .null, []),
  (25, .iconst 0, 0, 0, .int 0, []),
  (26, .istore 4, 4, 0, .null, []),
  (28, .iload 4, 4, 0, .null, []),
  (30, .bipush 16, 0, 0, .int 16, []),
  (32, .if_icmp .ge 61, 46, 0, .null, []),
  (35, .aload_n 2, 2, 0, .null, []),
  (36, .iload 4, 4, 0, .null, []),
  (38, .invokevirtual 277, 38, 1, .null, []),
  (41, .istore 5, 5, 0, .null, []),
  (43, .iload 5, 5, 0, .null, []),
  (45, .iconst 0, 0, 0, .int 0, []),
  (46, .iconst 3, 0, 0, .int 3, []),
  (47, .invokestatic 280, 132, 3, .null, []),
  (50, .istore 6, 6, 0, .null, []),
  (52, .iload 5, 5, 0, .null, []),
  (54, .ldc 203, 0, 0, .int (-1000000005), []),
  (56, .if_icmp .eq 31, 44, 0, .null, []),
  (59, .iload 6, 6, 0, .null, []),
  (61, .aload_n 0, 0, 0, .null, []),
  (62, .getfield 21, 7, 1, .null, []),
  (65, .iload 4, 4, 0, .null, []),
  (67, .invokevirtual 129, 67, 1, .null, []),
  (70, .if_icmp .eq 17, 44, 0, .null, []),
  (73, .aload_n 0, 0, 0, .null, []),
  (74, .getfield 21, 7, 1, .null, []),
  (77, .iload 4, 4, 0, .null, []),
  (79, .iload 6, 6, 0, .null, []),
  (81, .invokevirtual 132, 68, 2, .null, []),
  (84, .iinc 3 1, 3, 0, .null, []),
  (87, .iinc 4 1, 4, 0, .null, []),
  (90, .goto (-62), 17, 0, .null, []),
  (93, .iload_n 3, 3, 0, .null, []),
  (94, .ireturn, 0, 0, .null, [])])
def mX7_reads : pM := (⟨RX7, "reads", "(I)I"⟩, prog_1_method_36_code, 6, (some FieldType.int), 1, 7, [(0, .aload_n 0, 0, 0, .null, []),
  (1, .iload_n 1, 1, 0, .null, []),
  (2, .invokevirtual 207, 140, 1, .null, []),
  (5, .astore_n 2, 2, 0, .null, []),
  (6, .aload_n 2, 2, 0, .null, []),
  (7, .ifnonnull 6, 8, 0, .null, []),
  (10, .ldc 65, 0, 0, .int (-1000000001), []),
  (12, .ireturn, 0, 0, .null, []),
  (13, .aload_n 2, 2, 0, .null, []),
  (14, .invokevirtual 211, 35, 0, .null, []),
  (17, .ifCond .eq 6, 13, 0, .null, []),
  (20, .ldc 214, 0, 0, .int (-1000000011), []),
  (22, .ireturn, 0, 0, .null, []),
  (23, .iconst 0, 0, 0, .int 0, []),
  (24, .istore_n 3, 3, 0, .null, []),
  (25, .iload_n 3, 3, 0, .null, []),
  (26, .aload_n 2, 2, 0, .null, []),
  (27, .getfield 283, 3, 2, .null, []),
  (30, .if_icmp .ge 50, 41, 0, .null, []),
  (33, .aload_n 2, 2, 0, .null, []),
  (34, .iload_n 3, 3, 0, .null, []),
  (35, .invokevirtual 277, 38, 1, .null, []),
  (38, .istore 4, 4, 0, .null, []),
  (40, .aload_n 0, 0, 0, .null, []),
  (41, .getfield 21, 7, 1, .null, []),
  (44, .iload_n 3, 3, 0, .null, []),
  (45, .invokevirtual 75, 64, 1, .null, []),
  (48, .astore 5, 5, 0, .null, []),
  (50, .iload 4, 4, 0, .null, []),
  (52, .ldc 203, 0, 0, .int (-1000000005), []),
  (54, .if_icmp .eq 20, 39, 0, .null, []),
  (57, .aload 5, 5, 0, .null, []),
  (59, .ifnull 13, 37, 0, .null, []),
  (62, .aload 5, 5, 0, .null, []),
  (64, .getfield 223, 4, 5, .null, []),
  (67, .iload 4, 4, 0, .null, []),
  (69, .if_icmp .eq 5, 39, 0, .null, []),
  (72, .iload_n 3, 3, 0, .null, []),
  (73, .ireturn, 0, 0, .null, []),
  (74, .iinc 3 1, 3, 0, .null, []),
  (77, .goto (-52), 15, 0, .null, []),
  (80, .ldc 203, 0, 0, .int (-1000000005), []),
  (82, .ireturn, 0, 0, .null, [])])
def mX7_copy : pM := (⟨RX7, "copy", "(IIIII)I"⟩, prog_1_method_37_code, 8, (some FieldType.int), 1, 7, [(0, .aload_n 0, 0, 0, .null, []),
  (1, .iload_n 1, 1, 0, .null, []),
  (2, .invokevirtual 207, 140, 1, .null, []),
  (5, .astore 6, 6, 0, .null, []),
  (7, .aload_n 0, 0, 0, .null, []),
  (8, .iload_n 3, 3, 0, .null, []),
  (9, .invokevirtual 207, 140, 1, .null, []),
  (12, .astore 7, 7, 0, .null, []),
  (14, .aload 6, 6, 0, .null, []),
  (16, .ifnull 8, 12, 0, .null, []),
  (19, .aload 7, 7, 0, .null, []),
  (21, .ifnonnull 6, 14, 0, .null, []),
  (24, .ldc 65, 0, 0, .int (-1000000001), []),
  (26, .ireturn, 0, 0, .null, []),
  (27, .aload 6, 6, 0, .null, []),
  (29, .invokevirtual 211, 35, 0, .null, []),
  (32, .ifCond .ne 11, 20, 0, .null, []),
  (35, .aload 7, 7, 0, .null, []),
  (37, .invokevirtual 211, 35, 0, .null, []),
  (40, .ifCond .eq 6, 22, 0, .null, []),
  (43, .ldc 214, 0, 0, .int (-1000000011), []),
  (45, .ireturn, 0, 0, .null, []),
  (46, .aload 6, 6, 0, .null, []),
  (48, .getfield 269, 3, 1, .null, []),
  (51, .aload 7, 7, 0, .null, []),
  (53, .getfield 269, 3, 1, .null, []),
  (56, .if_icmp .eq 6, 29, 0, .null, []),
  (59, .ldc 115, 0, 0, .int (-1000000012), []),
  (61, .ireturn, 0, 0, .null, []),
  (62, .aload 6, 6, 0, .null, []),
  (64, .iload_n 2, 2, 0, .null, []),
  (65, .iload 5, 5, 0, .null, []),
  (67, .invokevirtual 284, 37, 2, .null, []),
  (70, .ifCond .eq 15, 39, 0, .null, []),
  (73, .aload 7, 7, 0, .null, []),
  (75, .iload 4, 4, 0, .null, []),
  (77, .iload 5, 5, 0, .null, []),
  (79, .invokevirtual 284, 37, 2, .null, []),
  (82, .ifCond .ne 7, 41, 0, .null, []),
  (85, .ldc_w 268, 0, 0, .int (-1000000013), []),
  (88, .ireturn, 0, 0, .null, []),
  (89, .aload 6, 6, 0, .null, []),
  (91, .getfield 288, 3, 0, .null, []),
  (94, .iload_n 2, 2, 0, .null, []),
  (95, .aload 7, 7, 0, .null, []),
  (97, .getfield 288, 3, 0, .null, []),
  (100, .iload 4, 4, 0, .null, []),
  (102, .iload 5, 5, 0, .null, []),
  (104, .invokestatic 291, 99999, 0, .null, []),
  (107, .iload 5, 5, 0, .null, []),
  (109, .ireturn, 0, 0, .null, [])])
def mX7_lay : pM := (⟨RX7, "lay", "(III)I"⟩, prog_1_method_38_code, 8, (some FieldType.int), 1, 7, [(0, .aload_n 0, 0, 0, .null, []),
  (1, .iload_n 1, 1, 0, .null, []),
  (2, .invokevirtual 297, 141, 1, .null, []),
  (5, .astore 4, 4, 0, .null, []),
  (7, .aload 4, 4, 0, .null, []),
  (9, .ifnull 12, 11, 0, .null, []),
  (12, .iload_n 2, 2, 0, .null, []),
  (13, .iconst 0, 0, 0, .int 0, []),
  (14, .iconst 3, 0, 0, .int 3, []),
  (15, .invokestatic 61, 131, 3, .null, []),
  (18, .ifCond .ne 6, 13, 0, .null, []),
  (21, .ldc 65, 0, 0, .int (-1000000001), []),
  (23, .ireturn, 0, 0, .null, []),
  (24, .aload_n 0, 0, 0, .null, []),
  (25, .getfield 21, 7, 1, .null, []),
  (28, .iload_n 3, 3, 0, .null, []),
  (29, .invokevirtual 75, 64, 1, .null, []),
  (32, .astore 5, 5, 0, .null, []),
  (34, .aload_n 0, 0, 0, .null, []),
  (35, .iload_n 3, 3, 0, .null, []),
  (36, .invokevirtual 207, 140, 1, .null, []),
  (39, .astore 6, 6, 0, .null, []),
  (41, .iload_n 2, 2, 0, .null, []),
  (42, .iconst 1, 0, 0, .int 1, []),
  (43, .if_icmp .ne 8, 27, 0, .null, []),
  (46, .aload 5, 5, 0, .null, []),
  (48, .ifnull 13, 32, 0, .null, []),
  (51, .iload_n 2, 2, 0, .null, []),
  (52, .iconst 2, 0, 0, .int 2, []),
  (53, .if_icmp .ne 11, 34, 0, .null, []),
  (56, .aload 6, 6, 0, .null, []),
  (58, .ifnonnull 6, 34, 0, .null, []),
  (61, .ldc 65, 0, 0, .int (-1000000001), []),
  (63, .ireturn, 0, 0, .null, []),
  (64, .iload_n 2, 2, 0, .null, []),
  (65, .iconst 2, 0, 0, .int 2, []),
  (66, .if_icmp .ne 19, 44, 0, .null, []),
  (69, .aload 6, 6, 0, .null, []),
  (71, .ifnull 14, 44, 0, .null, []),
  (74, .aload 6, 6, 0, .null, []),
  (76, .invokevirtual 211, 35, 0, .null, []),
  (79, .ifCond .eq 6, 44, 0, .null, []),
  (82, .ldc 214, 0, 0, .int (-1000000011), []),
  (84, .ireturn, 0, 0, .null, []),
  (85, .aload 4, 4, 0, .null, []),
  (87, .getfield 301, 5, 2, .null, []),
  (90, .istore 7, 7, 0, .null, []),
  (92, .aload 4, 4, 0, .null, []),
  (94, .iload_n 2, 2, 0, .null, []),
  (95, .putfield 301, 5, 2, .null, []),
  (98, .iload_n 2, 2, 0, .null, []),
  (99, .iconst 1, 0, 0, .int 1, []),
  (100, .if_icmp .ne 16, 58, 0, .null, []),
  (103, .aload 4, 4, 0, .null, []),
  (105, .getfield 304, 5, 0, .null, []),
  (108, .aload 5, 5, 0, .null, []),
  (110, .invokevirtual 308, 43, 1, .null, []),
  (113, .goto 32, 72, 0, .null, []),
  (116, .iload_n 2, 2, 0, .null, []),
  (117, .iconst 2, 0, 0, .int 2, []),
  (118, .if_icmp .ne 16, 66, 0, .null, []),
  (121, .aload 4, 4, 0, .null, []),
  (123, .getfield 311, 5, 1, .null, []),
  (126, .aload 6, 6, 0, .null, []),
  (128, .invokevirtual 315, 40, 1, .null, []),
  (131, .goto 14, 72, 0, .null, []),
  (134, .iload_n 2, 2, 0, .null, []),
  (135, .iconst 3, 0, 0, .int 3, []),
  (136, .if_icmp .ne 9, 72, 0, .null, []),
  (139, .aload 4, 4, 0, .null, []),
  (141, .iload_n 3, 3, 0, .null, []),
  (142, .putfield 318, 5, 3, .null, []),
  (145, .iload 7, 7, 0, .null, []),
  (147, .ireturn, 0, 0, .null, [])])
def mX7_ask : pM := (⟨RX7, "ask", "(II)I"⟩, prog_1_method_39_code, 4, (some FieldType.int), 1, 7, [(0, .aload_n 0, 0, 0, .null, []),
  (1, .iload_n 1, 1, 0, .null, []),
  (2, .invokevirtual 297, 141, 1, .null, []),
  (5, .astore_n 3, 3, 0, .null, []),
  (6, .aload_n 3, 3, 0, .null, []),
  (7, .ifnull 10, 9, 0, .null, []),
  (10, .iload_n 2, 2, 0, .null, []),
  (11, .invokestatic 56, 134, 1, .null, []),
  (14, .ifCond .ne 6, 11, 0, .null, []),
  (17, .ldc 65, 0, 0, .int (-1000000001), []),
  (19, .ireturn, 0, 0, .null, []),
  (20, .aload_n 3, 3, 0, .null, []),
  (21, .getfield 301, 5, 2, .null, []),
  (24, .ifCond .ne 6, 16, 0, .null, []),
  (27, .ldc 214, 0, 0, .int (-1000000011), []),
  (29, .ireturn, 0, 0, .null, []),
  (30, .aload_n 3, 3, 0, .null, []),
  (31, .getfield 301, 5, 2, .null, []),
  (34, .iconst 1, 0, 0, .int 1, []),
  (35, .if_icmp .ne 24, 29, 0, .null, []),
  (38, .aload_n 3, 3, 0, .null, []),
  (39, .getfield 304, 5, 0, .null, []),
  (42, .iload_n 2, 2, 0, .null, []),
  (43, .invokevirtual 112, 46, 1, .null, []),
  (46, .ifCond .eq 13, 29, 0, .null, []),
  (49, .aload_n 3, 3, 0, .null, []),
  (50, .getfield 304, 5, 0, .null, []),
  (53, .invokevirtual 96, 56, 0, .null, []),
  (56, .goto 5, 30, 0, .null, []),
  (59, .ldc 115, 0, 0, .int (-1000000012), []),
  (61, .ireturn, 0, 0, .null, [])])
def mX7_item : pM := (⟨RX7, "item", "(II)I"⟩, prog_1_method_40_code, 5, (some FieldType.int), 1, 7, [(0, .aload_n 0, 0, 0, .null, []),
  (1, .iload_n 1, 1, 0, .null, []),
  (2, .invokevirtual 297, 141, 1, .null, []),
  (5, .astore_n 3, 3, 0, .null, []),
  (6, .aload_n 3, 3, 0, .null, []),
  (7, .ifnonnull 6, 8, 0, .null, []),
  (10, .ldc 65, 0, 0, .int (-1000000001), []),
  (12, .ireturn, 0, 0, .null, []),
  (13, .aload_n 3, 3, 0, .null, []),
  (14, .getfield 301, 5, 2, .null, []),
  (17, .ifCond .ne 6, 13, 0, .null, []),
  (20, .ldc 214, 0, 0, .int (-1000000011), []),
  (22, .ireturn, 0, 0, .null, []),
  (23, .aload_n 3, 3, 0, .null, []),
  (24, .getfield 301, 5, 2, .null, []),
  (27, .iconst 2, 0, 0, .int 2, []),
  (28, .if_icmp .eq 6, 19, 0, .null, []),
  (31, .ldc 115, 0, 0, .int (-1000000012), []),
  (33, .ireturn, 0, 0, .null, []),
  (34, .aload_n 3, 3, 0, .null, []),
  (35, .getfield 311, 5, 1, .null, []),
  (38, .iload_n 2, 2, 0, .null, []),
  (39, .invokevirtual 265, 36, 1, .null, []),
  (42, .ifCond .ne 7, 26, 0, .null, []),
  (45, .ldc_w 268, 0, 0, .int (-1000000013), []),
  (48, .ireturn, 0, 0, .null, []),
  (49, .aload_n 3, 3, 0, .null, []),
  (50, .getfield 311, 5, 1, .null, []),
  (53, .iload_n 2, 2, 0, .null, []),
  (54, .invokevirtual 277, 38, 1, .null, []),
  (57, .istore 4, 4, 0, .null, []),
  (59, .iload 4, 4, 0, .null, []),
  (61, .ldc 203, 0, 0, .int (-1000000005), []),
  (63, .if_icmp .ne 8, 36, 0, .null, []),
  (66, .ldc 115, 0, 0, .int (-1000000012), []),
  (68, .goto 5, 37, 0, .null, []),
  (71, .iload 4, 4, 0, .null, []),
  (73, .ireturn, 0, 0, .null, [])])
def mX7_rest : pM := (⟨RX7, "rest", "(II)I"⟩, prog_1_method_41_code, 4, (some FieldType.int), 1, 7, [(0, .aload_n 0, 0, 0, .null, []),
  (1, .iload_n 1, 1, 0, .null, []),
  (2, .invokevirtual 297, 141, 1, .null, []),
  (5, .astore_n 3, 3, 0, .null, []),
  (6, .aload_n 3, 3, 0, .null, []),
  (7, .ifnonnull 6, 8, 0, .null, []),
  (10, .ldc 65, 0, 0, .int (-1000000001), []),
  (12, .ireturn, 0, 0, .null, []),
  (13, .aload_n 3, 3, 0, .null, []),
  (14, .getfield 301, 5, 2, .null, []),
  (17, .ifCond .ne 6, 13, 0, .null, []),
  (20, .ldc 214, 0, 0, .int (-1000000011), []),
  (22, .ireturn, 0, 0, .null, []),
  (23, .aload_n 3, 3, 0, .null, []),
  (24, .getfield 301, 5, 2, .null, []),
  (27, .iconst 3, 0, 0, .int 3, []),
  (28, .if_icmp .eq 6, 19, 0, .null, []),
  (31, .ldc 115, 0, 0, .int (-1000000012), []),
  (33, .ireturn, 0, 0, .null, []),
  (34, .iload_n 2, 2, 0, .null, []),
  (35, .ifCond .ne 9, 23, 0, .null, []),
  (38, .ldc_w 321, 0, 0, .int (-1000000002), []),
  (41, .goto 9, 27, 0, .null, []),
  (44, .aload_n 3, 3, 0, .null, []),
  (45, .getfield 318, 5, 3, .null, []),
  (48, .iload_n 2, 2, 0, .null, []),
  (49, .irem, 0, 0, .null, []),
  (50, .ireturn, 0, 0, .null, [])])
def mX7_tell : pM := (⟨RX7, "tell", "(I)I"⟩, prog_1_method_42_code, 2, (some FieldType.int), 1, 7, [(0, .aload_n 0, 0, 0, .null, []),
  (1, .getfield 322, 7, 8, .null, []),
  (4, .ifCond .lt 15, 9, 0, .null, []),
  (7, .aload_n 0, 0, 0, .null, []),
  (8, .getfield 322, 7, 8, .null, []),
  (11, .aload_n 0, 0, 0, .null, []),
  (12, .getfield 50, 7, 7, .null, []),
  (15, .arraylength, 0, 0, .null, []),
  (16, .if_icmp .lt 6, 11, 0, .null, []),
  (19, .ldc 74, 0, 0, .int (-1000000003), []),
  (21, .ireturn, 0, 0, .null, []),
  (22, .aload_n 0, 0, 0, .null, []),
  (23, .getfield 50, 7, 7, .null, []),
  (26, .aload_n 0, 0, 0, .null, []),
  (27, .getfield 322, 7, 8, .null, []),
  (30, .iload_n 1, 1, 0, .null, []),
  (31, .iastore, 0, 0, .null, []),
  (32, .aload_n 0, 0, 0, .null, []),
  (33, .dup, 0, 0, .null, []),
  (34, .getfield 322, 7, 8, .null, []),
  (37, .iconst 1, 0, 0, .int 1, []),
  (38, .iadd, 0, 0, .null, []),
  (39, .putfield 322, 7, 8, .null, []),
  (42, .aload_n 0, 0, 0, .null, []),
  (43, .getfield 322, 7, 8, .null, []),
  (46, .ireturn, 0, 0, .null, [])])
def mX7_check : pM := (⟨RX7, "check", "(I)I"⟩, prog_1_method_43_code, 6, (some FieldType.int), 1, 7, [(0, .aload_n 0, 0, 0, .null, []),
  (1, .getfield 322, 7, 8, .null, []),
  (4, .istore_n 2, 2, 0, .null, []),
  (5, .aload_n 0, 0, 0, .null, []),
  (6, .iconst 0, 0, 0, .int 0, []),
  (7, .putfield 322, 7, 8, .null, []),
  (10, .iload_n 1, 1, 0, .null, []),
  (11, .iconst 1, 0, 0, .int 1, []),
  (12, .bipush 30, 0, 0, .int 30, []),
  (14, .invokestatic 61, 131, 3, .null, []),
  (17, .ifCond .ne 6, 13, 0, .null, []),
  (20, .ldc 65, 0, 0, .int (-1000000001), []),
  (22, .ireturn, 0, 0, .null, []),
  (23, .aload_n 0, 0, 0, .null, []),
  (24, .getfield 325, 7, 9, .null, []),
  (27, .ifCond .ne 7, 18, 0, .null, []),
  (30, .ldc_w 321, 0, 0, .int (-1000000002), []),
  (33, .ireturn, 0, 0, .null, []),
  (34, .aload_n 0, 0, 0, .null, []),
  (35, .getfield 28, 7, 3, .null, []),
  (38, .aload_n 0, 0, 0, .null, []),
  (39, .getfield 25, 7, 2, .null, []),
  (42, .invokevirtual 196, 61, 1, .null, []),
  (45, .iconst 2, 0, 0, .int 2, []),
  (46, .iload_n 1, 1, 0, .null, []),
  (47, .sipush 9999, 0, 0, .int 9999, []),
  (50, .aload_n 0, 0, 0, .null, []),
  (51, .getfield 25, 7, 2, .null, []),
  (54, .getfield 174, 6, 7, .null, []),
  (57, .isub, 0, 0, .null, []),
  (58, .invokestatic 177, 99991, 0, .null, []),
  (61, .imul, 0, 0, .null, []),
  (62, .istore_n 3, 3, 0, .null, []),
  (63, .iconst 0, 0, 0, .int 0, []),
  (64, .istore 4, 4, 0, .null, []),
  (66, .iload 4, 4, 0, .null, []),
  (68, .iload_n 3, 3, 0, .null, []),
  (69, .if_icmp .ge 86, 79, 0, .null, []),
  (72, .iload 4, 4, 0, .null, []),
  (74, .iconst 2, 0, 0, .int 2, []),
  (75, .irem, 0, 0, .null, []),
  (76, .ifCond .ne 11, 46, 0, .null, []),
  (79, .aload_n 0, 0, 0, .null, []),
  (80, .getfield 28, 7, 3, .null, []),
  (83, .iconst 1, 0, 0, .int 1, []),
  (84, .invokevirtual 183, 78, 1, .null, []),
  (87, .iload 4, 4, 0, .null, []),
  (89, .iconst 2, 0, 0, .int 2, []),
  (90, .irem, 0, 0, .null, []),
  (91, .ifCond .ne 13, 54, 0, .null, []),
  (94, .aload_n 0, 0, 0, .null, []),
  (95, .getfield 28, 7, 3, .null, []),
  (98, .invokevirtual 187, 71, 0, .null, []),
  (101, .goto 13, 58, 0, .null, []),
  (104, .aload_n 0, 0, 0, .null, []),
  (105, .getfield 28, 7, 3, .null, []),
  (108, .invokevirtual 156, 72, 0, .null, []),
  (111, .invokestatic 329, 244, 1, .null, []),
  (114, .istore 5, 5, 0, .null, []),
  (116, .iload 4, 4, 0, .null, []),
  (118, .iload_n 2, 2, 0, .null, []),
  (119, .if_icmp .ge 25, 73, 0, .null, []),
  (122, .iload 4, 4, 0, .null, []),
  (124, .aload_n 0, 0, 0, .null, []),
  (125, .getfield 50, 7, 7, .null, []),
  (128, .arraylength, 0, 0, .null, []),
  (129, .if_icmp .ge 15, 73, 0, .null, []),
  (132, .aload_n 0, 0, 0, .null, []),
  (133, .getfield 50, 7, 7, .null, []),
  (136, .iload 4, 4, 0, .null, []),
  (138, .iaload, 0, 0, .null, []),
  (139, .iload 5, 5, 0, .null, []),
  (141, .if_icmp .eq 8, 77, 0, .null, []),
  (144, .iconst 1, 0, 0, .int 1, []),
  (145, .iload 4, 4, 0, .null, []),
  (147, .iadd, 0, 0, .null, []),
  (148, .ireturn, 0, 0, .null, []),
  (149, .iinc 4 1, 4, 0, .null, []),
  (152, .goto (-86), 35, 0, .null, []),
  (155, .iload_n 2, 2, 0, .null, []),
  (156, .iload_n 3, 3, 0, .null, []),
  (157, .if_icmp .le 9, 86, 0, .null, []),
  (160, .iconst 1, 0, 0, .int 1, []),
  (161, .iload_n 3, 3, 0, .null, []),
  (162, .iadd, 0, 0, .null, []),
  (163, .goto 4, 87, 0, .null, []),
  (166, .iconst 0, 0, 0, .int 0, []),
  (167, .ireturn, 0, 0, .null, [])])
def mX7_keep : pM := (⟨RX7, "keep", "()I"⟩, prog_1_method_44_code, 1, (some FieldType.int), 1, 7, [(0, .aload_n 0, 0, 0, .null, []),
  (1, .getfield 25, 7, 2, .null, []),
  (4, .aload_n 0, 0, 0, .null, []),
  (5, .getfield 21, 7, 1, .null, []),
  (8, .invokevirtual 196, 61, 1, .null, []),
  (11, .aload_n 0, 0, 0, .null, []),
  (12, .iconst 1, 0, 0, .int 1, []),
  (13, .putfield 325, 7, 9, .null, []),
  (16, .aload_n 0, 0, 0, .null, []),
  (17, .getfield 21, 7, 1, .null, []),
  (20, .getfield 193, 6, 5, .null, []),
  (23, .ireturn, 0, 0, .null, [])])
def mX7_back : pM := (⟨RX7, "back", "()I"⟩, prog_1_method_45_code, 1, (some FieldType.int), 1, 7, [(0, .aload_n 0, 0, 0, .null, []),
  (1, .getfield 325, 7, 9, .null, []),
  (4, .ifCond .ne 7, 5, 0, .null, []),
  (7, .ldc_w 321, 0, 0, .int (-1000000002), []),
  (10, .ireturn, 0, 0, .null, []),
  (11, .aload_n 0, 0, 0, .null, []),
  (12, .getfield 21, 7, 1, .null, []),
  (15, .aload_n 0, 0, 0, .null, []),
  (16, .getfield 25, 7, 2, .null, []),
  (19, .invokevirtual 196, 61, 1, .null, []),
  (22, .aload_n 0, 0, 0, .null, []),
  (23, .getfield 21, 7, 1, .null, []),
  (26, .getfield 193, 6, 5, .null, []),
  (29, .ireturn, 0, 0, .null, [])])
def mX7_count : pM := (⟨RX7, "count", "(I)I"⟩, prog_1_method_46_code, 2, (some FieldType.int), 1, 7, [(0, .iload_n 1, 1, 0, .null, []),
  (1, .tableswitch 99 0 6 #[43, 51, 59, 70, 78, 83, 91], 30, 43, .null, [2, 6, 10, 15, 19, 22, 26]),
  (44, .aload_n 0, 0, 0, .null, []),
  (45, .getfield 21, 7, 1, .null, []),
  (48, .getfield 193, 6, 5, .null, []),
  (51, .ireturn, 0, 0, .null, []),
  (52, .aload_n 0, 0, 0, .null, []),
  (53, .getfield 21, 7, 1, .null, []),
  (56, .getfield 174, 6, 7, .null, []),
  (59, .ireturn, 0, 0, .null, []),
  (60, .aload_n 0, 0, 0, .null, []),
  (61, .getfield 21, 7, 1, .null, []),
  (64, .invokevirtual 156, 72, 0, .null, []),
  (67, .invokestatic 329, 244, 1, .null, []),
  (70, .ireturn, 0, 0, .null, []),
  (71, .aload_n 0, 0, 0, .null, []),
  (72, .getfield 21, 7, 1, .null, []),
  (75, .getfield 242, 6, 6, .null, []),
  (78, .ireturn, 0, 0, .null, []),
  (79, .aload_n 0, 0, 0, .null, []),
  (80, .getfield 322, 7, 8, .null, []),
  (83, .ireturn, 0, 0, .null, []),
  (84, .aload_n 0, 0, 0, .null, []),
  (85, .getfield 34, 7, 4, .null, []),
  (88, .getfield 231, 2, 1, .null, []),
  (91, .ireturn, 0, 0, .null, []),
  (92, .aload_n 0, 0, 0, .null, []),
  (93, .getfield 21, 7, 1, .null, []),
  (96, .getfield 139, 6, 9, .null, []),
  (99, .ireturn, 0, 0, .null, []),
  (100, .ldc 65, 0, 0, .int (-1000000001), []),
  (102, .ireturn, 0, 0, .null, [])])
def mX7_within : pM := (⟨RX7, "within", "(III)Z"⟩, prog_1_method_47_code, 3, (some FieldType.boolean), 0, 7, [(0, .iload_n 0, 0, 0, .null, []),
  (1, .iload_n 1, 1, 0, .null, []),
  (2, .if_icmp .lt 12, 8, 0, .null, []),
  (5, .iload_n 0, 0, 0, .null, []),
  (6, .iload_n 2, 2, 0, .null, []),
  (7, .if_icmp .gt 7, 8, 0, .null, []),
  (10, .iconst 1, 0, 0, .int 1, []),
  (11, .goto 4, 9, 0, .null, []),
  (14, .iconst 0, 0, 0, .int 0, []),
  (15, .ireturn, 0, 0, .null, [])])
def mX7_held : pM := (⟨RX7, "held", "(III)I"⟩, prog_1_method_48_code, 3, (some FieldType.int), 0, 7, [(0, .iload_n 1, 1, 0, .null, []),
  (1, .iload_n 2, 2, 0, .null, []),
  (2, .iload_n 0, 0, 0, .null, []),
  (3, .invokestatic 177, 99991, 0, .null, []),
  (6, .invokestatic 334, 99990, 0, .null, []),
  (9, .ireturn, 0, 0, .null, [])])
def mX7_isPlace : pM := (⟨RX7, "isPlace", "(I)Z"⟩, prog_1_method_49_code, 1, (some FieldType.boolean), 0, 7, [(0, .iload_n 0, 0, 0, .null, []),
  (1, .iconst 0, 0, 0, .int 0, []),
  (2, .bipush 15, 0, 0, .int 15, []),
  (4, .invokestatic 61, 131, 3, .null, []),
  (7, .ireturn, 0, 0, .null, [])])
def mX7_isKind : pM := (⟨RX7, "isKind", "(I)Z"⟩, prog_1_method_50_code, 1, (some FieldType.boolean), 0, 7, [(0, .iload_n 0, 0, 0, .null, []),
  (1, .iconst 0, 0, 0, .int 0, []),
  (2, .iconst 5, 0, 0, .int 5, []),
  (3, .invokestatic 61, 131, 3, .null, []),
  (6, .ireturn, 0, 0, .null, [])])
def mX7_isSettable : pM := (⟨RX7, "isSettable", "(I)Z"⟩, prog_1_method_51_code, 1, (some FieldType.boolean), 0, 7, [(0, .iload_n 0, 0, 0, .null, []),
  (1, .iconst 1, 0, 0, .int 1, []),
  (2, .iconst 5, 0, 0, .int 5, []),
  (3, .invokestatic 61, 131, 3, .null, []),
  (6, .ireturn, 0, 0, .null, [])])
def mX7_leastValue : pM := (⟨RX7, "leastValue", "(I)I"⟩, prog_1_method_52_code, 1, (some FieldType.int), 0, 7, [(0, .iload_n 0, 0, 0, .null, []),
  (1, .iconst 2, 0, 0, .int 2, []),
  (2, .if_icmp .ne 7, 5, 0, .null, []),
  (5, .iconst 1, 0, 0, .int 1, []),
  (6, .goto 4, 6, 0, .null, []),
  (9, .iconst 0, 0, 0, .int 0, []),
  (10, .ireturn, 0, 0, .null, [])])
def mX7_mostValue : pM := (⟨RX7, "mostValue", "(I)I"⟩, prog_1_method_53_code, 1, (some FieldType.int), 0, 7, [(0, .iload_n 0, 0, 0, .null, []),
  (1, .tableswitch 42 1 4 #[31, 34, 37, 39], 10, 31, .null, [2, 4, 6, 8]),
  (32, .ldc 60, 0, 0, .int 65535, []),
  (34, .ireturn, 0, 0, .null, []),
  (35, .bipush 8, 0, 0, .int 8, []),
  (37, .ireturn, 0, 0, .null, []),
  (38, .iconst 1, 0, 0, .int 1, []),
  (39, .ireturn, 0, 0, .null, []),
  (40, .bipush 16, 0, 0, .int 16, []),
  (42, .ireturn, 0, 0, .null, []),
  (43, .bipush 99, 0, 0, .int 99, []),
  (45, .ireturn, 0, 0, .null, [])])
def mX7_isFewerOf : pM := (⟨RX7, "isFewerOf", "(III)Z"⟩, prog_1_method_54_code, 3, (some FieldType.boolean), 0, 7, [(0, .iload_n 0, 0, 0, .null, []),
  (1, .iload_n 2, 2, 0, .null, []),
  (2, .iconst (-1), 0, 0, .int (-1), []),
  (3, .ixor, 0, 0, .null, []),
  (4, .iand, 0, 0, .null, []),
  (5, .ifCond .ne 18, 13, 0, .null, []),
  (8, .iload_n 0, 0, 0, .null, []),
  (9, .invokestatic 329, 244, 1, .null, []),
  (12, .iload_n 1, 1, 0, .null, []),
  (13, .invokestatic 329, 244, 1, .null, []),
  (16, .if_icmp .ge 7, 13, 0, .null, []),
  (19, .iconst 1, 0, 0, .int 1, []),
  (20, .goto 4, 14, 0, .null, []),
  (23, .iconst 0, 0, 0, .int 0, []),
  (24, .ireturn, 0, 0, .null, [])])
def mX7_apart : pM := (⟨RX7, "apart", "(LStoneSheets$Rubbing;LStoneSheets$Row;)I"⟩, prog_1_method_55_code, 5, (some FieldType.int), 0, 7, [(0, .iconst 0, 0, 0, .int 0, []),
  (1, .istore_n 2, 2, 0, .null, []),
  (2, .iconst 0, 0, 0, .int 0, []),
  (3, .istore_n 3, 3, 0, .null, []),
  (4, .aload_n 0, 0, 0, .null, []),
  (5, .ifnull 45, 28, 0, .null, []),
  (8, .iload_n 3, 3, 0, .null, []),
  (9, .aload_n 1, 1, 0, .null, []),
  (10, .getfield 283, 3, 2, .null, []),
  (13, .if_icmp .ge 37, 28, 0, .null, []),
  (16, .aload_n 1, 1, 0, .null, []),
  (17, .iload_n 3, 3, 0, .null, []),
  (18, .invokevirtual 277, 38, 1, .null, []),
  (21, .istore 4, 4, 0, .null, []),
  (23, .iload 4, 4, 0, .null, []),
  (25, .ldc 203, 0, 0, .int (-1000000005), []),
  (27, .if_icmp .eq 17, 26, 0, .null, []),
  (30, .iload_n 2, 2, 0, .null, []),
  (31, .aload_n 0, 0, 0, .null, []),
  (32, .iload_n 3, 3, 0, .null, []),
  (33, .invokevirtual 109, 50, 1, .null, []),
  (36, .iload 4, 4, 0, .null, []),
  (38, .isub, 0, 0, .null, []),
  (39, .invokestatic 337, 99992, 0, .null, []),
  (42, .iadd, 0, 0, .null, []),
  (43, .istore_n 2, 2, 0, .null, []),
  (44, .iinc 3 1, 3, 0, .null, []),
  (47, .goto (-43), 4, 0, .null, []),
  (50, .iload_n 2, 2, 0, .null, []),
  (51, .ireturn, 0, 0, .null, [])])
def mX7_rowOf : pM := (⟨RX7, "rowOf", "(I)LStoneSheets$Row;"⟩, prog_1_method_56_code, 2, (some (FieldType.object "StoneSheets$Row")), 1, 7, [(0, .iload_n 1, 1, 0, .null, []),
  (1, .ifCond .lt 21, 12, 0, .null, []),
  (4, .iload_n 1, 1, 0, .null, []),
  (5, .aload_n 0, 0, 0, .null, []),
  (6, .getfield 40, 7, 5, .null, []),
  (9, .arraylength, 0, 0, .null, []),
  (10, .if_icmp .ge 12, 12, 0, .null, []),
  (13, .aload_n 0, 0, 0, .null, []),
  (14, .getfield 40, 7, 5, .null, []),
  (17, .iload_n 1, 1, 0, .null, []),
  (18, .aaload, 0, 0, .null, []),
  (19, .goto 4, 13, 0, .null, []),
  (22, .aconst_null, 0, 0, .null, []),
  (23, .areturn, 0, 0, .null, [])])
def mX7_slotOf : pM := (⟨RX7, "slotOf", "(I)LStoneSheets$Slot;"⟩, prog_1_method_57_code, 2, (some (FieldType.object "StoneSheets$Slot")), 1, 7, [(0, .iload_n 1, 1, 0, .null, []),
  (1, .ifCond .lt 21, 12, 0, .null, []),
  (4, .iload_n 1, 1, 0, .null, []),
  (5, .aload_n 0, 0, 0, .null, []),
  (6, .getfield 46, 7, 6, .null, []),
  (9, .arraylength, 0, 0, .null, []),
  (10, .if_icmp .ge 12, 12, 0, .null, []),
  (13, .aload_n 0, 0, 0, .null, []),
  (14, .getfield 46, 7, 6, .null, []),
  (17, .iload_n 1, 1, 0, .null, []),
  (18, .aaload, 0, 0, .null, []),
  (19, .goto 4, 13, 0, .null, []),
  (22, .aconst_null, 0, 0, .null, []),
  (23, .areturn, 0, 0, .null, [])])
def mX8_init : pM := (⟨RX8, "<init>", "()V"⟩, prog_10_method_1_code, 2, none, 2, 8, [(0, .aload_n 0, 0, 0, .null, []),
  (1, .invokespecial 1, 99999, 0, .null, []),
  (4, .aload_n 0, 0, 0, .null, []),
  (5, .sipush 3075, 0, 0, .int 3075, []),
  (8, .newarray .int, 0, 0, .null, []),
  (10, .putfield 7, 8, 0, .null, []),
  (13, .aload_n 0, 0, 0, .null, []),
  (14, .sipush 3075, 0, 0, .int 3075, []),
  (17, .newarray .int, 0, 0, .null, []),
  (19, .putfield 13, 8, 1, .null, []),
  (22, .aload_n 0, 0, 0, .null, []),
  (23, .sipush 3075, 0, 0, .int 3075, []),
  (26, .newarray .int, 0, 0, .null, []),
  (28, .putfield 16, 8, 2, .null, []),
  (31, .aload_n 0, 0, 0, .null, []),
  (32, .iconst 4, 0, 0, .int 4, []),
  (33, .newarray .int, 0, 0, .null, []),
  (35, .putfield 19, 8, 4, .null, []),
  (38, .aload_n 0, 0, 0, .null, []),
  (39, .iconst 4, 0, 0, .int 4, []),
  (40, .newarray .int, 0, 0, .null, []),
  (42, .putfield 22, 8, 5, .null, []),
  (45, .aload_n 0, 0, 0, .null, []),
  (46, .bipush 96, 0, 0, .int 96, []),
  (48, .newarray .int, 0, 0, .null, []),
  (50, .putfield 25, 8, 6, .null, []),
  (53, .aload_n 0, 0, 0, .null, []),
  (54, .iconst 5, 0, 0, .int 5, []),
  (55, .newarray .int, 0, 0, .null, []),
  (57, .putfield 28, 8, 7, .null, []),
  (60, .aload_n 0, 0, 0, .null, []),
  (61, .iconst 5, 0, 0, .int 5, []),
  (62, .newarray .int, 0, 0, .null, []),
  (64, .putfield 31, 8, 8, .null, []),
  (67, .aload_n 0, 0, 0, .null, []),
  (68, .iconst 5, 0, 0, .int 5, []),
  (69, .newarray .int, 0, 0, .null, []),
  (71, .putfield 34, 8, 9, .null, []),
  (74, .aload_n 0, 0, 0, .null, []),
  (75, .iconst 5, 0, 0, .int 5, []),
  (76, .newarray .int, 0, 0, .null, []),
  (78, .putfield 37, 8, 10, .null, []),
  (81, .aload_n 0, 0, 0, .null, []),
  (82, .bipush 120, 0, 0, .int 120, []),
  (84, .newarray .int, 0, 0, .null, []),
  (86, .putfield 40, 8, 11, .null, []),
  (89, .aload_n 0, 0, 0, .null, []),
  (90, .bipush 9, 0, 0, .int 9, []),
  (92, .newarray .int, 0, 0, .null, []),
  (94, .putfield 43, 8, 12, .null, []),
  (97, .aload_n 0, 0, 0, .null, []),
  (98, .bipush 75, 0, 0, .int 75, []),
  (100, .newarray .int, 0, 0, .null, []),
  (102, .putfield 46, 8, 13, .null, []),
  (105, .aload_n 0, 0, 0, .null, []),
  (106, .bipush 96, 0, 0, .int 96, []),
  (108, .newarray .int, 0, 0, .null, []),
  (110, .putfield 49, 8, 14, .null, []),
  (113, .aload_n 0, 0, 0, .null, []),
  (114, .sipush 128, 0, 0, .int 128, []),
  (117, .newarray .int, 0, 0, .null, []),
  (119, .putfield 52, 8, 26, .null, []),
  (122, .aload_n 0, 0, 0, .null, []),
  (123, .bipush 100, 0, 0, .int 100, []),
  (125, .newarray .int, 0, 0, .null, []),
  (127, .putfield 55, 8, 27, .null, []),
  (130, .aload_n 0, 0, 0, .null, []),
  (131, .bipush 24, 0, 0, .int 24, []),
  (133, .newarray .int, 0, 0, .null, []),
  (135, .putfield 58, 8, 28, .null, []),
  (138, .aload_n 0, 0, 0, .null, []),
  (139, .bipush 60, 0, 0, .int 60, []),
  (141, .newarray .int, 0, 0, .null, []),
  (143, .putfield 61, 8, 29, .null, []),
  (146, .aload_n 0, 0, 0, .null, []),
  (147, .bipush 60, 0, 0, .int 60, []),
  (149, .newarray .int, 0, 0, .null, []),
  (151, .putfield 64, 8, 31, .null, []),
  (154, .aload_n 0, 0, 0, .null, []),
  (155, .getfield 7, 8, 0, .null, []),
  (158, .iconst 4, 0, 0, .int 4, []),
  (159, .iconst 1, 0, 0, .int 1, []),
  (160, .iastore, 0, 0, .null, []),
  (161, .iconst 0, 0, 0, .int 0, []),
  (162, .istore_n 1, 1, 0, .null, []),
  (163, .iload_n 1, 1, 0, .null, []),
  (164, .iconst 4, 0, 0, .int 4, []),
  (165, .if_icmp .ge 16, 95, 0, .null, []),
  (168, .aload_n 0, 0, 0, .null, []),
  (169, .getfield 19, 8, 4, .null, []),
  (172, .iload_n 1, 1, 0, .null, []),
  (173, .iconst (-1), 0, 0, .int (-1), []),
  (174, .iastore, 0, 0, .null, []),
  (175, .iinc 1 1, 1, 0, .null, []),
  (178, .goto (-15), 85, 0, .null, []),
  (181, .return_, 0, 0, .null, [])])
def mX8_isIn : pM := (⟨RX8, "isIn", "(JJJ)Z"⟩, prog_10_method_2_code, 6, (some FieldType.boolean), 0, 8, [(0, .lload_n 0, 0, 0, .null, []),
  (1, .lload_n 2, 2, 0, .null, []),
  (2, .lcmp, 0, 0, .null, []),
  (3, .ifCond .lt 14, 10, 0, .null, []),
  (6, .lload_n 0, 0, 0, .null, []),
  (7, .lload 4, 4, 0, .null, []),
  (9, .lcmp, 0, 0, .null, []),
  (10, .ifCond .gt 7, 10, 0, .null, []),
  (13, .iconst 1, 0, 0, .int 1, []),
  (14, .goto 4, 11, 0, .null, []),
  (17, .iconst 0, 0, 0, .int 0, []),
  (18, .ireturn, 0, 0, .null, [])])
def mX8_orNone : pM := (⟨RX8, "orNone", "(I)I"⟩, prog_10_method_3_code, 1, (some FieldType.int), 0, 8, [(0, .iload_n 0, 0, 0, .null, []),
  (1, .ifCond .ge 8, 4, 0, .null, []),
  (4, .ldc 67, 0, 0, .int (-1000000005), []),
  (6, .goto 4, 5, 0, .null, []),
  (9, .iload_n 0, 0, 0, .null, []),
  (10, .ireturn, 0, 0, .null, [])])
def mX8_within : pM := (⟨RX8, "within", "(II)I"⟩, prog_10_method_4_code, 2, (some FieldType.int), 0, 8, [(0, .iload_n 0, 0, 0, .null, []),
  (1, .ifCond .ge 7, 4, 0, .null, []),
  (4, .iconst 0, 0, 0, .int 0, []),
  (5, .goto 13, 10, 0, .null, []),
  (8, .iload_n 0, 0, 0, .null, []),
  (9, .iload_n 1, 1, 0, .null, []),
  (10, .if_icmp .le 7, 9, 0, .null, []),
  (13, .iload_n 1, 1, 0, .null, []),
  (14, .goto 4, 10, 0, .null, []),
  (17, .iload_n 0, 0, 0, .null, []),
  (18, .ireturn, 0, 0, .null, [])])
def mX8_off : pM := (⟨RX8, "off", "(II)I"⟩, prog_10_method_5_code, 2, (some FieldType.int), 0, 8, [(0, .iload_n 0, 0, 0, .null, []),
  (1, .iload_n 1, 1, 0, .null, []),
  (2, .if_icmp .ge 9, 7, 0, .null, []),
  (5, .iload_n 1, 1, 0, .null, []),
  (6, .iload_n 0, 0, 0, .null, []),
  (7, .isub, 0, 0, .null, []),
  (8, .goto 6, 10, 0, .null, []),
  (11, .iload_n 0, 0, 0, .null, []),
  (12, .iload_n 1, 1, 0, .null, []),
  (13, .isub, 0, 0, .null, []),
  (14, .ireturn, 0, 0, .null, [])])
def mX8_manyIn : pM := (⟨RX8, "manyIn", "(I)I"⟩, prog_10_method_6_code, 3, (some FieldType.int), 0, 8, [(0, .iconst 0, 0, 0, .int 0, []),
  (1, .istore_n 1, 1, 0, .null, []),
  (2, .iload_n 0, 0, 0, .null, []),
  (3, .istore_n 2, 2, 0, .null, []),
  (4, .iload_n 2, 2, 0, .null, []),
  (5, .ifCond .eq 15, 14, 0, .null, []),
  (8, .iinc 1 1, 1, 0, .null, []),
  (11, .iload_n 2, 2, 0, .null, []),
  (12, .iload_n 2, 2, 0, .null, []),
  (13, .iconst 1, 0, 0, .int 1, []),
  (14, .isub, 0, 0, .null, []),
  (15, .iand, 0, 0, .null, []),
  (16, .istore_n 2, 2, 0, .null, []),
  (17, .goto (-13), 4, 0, .null, []),
  (20, .iload_n 1, 1, 0, .null, []),
  (21, .ireturn, 0, 0, .null, [])])
def mX8_becomes : pM := (⟨RX8, "becomes", "(II)I"⟩, prog_10_method_7_code, 4, (some FieldType.int), 1, 8, [(0, .aload_n 0, 0, 0, .null, []),
  (1, .getfield 7, 8, 0, .null, []),
  (4, .iload_n 1, 1, 0, .null, []),
  (5, .iaload, 0, 0, .null, []),
  (6, .istore_n 3, 3, 0, .null, []),
  (7, .aload_n 0, 0, 0, .null, []),
  (8, .getfield 7, 8, 0, .null, []),
  (11, .iload_n 1, 1, 0, .null, []),
  (12, .iload_n 2, 2, 0, .null, []),
  (13, .iastore, 0, 0, .null, []),
  (14, .iload_n 3, 3, 0, .null, []),
  (15, .ireturn, 0, 0, .null, [])])
def mX8_textAt : pM := (⟨RX8, "textAt", "(I)I"⟩, prog_10_method_8_code, 2, (some FieldType.int), 1, 8, [(0, .bipush 75, 0, 0, .int 75, []),
  (2, .sipush 200, 0, 0, .int 200, []),
  (5, .iload_n 1, 1, 0, .null, []),
  (6, .imul, 0, 0, .null, []),
  (7, .iadd, 0, 0, .null, []),
  (8, .ireturn, 0, 0, .null, [])])
def mX8_of : pM := (⟨RX8, "of", "(II)I"⟩, prog_10_method_9_code, 3, (some FieldType.int), 1, 8, [(0, .aload_n 0, 0, 0, .null, []),
  (1, .getfield 7, 8, 0, .null, []),
  (4, .bipush 21, 0, 0, .int 21, []),
  (6, .bipush 6, 0, 0, .int 6, []),
  (8, .iload_n 1, 1, 0, .null, []),
  (9, .imul, 0, 0, .null, []),
  (10, .iadd, 0, 0, .null, []),
  (11, .iload_n 2, 2, 0, .null, []),
  (12, .iadd, 0, 0, .null, []),
  (13, .iaload, 0, 0, .null, []),
  (14, .ireturn, 0, 0, .null, [])])
def mX8_sets : pM := (⟨RX8, "sets", "(III)V"⟩, prog_10_method_10_code, 4, none, 1, 8, [(0, .aload_n 0, 0, 0, .null, []),
  (1, .getfield 7, 8, 0, .null, []),
  (4, .bipush 21, 0, 0, .int 21, []),
  (6, .bipush 6, 0, 0, .int 6, []),
  (8, .iload_n 1, 1, 0, .null, []),
  (9, .imul, 0, 0, .null, []),
  (10, .iadd, 0, 0, .null, []),
  (11, .iload_n 2, 2, 0, .null, []),
  (12, .iadd, 0, 0, .null, []),
  (13, .iload_n 3, 3, 0, .null, []),
  (14, .iastore, 0, 0, .null, []),
  (15, .return_, 0, 0, .null, [])])
def mX8_isRubbing : pM := (⟨RX8, "isRubbing", "(I)Z"⟩, prog_10_method_11_code, 2, (some FieldType.boolean), 1, 8, [(0, .iload_n 1, 1, 0, .null, []),
  (1, .i2l, 0, 0, .null, []),
  (2, .lconst 0, 0, 0, .long 0, []),
  (3, .aload_n 0, 0, 0, .null, []),
  (4, .getfield 7, 8, 0, .null, []),
  (7, .iconst 0, 0, 0, .int 0, []),
  (8, .iaload, 0, 0, .null, []),
  (9, .iconst 1, 0, 0, .int 1, []),
  (10, .isub, 0, 0, .null, []),
  (11, .i2l, 0, 0, .null, []),
  (12, .invokestatic 68, 143, 3, .null, []),
  (15, .ireturn, 0, 0, .null, [])])
def mX8_isText : pM := (⟨RX8, "isText", "(I)Z"⟩, prog_10_method_12_code, 2, (some FieldType.boolean), 1, 8, [(0, .iload_n 1, 1, 0, .null, []),
  (1, .i2l, 0, 0, .null, []),
  (2, .lconst 0, 0, 0, .long 0, []),
  (3, .aload_n 0, 0, 0, .null, []),
  (4, .getfield 7, 8, 0, .null, []),
  (7, .iconst 1, 0, 0, .int 1, []),
  (8, .iaload, 0, 0, .null, []),
  (9, .iconst 1, 0, 0, .int 1, []),
  (10, .isub, 0, 0, .null, []),
  (11, .i2l, 0, 0, .null, []),
  (12, .invokestatic 68, 143, 3, .null, []),
  (15, .ireturn, 0, 0, .null, [])])
def mX8_drawn : pM := (⟨RX8, "drawn", "()I"⟩, prog_10_method_13_code, 1, (some FieldType.int), 1, 8, [(0, .aload_n 0, 0, 0, .null, []),
  (1, .getfield 7, 8, 0, .null, []),
  (4, .iconst 4, 0, 0, .int 4, []),
  (5, .aload_n 0, 0, 0, .null, []),
  (6, .getfield 7, 8, 0, .null, []),
  (9, .iconst 4, 0, 0, .int 4, []),
  (10, .iaload, 0, 0, .null, []),
  (11, .ldc 72, 0, 0, .int 1103515245, []),
  (13, .imul, 0, 0, .null, []),
  (14, .sipush 12345, 0, 0, .int 12345, []),
  (17, .iadd, 0, 0, .null, []),
  (18, .iastore, 0, 0, .null, []),
  (19, .aload_n 0, 0, 0, .null, []),
  (20, .getfield 7, 8, 0, .null, []),
  (23, .iconst 4, 0, 0, .int 4, []),
  (24, .iaload, 0, 0, .null, []),
  (25, .bipush 8, 0, 0, .int 8, []),
  (27, .iushr, 0, 0, .null, []),
  (28, .ireturn, 0, 0, .null, [])])
def mX8_comes : pM := (⟨RX8, "comes", "(III)V"⟩, prog_10_method_14_code, 5, none, 1, 8, [(0, .aload_n 0, 0, 0, .null, []),
  (1, .getfield 7, 8, 0, .null, []),
  (4, .iconst 0, 0, 0, .int 0, []),
  (5, .iaload, 0, 0, .null, []),
  (6, .istore 4, 4, 0, .null, []),
  (8, .aload_n 0, 0, 0, .null, []),
  (9, .getfield 7, 8, 0, .null, []),
  (12, .iconst 0, 0, 0, .int 0, []),
  (13, .dup2, 0, 0, .null, []),
  (14, .iaload, 0, 0, .null, []),
  (15, .iconst 1, 0, 0, .int 1, []),
  (16, .iadd, 0, 0, .null, []),
  (17, .iastore, 0, 0, .null, []),
  (18, .aload_n 0, 0, 0, .null, []),
  (19, .iload 4, 4, 0, .null, []),
  (21, .iconst 0, 0, 0, .int 0, []),
  (22, .iload_n 1, 1, 0, .null, []),
  (23, .invokevirtual 73, 151, 3, .null, []),
  (26, .aload_n 0, 0, 0, .null, []),
  (27, .iload 4, 4, 0, .null, []),
  (29, .iconst 1, 0, 0, .int 1, []),
  (30, .iload_n 2, 2, 0, .null, []),
  (31, .invokevirtual 73, 151, 3, .null, []),
  (34, .aload_n 0, 0, 0, .null, []),
  (35, .iload 4, 4, 0, .null, []),
  (37, .iconst 2, 0, 0, .int 2, []),
  (38, .iload_n 3, 3, 0, .null, []),
  (39, .invokevirtual 73, 151, 3, .null, []),
  (42, .aload_n 0, 0, 0, .null, []),
  (43, .iload 4, 4, 0, .null, []),
  (45, .iconst 3, 0, 0, .int 3, []),
  (46, .iconst 0, 0, 0, .int 0, []),
  (47, .invokevirtual 73, 151, 3, .null, []),
  (50, .aload_n 0, 0, 0, .null, []),
  (51, .iload 4, 4, 0, .null, []),
  (53, .iconst 4, 0, 0, .int 4, []),
  (54, .bipush 16, 0, 0, .int 16, []),
  (56, .invokevirtual 73, 151, 3, .null, []),
  (59, .aload_n 0, 0, 0, .null, []),
  (60, .iload 4, 4, 0, .null, []),
  (62, .iconst 5, 0, 0, .int 5, []),
  (63, .bipush 50, 0, 0, .int 50, []),
  (65, .invokevirtual 73, 151, 3, .null, []),
  (68, .return_, 0, 0, .null, [])])
def mX8_rubbing : pM := (⟨RX8, "rubbing", "(III)I"⟩, prog_10_method_15_code, 4, (some FieldType.int), 1, 8, [(0, .iload_n 1, 1, 0, .null, []),
  (1, .i2l, 0, 0, .null, []),
  (2, .lconst 0, 0, 0, .long 0, []),
  (3, .ldc2_w 77, 0, 0, .long 5, []),
  (6, .invokestatic 68, 143, 3, .null, []),
  (9, .ifCond .eq 27, 18, 0, .null, []),
  (12, .iload_n 2, 2, 0, .null, []),
  (13, .i2l, 0, 0, .null, []),
  (14, .lconst 0, 0, 0, .long 0, []),
  (15, .ldc2_w 79, 0, 0, .long 65535, []),
  (18, .invokestatic 68, 143, 3, .null, []),
  (21, .ifCond .eq 15, 18, 0, .null, []),
  (24, .iload_n 3, 3, 0, .null, []),
  (25, .i2l, 0, 0, .null, []),
  (26, .lconst 1, 0, 0, .long 1, []),
  (27, .ldc2_w 81, 0, 0, .long 8, []),
  (30, .invokestatic 68, 143, 3, .null, []),
  (33, .ifCond .ne 6, 20, 0, .null, []),
  (36, .ldc 83, 0, 0, .int (-1000000001), []),
  (38, .ireturn, 0, 0, .null, []),
  (39, .aload_n 0, 0, 0, .null, []),
  (40, .getfield 7, 8, 0, .null, []),
  (43, .iconst 0, 0, 0, .int 0, []),
  (44, .iaload, 0, 0, .null, []),
  (45, .bipush 9, 0, 0, .int 9, []),
  (47, .if_icmp .ne 6, 28, 0, .null, []),
  (50, .ldc 84, 0, 0, .int (-1000000003), []),
  (52, .ireturn, 0, 0, .null, []),
  (53, .aload_n 0, 0, 0, .null, []),
  (54, .iload_n 1, 1, 0, .null, []),
  (55, .iload_n 2, 2, 0, .null, []),
  (56, .iload_n 3, 3, 0, .null, []),
  (57, .invokevirtual 85, 155, 3, .null, []),
  (60, .aload_n 0, 0, 0, .null, []),
  (61, .getfield 7, 8, 0, .null, []),
  (64, .iconst 0, 0, 0, .int 0, []),
  (65, .iaload, 0, 0, .null, []),
  (66, .iconst 1, 0, 0, .int 1, []),
  (67, .isub, 0, 0, .null, []),
  (68, .ireturn, 0, 0, .null, [])])
def mX8_bolder : pM := (⟨RX8, "bolder", "(I)I"⟩, prog_10_method_16_code, 1, (some FieldType.int), 0, 8, [(0, .iload_n 0, 0, 0, .null, []),
  (1, .ifCond .le 14, 9, 0, .null, []),
  (4, .iload_n 0, 0, 0, .null, []),
  (5, .iconst 3, 0, 0, .int 3, []),
  (6, .if_icmp .ge 9, 9, 0, .null, []),
  (9, .iload_n 0, 0, 0, .null, []),
  (10, .iconst 1, 0, 0, .int 1, []),
  (11, .iadd, 0, 0, .null, []),
  (12, .goto 4, 10, 0, .null, []),
  (15, .iload_n 0, 0, 0, .null, []),
  (16, .ireturn, 0, 0, .null, [])])
def mX8_saysAt : pM := (⟨RX8, "saysAt", "(II)I"⟩, prog_10_method_17_code, 6, (some FieldType.int), 1, 8, [(0, .aload_n 0, 0, 0, .null, []),
  (1, .iload_n 1, 1, 0, .null, []),
  (2, .iconst 3, 0, 0, .int 3, []),
  (3, .invokevirtual 88, 150, 2, .null, []),
  (6, .iconst 1, 0, 0, .int 1, []),
  (7, .if_icmp .ne 16, 15, 0, .null, []),
  (10, .aload_n 0, 0, 0, .null, []),
  (11, .iload_n 1, 1, 0, .null, []),
  (12, .iconst 2, 0, 0, .int 2, []),
  (13, .invokevirtual 88, 150, 2, .null, []),
  (16, .iconst 1, 0, 0, .int 1, []),
  (17, .isub, 0, 0, .null, []),
  (18, .iload_n 2, 2, 0, .null, []),
  (19, .isub, 0, 0, .null, []),
  (20, .goto 4, 16, 0, .null, []),
  (23, .iload_n 2, 2, 0, .null, []),
  (24, .istore_n 3, 3, 0, .null, []),
  (25, .aload_n 0, 0, 0, .null, []),
  (26, .iload_n 1, 1, 0, .null, []),
  (27, .iconst 1, 0, 0, .int 1, []),
  (28, .invokevirtual 88, 150, 2, .null, []),
  (31, .iconst 2, 0, 0, .int 2, []),
  (32, .iload_n 3, 3, 0, .null, []),
  (33, .imul, 0, 0, .null, []),
  (34, .ishr, 0, 0, .null, []),
  (35, .iconst 3, 0, 0, .int 3, []),
  (36, .iand, 0, 0, .null, []),
  (37, .istore 4, 4, 0, .null, []),
  (39, .iload 4, 4, 0, .null, []),
  (41, .ifCond .le 10, 34, 0, .null, []),
  (44, .iload 4, 4, 0, .null, []),
  (46, .iconst 1, 0, 0, .int 1, []),
  (47, .isub, 0, 0, .null, []),
  (48, .goto 4, 35, 0, .null, []),
  (51, .iconst 0, 0, 0, .int 0, []),
  (52, .istore 5, 5, 0, .null, []),
  (54, .aload_n 0, 0, 0, .null, []),
  (55, .iload_n 1, 1, 0, .null, []),
  (56, .iconst 0, 0, 0, .int 0, []),
  (57, .invokevirtual 88, 150, 2, .null, []),
  (60, .tableswitch 75 1 5 #[36, 42, 45, 54, 73], 64, 36, .null, [41, 44, 46, 50, 62]),
  (96, .iload 4, 4, 0, .null, []),
  (98, .invokestatic 92, 157, 1, .null, []),
  (101, .ireturn, 0, 0, .null, []),
  (102, .iload 5, 5, 0, .null, []),
  (104, .ireturn, 0, 0, .null, []),
  (105, .iload 4, 4, 0, .null, []),
  (107, .invokestatic 92, 157, 1, .null, []),
  (110, .invokestatic 92, 157, 1, .null, []),
  (113, .ireturn, 0, 0, .null, []),
  (114, .iload_n 2, 2, 0, .null, []),
  (115, .aload_n 0, 0, 0, .null, []),
  (116, .iload_n 1, 1, 0, .null, []),
  (117, .iconst 2, 0, 0, .int 2, []),
  (118, .invokevirtual 88, 150, 2, .null, []),
  (121, .iconst 2, 0, 0, .int 2, []),
  (122, .idiv, 0, 0, .null, []),
  (123, .if_icmp .ne 7, 60, 0, .null, []),
  (126, .iconst 3, 0, 0, .int 3, []),
  (127, .goto 5, 61, 0, .null, []),
  (130, .iload 5, 5, 0, .null, []),
  (132, .ireturn, 0, 0, .null, []),
  (133, .iconst 2, 0, 0, .int 2, []),
  (134, .ireturn, 0, 0, .null, []),
  (135, .iload 4, 4, 0, .null, []),
  (137, .ireturn, 0, 0, .null, [])])
def mX8_gains : pM := (⟨RX8, "gains", "(I)I"⟩, prog_10_method_18_code, 4, (some FieldType.int), 1, 8, [(0, .iconst 3, 0, 0, .int 3, []),
  (1, .istore_n 2, 2, 0, .null, []),
  (2, .aload_n 0, 0, 0, .null, []),
  (3, .iconst 0, 0, 0, .int 0, []),
  (4, .invokevirtual 96, 222, 1, .null, []),
  (7, .istore_n 3, 3, 0, .null, []),
  (8, .iload_n 3, 3, 0, .null, []),
  (9, .ifCond .lt 53, 38, 0, .null, []),
  (12, .aload_n 0, 0, 0, .null, []),
  (13, .getfield 52, 8, 26, .null, []),
  (16, .bipush 116, 0, 0, .int 116, []),
  (18, .aload_n 0, 0, 0, .null, []),
  (19, .iload_n 1, 1, 0, .null, []),
  (20, .iconst 5, 0, 0, .int 5, []),
  (21, .invokevirtual 88, 150, 2, .null, []),
  (24, .iastore, 0, 0, .null, []),
  (25, .aload_n 0, 0, 0, .null, []),
  (26, .getfield 52, 8, 26, .null, []),
  (29, .bipush 115, 0, 0, .int 115, []),
  (31, .aload_n 0, 0, 0, .null, []),
  (32, .iload_n 1, 1, 0, .null, []),
  (33, .iconst 2, 0, 0, .int 2, []),
  (34, .invokevirtual 88, 150, 2, .null, []),
  (37, .iastore, 0, 0, .null, []),
  (38, .aload_n 0, 0, 0, .null, []),
  (39, .getfield 52, 8, 26, .null, []),
  (42, .bipush 108, 0, 0, .int 108, []),
  (44, .aload_n 0, 0, 0, .null, []),
  (45, .iload_n 1, 1, 0, .null, []),
  (46, .iconst 4, 0, 0, .int 4, []),
  (47, .invokevirtual 88, 150, 2, .null, []),
  (50, .iastore, 0, 0, .null, []),
  (51, .aload_n 0, 0, 0, .null, []),
  (52, .iload_n 3, 3, 0, .null, []),
  (53, .invokevirtual 99, 225, 1, .null, []),
  (56, .bipush 99, 0, 0, .int 99, []),
  (58, .invokestatic 102, 145, 2, .null, []),
  (61, .istore_n 2, 2, 0, .null, []),
  (62, .aload_n 0, 0, 0, .null, []),
  (63, .iload_n 1, 1, 0, .null, []),
  (64, .iconst 0, 0, 0, .int 0, []),
  (65, .invokevirtual 88, 150, 2, .null, []),
  (68, .tableswitch 52 1 5 #[36, 40, 36, 44, 50], 59, 36, .null, [43, 47, 43, 51, 57]),
  (104, .iload_n 2, 2, 0, .null, []),
  (105, .iconst 1, 0, 0, .int 1, []),
  (106, .iadd, 0, 0, .null, []),
  (107, .ireturn, 0, 0, .null, []),
  (108, .iload_n 2, 2, 0, .null, []),
  (109, .iconst 2, 0, 0, .int 2, []),
  (110, .idiv, 0, 0, .null, []),
  (111, .ireturn, 0, 0, .null, []),
  (112, .iload_n 2, 2, 0, .null, []),
  (113, .iconst 2, 0, 0, .int 2, []),
  (114, .idiv, 0, 0, .null, []),
  (115, .iconst 2, 0, 0, .int 2, []),
  (116, .iadd, 0, 0, .null, []),
  (117, .ireturn, 0, 0, .null, []),
  (118, .iconst 0, 0, 0, .int 0, []),
  (119, .ireturn, 0, 0, .null, []),
  (120, .iload_n 2, 2, 0, .null, []),
  (121, .ireturn, 0, 0, .null, [])])
def mX8_loses : pM := (⟨RX8, "loses", "(I)I"⟩, prog_10_method_19_code, 2, (some FieldType.int), 1, 8, [(0, .aload_n 0, 0, 0, .null, []),
  (1, .iload_n 1, 1, 0, .null, []),
  (2, .iconst 0, 0, 0, .int 0, []),
  (3, .invokevirtual 88, 150, 2, .null, []),
  (6, .tableswitch 45 1 5 #[34, 37, 39, 37, 42], 13, 34, .null, [5, 7, 9, 7, 11]),
  (40, .bipush 7, 0, 0, .int 7, []),
  (42, .ireturn, 0, 0, .null, []),
  (43, .iconst 3, 0, 0, .int 3, []),
  (44, .ireturn, 0, 0, .null, []),
  (45, .bipush 14, 0, 0, .int 14, []),
  (47, .ireturn, 0, 0, .null, []),
  (48, .bipush 20, 0, 0, .int 20, []),
  (50, .ireturn, 0, 0, .null, []),
  (51, .iconst 5, 0, 0, .int 5, []),
  (52, .ireturn, 0, 0, .null, [])])
def mX8_worth : pM := (⟨RX8, "worth", "(I)I"⟩, prog_10_method_20_code, 3, (some FieldType.int), 1, 8, [(0, .aload_n 0, 0, 0, .null, []),
  (1, .iload_n 1, 1, 0, .null, []),
  (2, .iconst 5, 0, 0, .int 5, []),
  (3, .invokevirtual 88, 150, 2, .null, []),
  (6, .istore_n 2, 2, 0, .null, []),
  (7, .aload_n 0, 0, 0, .null, []),
  (8, .iload_n 1, 1, 0, .null, []),
  (9, .iconst 0, 0, 0, .int 0, []),
  (10, .invokevirtual 88, 150, 2, .null, []),
  (13, .tableswitch 57 1 5 #[35, 39, 44, 50, 55], 30, 35, .null, [10, 14, 18, 24, 28]),
  (48, .iload_n 2, 2, 0, .null, []),
  (49, .iconst 5, 0, 0, .int 5, []),
  (50, .iadd, 0, 0, .null, []),
  (51, .ireturn, 0, 0, .null, []),
  (52, .bipush 99, 0, 0, .int 99, []),
  (54, .iload_n 2, 2, 0, .null, []),
  (55, .isub, 0, 0, .null, []),
  (56, .ireturn, 0, 0, .null, []),
  (57, .iconst 2, 0, 0, .int 2, []),
  (58, .iload_n 2, 2, 0, .null, []),
  (59, .iconst 5, 0, 0, .int 5, []),
  (60, .iadd, 0, 0, .null, []),
  (61, .imul, 0, 0, .null, []),
  (62, .ireturn, 0, 0, .null, []),
  (63, .bipush 93, 0, 0, .int 93, []),
  (65, .iload_n 2, 2, 0, .null, []),
  (66, .isub, 0, 0, .null, []),
  (67, .ireturn, 0, 0, .null, []),
  (68, .iconst 1, 0, 0, .int 1, []),
  (69, .ireturn, 0, 0, .null, []),
  (70, .iload_n 2, 2, 0, .null, []),
  (71, .ireturn, 0, 0, .null, [])])
def mX8_coversFrom : pM := (⟨RX8, "coversFrom", "(II)I"⟩, prog_10_method_21_code, 3, (some FieldType.int), 1, 8, [(0, .iconst 1, 0, 0, .int 1, []),
  (1, .aload_n 0, 0, 0, .null, []),
  (2, .iload_n 1, 1, 0, .null, []),
  (3, .iconst 2, 0, 0, .int 2, []),
  (4, .invokevirtual 88, 150, 2, .null, []),
  (7, .ishl, 0, 0, .null, []),
  (8, .iconst 1, 0, 0, .int 1, []),
  (9, .isub, 0, 0, .null, []),
  (10, .iload_n 2, 2, 0, .null, []),
  (11, .ishl, 0, 0, .null, []),
  (12, .ldc 105, 0, 0, .int 65535, []),
  (14, .iand, 0, 0, .null, []),
  (15, .ireturn, 0, 0, .null, [])])
def mX8_covers : pM := (⟨RX8, "covers", "(I)I"⟩, prog_10_method_22_code, 2, (some FieldType.int), 1, 8, [(0, .aload_n 0, 0, 0, .null, []),
  (1, .iload_n 1, 1, 0, .null, []),
  (2, .aload_n 0, 0, 0, .null, []),
  (3, .iload_n 1, 1, 0, .null, []),
  (4, .iconst 4, 0, 0, .int 4, []),
  (5, .invokevirtual 88, 150, 2, .null, []),
  (8, .invokevirtual 106, 162, 2, .null, []),
  (11, .ireturn, 0, 0, .null, [])])
def mX8_told : pM := (⟨RX8, "told", "(II)I"⟩, prog_10_method_23_code, 3, (some FieldType.int), 1, 8, [(0, .aload_n 0, 0, 0, .null, []),
  (1, .iload_n 1, 1, 0, .null, []),
  (2, .invokevirtual 109, 152, 1, .null, []),
  (5, .ifCond .ne 6, 6, 0, .null, []),
  (8, .ldc 83, 0, 0, .int (-1000000001), []),
  (10, .ireturn, 0, 0, .null, []),
  (11, .iload_n 2, 2, 0, .null, []),
  (12, .tableswitch 87 0 9 #[56, 56, 56, 56, 56, 56, 63, 69, 75, 81], 29, 56, .null, [8, 8, 8, 8, 8, 8, 13, 17, 21, 25]),
  (68, .aload_n 0, 0, 0, .null, []),
  (69, .iload_n 1, 1, 0, .null, []),
  (70, .iload_n 2, 2, 0, .null, []),
  (71, .invokevirtual 88, 150, 2, .null, []),
  (74, .ireturn, 0, 0, .null, []),
  (75, .aload_n 0, 0, 0, .null, []),
  (76, .iload_n 1, 1, 0, .null, []),
  (77, .invokevirtual 113, 163, 1, .null, []),
  (80, .ireturn, 0, 0, .null, []),
  (81, .aload_n 0, 0, 0, .null, []),
  (82, .iload_n 1, 1, 0, .null, []),
  (83, .invokevirtual 116, 159, 1, .null, []),
  (86, .ireturn, 0, 0, .null, []),
  (87, .aload_n 0, 0, 0, .null, []),
  (88, .iload_n 1, 1, 0, .null, []),
  (89, .invokevirtual 119, 160, 1, .null, []),
  (92, .ireturn, 0, 0, .null, []),
  (93, .aload_n 0, 0, 0, .null, []),
  (94, .iload_n 1, 1, 0, .null, []),
  (95, .invokevirtual 122, 161, 1, .null, []),
  (98, .ireturn, 0, 0, .null, []),
  (99, .ldc 83, 0, 0, .int (-1000000001), []),
  (101, .ireturn, 0, 0, .null, [])])
def mX8_says : pM := (⟨RX8, "says", "(II)I"⟩, prog_10_method_24_code, 3, (some FieldType.int), 1, 8, [(0, .aload_n 0, 0, 0, .null, []),
  (1, .iload_n 1, 1, 0, .null, []),
  (2, .invokevirtual 109, 152, 1, .null, []),
  (5, .ifCond .eq 30, 21, 0, .null, []),
  (8, .iload_n 2, 2, 0, .null, []),
  (9, .i2l, 0, 0, .null, []),
  (10, .lconst 0, 0, 0, .long 0, []),
  (11, .aload_n 0, 0, 0, .null, []),
  (12, .iload_n 1, 1, 0, .null, []),
  (13, .iconst 2, 0, 0, .int 2, []),
  (14, .invokevirtual 88, 150, 2, .null, []),
  (17, .iconst 1, 0, 0, .int 1, []),
  (18, .isub, 0, 0, .null, []),
  (19, .i2l, 0, 0, .null, []),
  (20, .invokestatic 68, 143, 3, .null, []),
  (23, .ifCond .eq 12, 21, 0, .null, []),
  (26, .aload_n 0, 0, 0, .null, []),
  (27, .iload_n 1, 1, 0, .null, []),
  (28, .iload_n 2, 2, 0, .null, []),
  (29, .invokevirtual 125, 158, 2, .null, []),
  (32, .goto 5, 22, 0, .null, []),
  (35, .ldc 83, 0, 0, .int (-1000000001), []),
  (37, .ireturn, 0, 0, .null, [])])
def mX8_isOf : pM := (⟨RX8, "isOf", "(II)Z"⟩, prog_10_method_25_code, 2, (some FieldType.boolean), 0, 8, [(0, .iload_n 0, 0, 0, .null, []),
  (1, .iload_n 1, 1, 0, .null, []),
  (2, .if_icmp .eq 27, 17, 0, .null, []),
  (5, .iload_n 1, 1, 0, .null, []),
  (6, .ifCond .eq 23, 17, 0, .null, []),
  (9, .iload_n 1, 1, 0, .null, []),
  (10, .iconst 1, 0, 0, .int 1, []),
  (11, .if_icmp .ne 8, 11, 0, .null, []),
  (14, .iload_n 0, 0, 0, .null, []),
  (15, .iconst 3, 0, 0, .int 3, []),
  (16, .if_icmp .eq 13, 17, 0, .null, []),
  (19, .iload_n 1, 1, 0, .null, []),
  (20, .iconst 2, 0, 0, .int 2, []),
  (21, .if_icmp .ne 12, 19, 0, .null, []),
  (24, .iload_n 0, 0, 0, .null, []),
  (25, .iconst 4, 0, 0, .int 4, []),
  (26, .if_icmp .ne 7, 19, 0, .null, []),
  (29, .iconst 1, 0, 0, .int 1, []),
  (30, .goto 4, 20, 0, .null, []),
  (33, .iconst 0, 0, 0, .int 0, []),
  (34, .ireturn, 0, 0, .null, [])])
def mX8_as : pM := (⟨RX8, "as", "(II)I"⟩, prog_10_method_26_code, 3, (some FieldType.int), 1, 8, [(0, .aload_n 0, 0, 0, .null, []),
  (1, .iload_n 1, 1, 0, .null, []),
  (2, .invokevirtual 109, 152, 1, .null, []),
  (5, .ifCond .eq 15, 10, 0, .null, []),
  (8, .iload_n 2, 2, 0, .null, []),
  (9, .i2l, 0, 0, .null, []),
  (10, .lconst 0, 0, 0, .long 0, []),
  (11, .ldc2_w 77, 0, 0, .long 5, []),
  (14, .invokestatic 68, 143, 3, .null, []),
  (17, .ifCond .ne 6, 12, 0, .null, []),
  (20, .ldc 83, 0, 0, .int (-1000000001), []),
  (22, .ireturn, 0, 0, .null, []),
  (23, .aload_n 0, 0, 0, .null, []),
  (24, .iload_n 1, 1, 0, .null, []),
  (25, .iconst 0, 0, 0, .int 0, []),
  (26, .invokevirtual 88, 150, 2, .null, []),
  (29, .iload_n 2, 2, 0, .null, []),
  (30, .invokestatic 128, 166, 2, .null, []),
  (33, .ifCond .eq 12, 24, 0, .null, []),
  (36, .aload_n 0, 0, 0, .null, []),
  (37, .iload_n 1, 1, 0, .null, []),
  (38, .iconst 2, 0, 0, .int 2, []),
  (39, .invokevirtual 88, 150, 2, .null, []),
  (42, .goto 5, 25, 0, .null, []),
  (45, .ldc 132, 0, 0, .int (-1000000012), []),
  (47, .ireturn, 0, 0, .null, [])])
def mX8_turns : pM := (⟨RX8, "turns", "(II)I"⟩, prog_10_method_27_code, 3, (some FieldType.int), 1, 8, [(0, .aload_n 0, 0, 0, .null, []),
  (1, .iload_n 1, 1, 0, .null, []),
  (2, .invokevirtual 109, 152, 1, .null, []),
  (5, .ifCond .eq 30, 19, 0, .null, []),
  (8, .iload_n 2, 2, 0, .null, []),
  (9, .i2l, 0, 0, .null, []),
  (10, .lconst 0, 0, 0, .long 0, []),
  (11, .ldc2_w 77, 0, 0, .long 5, []),
  (14, .invokestatic 68, 143, 3, .null, []),
  (17, .ifCond .eq 18, 19, 0, .null, []),
  (20, .aload_n 0, 0, 0, .null, []),
  (21, .bipush 21, 0, 0, .int 21, []),
  (23, .bipush 6, 0, 0, .int 6, []),
  (25, .iload_n 1, 1, 0, .null, []),
  (26, .imul, 0, 0, .null, []),
  (27, .iadd, 0, 0, .null, []),
  (28, .iload_n 2, 2, 0, .null, []),
  (29, .invokevirtual 133, 148, 2, .null, []),
  (32, .goto 5, 20, 0, .null, []),
  (35, .ldc 83, 0, 0, .int (-1000000001), []),
  (37, .ireturn, 0, 0, .null, [])])
def mX8_mostOf : pM := (⟨RX8, "mostOf", "(I)I"⟩, prog_10_method_28_code, 1, (some FieldType.int), 0, 8, [(0, .iload_n 0, 0, 0, .null, []),
  (1, .tableswitch 42 1 4 #[31, 34, 37, 39], 10, 31, .null, [2, 4, 6, 8]),
  (32, .ldc 105, 0, 0, .int 65535, []),
  (34, .ireturn, 0, 0, .null, []),
  (35, .bipush 8, 0, 0, .int 8, []),
  (37, .ireturn, 0, 0, .null, []),
  (38, .iconst 1, 0, 0, .int 1, []),
  (39, .ireturn, 0, 0, .null, []),
  (40, .bipush 16, 0, 0, .int 16, []),
  (42, .ireturn, 0, 0, .null, []),
  (43, .bipush 99, 0, 0, .int 99, []),
  (45, .ireturn, 0, 0, .null, [])])
def mX8_set : pM := (⟨RX8, "set", "(III)I"⟩, prog_10_method_29_code, 4, (some FieldType.int), 1, 8, [(0, .aload_n 0, 0, 0, .null, []),
  (1, .iload_n 1, 1, 0, .null, []),
  (2, .invokevirtual 109, 152, 1, .null, []),
  (5, .ifCond .eq 38, 23, 0, .null, []),
  (8, .iload_n 2, 2, 0, .null, []),
  (9, .i2l, 0, 0, .null, []),
  (10, .lconst 1, 0, 0, .long 1, []),
  (11, .ldc2_w 77, 0, 0, .long 5, []),
  (14, .invokestatic 68, 143, 3, .null, []),
  (17, .ifCond .eq 26, 23, 0, .null, []),
  (20, .iload_n 3, 3, 0, .null, []),
  (21, .i2l, 0, 0, .null, []),
  (22, .iload_n 2, 2, 0, .null, []),
  (23, .iconst 2, 0, 0, .int 2, []),
  (24, .if_icmp .ne 7, 17, 0, .null, []),
  (27, .lconst 1, 0, 0, .long 1, []),
  (28, .goto 4, 18, 0, .null, []),
  (31, .lconst 0, 0, 0, .long 0, []),
  (32, .iload_n 2, 2, 0, .null, []),
  (33, .invokestatic 136, 169, 1, .null, []),
  (36, .i2l, 0, 0, .null, []),
  (37, .invokestatic 68, 143, 3, .null, []),
  (40, .ifCond .ne 6, 25, 0, .null, []),
  (43, .ldc 83, 0, 0, .int (-1000000001), []),
  (45, .ireturn, 0, 0, .null, []),
  (46, .aload_n 0, 0, 0, .null, []),
  (47, .bipush 21, 0, 0, .int 21, []),
  (49, .bipush 6, 0, 0, .int 6, []),
  (51, .iload_n 1, 1, 0, .null, []),
  (52, .imul, 0, 0, .null, []),
  (53, .iadd, 0, 0, .null, []),
  (54, .iload_n 2, 2, 0, .null, []),
  (55, .iadd, 0, 0, .null, []),
  (56, .iload_n 3, 3, 0, .null, []),
  (57, .invokevirtual 133, 148, 2, .null, []),
  (60, .ireturn, 0, 0, .null, [])])
def mX8_carve : pM := (⟨RX8, "carve", "(II)I"⟩, prog_10_method_30_code, 3, (some FieldType.int), 1, 8, [(0, .iload_n 1, 1, 0, .null, []),
  (1, .i2l, 0, 0, .null, []),
  (2, .lconst 0, 0, 0, .long 0, []),
  (3, .ldc2_w 139, 0, 0, .long 15, []),
  (6, .invokestatic 68, 143, 3, .null, []),
  (9, .ifCond .eq 26, 19, 0, .null, []),
  (12, .iload_n 2, 2, 0, .null, []),
  (13, .i2l, 0, 0, .null, []),
  (14, .lconst 0, 0, 0, .long 0, []),
  (15, .ldc2_w 141, 0, 0, .long 3, []),
  (18, .invokestatic 68, 143, 3, .null, []),
  (21, .ifCond .eq 14, 19, 0, .null, []),
  (24, .aload_n 0, 0, 0, .null, []),
  (25, .iconst 5, 0, 0, .int 5, []),
  (26, .iload_n 1, 1, 0, .null, []),
  (27, .iadd, 0, 0, .null, []),
  (28, .iload_n 2, 2, 0, .null, []),
  (29, .invokevirtual 133, 148, 2, .null, []),
  (32, .goto 5, 20, 0, .null, []),
  (35, .ldc 83, 0, 0, .int (-1000000001), []),
  (37, .ireturn, 0, 0, .null, [])])
def mX8_carved : pM := (⟨RX8, "carved", "(I)I"⟩, prog_10_method_31_code, 2, (some FieldType.int), 1, 8, [(0, .iload_n 1, 1, 0, .null, []),
  (1, .i2l, 0, 0, .null, []),
  (2, .lconst 0, 0, 0, .long 0, []),
  (3, .ldc2_w 139, 0, 0, .long 15, []),
  (6, .invokestatic 68, 143, 3, .null, []),
  (9, .ifCond .eq 14, 13, 0, .null, []),
  (12, .aload_n 0, 0, 0, .null, []),
  (13, .getfield 7, 8, 0, .null, []),
  (16, .iconst 5, 0, 0, .int 5, []),
  (17, .iload_n 1, 1, 0, .null, []),
  (18, .iadd, 0, 0, .null, []),
  (19, .iaload, 0, 0, .null, []),
  (20, .goto 5, 14, 0, .null, []),
  (23, .ldc 83, 0, 0, .int (-1000000001), []),
  (25, .ireturn, 0, 0, .null, [])])
def mX8_deal : pM := (⟨RX8, "deal", "(I)I"⟩, prog_10_method_32_code, 5, (some FieldType.int), 1, 8, [(0, .iload_n 1, 1, 0, .null, []),
  (1, .i2l, 0, 0, .null, []),
  (2, .lconst 1, 0, 0, .long 1, []),
  (3, .ldc2_w 143, 0, 0, .long 9, []),
  (6, .invokestatic 68, 143, 3, .null, []),
  (9, .ifCond .ne 6, 8, 0, .null, []),
  (12, .ldc 83, 0, 0, .int (-1000000001), []),
  (14, .ireturn, 0, 0, .null, []),
  (15, .iconst 0, 0, 0, .int 0, []),
  (16, .istore_n 2, 2, 0, .null, []),
  (17, .iload_n 2, 2, 0, .null, []),
  (18, .iload_n 1, 1, 0, .null, []),
  (19, .if_icmp .ge 53, 41, 0, .null, []),
  (22, .aload_n 0, 0, 0, .null, []),
  (23, .getfield 7, 8, 0, .null, []),
  (26, .iconst 0, 0, 0, .int 0, []),
  (27, .iaload, 0, 0, .null, []),
  (28, .bipush 9, 0, 0, .int 9, []),
  (30, .if_icmp .ge 42, 41, 0, .null, []),
  (33, .aload_n 0, 0, 0, .null, []),
  (34, .invokevirtual 145, 154, 0, .null, []),
  (37, .bipush 6, 0, 0, .int 6, []),
  (39, .irem, 0, 0, .null, []),
  (40, .istore_n 3, 3, 0, .null, []),
  (41, .aload_n 0, 0, 0, .null, []),
  (42, .invokevirtual 145, 154, 0, .null, []),
  (45, .ldc 149, 0, 0, .int 65536, []),
  (47, .irem, 0, 0, .null, []),
  (48, .istore 4, 4, 0, .null, []),
  (50, .aload_n 0, 0, 0, .null, []),
  (51, .iload_n 3, 3, 0, .null, []),
  (52, .iload 4, 4, 0, .null, []),
  (54, .iconst 1, 0, 0, .int 1, []),
  (55, .aload_n 0, 0, 0, .null, []),
  (56, .invokevirtual 145, 154, 0, .null, []),
  (59, .bipush 8, 0, 0, .int 8, []),
  (61, .irem, 0, 0, .null, []),
  (62, .iadd, 0, 0, .null, []),
  (63, .invokevirtual 85, 155, 3, .null, []),
  (66, .iinc 2 1, 2, 0, .null, []),
  (69, .goto (-52), 10, 0, .null, []),
  (72, .iload_n 2, 2, 0, .null, []),
  (73, .ireturn, 0, 0, .null, [])])
def mX8_seed : pM := (⟨RX8, "seed", "(I)I"⟩, prog_10_method_33_code, 2, (some FieldType.int), 1, 8, [(0, .aload_n 0, 0, 0, .null, []),
  (1, .iconst 4, 0, 0, .int 4, []),
  (2, .iload_n 1, 1, 0, .null, []),
  (3, .invokevirtual 133, 148, 2, .null, []),
  (6, .ireturn, 0, 0, .null, [])])
def mX8_falseOf : pM := (⟨RX8, "falseOf", "(II)I"⟩, prog_10_method_34_code, 5, (some FieldType.int), 1, 8, [(0, .iconst 0, 0, 0, .int 0, []),
  (1, .istore_n 3, 3, 0, .null, []),
  (2, .iconst 0, 0, 0, .int 0, []),
  (3, .istore 4, 4, 0, .null, []),
  (5, .iload 4, 4, 0, .null, []),
  (7, .aload_n 0, 0, 0, .null, []),
  (8, .iload_n 1, 1, 0, .null, []),
  (9, .iconst 2, 0, 0, .int 2, []),
  (10, .invokevirtual 88, 150, 2, .null, []),
  (13, .if_icmp .ge 47, 36, 0, .null, []),
  (16, .iload_n 2, 2, 0, .null, []),
  (17, .iload 4, 4, 0, .null, []),
  (19, .iadd, 0, 0, .null, []),
  (20, .bipush 16, 0, 0, .int 16, []),
  (22, .if_icmp .ge 38, 36, 0, .null, []),
  (25, .iload_n 3, 3, 0, .null, []),
  (26, .aload_n 0, 0, 0, .null, []),
  (27, .iload_n 1, 1, 0, .null, []),
  (28, .iload 4, 4, 0, .null, []),
  (30, .invokevirtual 125, 158, 2, .null, []),
  (33, .aload_n 0, 0, 0, .null, []),
  (34, .getfield 7, 8, 0, .null, []),
  (37, .iconst 5, 0, 0, .int 5, []),
  (38, .iload_n 2, 2, 0, .null, []),
  (39, .iadd, 0, 0, .null, []),
  (40, .iload 4, 4, 0, .null, []),
  (42, .iadd, 0, 0, .null, []),
  (43, .iaload, 0, 0, .null, []),
  (44, .if_icmp .ne 7, 31, 0, .null, []),
  (47, .iconst 0, 0, 0, .int 0, []),
  (48, .goto 4, 32, 0, .null, []),
  (51, .iconst 1, 0, 0, .int 1, []),
  (52, .iadd, 0, 0, .null, []),
  (53, .istore_n 3, 3, 0, .null, []),
  (54, .iinc 4 1, 4, 0, .null, []),
  (57, .goto (-52), 4, 0, .null, []),
  (60, .iload_n 3, 3, 0, .null, []),
  (61, .ireturn, 0, 0, .null, [])])
def mX8_falseAt : pM := (⟨RX8, "falseAt", "(II)I"⟩, prog_10_method_35_code, 3, (some FieldType.int), 1, 8, [(0, .aload_n 0, 0, 0, .null, []),
  (1, .iload_n 1, 1, 0, .null, []),
  (2, .invokevirtual 109, 152, 1, .null, []),
  (5, .ifCond .eq 24, 15, 0, .null, []),
  (8, .iload_n 2, 2, 0, .null, []),
  (9, .i2l, 0, 0, .null, []),
  (10, .lconst 0, 0, 0, .long 0, []),
  (11, .ldc2_w 139, 0, 0, .long 15, []),
  (14, .invokestatic 68, 143, 3, .null, []),
  (17, .ifCond .eq 12, 15, 0, .null, []),
  (20, .aload_n 0, 0, 0, .null, []),
  (21, .iload_n 1, 1, 0, .null, []),
  (22, .iload_n 2, 2, 0, .null, []),
  (23, .invokevirtual 150, 175, 2, .null, []),
  (26, .goto 5, 16, 0, .null, []),
  (29, .ldc 83, 0, 0, .int (-1000000001), []),
  (31, .ireturn, 0, 0, .null, [])])
def mX8_fits : pM := (⟨RX8, "fits", "(II)I"⟩, prog_10_method_36_code, 5, (some FieldType.int), 1, 8, [(0, .aload_n 0, 0, 0, .null, []),
  (1, .iload_n 1, 1, 0, .null, []),
  (2, .invokevirtual 109, 152, 1, .null, []),
  (5, .ifCond .eq 13, 10, 0, .null, []),
  (8, .iload_n 2, 2, 0, .null, []),
  (9, .i2l, 0, 0, .null, []),
  (10, .lconst 0, 0, 0, .long 0, []),
  (11, .lconst 1, 0, 0, .long 1, []),
  (12, .invokestatic 68, 143, 3, .null, []),
  (15, .ifCond .ne 6, 12, 0, .null, []),
  (18, .ldc 83, 0, 0, .int (-1000000001), []),
  (20, .ireturn, 0, 0, .null, []),
  (21, .iconst 0, 0, 0, .int 0, []),
  (22, .istore_n 3, 3, 0, .null, []),
  (23, .iconst 1, 0, 0, .int 1, []),
  (24, .istore 4, 4, 0, .null, []),
  (26, .iload 4, 4, 0, .null, []),
  (28, .bipush 16, 0, 0, .int 16, []),
  (30, .aload_n 0, 0, 0, .null, []),
  (31, .iload_n 1, 1, 0, .null, []),
  (32, .iconst 2, 0, 0, .int 2, []),
  (33, .invokevirtual 88, 150, 2, .null, []),
  (36, .isub, 0, 0, .null, []),
  (37, .if_icmp .gt 32, 39, 0, .null, []),
  (40, .aload_n 0, 0, 0, .null, []),
  (41, .iload_n 1, 1, 0, .null, []),
  (42, .iload 4, 4, 0, .null, []),
  (44, .invokevirtual 150, 175, 2, .null, []),
  (47, .aload_n 0, 0, 0, .null, []),
  (48, .iload_n 1, 1, 0, .null, []),
  (49, .iload_n 3, 3, 0, .null, []),
  (50, .invokevirtual 150, 175, 2, .null, []),
  (53, .if_icmp .ge 8, 35, 0, .null, []),
  (56, .iload 4, 4, 0, .null, []),
  (58, .goto 4, 36, 0, .null, []),
  (61, .iload_n 3, 3, 0, .null, []),
  (62, .istore_n 3, 3, 0, .null, []),
  (63, .iinc 4 1, 4, 0, .null, []),
  (66, .goto (-40), 16, 0, .null, []),
  (69, .iload_n 2, 2, 0, .null, []),
  (70, .ifCond .ne 7, 43, 0, .null, []),
  (73, .iload_n 3, 3, 0, .null, []),
  (74, .goto 9, 47, 0, .null, []),
  (77, .aload_n 0, 0, 0, .null, []),
  (78, .iload_n 1, 1, 0, .null, []),
  (79, .iload_n 3, 3, 0, .null, []),
  (80, .invokevirtual 150, 175, 2, .null, []),
  (83, .ireturn, 0, 0, .null, [])])
def mX8_joinBy : pM := (⟨RX8, "joinBy", "(III)I"⟩, prog_10_method_37_code, 6, (some FieldType.int), 1, 8, [(0, .iconst 0, 0, 0, .int 0, []),
  (1, .istore 4, 4, 0, .null, []),
  (3, .iload_n 3, 3, 0, .null, []),
  (4, .istore 5, 5, 0, .null, []),
  (6, .iload 5, 5, 0, .null, []),
  (8, .aload_n 0, 0, 0, .null, []),
  (9, .iload_n 1, 1, 0, .null, []),
  (10, .iconst 2, 0, 0, .int 2, []),
  (11, .invokevirtual 88, 150, 2, .null, []),
  (14, .if_icmp .ge 52, 37, 0, .null, []),
  (17, .iload 5, 5, 0, .null, []),
  (19, .iload_n 3, 3, 0, .null, []),
  (20, .isub, 0, 0, .null, []),
  (21, .aload_n 0, 0, 0, .null, []),
  (22, .iload_n 2, 2, 0, .null, []),
  (23, .iconst 2, 0, 0, .int 2, []),
  (24, .invokevirtual 88, 150, 2, .null, []),
  (27, .if_icmp .ge 39, 37, 0, .null, []),
  (30, .iload 4, 4, 0, .null, []),
  (32, .aload_n 0, 0, 0, .null, []),
  (33, .iload_n 1, 1, 0, .null, []),
  (34, .iload 5, 5, 0, .null, []),
  (36, .invokevirtual 125, 158, 2, .null, []),
  (39, .aload_n 0, 0, 0, .null, []),
  (40, .iload_n 2, 2, 0, .null, []),
  (41, .iload 5, 5, 0, .null, []),
  (43, .iload_n 3, 3, 0, .null, []),
  (44, .isub, 0, 0, .null, []),
  (45, .invokevirtual 125, 158, 2, .null, []),
  (48, .if_icmp .ne 7, 32, 0, .null, []),
  (51, .iconst 1, 0, 0, .int 1, []),
  (52, .goto 5, 33, 0, .null, []),
  (55, .bipush (-2), 0, 0, .int (-2), []),
  (57, .iadd, 0, 0, .null, []),
  (58, .istore 4, 4, 0, .null, []),
  (60, .iinc 5 1, 5, 0, .null, []),
  (63, .goto (-57), 4, 0, .null, []),
  (66, .iload 4, 4, 0, .null, []),
  (68, .ireturn, 0, 0, .null, [])])
def mX8_join : pM := (⟨RX8, "join", "(III)I"⟩, prog_10_method_38_code, 6, (some FieldType.int), 1, 8, [(0, .aload_n 0, 0, 0, .null, []),
  (1, .iload_n 1, 1, 0, .null, []),
  (2, .invokevirtual 109, 152, 1, .null, []),
  (5, .ifCond .eq 26, 17, 0, .null, []),
  (8, .aload_n 0, 0, 0, .null, []),
  (9, .iload_n 2, 2, 0, .null, []),
  (10, .invokevirtual 109, 152, 1, .null, []),
  (13, .ifCond .eq 18, 17, 0, .null, []),
  (16, .iload_n 1, 1, 0, .null, []),
  (17, .iload_n 2, 2, 0, .null, []),
  (18, .if_icmp .eq 13, 17, 0, .null, []),
  (21, .iload_n 3, 3, 0, .null, []),
  (22, .i2l, 0, 0, .null, []),
  (23, .lconst 0, 0, 0, .long 0, []),
  (24, .lconst 1, 0, 0, .long 1, []),
  (25, .invokestatic 68, 143, 3, .null, []),
  (28, .ifCond .ne 6, 19, 0, .null, []),
  (31, .ldc 83, 0, 0, .int (-1000000001), []),
  (33, .ireturn, 0, 0, .null, []),
  (34, .iconst 0, 0, 0, .int 0, []),
  (35, .istore 4, 4, 0, .null, []),
  (37, .iconst 1, 0, 0, .int 1, []),
  (38, .istore 5, 5, 0, .null, []),
  (40, .iload 5, 5, 0, .null, []),
  (42, .aload_n 0, 0, 0, .null, []),
  (43, .iload_n 1, 1, 0, .null, []),
  (44, .iconst 2, 0, 0, .int 2, []),
  (45, .invokevirtual 88, 150, 2, .null, []),
  (48, .if_icmp .ge 37, 46, 0, .null, []),
  (51, .aload_n 0, 0, 0, .null, []),
  (52, .iload_n 1, 1, 0, .null, []),
  (53, .iload_n 2, 2, 0, .null, []),
  (54, .iload 5, 5, 0, .null, []),
  (56, .invokevirtual 153, 178, 3, .null, []),
  (59, .aload_n 0, 0, 0, .null, []),
  (60, .iload_n 1, 1, 0, .null, []),
  (61, .iload_n 2, 2, 0, .null, []),
  (62, .iload 4, 4, 0, .null, []),
  (64, .invokevirtual 153, 178, 3, .null, []),
  (67, .if_icmp .le 8, 42, 0, .null, []),
  (70, .iload 5, 5, 0, .null, []),
  (72, .goto 5, 43, 0, .null, []),
  (75, .iload 4, 4, 0, .null, []),
  (77, .istore 4, 4, 0, .null, []),
  (79, .iinc 5 1, 5, 0, .null, []),
  (82, .goto (-42), 23, 0, .null, []),
  (85, .iload_n 3, 3, 0, .null, []),
  (86, .ifCond .ne 8, 50, 0, .null, []),
  (89, .iload 4, 4, 0, .null, []),
  (91, .goto 11, 55, 0, .null, []),
  (94, .aload_n 0, 0, 0, .null, []),
  (95, .iload_n 1, 1, 0, .null, []),
  (96, .iload_n 2, 2, 0, .null, []),
  (97, .iload 4, 4, 0, .null, []),
  (99, .invokevirtual 153, 178, 3, .null, []),
  (102, .ireturn, 0, 0, .null, [])])
def mX8_doClash : pM := (⟨RX8, "doClash", "(II)Z"⟩, prog_10_method_39_code, 5, (some FieldType.boolean), 1, 8, [(0, .aload_n 0, 0, 0, .null, []),
  (1, .iload_n 1, 1, 0, .null, []),
  (2, .invokevirtual 113, 163, 1, .null, []),
  (5, .aload_n 0, 0, 0, .null, []),
  (6, .iload_n 2, 2, 0, .null, []),
  (7, .invokevirtual 113, 163, 1, .null, []),
  (10, .iand, 0, 0, .null, []),
  (11, .istore_n 3, 3, 0, .null, []),
  (12, .iconst 0, 0, 0, .int 0, []),
  (13, .istore 4, 4, 0, .null, []),
  (15, .iload 4, 4, 0, .null, []),
  (17, .bipush 16, 0, 0, .int 16, []),
  (19, .if_icmp .ge 52, 43, 0, .null, []),
  (22, .iload_n 3, 3, 0, .null, []),
  (23, .iload 4, 4, 0, .null, []),
  (25, .ishr, 0, 0, .null, []),
  (26, .iconst 1, 0, 0, .int 1, []),
  (27, .iand, 0, 0, .null, []),
  (28, .iconst 1, 0, 0, .int 1, []),
  (29, .if_icmp .ne 36, 41, 0, .null, []),
  (32, .aload_n 0, 0, 0, .null, []),
  (33, .iload_n 1, 1, 0, .null, []),
  (34, .iload 4, 4, 0, .null, []),
  (36, .aload_n 0, 0, 0, .null, []),
  (37, .iload_n 1, 1, 0, .null, []),
  (38, .iconst 4, 0, 0, .int 4, []),
  (39, .invokevirtual 88, 150, 2, .null, []),
  (42, .isub, 0, 0, .null, []),
  (43, .invokevirtual 125, 158, 2, .null, []),
  (46, .aload_n 0, 0, 0, .null, []),
  (47, .iload_n 2, 2, 0, .null, []),
  (48, .iload 4, 4, 0, .null, []),
  (50, .aload_n 0, 0, 0, .null, []),
  (51, .iload_n 2, 2, 0, .null, []),
  (52, .iconst 4, 0, 0, .int 4, []),
  (53, .invokevirtual 88, 150, 2, .null, []),
  (56, .isub, 0, 0, .null, []),
  (57, .invokevirtual 125, 158, 2, .null, []),
  (60, .if_icmp .eq 5, 41, 0, .null, []),
  (63, .iconst 1, 0, 0, .int 1, []),
  (64, .ireturn, 0, 0, .null, []),
  (65, .iinc 4 1, 4, 0, .null, []),
  (68, .goto (-53), 10, 0, .null, []),
  (71, .iconst 0, 0, 0, .int 0, []),
  (72, .ireturn, 0, 0, .null, [])])
def mX8_clash : pM := (⟨RX8, "clash", "(II)I"⟩, prog_10_method_40_code, 3, (some FieldType.int), 1, 8, [(0, .aload_n 0, 0, 0, .null, []),
  (1, .iload_n 1, 1, 0, .null, []),
  (2, .invokevirtual 109, 152, 1, .null, []),
  (5, .ifCond .eq 16, 11, 0, .null, []),
  (8, .aload_n 0, 0, 0, .null, []),
  (9, .iload_n 2, 2, 0, .null, []),
  (10, .invokevirtual 109, 152, 1, .null, []),
  (13, .ifCond .eq 8, 11, 0, .null, []),
  (16, .iload_n 1, 1, 0, .null, []),
  (17, .iload_n 2, 2, 0, .null, []),
  (18, .if_icmp .ne 6, 13, 0, .null, []),
  (21, .ldc 83, 0, 0, .int (-1000000001), []),
  (23, .ireturn, 0, 0, .null, []),
  (24, .aload_n 0, 0, 0, .null, []),
  (25, .iload_n 1, 1, 0, .null, []),
  (26, .iload_n 2, 2, 0, .null, []),
  (27, .invokevirtual 157, 180, 2, .null, []),
  (30, .ifCond .eq 7, 20, 0, .null, []),
  (33, .iconst 1, 0, 0, .int 1, []),
  (34, .goto 4, 21, 0, .null, []),
  (37, .iconst 0, 0, 0, .int 0, []),
  (38, .ireturn, 0, 0, .null, [])])
def mX8_laidOnes : pM := (⟨RX8, "laidOnes", "()I"⟩, prog_10_method_41_code, 3, (some FieldType.int), 1, 8, [(0, .iconst 0, 0, 0, .int 0, []),
  (1, .istore_n 1, 1, 0, .null, []),
  (2, .iconst 0, 0, 0, .int 0, []),
  (3, .istore_n 2, 2, 0, .null, []),
  (4, .iload_n 2, 2, 0, .null, []),
  (5, .aload_n 0, 0, 0, .null, []),
  (6, .getfield 7, 8, 0, .null, []),
  (9, .iconst 0, 0, 0, .int 0, []),
  (10, .iaload, 0, 0, .null, []),
  (11, .if_icmp .ge 30, 26, 0, .null, []),
  (14, .iload_n 1, 1, 0, .null, []),
  (15, .aload_n 0, 0, 0, .null, []),
  (16, .iload_n 2, 2, 0, .null, []),
  (17, .iconst 4, 0, 0, .int 4, []),
  (18, .invokevirtual 88, 150, 2, .null, []),
  (21, .bipush 16, 0, 0, .int 16, []),
  (23, .if_icmp .ge 9, 21, 0, .null, []),
  (26, .iconst 1, 0, 0, .int 1, []),
  (27, .iload_n 2, 2, 0, .null, []),
  (28, .ishl, 0, 0, .null, []),
  (29, .goto 4, 22, 0, .null, []),
  (32, .iconst 0, 0, 0, .int 0, []),
  (33, .ior, 0, 0, .null, []),
  (34, .istore_n 1, 1, 0, .null, []),
  (35, .iinc 2 1, 2, 0, .null, []),
  (38, .goto (-34), 4, 0, .null, []),
  (41, .iload_n 1, 1, 0, .null, []),
  (42, .ireturn, 0, 0, .null, [])])
def mX8_coveredBy : pM := (⟨RX8, "coveredBy", "(I)I"⟩, prog_10_method_42_code, 4, (some FieldType.int), 1, 8, [(0, .iconst 0, 0, 0, .int 0, []),
  (1, .istore_n 2, 2, 0, .null, []),
  (2, .iconst 0, 0, 0, .int 0, []),
  (3, .istore_n 3, 3, 0, .null, []),
  (4, .iload_n 3, 3, 0, .null, []),
  (5, .aload_n 0, 0, 0, .null, []),
  (6, .getfield 7, 8, 0, .null, []),
  (9, .iconst 0, 0, 0, .int 0, []),
  (10, .iaload, 0, 0, .null, []),
  (11, .if_icmp .ge 30, 27, 0, .null, []),
  (14, .iload_n 2, 2, 0, .null, []),
  (15, .iload_n 1, 1, 0, .null, []),
  (16, .iload_n 3, 3, 0, .null, []),
  (17, .ishr, 0, 0, .null, []),
  (18, .iconst 1, 0, 0, .int 1, []),
  (19, .iand, 0, 0, .null, []),
  (20, .iconst 1, 0, 0, .int 1, []),
  (21, .if_icmp .ne 11, 22, 0, .null, []),
  (24, .aload_n 0, 0, 0, .null, []),
  (25, .iload_n 3, 3, 0, .null, []),
  (26, .invokevirtual 113, 163, 1, .null, []),
  (29, .goto 4, 23, 0, .null, []),
  (32, .iconst 0, 0, 0, .int 0, []),
  (33, .ior, 0, 0, .null, []),
  (34, .istore_n 2, 2, 0, .null, []),
  (35, .iinc 3 1, 3, 0, .null, []),
  (38, .goto (-34), 4, 0, .null, []),
  (41, .iload_n 2, 2, 0, .null, []),
  (42, .ireturn, 0, 0, .null, [])])
def mX8_findClashing : pM := (⟨RX8, "findClashing", "()V"⟩, prog_10_method_43_code, 3, none, 1, 8, [(0, .iconst 0, 0, 0, .int 0, []),
  (1, .istore_n 1, 1, 0, .null, []),
  (2, .iload_n 1, 1, 0, .null, []),
  (3, .aload_n 0, 0, 0, .null, []),
  (4, .getfield 7, 8, 0, .null, []),
  (7, .iconst 0, 0, 0, .int 0, []),
  (8, .iaload, 0, 0, .null, []),
  (9, .if_icmp .ge 64, 45, 0, .null, []),
  (12, .aload_n 0, 0, 0, .null, []),
  (13, .getfield 43, 8, 12, .null, []),
  (16, .iload_n 1, 1, 0, .null, []),
  (17, .iconst 0, 0, 0, .int 0, []),
  (18, .iastore, 0, 0, .null, []),
  (19, .iconst 0, 0, 0, .int 0, []),
  (20, .istore_n 2, 2, 0, .null, []),
  (21, .iload_n 2, 2, 0, .null, []),
  (22, .aload_n 0, 0, 0, .null, []),
  (23, .getfield 7, 8, 0, .null, []),
  (26, .iconst 0, 0, 0, .int 0, []),
  (27, .iaload, 0, 0, .null, []),
  (28, .if_icmp .ge 39, 43, 0, .null, []),
  (31, .aload_n 0, 0, 0, .null, []),
  (32, .getfield 43, 8, 12, .null, []),
  (35, .iload_n 1, 1, 0, .null, []),
  (36, .dup2, 0, 0, .null, []),
  (37, .iaload, 0, 0, .null, []),
  (38, .iload_n 2, 2, 0, .null, []),
  (39, .iload_n 1, 1, 0, .null, []),
  (40, .if_icmp .eq 18, 38, 0, .null, []),
  (43, .aload_n 0, 0, 0, .null, []),
  (44, .iload_n 1, 1, 0, .null, []),
  (45, .iload_n 2, 2, 0, .null, []),
  (46, .invokevirtual 157, 180, 2, .null, []),
  (49, .ifCond .eq 9, 38, 0, .null, []),
  (52, .iconst 1, 0, 0, .int 1, []),
  (53, .iload_n 2, 2, 0, .null, []),
  (54, .ishl, 0, 0, .null, []),
  (55, .goto 4, 39, 0, .null, []),
  (58, .iconst 0, 0, 0, .int 0, []),
  (59, .ior, 0, 0, .null, []),
  (60, .iastore, 0, 0, .null, []),
  (61, .iinc 2 1, 2, 0, .null, []),
  (64, .goto (-43), 15, 0, .null, []),
  (67, .iinc 1 1, 1, 0, .null, []),
  (70, .goto (-68), 2, 0, .null, []),
  (73, .return_, 0, 0, .null, [])])
def mX8_areAtPeace : pM := (⟨RX8, "areAtPeace", "(I)Z"⟩, prog_10_method_44_code, 3, (some FieldType.boolean), 1, 8, [(0, .iconst 0, 0, 0, .int 0, []),
  (1, .istore_n 2, 2, 0, .null, []),
  (2, .iload_n 2, 2, 0, .null, []),
  (3, .aload_n 0, 0, 0, .null, []),
  (4, .getfield 7, 8, 0, .null, []),
  (7, .iconst 0, 0, 0, .int 0, []),
  (8, .iaload, 0, 0, .null, []),
  (9, .if_icmp .ge 31, 26, 0, .null, []),
  (12, .iload_n 1, 1, 0, .null, []),
  (13, .iload_n 2, 2, 0, .null, []),
  (14, .ishr, 0, 0, .null, []),
  (15, .iconst 1, 0, 0, .int 1, []),
  (16, .iand, 0, 0, .null, []),
  (17, .iconst 1, 0, 0, .int 1, []),
  (18, .if_icmp .ne 16, 24, 0, .null, []),
  (21, .aload_n 0, 0, 0, .null, []),
  (22, .getfield 43, 8, 12, .null, []),
  (25, .iload_n 2, 2, 0, .null, []),
  (26, .iaload, 0, 0, .null, []),
  (27, .iload_n 1, 1, 0, .null, []),
  (28, .iand, 0, 0, .null, []),
  (29, .ifCond .eq 5, 24, 0, .null, []),
  (32, .iconst 0, 0, 0, .int 0, []),
  (33, .ireturn, 0, 0, .null, []),
  (34, .iinc 2 1, 2, 0, .null, []),
  (37, .goto (-35), 2, 0, .null, []),
  (40, .iconst 1, 0, 0, .int 1, []),
  (41, .ireturn, 0, 0, .null, [])])
def mX8_undone : pM := (⟨RX8, "undone", "()I"⟩, prog_10_method_45_code, 5, (some FieldType.int), 1, 8, [(0, .aload_n 0, 0, 0, .null, []),
  (1, .invokevirtual 160, 184, 0, .null, []),
  (4, .aload_n 0, 0, 0, .null, []),
  (5, .invokevirtual 163, 182, 0, .null, []),
  (8, .istore_n 1, 1, 0, .null, []),
  (9, .iload_n 1, 1, 0, .null, []),
  (10, .istore_n 2, 2, 0, .null, []),
  (11, .iload_n 1, 1, 0, .null, []),
  (12, .istore_n 3, 3, 0, .null, []),
  (13, .iload_n 3, 3, 0, .null, []),
  (14, .ifCond .lt 58, 42, 0, .null, []),
  (17, .iload_n 3, 3, 0, .null, []),
  (18, .iload_n 1, 1, 0, .null, []),
  (19, .iconst (-1), 0, 0, .int (-1), []),
  (20, .ixor, 0, 0, .null, []),
  (21, .iand, 0, 0, .null, []),
  (22, .ifCond .ne 18, 24, 0, .null, []),
  (25, .iload_n 3, 3, 0, .null, []),
  (26, .invokestatic 166, 147, 1, .null, []),
  (29, .iload_n 2, 2, 0, .null, []),
  (30, .invokestatic 166, 147, 1, .null, []),
  (33, .if_icmp .gt 7, 24, 0, .null, []),
  (36, .iconst 1, 0, 0, .int 1, []),
  (37, .goto 4, 25, 0, .null, []),
  (40, .iconst 0, 0, 0, .int 0, []),
  (41, .istore 4, 4, 0, .null, []),
  (43, .iload 4, 4, 0, .null, []),
  (45, .ifCond .eq 19, 38, 0, .null, []),
  (48, .aload_n 0, 0, 0, .null, []),
  (49, .iload_n 1, 1, 0, .null, []),
  (50, .iload_n 3, 3, 0, .null, []),
  (51, .iconst (-1), 0, 0, .int (-1), []),
  (52, .ixor, 0, 0, .null, []),
  (53, .iand, 0, 0, .null, []),
  (54, .invokevirtual 169, 185, 1, .null, []),
  (57, .ifCond .eq 7, 38, 0, .null, []),
  (60, .iload_n 3, 3, 0, .null, []),
  (61, .goto 4, 39, 0, .null, []),
  (64, .iload_n 2, 2, 0, .null, []),
  (65, .istore_n 2, 2, 0, .null, []),
  (66, .iinc 3 (-1), 3, 0, .null, []),
  (69, .goto (-56), 9, 0, .null, []),
  (72, .iload_n 2, 2, 0, .null, []),
  (73, .ireturn, 0, 0, .null, [])])
def mX8_borne : pM := (⟨RX8, "borne", "()I"⟩, prog_10_method_46_code, 6, (some FieldType.int), 1, 8, [(0, .aload_n 0, 0, 0, .null, []),
  (1, .invokevirtual 163, 182, 0, .null, []),
  (4, .istore_n 1, 1, 0, .null, []),
  (5, .aload_n 0, 0, 0, .null, []),
  (6, .iload_n 1, 1, 0, .null, []),
  (7, .invokevirtual 172, 183, 1, .null, []),
  (10, .istore_n 2, 2, 0, .null, []),
  (11, .iload_n 1, 1, 0, .null, []),
  (12, .istore_n 3, 3, 0, .null, []),
  (13, .iload_n 1, 1, 0, .null, []),
  (14, .istore 4, 4, 0, .null, []),
  (16, .iload 4, 4, 0, .null, []),
  (18, .ifCond .lt 59, 41, 0, .null, []),
  (21, .iload 4, 4, 0, .null, []),
  (23, .iload_n 1, 1, 0, .null, []),
  (24, .iconst (-1), 0, 0, .int (-1), []),
  (25, .ixor, 0, 0, .null, []),
  (26, .iand, 0, 0, .null, []),
  (27, .ifCond .ne 19, 26, 0, .null, []),
  (30, .iload 4, 4, 0, .null, []),
  (32, .invokestatic 166, 147, 1, .null, []),
  (35, .iload_n 3, 3, 0, .null, []),
  (36, .invokestatic 166, 147, 1, .null, []),
  (39, .if_icmp .gt 7, 26, 0, .null, []),
  (42, .iconst 1, 0, 0, .int 1, []),
  (43, .goto 4, 27, 0, .null, []),
  (46, .iconst 0, 0, 0, .int 0, []),
  (47, .istore 5, 5, 0, .null, []),
  (49, .iload 5, 5, 0, .null, []),
  (51, .ifCond .eq 18, 37, 0, .null, []),
  (54, .aload_n 0, 0, 0, .null, []),
  (55, .iload 4, 4, 0, .null, []),
  (57, .invokevirtual 172, 183, 1, .null, []),
  (60, .iload_n 2, 2, 0, .null, []),
  (61, .if_icmp .ne 8, 37, 0, .null, []),
  (64, .iload 4, 4, 0, .null, []),
  (66, .goto 4, 38, 0, .null, []),
  (69, .iload_n 3, 3, 0, .null, []),
  (70, .istore_n 3, 3, 0, .null, []),
  (71, .iinc 4 (-1), 4, 0, .null, []),
  (74, .goto (-58), 11, 0, .null, []),
  (77, .iload_n 3, 3, 0, .null, []),
  (78, .ireturn, 0, 0, .null, [])])
def mX8_otherwiseAt : pM := (⟨RX8, "otherwiseAt", "(I)I"⟩, prog_10_method_47_code, 4, (some FieldType.int), 1, 8, [(0, .iconst 0, 0, 0, .int 0, []),
  (1, .istore_n 2, 2, 0, .null, []),
  (2, .iconst 0, 0, 0, .int 0, []),
  (3, .istore_n 3, 3, 0, .null, []),
  (4, .iload_n 3, 3, 0, .null, []),
  (5, .aload_n 0, 0, 0, .null, []),
  (6, .getfield 7, 8, 0, .null, []),
  (9, .iconst 0, 0, 0, .int 0, []),
  (10, .iaload, 0, 0, .null, []),
  (11, .if_icmp .ge 54, 43, 0, .null, []),
  (14, .iload_n 2, 2, 0, .null, []),
  (15, .aload_n 0, 0, 0, .null, []),
  (16, .iload_n 3, 3, 0, .null, []),
  (17, .invokevirtual 113, 163, 1, .null, []),
  (20, .iload_n 1, 1, 0, .null, []),
  (21, .ishr, 0, 0, .null, []),
  (22, .iconst 1, 0, 0, .int 1, []),
  (23, .iand, 0, 0, .null, []),
  (24, .iconst 1, 0, 0, .int 1, []),
  (25, .if_icmp .ne 31, 38, 0, .null, []),
  (28, .aload_n 0, 0, 0, .null, []),
  (29, .iload_n 3, 3, 0, .null, []),
  (30, .iload_n 1, 1, 0, .null, []),
  (31, .aload_n 0, 0, 0, .null, []),
  (32, .iload_n 3, 3, 0, .null, []),
  (33, .iconst 4, 0, 0, .int 4, []),
  (34, .invokevirtual 88, 150, 2, .null, []),
  (37, .isub, 0, 0, .null, []),
  (38, .invokevirtual 125, 158, 2, .null, []),
  (41, .aload_n 0, 0, 0, .null, []),
  (42, .getfield 7, 8, 0, .null, []),
  (45, .iconst 5, 0, 0, .int 5, []),
  (46, .iload_n 1, 1, 0, .null, []),
  (47, .iadd, 0, 0, .null, []),
  (48, .iaload, 0, 0, .null, []),
  (49, .if_icmp .eq 7, 38, 0, .null, []),
  (52, .iconst 1, 0, 0, .int 1, []),
  (53, .goto 4, 39, 0, .null, []),
  (56, .iconst 0, 0, 0, .int 0, []),
  (57, .iadd, 0, 0, .null, []),
  (58, .istore_n 2, 2, 0, .null, []),
  (59, .iinc 3 1, 3, 0, .null, []),
  (62, .goto (-58), 4, 0, .null, []),
  (65, .iload_n 2, 2, 0, .null, []),
  (66, .ireturn, 0, 0, .null, [])])
def mX8_look : pM := (⟨RX8, "look", "(I)I"⟩, prog_10_method_48_code, 4, (some FieldType.int), 1, 8, [(0, .iload_n 1, 1, 0, .null, []),
  (1, .i2l, 0, 0, .null, []),
  (2, .lconst 0, 0, 0, .long 0, []),
  (3, .lconst 1, 0, 0, .long 1, []),
  (4, .invokestatic 68, 143, 3, .null, []),
  (7, .ifCond .ne 6, 8, 0, .null, []),
  (10, .ldc 83, 0, 0, .int (-1000000001), []),
  (12, .ireturn, 0, 0, .null, []),
  (13, .iconst 0, 0, 0, .int 0, []),
  (14, .istore_n 2, 2, 0, .null, []),
  (15, .iconst 1, 0, 0, .int 1, []),
  (16, .istore_n 3, 3, 0, .null, []),
  (17, .iload_n 3, 3, 0, .null, []),
  (18, .bipush 16, 0, 0, .int 16, []),
  (20, .if_icmp .ge 28, 28, 0, .null, []),
  (23, .aload_n 0, 0, 0, .null, []),
  (24, .iload_n 3, 3, 0, .null, []),
  (25, .invokevirtual 175, 188, 1, .null, []),
  (28, .aload_n 0, 0, 0, .null, []),
  (29, .iload_n 2, 2, 0, .null, []),
  (30, .invokevirtual 175, 188, 1, .null, []),
  (33, .if_icmp .le 7, 24, 0, .null, []),
  (36, .iload_n 3, 3, 0, .null, []),
  (37, .goto 4, 25, 0, .null, []),
  (40, .iload_n 2, 2, 0, .null, []),
  (41, .istore_n 2, 2, 0, .null, []),
  (42, .iinc 3 1, 3, 0, .null, []),
  (45, .goto (-28), 12, 0, .null, []),
  (48, .iload_n 1, 1, 0, .null, []),
  (49, .ifCond .ne 7, 32, 0, .null, []),
  (52, .iload_n 2, 2, 0, .null, []),
  (53, .goto 8, 35, 0, .null, []),
  (56, .aload_n 0, 0, 0, .null, []),
  (57, .iload_n 2, 2, 0, .null, []),
  (58, .invokevirtual 175, 188, 1, .null, []),
  (61, .ireturn, 0, 0, .null, [])])
def mX8_goesOn : pM := (⟨RX8, "goesOn", "()V"⟩, prog_10_method_49_code, 5, none, 1, 8, [(0, .aload_n 0, 0, 0, .null, []),
  (1, .invokevirtual 145, 154, 0, .null, []),
  (4, .bipush 16, 0, 0, .int 16, []),
  (6, .irem, 0, 0, .null, []),
  (7, .istore_n 1, 1, 0, .null, []),
  (8, .iconst 0, 0, 0, .int 0, []),
  (9, .istore_n 2, 2, 0, .null, []),
  (10, .iload_n 2, 2, 0, .null, []),
  (11, .aload_n 0, 0, 0, .null, []),
  (12, .getfield 7, 8, 0, .null, []),
  (15, .iconst 0, 0, 0, .int 0, []),
  (16, .iaload, 0, 0, .null, []),
  (17, .if_icmp .ge 119, 84, 0, .null, []),
  (20, .aload_n 0, 0, 0, .null, []),
  (21, .iload_n 2, 2, 0, .null, []),
  (22, .invokevirtual 113, 163, 1, .null, []),
  (25, .iload_n 1, 1, 0, .null, []),
  (26, .ishr, 0, 0, .null, []),
  (27, .iconst 1, 0, 0, .int 1, []),
  (28, .iand, 0, 0, .null, []),
  (29, .iconst 1, 0, 0, .int 1, []),
  (30, .if_icmp .ne 100, 82, 0, .null, []),
  (33, .aload_n 0, 0, 0, .null, []),
  (34, .iload_n 2, 2, 0, .null, []),
  (35, .iload_n 1, 1, 0, .null, []),
  (36, .aload_n 0, 0, 0, .null, []),
  (37, .iload_n 2, 2, 0, .null, []),
  (38, .iconst 4, 0, 0, .int 4, []),
  (39, .invokevirtual 88, 150, 2, .null, []),
  (42, .isub, 0, 0, .null, []),
  (43, .invokevirtual 125, 158, 2, .null, []),
  (46, .aload_n 0, 0, 0, .null, []),
  (47, .getfield 7, 8, 0, .null, []),
  (50, .iconst 5, 0, 0, .int 5, []),
  (51, .iload_n 1, 1, 0, .null, []),
  (52, .iadd, 0, 0, .null, []),
  (53, .iaload, 0, 0, .null, []),
  (54, .if_icmp .ne 7, 40, 0, .null, []),
  (57, .iconst 1, 0, 0, .int 1, []),
  (58, .goto 4, 41, 0, .null, []),
  (61, .iconst 0, 0, 0, .int 0, []),
  (62, .istore_n 3, 3, 0, .null, []),
  (63, .aload_n 0, 0, 0, .null, []),
  (64, .iload_n 2, 2, 0, .null, []),
  (65, .iconst 5, 0, 0, .int 5, []),
  (66, .invokevirtual 88, 150, 2, .null, []),
  (69, .iload_n 3, 3, 0, .null, []),
  (70, .ifCond .eq 11, 52, 0, .null, []),
  (73, .aload_n 0, 0, 0, .null, []),
  (74, .iload_n 2, 2, 0, .null, []),
  (75, .invokevirtual 116, 159, 1, .null, []),
  (78, .goto 9, 56, 0, .null, []),
  (81, .aload_n 0, 0, 0, .null, []),
  (82, .iload_n 2, 2, 0, .null, []),
  (83, .invokevirtual 119, 160, 1, .null, []),
  (86, .ineg, 0, 0, .null, []),
  (87, .iadd, 0, 0, .null, []),
  (88, .istore 4, 4, 0, .null, []),
  (90, .aload_n 0, 0, 0, .null, []),
  (91, .iload_n 2, 2, 0, .null, []),
  (92, .iconst 5, 0, 0, .int 5, []),
  (93, .iload 4, 4, 0, .null, []),
  (95, .bipush 99, 0, 0, .int 99, []),
  (97, .invokestatic 102, 145, 2, .null, []),
  (100, .invokevirtual 73, 151, 3, .null, []),
  (103, .iload_n 3, 3, 0, .null, []),
  (104, .ifCond .ne 26, 82, 0, .null, []),
  (107, .iload 4, 4, 0, .null, []),
  (109, .ifCond .gt 21, 82, 0, .null, []),
  (112, .aload_n 0, 0, 0, .null, []),
  (113, .iload_n 2, 2, 0, .null, []),
  (114, .iconst 4, 0, 0, .int 4, []),
  (115, .bipush 16, 0, 0, .int 16, []),
  (117, .invokevirtual 73, 151, 3, .null, []),
  (120, .aload_n 0, 0, 0, .null, []),
  (121, .getfield 7, 8, 0, .null, []),
  (124, .iconst 3, 0, 0, .int 3, []),
  (125, .dup2, 0, 0, .null, []),
  (126, .iaload, 0, 0, .null, []),
  (127, .iconst 1, 0, 0, .int 1, []),
  (128, .iadd, 0, 0, .null, []),
  (129, .iastore, 0, 0, .null, []),
  (130, .iinc 2 1, 2, 0, .null, []),
  (133, .goto (-123), 7, 0, .null, []),
  (136, .aload_n 0, 0, 0, .null, []),
  (137, .getfield 7, 8, 0, .null, []),
  (140, .iconst 2, 0, 0, .int 2, []),
  (141, .dup2, 0, 0, .null, []),
  (142, .iaload, 0, 0, .null, []),
  (143, .iconst 1, 0, 0, .int 1, []),
  (144, .iadd, 0, 0, .null, []),
  (145, .iastore, 0, 0, .null, []),
  (146, .return_, 0, 0, .null, [])])
def mX8_goesOnMany : pM := (⟨RX8, "goesOnMany", "(I)V"⟩, prog_10_method_50_code, 3, none, 1, 8, [(0, .iconst 0, 0, 0, .int 0, []),
  (1, .istore_n 2, 2, 0, .null, []),
  (2, .iload_n 2, 2, 0, .null, []),
  (3, .iload_n 1, 1, 0, .null, []),
  (4, .if_icmp .ge 13, 9, 0, .null, []),
  (7, .aload_n 0, 0, 0, .null, []),
  (8, .invokevirtual 178, 190, 0, .null, []),
  (11, .iinc 2 1, 2, 0, .null, []),
  (14, .goto (-12), 2, 0, .null, []),
  (17, .return_, 0, 0, .null, [])])
def mX8_tides : pM := (⟨RX8, "tides", "(I)I"⟩, prog_10_method_51_code, 4, (some FieldType.int), 1, 8, [(0, .iload_n 1, 1, 0, .null, []),
  (1, .i2l, 0, 0, .null, []),
  (2, .lconst 1, 0, 0, .long 1, []),
  (3, .ldc2_w 181, 0, 0, .long 100, []),
  (6, .invokestatic 68, 143, 3, .null, []),
  (9, .ifCond .ne 6, 8, 0, .null, []),
  (12, .ldc 83, 0, 0, .int (-1000000001), []),
  (14, .ireturn, 0, 0, .null, []),
  (15, .aload_n 0, 0, 0, .null, []),
  (16, .getfield 7, 8, 0, .null, []),
  (19, .iconst 3, 0, 0, .int 3, []),
  (20, .iaload, 0, 0, .null, []),
  (21, .istore_n 2, 2, 0, .null, []),
  (22, .iconst 0, 0, 0, .int 0, []),
  (23, .istore_n 3, 3, 0, .null, []),
  (24, .iload_n 3, 3, 0, .null, []),
  (25, .iload_n 1, 1, 0, .null, []),
  (26, .if_icmp .ge 25, 28, 0, .null, []),
  (29, .aload_n 0, 0, 0, .null, []),
  (30, .getfield 7, 8, 0, .null, []),
  (33, .iconst 2, 0, 0, .int 2, []),
  (34, .iaload, 0, 0, .null, []),
  (35, .sipush 9999, 0, 0, .int 9999, []),
  (38, .if_icmp .ge 13, 28, 0, .null, []),
  (41, .aload_n 0, 0, 0, .null, []),
  (42, .invokevirtual 178, 190, 0, .null, []),
  (45, .iinc 3 1, 3, 0, .null, []),
  (48, .goto (-24), 15, 0, .null, []),
  (51, .aload_n 0, 0, 0, .null, []),
  (52, .getfield 7, 8, 0, .null, []),
  (55, .iconst 3, 0, 0, .int 3, []),
  (56, .iaload, 0, 0, .null, []),
  (57, .iload_n 2, 2, 0, .null, []),
  (58, .isub, 0, 0, .null, []),
  (59, .ireturn, 0, 0, .null, [])])
def mX8_allTrust : pM := (⟨RX8, "allTrust", "()I"⟩, prog_10_method_52_code, 3, (some FieldType.int), 1, 8, [(0, .iconst 0, 0, 0, .int 0, []),
  (1, .istore_n 1, 1, 0, .null, []),
  (2, .iconst 0, 0, 0, .int 0, []),
  (3, .istore_n 2, 2, 0, .null, []),
  (4, .iload_n 2, 2, 0, .null, []),
  (5, .aload_n 0, 0, 0, .null, []),
  (6, .getfield 7, 8, 0, .null, []),
  (9, .iconst 0, 0, 0, .int 0, []),
  (10, .iaload, 0, 0, .null, []),
  (11, .if_icmp .ge 18, 19, 0, .null, []),
  (14, .iload_n 1, 1, 0, .null, []),
  (15, .aload_n 0, 0, 0, .null, []),
  (16, .iload_n 2, 2, 0, .null, []),
  (17, .iconst 5, 0, 0, .int 5, []),
  (18, .invokevirtual 88, 150, 2, .null, []),
  (21, .iadd, 0, 0, .null, []),
  (22, .istore_n 1, 1, 0, .null, []),
  (23, .iinc 2 1, 2, 0, .null, []),
  (26, .goto (-22), 4, 0, .null, []),
  (29, .iload_n 1, 1, 0, .null, []),
  (30, .ireturn, 0, 0, .null, [])])
def mX8_book : pM := (⟨RX8, "book", "(I)I"⟩, prog_10_method_53_code, 2, (some FieldType.int), 1, 8, [(0, .iload_n 1, 1, 0, .null, []),
  (1, .tableswitch 62 0 3 #[31, 38, 43, 48], 22, 31, .null, [2, 7, 10, 13]),
  (32, .aload_n 0, 0, 0, .null, []),
  (33, .getfield 7, 8, 0, .null, []),
  (36, .iconst 3, 0, 0, .int 3, []),
  (37, .iaload, 0, 0, .null, []),
  (38, .ireturn, 0, 0, .null, []),
  (39, .aload_n 0, 0, 0, .null, []),
  (40, .invokevirtual 183, 193, 0, .null, []),
  (43, .ireturn, 0, 0, .null, []),
  (44, .aload_n 0, 0, 0, .null, []),
  (45, .invokevirtual 163, 182, 0, .null, []),
  (48, .ireturn, 0, 0, .null, []),
  (49, .ldc 105, 0, 0, .int 65535, []),
  (51, .aload_n 0, 0, 0, .null, []),
  (52, .aload_n 0, 0, 0, .null, []),
  (53, .invokevirtual 163, 182, 0, .null, []),
  (56, .invokevirtual 172, 183, 1, .null, []),
  (59, .iconst (-1), 0, 0, .int (-1), []),
  (60, .ixor, 0, 0, .null, []),
  (61, .iand, 0, 0, .null, []),
  (62, .ireturn, 0, 0, .null, []),
  (63, .ldc 83, 0, 0, .int (-1000000001), []),
  (65, .ireturn, 0, 0, .null, [])])
def mX8_laysBy : pM := (⟨RX8, "laysBy", "()V"⟩, prog_10_method_54_code, 2, none, 1, 8, [(0, .iconst 0, 0, 0, .int 0, []),
  (1, .istore_n 1, 1, 0, .null, []),
  (2, .iload_n 1, 1, 0, .null, []),
  (3, .bipush 75, 0, 0, .int 75, []),
  (5, .if_icmp .ge 21, 15, 0, .null, []),
  (8, .aload_n 0, 0, 0, .null, []),
  (9, .getfield 46, 8, 13, .null, []),
  (12, .iload_n 1, 1, 0, .null, []),
  (13, .aload_n 0, 0, 0, .null, []),
  (14, .getfield 7, 8, 0, .null, []),
  (17, .iload_n 1, 1, 0, .null, []),
  (18, .iaload, 0, 0, .null, []),
  (19, .iastore, 0, 0, .null, []),
  (20, .iinc 1 1, 1, 0, .null, []),
  (23, .goto (-21), 2, 0, .null, []),
  (26, .return_, 0, 0, .null, [])])
def mX8_laysBack : pM := (⟨RX8, "laysBack", "()V"⟩, prog_10_method_55_code, 2, none, 1, 8, [(0, .iconst 0, 0, 0, .int 0, []),
  (1, .istore_n 1, 1, 0, .null, []),
  (2, .iload_n 1, 1, 0, .null, []),
  (3, .bipush 75, 0, 0, .int 75, []),
  (5, .if_icmp .ge 21, 15, 0, .null, []),
  (8, .aload_n 0, 0, 0, .null, []),
  (9, .getfield 7, 8, 0, .null, []),
  (12, .iload_n 1, 1, 0, .null, []),
  (13, .aload_n 0, 0, 0, .null, []),
  (14, .getfield 46, 8, 13, .null, []),
  (17, .iload_n 1, 1, 0, .null, []),
  (18, .iaload, 0, 0, .null, []),
  (19, .iastore, 0, 0, .null, []),
  (20, .iinc 1 1, 1, 0, .null, []),
  (23, .goto (-21), 2, 0, .null, []),
  (26, .return_, 0, 0, .null, [])])
def mX8_behind : pM := (⟨RX8, "behind", "(II)I"⟩, prog_10_method_56_code, 4, (some FieldType.int), 1, 8, [(0, .iload_n 1, 1, 0, .null, []),
  (1, .i2l, 0, 0, .null, []),
  (2, .lconst 0, 0, 0, .long 0, []),
  (3, .ldc2_w 181, 0, 0, .long 100, []),
  (6, .invokestatic 68, 143, 3, .null, []),
  (9, .ifCond .eq 21, 18, 0, .null, []),
  (12, .iload_n 2, 2, 0, .null, []),
  (13, .i2l, 0, 0, .null, []),
  (14, .lconst 0, 0, 0, .long 0, []),
  (15, .iconst 2, 0, 0, .int 2, []),
  (16, .aload_n 0, 0, 0, .null, []),
  (17, .getfield 7, 8, 0, .null, []),
  (20, .iconst 0, 0, 0, .int 0, []),
  (21, .iaload, 0, 0, .null, []),
  (22, .iadd, 0, 0, .null, []),
  (23, .i2l, 0, 0, .null, []),
  (24, .invokestatic 68, 143, 3, .null, []),
  (27, .ifCond .ne 6, 20, 0, .null, []),
  (30, .ldc 83, 0, 0, .int (-1000000001), []),
  (32, .ireturn, 0, 0, .null, []),
  (33, .aload_n 0, 0, 0, .null, []),
  (34, .invokevirtual 186, 195, 0, .null, []),
  (37, .aload_n 0, 0, 0, .null, []),
  (38, .iload_n 1, 1, 0, .null, []),
  (39, .invokevirtual 189, 191, 1, .null, []),
  (42, .iload_n 2, 2, 0, .null, []),
  (43, .ifCond .ne 10, 30, 0, .null, []),
  (46, .aload_n 0, 0, 0, .null, []),
  (47, .invokevirtual 183, 193, 0, .null, []),
  (50, .goto 37, 50, 0, .null, []),
  (53, .iload_n 2, 2, 0, .null, []),
  (54, .iconst 1, 0, 0, .int 1, []),
  (55, .if_icmp .ne 10, 36, 0, .null, []),
  (58, .aload_n 0, 0, 0, .null, []),
  (59, .invokevirtual 163, 182, 0, .null, []),
  (62, .goto 25, 50, 0, .null, []),
  (65, .iload_n 2, 2, 0, .null, []),
  (66, .iconst 2, 0, 0, .int 2, []),
  (67, .if_icmp .ne 12, 44, 0, .null, []),
  (70, .aload_n 0, 0, 0, .null, []),
  (71, .getfield 7, 8, 0, .null, []),
  (74, .iconst 3, 0, 0, .int 3, []),
  (75, .iaload, 0, 0, .null, []),
  (76, .goto 11, 50, 0, .null, []),
  (79, .aload_n 0, 0, 0, .null, []),
  (80, .iload_n 2, 2, 0, .null, []),
  (81, .iconst 3, 0, 0, .int 3, []),
  (82, .isub, 0, 0, .null, []),
  (83, .iconst 5, 0, 0, .int 5, []),
  (84, .invokevirtual 88, 150, 2, .null, []),
  (87, .istore_n 3, 3, 0, .null, []),
  (88, .aload_n 0, 0, 0, .null, []),
  (89, .invokevirtual 193, 196, 0, .null, []),
  (92, .iload_n 3, 3, 0, .null, []),
  (93, .ireturn, 0, 0, .null, [])])
def mX8_lasts : pM := (⟨RX8, "lasts", "()I"⟩, prog_10_method_57_code, 3, (some FieldType.int), 1, 8, [(0, .aload_n 0, 0, 0, .null, []),
  (1, .invokevirtual 186, 195, 0, .null, []),
  (4, .iconst (-1), 0, 0, .int (-1), []),
  (5, .istore_n 1, 1, 0, .null, []),
  (6, .iconst 0, 0, 0, .int 0, []),
  (7, .istore_n 2, 2, 0, .null, []),
  (8, .iload_n 2, 2, 0, .null, []),
  (9, .sipush 300, 0, 0, .int 300, []),
  (12, .if_icmp .gt 30, 22, 0, .null, []),
  (15, .iload_n 1, 1, 0, .null, []),
  (16, .ifCond .ge 26, 22, 0, .null, []),
  (19, .aload_n 0, 0, 0, .null, []),
  (20, .invokevirtual 163, 182, 0, .null, []),
  (23, .ifCond .ne 7, 16, 0, .null, []),
  (26, .iload_n 2, 2, 0, .null, []),
  (27, .goto 4, 17, 0, .null, []),
  (30, .iconst (-1), 0, 0, .int (-1), []),
  (31, .istore_n 1, 1, 0, .null, []),
  (32, .aload_n 0, 0, 0, .null, []),
  (33, .invokevirtual 178, 190, 0, .null, []),
  (36, .iinc 2 1, 2, 0, .null, []),
  (39, .goto (-31), 6, 0, .null, []),
  (42, .aload_n 0, 0, 0, .null, []),
  (43, .invokevirtual 193, 196, 0, .null, []),
  (46, .iload_n 1, 1, 0, .null, []),
  (47, .invokestatic 196, 144, 1, .null, []),
  (50, .ireturn, 0, 0, .null, [])])
def mX8_best : pM := (⟨RX8, "best", "(III)I"⟩, prog_10_method_58_code, 8, (some FieldType.int), 1, 8, [(0, .aload_n 0, 0, 0, .null, []),
  (1, .iload_n 1, 1, 0, .null, []),
  (2, .invokevirtual 109, 152, 1, .null, []),
  (5, .ifCond .eq 25, 16, 0, .null, []),
  (8, .iload_n 2, 2, 0, .null, []),
  (9, .i2l, 0, 0, .null, []),
  (10, .lconst 1, 0, 0, .long 1, []),
  (11, .ldc2_w 199, 0, 0, .long 60, []),
  (14, .invokestatic 68, 143, 3, .null, []),
  (17, .ifCond .eq 13, 16, 0, .null, []),
  (20, .iload_n 3, 3, 0, .null, []),
  (21, .i2l, 0, 0, .null, []),
  (22, .lconst 0, 0, 0, .long 0, []),
  (23, .lconst 1, 0, 0, .long 1, []),
  (24, .invokestatic 68, 143, 3, .null, []),
  (27, .ifCond .ne 6, 18, 0, .null, []),
  (30, .ldc 83, 0, 0, .int (-1000000001), []),
  (32, .ireturn, 0, 0, .null, []),
  (33, .aload_n 0, 0, 0, .null, []),
  (34, .invokevirtual 186, 195, 0, .null, []),
  (37, .iconst 0, 0, 0, .int 0, []),
  (38, .istore 4, 4, 0, .null, []),
  (40, .iconst (-1), 0, 0, .int (-1), []),
  (41, .istore 5, 5, 0, .null, []),
  (43, .iconst 0, 0, 0, .int 0, []),
  (44, .istore 6, 6, 0, .null, []),
  (46, .iload 6, 6, 0, .null, []),
  (48, .bipush 16, 0, 0, .int 16, []),
  (50, .if_icmp .ge 66, 60, 0, .null, []),
  (53, .aload_n 0, 0, 0, .null, []),
  (54, .iload_n 1, 1, 0, .null, []),
  (55, .iconst 4, 0, 0, .int 4, []),
  (56, .iload 6, 6, 0, .null, []),
  (58, .invokevirtual 73, 151, 3, .null, []),
  (61, .aload_n 0, 0, 0, .null, []),
  (62, .iload_n 2, 2, 0, .null, []),
  (63, .invokevirtual 189, 191, 1, .null, []),
  (66, .aload_n 0, 0, 0, .null, []),
  (67, .iload_n 1, 1, 0, .null, []),
  (68, .iconst 5, 0, 0, .int 5, []),
  (69, .invokevirtual 88, 150, 2, .null, []),
  (72, .istore 7, 7, 0, .null, []),
  (74, .aload_n 0, 0, 0, .null, []),
  (75, .invokevirtual 193, 196, 0, .null, []),
  (78, .iload 7, 7, 0, .null, []),
  (80, .iload 5, 5, 0, .null, []),
  (82, .if_icmp .le 8, 49, 0, .null, []),
  (85, .iload 6, 6, 0, .null, []),
  (87, .goto 5, 50, 0, .null, []),
  (90, .iload 4, 4, 0, .null, []),
  (92, .istore 4, 4, 0, .null, []),
  (94, .iload 7, 7, 0, .null, []),
  (96, .iload 5, 5, 0, .null, []),
  (98, .if_icmp .le 8, 56, 0, .null, []),
  (101, .iload 7, 7, 0, .null, []),
  (103, .goto 5, 57, 0, .null, []),
  (106, .iload 5, 5, 0, .null, []),
  (108, .istore 5, 5, 0, .null, []),
  (110, .iinc 6 1, 6, 0, .null, []),
  (113, .goto (-67), 26, 0, .null, []),
  (116, .iload_n 3, 3, 0, .null, []),
  (117, .ifCond .ne 8, 64, 0, .null, []),
  (120, .iload 4, 4, 0, .null, []),
  (122, .goto 5, 65, 0, .null, []),
  (125, .iload 5, 5, 0, .null, []),
  (127, .ireturn, 0, 0, .null, [])])
def mX8_taught : pM := (⟨RX8, "taught", "(II)I"⟩, prog_10_method_59_code, 7, (some FieldType.int), 1, 8, [(0, .iload_n 1, 1, 0, .null, []),
  (1, .i2l, 0, 0, .null, []),
  (2, .lconst 1, 0, 0, .long 1, []),
  (3, .ldc2_w 199, 0, 0, .long 60, []),
  (6, .invokestatic 68, 143, 3, .null, []),
  (9, .ifCond .eq 13, 12, 0, .null, []),
  (12, .iload_n 2, 2, 0, .null, []),
  (13, .i2l, 0, 0, .null, []),
  (14, .lconst 0, 0, 0, .long 0, []),
  (15, .lconst 1, 0, 0, .long 1, []),
  (16, .invokestatic 68, 143, 3, .null, []),
  (19, .ifCond .ne 6, 14, 0, .null, []),
  (22, .ldc 83, 0, 0, .int (-1000000001), []),
  (24, .ireturn, 0, 0, .null, []),
  (25, .aload_n 0, 0, 0, .null, []),
  (26, .invokevirtual 186, 195, 0, .null, []),
  (29, .iconst 0, 0, 0, .int 0, []),
  (30, .istore_n 3, 3, 0, .null, []),
  (31, .iconst (-1), 0, 0, .int (-1), []),
  (32, .istore 4, 4, 0, .null, []),
  (34, .iconst 0, 0, 0, .int 0, []),
  (35, .istore 5, 5, 0, .null, []),
  (37, .iload 5, 5, 0, .null, []),
  (39, .bipush 16, 0, 0, .int 16, []),
  (41, .if_icmp .ge 76, 65, 0, .null, []),
  (44, .aload_n 0, 0, 0, .null, []),
  (45, .getfield 7, 8, 0, .null, []),
  (48, .iconst 5, 0, 0, .int 5, []),
  (49, .iload 5, 5, 0, .null, []),
  (51, .iadd, 0, 0, .null, []),
  (52, .aload_n 0, 0, 0, .null, []),
  (53, .getfield 7, 8, 0, .null, []),
  (56, .iconst 5, 0, 0, .int 5, []),
  (57, .iload 5, 5, 0, .null, []),
  (59, .iadd, 0, 0, .null, []),
  (60, .iaload, 0, 0, .null, []),
  (61, .iconst 1, 0, 0, .int 1, []),
  (62, .iadd, 0, 0, .null, []),
  (63, .iconst 4, 0, 0, .int 4, []),
  (64, .irem, 0, 0, .null, []),
  (65, .iastore, 0, 0, .null, []),
  (66, .aload_n 0, 0, 0, .null, []),
  (67, .iload_n 1, 1, 0, .null, []),
  (68, .invokevirtual 189, 191, 1, .null, []),
  (71, .aload_n 0, 0, 0, .null, []),
  (72, .invokevirtual 183, 193, 0, .null, []),
  (75, .istore 6, 6, 0, .null, []),
  (77, .aload_n 0, 0, 0, .null, []),
  (78, .invokevirtual 193, 196, 0, .null, []),
  (81, .iload 6, 6, 0, .null, []),
  (83, .iload 4, 4, 0, .null, []),
  (85, .if_icmp .le 8, 54, 0, .null, []),
  (88, .iload 5, 5, 0, .null, []),
  (90, .goto 4, 55, 0, .null, []),
  (93, .iload_n 3, 3, 0, .null, []),
  (94, .istore_n 3, 3, 0, .null, []),
  (95, .iload 6, 6, 0, .null, []),
  (97, .iload 4, 4, 0, .null, []),
  (99, .if_icmp .le 8, 61, 0, .null, []),
  (102, .iload 6, 6, 0, .null, []),
  (104, .goto 5, 62, 0, .null, []),
  (107, .iload 4, 4, 0, .null, []),
  (109, .istore 4, 4, 0, .null, []),
  (111, .iinc 5 1, 5, 0, .null, []),
  (114, .goto (-77), 22, 0, .null, []),
  (117, .iload_n 2, 2, 0, .null, []),
  (118, .ifCond .ne 7, 69, 0, .null, []),
  (121, .iload_n 3, 3, 0, .null, []),
  (122, .goto 5, 70, 0, .null, []),
  (125, .iload 4, 4, 0, .null, []),
  (127, .ireturn, 0, 0, .null, [])])
def mX8_fee : pM := (⟨RX8, "fee", "()I"⟩, prog_10_method_60_code, 2, (some FieldType.int), 1, 8, [(0, .aload_n 0, 0, 0, .null, []),
  (1, .iconst 1, 0, 0, .int 1, []),
  (2, .invokevirtual 96, 222, 1, .null, []),
  (5, .istore_n 1, 1, 0, .null, []),
  (6, .iload_n 1, 1, 0, .null, []),
  (7, .ifCond .ge 10, 11, 0, .null, []),
  (10, .aload_n 0, 0, 0, .null, []),
  (11, .getfield 7, 8, 0, .null, []),
  (14, .iconst 3, 0, 0, .int 3, []),
  (15, .iaload, 0, 0, .null, []),
  (16, .ireturn, 0, 0, .null, []),
  (17, .aload_n 0, 0, 0, .null, []),
  (18, .getfield 52, 8, 26, .null, []),
  (21, .bipush 110, 0, 0, .int 110, []),
  (23, .aload_n 0, 0, 0, .null, []),
  (24, .getfield 7, 8, 0, .null, []),
  (27, .iconst 2, 0, 0, .int 2, []),
  (28, .iaload, 0, 0, .null, []),
  (29, .iastore, 0, 0, .null, []),
  (30, .aload_n 0, 0, 0, .null, []),
  (31, .getfield 52, 8, 26, .null, []),
  (34, .bipush 102, 0, 0, .int 102, []),
  (36, .aload_n 0, 0, 0, .null, []),
  (37, .getfield 7, 8, 0, .null, []),
  (40, .iconst 3, 0, 0, .int 3, []),
  (41, .iaload, 0, 0, .null, []),
  (42, .iastore, 0, 0, .null, []),
  (43, .aload_n 0, 0, 0, .null, []),
  (44, .iload_n 1, 1, 0, .null, []),
  (45, .invokevirtual 99, 225, 1, .null, []),
  (48, .ireturn, 0, 0, .null, [])])
def mX8_fine : pM := (⟨RX8, "fine", "(I)I"⟩, prog_10_method_61_code, 3, (some FieldType.int), 1, 8, [(0, .aload_n 0, 0, 0, .null, []),
  (1, .iload_n 1, 1, 0, .null, []),
  (2, .invokevirtual 109, 152, 1, .null, []),
  (5, .ifCond .ne 6, 6, 0, .null, []),
  (8, .ldc 83, 0, 0, .int (-1000000001), []),
  (10, .ireturn, 0, 0, .null, []),
  (11, .aload_n 0, 0, 0, .null, []),
  (12, .iconst 2, 0, 0, .int 2, []),
  (13, .invokevirtual 96, 222, 1, .null, []),
  (16, .istore_n 2, 2, 0, .null, []),
  (17, .iload_n 2, 2, 0, .null, []),
  (18, .ifCond .ge 10, 17, 0, .null, []),
  (21, .aload_n 0, 0, 0, .null, []),
  (22, .iload_n 1, 1, 0, .null, []),
  (23, .iconst 5, 0, 0, .int 5, []),
  (24, .invokevirtual 88, 150, 2, .null, []),
  (27, .ireturn, 0, 0, .null, []),
  (28, .aload_n 0, 0, 0, .null, []),
  (29, .getfield 52, 8, 26, .null, []),
  (32, .bipush 116, 0, 0, .int 116, []),
  (34, .aload_n 0, 0, 0, .null, []),
  (35, .iload_n 1, 1, 0, .null, []),
  (36, .iconst 5, 0, 0, .int 5, []),
  (37, .invokevirtual 88, 150, 2, .null, []),
  (40, .iastore, 0, 0, .null, []),
  (41, .aload_n 0, 0, 0, .null, []),
  (42, .getfield 52, 8, 26, .null, []),
  (45, .bipush 115, 0, 0, .int 115, []),
  (47, .aload_n 0, 0, 0, .null, []),
  (48, .iload_n 1, 1, 0, .null, []),
  (49, .iconst 2, 0, 0, .int 2, []),
  (50, .invokevirtual 88, 150, 2, .null, []),
  (53, .iastore, 0, 0, .null, []),
  (54, .aload_n 0, 0, 0, .null, []),
  (55, .iload_n 2, 2, 0, .null, []),
  (56, .invokevirtual 99, 225, 1, .null, []),
  (59, .ireturn, 0, 0, .null, [])])
def mX8_feed : pM := (⟨RX8, "feed", "(III)I"⟩, prog_10_method_62_code, 6, (some FieldType.int), 1, 8, [(0, .aload_n 0, 0, 0, .null, []),
  (1, .getfield 201, 8, 15, .null, []),
  (4, .bipush 12, 0, 0, .int 12, []),
  (6, .iadd, 0, 0, .null, []),
  (7, .bipush 96, 0, 0, .int 96, []),
  (9, .if_icmp .le 6, 8, 0, .null, []),
  (12, .ldc 84, 0, 0, .int (-1000000003), []),
  (14, .ireturn, 0, 0, .null, []),
  (15, .iconst 0, 0, 0, .int 0, []),
  (16, .istore 4, 4, 0, .null, []),
  (18, .iload 4, 4, 0, .null, []),
  (20, .bipush 12, 0, 0, .int 12, []),
  (22, .if_icmp .ge 69, 49, 0, .null, []),
  (25, .iload 4, 4, 0, .null, []),
  (27, .iconst 4, 0, 0, .int 4, []),
  (28, .if_icmp .ge 7, 18, 0, .null, []),
  (31, .iload_n 1, 1, 0, .null, []),
  (32, .goto 15, 24, 0, .null, []),
  (35, .iload 4, 4, 0, .null, []),
  (37, .bipush 8, 0, 0, .int 8, []),
  (39, .if_icmp .ge 7, 23, 0, .null, []),
  (42, .iload_n 2, 2, 0, .null, []),
  (43, .goto 4, 24, 0, .null, []),
  (46, .iload_n 3, 3, 0, .null, []),
  (47, .istore 5, 5, 0, .null, []),
  (49, .aload_n 0, 0, 0, .null, []),
  (50, .getfield 49, 8, 14, .null, []),
  (53, .aload_n 0, 0, 0, .null, []),
  (54, .getfield 201, 8, 15, .null, []),
  (57, .iload 5, 5, 0, .null, []),
  (59, .bipush 24, 0, 0, .int 24, []),
  (61, .bipush 8, 0, 0, .int 8, []),
  (63, .iload 4, 4, 0, .null, []),
  (65, .iconst 4, 0, 0, .int 4, []),
  (66, .irem, 0, 0, .null, []),
  (67, .imul, 0, 0, .null, []),
  (68, .isub, 0, 0, .null, []),
  (69, .ishr, 0, 0, .null, []),
  (70, .sipush 255, 0, 0, .int 255, []),
  (73, .iand, 0, 0, .null, []),
  (74, .iastore, 0, 0, .null, []),
  (75, .aload_n 0, 0, 0, .null, []),
  (76, .dup, 0, 0, .null, []),
  (77, .getfield 201, 8, 15, .null, []),
  (80, .iconst 1, 0, 0, .int 1, []),
  (81, .iadd, 0, 0, .null, []),
  (82, .putfield 201, 8, 15, .null, []),
  (85, .iinc 4 1, 4, 0, .null, []),
  (88, .goto (-70), 10, 0, .null, []),
  (91, .aload_n 0, 0, 0, .null, []),
  (92, .getfield 201, 8, 15, .null, []),
  (95, .ireturn, 0, 0, .null, [])])
def mX8_trim : pM := (⟨RX8, "trim", "(I)I"⟩, prog_10_method_63_code, 2, (some FieldType.int), 1, 8, [(0, .iload_n 1, 1, 0, .null, []),
  (1, .i2l, 0, 0, .null, []),
  (2, .lconst 0, 0, 0, .long 0, []),
  (3, .aload_n 0, 0, 0, .null, []),
  (4, .getfield 201, 8, 15, .null, []),
  (7, .i2l, 0, 0, .null, []),
  (8, .invokestatic 68, 143, 3, .null, []),
  (11, .ifCond .ne 6, 10, 0, .null, []),
  (14, .ldc 83, 0, 0, .int (-1000000001), []),
  (16, .ireturn, 0, 0, .null, []),
  (17, .aload_n 0, 0, 0, .null, []),
  (18, .iload_n 1, 1, 0, .null, []),
  (19, .putfield 201, 8, 15, .null, []),
  (22, .iload_n 1, 1, 0, .null, []),
  (23, .ireturn, 0, 0, .null, [])])
def mX8_isLetter : pM := (⟨RX8, "isLetter", "(I)Z"⟩, prog_10_method_64_code, 2, (some FieldType.boolean), 1, 8, [(0, .iload_n 1, 1, 0, .null, []),
  (1, .aload_n 0, 0, 0, .null, []),
  (2, .getfield 201, 8, 15, .null, []),
  (5, .if_icmp .ge 26, 15, 0, .null, []),
  (8, .aload_n 0, 0, 0, .null, []),
  (9, .getfield 49, 8, 14, .null, []),
  (12, .iload_n 1, 1, 0, .null, []),
  (13, .iaload, 0, 0, .null, []),
  (14, .i2l, 0, 0, .null, []),
  (15, .ldc2_w 205, 0, 0, .long 97, []),
  (18, .ldc2_w 207, 0, 0, .long 122, []),
  (21, .invokestatic 68, 143, 3, .null, []),
  (24, .ifCond .eq 7, 15, 0, .null, []),
  (27, .iconst 1, 0, 0, .int 1, []),
  (28, .goto 4, 16, 0, .null, []),
  (31, .iconst 0, 0, 0, .int 0, []),
  (32, .ireturn, 0, 0, .null, [])])
def mX8_isDigit : pM := (⟨RX8, "isDigit", "(I)Z"⟩, prog_10_method_65_code, 2, (some FieldType.boolean), 1, 8, [(0, .iload_n 1, 1, 0, .null, []),
  (1, .aload_n 0, 0, 0, .null, []),
  (2, .getfield 201, 8, 15, .null, []),
  (5, .if_icmp .ge 26, 15, 0, .null, []),
  (8, .aload_n 0, 0, 0, .null, []),
  (9, .getfield 49, 8, 14, .null, []),
  (12, .iload_n 1, 1, 0, .null, []),
  (13, .iaload, 0, 0, .null, []),
  (14, .i2l, 0, 0, .null, []),
  (15, .ldc2_w 209, 0, 0, .long 48, []),
  (18, .ldc2_w 211, 0, 0, .long 57, []),
  (21, .invokestatic 68, 143, 3, .null, []),
  (24, .ifCond .eq 7, 15, 0, .null, []),
  (27, .iconst 1, 0, 0, .int 1, []),
  (28, .goto 4, 16, 0, .null, []),
  (31, .iconst 0, 0, 0, .int 0, []),
  (32, .ireturn, 0, 0, .null, [])])
def mX8_nextToken : pM := (⟨RX8, "nextToken", "()V"⟩, prog_10_method_66_code, 3, none, 1, 8, [(0, .aload_n 0, 0, 0, .null, []),
  (1, .getfield 213, 8, 17, .null, []),
  (4, .ifCond .le 23, 13, 0, .null, []),
  (7, .aload_n 0, 0, 0, .null, []),
  (8, .getfield 216, 8, 18, .null, []),
  (11, .iconst 1, 0, 0, .int 1, []),
  (12, .if_icmp .eq 11, 11, 0, .null, []),
  (15, .aload_n 0, 0, 0, .null, []),
  (16, .getfield 216, 8, 18, .null, []),
  (19, .iconst 2, 0, 0, .int 2, []),
  (20, .if_icmp .ne 7, 13, 0, .null, []),
  (23, .iconst 1, 0, 0, .int 1, []),
  (24, .goto 4, 14, 0, .null, []),
  (27, .iconst 0, 0, 0, .int 0, []),
  (28, .istore_n 1, 1, 0, .null, []),
  (29, .aload_n 0, 0, 0, .null, []),
  (30, .getfield 213, 8, 17, .null, []),
  (33, .istore_n 2, 2, 0, .null, []),
  (34, .aload_n 0, 0, 0, .null, []),
  (35, .getfield 213, 8, 17, .null, []),
  (38, .aload_n 0, 0, 0, .null, []),
  (39, .getfield 201, 8, 15, .null, []),
  (42, .if_icmp .ge 30, 37, 0, .null, []),
  (45, .aload_n 0, 0, 0, .null, []),
  (46, .getfield 49, 8, 14, .null, []),
  (49, .aload_n 0, 0, 0, .null, []),
  (50, .getfield 213, 8, 17, .null, []),
  (53, .iaload, 0, 0, .null, []),
  (54, .bipush 32, 0, 0, .int 32, []),
  (56, .if_icmp .ne 16, 37, 0, .null, []),
  (59, .aload_n 0, 0, 0, .null, []),
  (60, .dup, 0, 0, .null, []),
  (61, .getfield 213, 8, 17, .null, []),
  (64, .iconst 1, 0, 0, .int 1, []),
  (65, .iadd, 0, 0, .null, []),
  (66, .putfield 213, 8, 17, .null, []),
  (69, .goto (-35), 18, 0, .null, []),
  (72, .iload_n 1, 1, 0, .null, []),
  (73, .ifCond .eq 15, 45, 0, .null, []),
  (76, .iload_n 2, 2, 0, .null, []),
  (77, .aload_n 0, 0, 0, .null, []),
  (78, .getfield 213, 8, 17, .null, []),
  (81, .if_icmp .ne 7, 45, 0, .null, []),
  (84, .iconst 1, 0, 0, .int 1, []),
  (85, .goto 4, 46, 0, .null, []),
  (88, .iconst 0, 0, 0, .int 0, []),
  (89, .istore_n 1, 1, 0, .null, []),
  (90, .aload_n 0, 0, 0, .null, []),
  (91, .aload_n 0, 0, 0, .null, []),
  (92, .getfield 213, 8, 17, .null, []),
  (95, .putfield 219, 8, 16, .null, []),
  (98, .aload_n 0, 0, 0, .null, []),
  (99, .getfield 219, 8, 16, .null, []),
  (102, .aload_n 0, 0, 0, .null, []),
  (103, .getfield 201, 8, 15, .null, []),
  (106, .if_icmp .ne 11, 60, 0, .null, []),
  (109, .aload_n 0, 0, 0, .null, []),
  (110, .iconst 0, 0, 0, .int 0, []),
  (111, .putfield 216, 8, 18, .null, []),
  (114, .goto 225, 176, 0, .null, []),
  (117, .aload_n 0, 0, 0, .null, []),
  (118, .aload_n 0, 0, 0, .null, []),
  (119, .getfield 219, 8, 16, .null, []),
  (122, .invokevirtual 222, 205, 1, .null, []),
  (125, .ifCond .eq 73, 101, 0, .null, []),
  (128, .aload_n 0, 0, 0, .null, []),
  (129, .aload_n 0, 0, 0, .null, []),
  (130, .getfield 213, 8, 17, .null, []),
  (133, .invokevirtual 222, 205, 1, .null, []),
  (136, .ifCond .eq 16, 77, 0, .null, []),
  (139, .aload_n 0, 0, 0, .null, []),
  (140, .dup, 0, 0, .null, []),
  (141, .getfield 213, 8, 17, .null, []),
  (144, .iconst 1, 0, 0, .int 1, []),
  (145, .iadd, 0, 0, .null, []),
  (146, .putfield 213, 8, 17, .null, []),
  (149, .goto (-21), 65, 0, .null, []),
  (152, .aload_n 0, 0, 0, .null, []),
  (153, .iload_n 1, 1, 0, .null, []),
  (154, .ifCond .eq 7, 82, 0, .null, []),
  (157, .iconst 4, 0, 0, .int 4, []),
  (158, .goto 4, 83, 0, .null, []),
  (161, .iconst 1, 0, 0, .int 1, []),
  (162, .putfield 216, 8, 18, .null, []),
  (165, .aload_n 0, 0, 0, .null, []),
  (166, .aload_n 0, 0, 0, .null, []),
  (167, .getfield 213, 8, 17, .null, []),
  (170, .aload_n 0, 0, 0, .null, []),
  (171, .getfield 219, 8, 16, .null, []),
  (174, .isub, 0, 0, .null, []),
  (175, .iconst 1, 0, 0, .int 1, []),
  (176, .if_icmp .ne 15, 98, 0, .null, []),
  (179, .aload_n 0, 0, 0, .null, []),
  (180, .getfield 49, 8, 14, .null, []),
  (183, .aload_n 0, 0, 0, .null, []),
  (184, .getfield 219, 8, 16, .null, []),
  (187, .iaload, 0, 0, .null, []),
  (188, .goto 4, 99, 0, .null, []),
  (191, .iconst 0, 0, 0, .int 0, []),
  (192, .putfield 225, 8, 20, .null, []),
  (195, .goto 144, 176, 0, .null, []),
  (198, .aload_n 0, 0, 0, .null, []),
  (199, .aload_n 0, 0, 0, .null, []),
  (200, .getfield 219, 8, 16, .null, []),
  (203, .invokevirtual 228, 206, 1, .null, []),
  (206, .ifCond .eq 105, 160, 0, .null, []),
  (209, .aload_n 0, 0, 0, .null, []),
  (210, .iconst 0, 0, 0, .int 0, []),
  (211, .putfield 231, 8, 19, .null, []),
  (214, .aload_n 0, 0, 0, .null, []),
  (215, .aload_n 0, 0, 0, .null, []),
  (216, .getfield 213, 8, 17, .null, []),
  (219, .invokevirtual 228, 206, 1, .null, []),
  (222, .ifCond .eq 60, 145, 0, .null, []),
  (225, .aload_n 0, 0, 0, .null, []),
  (226, .aload_n 0, 0, 0, .null, []),
  (227, .getfield 213, 8, 17, .null, []),
  (230, .aload_n 0, 0, 0, .null, []),
  (231, .getfield 219, 8, 16, .null, []),
  (234, .isub, 0, 0, .null, []),
  (235, .iconst 4, 0, 0, .int 4, []),
  (236, .if_icmp .ge 26, 135, 0, .null, []),
  (239, .bipush 10, 0, 0, .int 10, []),
  (241, .aload_n 0, 0, 0, .null, []),
  (242, .getfield 231, 8, 19, .null, []),
  (245, .imul, 0, 0, .null, []),
  (246, .aload_n 0, 0, 0, .null, []),
  (247, .getfield 49, 8, 14, .null, []),
  (250, .aload_n 0, 0, 0, .null, []),
  (251, .getfield 213, 8, 17, .null, []),
  (254, .iaload, 0, 0, .null, []),
  (255, .iadd, 0, 0, .null, []),
  (256, .bipush 48, 0, 0, .int 48, []),
  (258, .isub, 0, 0, .null, []),
  (259, .goto 7, 137, 0, .null, []),
  (262, .aload_n 0, 0, 0, .null, []),
  (263, .getfield 231, 8, 19, .null, []),
  (266, .putfield 231, 8, 19, .null, []),
  (269, .aload_n 0, 0, 0, .null, []),
  (270, .dup, 0, 0, .null, []),
  (271, .getfield 213, 8, 17, .null, []),
  (274, .iconst 1, 0, 0, .int 1, []),
  (275, .iadd, 0, 0, .null, []),
  (276, .putfield 213, 8, 17, .null, []),
  (279, .goto (-65), 109, 0, .null, []),
  (282, .aload_n 0, 0, 0, .null, []),
  (283, .iload_n 1, 1, 0, .null, []),
  (284, .ifCond .ne 16, 155, 0, .null, []),
  (287, .aload_n 0, 0, 0, .null, []),
  (288, .getfield 213, 8, 17, .null, []),
  (291, .aload_n 0, 0, 0, .null, []),
  (292, .getfield 219, 8, 16, .null, []),
  (295, .isub, 0, 0, .null, []),
  (296, .iconst 4, 0, 0, .int 4, []),
  (297, .if_icmp .le 7, 157, 0, .null, []),
  (300, .iconst 4, 0, 0, .int 4, []),
  (301, .goto 4, 158, 0, .null, []),
  (304, .iconst 2, 0, 0, .int 2, []),
  (305, .putfield 216, 8, 18, .null, []),
  (308, .goto 31, 176, 0, .null, []),
  (311, .aload_n 0, 0, 0, .null, []),
  (312, .iconst 3, 0, 0, .int 3, []),
  (313, .putfield 216, 8, 18, .null, []),
  (316, .aload_n 0, 0, 0, .null, []),
  (317, .aload_n 0, 0, 0, .null, []),
  (318, .getfield 49, 8, 14, .null, []),
  (321, .aload_n 0, 0, 0, .null, []),
  (322, .getfield 219, 8, 16, .null, []),
  (325, .iaload, 0, 0, .null, []),
  (326, .putfield 225, 8, 20, .null, []),
  (329, .aload_n 0, 0, 0, .null, []),
  (330, .dup, 0, 0, .null, []),
  (331, .getfield 213, 8, 17, .null, []),
  (334, .iconst 1, 0, 0, .int 1, []),
  (335, .iadd, 0, 0, .null, []),
  (336, .putfield 213, 8, 17, .null, []),
  (339, .return_, 0, 0, .null, [])])
def mX8_isSign : pM := (⟨RX8, "isSign", "(I)Z"⟩, prog_10_method_67_code, 2, (some FieldType.boolean), 1, 8, [(0, .aload_n 0, 0, 0, .null, []),
  (1, .getfield 216, 8, 18, .null, []),
  (4, .iconst 3, 0, 0, .int 3, []),
  (5, .if_icmp .ne 15, 10, 0, .null, []),
  (8, .aload_n 0, 0, 0, .null, []),
  (9, .getfield 225, 8, 20, .null, []),
  (12, .iload_n 1, 1, 0, .null, []),
  (13, .if_icmp .ne 7, 10, 0, .null, []),
  (16, .iconst 1, 0, 0, .int 1, []),
  (17, .goto 4, 11, 0, .null, []),
  (20, .iconst 0, 0, 0, .int 0, []),
  (21, .ireturn, 0, 0, .null, [])])
def mX8_isWordAt : pM := (⟨RX8, "isWordAt", "(IIII)Z"⟩, prog_10_method_68_code, 6, (some FieldType.boolean), 1, 8, [(0, .iload 4, 4, 0, .null, []),
  (2, .ifCond .ne 7, 4, 0, .null, []),
  (5, .iconst 3, 0, 0, .int 3, []),
  (6, .goto 4, 5, 0, .null, []),
  (9, .iconst 4, 0, 0, .int 4, []),
  (10, .istore 5, 5, 0, .null, []),
  (12, .aload_n 0, 0, 0, .null, []),
  (13, .getfield 216, 8, 18, .null, []),
  (16, .iconst 1, 0, 0, .int 1, []),
  (17, .if_icmp .ne 85, 55, 0, .null, []),
  (20, .aload_n 0, 0, 0, .null, []),
  (21, .getfield 213, 8, 17, .null, []),
  (24, .aload_n 0, 0, 0, .null, []),
  (25, .getfield 219, 8, 16, .null, []),
  (28, .isub, 0, 0, .null, []),
  (29, .iload 5, 5, 0, .null, []),
  (31, .if_icmp .ne 71, 55, 0, .null, []),
  (34, .aload_n 0, 0, 0, .null, []),
  (35, .getfield 49, 8, 14, .null, []),
  (38, .aload_n 0, 0, 0, .null, []),
  (39, .getfield 219, 8, 16, .null, []),
  (42, .iaload, 0, 0, .null, []),
  (43, .iload_n 1, 1, 0, .null, []),
  (44, .if_icmp .ne 58, 55, 0, .null, []),
  (47, .aload_n 0, 0, 0, .null, []),
  (48, .getfield 49, 8, 14, .null, []),
  (51, .aload_n 0, 0, 0, .null, []),
  (52, .getfield 219, 8, 16, .null, []),
  (55, .iconst 1, 0, 0, .int 1, []),
  (56, .iadd, 0, 0, .null, []),
  (57, .iaload, 0, 0, .null, []),
  (58, .iload_n 2, 2, 0, .null, []),
  (59, .if_icmp .ne 43, 55, 0, .null, []),
  (62, .aload_n 0, 0, 0, .null, []),
  (63, .getfield 49, 8, 14, .null, []),
  (66, .aload_n 0, 0, 0, .null, []),
  (67, .getfield 219, 8, 16, .null, []),
  (70, .iconst 2, 0, 0, .int 2, []),
  (71, .iadd, 0, 0, .null, []),
  (72, .iaload, 0, 0, .null, []),
  (73, .iload_n 3, 3, 0, .null, []),
  (74, .if_icmp .ne 28, 55, 0, .null, []),
  (77, .iload 4, 4, 0, .null, []),
  (79, .ifCond .eq 19, 53, 0, .null, []),
  (82, .aload_n 0, 0, 0, .null, []),
  (83, .getfield 49, 8, 14, .null, []),
  (86, .aload_n 0, 0, 0, .null, []),
  (87, .getfield 219, 8, 16, .null, []),
  (90, .iconst 3, 0, 0, .int 3, []),
  (91, .iadd, 0, 0, .null, []),
  (92, .iaload, 0, 0, .null, []),
  (93, .iload 4, 4, 0, .null, []),
  (95, .if_icmp .ne 7, 55, 0, .null, []),
  (98, .iconst 1, 0, 0, .int 1, []),
  (99, .goto 4, 56, 0, .null, []),
  (102, .iconst 0, 0, 0, .int 0, []),
  (103, .ireturn, 0, 0, .null, [])])
def mX8_key : pM := (⟨RX8, "key", "()I"⟩, prog_10_method_69_code, 1, (some FieldType.int), 1, 8, [(0, .aload_n 0, 0, 0, .null, []),
  (1, .bipush 103, 0, 0, .int 103, []),
  (3, .bipush 97, 0, 0, .int 97, []),
  (5, .bipush 105, 0, 0, .int 105, []),
  (7, .bipush 110, 0, 0, .int 110, []),
  (9, .invokevirtual 234, 209, 4, .null, []),
  (12, .ifCond .eq 5, 9, 0, .null, []),
  (15, .iconst 0, 0, 0, .int 0, []),
  (16, .ireturn, 0, 0, .null, []),
  (17, .aload_n 0, 0, 0, .null, []),
  (18, .bipush 102, 0, 0, .int 102, []),
  (20, .bipush 101, 0, 0, .int 101, []),
  (22, .bipush 101, 0, 0, .int 101, []),
  (24, .iconst 0, 0, 0, .int 0, []),
  (25, .invokevirtual 234, 209, 4, .null, []),
  (28, .ifCond .eq 5, 18, 0, .null, []),
  (31, .iconst 1, 0, 0, .int 1, []),
  (32, .ireturn, 0, 0, .null, []),
  (33, .aload_n 0, 0, 0, .null, []),
  (34, .bipush 102, 0, 0, .int 102, []),
  (36, .bipush 105, 0, 0, .int 105, []),
  (38, .bipush 110, 0, 0, .int 110, []),
  (40, .bipush 101, 0, 0, .int 101, []),
  (42, .invokevirtual 234, 209, 4, .null, []),
  (45, .ifCond .eq 7, 27, 0, .null, []),
  (48, .iconst 2, 0, 0, .int 2, []),
  (49, .goto 4, 28, 0, .null, []),
  (52, .iconst (-1), 0, 0, .int (-1), []),
  (53, .ireturn, 0, 0, .null, [])])
def mX8_isName : pM := (⟨RX8, "isName", "(II)Z"⟩, prog_10_method_70_code, 2, (some FieldType.boolean), 0, 8, [(0, .iload_n 0, 0, 0, .null, []),
  (1, .lookupswitch 69 #[(0, 27), (1, 51)], 25, 27, .null, [2, 15]),
  (28, .iload_n 1, 1, 0, .null, []),
  (29, .bipush 116, 0, 0, .int 116, []),
  (31, .if_icmp .eq 15, 11, 0, .null, []),
  (34, .iload_n 1, 1, 0, .null, []),
  (35, .bipush 115, 0, 0, .int 115, []),
  (37, .if_icmp .eq 9, 11, 0, .null, []),
  (40, .iload_n 1, 1, 0, .null, []),
  (41, .bipush 108, 0, 0, .int 108, []),
  (43, .if_icmp .ne 7, 13, 0, .null, []),
  (46, .iconst 1, 0, 0, .int 1, []),
  (47, .goto 4, 14, 0, .null, []),
  (50, .iconst 0, 0, 0, .int 0, []),
  (51, .ireturn, 0, 0, .null, []),
  (52, .iload_n 1, 1, 0, .null, []),
  (53, .bipush 110, 0, 0, .int 110, []),
  (55, .if_icmp .eq 9, 21, 0, .null, []),
  (58, .iload_n 1, 1, 0, .null, []),
  (59, .bipush 102, 0, 0, .int 102, []),
  (61, .if_icmp .ne 7, 23, 0, .null, []),
  (64, .iconst 1, 0, 0, .int 1, []),
  (65, .goto 4, 24, 0, .null, []),
  (68, .iconst 0, 0, 0, .int 0, []),
  (69, .ireturn, 0, 0, .null, []),
  (70, .iload_n 1, 1, 0, .null, []),
  (71, .bipush 116, 0, 0, .int 116, []),
  (73, .if_icmp .eq 9, 31, 0, .null, []),
  (76, .iload_n 1, 1, 0, .null, []),
  (77, .bipush 115, 0, 0, .int 115, []),
  (79, .if_icmp .ne 7, 33, 0, .null, []),
  (82, .iconst 1, 0, 0, .int 1, []),
  (83, .goto 4, 34, 0, .null, []),
  (86, .iconst 0, 0, 0, .int 0, []),
  (87, .ireturn, 0, 0, .null, [])])
def mX8_step : pM := (⟨RX8, "step", "(II)V"⟩, prog_10_method_71_code, 3, none, 1, 8, [(0, .aload_n 0, 0, 0, .null, []),
  (1, .getfield 7, 8, 0, .null, []),
  (4, .aload_n 0, 0, 0, .null, []),
  (5, .getfield 238, 8, 24, .null, []),
  (8, .iconst 2, 0, 0, .int 2, []),
  (9, .aload_n 0, 0, 0, .null, []),
  (10, .getfield 241, 8, 23, .null, []),
  (13, .imul, 0, 0, .null, []),
  (14, .iadd, 0, 0, .null, []),
  (15, .iload_n 1, 1, 0, .null, []),
  (16, .iastore, 0, 0, .null, []),
  (17, .aload_n 0, 0, 0, .null, []),
  (18, .getfield 7, 8, 0, .null, []),
  (21, .aload_n 0, 0, 0, .null, []),
  (22, .getfield 238, 8, 24, .null, []),
  (25, .iconst 2, 0, 0, .int 2, []),
  (26, .aload_n 0, 0, 0, .null, []),
  (27, .getfield 241, 8, 23, .null, []),
  (30, .imul, 0, 0, .null, []),
  (31, .iadd, 0, 0, .null, []),
  (32, .iconst 1, 0, 0, .int 1, []),
  (33, .iadd, 0, 0, .null, []),
  (34, .iload_n 2, 2, 0, .null, []),
  (35, .iastore, 0, 0, .null, []),
  (36, .aload_n 0, 0, 0, .null, []),
  (37, .dup, 0, 0, .null, []),
  (38, .getfield 241, 8, 23, .null, []),
  (41, .iconst 1, 0, 0, .int 1, []),
  (42, .iadd, 0, 0, .null, []),
  (43, .putfield 241, 8, 23, .null, []),
  (46, .return_, 0, 0, .null, [])])
def mX8_either : pM := (⟨RX8, "either", "(I)Z"⟩, prog_10_method_72_code, 2, (some FieldType.boolean), 1, 8, [(0, .aload_n 0, 0, 0, .null, []),
  (1, .iload_n 1, 1, 0, .null, []),
  (2, .invokevirtual 244, 214, 1, .null, []),
  (5, .ifCond .ne 5, 6, 0, .null, []),
  (8, .iconst 0, 0, 0, .int 0, []),
  (9, .ireturn, 0, 0, .null, []),
  (10, .aload_n 0, 0, 0, .null, []),
  (11, .bipush 124, 0, 0, .int 124, []),
  (13, .invokevirtual 247, 208, 1, .null, []),
  (16, .ifCond .eq 27, 23, 0, .null, []),
  (19, .aload_n 0, 0, 0, .null, []),
  (20, .invokevirtual 250, 207, 0, .null, []),
  (23, .aload_n 0, 0, 0, .null, []),
  (24, .iload_n 1, 1, 0, .null, []),
  (25, .invokevirtual 244, 214, 1, .null, []),
  (28, .ifCond .ne 5, 18, 0, .null, []),
  (31, .iconst 0, 0, 0, .int 0, []),
  (32, .ireturn, 0, 0, .null, []),
  (33, .aload_n 0, 0, 0, .null, []),
  (34, .iconst 2, 0, 0, .int 2, []),
  (35, .bipush 124, 0, 0, .int 124, []),
  (37, .invokevirtual 253, 212, 2, .null, []),
  (40, .goto (-30), 6, 0, .null, []),
  (43, .iconst 1, 0, 0, .int 1, []),
  (44, .ireturn, 0, 0, .null, [])])
def mX8_both : pM := (⟨RX8, "both", "(I)Z"⟩, prog_10_method_73_code, 2, (some FieldType.boolean), 1, 8, [(0, .aload_n 0, 0, 0, .null, []),
  (1, .iload_n 1, 1, 0, .null, []),
  (2, .invokevirtual 257, 215, 1, .null, []),
  (5, .ifCond .ne 5, 6, 0, .null, []),
  (8, .iconst 0, 0, 0, .int 0, []),
  (9, .ireturn, 0, 0, .null, []),
  (10, .aload_n 0, 0, 0, .null, []),
  (11, .bipush 38, 0, 0, .int 38, []),
  (13, .invokevirtual 247, 208, 1, .null, []),
  (16, .ifCond .eq 27, 23, 0, .null, []),
  (19, .aload_n 0, 0, 0, .null, []),
  (20, .invokevirtual 250, 207, 0, .null, []),
  (23, .aload_n 0, 0, 0, .null, []),
  (24, .iload_n 1, 1, 0, .null, []),
  (25, .invokevirtual 257, 215, 1, .null, []),
  (28, .ifCond .ne 5, 18, 0, .null, []),
  (31, .iconst 0, 0, 0, .int 0, []),
  (32, .ireturn, 0, 0, .null, []),
  (33, .aload_n 0, 0, 0, .null, []),
  (34, .iconst 2, 0, 0, .int 2, []),
  (35, .bipush 38, 0, 0, .int 38, []),
  (37, .invokevirtual 253, 212, 2, .null, []),
  (40, .goto (-30), 6, 0, .null, []),
  (43, .iconst 1, 0, 0, .int 1, []),
  (44, .ireturn, 0, 0, .null, [])])
def mX8_test : pM := (⟨RX8, "test", "(I)Z"⟩, prog_10_method_74_code, 3, (some FieldType.boolean), 1, 8, [(0, .aload_n 0, 0, 0, .null, []),
  (1, .iload_n 1, 1, 0, .null, []),
  (2, .invokevirtual 260, 216, 1, .null, []),
  (5, .ifCond .ne 5, 6, 0, .null, []),
  (8, .iconst 0, 0, 0, .int 0, []),
  (9, .ireturn, 0, 0, .null, []),
  (10, .aload_n 0, 0, 0, .null, []),
  (11, .bipush 60, 0, 0, .int 60, []),
  (13, .invokevirtual 247, 208, 1, .null, []),
  (16, .ifCond .ne 21, 18, 0, .null, []),
  (19, .aload_n 0, 0, 0, .null, []),
  (20, .bipush 61, 0, 0, .int 61, []),
  (22, .invokevirtual 247, 208, 1, .null, []),
  (25, .ifCond .ne 12, 18, 0, .null, []),
  (28, .aload_n 0, 0, 0, .null, []),
  (29, .bipush 62, 0, 0, .int 62, []),
  (31, .invokevirtual 247, 208, 1, .null, []),
  (34, .ifCond .eq 28, 33, 0, .null, []),
  (37, .aload_n 0, 0, 0, .null, []),
  (38, .getfield 225, 8, 20, .null, []),
  (41, .istore_n 2, 2, 0, .null, []),
  (42, .aload_n 0, 0, 0, .null, []),
  (43, .invokevirtual 250, 207, 0, .null, []),
  (46, .aload_n 0, 0, 0, .null, []),
  (47, .iload_n 1, 1, 0, .null, []),
  (48, .invokevirtual 260, 216, 1, .null, []),
  (51, .ifCond .ne 5, 29, 0, .null, []),
  (54, .iconst 0, 0, 0, .int 0, []),
  (55, .ireturn, 0, 0, .null, []),
  (56, .aload_n 0, 0, 0, .null, []),
  (57, .iconst 2, 0, 0, .int 2, []),
  (58, .iload_n 2, 2, 0, .null, []),
  (59, .invokevirtual 253, 212, 2, .null, []),
  (62, .iconst 1, 0, 0, .int 1, []),
  (63, .ireturn, 0, 0, .null, [])])
def mX8_sum : pM := (⟨RX8, "sum", "(I)Z"⟩, prog_10_method_75_code, 3, (some FieldType.boolean), 1, 8, [(0, .aload_n 0, 0, 0, .null, []),
  (1, .iload_n 1, 1, 0, .null, []),
  (2, .invokevirtual 263, 217, 1, .null, []),
  (5, .ifCond .ne 5, 6, 0, .null, []),
  (8, .iconst 0, 0, 0, .int 0, []),
  (9, .ireturn, 0, 0, .null, []),
  (10, .aload_n 0, 0, 0, .null, []),
  (11, .bipush 43, 0, 0, .int 43, []),
  (13, .invokevirtual 247, 208, 1, .null, []),
  (16, .ifCond .ne 12, 14, 0, .null, []),
  (19, .aload_n 0, 0, 0, .null, []),
  (20, .bipush 45, 0, 0, .int 45, []),
  (22, .invokevirtual 247, 208, 1, .null, []),
  (25, .ifCond .eq 31, 30, 0, .null, []),
  (28, .aload_n 0, 0, 0, .null, []),
  (29, .getfield 225, 8, 20, .null, []),
  (32, .istore_n 2, 2, 0, .null, []),
  (33, .aload_n 0, 0, 0, .null, []),
  (34, .invokevirtual 250, 207, 0, .null, []),
  (37, .aload_n 0, 0, 0, .null, []),
  (38, .iload_n 1, 1, 0, .null, []),
  (39, .invokevirtual 263, 217, 1, .null, []),
  (42, .ifCond .ne 5, 25, 0, .null, []),
  (45, .iconst 0, 0, 0, .int 0, []),
  (46, .ireturn, 0, 0, .null, []),
  (47, .aload_n 0, 0, 0, .null, []),
  (48, .iconst 2, 0, 0, .int 2, []),
  (49, .iload_n 2, 2, 0, .null, []),
  (50, .invokevirtual 253, 212, 2, .null, []),
  (53, .goto (-43), 6, 0, .null, []),
  (56, .iconst 1, 0, 0, .int 1, []),
  (57, .ireturn, 0, 0, .null, [])])
def mX8_term : pM := (⟨RX8, "term", "(I)Z"⟩, prog_10_method_76_code, 3, (some FieldType.boolean), 1, 8, [(0, .aload_n 0, 0, 0, .null, []),
  (1, .iload_n 1, 1, 0, .null, []),
  (2, .invokevirtual 266, 218, 1, .null, []),
  (5, .ifCond .ne 5, 6, 0, .null, []),
  (8, .iconst 0, 0, 0, .int 0, []),
  (9, .ireturn, 0, 0, .null, []),
  (10, .aload_n 0, 0, 0, .null, []),
  (11, .bipush 42, 0, 0, .int 42, []),
  (13, .invokevirtual 247, 208, 1, .null, []),
  (16, .ifCond .ne 12, 14, 0, .null, []),
  (19, .aload_n 0, 0, 0, .null, []),
  (20, .bipush 47, 0, 0, .int 47, []),
  (22, .invokevirtual 247, 208, 1, .null, []),
  (25, .ifCond .eq 31, 30, 0, .null, []),
  (28, .aload_n 0, 0, 0, .null, []),
  (29, .getfield 225, 8, 20, .null, []),
  (32, .istore_n 2, 2, 0, .null, []),
  (33, .aload_n 0, 0, 0, .null, []),
  (34, .invokevirtual 250, 207, 0, .null, []),
  (37, .aload_n 0, 0, 0, .null, []),
  (38, .iload_n 1, 1, 0, .null, []),
  (39, .invokevirtual 266, 218, 1, .null, []),
  (42, .ifCond .ne 5, 25, 0, .null, []),
  (45, .iconst 0, 0, 0, .int 0, []),
  (46, .ireturn, 0, 0, .null, []),
  (47, .aload_n 0, 0, 0, .null, []),
  (48, .iconst 2, 0, 0, .int 2, []),
  (49, .iload_n 2, 2, 0, .null, []),
  (50, .invokevirtual 253, 212, 2, .null, []),
  (53, .goto (-43), 6, 0, .null, []),
  (56, .iconst 1, 0, 0, .int 1, []),
  (57, .ireturn, 0, 0, .null, [])])
def mX8_part0 : pM := (⟨RX8, "part0", "(I)Z"⟩, prog_10_method_77_code, 2, (some FieldType.boolean), 1, 8, [(0, .aload_n 0, 0, 0, .null, []),
  (1, .getfield 216, 8, 18, .null, []),
  (4, .iconst 2, 0, 0, .int 2, []),
  (5, .if_icmp .ne 28, 19, 0, .null, []),
  (8, .aload_n 0, 0, 0, .null, []),
  (9, .iconst 0, 0, 0, .int 0, []),
  (10, .aload_n 0, 0, 0, .null, []),
  (11, .getfield 231, 8, 19, .null, []),
  (14, .invokevirtual 253, 212, 2, .null, []),
  (17, .aload_n 0, 0, 0, .null, []),
  (18, .dup, 0, 0, .null, []),
  (19, .getfield 269, 8, 25, .null, []),
  (22, .iconst 1, 0, 0, .int 1, []),
  (23, .iadd, 0, 0, .null, []),
  (24, .putfield 269, 8, 25, .null, []),
  (27, .aload_n 0, 0, 0, .null, []),
  (28, .invokevirtual 250, 207, 0, .null, []),
  (31, .iconst 1, 0, 0, .int 1, []),
  (32, .ireturn, 0, 0, .null, []),
  (33, .aload_n 0, 0, 0, .null, []),
  (34, .getfield 216, 8, 18, .null, []),
  (37, .iconst 1, 0, 0, .int 1, []),
  (38, .if_icmp .ne 46, 46, 0, .null, []),
  (41, .aload_n 0, 0, 0, .null, []),
  (42, .getfield 225, 8, 20, .null, []),
  (45, .ifCond .eq 39, 46, 0, .null, []),
  (48, .iload_n 1, 1, 0, .null, []),
  (49, .aload_n 0, 0, 0, .null, []),
  (50, .getfield 225, 8, 20, .null, []),
  (53, .invokestatic 272, 211, 2, .null, []),
  (56, .ifCond .eq 28, 46, 0, .null, []),
  (59, .aload_n 0, 0, 0, .null, []),
  (60, .iconst 1, 0, 0, .int 1, []),
  (61, .aload_n 0, 0, 0, .null, []),
  (62, .getfield 225, 8, 20, .null, []),
  (65, .invokevirtual 253, 212, 2, .null, []),
  (68, .aload_n 0, 0, 0, .null, []),
  (69, .dup, 0, 0, .null, []),
  (70, .getfield 269, 8, 25, .null, []),
  (73, .iconst 1, 0, 0, .int 1, []),
  (74, .iadd, 0, 0, .null, []),
  (75, .putfield 269, 8, 25, .null, []),
  (78, .aload_n 0, 0, 0, .null, []),
  (79, .invokevirtual 250, 207, 0, .null, []),
  (82, .iconst 1, 0, 0, .int 1, []),
  (83, .ireturn, 0, 0, .null, []),
  (84, .aload_n 0, 0, 0, .null, []),
  (85, .bipush 33, 0, 0, .int 33, []),
  (87, .invokevirtual 247, 208, 1, .null, []),
  (90, .ifCond .eq 55, 80, 0, .null, []),
  (93, .aload_n 0, 0, 0, .null, []),
  (94, .getfield 275, 8, 22, .null, []),
  (97, .bipush 8, 0, 0, .int 8, []),
  (99, .if_icmp .ge 46, 80, 0, .null, []),
  (102, .aload_n 0, 0, 0, .null, []),
  (103, .dup, 0, 0, .null, []),
  (104, .getfield 275, 8, 22, .null, []),
  (107, .iconst 1, 0, 0, .int 1, []),
  (108, .iadd, 0, 0, .null, []),
  (109, .putfield 275, 8, 22, .null, []),
  (112, .aload_n 0, 0, 0, .null, []),
  (113, .invokevirtual 250, 207, 0, .null, []),
  (116, .aload_n 0, 0, 0, .null, []),
  (117, .iload_n 1, 1, 0, .null, []),
  (118, .invokevirtual 266, 218, 1, .null, []),
  (121, .ifCond .ne 5, 68, 0, .null, []),
  (124, .iconst 0, 0, 0, .int 0, []),
  (125, .ireturn, 0, 0, .null, []),
  (126, .aload_n 0, 0, 0, .null, []),
  (127, .dup, 0, 0, .null, []),
  (128, .getfield 275, 8, 22, .null, []),
  (131, .iconst 1, 0, 0, .int 1, []),
  (132, .isub, 0, 0, .null, []),
  (133, .putfield 275, 8, 22, .null, []),
  (136, .aload_n 0, 0, 0, .null, []),
  (137, .iconst 2, 0, 0, .int 2, []),
  (138, .bipush 33, 0, 0, .int 33, []),
  (140, .invokevirtual 253, 212, 2, .null, []),
  (143, .iconst 1, 0, 0, .int 1, []),
  (144, .ireturn, 0, 0, .null, []),
  (145, .aload_n 0, 0, 0, .null, []),
  (146, .bipush 40, 0, 0, .int 40, []),
  (148, .invokevirtual 247, 208, 1, .null, []),
  (151, .ifCond .eq 12, 88, 0, .null, []),
  (154, .aload_n 0, 0, 0, .null, []),
  (155, .getfield 278, 8, 21, .null, []),
  (158, .bipush 8, 0, 0, .int 8, []),
  (160, .if_icmp .ne 5, 90, 0, .null, []),
  (163, .iconst 0, 0, 0, .int 0, []),
  (164, .ireturn, 0, 0, .null, []),
  (165, .aload_n 0, 0, 0, .null, []),
  (166, .dup, 0, 0, .null, []),
  (167, .getfield 278, 8, 21, .null, []),
  (170, .iconst 1, 0, 0, .int 1, []),
  (171, .iadd, 0, 0, .null, []),
  (172, .putfield 278, 8, 21, .null, []),
  (175, .aload_n 0, 0, 0, .null, []),
  (176, .invokevirtual 250, 207, 0, .null, []),
  (179, .aload_n 0, 0, 0, .null, []),
  (180, .iload_n 1, 1, 0, .null, []),
  (181, .invokevirtual 281, 213, 1, .null, []),
  (184, .ifCond .eq 12, 106, 0, .null, []),
  (187, .aload_n 0, 0, 0, .null, []),
  (188, .bipush 41, 0, 0, .int 41, []),
  (190, .invokevirtual 247, 208, 1, .null, []),
  (193, .ifCond .ne 5, 108, 0, .null, []),
  (196, .iconst 0, 0, 0, .int 0, []),
  (197, .ireturn, 0, 0, .null, []),
  (198, .aload_n 0, 0, 0, .null, []),
  (199, .dup, 0, 0, .null, []),
  (200, .getfield 278, 8, 21, .null, []),
  (203, .iconst 1, 0, 0, .int 1, []),
  (204, .isub, 0, 0, .null, []),
  (205, .putfield 278, 8, 21, .null, []),
  (208, .aload_n 0, 0, 0, .null, []),
  (209, .invokevirtual 250, 207, 0, .null, []),
  (212, .iconst 1, 0, 0, .int 1, []),
  (213, .ireturn, 0, 0, .null, [])])
def mX8_parse : pM := (⟨RX8, "parse", "()I"⟩, prog_10_method_78_code, 3, (some FieldType.int), 1, 8, [(0, .aload_n 0, 0, 0, .null, []),
  (1, .iconst 0, 0, 0, .int 0, []),
  (2, .putfield 213, 8, 17, .null, []),
  (5, .aload_n 0, 0, 0, .null, []),
  (6, .iconst 3, 0, 0, .int 3, []),
  (7, .putfield 216, 8, 18, .null, []),
  (10, .aload_n 0, 0, 0, .null, []),
  (11, .iconst 0, 0, 0, .int 0, []),
  (12, .putfield 278, 8, 21, .null, []),
  (15, .aload_n 0, 0, 0, .null, []),
  (16, .iconst 0, 0, 0, .int 0, []),
  (17, .putfield 275, 8, 22, .null, []),
  (20, .aload_n 0, 0, 0, .null, []),
  (21, .iconst 0, 0, 0, .int 0, []),
  (22, .putfield 241, 8, 23, .null, []),
  (25, .aload_n 0, 0, 0, .null, []),
  (26, .iconst 0, 0, 0, .int 0, []),
  (27, .putfield 269, 8, 25, .null, []),
  (30, .aload_n 0, 0, 0, .null, []),
  (31, .aload_n 0, 0, 0, .null, []),
  (32, .getfield 7, 8, 0, .null, []),
  (35, .iconst 1, 0, 0, .int 1, []),
  (36, .iaload, 0, 0, .null, []),
  (37, .bipush 14, 0, 0, .int 14, []),
  (39, .if_icmp .ge 18, 34, 0, .null, []),
  (42, .aload_n 0, 0, 0, .null, []),
  (43, .aload_n 0, 0, 0, .null, []),
  (44, .getfield 7, 8, 0, .null, []),
  (47, .iconst 1, 0, 0, .int 1, []),
  (48, .iaload, 0, 0, .null, []),
  (49, .invokevirtual 284, 149, 1, .null, []),
  (52, .iconst 4, 0, 0, .int 4, []),
  (53, .iadd, 0, 0, .null, []),
  (54, .goto 6, 35, 0, .null, []),
  (57, .sipush 2875, 0, 0, .int 2875, []),
  (60, .putfield 238, 8, 24, .null, []),
  (63, .aload_n 0, 0, 0, .null, []),
  (64, .invokevirtual 250, 207, 0, .null, []),
  (67, .aload_n 0, 0, 0, .null, []),
  (68, .invokevirtual 287, 210, 0, .null, []),
  (71, .istore_n 1, 1, 0, .null, []),
  (72, .iload_n 1, 1, 0, .null, []),
  (73, .ifCond .lt 7, 45, 0, .null, []),
  (76, .iconst 1, 0, 0, .int 1, []),
  (77, .goto 4, 46, 0, .null, []),
  (80, .iconst 0, 0, 0, .int 0, []),
  (81, .istore_n 2, 2, 0, .null, []),
  (82, .iload_n 2, 2, 0, .null, []),
  (83, .ifCond .eq 28, 62, 0, .null, []),
  (86, .aload_n 0, 0, 0, .null, []),
  (87, .invokevirtual 250, 207, 0, .null, []),
  (90, .aload_n 0, 0, 0, .null, []),
  (91, .iload_n 1, 1, 0, .null, []),
  (92, .invokevirtual 281, 213, 1, .null, []),
  (95, .ifCond .eq 14, 60, 0, .null, []),
  (98, .aload_n 0, 0, 0, .null, []),
  (99, .getfield 216, 8, 18, .null, []),
  (102, .ifCond .ne 7, 60, 0, .null, []),
  (105, .iconst 1, 0, 0, .int 1, []),
  (106, .goto 4, 61, 0, .null, []),
  (109, .iconst 0, 0, 0, .int 0, []),
  (110, .istore_n 2, 2, 0, .null, []),
  (111, .aload_n 0, 0, 0, .null, []),
  (112, .iconst 0, 0, 0, .int 0, []),
  (113, .putfield 201, 8, 15, .null, []),
  (116, .iload_n 2, 2, 0, .null, []),
  (117, .ifCond .eq 7, 69, 0, .null, []),
  (120, .iload_n 1, 1, 0, .null, []),
  (121, .goto 4, 70, 0, .null, []),
  (124, .iconst (-1), 0, 0, .int (-1), []),
  (125, .ireturn, 0, 0, .null, [])])
def mX8_text : pM := (⟨RX8, "text", "()I"⟩, prog_10_method_79_code, 3, (some FieldType.int), 1, 8, [(0, .aload_n 0, 0, 0, .null, []),
  (1, .invokevirtual 290, 219, 0, .null, []),
  (4, .istore_n 1, 1, 0, .null, []),
  (5, .iload_n 1, 1, 0, .null, []),
  (6, .ifCond .ge 11, 10, 0, .null, []),
  (9, .bipush (-100), 0, 0, .int (-100), []),
  (11, .aload_n 0, 0, 0, .null, []),
  (12, .getfield 219, 8, 16, .null, []),
  (15, .isub, 0, 0, .null, []),
  (16, .ireturn, 0, 0, .null, []),
  (17, .aload_n 0, 0, 0, .null, []),
  (18, .getfield 7, 8, 0, .null, []),
  (21, .iconst 1, 0, 0, .int 1, []),
  (22, .iaload, 0, 0, .null, []),
  (23, .bipush 14, 0, 0, .int 14, []),
  (25, .if_icmp .ne 6, 18, 0, .null, []),
  (28, .ldc 84, 0, 0, .int (-1000000003), []),
  (30, .ireturn, 0, 0, .null, []),
  (31, .aload_n 0, 0, 0, .null, []),
  (32, .aload_n 0, 0, 0, .null, []),
  (33, .getfield 7, 8, 0, .null, []),
  (36, .iconst 1, 0, 0, .int 1, []),
  (37, .iaload, 0, 0, .null, []),
  (38, .invokevirtual 284, 149, 1, .null, []),
  (41, .istore_n 2, 2, 0, .null, []),
  (42, .aload_n 0, 0, 0, .null, []),
  (43, .getfield 7, 8, 0, .null, []),
  (46, .iload_n 2, 2, 0, .null, []),
  (47, .iconst 0, 0, 0, .int 0, []),
  (48, .iadd, 0, 0, .null, []),
  (49, .iload_n 1, 1, 0, .null, []),
  (50, .iastore, 0, 0, .null, []),
  (51, .aload_n 0, 0, 0, .null, []),
  (52, .getfield 7, 8, 0, .null, []),
  (55, .iload_n 2, 2, 0, .null, []),
  (56, .iconst 1, 0, 0, .int 1, []),
  (57, .iadd, 0, 0, .null, []),
  (58, .aload_n 0, 0, 0, .null, []),
  (59, .getfield 269, 8, 25, .null, []),
  (62, .iastore, 0, 0, .null, []),
  (63, .aload_n 0, 0, 0, .null, []),
  (64, .getfield 7, 8, 0, .null, []),
  (67, .iload_n 2, 2, 0, .null, []),
  (68, .iconst 2, 0, 0, .int 2, []),
  (69, .iadd, 0, 0, .null, []),
  (70, .aload_n 0, 0, 0, .null, []),
  (71, .getfield 241, 8, 23, .null, []),
  (74, .iastore, 0, 0, .null, []),
  (75, .aload_n 0, 0, 0, .null, []),
  (76, .getfield 7, 8, 0, .null, []),
  (79, .iconst 1, 0, 0, .int 1, []),
  (80, .dup2, 0, 0, .null, []),
  (81, .iaload, 0, 0, .null, []),
  (82, .iconst 1, 0, 0, .int 1, []),
  (83, .iadd, 0, 0, .null, []),
  (84, .iastore, 0, 0, .null, []),
  (85, .aload_n 0, 0, 0, .null, []),
  (86, .getfield 7, 8, 0, .null, []),
  (89, .iconst 1, 0, 0, .int 1, []),
  (90, .iaload, 0, 0, .null, []),
  (91, .iconst 1, 0, 0, .int 1, []),
  (92, .isub, 0, 0, .null, []),
  (93, .ireturn, 0, 0, .null, [])])
def mX8_textTold : pM := (⟨RX8, "textTold", "(II)I"⟩, prog_10_method_80_code, 3, (some FieldType.int), 1, 8, [(0, .aload_n 0, 0, 0, .null, []),
  (1, .iload_n 1, 1, 0, .null, []),
  (2, .invokevirtual 293, 153, 1, .null, []),
  (5, .ifCond .eq 13, 10, 0, .null, []),
  (8, .iload_n 2, 2, 0, .null, []),
  (9, .i2l, 0, 0, .null, []),
  (10, .lconst 0, 0, 0, .long 0, []),
  (11, .lconst 1, 0, 0, .long 1, []),
  (12, .invokestatic 68, 143, 3, .null, []),
  (15, .ifCond .ne 6, 12, 0, .null, []),
  (18, .ldc 83, 0, 0, .int (-1000000001), []),
  (20, .ireturn, 0, 0, .null, []),
  (21, .aload_n 0, 0, 0, .null, []),
  (22, .getfield 7, 8, 0, .null, []),
  (25, .aload_n 0, 0, 0, .null, []),
  (26, .iload_n 1, 1, 0, .null, []),
  (27, .invokevirtual 284, 149, 1, .null, []),
  (30, .iload_n 2, 2, 0, .null, []),
  (31, .iadd, 0, 0, .null, []),
  (32, .iaload, 0, 0, .null, []),
  (33, .ireturn, 0, 0, .null, [])])
def mX8_counts : pM := (⟨RX8, "counts", "(I)I"⟩, prog_10_method_81_code, 4, (some FieldType.int), 1, 8, [(0, .iconst (-1), 0, 0, .int (-1), []),
  (1, .istore_n 2, 2, 0, .null, []),
  (2, .iconst 0, 0, 0, .int 0, []),
  (3, .istore_n 3, 3, 0, .null, []),
  (4, .iload_n 3, 3, 0, .null, []),
  (5, .aload_n 0, 0, 0, .null, []),
  (6, .getfield 7, 8, 0, .null, []),
  (9, .iconst 1, 0, 0, .int 1, []),
  (10, .iaload, 0, 0, .null, []),
  (11, .if_icmp .ge 29, 24, 0, .null, []),
  (14, .aload_n 0, 0, 0, .null, []),
  (15, .getfield 7, 8, 0, .null, []),
  (18, .aload_n 0, 0, 0, .null, []),
  (19, .iload_n 3, 3, 0, .null, []),
  (20, .invokevirtual 284, 149, 1, .null, []),
  (23, .iaload, 0, 0, .null, []),
  (24, .iload_n 1, 1, 0, .null, []),
  (25, .if_icmp .ne 7, 20, 0, .null, []),
  (28, .iload_n 3, 3, 0, .null, []),
  (29, .goto 4, 21, 0, .null, []),
  (32, .iload_n 2, 2, 0, .null, []),
  (33, .istore_n 2, 2, 0, .null, []),
  (34, .iinc 3 1, 3, 0, .null, []),
  (37, .goto (-33), 4, 0, .null, []),
  (40, .iload_n 2, 2, 0, .null, []),
  (41, .ireturn, 0, 0, .null, [])])
def mX8_why : pM := (⟨RX8, "why", "(I)I"⟩, prog_10_method_82_code, 2, (some FieldType.int), 1, 8, [(0, .iload_n 1, 1, 0, .null, []),
  (1, .i2l, 0, 0, .null, []),
  (2, .lconst 0, 0, 0, .long 0, []),
  (3, .ldc2_w 296, 0, 0, .long 2, []),
  (6, .invokestatic 68, 143, 3, .null, []),
  (9, .ifCond .eq 14, 11, 0, .null, []),
  (12, .aload_n 0, 0, 0, .null, []),
  (13, .iload_n 1, 1, 0, .null, []),
  (14, .invokevirtual 96, 222, 1, .null, []),
  (17, .invokestatic 196, 144, 1, .null, []),
  (20, .goto 5, 12, 0, .null, []),
  (23, .ldc 83, 0, 0, .int (-1000000001), []),
  (25, .ireturn, 0, 0, .null, [])])
def mX8_joined : pM := (⟨RX8, "joined", "(III)I"⟩, prog_10_method_83_code, 3, (some FieldType.int), 0, 8, [(0, .iload_n 0, 0, 0, .null, []),
  (1, .tableswitch 196 38 62 #[182, 196, 196, 196, 123, 115, 196, 119, 196, 127, 196, 196, 196, 196, 196, 196, 196, 196, 196, 196, 196, 196, 149, 171, 160], 57, 115, .null, [49, 57, 57, 57, 10, 2, 57, 6, 57, 14, 57, 57, 57, 57, 57, 57, 57, 57, 57, 57, 57, 57, 28, 42, 35]),
  (116, .iload_n 1, 1, 0, .null, []),
  (117, .iload_n 2, 2, 0, .null, []),
  (118, .iadd, 0, 0, .null, []),
  (119, .ireturn, 0, 0, .null, []),
  (120, .iload_n 1, 1, 0, .null, []),
  (121, .iload_n 2, 2, 0, .null, []),
  (122, .isub, 0, 0, .null, []),
  (123, .ireturn, 0, 0, .null, []),
  (124, .iload_n 1, 1, 0, .null, []),
  (125, .iload_n 2, 2, 0, .null, []),
  (126, .imul, 0, 0, .null, []),
  (127, .ireturn, 0, 0, .null, []),
  (128, .iload_n 2, 2, 0, .null, []),
  (129, .ifCond .ne 7, 18, 0, .null, []),
  (132, .iconst 0, 0, 0, .int 0, []),
  (133, .goto 16, 27, 0, .null, []),
  (136, .iload_n 2, 2, 0, .null, []),
  (137, .iconst (-1), 0, 0, .int (-1), []),
  (138, .if_icmp .ne 8, 24, 0, .null, []),
  (141, .iload_n 1, 1, 0, .null, []),
  (142, .ineg, 0, 0, .null, []),
  (143, .goto 6, 27, 0, .null, []),
  (146, .iload_n 1, 1, 0, .null, []),
  (147, .iload_n 2, 2, 0, .null, []),
  (148, .idiv, 0, 0, .null, []),
  (149, .ireturn, 0, 0, .null, []),
  (150, .iload_n 1, 1, 0, .null, []),
  (151, .iload_n 2, 2, 0, .null, []),
  (152, .if_icmp .ge 7, 33, 0, .null, []),
  (155, .iconst 1, 0, 0, .int 1, []),
  (156, .goto 4, 34, 0, .null, []),
  (159, .iconst 0, 0, 0, .int 0, []),
  (160, .ireturn, 0, 0, .null, []),
  (161, .iload_n 1, 1, 0, .null, []),
  (162, .iload_n 2, 2, 0, .null, []),
  (163, .if_icmp .le 7, 40, 0, .null, []),
  (166, .iconst 1, 0, 0, .int 1, []),
  (167, .goto 4, 41, 0, .null, []),
  (170, .iconst 0, 0, 0, .int 0, []),
  (171, .ireturn, 0, 0, .null, []),
  (172, .iload_n 1, 1, 0, .null, []),
  (173, .iload_n 2, 2, 0, .null, []),
  (174, .if_icmp .ne 7, 47, 0, .null, []),
  (177, .iconst 1, 0, 0, .int 1, []),
  (178, .goto 4, 48, 0, .null, []),
  (181, .iconst 0, 0, 0, .int 0, []),
  (182, .ireturn, 0, 0, .null, []),
  (183, .iload_n 1, 1, 0, .null, []),
  (184, .ifCond .eq 11, 55, 0, .null, []),
  (187, .iload_n 2, 2, 0, .null, []),
  (188, .ifCond .eq 7, 55, 0, .null, []),
  (191, .iconst 1, 0, 0, .int 1, []),
  (192, .goto 4, 56, 0, .null, []),
  (195, .iconst 0, 0, 0, .int 0, []),
  (196, .ireturn, 0, 0, .null, []),
  (197, .iload_n 1, 1, 0, .null, []),
  (198, .ifCond .ne 7, 61, 0, .null, []),
  (201, .iload_n 2, 2, 0, .null, []),
  (202, .ifCond .eq 7, 63, 0, .null, []),
  (205, .iconst 1, 0, 0, .int 1, []),
  (206, .goto 4, 64, 0, .null, []),
  (209, .iconst 0, 0, 0, .int 0, []),
  (210, .ireturn, 0, 0, .null, [])])
def mX8_worked : pM := (⟨RX8, "worked", "(I)I"⟩, prog_10_method_84_code, 6, (some FieldType.int), 1, 8, [(0, .iconst 0, 0, 0, .int 0, []),
  (1, .istore_n 2, 2, 0, .null, []),
  (2, .iconst 0, 0, 0, .int 0, []),
  (3, .istore_n 3, 3, 0, .null, []),
  (4, .iload_n 3, 3, 0, .null, []),
  (5, .aload_n 0, 0, 0, .null, []),
  (6, .getfield 7, 8, 0, .null, []),
  (9, .aload_n 0, 0, 0, .null, []),
  (10, .iload_n 1, 1, 0, .null, []),
  (11, .invokevirtual 284, 149, 1, .null, []),
  (14, .iconst 2, 0, 0, .int 2, []),
  (15, .iadd, 0, 0, .null, []),
  (16, .iaload, 0, 0, .null, []),
  (17, .if_icmp .ge 146, 100, 0, .null, []),
  (20, .aload_n 0, 0, 0, .null, []),
  (21, .getfield 7, 8, 0, .null, []),
  (24, .aload_n 0, 0, 0, .null, []),
  (25, .iload_n 1, 1, 0, .null, []),
  (26, .invokevirtual 284, 149, 1, .null, []),
  (29, .iconst 4, 0, 0, .int 4, []),
  (30, .iadd, 0, 0, .null, []),
  (31, .iconst 2, 0, 0, .int 2, []),
  (32, .iload_n 3, 3, 0, .null, []),
  (33, .imul, 0, 0, .null, []),
  (34, .iadd, 0, 0, .null, []),
  (35, .iaload, 0, 0, .null, []),
  (36, .istore 4, 4, 0, .null, []),
  (38, .aload_n 0, 0, 0, .null, []),
  (39, .getfield 7, 8, 0, .null, []),
  (42, .aload_n 0, 0, 0, .null, []),
  (43, .iload_n 1, 1, 0, .null, []),
  (44, .invokevirtual 284, 149, 1, .null, []),
  (47, .iconst 4, 0, 0, .int 4, []),
  (48, .iadd, 0, 0, .null, []),
  (49, .iconst 2, 0, 0, .int 2, []),
  (50, .iload_n 3, 3, 0, .null, []),
  (51, .imul, 0, 0, .null, []),
  (52, .iadd, 0, 0, .null, []),
  (53, .iconst 1, 0, 0, .int 1, []),
  (54, .iadd, 0, 0, .null, []),
  (55, .iaload, 0, 0, .null, []),
  (56, .istore 5, 5, 0, .null, []),
  (58, .iload 4, 4, 0, .null, []),
  (60, .iconst 2, 0, 0, .int 2, []),
  (61, .if_icmp .eq 32, 59, 0, .null, []),
  (64, .aload_n 0, 0, 0, .null, []),
  (65, .getfield 55, 8, 27, .null, []),
  (68, .iload_n 2, 2, 0, .null, []),
  (69, .iload 4, 4, 0, .null, []),
  (71, .ifCond .ne 8, 52, 0, .null, []),
  (74, .iload 5, 5, 0, .null, []),
  (76, .goto 10, 56, 0, .null, []),
  (79, .aload_n 0, 0, 0, .null, []),
  (80, .getfield 52, 8, 26, .null, []),
  (83, .iload 5, 5, 0, .null, []),
  (85, .iaload, 0, 0, .null, []),
  (86, .iastore, 0, 0, .null, []),
  (87, .iinc 2 1, 2, 0, .null, []),
  (90, .goto 67, 98, 0, .null, []),
  (93, .iload 5, 5, 0, .null, []),
  (95, .bipush 33, 0, 0, .int 33, []),
  (97, .if_icmp .ne 30, 79, 0, .null, []),
  (100, .aload_n 0, 0, 0, .null, []),
  (101, .getfield 55, 8, 27, .null, []),
  (104, .iload_n 2, 2, 0, .null, []),
  (105, .iconst 1, 0, 0, .int 1, []),
  (106, .isub, 0, 0, .null, []),
  (107, .aload_n 0, 0, 0, .null, []),
  (108, .getfield 55, 8, 27, .null, []),
  (111, .iload_n 2, 2, 0, .null, []),
  (112, .iconst 1, 0, 0, .int 1, []),
  (113, .isub, 0, 0, .null, []),
  (114, .iaload, 0, 0, .null, []),
  (115, .ifCond .ne 7, 76, 0, .null, []),
  (118, .iconst 1, 0, 0, .int 1, []),
  (119, .goto 4, 77, 0, .null, []),
  (122, .iconst 0, 0, 0, .int 0, []),
  (123, .iastore, 0, 0, .null, []),
  (124, .goto 33, 98, 0, .null, []),
  (127, .iinc 2 (-1), 2, 0, .null, []),
  (130, .aload_n 0, 0, 0, .null, []),
  (131, .getfield 55, 8, 27, .null, []),
  (134, .iload_n 2, 2, 0, .null, []),
  (135, .iconst 1, 0, 0, .int 1, []),
  (136, .isub, 0, 0, .null, []),
  (137, .iload 5, 5, 0, .null, []),
  (139, .aload_n 0, 0, 0, .null, []),
  (140, .getfield 55, 8, 27, .null, []),
  (143, .iload_n 2, 2, 0, .null, []),
  (144, .iconst 1, 0, 0, .int 1, []),
  (145, .isub, 0, 0, .null, []),
  (146, .iaload, 0, 0, .null, []),
  (147, .aload_n 0, 0, 0, .null, []),
  (148, .getfield 55, 8, 27, .null, []),
  (151, .iload_n 2, 2, 0, .null, []),
  (152, .iaload, 0, 0, .null, []),
  (153, .invokestatic 298, 224, 3, .null, []),
  (156, .iastore, 0, 0, .null, []),
  (157, .iinc 3 1, 3, 0, .null, []),
  (160, .goto (-156), 4, 0, .null, []),
  (163, .aload_n 0, 0, 0, .null, []),
  (164, .getfield 55, 8, 27, .null, []),
  (167, .iconst 0, 0, 0, .int 0, []),
  (168, .iaload, 0, 0, .null, []),
  (169, .ireturn, 0, 0, .null, [])])
def mX8_isSheet : pM := (⟨RX8, "isSheet", "(I)Z"⟩, prog_10_method_85_code, 1, (some FieldType.boolean), 0, 8, [(0, .iload_n 0, 0, 0, .null, []),
  (1, .i2l, 0, 0, .null, []),
  (2, .lconst 0, 0, 0, .long 0, []),
  (3, .ldc2_w 141, 0, 0, .long 3, []),
  (6, .invokestatic 68, 143, 3, .null, []),
  (9, .ireturn, 0, 0, .null, [])])
def mX8_sheet : pM := (⟨RX8, "sheet", "(III)I"⟩, prog_10_method_86_code, 5, (some FieldType.int), 1, 8, [(0, .iload_n 1, 1, 0, .null, []),
  (1, .invokestatic 301, 226, 1, .null, []),
  (4, .ifCond .eq 25, 14, 0, .null, []),
  (7, .iload_n 2, 2, 0, .null, []),
  (8, .i2l, 0, 0, .null, []),
  (9, .ldc2_w 304, 0, 0, .long (-1), []),
  (12, .lconst 1, 0, 0, .long 1, []),
  (13, .invokestatic 68, 143, 3, .null, []),
  (16, .ifCond .eq 13, 14, 0, .null, []),
  (19, .iload_n 2, 2, 0, .null, []),
  (20, .ifCond .lt 12, 16, 0, .null, []),
  (23, .iload_n 3, 3, 0, .null, []),
  (24, .bipush 24, 0, 0, .int 24, []),
  (26, .if_icmp .le 6, 16, 0, .null, []),
  (29, .ldc 83, 0, 0, .int (-1000000001), []),
  (31, .ireturn, 0, 0, .null, []),
  (32, .iload_n 2, 2, 0, .null, []),
  (33, .ifCond .lt 11, 22, 0, .null, []),
  (36, .iload_n 3, 3, 0, .null, []),
  (37, .ifCond .ge 7, 22, 0, .null, []),
  (40, .ldc_w 306, 0, 0, .int (-1000000014), []),
  (43, .ireturn, 0, 0, .null, []),
  (44, .aload_n 0, 0, 0, .null, []),
  (45, .getfield 19, 8, 4, .null, []),
  (48, .iload_n 1, 1, 0, .null, []),
  (49, .iload_n 2, 2, 0, .null, []),
  (50, .iastore, 0, 0, .null, []),
  (51, .aload_n 0, 0, 0, .null, []),
  (52, .getfield 22, 8, 5, .null, []),
  (55, .iload_n 1, 1, 0, .null, []),
  (56, .iload_n 2, 2, 0, .null, []),
  (57, .ifCond .ge 7, 34, 0, .null, []),
  (60, .iconst 0, 0, 0, .int 0, []),
  (61, .goto 4, 35, 0, .null, []),
  (64, .iload_n 3, 3, 0, .null, []),
  (65, .iastore, 0, 0, .null, []),
  (66, .iconst 0, 0, 0, .int 0, []),
  (67, .istore 4, 4, 0, .null, []),
  (69, .iload 4, 4, 0, .null, []),
  (71, .bipush 24, 0, 0, .int 24, []),
  (73, .if_icmp .ge 22, 52, 0, .null, []),
  (76, .aload_n 0, 0, 0, .null, []),
  (77, .getfield 25, 8, 6, .null, []),
  (80, .bipush 24, 0, 0, .int 24, []),
  (82, .iload_n 1, 1, 0, .null, []),
  (83, .imul, 0, 0, .null, []),
  (84, .iload 4, 4, 0, .null, []),
  (86, .iadd, 0, 0, .null, []),
  (87, .iconst 0, 0, 0, .int 0, []),
  (88, .iastore, 0, 0, .null, []),
  (89, .iinc 4 1, 4, 0, .null, []),
  (92, .goto (-23), 38, 0, .null, []),
  (95, .aload_n 0, 0, 0, .null, []),
  (96, .getfield 22, 8, 5, .null, []),
  (99, .iload_n 1, 1, 0, .null, []),
  (100, .iaload, 0, 0, .null, []),
  (101, .ireturn, 0, 0, .null, [])])
def mX8_mark : pM := (⟨RX8, "mark", "(III)I"⟩, prog_10_method_87_code, 4, (some FieldType.int), 1, 8, [(0, .iload_n 1, 1, 0, .null, []),
  (1, .invokestatic 301, 226, 1, .null, []),
  (4, .ifCond .ne 6, 5, 0, .null, []),
  (7, .ldc 83, 0, 0, .int (-1000000001), []),
  (9, .ireturn, 0, 0, .null, []),
  (10, .aload_n 0, 0, 0, .null, []),
  (11, .getfield 19, 8, 4, .null, []),
  (14, .iload_n 1, 1, 0, .null, []),
  (15, .iaload, 0, 0, .null, []),
  (16, .ifCond .ge 7, 12, 0, .null, []),
  (19, .ldc_w 307, 0, 0, .int (-1000000011), []),
  (22, .ireturn, 0, 0, .null, []),
  (23, .iload_n 2, 2, 0, .null, []),
  (24, .i2l, 0, 0, .null, []),
  (25, .lconst 0, 0, 0, .long 0, []),
  (26, .aload_n 0, 0, 0, .null, []),
  (27, .getfield 22, 8, 5, .null, []),
  (30, .iload_n 1, 1, 0, .null, []),
  (31, .iaload, 0, 0, .null, []),
  (32, .iconst 1, 0, 0, .int 1, []),
  (33, .isub, 0, 0, .null, []),
  (34, .i2l, 0, 0, .null, []),
  (35, .invokestatic 68, 143, 3, .null, []),
  (38, .ifCond .ne 7, 26, 0, .null, []),
  (41, .ldc_w 308, 0, 0, .int (-1000000013), []),
  (44, .ireturn, 0, 0, .null, []),
  (45, .aload_n 0, 0, 0, .null, []),
  (46, .getfield 19, 8, 4, .null, []),
  (49, .iload_n 1, 1, 0, .null, []),
  (50, .iaload, 0, 0, .null, []),
  (51, .ifCond .ne 12, 36, 0, .null, []),
  (54, .iload_n 3, 3, 0, .null, []),
  (55, .ldc 67, 0, 0, .int (-1000000005), []),
  (57, .if_icmp .ne 6, 36, 0, .null, []),
  (60, .ldc 132, 0, 0, .int (-1000000012), []),
  (62, .ireturn, 0, 0, .null, []),
  (63, .aload_n 0, 0, 0, .null, []),
  (64, .getfield 19, 8, 4, .null, []),
  (67, .iload_n 1, 1, 0, .null, []),
  (68, .iaload, 0, 0, .null, []),
  (69, .iconst 1, 0, 0, .int 1, []),
  (70, .if_icmp .ne 26, 53, 0, .null, []),
  (73, .iload_n 3, 3, 0, .null, []),
  (74, .ldc 67, 0, 0, .int (-1000000005), []),
  (76, .if_icmp .eq 20, 53, 0, .null, []),
  (79, .iload_n 3, 3, 0, .null, []),
  (80, .i2l, 0, 0, .null, []),
  (81, .ldc2_w 309, 0, 0, .long (-99999), []),
  (84, .ldc2_w 311, 0, 0, .long 99999, []),
  (87, .invokestatic 68, 143, 3, .null, []),
  (90, .ifCond .ne 6, 53, 0, .null, []),
  (93, .ldc 83, 0, 0, .int (-1000000001), []),
  (95, .ireturn, 0, 0, .null, []),
  (96, .aload_n 0, 0, 0, .null, []),
  (97, .getfield 25, 8, 6, .null, []),
  (100, .bipush 24, 0, 0, .int 24, []),
  (102, .iload_n 1, 1, 0, .null, []),
  (103, .imul, 0, 0, .null, []),
  (104, .iload_n 2, 2, 0, .null, []),
  (105, .iadd, 0, 0, .null, []),
  (106, .aload_n 0, 0, 0, .null, []),
  (107, .getfield 19, 8, 4, .null, []),
  (110, .iload_n 1, 1, 0, .null, []),
  (111, .iaload, 0, 0, .null, []),
  (112, .ifCond .ne 13, 71, 0, .null, []),
  (115, .iload_n 3, 3, 0, .null, []),
  (116, .bipush 16, 0, 0, .int 16, []),
  (118, .ishl, 0, 0, .null, []),
  (119, .bipush 16, 0, 0, .int 16, []),
  (121, .ishr, 0, 0, .null, []),
  (122, .goto 4, 72, 0, .null, []),
  (125, .iload_n 3, 3, 0, .null, []),
  (126, .iastore, 0, 0, .null, []),
  (127, .iconst 1, 0, 0, .int 1, []),
  (128, .ireturn, 0, 0, .null, [])])
def mX8_pour : pM := (⟨RX8, "pour", "(I)I"⟩, prog_10_method_88_code, 6, (some FieldType.int), 1, 8, [(0, .iload_n 1, 1, 0, .null, []),
  (1, .invokestatic 301, 226, 1, .null, []),
  (4, .ifCond .ne 6, 5, 0, .null, []),
  (7, .ldc 83, 0, 0, .int (-1000000001), []),
  (9, .ireturn, 0, 0, .null, []),
  (10, .aload_n 0, 0, 0, .null, []),
  (11, .getfield 19, 8, 4, .null, []),
  (14, .iload_n 1, 1, 0, .null, []),
  (15, .iaload, 0, 0, .null, []),
  (16, .ifCond .ge 7, 12, 0, .null, []),
  (19, .ldc_w 307, 0, 0, .int (-1000000011), []),
  (22, .ireturn, 0, 0, .null, []),
  (23, .iconst 0, 0, 0, .int 0, []),
  (24, .istore_n 2, 2, 0, .null, []),
  (25, .iconst 0, 0, 0, .int 0, []),
  (26, .istore_n 3, 3, 0, .null, []),
  (27, .iload_n 3, 3, 0, .null, []),
  (28, .aload_n 0, 0, 0, .null, []),
  (29, .getfield 22, 8, 5, .null, []),
  (32, .iload_n 1, 1, 0, .null, []),
  (33, .iaload, 0, 0, .null, []),
  (34, .if_icmp .ge 76, 64, 0, .null, []),
  (37, .iload_n 3, 3, 0, .null, []),
  (38, .bipush 16, 0, 0, .int 16, []),
  (40, .if_icmp .ge 70, 64, 0, .null, []),
  (43, .aload_n 0, 0, 0, .null, []),
  (44, .getfield 25, 8, 6, .null, []),
  (47, .bipush 24, 0, 0, .int 24, []),
  (49, .iload_n 1, 1, 0, .null, []),
  (50, .imul, 0, 0, .null, []),
  (51, .iload_n 3, 3, 0, .null, []),
  (52, .iadd, 0, 0, .null, []),
  (53, .iaload, 0, 0, .null, []),
  (54, .istore 4, 4, 0, .null, []),
  (56, .iload 4, 4, 0, .null, []),
  (58, .ldc 67, 0, 0, .int (-1000000005), []),
  (60, .if_icmp .ne 14, 44, 0, .null, []),
  (63, .aload_n 0, 0, 0, .null, []),
  (64, .getfield 7, 8, 0, .null, []),
  (67, .iconst 5, 0, 0, .int 5, []),
  (68, .iload_n 3, 3, 0, .null, []),
  (69, .iadd, 0, 0, .null, []),
  (70, .iaload, 0, 0, .null, []),
  (71, .goto 9, 47, 0, .null, []),
  (74, .iload 4, 4, 0, .null, []),
  (76, .iconst 3, 0, 0, .int 3, []),
  (77, .invokestatic 102, 145, 2, .null, []),
  (80, .istore 5, 5, 0, .null, []),
  (82, .iload_n 2, 2, 0, .null, []),
  (83, .iload 5, 5, 0, .null, []),
  (85, .aload_n 0, 0, 0, .null, []),
  (86, .iconst 5, 0, 0, .int 5, []),
  (87, .iload_n 3, 3, 0, .null, []),
  (88, .iadd, 0, 0, .null, []),
  (89, .iload 5, 5, 0, .null, []),
  (91, .invokevirtual 133, 148, 2, .null, []),
  (94, .if_icmp .ne 7, 59, 0, .null, []),
  (97, .iconst 0, 0, 0, .int 0, []),
  (98, .goto 4, 60, 0, .null, []),
  (101, .iconst 1, 0, 0, .int 1, []),
  (102, .iadd, 0, 0, .null, []),
  (103, .istore_n 2, 2, 0, .null, []),
  (104, .iinc 3 1, 3, 0, .null, []),
  (107, .goto (-80), 16, 0, .null, []),
  (110, .iload_n 2, 2, 0, .null, []),
  (111, .ireturn, 0, 0, .null, [])])
def mX8_reads : pM := (⟨RX8, "reads", "(I)I"⟩, prog_10_method_89_code, 4, (some FieldType.int), 1, 8, [(0, .iload_n 1, 1, 0, .null, []),
  (1, .invokestatic 301, 226, 1, .null, []),
  (4, .ifCond .ne 6, 5, 0, .null, []),
  (7, .ldc 83, 0, 0, .int (-1000000001), []),
  (9, .ireturn, 0, 0, .null, []),
  (10, .aload_n 0, 0, 0, .null, []),
  (11, .getfield 19, 8, 4, .null, []),
  (14, .iload_n 1, 1, 0, .null, []),
  (15, .iaload, 0, 0, .null, []),
  (16, .ifCond .ge 7, 12, 0, .null, []),
  (19, .ldc_w 307, 0, 0, .int (-1000000011), []),
  (22, .ireturn, 0, 0, .null, []),
  (23, .iconst 0, 0, 0, .int 0, []),
  (24, .istore_n 2, 2, 0, .null, []),
  (25, .iload_n 2, 2, 0, .null, []),
  (26, .aload_n 0, 0, 0, .null, []),
  (27, .getfield 22, 8, 5, .null, []),
  (30, .iload_n 1, 1, 0, .null, []),
  (31, .iaload, 0, 0, .null, []),
  (32, .if_icmp .ge 49, 48, 0, .null, []),
  (35, .aload_n 0, 0, 0, .null, []),
  (36, .getfield 25, 8, 6, .null, []),
  (39, .bipush 24, 0, 0, .int 24, []),
  (41, .iload_n 1, 1, 0, .null, []),
  (42, .imul, 0, 0, .null, []),
  (43, .iload_n 2, 2, 0, .null, []),
  (44, .iadd, 0, 0, .null, []),
  (45, .iaload, 0, 0, .null, []),
  (46, .istore_n 3, 3, 0, .null, []),
  (47, .iload_n 3, 3, 0, .null, []),
  (48, .ldc 67, 0, 0, .int (-1000000005), []),
  (50, .if_icmp .eq 25, 46, 0, .null, []),
  (53, .iload_n 2, 2, 0, .null, []),
  (54, .aload_n 0, 0, 0, .null, []),
  (55, .getfield 7, 8, 0, .null, []),
  (58, .iconst 0, 0, 0, .int 0, []),
  (59, .iaload, 0, 0, .null, []),
  (60, .if_icmp .ge 13, 44, 0, .null, []),
  (63, .iload_n 3, 3, 0, .null, []),
  (64, .aload_n 0, 0, 0, .null, []),
  (65, .iload_n 2, 2, 0, .null, []),
  (66, .iconst 5, 0, 0, .int 5, []),
  (67, .invokevirtual 88, 150, 2, .null, []),
  (70, .if_icmp .eq 5, 46, 0, .null, []),
  (73, .iload_n 2, 2, 0, .null, []),
  (74, .ireturn, 0, 0, .null, []),
  (75, .iinc 2 1, 2, 0, .null, []),
  (78, .goto (-53), 14, 0, .null, []),
  (81, .ldc 67, 0, 0, .int (-1000000005), []),
  (83, .ireturn, 0, 0, .null, [])])
def mX8_whose : pM := (⟨RX8, "whose", "(II)I"⟩, prog_10_method_90_code, 9, (some FieldType.int), 1, 8, [(0, .iload_n 1, 1, 0, .null, []),
  (1, .invokestatic 301, 226, 1, .null, []),
  (4, .ifCond .eq 13, 9, 0, .null, []),
  (7, .iload_n 2, 2, 0, .null, []),
  (8, .i2l, 0, 0, .null, []),
  (9, .lconst 0, 0, 0, .long 0, []),
  (10, .lconst 1, 0, 0, .long 1, []),
  (11, .invokestatic 68, 143, 3, .null, []),
  (14, .ifCond .ne 6, 11, 0, .null, []),
  (17, .ldc 83, 0, 0, .int (-1000000001), []),
  (19, .ireturn, 0, 0, .null, []),
  (20, .aload_n 0, 0, 0, .null, []),
  (21, .getfield 19, 8, 4, .null, []),
  (24, .iload_n 1, 1, 0, .null, []),
  (25, .iaload, 0, 0, .null, []),
  (26, .ifCond .ge 7, 18, 0, .null, []),
  (29, .ldc_w 307, 0, 0, .int (-1000000011), []),
  (32, .ireturn, 0, 0, .null, []),
  (33, .iconst (-1), 0, 0, .int (-1), []),
  (34, .istore_n 3, 3, 0, .null, []),
  (35, .iconst 0, 0, 0, .int 0, []),
  (36, .istore 4, 4, 0, .null, []),
  (38, .iconst 0, 0, 0, .int 0, []),
  (39, .istore 5, 5, 0, .null, []),
  (41, .iload 5, 5, 0, .null, []),
  (43, .aload_n 0, 0, 0, .null, []),
  (44, .getfield 7, 8, 0, .null, []),
  (47, .iconst 0, 0, 0, .int 0, []),
  (48, .iaload, 0, 0, .null, []),
  (49, .if_icmp .ge 109, 84, 0, .null, []),
  (52, .iconst 0, 0, 0, .int 0, []),
  (53, .istore 6, 6, 0, .null, []),
  (55, .iconst 0, 0, 0, .int 0, []),
  (56, .istore 7, 7, 0, .null, []),
  (58, .iload 7, 7, 0, .null, []),
  (60, .aload_n 0, 0, 0, .null, []),
  (61, .getfield 22, 8, 5, .null, []),
  (64, .iload_n 1, 1, 0, .null, []),
  (65, .iaload, 0, 0, .null, []),
  (66, .if_icmp .ge 68, 73, 0, .null, []),
  (69, .aload_n 0, 0, 0, .null, []),
  (70, .getfield 25, 8, 6, .null, []),
  (73, .bipush 24, 0, 0, .int 24, []),
  (75, .iload_n 1, 1, 0, .null, []),
  (76, .imul, 0, 0, .null, []),
  (77, .iload 7, 7, 0, .null, []),
  (79, .iadd, 0, 0, .null, []),
  (80, .iaload, 0, 0, .null, []),
  (81, .istore 8, 8, 0, .null, []),
  (83, .iload 6, 6, 0, .null, []),
  (85, .iload 8, 8, 0, .null, []),
  (87, .ldc 67, 0, 0, .int (-1000000005), []),
  (89, .if_icmp .ne 7, 55, 0, .null, []),
  (92, .iconst 0, 0, 0, .int 0, []),
  (93, .goto 32, 69, 0, .null, []),
  (96, .iload 8, 8, 0, .null, []),
  (98, .iload 7, 7, 0, .null, []),
  (100, .aload_n 0, 0, 0, .null, []),
  (101, .iload 5, 5, 0, .null, []),
  (103, .iconst 2, 0, 0, .int 2, []),
  (104, .invokevirtual 88, 150, 2, .null, []),
  (107, .if_icmp .ge 14, 67, 0, .null, []),
  (110, .aload_n 0, 0, 0, .null, []),
  (111, .iload 5, 5, 0, .null, []),
  (113, .iload 7, 7, 0, .null, []),
  (115, .invokevirtual 125, 158, 2, .null, []),
  (118, .goto 4, 68, 0, .null, []),
  (121, .iconst 0, 0, 0, .int 0, []),
  (122, .invokestatic 313, 146, 2, .null, []),
  (125, .iadd, 0, 0, .null, []),
  (126, .istore 6, 6, 0, .null, []),
  (128, .iinc 7 1, 7, 0, .null, []),
  (131, .goto (-73), 34, 0, .null, []),
  (134, .iload_n 3, 3, 0, .null, []),
  (135, .ifCond .lt 10, 78, 0, .null, []),
  (138, .iload 6, 6, 0, .null, []),
  (140, .iload 4, 4, 0, .null, []),
  (142, .if_icmp .ge 10, 82, 0, .null, []),
  (145, .iload 5, 5, 0, .null, []),
  (147, .istore_n 3, 3, 0, .null, []),
  (148, .iload 6, 6, 0, .null, []),
  (150, .istore 4, 4, 0, .null, []),
  (152, .iinc 5 1, 5, 0, .null, []),
  (155, .goto (-114), 24, 0, .null, []),
  (158, .iload_n 3, 3, 0, .null, []),
  (159, .ifCond .ge 8, 88, 0, .null, []),
  (162, .ldc 67, 0, 0, .int (-1000000005), []),
  (164, .goto 13, 93, 0, .null, []),
  (167, .iload_n 2, 2, 0, .null, []),
  (168, .ifCond .ne 7, 92, 0, .null, []),
  (171, .iload_n 3, 3, 0, .null, []),
  (172, .goto 5, 93, 0, .null, []),
  (175, .iload 4, 4, 0, .null, []),
  (177, .ireturn, 0, 0, .null, [])])
def mX8_copy : pM := (⟨RX8, "copy", "(IIIII)I"⟩, prog_10_method_91_code, 7, (some FieldType.int), 1, 8, [(0, .iload_n 1, 1, 0, .null, []),
  (1, .invokestatic 301, 226, 1, .null, []),
  (4, .ifCond .eq 10, 6, 0, .null, []),
  (7, .iload_n 3, 3, 0, .null, []),
  (8, .invokestatic 301, 226, 1, .null, []),
  (11, .ifCond .ne 6, 8, 0, .null, []),
  (14, .ldc 83, 0, 0, .int (-1000000001), []),
  (16, .ireturn, 0, 0, .null, []),
  (17, .aload_n 0, 0, 0, .null, []),
  (18, .getfield 19, 8, 4, .null, []),
  (21, .iload_n 1, 1, 0, .null, []),
  (22, .iaload, 0, 0, .null, []),
  (23, .ifCond .lt 12, 18, 0, .null, []),
  (26, .aload_n 0, 0, 0, .null, []),
  (27, .getfield 19, 8, 4, .null, []),
  (30, .iload_n 3, 3, 0, .null, []),
  (31, .iaload, 0, 0, .null, []),
  (32, .ifCond .ge 7, 20, 0, .null, []),
  (35, .ldc_w 307, 0, 0, .int (-1000000011), []),
  (38, .ireturn, 0, 0, .null, []),
  (39, .aload_n 0, 0, 0, .null, []),
  (40, .getfield 19, 8, 4, .null, []),
  (43, .iload_n 1, 1, 0, .null, []),
  (44, .iaload, 0, 0, .null, []),
  (45, .aload_n 0, 0, 0, .null, []),
  (46, .getfield 19, 8, 4, .null, []),
  (49, .iload_n 3, 3, 0, .null, []),
  (50, .iaload, 0, 0, .null, []),
  (51, .if_icmp .eq 6, 31, 0, .null, []),
  (54, .ldc 132, 0, 0, .int (-1000000012), []),
  (56, .ireturn, 0, 0, .null, []),
  (57, .iload_n 2, 2, 0, .null, []),
  (58, .ifCond .lt 48, 61, 0, .null, []),
  (61, .iload 4, 4, 0, .null, []),
  (63, .ifCond .lt 43, 61, 0, .null, []),
  (66, .iload 5, 5, 0, .null, []),
  (68, .ifCond .lt 38, 61, 0, .null, []),
  (71, .iload_n 2, 2, 0, .null, []),
  (72, .i2l, 0, 0, .null, []),
  (73, .iload 5, 5, 0, .null, []),
  (75, .i2l, 0, 0, .null, []),
  (76, .ladd, 0, 0, .null, []),
  (77, .aload_n 0, 0, 0, .null, []),
  (78, .getfield 22, 8, 5, .null, []),
  (81, .iload_n 1, 1, 0, .null, []),
  (82, .iaload, 0, 0, .null, []),
  (83, .i2l, 0, 0, .null, []),
  (84, .lcmp, 0, 0, .null, []),
  (85, .ifCond .gt 21, 61, 0, .null, []),
  (88, .iload 4, 4, 0, .null, []),
  (90, .i2l, 0, 0, .null, []),
  (91, .iload 5, 5, 0, .null, []),
  (93, .i2l, 0, 0, .null, []),
  (94, .ladd, 0, 0, .null, []),
  (95, .aload_n 0, 0, 0, .null, []),
  (96, .getfield 22, 8, 5, .null, []),
  (99, .iload_n 3, 3, 0, .null, []),
  (100, .iaload, 0, 0, .null, []),
  (101, .i2l, 0, 0, .null, []),
  (102, .lcmp, 0, 0, .null, []),
  (103, .ifCond .le 7, 63, 0, .null, []),
  (106, .ldc_w 308, 0, 0, .int (-1000000013), []),
  (109, .ireturn, 0, 0, .null, []),
  (110, .iconst 0, 0, 0, .int 0, []),
  (111, .istore 6, 6, 0, .null, []),
  (113, .iload 6, 6, 0, .null, []),
  (115, .iload 5, 5, 0, .null, []),
  (117, .if_icmp .ge 30, 84, 0, .null, []),
  (120, .aload_n 0, 0, 0, .null, []),
  (121, .getfield 58, 8, 28, .null, []),
  (124, .iload 6, 6, 0, .null, []),
  (126, .aload_n 0, 0, 0, .null, []),
  (127, .getfield 25, 8, 6, .null, []),
  (130, .bipush 24, 0, 0, .int 24, []),
  (132, .iload_n 1, 1, 0, .null, []),
  (133, .imul, 0, 0, .null, []),
  (134, .iload_n 2, 2, 0, .null, []),
  (135, .iadd, 0, 0, .null, []),
  (136, .iload 6, 6, 0, .null, []),
  (138, .iadd, 0, 0, .null, []),
  (139, .iaload, 0, 0, .null, []),
  (140, .iastore, 0, 0, .null, []),
  (141, .iinc 6 1, 6, 0, .null, []),
  (144, .goto (-31), 65, 0, .null, []),
  (147, .iconst 0, 0, 0, .int 0, []),
  (148, .istore 6, 6, 0, .null, []),
  (150, .iload 6, 6, 0, .null, []),
  (152, .iload 5, 5, 0, .null, []),
  (154, .if_icmp .ge 31, 105, 0, .null, []),
  (157, .aload_n 0, 0, 0, .null, []),
  (158, .getfield 25, 8, 6, .null, []),
  (161, .bipush 24, 0, 0, .int 24, []),
  (163, .iload_n 3, 3, 0, .null, []),
  (164, .imul, 0, 0, .null, []),
  (165, .iload 4, 4, 0, .null, []),
  (167, .iadd, 0, 0, .null, []),
  (168, .iload 6, 6, 0, .null, []),
  (170, .iadd, 0, 0, .null, []),
  (171, .aload_n 0, 0, 0, .null, []),
  (172, .getfield 58, 8, 28, .null, []),
  (175, .iload 6, 6, 0, .null, []),
  (177, .iaload, 0, 0, .null, []),
  (178, .iastore, 0, 0, .null, []),
  (179, .iinc 6 1, 6, 0, .null, []),
  (182, .goto (-32), 86, 0, .null, []),
  (185, .iload 5, 5, 0, .null, []),
  (187, .ireturn, 0, 0, .null, [])])
def mX8_isSlot : pM := (⟨RX8, "isSlot", "(I)Z"⟩, prog_10_method_92_code, 1, (some FieldType.boolean), 0, 8, [(0, .iload_n 0, 0, 0, .null, []),
  (1, .i2l, 0, 0, .null, []),
  (2, .lconst 0, 0, 0, .long 0, []),
  (3, .ldc2_w 316, 0, 0, .long 4, []),
  (6, .invokestatic 68, 143, 3, .null, []),
  (9, .ireturn, 0, 0, .null, [])])
def mX8_lay : pM := (⟨RX8, "lay", "(III)I"⟩, prog_10_method_93_code, 7, (some FieldType.int), 1, 8, [(0, .iload_n 2, 2, 0, .null, []),
  (1, .ifCond .eq 33, 18, 0, .null, []),
  (4, .iload_n 2, 2, 0, .null, []),
  (5, .iconst 3, 0, 0, .int 3, []),
  (6, .if_icmp .eq 28, 18, 0, .null, []),
  (9, .iload_n 2, 2, 0, .null, []),
  (10, .iconst 1, 0, 0, .int 1, []),
  (11, .if_icmp .ne 11, 12, 0, .null, []),
  (14, .aload_n 0, 0, 0, .null, []),
  (15, .iload_n 3, 3, 0, .null, []),
  (16, .invokevirtual 109, 152, 1, .null, []),
  (19, .ifCond .ne 15, 18, 0, .null, []),
  (22, .iload_n 2, 2, 0, .null, []),
  (23, .iconst 2, 0, 0, .int 2, []),
  (24, .if_icmp .ne 14, 20, 0, .null, []),
  (27, .iload_n 3, 3, 0, .null, []),
  (28, .invokestatic 301, 226, 1, .null, []),
  (31, .ifCond .eq 7, 20, 0, .null, []),
  (34, .iconst 1, 0, 0, .int 1, []),
  (35, .goto 4, 21, 0, .null, []),
  (38, .iconst 0, 0, 0, .int 0, []),
  (39, .istore 4, 4, 0, .null, []),
  (41, .iload_n 1, 1, 0, .null, []),
  (42, .invokestatic 318, 233, 1, .null, []),
  (45, .ifCond .eq 8, 27, 0, .null, []),
  (48, .iload 4, 4, 0, .null, []),
  (50, .ifCond .ne 6, 29, 0, .null, []),
  (53, .ldc 83, 0, 0, .int (-1000000001), []),
  (55, .ireturn, 0, 0, .null, []),
  (56, .iload_n 2, 2, 0, .null, []),
  (57, .iconst 2, 0, 0, .int 2, []),
  (58, .if_icmp .ne 16, 39, 0, .null, []),
  (61, .aload_n 0, 0, 0, .null, []),
  (62, .getfield 19, 8, 4, .null, []),
  (65, .iload_n 3, 3, 0, .null, []),
  (66, .iaload, 0, 0, .null, []),
  (67, .ifCond .ge 7, 39, 0, .null, []),
  (70, .ldc_w 307, 0, 0, .int (-1000000011), []),
  (73, .ireturn, 0, 0, .null, []),
  (74, .aload_n 0, 0, 0, .null, []),
  (75, .getfield 28, 8, 7, .null, []),
  (78, .iload_n 1, 1, 0, .null, []),
  (79, .iaload, 0, 0, .null, []),
  (80, .istore 5, 5, 0, .null, []),
  (82, .aload_n 0, 0, 0, .null, []),
  (83, .getfield 28, 8, 7, .null, []),
  (86, .iload_n 1, 1, 0, .null, []),
  (87, .iload_n 2, 2, 0, .null, []),
  (88, .iastore, 0, 0, .null, []),
  (89, .aload_n 0, 0, 0, .null, []),
  (90, .getfield 31, 8, 8, .null, []),
  (93, .iload_n 1, 1, 0, .null, []),
  (94, .iload_n 2, 2, 0, .null, []),
  (95, .iconst 1, 0, 0, .int 1, []),
  (96, .if_icmp .ne 12, 60, 0, .null, []),
  (99, .aload_n 0, 0, 0, .null, []),
  (100, .iload_n 3, 3, 0, .null, []),
  (101, .iconst 0, 0, 0, .int 0, []),
  (102, .invokevirtual 88, 150, 2, .null, []),
  (105, .goto 4, 61, 0, .null, []),
  (108, .iload_n 3, 3, 0, .null, []),
  (109, .iastore, 0, 0, .null, []),
  (110, .aload_n 0, 0, 0, .null, []),
  (111, .getfield 34, 8, 9, .null, []),
  (114, .iload_n 1, 1, 0, .null, []),
  (115, .iload_n 2, 2, 0, .null, []),
  (116, .iconst 1, 0, 0, .int 1, []),
  (117, .if_icmp .ne 11, 72, 0, .null, []),
  (120, .aload_n 0, 0, 0, .null, []),
  (121, .iload_n 3, 3, 0, .null, []),
  (122, .invokevirtual 122, 161, 1, .null, []),
  (125, .goto 4, 73, 0, .null, []),
  (128, .iconst 0, 0, 0, .int 0, []),
  (129, .iastore, 0, 0, .null, []),
  (130, .iload_n 2, 2, 0, .null, []),
  (131, .iconst 2, 0, 0, .int 2, []),
  (132, .if_icmp .ne 55, 108, 0, .null, []),
  (135, .aload_n 0, 0, 0, .null, []),
  (136, .getfield 37, 8, 10, .null, []),
  (139, .iload_n 1, 1, 0, .null, []),
  (140, .aload_n 0, 0, 0, .null, []),
  (141, .getfield 22, 8, 5, .null, []),
  (144, .iload_n 3, 3, 0, .null, []),
  (145, .iaload, 0, 0, .null, []),
  (146, .iastore, 0, 0, .null, []),
  (147, .iconst 0, 0, 0, .int 0, []),
  (148, .istore 6, 6, 0, .null, []),
  (150, .iload 6, 6, 0, .null, []),
  (152, .bipush 24, 0, 0, .int 24, []),
  (154, .if_icmp .ge 33, 108, 0, .null, []),
  (157, .aload_n 0, 0, 0, .null, []),
  (158, .getfield 40, 8, 11, .null, []),
  (161, .bipush 24, 0, 0, .int 24, []),
  (163, .iload_n 1, 1, 0, .null, []),
  (164, .imul, 0, 0, .null, []),
  (165, .iload 6, 6, 0, .null, []),
  (167, .iadd, 0, 0, .null, []),
  (168, .aload_n 0, 0, 0, .null, []),
  (169, .getfield 25, 8, 6, .null, []),
  (172, .bipush 24, 0, 0, .int 24, []),
  (174, .iload_n 3, 3, 0, .null, []),
  (175, .imul, 0, 0, .null, []),
  (176, .iload 6, 6, 0, .null, []),
  (178, .iadd, 0, 0, .null, []),
  (179, .iaload, 0, 0, .null, []),
  (180, .iastore, 0, 0, .null, []),
  (181, .iinc 6 1, 6, 0, .null, []),
  (184, .goto (-34), 87, 0, .null, []),
  (187, .iload 5, 5, 0, .null, []),
  (189, .ireturn, 0, 0, .null, [])])
def mX8_ask : pM := (⟨RX8, "ask", "(II)I"⟩, prog_10_method_94_code, 3, (some FieldType.int), 1, 8, [(0, .iload_n 1, 1, 0, .null, []),
  (1, .invokestatic 318, 233, 1, .null, []),
  (4, .ifCond .eq 15, 9, 0, .null, []),
  (7, .iload_n 2, 2, 0, .null, []),
  (8, .i2l, 0, 0, .null, []),
  (9, .lconst 0, 0, 0, .long 0, []),
  (10, .ldc2_w 77, 0, 0, .long 5, []),
  (13, .invokestatic 68, 143, 3, .null, []),
  (16, .ifCond .ne 6, 11, 0, .null, []),
  (19, .ldc 83, 0, 0, .int (-1000000001), []),
  (21, .ireturn, 0, 0, .null, []),
  (22, .aload_n 0, 0, 0, .null, []),
  (23, .getfield 28, 8, 7, .null, []),
  (26, .iload_n 1, 1, 0, .null, []),
  (27, .iaload, 0, 0, .null, []),
  (28, .ifCond .ne 7, 18, 0, .null, []),
  (31, .ldc_w 307, 0, 0, .int (-1000000011), []),
  (34, .ireturn, 0, 0, .null, []),
  (35, .aload_n 0, 0, 0, .null, []),
  (36, .getfield 28, 8, 7, .null, []),
  (39, .iload_n 1, 1, 0, .null, []),
  (40, .iaload, 0, 0, .null, []),
  (41, .iconst 1, 0, 0, .int 1, []),
  (42, .if_icmp .ne 25, 36, 0, .null, []),
  (45, .aload_n 0, 0, 0, .null, []),
  (46, .getfield 31, 8, 8, .null, []),
  (49, .iload_n 1, 1, 0, .null, []),
  (50, .iaload, 0, 0, .null, []),
  (51, .iload_n 2, 2, 0, .null, []),
  (52, .invokestatic 128, 166, 2, .null, []),
  (55, .ifCond .eq 12, 36, 0, .null, []),
  (58, .aload_n 0, 0, 0, .null, []),
  (59, .getfield 34, 8, 9, .null, []),
  (62, .iload_n 1, 1, 0, .null, []),
  (63, .iaload, 0, 0, .null, []),
  (64, .goto 5, 37, 0, .null, []),
  (67, .ldc 132, 0, 0, .int (-1000000012), []),
  (69, .ireturn, 0, 0, .null, [])])
def mX8_item : pM := (⟨RX8, "item", "(II)I"⟩, prog_10_method_95_code, 4, (some FieldType.int), 1, 8, [(0, .iload_n 1, 1, 0, .null, []),
  (1, .invokestatic 318, 233, 1, .null, []),
  (4, .ifCond .ne 6, 5, 0, .null, []),
  (7, .ldc 83, 0, 0, .int (-1000000001), []),
  (9, .ireturn, 0, 0, .null, []),
  (10, .aload_n 0, 0, 0, .null, []),
  (11, .getfield 28, 8, 7, .null, []),
  (14, .iload_n 1, 1, 0, .null, []),
  (15, .iaload, 0, 0, .null, []),
  (16, .iconst 2, 0, 0, .int 2, []),
  (17, .if_icmp .eq 21, 20, 0, .null, []),
  (20, .aload_n 0, 0, 0, .null, []),
  (21, .getfield 28, 8, 7, .null, []),
  (24, .iload_n 1, 1, 0, .null, []),
  (25, .iaload, 0, 0, .null, []),
  (26, .ifCond .ne 9, 18, 0, .null, []),
  (29, .ldc_w 307, 0, 0, .int (-1000000011), []),
  (32, .goto 5, 19, 0, .null, []),
  (35, .ldc 132, 0, 0, .int (-1000000012), []),
  (37, .ireturn, 0, 0, .null, []),
  (38, .iload_n 2, 2, 0, .null, []),
  (39, .i2l, 0, 0, .null, []),
  (40, .lconst 0, 0, 0, .long 0, []),
  (41, .aload_n 0, 0, 0, .null, []),
  (42, .getfield 37, 8, 10, .null, []),
  (45, .iload_n 1, 1, 0, .null, []),
  (46, .iaload, 0, 0, .null, []),
  (47, .iconst 1, 0, 0, .int 1, []),
  (48, .isub, 0, 0, .null, []),
  (49, .i2l, 0, 0, .null, []),
  (50, .invokestatic 68, 143, 3, .null, []),
  (53, .ifCond .ne 7, 34, 0, .null, []),
  (56, .ldc_w 308, 0, 0, .int (-1000000013), []),
  (59, .ireturn, 0, 0, .null, []),
  (60, .aload_n 0, 0, 0, .null, []),
  (61, .getfield 40, 8, 11, .null, []),
  (64, .bipush 24, 0, 0, .int 24, []),
  (66, .iload_n 1, 1, 0, .null, []),
  (67, .imul, 0, 0, .null, []),
  (68, .iload_n 2, 2, 0, .null, []),
  (69, .iadd, 0, 0, .null, []),
  (70, .iaload, 0, 0, .null, []),
  (71, .istore_n 3, 3, 0, .null, []),
  (72, .iload_n 3, 3, 0, .null, []),
  (73, .ldc 67, 0, 0, .int (-1000000005), []),
  (75, .if_icmp .ne 8, 48, 0, .null, []),
  (78, .ldc 132, 0, 0, .int (-1000000012), []),
  (80, .goto 4, 49, 0, .null, []),
  (83, .iload_n 3, 3, 0, .null, []),
  (84, .ireturn, 0, 0, .null, [])])
def mX8_rest : pM := (⟨RX8, "rest", "(II)I"⟩, prog_10_method_96_code, 3, (some FieldType.int), 1, 8, [(0, .iload_n 1, 1, 0, .null, []),
  (1, .invokestatic 318, 233, 1, .null, []),
  (4, .ifCond .ne 6, 5, 0, .null, []),
  (7, .ldc 83, 0, 0, .int (-1000000001), []),
  (9, .ireturn, 0, 0, .null, []),
  (10, .aload_n 0, 0, 0, .null, []),
  (11, .getfield 28, 8, 7, .null, []),
  (14, .iload_n 1, 1, 0, .null, []),
  (15, .iaload, 0, 0, .null, []),
  (16, .iconst 3, 0, 0, .int 3, []),
  (17, .if_icmp .eq 21, 20, 0, .null, []),
  (20, .aload_n 0, 0, 0, .null, []),
  (21, .getfield 28, 8, 7, .null, []),
  (24, .iload_n 1, 1, 0, .null, []),
  (25, .iaload, 0, 0, .null, []),
  (26, .ifCond .ne 9, 18, 0, .null, []),
  (29, .ldc_w 307, 0, 0, .int (-1000000011), []),
  (32, .goto 5, 19, 0, .null, []),
  (35, .ldc 132, 0, 0, .int (-1000000012), []),
  (37, .ireturn, 0, 0, .null, []),
  (38, .iload_n 2, 2, 0, .null, []),
  (39, .ifCond .ne 9, 24, 0, .null, []),
  (42, .ldc_w 321, 0, 0, .int (-1000000002), []),
  (45, .goto 11, 30, 0, .null, []),
  (48, .aload_n 0, 0, 0, .null, []),
  (49, .getfield 31, 8, 8, .null, []),
  (52, .iload_n 1, 1, 0, .null, []),
  (53, .iaload, 0, 0, .null, []),
  (54, .iload_n 2, 2, 0, .null, []),
  (55, .irem, 0, 0, .null, []),
  (56, .ireturn, 0, 0, .null, [])])
def mX8_tell : pM := (⟨RX8, "tell", "(I)I"⟩, prog_10_method_97_code, 2, (some FieldType.int), 1, 8, [(0, .aload_n 0, 0, 0, .null, []),
  (1, .getfield 322, 8, 30, .null, []),
  (4, .bipush 60, 0, 0, .int 60, []),
  (6, .if_icmp .ne 6, 6, 0, .null, []),
  (9, .ldc 84, 0, 0, .int (-1000000003), []),
  (11, .ireturn, 0, 0, .null, []),
  (12, .aload_n 0, 0, 0, .null, []),
  (13, .getfield 61, 8, 29, .null, []),
  (16, .aload_n 0, 0, 0, .null, []),
  (17, .getfield 322, 8, 30, .null, []),
  (20, .iload_n 1, 1, 0, .null, []),
  (21, .iastore, 0, 0, .null, []),
  (22, .aload_n 0, 0, 0, .null, []),
  (23, .dup, 0, 0, .null, []),
  (24, .getfield 322, 8, 30, .null, []),
  (27, .iconst 1, 0, 0, .int 1, []),
  (28, .iadd, 0, 0, .null, []),
  (29, .putfield 322, 8, 30, .null, []),
  (32, .aload_n 0, 0, 0, .null, []),
  (33, .getfield 322, 8, 30, .null, []),
  (36, .ireturn, 0, 0, .null, [])])
def mX8_setAside : pM := (⟨RX8, "setAside", "([I[I)V"⟩, prog_10_method_98_code, 4, none, 1, 8, [(0, .iconst 0, 0, 0, .int 0, []),
  (1, .istore_n 3, 3, 0, .null, []),
  (2, .iload_n 3, 3, 0, .null, []),
  (3, .sipush 2875, 0, 0, .int 2875, []),
  (6, .if_icmp .ge 15, 13, 0, .null, []),
  (9, .aload_n 2, 2, 0, .null, []),
  (10, .iload_n 3, 3, 0, .null, []),
  (11, .aload_n 1, 1, 0, .null, []),
  (12, .iload_n 3, 3, 0, .null, []),
  (13, .iaload, 0, 0, .null, []),
  (14, .iastore, 0, 0, .null, []),
  (15, .iinc 3 1, 3, 0, .null, []),
  (18, .goto (-16), 2, 0, .null, []),
  (21, .return_, 0, 0, .null, [])])
def mX8_check : pM := (⟨RX8, "check", "(I)I"⟩, prog_10_method_99_code, 5, (some FieldType.int), 1, 8, [(0, .aload_n 0, 0, 0, .null, []),
  (1, .getfield 322, 8, 30, .null, []),
  (4, .istore_n 2, 2, 0, .null, []),
  (5, .aload_n 0, 0, 0, .null, []),
  (6, .iconst 0, 0, 0, .int 0, []),
  (7, .putfield 322, 8, 30, .null, []),
  (10, .iload_n 1, 1, 0, .null, []),
  (11, .i2l, 0, 0, .null, []),
  (12, .lconst 1, 0, 0, .long 1, []),
  (13, .ldc2_w 325, 0, 0, .long 30, []),
  (16, .invokestatic 68, 143, 3, .null, []),
  (19, .ifCond .ne 6, 14, 0, .null, []),
  (22, .ldc 83, 0, 0, .int (-1000000001), []),
  (24, .ireturn, 0, 0, .null, []),
  (25, .aload_n 0, 0, 0, .null, []),
  (26, .getfield 327, 8, 3, .null, []),
  (29, .ifCond .ne 7, 19, 0, .null, []),
  (32, .ldc_w 321, 0, 0, .int (-1000000002), []),
  (35, .ireturn, 0, 0, .null, []),
  (36, .aload_n 0, 0, 0, .null, []),
  (37, .aload_n 0, 0, 0, .null, []),
  (38, .getfield 7, 8, 0, .null, []),
  (41, .aload_n 0, 0, 0, .null, []),
  (42, .getfield 16, 8, 2, .null, []),
  (45, .invokevirtual 331, 239, 2, .null, []),
  (48, .aload_n 0, 0, 0, .null, []),
  (49, .aload_n 0, 0, 0, .null, []),
  (50, .getfield 13, 8, 1, .null, []),
  (53, .aload_n 0, 0, 0, .null, []),
  (54, .getfield 7, 8, 0, .null, []),
  (57, .invokevirtual 331, 239, 2, .null, []),
  (60, .iconst 0, 0, 0, .int 0, []),
  (61, .istore_n 3, 3, 0, .null, []),
  (62, .iconst 0, 0, 0, .int 0, []),
  (63, .istore 4, 4, 0, .null, []),
  (65, .iload 4, 4, 0, .null, []),
  (67, .iload_n 1, 1, 0, .null, []),
  (68, .if_icmp .ge 53, 64, 0, .null, []),
  (71, .aload_n 0, 0, 0, .null, []),
  (72, .getfield 7, 8, 0, .null, []),
  (75, .iconst 2, 0, 0, .int 2, []),
  (76, .iaload, 0, 0, .null, []),
  (77, .sipush 9999, 0, 0, .int 9999, []),
  (80, .if_icmp .ge 41, 64, 0, .null, []),
  (83, .aload_n 0, 0, 0, .null, []),
  (84, .invokevirtual 178, 190, 0, .null, []),
  (87, .aload_n 0, 0, 0, .null, []),
  (88, .getfield 64, 8, 31, .null, []),
  (91, .iload_n 3, 3, 0, .null, []),
  (92, .aload_n 0, 0, 0, .null, []),
  (93, .invokevirtual 183, 193, 0, .null, []),
  (96, .iastore, 0, 0, .null, []),
  (97, .aload_n 0, 0, 0, .null, []),
  (98, .getfield 64, 8, 31, .null, []),
  (101, .iload_n 3, 3, 0, .null, []),
  (102, .iconst 1, 0, 0, .int 1, []),
  (103, .iadd, 0, 0, .null, []),
  (104, .aload_n 0, 0, 0, .null, []),
  (105, .invokevirtual 163, 182, 0, .null, []),
  (108, .invokestatic 166, 147, 1, .null, []),
  (111, .iastore, 0, 0, .null, []),
  (112, .iinc 3 2, 3, 0, .null, []),
  (115, .iinc 4 1, 4, 0, .null, []),
  (118, .goto (-53), 35, 0, .null, []),
  (121, .aload_n 0, 0, 0, .null, []),
  (122, .aload_n 0, 0, 0, .null, []),
  (123, .getfield 16, 8, 2, .null, []),
  (126, .aload_n 0, 0, 0, .null, []),
  (127, .getfield 7, 8, 0, .null, []),
  (130, .invokevirtual 331, 239, 2, .null, []),
  (133, .iconst 0, 0, 0, .int 0, []),
  (134, .istore 4, 4, 0, .null, []),
  (136, .iload 4, 4, 0, .null, []),
  (138, .iload_n 2, 2, 0, .null, []),
  (139, .if_icmp .ge 32, 89, 0, .null, []),
  (142, .iload 4, 4, 0, .null, []),
  (144, .iload_n 3, 3, 0, .null, []),
  (145, .if_icmp .ge 26, 89, 0, .null, []),
  (148, .aload_n 0, 0, 0, .null, []),
  (149, .getfield 61, 8, 29, .null, []),
  (152, .iload 4, 4, 0, .null, []),
  (154, .iaload, 0, 0, .null, []),
  (155, .aload_n 0, 0, 0, .null, []),
  (156, .getfield 64, 8, 31, .null, []),
  (159, .iload 4, 4, 0, .null, []),
  (161, .iaload, 0, 0, .null, []),
  (162, .if_icmp .ne 9, 89, 0, .null, []),
  (165, .iinc 4 1, 4, 0, .null, []),
  (168, .goto (-32), 72, 0, .null, []),
  (171, .iload 4, 4, 0, .null, []),
  (173, .iload_n 2, 2, 0, .null, []),
  (174, .if_icmp .ne 13, 97, 0, .null, []),
  (177, .iload 4, 4, 0, .null, []),
  (179, .iload_n 3, 3, 0, .null, []),
  (180, .if_icmp .ne 7, 97, 0, .null, []),
  (183, .iconst 0, 0, 0, .int 0, []),
  (184, .goto 7, 100, 0, .null, []),
  (187, .iconst 1, 0, 0, .int 1, []),
  (188, .iload 4, 4, 0, .null, []),
  (190, .iadd, 0, 0, .null, []),
  (191, .ireturn, 0, 0, .null, [])])
def mX8_keep : pM := (⟨RX8, "keep", "()I"⟩, prog_10_method_100_code, 1, (some FieldType.int), 1, 8, [(0, .aload_n 0, 0, 0, .null, []),
  (1, .iconst 1, 0, 0, .int 1, []),
  (2, .putfield 327, 8, 3, .null, []),
  (5, .aload_n 0, 0, 0, .null, []),
  (6, .aload_n 0, 0, 0, .null, []),
  (7, .getfield 7, 8, 0, .null, []),
  (10, .aload_n 0, 0, 0, .null, []),
  (11, .getfield 13, 8, 1, .null, []),
  (14, .invokevirtual 331, 239, 2, .null, []),
  (17, .aload_n 0, 0, 0, .null, []),
  (18, .getfield 7, 8, 0, .null, []),
  (21, .iconst 0, 0, 0, .int 0, []),
  (22, .iaload, 0, 0, .null, []),
  (23, .ireturn, 0, 0, .null, [])])
def mX8_back : pM := (⟨RX8, "back", "()I"⟩, prog_10_method_101_code, 1, (some FieldType.int), 1, 8, [(0, .aload_n 0, 0, 0, .null, []),
  (1, .getfield 327, 8, 3, .null, []),
  (4, .ifCond .ne 7, 5, 0, .null, []),
  (7, .ldc_w 321, 0, 0, .int (-1000000002), []),
  (10, .ireturn, 0, 0, .null, []),
  (11, .aload_n 0, 0, 0, .null, []),
  (12, .aload_n 0, 0, 0, .null, []),
  (13, .getfield 13, 8, 1, .null, []),
  (16, .aload_n 0, 0, 0, .null, []),
  (17, .getfield 7, 8, 0, .null, []),
  (20, .invokevirtual 331, 239, 2, .null, []),
  (23, .aload_n 0, 0, 0, .null, []),
  (24, .getfield 7, 8, 0, .null, []),
  (27, .iconst 0, 0, 0, .int 0, []),
  (28, .iaload, 0, 0, .null, []),
  (29, .ireturn, 0, 0, .null, [])])
def mX8_count : pM := (⟨RX8, "count", "(I)I"⟩, prog_10_method_102_code, 2, (some FieldType.int), 1, 8, [(0, .iload_n 1, 1, 0, .null, []),
  (1, .tableswitch 89 0 6 #[43, 50, 57, 65, 72, 77, 82], 32, 43, .null, [2, 7, 12, 16, 21, 24, 27]),
  (44, .aload_n 0, 0, 0, .null, []),
  (45, .getfield 7, 8, 0, .null, []),
  (48, .iconst 0, 0, 0, .int 0, []),
  (49, .iaload, 0, 0, .null, []),
  (50, .ireturn, 0, 0, .null, []),
  (51, .aload_n 0, 0, 0, .null, []),
  (52, .getfield 7, 8, 0, .null, []),
  (55, .iconst 2, 0, 0, .int 2, []),
  (56, .iaload, 0, 0, .null, []),
  (57, .ireturn, 0, 0, .null, []),
  (58, .aload_n 0, 0, 0, .null, []),
  (59, .invokevirtual 163, 182, 0, .null, []),
  (62, .invokestatic 166, 147, 1, .null, []),
  (65, .ireturn, 0, 0, .null, []),
  (66, .aload_n 0, 0, 0, .null, []),
  (67, .getfield 7, 8, 0, .null, []),
  (70, .iconst 1, 0, 0, .int 1, []),
  (71, .iaload, 0, 0, .null, []),
  (72, .ireturn, 0, 0, .null, []),
  (73, .aload_n 0, 0, 0, .null, []),
  (74, .getfield 322, 8, 30, .null, []),
  (77, .ireturn, 0, 0, .null, []),
  (78, .aload_n 0, 0, 0, .null, []),
  (79, .getfield 201, 8, 15, .null, []),
  (82, .ireturn, 0, 0, .null, []),
  (83, .aload_n 0, 0, 0, .null, []),
  (84, .getfield 7, 8, 0, .null, []),
  (87, .iconst 4, 0, 0, .int 4, []),
  (88, .iaload, 0, 0, .null, []),
  (89, .ireturn, 0, 0, .null, []),
  (90, .ldc 83, 0, 0, .int (-1000000001), []),
  (92, .ireturn, 0, 0, .null, [])])
def mJ6_bitCount_0f7a4 : pM := (⟨RJ6, "bitCount", "(I)I"⟩, prog_12_method_49_code, 1, (some FieldType.int), 0, 99, [(0, .iload_n 0, 0, 0, .null, []),
  (1, .iload_n 0, 0, 0, .null, []),
  (2, .iconst 1, 0, 0, .int 1, []),
  (3, .iushr, 0, 0, .null, []),
  (4, .ldc_w 265, 0, 0, .int 1431655765, []),
  (7, .iand, 0, 0, .null, []),
  (8, .isub, 0, 0, .null, []),
  (9, .istore_n 0, 0, 0, .null, []),
  (10, .iload_n 0, 0, 0, .null, []),
  (11, .ldc_w 266, 0, 0, .int 858993459, []),
  (14, .iand, 0, 0, .null, []),
  (15, .iload_n 0, 0, 0, .null, []),
  (16, .iconst 2, 0, 0, .int 2, []),
  (17, .iushr, 0, 0, .null, []),
  (18, .ldc_w 266, 0, 0, .int 858993459, []),
  (21, .iand, 0, 0, .null, []),
  (22, .iadd, 0, 0, .null, []),
  (23, .istore_n 0, 0, 0, .null, []),
  (24, .iload_n 0, 0, 0, .null, []),
  (25, .iload_n 0, 0, 0, .null, []),
  (26, .iconst 4, 0, 0, .int 4, []),
  (27, .iushr, 0, 0, .null, []),
  (28, .iadd, 0, 0, .null, []),
  (29, .ldc_w 267, 0, 0, .int 252645135, []),
  (32, .iand, 0, 0, .null, []),
  (33, .istore_n 0, 0, 0, .null, []),
  (34, .iload_n 0, 0, 0, .null, []),
  (35, .iload_n 0, 0, 0, .null, []),
  (36, .bipush 8, 0, 0, .int 8, []),
  (38, .iushr, 0, 0, .null, []),
  (39, .iadd, 0, 0, .null, []),
  (40, .istore_n 0, 0, 0, .null, []),
  (41, .iload_n 0, 0, 0, .null, []),
  (42, .iload_n 0, 0, 0, .null, []),
  (43, .bipush 16, 0, 0, .int 16, []),
  (45, .iushr, 0, 0, .null, []),
  (46, .iadd, 0, 0, .null, []),
  (47, .istore_n 0, 0, 0, .null, []),
  (48, .iload_n 0, 0, 0, .null, []),
  (49, .bipush 63, 0, 0, .int 63, []),
  (51, .iand, 0, 0, .null, []),
  (52, .ireturn, 0, 0, .null, [])])
def mJ7_fill_53178 : pM := (⟨RJ7, "fill", "([II)V"⟩, prog_18_method_103_code, 4, none, 0, 99, [(0, .iconst 0, 0, 0, .int 0, []),
  (1, .istore_n 2, 2, 0, .null, []),
  (2, .aload_n 0, 0, 0, .null, []),
  (3, .arraylength, 0, 0, .null, []),
  (4, .istore_n 3, 3, 0, .null, []),
  (5, .iload_n 2, 2, 0, .null, []),
  (6, .iload_n 3, 3, 0, .null, []),
  (7, .if_icmp .ge 13, 14, 0, .null, []),
  (10, .aload_n 0, 0, 0, .null, []),
  (11, .iload_n 2, 2, 0, .null, []),
  (12, .iload_n 1, 1, 0, .null, []),
  (13, .iastore, 0, 0, .null, []),
  (14, .iinc 2 1, 2, 0, .null, []),
  (17, .goto (-12), 5, 0, .null, []),
  (20, .return_, 0, 0, .null, [])])
def prog : List pM := [mX0_init, mX0_begin, mX0_add, mX0_at, mX0_takeFrom, mX1_init, mX1_one, mX1_worked, mX1_push, mX1_pop, mX1_named, mX1_joined, mX2_init, mX2_hasRoom, mX2_takeNumber, mX2_readInto, mX2_nextWord, mX2_byteAt, mX2_sortOf, mX2_isLetter, mX2_keyRead, mX2_isWord, mX2_goesOn, mX2_takePiece, mX2_numberRead, mX2_nameRead, mX2_takeAhead, mX2_takeBehind, mX2_endPiece, mX2_unwind, mX2_rankOf, mX2_push, mX2_peek, mX3_init, mX3_become, mX3_isMissing, mX3_has, mX3_hasAll, mX3_at, mX3_put, mX3_takeFrom, mX4_init, mX4_begin, mX4_takeFrom, mX4_value, mX4_become, mX4_isOf, mX4_isLaid, mX4_covers, mX4_covered, mX4_sayAt, mX4_rubbedAt, mX4_bolder, mX4_fainter, mX4_gainOver, mX4_loss, mX4_worth, mX4_joined, mX4_clashes, mX5_init, mX6_init, mX6_takeFrom, mX6_hasRoom, mX6_add, mX6_one, mX6_trustOf, mX6_layOne, mX6_markAt, mX6_carveAt, mX6_draw, mX6_falsehood, mX6_trustOfAll, mX6_laidSet, mX6_coveredBy, mX6_open, mX6_noteClashes, mX6_anyClash, mX6_deniers, mX6_flow, mX6_seeAgain, mX6_gainOf, mX6_given, mX6_textFor, mX6_lawAt, mX6_addText, mX7_init, mX7_rubbing, mX7_told, mX7_says, mX7_as, mX7_turns, mX7_set, mX7_carve, mX7_carved, mX7_deal, mX7_seed, mX7_falseAt, mX7_fits, mX7_join, mX7_clash, mX7_undone, mX7_borne, mX7_look, mX7_tides, mX7_book, mX7_behind, mX7_lasts, mX7_best, mX7_taught, mX7_whose, mX7_fee, mX7_fine, mX7_feed, mX7_trim, mX7_text, mX7_textTold, mX7_why, mX7_sheet, mX7_mark, mX7_pour, mX7_reads, mX7_copy, mX7_lay, mX7_ask, mX7_item, mX7_rest, mX7_tell, mX7_check, mX7_keep, mX7_back, mX7_count, mX7_within, mX7_held, mX7_isPlace, mX7_isKind, mX7_isSettable, mX7_leastValue, mX7_mostValue, mX7_isFewerOf, mX7_apart, mX7_rowOf, mX7_slotOf, mX8_init, mX8_isIn, mX8_orNone, mX8_within, mX8_off, mX8_manyIn, mX8_becomes, mX8_textAt, mX8_of, mX8_sets, mX8_isRubbing, mX8_isText, mX8_drawn, mX8_comes, mX8_rubbing, mX8_bolder, mX8_saysAt, mX8_gains, mX8_loses, mX8_worth, mX8_coversFrom, mX8_covers, mX8_told, mX8_says, mX8_isOf, mX8_as, mX8_turns, mX8_mostOf, mX8_set, mX8_carve, mX8_carved, mX8_deal, mX8_seed, mX8_falseOf, mX8_falseAt, mX8_fits, mX8_joinBy, mX8_join, mX8_doClash, mX8_clash, mX8_laidOnes, mX8_coveredBy, mX8_findClashing, mX8_areAtPeace, mX8_undone, mX8_borne, mX8_otherwiseAt, mX8_look, mX8_goesOn, mX8_goesOnMany, mX8_tides, mX8_allTrust, mX8_book, mX8_laysBy, mX8_laysBack, mX8_behind, mX8_lasts, mX8_best, mX8_taught, mX8_fee, mX8_fine, mX8_feed, mX8_trim, mX8_isLetter, mX8_isDigit, mX8_nextToken, mX8_isSign, mX8_isWordAt, mX8_key, mX8_isName, mX8_step, mX8_either, mX8_both, mX8_test, mX8_sum, mX8_term, mX8_part0, mX8_parse, mX8_text, mX8_textTold, mX8_counts, mX8_why, mX8_joined, mX8_worked, mX8_isSheet, mX8_sheet, mX8_mark, mX8_pour, mX8_reads, mX8_whose, mX8_copy, mX8_isSlot, mX8_lay, mX8_ask, mX8_item, mX8_rest, mX8_tell, mX8_setAside, mX8_check, mX8_keep, mX8_back, mX8_count, mJ6_bitCount_0f7a4, mJ7_fill_53178]
end
section
/-! ===== the cells of a new object (printed by program) ===== -/
def hC : List pC := [.inr (.inr (7, [.ref 1, .ref 34, .ref 48, .ref 62, .ref 76, .ref 79, .ref 80, .ref 81, .int 0, .int 0])),
  .inr (.inr (1, [.ref 2, .ref 3, .ref 5, .int 0])),
  .inr (.inl (0, 14, va_up (va_up (va_up (va_up (va_up (va_up (va_up (va_up (va_up (va_up (va_up (va_up (va_up (va_up (fun _ => none) 0 (some 6)) 1 (some 8)) 2 (some 10)) 3 (some 12)) 4 (some 14)) 5 (some 16)) 6 (some 18)) 7 (some 20)) 8 (some 22)) 9 (some 24)) 10 (some 26)) 11 (some 28)) 12 (some 30)) 13 (some 32))),
  .inr (.inr (0, [.ref 4, .int 0, .int 0, .int 0])),
  .inl (96, fun _ => 0),
  .inl (96, fun _ => 0),
  .inr (.inr (0, [.ref 7, .int 0, .int 0, .int 0])),
  .inl (96, fun _ => 0),
  .inr (.inr (0, [.ref 9, .int 0, .int 0, .int 0])),
  .inl (96, fun _ => 0),
  .inr (.inr (0, [.ref 11, .int 0, .int 0, .int 0])),
  .inl (96, fun _ => 0),
  .inr (.inr (0, [.ref 13, .int 0, .int 0, .int 0])),
  .inl (96, fun _ => 0),
  .inr (.inr (0, [.ref 15, .int 0, .int 0, .int 0])),
  .inl (96, fun _ => 0),
  .inr (.inr (0, [.ref 17, .int 0, .int 0, .int 0])),
  .inl (96, fun _ => 0),
  .inr (.inr (0, [.ref 19, .int 0, .int 0, .int 0])),
  .inl (96, fun _ => 0),
  .inr (.inr (0, [.ref 21, .int 0, .int 0, .int 0])),
  .inl (96, fun _ => 0),
  .inr (.inr (0, [.ref 23, .int 0, .int 0, .int 0])),
  .inl (96, fun _ => 0),
  .inr (.inr (0, [.ref 25, .int 0, .int 0, .int 0])),
  .inl (96, fun _ => 0),
  .inr (.inr (0, [.ref 27, .int 0, .int 0, .int 0])),
  .inl (96, fun _ => 0),
  .inr (.inr (0, [.ref 29, .int 0, .int 0, .int 0])),
  .inl (96, fun _ => 0),
  .inr (.inr (0, [.ref 31, .int 0, .int 0, .int 0])),
  .inl (96, fun _ => 0),
  .inr (.inr (0, [.ref 33, .int 0, .int 0, .int 0])),
  .inl (96, fun _ => 0),
  .inr (.inr (6, [.ref 1, .ref 35, .ref 36, .ref 37, .ref 38, .int 0, .int 0, .int 0, .int 0, .int 1])),
  .inl (16, fun _ => 0),
  .inr (.inl (4, 9, va_up (va_up (va_up (va_up (va_up (va_up (va_up (va_up (va_up (fun _ => none) 0 (some 39)) 1 (some 40)) 2 (some 41)) 3 (some 42)) 4 (some 43)) 5 (some 44)) 6 (some 45)) 7 (some 46)) 8 (some 47))),
  .inl (9, fun _ => 0),
  .inl (3, va_up (va_up (va_up (fun _ => 0) 0 (-1000000005)) 1 (-1000000005)) 2 (-1000000005)),
  .inr (.inr (4, [.int 0, .int 0, .int 1, .int 0, .int 16, .int 50])),
  .inr (.inr (4, [.int 0, .int 0, .int 1, .int 0, .int 16, .int 50])),
  .inr (.inr (4, [.int 0, .int 0, .int 1, .int 0, .int 16, .int 50])),
  .inr (.inr (4, [.int 0, .int 0, .int 1, .int 0, .int 16, .int 50])),
  .inr (.inr (4, [.int 0, .int 0, .int 1, .int 0, .int 16, .int 50])),
  .inr (.inr (4, [.int 0, .int 0, .int 1, .int 0, .int 16, .int 50])),
  .inr (.inr (4, [.int 0, .int 0, .int 1, .int 0, .int 16, .int 50])),
  .inr (.inr (4, [.int 0, .int 0, .int 1, .int 0, .int 16, .int 50])),
  .inr (.inr (4, [.int 0, .int 0, .int 1, .int 0, .int 16, .int 50])),
  .inr (.inr (6, [.ref 1, .ref 49, .ref 50, .ref 51, .ref 52, .int 0, .int 0, .int 0, .int 0, .int 1])),
  .inl (16, fun _ => 0),
  .inr (.inl (4, 9, va_up (va_up (va_up (va_up (va_up (va_up (va_up (va_up (va_up (fun _ => none) 0 (some 53)) 1 (some 54)) 2 (some 55)) 3 (some 56)) 4 (some 57)) 5 (some 58)) 6 (some 59)) 7 (some 60)) 8 (some 61))),
  .inl (9, fun _ => 0),
  .inl (3, va_up (va_up (va_up (fun _ => 0) 0 (-1000000005)) 1 (-1000000005)) 2 (-1000000005)),
  .inr (.inr (4, [.int 0, .int 0, .int 1, .int 0, .int 16, .int 50])),
  .inr (.inr (4, [.int 0, .int 0, .int 1, .int 0, .int 16, .int 50])),
  .inr (.inr (4, [.int 0, .int 0, .int 1, .int 0, .int 16, .int 50])),
  .inr (.inr (4, [.int 0, .int 0, .int 1, .int 0, .int 16, .int 50])),
  .inr (.inr (4, [.int 0, .int 0, .int 1, .int 0, .int 16, .int 50])),
  .inr (.inr (4, [.int 0, .int 0, .int 1, .int 0, .int 16, .int 50])),
  .inr (.inr (4, [.int 0, .int 0, .int 1, .int 0, .int 16, .int 50])),
  .inr (.inr (4, [.int 0, .int 0, .int 1, .int 0, .int 16, .int 50])),
  .inr (.inr (4, [.int 0, .int 0, .int 1, .int 0, .int 16, .int 50])),
  .inr (.inr (6, [.ref 1, .ref 63, .ref 64, .ref 65, .ref 66, .int 0, .int 0, .int 0, .int 0, .int 1])),
  .inl (16, fun _ => 0),
  .inr (.inl (4, 9, va_up (va_up (va_up (va_up (va_up (va_up (va_up (va_up (va_up (fun _ => none) 0 (some 67)) 1 (some 68)) 2 (some 69)) 3 (some 70)) 4 (some 71)) 5 (some 72)) 6 (some 73)) 7 (some 74)) 8 (some 75))),
  .inl (9, fun _ => 0),
  .inl (3, va_up (va_up (va_up (fun _ => 0) 0 (-1000000005)) 1 (-1000000005)) 2 (-1000000005)),
  .inr (.inr (4, [.int 0, .int 0, .int 1, .int 0, .int 16, .int 50])),
  .inr (.inr (4, [.int 0, .int 0, .int 1, .int 0, .int 16, .int 50])),
  .inr (.inr (4, [.int 0, .int 0, .int 1, .int 0, .int 16, .int 50])),
  .inr (.inr (4, [.int 0, .int 0, .int 1, .int 0, .int 16, .int 50])),
  .inr (.inr (4, [.int 0, .int 0, .int 1, .int 0, .int 16, .int 50])),
  .inr (.inr (4, [.int 0, .int 0, .int 1, .int 0, .int 16, .int 50])),
  .inr (.inr (4, [.int 0, .int 0, .int 1, .int 0, .int 16, .int 50])),
  .inr (.inr (4, [.int 0, .int 0, .int 1, .int 0, .int 16, .int 50])),
  .inr (.inr (4, [.int 0, .int 0, .int 1, .int 0, .int 16, .int 50])),
  .inr (.inr (2, [.ref 77, .int 0, .int 0, .int 0, .int 0, .int 0, .ref 78, .int 0, .int 0, .int 0, .int 0])),
  .inl (96, fun _ => 0),
  .inl (96, fun _ => 0),
  .inr (.inl (3, 4, va_up (va_up (va_up (va_up (fun _ => none) 0 (some 82)) 1 (some 84)) 2 (some 86)) 3 (some 88))),
  .inr (.inl (5, 5, va_up (va_up (va_up (va_up (va_up (fun _ => none) 0 (some 90)) 1 (some 94)) 2 (some 98)) 3 (some 102)) 4 (some 106))),
  .inl (60, fun _ => 0),
  .inr (.inr (3, [.ref 83, .int (-1), .int 0])),
  .inl (24, fun _ => 0),
  .inr (.inr (3, [.ref 85, .int (-1), .int 0])),
  .inl (24, fun _ => 0),
  .inr (.inr (3, [.ref 87, .int (-1), .int 0])),
  .inl (24, fun _ => 0),
  .inr (.inr (3, [.ref 89, .int (-1), .int 0])),
  .inl (24, fun _ => 0),
  .inr (.inr (5, [.ref 91, .ref 92, .int 0, .int 0])),
  .inr (.inr (4, [.int 0, .int 0, .int 1, .int 0, .int 16, .int 50])),
  .inr (.inr (3, [.ref 93, .int (-1), .int 0])),
  .inl (24, fun _ => 0),
  .inr (.inr (5, [.ref 95, .ref 96, .int 0, .int 0])),
  .inr (.inr (4, [.int 0, .int 0, .int 1, .int 0, .int 16, .int 50])),
  .inr (.inr (3, [.ref 97, .int (-1), .int 0])),
  .inl (24, fun _ => 0),
  .inr (.inr (5, [.ref 99, .ref 100, .int 0, .int 0])),
  .inr (.inr (4, [.int 0, .int 0, .int 1, .int 0, .int 16, .int 50])),
  .inr (.inr (3, [.ref 101, .int (-1), .int 0])),
  .inl (24, fun _ => 0),
  .inr (.inr (5, [.ref 103, .ref 104, .int 0, .int 0])),
  .inr (.inr (4, [.int 0, .int 0, .int 1, .int 0, .int 16, .int 50])),
  .inr (.inr (3, [.ref 105, .int (-1), .int 0])),
  .inl (24, fun _ => 0),
  .inr (.inr (5, [.ref 107, .ref 108, .int 0, .int 0])),
  .inr (.inr (4, [.int 0, .int 0, .int 1, .int 0, .int 16, .int 50])),
  .inr (.inr (3, [.ref 109, .int (-1), .int 0])),
  .inl (24, fun _ => 0)]
def h0 : List pC := [.inr (.inr (7, [.ref 1, .ref 34, .ref 48, .ref 62, .ref 76, .ref 79, .ref 80, .ref 81, .int 0, .int 0])),
  .inr (.inr (1, [.ref 2, .ref 3, .ref 5, .int 0])),
  .inr (.inl (0, 14, va_up (va_up (va_up (va_up (va_up (va_up (va_up (va_up (va_up (va_up (va_up (va_up (va_up (va_up (fun _ => none) 0 (some 6)) 1 (some 8)) 2 (some 10)) 3 (some 12)) 4 (some 14)) 5 (some 16)) 6 (some 18)) 7 (some 20)) 8 (some 22)) 9 (some 24)) 10 (some 26)) 11 (some 28)) 12 (some 30)) 13 (some 32))),
  .inr (.inr (0, [.ref 4, .int 0, .int 0, .int 0])),
  .inl (96, fun _ => 0),
  .inl (96, fun _ => 0),
  .inr (.inr (0, [.ref 7, .int 0, .int 0, .int 0])),
  .inl (96, fun _ => 0),
  .inr (.inr (0, [.ref 9, .int 0, .int 0, .int 0])),
  .inl (96, fun _ => 0),
  .inr (.inr (0, [.ref 11, .int 0, .int 0, .int 0])),
  .inl (96, fun _ => 0),
  .inr (.inr (0, [.ref 13, .int 0, .int 0, .int 0])),
  .inl (96, fun _ => 0),
  .inr (.inr (0, [.ref 15, .int 0, .int 0, .int 0])),
  .inl (96, fun _ => 0),
  .inr (.inr (0, [.ref 17, .int 0, .int 0, .int 0])),
  .inl (96, fun _ => 0),
  .inr (.inr (0, [.ref 19, .int 0, .int 0, .int 0])),
  .inl (96, fun _ => 0),
  .inr (.inr (0, [.ref 21, .int 0, .int 0, .int 0])),
  .inl (96, fun _ => 0),
  .inr (.inr (0, [.ref 23, .int 0, .int 0, .int 0])),
  .inl (96, fun _ => 0),
  .inr (.inr (0, [.ref 25, .int 0, .int 0, .int 0])),
  .inl (96, fun _ => 0),
  .inr (.inr (0, [.ref 27, .int 0, .int 0, .int 0])),
  .inl (96, fun _ => 0),
  .inr (.inr (0, [.ref 29, .int 0, .int 0, .int 0])),
  .inl (96, fun _ => 0),
  .inr (.inr (0, [.ref 31, .int 0, .int 0, .int 0])),
  .inl (96, fun _ => 0),
  .inr (.inr (0, [.ref 33, .int 0, .int 0, .int 0])),
  .inl (96, fun _ => 0),
  .inr (.inr (6, [.ref 1, .ref 35, .ref 36, .ref 37, .ref 38, .int 0, .int 0, .int 0, .int 0, .int 1])),
  .inl (16, fun _ => 0),
  .inr (.inl (4, 9, va_up (va_up (va_up (va_up (va_up (va_up (va_up (va_up (va_up (fun _ => none) 0 (some 39)) 1 (some 40)) 2 (some 41)) 3 (some 42)) 4 (some 43)) 5 (some 44)) 6 (some 45)) 7 (some 46)) 8 (some 47))),
  .inl (9, fun _ => 0),
  .inl (3, va_up (va_up (va_up (fun _ => 0) 0 (-1000000005)) 1 (-1000000005)) 2 (-1000000005)),
  .inr (.inr (4, [.int 0, .int 0, .int 1, .int 0, .int 16, .int 50])),
  .inr (.inr (4, [.int 0, .int 0, .int 1, .int 0, .int 16, .int 50])),
  .inr (.inr (4, [.int 0, .int 0, .int 1, .int 0, .int 16, .int 50])),
  .inr (.inr (4, [.int 0, .int 0, .int 1, .int 0, .int 16, .int 50])),
  .inr (.inr (4, [.int 0, .int 0, .int 1, .int 0, .int 16, .int 50])),
  .inr (.inr (4, [.int 0, .int 0, .int 1, .int 0, .int 16, .int 50])),
  .inr (.inr (4, [.int 0, .int 0, .int 1, .int 0, .int 16, .int 50])),
  .inr (.inr (4, [.int 0, .int 0, .int 1, .int 0, .int 16, .int 50])),
  .inr (.inr (4, [.int 0, .int 0, .int 1, .int 0, .int 16, .int 50])),
  .inr (.inr (6, [.ref 1, .ref 49, .ref 50, .ref 51, .ref 52, .int 0, .int 0, .int 0, .int 0, .int 1])),
  .inl (16, fun _ => 0),
  .inr (.inl (4, 9, va_up (va_up (va_up (va_up (va_up (va_up (va_up (va_up (va_up (fun _ => none) 0 (some 53)) 1 (some 54)) 2 (some 55)) 3 (some 56)) 4 (some 57)) 5 (some 58)) 6 (some 59)) 7 (some 60)) 8 (some 61))),
  .inl (9, fun _ => 0),
  .inl (3, va_up (va_up (va_up (fun _ => 0) 0 (-1000000005)) 1 (-1000000005)) 2 (-1000000005)),
  .inr (.inr (4, [.int 0, .int 0, .int 1, .int 0, .int 16, .int 50])),
  .inr (.inr (4, [.int 0, .int 0, .int 1, .int 0, .int 16, .int 50])),
  .inr (.inr (4, [.int 0, .int 0, .int 1, .int 0, .int 16, .int 50])),
  .inr (.inr (4, [.int 0, .int 0, .int 1, .int 0, .int 16, .int 50])),
  .inr (.inr (4, [.int 0, .int 0, .int 1, .int 0, .int 16, .int 50])),
  .inr (.inr (4, [.int 0, .int 0, .int 1, .int 0, .int 16, .int 50])),
  .inr (.inr (4, [.int 0, .int 0, .int 1, .int 0, .int 16, .int 50])),
  .inr (.inr (4, [.int 0, .int 0, .int 1, .int 0, .int 16, .int 50])),
  .inr (.inr (4, [.int 0, .int 0, .int 1, .int 0, .int 16, .int 50])),
  .inr (.inr (6, [.ref 1, .ref 63, .ref 64, .ref 65, .ref 66, .int 0, .int 0, .int 0, .int 0, .int 1])),
  .inl (16, fun _ => 0),
  .inr (.inl (4, 9, va_up (va_up (va_up (va_up (va_up (va_up (va_up (va_up (va_up (fun _ => none) 0 (some 67)) 1 (some 68)) 2 (some 69)) 3 (some 70)) 4 (some 71)) 5 (some 72)) 6 (some 73)) 7 (some 74)) 8 (some 75))),
  .inl (9, fun _ => 0),
  .inl (3, va_up (va_up (va_up (fun _ => 0) 0 (-1000000005)) 1 (-1000000005)) 2 (-1000000005)),
  .inr (.inr (4, [.int 0, .int 0, .int 1, .int 0, .int 16, .int 50])),
  .inr (.inr (4, [.int 0, .int 0, .int 1, .int 0, .int 16, .int 50])),
  .inr (.inr (4, [.int 0, .int 0, .int 1, .int 0, .int 16, .int 50])),
  .inr (.inr (4, [.int 0, .int 0, .int 1, .int 0, .int 16, .int 50])),
  .inr (.inr (4, [.int 0, .int 0, .int 1, .int 0, .int 16, .int 50])),
  .inr (.inr (4, [.int 0, .int 0, .int 1, .int 0, .int 16, .int 50])),
  .inr (.inr (4, [.int 0, .int 0, .int 1, .int 0, .int 16, .int 50])),
  .inr (.inr (4, [.int 0, .int 0, .int 1, .int 0, .int 16, .int 50])),
  .inr (.inr (4, [.int 0, .int 0, .int 1, .int 0, .int 16, .int 50])),
  .inr (.inr (2, [.ref 77, .int 0, .int 0, .int 0, .int 0, .int 0, .ref 78, .int 0, .int 0, .int 0, .int 0])),
  .inl (96, fun _ => 0),
  .inl (96, fun _ => 0),
  .inr (.inl (3, 4, va_up (va_up (va_up (va_up (fun _ => none) 0 (some 82)) 1 (some 84)) 2 (some 86)) 3 (some 88))),
  .inr (.inl (5, 5, va_up (va_up (va_up (va_up (va_up (fun _ => none) 0 (some 90)) 1 (some 94)) 2 (some 98)) 3 (some 102)) 4 (some 106))),
  .inl (60, fun _ => 0),
  .inr (.inr (3, [.ref 83, .int (-1), .int 0])),
  .inl (24, fun _ => 0),
  .inr (.inr (3, [.ref 85, .int (-1), .int 0])),
  .inl (24, fun _ => 0),
  .inr (.inr (3, [.ref 87, .int (-1), .int 0])),
  .inl (24, fun _ => 0),
  .inr (.inr (3, [.ref 89, .int (-1), .int 0])),
  .inl (24, fun _ => 0),
  .inr (.inr (5, [.ref 91, .ref 92, .int 0, .int 0])),
  .inr (.inr (4, [.int 0, .int 0, .int 1, .int 0, .int 16, .int 50])),
  .inr (.inr (3, [.ref 93, .int (-1), .int 0])),
  .inl (24, fun _ => 0),
  .inr (.inr (5, [.ref 95, .ref 96, .int 0, .int 0])),
  .inr (.inr (4, [.int 0, .int 0, .int 1, .int 0, .int 16, .int 50])),
  .inr (.inr (3, [.ref 97, .int (-1), .int 0])),
  .inl (24, fun _ => 0),
  .inr (.inr (5, [.ref 99, .ref 100, .int 0, .int 0])),
  .inr (.inr (4, [.int 0, .int 0, .int 1, .int 0, .int 16, .int 50])),
  .inr (.inr (3, [.ref 101, .int (-1), .int 0])),
  .inl (24, fun _ => 0),
  .inr (.inr (5, [.ref 103, .ref 104, .int 0, .int 0])),
  .inr (.inr (4, [.int 0, .int 0, .int 1, .int 0, .int 16, .int 50])),
  .inr (.inr (3, [.ref 105, .int (-1), .int 0])),
  .inl (24, fun _ => 0),
  .inr (.inr (5, [.ref 107, .ref 108, .int 0, .int 0])),
  .inr (.inr (4, [.int 0, .int 0, .int 1, .int 0, .int 16, .int 50])),
  .inr (.inr (3, [.ref 109, .int (-1), .int 0])),
  .inl (24, fun _ => 0),
  .inr (.inr (8, [.ref 111, .ref 112, .ref 113, .int 0, .ref 114, .ref 115, .ref 116, .ref 117, .ref 118, .ref 119, .ref 120, .ref 121, .ref 122, .ref 123, .ref 124, .int 0, .int 0, .int 0, .int 0, .int 0, .int 0, .int 0, .int 0, .int 0, .int 0, .int 0, .ref 125, .ref 126, .ref 127, .ref 128, .int 0, .ref 129])),
  .inl (3075, va_up (fun _ => 0) 4 1),
  .inl (3075, fun _ => 0),
  .inl (3075, fun _ => 0),
  .inl (4, va_up (va_up (va_up (va_up (fun _ => 0) 0 (-1)) 1 (-1)) 2 (-1)) 3 (-1)),
  .inl (4, fun _ => 0),
  .inl (96, fun _ => 0),
  .inl (5, fun _ => 0),
  .inl (5, fun _ => 0),
  .inl (5, fun _ => 0),
  .inl (5, fun _ => 0),
  .inl (120, fun _ => 0),
  .inl (9, fun _ => 0),
  .inl (75, fun _ => 0),
  .inl (96, fun _ => 0),
  .inl (128, fun _ => 0),
  .inl (100, fun _ => 0),
  .inl (24, fun _ => 0),
  .inl (60, fun _ => 0),
  .inl (60, fun _ => 0)]
set_option maxRecDepth 100000 in
set_option maxHeartbeats 4000000 in
theorem run_C (E : pX) (V : pV) : pexec prog E V 600 20 mX7_init 0 (pent 2 [.ref 0]) [] [.inr (.inr (7, pini 7))] = some (none, hC, 109, 2482) := by rfl
end
section
/-! ===== rules and leaves for runs with unknown ints ===== -/
section GRD
variable {P : List pM} {E : pX} {V : pV} {d : Nat} {M N : pM} {i i' : Nat} {L L' : pL} {st st' : List Value} {h h' h1 h2 : List pC} {t : pE} {r r1 r2 : Option Value} {k1 n1 k2 n2 : Nat} {res : pR}
theorem RA.if1T {k0 : ClassFile.Cond} {z : Int} {a : Int32} {pc x y : Nat} {v : Value} {ts : List Nat} {rest : List Value} (he : (m_code M)[i]? = some (pc, .ifCond k0 z, x, y, v, ts)) (hb : pc1 k0 a = true) (kt : RA P E V (d + 1) M x L rest h res) : RA P E V (d + 1) M i L (.int a :: rest) h res :=
  RA.step0 he rfl rfl (by show some (cond (pc1 k0 a) x (i + 1), L, rest, h, 0, 0) = _; rw [hb]; rfl) kt
theorem RA.if1F {k0 : ClassFile.Cond} {z : Int} {a : Int32} {pc x y : Nat} {v : Value} {ts : List Nat} {rest : List Value} (he : (m_code M)[i]? = some (pc, .ifCond k0 z, x, y, v, ts)) (hb : pc1 k0 a = false) (kf : RA P E V (d + 1) M (i + 1) L rest h res) : RA P E V (d + 1) M i L (.int a :: rest) h res :=
  RA.step0 he rfl rfl (by show some (cond (pc1 k0 a) x (i + 1), L, rest, h, 0, 0) = _; rw [hb]; rfl) kf
theorem RA.if2T {k0 : ClassFile.Cond} {z : Int} {a b : Int32} {pc x y : Nat} {v : Value} {ts : List Nat} {rest : List Value} (he : (m_code M)[i]? = some (pc, .if_icmp k0 z, x, y, v, ts)) (hb : pc2 k0 a b = true) (kt : RA P E V (d + 1) M x L rest h res) : RA P E V (d + 1) M i L (.int b :: .int a :: rest) h res :=
  RA.step0 he rfl rfl (by show some (cond (pc2 k0 a b) x (i + 1), L, rest, h, 0, 0) = _; rw [hb]; rfl) kt
theorem RA.if2F {k0 : ClassFile.Cond} {z : Int} {a b : Int32} {pc x y : Nat} {v : Value} {ts : List Nat} {rest : List Value} (he : (m_code M)[i]? = some (pc, .if_icmp k0 z, x, y, v, ts)) (hb : pc2 k0 a b = false) (kf : RA P E V (d + 1) M (i + 1) L rest h res) : RA P E V (d + 1) M i L (.int b :: .int a :: rest) h res :=
  RA.step0 he rfl rfl (by show some (cond (pc2 k0 a b) x (i + 1), L, rest, h, 0, 0) = _; rw [hb]; rfl) kf
theorem RA.sw {a : Int32} {x : Nat} {rest : List Value} (he : (m_code M)[i]? = some t) (hr : pret M t (.int a :: rest) = none) (hc : pcall P t (.int a :: rest) h = none) (hs : pstep E t i L (.int a :: rest) h = some (psw a.toInt (pkeys t) (e_x t), L, rest, h, 0, 0)) (hx : psw a.toInt (pkeys t) (e_x t) = x) (k : RA P E V (d + 1) M x L rest h res) : RA P E V (d + 1) M i L (.int a :: rest) h res := by
  rw [hx] at hs
  exact RA.step0 he hr hc hs k
theorem RA.getf {n a pc x y : Nat} {v w : Value} {ts : List Nat} {o : Nat × List Value} {rest : List Value} (he : (m_code M)[i]? = some (pc, .getfield n, x, y, v, ts)) (ho : pobj h a = some o) (hx : o.1 = x) (hw : o.2[y]? = some w) (k : RA P E V (d + 1) M (i + 1) L (w :: rest) h res) : RA P E V (d + 1) M i L (.ref a :: rest) h res :=
  RA.step0 he rfl rfl (by
    show (match pobj h a with
      | some o => if o.1 = x then (match o.2[y]? with
        | some v => pnx i L (v :: rest) h
        | none => none) else none
      | none => none) = _
    rw [ho]
    dsimp only
    rw [if_pos hx, hw]
    rfl) k
theorem RA.putf {n a pc x y : Nat} {v w : Value} {ts : List Nat} {o : Nat × List Value} {rest : List Value} (he : (m_code M)[i]? = some (pc, .putfield n, x, y, v, ts)) (ho : pobj h a = some o) (hx : o.1 = x) (hf : pfit (ptyp x y) w = true) (k : RA P E V (d + 1) M (i + 1) L rest (h.set a (.inr (.inr (o.1, o.2.set y w)))) res) : RA P E V (d + 1) M i L (w :: .ref a :: rest) h res :=
  RA.step0 he rfl rfl (by
    show (match pobj h a with
      | some o => if o.1 = x then (if pfit (ptyp x y) w = true then pnx i L rest (h.set a (.inr (.inr (o.1, o.2.set y w)))) else none) else none
      | none => none) = _
    rw [ho]
    dsimp only
    rw [if_pos hx, if_pos hf]
    rfl) k
theorem Run.ex {as : List Value} (f : Nat) (hl : (pexp as).length ≤ m_l N) (hn : ∃ u us, m_code N = u :: us) (hx : pexec P E V f d N 0 (pent (m_l N) as) [] h = some res) : Run P E V d N as h res := ⟨hl, hn, f, hx⟩
end GRD
section GRE
variable {E : pX} {V : pV} {d : Nat} {h : List pC}
theorem within_t {v lo hi : Int32} (H : lo ≤ v ∧ v ≤ hi) : Run prog E V (d + 1) mX7_within [.int v, .int lo, .int hi] h (some (.int 1), h, 0, 0) := by
  refine ⟨Nat.le_of_ble_eq_true rfl, ⟨_, _, rfl⟩, ?_⟩
  refine RA.steps 2 rfl ?_
  refine RA.if2F rfl (decide_eq_false (Int32.not_lt.mpr H.1)) ?_
  refine RA.steps 2 rfl ?_
  refine RA.if2F rfl (decide_eq_false (Int32.not_lt.mpr H.2)) ?_
  refine RA.steps 2 rfl ?_
  exact RA.ret rfl rfl
theorem within_f {v lo hi : Int32} (H : ¬ (lo ≤ v ∧ v ≤ hi)) : Run prog E V (d + 1) mX7_within [.int v, .int lo, .int hi] h (some (.int 0), h, 0, 0) := by
  refine ⟨Nat.le_of_ble_eq_true rfl, ⟨_, _, rfl⟩, ?_⟩
  refine RA.steps 2 rfl ?_
  by_cases h1 : v < lo
  · refine RA.if2T rfl (decide_eq_true h1) ?_
    refine RA.steps 1 rfl ?_
    exact RA.ret rfl rfl
  · refine RA.if2F rfl (decide_eq_false h1) ?_
    refine RA.steps 2 rfl ?_
    have h2 : hi < v := by
      refine Int32.not_le.mp (fun q => H ⟨Int32.not_lt.mp h1, q⟩)
    refine RA.if2T rfl (decide_eq_true h2) ?_
    refine RA.steps 1 rfl ?_
    exact RA.ret rfl rfl
theorem i64_le {a b : Int32} : a.toInt64 ≤ b.toInt64 ↔ a ≤ b := by
  rw [Int64.le_iff_toInt_le, Int32.le_iff_toInt_le, Int32.toInt_toInt64, Int32.toInt_toInt64]
theorem lgc_ge {x y : Int64} : 0 ≤ lg_cmp x y ↔ y ≤ x := lg_cmp_ge x y
theorem lgc_nlt {a b : Int32} (h : b ≤ a) : pc1 .lt (lg_cmp a.toInt64 b.toInt64) = false := decide_eq_false (Int32.not_lt.mpr (lgc_ge.mpr (i64_le.mpr h)))
theorem lgc_lt {a b : Int32} (h : ¬ b ≤ a) : pc1 .lt (lg_cmp a.toInt64 b.toInt64) = true := decide_eq_true (Int32.not_le.mp (fun q => h (i64_le.mp (lgc_ge.mp q))))
theorem lgc_le' (x y : Int64) : (lg_cmp x y ≤ 0) ↔ x ≤ y := by
  unfold lg_cmp
  by_cases h1 : x > y
  · rw [if_pos h1]
    exact ⟨fun q => absurd q (by decide), fun q => absurd h1 (Int64.not_lt.mpr q)⟩
  · rw [if_neg h1]
    have h2 : x ≤ y := Int64.not_lt.mp h1
    by_cases h3 : x = y
    · rw [if_pos h3]
      exact ⟨fun _ => h2, fun _ => by decide⟩
    · rw [if_neg h3]
      exact ⟨fun _ => h2, fun _ => by decide⟩
theorem lgc_ngt {a b : Int32} (h : a ≤ b) : pc1 .gt (lg_cmp a.toInt64 b.toInt64) = false := decide_eq_false (Int32.not_lt.mpr ((lgc_le' _ _).mpr (i64_le.mpr h)))
theorem lgc_gt {a b : Int32} (h : ¬ a ≤ b) : pc1 .gt (lg_cmp a.toInt64 b.toInt64) = true := decide_eq_true (Int32.not_le.mp (fun q => h (i64_le.mp ((lgc_le' _ _).mp q))))
theorem isIn_t {v lo hi : Int32} (H : lo ≤ v ∧ v ≤ hi) : Run prog E V (d + 1) mX8_isIn [.long v.toInt64, .long lo.toInt64, .long hi.toInt64] h (some (.int 1), h, 0, 0) := by
  refine ⟨Nat.le_of_ble_eq_true rfl, ⟨_, _, rfl⟩, ?_⟩
  refine RA.steps 3 rfl ?_
  refine RA.if1F rfl (lgc_nlt H.1) ?_
  refine RA.steps 3 rfl ?_
  refine RA.if1F rfl (lgc_ngt H.2) ?_
  refine RA.steps 2 rfl ?_
  exact RA.ret rfl rfl
theorem isIn_f {v lo hi : Int32} (H : ¬ (lo ≤ v ∧ v ≤ hi)) : Run prog E V (d + 1) mX8_isIn [.long v.toInt64, .long lo.toInt64, .long hi.toInt64] h (some (.int 0), h, 0, 0) := by
  refine ⟨Nat.le_of_ble_eq_true rfl, ⟨_, _, rfl⟩, ?_⟩
  refine RA.steps 3 rfl ?_
  by_cases h1 : lo ≤ v
  · refine RA.if1F rfl (lgc_nlt h1) ?_
    refine RA.steps 3 rfl ?_
    refine RA.if1T rfl (lgc_gt (fun q => H ⟨h1, q⟩)) ?_
    refine RA.steps 1 rfl ?_
    exact RA.ret rfl rfl
  · refine RA.if1T rfl (lgc_lt h1) ?_
    refine RA.steps 1 rfl ?_
    exact RA.ret rfl rfl
theorem in_no {v lo hi : Int32} (h : hi < lo) : ¬ (lo ≤ v ∧ v ≤ hi) := fun q => absurd (Int32.le_trans q.1 q.2) (Int32.not_le.mpr h)
/-- the wall of a new object has no rubbing -/
theorem one_no {w : Nat} {a1 a2 a3 a4 a5 a7 a8 a9 a10 : Value} (k : Int32) (hw : pobj h w = some (6, [a1, a2, a3, a4, a5, .int 0, a7, a8, a9, a10])) : Run prog E V (d + 1) mX6_one [.ref w, .int k] h (some .null, h, 0, 0) := by
  refine ⟨Nat.le_of_ble_eq_true rfl, ⟨_, _, rfl⟩, ?_⟩
  refine RA.steps 1 rfl ?_
  by_cases h1 : k < 0
  · refine RA.if1T rfl (decide_eq_true h1) ?_
    refine RA.steps 1 rfl ?_
    exact RA.ret rfl rfl
  · refine RA.if1F rfl (decide_eq_false h1) ?_
    refine RA.steps 2 rfl ?_
    refine RA.getf rfl hw rfl rfl ?_
    refine RA.if2T rfl (decide_eq_true (Int32.not_lt.mp h1)) ?_
    refine RA.steps 1 rfl ?_
    exact RA.ret rfl rfl
end GRE
end
section
/-! ===== each call on a new object: class and reference answer alike (printed by program) ===== -/
theorem psw_ne {z k : Int} {t d : Nat} {r : List (Int × Nat)} (h : ¬ z = k) : psw z ((k, t) :: r) d = psw z r d := if_neg h
def pV0 : pV := fun N as h => if m_c N = 2 ∧ m_l N = 1 then (match as with
  | [.ref a] => match pobj h a with
    | some o => match (o.2[3]? : Option Value), (o.2[4]? : Option Value) with
      | some (.int s), some (.int p) => if p - s = 4 ∨ p - s = 3 then none else some (some (.int (-1)))
      | _, _ => none
    | none => none
  | _ => none) else none
theorem cases_0_1 {v : Int32} (H : 0 ≤ v ∧ v ≤ 1) : v = 0 ∨ v = 1 := by
  have g1 : (0 : Int32).toInt ≤ v.toInt := Int32.le_iff_toInt_le.mp H.1
  have g2 : v.toInt ≤ (1 : Int32).toInt := Int32.le_iff_toInt_le.mp H.2
  rw [show (0 : Int32).toInt = 0 by decide] at g1
  rw [show (1 : Int32).toInt = 1 by decide] at g2
  have g3 : v.toInt = 0 ∨ v.toInt = 1 := by omega
  rcases g3 with q | q
  · exact Or.inl (Int32.toInt_inj.mp (q.trans (by decide)))
  · exact Or.inr (Int32.toInt_inj.mp (q.trans (by decide)))
theorem cases_0_2 {v : Int32} (H : 0 ≤ v ∧ v ≤ 2) : v = 0 ∨ v = 1 ∨ v = 2 := by
  have g1 : (0 : Int32).toInt ≤ v.toInt := Int32.le_iff_toInt_le.mp H.1
  have g2 : v.toInt ≤ (2 : Int32).toInt := Int32.le_iff_toInt_le.mp H.2
  rw [show (0 : Int32).toInt = 0 by decide] at g1
  rw [show (2 : Int32).toInt = 2 by decide] at g2
  have g3 : v.toInt = 0 ∨ v.toInt = 1 ∨ v.toInt = 2 := by omega
  rcases g3 with q | q | q
  · exact Or.inl (Int32.toInt_inj.mp (q.trans (by decide)))
  · exact Or.inr (Or.inl (Int32.toInt_inj.mp (q.trans (by decide))))
  · exact Or.inr (Or.inr (Int32.toInt_inj.mp (q.trans (by decide))))
theorem cases_0_3 {v : Int32} (H : 0 ≤ v ∧ v ≤ 3) : v = 0 ∨ v = 1 ∨ v = 2 ∨ v = 3 := by
  have g1 : (0 : Int32).toInt ≤ v.toInt := Int32.le_iff_toInt_le.mp H.1
  have g2 : v.toInt ≤ (3 : Int32).toInt := Int32.le_iff_toInt_le.mp H.2
  rw [show (0 : Int32).toInt = 0 by decide] at g1
  rw [show (3 : Int32).toInt = 3 by decide] at g2
  have g3 : v.toInt = 0 ∨ v.toInt = 1 ∨ v.toInt = 2 ∨ v.toInt = 3 := by omega
  rcases g3 with q | q | q | q
  · exact Or.inl (Int32.toInt_inj.mp (q.trans (by decide)))
  · exact Or.inr (Or.inl (Int32.toInt_inj.mp (q.trans (by decide))))
  · exact Or.inr (Or.inr (Or.inl (Int32.toInt_inj.mp (q.trans (by decide)))))
  · exact Or.inr (Or.inr (Or.inr (Int32.toInt_inj.mp (q.trans (by decide)))))
theorem cases_0_4 {v : Int32} (H : 0 ≤ v ∧ v ≤ 4) : v = 0 ∨ v = 1 ∨ v = 2 ∨ v = 3 ∨ v = 4 := by
  have g1 : (0 : Int32).toInt ≤ v.toInt := Int32.le_iff_toInt_le.mp H.1
  have g2 : v.toInt ≤ (4 : Int32).toInt := Int32.le_iff_toInt_le.mp H.2
  rw [show (0 : Int32).toInt = 0 by decide] at g1
  rw [show (4 : Int32).toInt = 4 by decide] at g2
  have g3 : v.toInt = 0 ∨ v.toInt = 1 ∨ v.toInt = 2 ∨ v.toInt = 3 ∨ v.toInt = 4 := by omega
  rcases g3 with q | q | q | q | q
  · exact Or.inl (Int32.toInt_inj.mp (q.trans (by decide)))
  · exact Or.inr (Or.inl (Int32.toInt_inj.mp (q.trans (by decide))))
  · exact Or.inr (Or.inr (Or.inl (Int32.toInt_inj.mp (q.trans (by decide)))))
  · exact Or.inr (Or.inr (Or.inr (Or.inl (Int32.toInt_inj.mp (q.trans (by decide))))))
  · exact Or.inr (Or.inr (Or.inr (Or.inr (Int32.toInt_inj.mp (q.trans (by decide))))))
theorem cases_0_15 {v : Int32} (H : 0 ≤ v ∧ v ≤ 15) : v = 0 ∨ v = 1 ∨ v = 2 ∨ v = 3 ∨ v = 4 ∨ v = 5 ∨ v = 6 ∨ v = 7 ∨ v = 8 ∨ v = 9 ∨ v = 10 ∨ v = 11 ∨ v = 12 ∨ v = 13 ∨ v = 14 ∨ v = 15 := by
  have g1 : (0 : Int32).toInt ≤ v.toInt := Int32.le_iff_toInt_le.mp H.1
  have g2 : v.toInt ≤ (15 : Int32).toInt := Int32.le_iff_toInt_le.mp H.2
  rw [show (0 : Int32).toInt = 0 by decide] at g1
  rw [show (15 : Int32).toInt = 15 by decide] at g2
  have g3 : v.toInt = 0 ∨ v.toInt = 1 ∨ v.toInt = 2 ∨ v.toInt = 3 ∨ v.toInt = 4 ∨ v.toInt = 5 ∨ v.toInt = 6 ∨ v.toInt = 7 ∨ v.toInt = 8 ∨ v.toInt = 9 ∨ v.toInt = 10 ∨ v.toInt = 11 ∨ v.toInt = 12 ∨ v.toInt = 13 ∨ v.toInt = 14 ∨ v.toInt = 15 := by omega
  rcases g3 with q | q | q | q | q | q | q | q | q | q | q | q | q | q | q | q
  · exact Or.inl (Int32.toInt_inj.mp (q.trans (by decide)))
  · exact Or.inr (Or.inl (Int32.toInt_inj.mp (q.trans (by decide))))
  · exact Or.inr (Or.inr (Or.inl (Int32.toInt_inj.mp (q.trans (by decide)))))
  · exact Or.inr (Or.inr (Or.inr (Or.inl (Int32.toInt_inj.mp (q.trans (by decide))))))
  · exact Or.inr (Or.inr (Or.inr (Or.inr (Or.inl (Int32.toInt_inj.mp (q.trans (by decide)))))))
  · exact Or.inr (Or.inr (Or.inr (Or.inr (Or.inr (Or.inl (Int32.toInt_inj.mp (q.trans (by decide))))))))
  · exact Or.inr (Or.inr (Or.inr (Or.inr (Or.inr (Or.inr (Or.inl (Int32.toInt_inj.mp (q.trans (by decide)))))))))
  · exact Or.inr (Or.inr (Or.inr (Or.inr (Or.inr (Or.inr (Or.inr (Or.inl (Int32.toInt_inj.mp (q.trans (by decide))))))))))
  · exact Or.inr (Or.inr (Or.inr (Or.inr (Or.inr (Or.inr (Or.inr (Or.inr (Or.inl (Int32.toInt_inj.mp (q.trans (by decide)))))))))))
  · exact Or.inr (Or.inr (Or.inr (Or.inr (Or.inr (Or.inr (Or.inr (Or.inr (Or.inr (Or.inl (Int32.toInt_inj.mp (q.trans (by decide))))))))))))
  · exact Or.inr (Or.inr (Or.inr (Or.inr (Or.inr (Or.inr (Or.inr (Or.inr (Or.inr (Or.inr (Or.inl (Int32.toInt_inj.mp (q.trans (by decide)))))))))))))
  · exact Or.inr (Or.inr (Or.inr (Or.inr (Or.inr (Or.inr (Or.inr (Or.inr (Or.inr (Or.inr (Or.inr (Or.inl (Int32.toInt_inj.mp (q.trans (by decide))))))))))))))
  · exact Or.inr (Or.inr (Or.inr (Or.inr (Or.inr (Or.inr (Or.inr (Or.inr (Or.inr (Or.inr (Or.inr (Or.inr (Or.inl (Int32.toInt_inj.mp (q.trans (by decide)))))))))))))))
  · exact Or.inr (Or.inr (Or.inr (Or.inr (Or.inr (Or.inr (Or.inr (Or.inr (Or.inr (Or.inr (Or.inr (Or.inr (Or.inr (Or.inl (Int32.toInt_inj.mp (q.trans (by decide))))))))))))))))
  · exact Or.inr (Or.inr (Or.inr (Or.inr (Or.inr (Or.inr (Or.inr (Or.inr (Or.inr (Or.inr (Or.inr (Or.inr (Or.inr (Or.inr (Or.inl (Int32.toInt_inj.mp (q.trans (by decide)))))))))))))))))
  · exact Or.inr (Or.inr (Or.inr (Or.inr (Or.inr (Or.inr (Or.inr (Or.inr (Or.inr (Or.inr (Or.inr (Or.inr (Or.inr (Or.inr (Or.inr (Int32.toInt_inj.mp (q.trans (by decide)))))))))))))))))
theorem cases_1_9 {v : Int32} (H : 1 ≤ v ∧ v ≤ 9) : v = 1 ∨ v = 2 ∨ v = 3 ∨ v = 4 ∨ v = 5 ∨ v = 6 ∨ v = 7 ∨ v = 8 ∨ v = 9 := by
  have g1 : (1 : Int32).toInt ≤ v.toInt := Int32.le_iff_toInt_le.mp H.1
  have g2 : v.toInt ≤ (9 : Int32).toInt := Int32.le_iff_toInt_le.mp H.2
  rw [show (1 : Int32).toInt = 1 by decide] at g1
  rw [show (9 : Int32).toInt = 9 by decide] at g2
  have g3 : v.toInt = 1 ∨ v.toInt = 2 ∨ v.toInt = 3 ∨ v.toInt = 4 ∨ v.toInt = 5 ∨ v.toInt = 6 ∨ v.toInt = 7 ∨ v.toInt = 8 ∨ v.toInt = 9 := by omega
  rcases g3 with q | q | q | q | q | q | q | q | q
  · exact Or.inl (Int32.toInt_inj.mp (q.trans (by decide)))
  · exact Or.inr (Or.inl (Int32.toInt_inj.mp (q.trans (by decide))))
  · exact Or.inr (Or.inr (Or.inl (Int32.toInt_inj.mp (q.trans (by decide)))))
  · exact Or.inr (Or.inr (Or.inr (Or.inl (Int32.toInt_inj.mp (q.trans (by decide))))))
  · exact Or.inr (Or.inr (Or.inr (Or.inr (Or.inl (Int32.toInt_inj.mp (q.trans (by decide)))))))
  · exact Or.inr (Or.inr (Or.inr (Or.inr (Or.inr (Or.inl (Int32.toInt_inj.mp (q.trans (by decide))))))))
  · exact Or.inr (Or.inr (Or.inr (Or.inr (Or.inr (Or.inr (Or.inl (Int32.toInt_inj.mp (q.trans (by decide)))))))))
  · exact Or.inr (Or.inr (Or.inr (Or.inr (Or.inr (Or.inr (Or.inr (Or.inl (Int32.toInt_inj.mp (q.trans (by decide))))))))))
  · exact Or.inr (Or.inr (Or.inr (Or.inr (Or.inr (Or.inr (Or.inr (Or.inr (Int32.toInt_inj.mp (q.trans (by decide))))))))))
theorem le_lt_3 {v : Int32} (h : v ≤ 2) : v < 3 := by
  have g1 := Int32.le_iff_toInt_le.mp h
  rw [show (2 : Int32).toInt = 2 by decide] at g1
  refine Int32.lt_iff_toInt_lt.mpr ?_
  rw [show (3 : Int32).toInt = 3 by decide]
  omega
theorem in_lt_3 {v : Int32} (h1 : ¬ v < 0) (h2 : v < 3) : 0 ≤ v ∧ v ≤ 2 := by
  have g1 := Int32.lt_iff_toInt_lt.mp h2
  rw [show (3 : Int32).toInt = 3 by decide] at g1
  refine ⟨Int32.not_lt.mp h1, Int32.le_iff_toInt_le.mpr ?_⟩
  rw [show (2 : Int32).toInt = 2 by decide]
  omega
theorem le_lt_4 {v : Int32} (h : v ≤ 3) : v < 4 := by
  have g1 := Int32.le_iff_toInt_le.mp h
  rw [show (3 : Int32).toInt = 3 by decide] at g1
  refine Int32.lt_iff_toInt_lt.mpr ?_
  rw [show (4 : Int32).toInt = 4 by decide]
  omega
theorem in_lt_4 {v : Int32} (h1 : ¬ v < 0) (h2 : v < 4) : 0 ≤ v ∧ v ≤ 3 := by
  have g1 := Int32.lt_iff_toInt_lt.mp h2
  rw [show (4 : Int32).toInt = 4 by decide] at g1
  refine ⟨Int32.not_lt.mp h1, Int32.le_iff_toInt_le.mpr ?_⟩
  rw [show (3 : Int32).toInt = 3 by decide]
  omega
theorem le_lt_5 {v : Int32} (h : v ≤ 4) : v < 5 := by
  have g1 := Int32.le_iff_toInt_le.mp h
  rw [show (4 : Int32).toInt = 4 by decide] at g1
  refine Int32.lt_iff_toInt_lt.mpr ?_
  rw [show (5 : Int32).toInt = 5 by decide]
  omega
theorem in_lt_5 {v : Int32} (h1 : ¬ v < 0) (h2 : v < 5) : 0 ≤ v ∧ v ≤ 4 := by
  have g1 := Int32.lt_iff_toInt_lt.mp h2
  rw [show (5 : Int32).toInt = 5 by decide] at g1
  refine ⟨Int32.not_lt.mp h1, Int32.le_iff_toInt_le.mpr ?_⟩
  rw [show (4 : Int32).toInt = 4 by decide]
  omega
theorem le_lt_16 {v : Int32} (h : v ≤ 15) : v < 16 := by
  have g1 := Int32.le_iff_toInt_le.mp h
  rw [show (15 : Int32).toInt = 15 by decide] at g1
  refine Int32.lt_iff_toInt_lt.mpr ?_
  rw [show (16 : Int32).toInt = 16 by decide]
  omega
theorem in_lt_16 {v : Int32} (h1 : ¬ v < 0) (h2 : v < 16) : 0 ≤ v ∧ v ≤ 15 := by
  have g1 := Int32.lt_iff_toInt_lt.mp h2
  rw [show (16 : Int32).toInt = 16 by decide] at g1
  refine ⟨Int32.not_lt.mp h1, Int32.le_iff_toInt_le.mpr ?_⟩
  rw [show (15 : Int32).toInt = 15 by decide]
  omega
theorem cases_m1_1 {v : Int32} (H : -1 ≤ v ∧ v ≤ 1) : v = -1 ∨ v = 0 ∨ v = 1 := by
  have g1 : (-1 : Int32).toInt ≤ v.toInt := Int32.le_iff_toInt_le.mp H.1
  have g2 : v.toInt ≤ (1 : Int32).toInt := Int32.le_iff_toInt_le.mp H.2
  rw [show (-1 : Int32).toInt = -1 by decide] at g1
  rw [show (1 : Int32).toInt = 1 by decide] at g2
  have g3 : v.toInt = -1 ∨ v.toInt = 0 ∨ v.toInt = 1 := by omega
  rcases g3 with q | q | q
  · exact Or.inl (Int32.toInt_inj.mp (q.trans (by decide)))
  · exact Or.inr (Or.inl (Int32.toInt_inj.mp (q.trans (by decide))))
  · exact Or.inr (Or.inr (Int32.toInt_inj.mp (q.trans (by decide))))
end
section
/-! ===== loops on a new object ===== -/
section LPS
variable {P : List pM} {E : pX} {V : pV} {d : Nat} {M N : pM} {i i' : Nat} {L L' : pL} {st st' : List Value} {h h' h1 h2 : List pC} {t : pE} {r r1 r2 : Option Value} {res : pR} {j k : Nat} {c : pC}
theorem pobj_lt {o : Nat × List Value} (ho : pobj h k = some o) : k < h.length := (List.getElem?_eq_some_iff.mp (pobj_at ho)).1
theorem pint_lt {o : Nat × (Nat → Int32)} (ho : pint h k = some o) : k < h.length := (List.getElem?_eq_some_iff.mp (pint_at ho)).1
theorem pobj_set {o : Nat × List Value} (hk : k < h.length) : pobj (h.set k (.inr (.inr o))) k = some o := by
  unfold pobj
  rw [List.getElem?_set_self hk]
theorem pint_set {o : Nat × (Nat → Int32)} (hk : k < h.length) : pint (h.set k (.inl o)) k = some o := by
  unfold pint
  rw [List.getElem?_set_self hk]
theorem pobj_ne (hjk : k ≠ j) : pobj (h.set k c) j = pobj h j := by
  unfold pobj
  rw [List.getElem?_set_ne hjk]
theorem pint_ne (hjk : k ≠ j) : pint (h.set k c) j = pint h j := by
  unfold pint
  rw [List.getElem?_set_ne hjk]
theorem set_sameO {o : Nat × List Value} (ho : pobj h k = some o) : h.set k (.inr (.inr o)) = h := by
  have h1 := pobj_at ho
  obtain ⟨hl, he⟩ := List.getElem?_eq_some_iff.mp h1
  rw [← he]
  exact List.set_getElem_self hl
theorem set_sameI {o : Nat × (Nat → Int32)} (ho : pint h k = some o) : h.set k (.inl o) = h := by
  have h1 := pint_at ho
  obtain ⟨hl, he⟩ := List.getElem?_eq_some_iff.mp h1
  rw [← he]
  exact List.set_getElem_self hl
theorem pcallV {n pc x y b : Nat} {v : Value} {ts : List Nat} {st rest : List Value} {o : Nat × List Value} (hN : P[x]? = some N) (hd : st.drop y = .ref b :: rest) (ho : pobj h b = some o) (hk : m_k N = 1) (hc : o.1 = m_c N) (h8 : pcs rest ≤ 8) : pcall P (pc, .invokevirtual n, x, y, v, ts) st h = some (N, .ref b :: (st.take y).reverse, rest) := by
  show (match P[x]? with
    | some M => match st.drop y with
      | .ref b :: r => match pobj h b with
        | some o => if m_k M = 1 ∧ o.1 = m_c M ∧ pcs r ≤ 8 then some (M, Value.ref b :: (st.take y).reverse, r) else none
        | none => none
      | _ => none
    | none => none) = _
  rw [hN]
  dsimp only
  rw [hd]
  dsimp only
  rw [ho]
  dsimp only
  rw [if_pos ⟨hk, hc, h8⟩]
theorem RA.iald {a pc x y : Nat} {v : Value} {w j : Int32} {ts : List Nat} {o : Nat × (Nat → Int32)} {rest : List Value} (he : (m_code M)[i]? = some (pc, .iaload, x, y, v, ts)) (ho : pint h a = some o) (hj : 0 ≤ j ∧ j.toNatClampNeg < o.1) (hw : o.2 j.toNatClampNeg = w) (k : RA P E V (d + 1) M (i + 1) L (.int w :: rest) h res) : RA P E V (d + 1) M i L (.int j :: .ref a :: rest) h res :=
  RA.step0 he rfl rfl (by
    show (match pint h a with
      | some x => if 0 ≤ j ∧ j.toNatClampNeg < x.1 then pnx i L (.int (x.2 j.toNatClampNeg) :: rest) h else none
      | none => none) = _
    rw [ho]
    dsimp only
    rw [if_pos hj, hw]
    rfl) k
theorem RA.iast {a pc x y : Nat} {v : Value} {w j : Int32} {ts : List Nat} {o : Nat × (Nat → Int32)} {rest : List Value} (he : (m_code M)[i]? = some (pc, .iastore, x, y, v, ts)) (ho : pint h a = some o) (hj : 0 ≤ j ∧ j.toNatClampNeg < o.1) (k : RA P E V (d + 1) M (i + 1) L rest (h.set a (.inl (o.1, va_up o.2 j.toNatClampNeg w))) res) : RA P E V (d + 1) M i L (.int w :: .int j :: .ref a :: rest) h res :=
  RA.step0 he rfl rfl (by
    show (match pint h a with
      | some x => if 0 ≤ j ∧ j.toNatClampNeg < x.1 then pnx i L rest (h.set a (.inl (x.1, va_up x.2 j.toNatClampNeg w))) else none
      | none => none) = _
    rw [ho]
    dsimp only
    rw [if_pos hj]
    rfl) k
theorem RA.iinc {n pc x y : Nat} {z : Int} {v : Value} {a b : Int32} {ts : List Nat} (he : (m_code M)[i]? = some (pc, .iinc n z, x, y, v, ts)) (hv : pget L x = some (.int a)) (hb : a + Int32.ofInt z = b) (hp : pset L x (.int b) = some L') (k : RA P E V (d + 1) M (i + 1) L' st h res) : RA P E V (d + 1) M i L st h res :=
  RA.step0 he rfl rfl (by
    show (match pget L x with
      | some (.int a) => psto (pset L x (.int (a + Int32.ofInt z))) i st h
      | _ => none) = _
    rw [hv]
    dsimp only
    rw [hb, hp]
    rfl) k
theorem RA.mmin {n pc y : Nat} {v : Value} {a b w : Int32} {ts : List Nat} {rest : List Value} (he : (m_code M)[i]? = some (pc, .invokestatic n, 99991, y, v, ts)) (hP : pcall P (pc, .invokestatic n, 99991, y, v, ts) (.int b :: .int a :: rest) h = none) (h8 : pcs rest ≤ 8) (hw : (if b < a then b else a) = w) (k : RA P E V (d + 1) M (i + 1) L (.int w :: rest) h res) : RA P E V (d + 1) M i L (.int b :: .int a :: rest) h res :=
  RA.step0 he rfl hP (by
    show (if pcs rest ≤ 8 then pnx i L (.int (if b < a then b else a) :: rest) h else none) = _
    rw [if_pos h8, hw]
    rfl) k
end LPS
section LPM
variable {E : pX} {V : pV} {d : Nat} {h : List pC} {fs : List Value} {f : Nat → Int32}
/-- the reference's row of numbers, without rubbings -/
def SM (h : List pC) (fs : List Value) (f : Nat → Int32) : Prop := pobj h 110 = some (8, fs) ∧ fs[0]? = some (.ref 111) ∧ pint h 111 = some (3075, f) ∧ f 0 = 0
theorem SM.next {g : Nat → Int32} (H : SM h fs f) (g0 : g 0 = 0) : SM (h.set 111 (.inl (3075, g))) fs g := ⟨(pobj_ne (by decide)).trans H.1, H.2.1, pint_set (pint_lt H.2.2.1), g0⟩
theorem drawnM (H : SM h fs f) : ∃ r z : Int32, Run prog E V (d + 1) mX8_drawn [.ref 110] h (some (.int r), h.set 111 (.inl (3075, va_up f 4 z)), 0, 0) := by
  obtain ⟨ho, h0, hs, hf⟩ := H
  exact ⟨_, _, by
    refine ⟨Nat.le_of_ble_eq_true rfl, ⟨_, _, rfl⟩, ?_⟩
    refine RA.steps 1 rfl ?_
    refine RA.getf rfl ho rfl h0 ?_
    refine RA.steps 2 rfl ?_
    refine RA.getf rfl ho rfl h0 ?_
    refine RA.steps 1 rfl ?_
    refine RA.iald rfl hs ⟨by decide, Nat.le_of_ble_eq_true rfl⟩ rfl ?_
    refine RA.steps 4 rfl ?_
    refine RA.iast rfl hs ⟨by decide, Nat.le_of_ble_eq_true rfl⟩ ?_
    refine RA.steps 1 rfl ?_
    refine RA.getf rfl ((pobj_ne (by decide)).trans ho) rfl h0 ?_
    refine RA.steps 1 rfl ?_
    refine RA.iald rfl (pint_set (pint_lt hs)) ⟨by decide, Nat.le_of_ble_eq_true rfl⟩ rfl ?_
    refine RA.steps 2 rfl ?_
    exact RA.ret rfl rfl⟩
theorem goesOn0 (H : SM h fs f) : ∃ g : Nat → Int32, g 0 = 0 ∧ g 3 = f 3 ∧ g 2 = f 2 + 1 ∧ Run prog E V (d + 2) mX8_goesOn [.ref 110] h (none, h.set 111 (.inl (3075, g)), 0, 0) := by
  obtain ⟨r, z, hd⟩ := drawnM (E := E) (V := V) (d := d) H
  have H1 := H.next (g := va_up f 4 z) H.2.2.2
  obtain ⟨ho, h0, hs, hf⟩ := H1
  refine ⟨va_up (va_up f 4 z) 2 (f 2 + 1), H.2.2.2, rfl, rfl, Nat.le_of_ble_eq_true rfl, ⟨_, _, rfl⟩, ?_⟩
  refine RA.steps 1 rfl ?_
  refine RA.call0 rfl rfl (pcallV rfl rfl H.1 rfl rfl (Nat.le_of_ble_eq_true rfl)) hd ?_
  refine RA.steps 7 rfl ?_
  refine RA.getf rfl ho rfl h0 ?_
  refine RA.steps 1 rfl ?_
  refine RA.iald rfl hs ⟨by decide, Nat.le_of_ble_eq_true rfl⟩ hf ?_
  refine RA.if2T rfl rfl ?_
  refine RA.steps 1 rfl ?_
  refine RA.getf rfl ho rfl h0 ?_
  refine RA.steps 2 rfl ?_
  refine RA.iald rfl hs ⟨by decide, Nat.le_of_ble_eq_true rfl⟩ rfl ?_
  refine RA.steps 2 rfl ?_
  refine RA.iast rfl hs ⟨by decide, Nat.le_of_ble_eq_true rfl⟩ ?_
  exact RA.to (RA.ret rfl rfl) (by rw [List.set_set]; rfl)
theorem gom_loop (N : Nat) (hN : N < 2 ^ 31) : ∀ (m K : Nat) (h : List pC) (f : Nat → Int32), K + m = N → SM h fs f → ∃ g : Nat → Int32, g 0 = 0 ∧ g 3 = f 3 ∧ RA prog E V (d + 3) mX8_goesOnMany 2 [some (.ref 110), some (.int (nI N)), some (.int (nI K))] [] h (none, h.set 111 (.inl (3075, g)), 0, 0) := by
  intro m
  induction m with
  | zero =>
    intro K h f hK H
    obtain rfl : K = N := by omega
    refine ⟨f, H.2.2.2, rfl, ?_⟩
    refine RA.steps 2 rfl ?_
    refine RA.if2T rfl (decide_eq_true (Int32.le_refl _)) ?_
    exact RA.to (RA.ret rfl rfl) (by rw [set_sameI H.2.2.1])
  | succ m ih =>
    intro K h f hK H
    obtain ⟨g, g0, g3, -, hr⟩ := goesOn0 (E := E) (V := V) (d := d) H
    obtain ⟨g', g0', g3', hr'⟩ := ih (K + 1) _ g (by omega) (H.next g0)
    rw [List.set_set] at hr'
    refine ⟨g', g0', g3'.trans g3, ?_⟩
    refine RA.steps 2 rfl ?_
    refine RA.if2F rfl (decide_eq_false (nI_ge (show K < N by omega) hN)) ?_
    refine RA.steps 1 rfl ?_
    refine RA.call0 rfl rfl (pcallV rfl rfl H.1 rfl rfl (Nat.le_of_ble_eq_true rfl)) hr ?_
    refine RA.iinc rfl rfl (nI_1 K) rfl ?_
    refine RA.steps 1 rfl ?_
    exact hr'
theorem gom_run (N : Nat) (hN : N < 2 ^ 31) (H : SM h fs f) : ∃ g : Nat → Int32, g 0 = 0 ∧ g 3 = f 3 ∧ Run prog E V (d + 3) mX8_goesOnMany [.ref 110, .int (nI N)] h (none, h.set 111 (.inl (3075, g)), 0, 0) := by
  obtain ⟨g, g0, g3, hr⟩ := gom_loop (E := E) (V := V) (d := d) N hN N 0 h f (by omega) H
  refine ⟨g, g0, g3, Nat.le_of_ble_eq_true rfl, ⟨_, _, rfl⟩, ?_⟩
  refine RA.steps 2 rfl ?_
  exact hr
theorem allTrust0 (H : SM h fs f) : Run prog E V (d + 1) mX8_allTrust [.ref 110] h (some (.int 0), h, 0, 0) := by
  obtain ⟨ho, h0, hs, hf⟩ := H
  refine ⟨Nat.le_of_ble_eq_true rfl, ⟨_, _, rfl⟩, ?_⟩
  refine RA.steps 6 rfl ?_
  refine RA.getf rfl ho rfl h0 ?_
  refine RA.steps 1 rfl ?_
  refine RA.iald rfl hs ⟨by decide, Nat.le_of_ble_eq_true rfl⟩ hf ?_
  refine RA.if2T rfl rfl ?_
  refine RA.steps 1 rfl ?_
  exact RA.ret rfl rfl
theorem laidOnes0 (H : SM h fs f) : Run prog E V (d + 1) mX8_laidOnes [.ref 110] h (some (.int 0), h, 0, 0) := by
  obtain ⟨ho, h0, hs, hf⟩ := H
  refine ⟨Nat.le_of_ble_eq_true rfl, ⟨_, _, rfl⟩, ?_⟩
  refine RA.steps 6 rfl ?_
  refine RA.getf rfl ho rfl h0 ?_
  refine RA.steps 1 rfl ?_
  refine RA.iald rfl hs ⟨by decide, Nat.le_of_ble_eq_true rfl⟩ hf ?_
  refine RA.if2T rfl rfl ?_
  refine RA.steps 1 rfl ?_
  exact RA.ret rfl rfl
theorem sa_loop {this A B nA nB : Nat} {f : Nat → Int32} (hAB : B ≠ A) (hA : 2875 ≤ nA) (hB : 2875 ≤ nB) : ∀ (m K : Nat) (h : List pC) (g : Nat → Int32), K + m = 2875 → pint h A = some (nA, f) → pint h B = some (nB, g) → ∃ g' : Nat → Int32, RA prog E V (d + 1) mX8_setAside 2 [some (.ref this), some (.ref A), some (.ref B), some (.int (nI K))] [] h (none, h.set B (.inl (nB, g')), 0, 0) := by
  intro m
  induction m with
  | zero =>
    intro K h g hK h1 h2
    obtain rfl : K = 2875 := by omega
    refine ⟨g, ?_⟩
    refine RA.steps 2 rfl ?_
    refine RA.if2T rfl rfl ?_
    exact RA.to (RA.ret rfl rfl) (by rw [set_sameI h2])
  | succ m ih =>
    intro K h g hK h1 h2
    have hK2 : K < 2875 := by omega
    have hj : ∀ n : Nat, 2875 ≤ n → 0 ≤ nI K ∧ (nI K).toNatClampNeg < n := fun n hn => ⟨nI_pos' (by omega), by rw [nI_clamp (show K < 2 ^ 31 by omega)]; omega⟩
    obtain ⟨g', hr⟩ := ih (K + 1) (h.set B (.inl (nB, va_up g (nI K).toNatClampNeg (f (nI K).toNatClampNeg)))) _ (by omega) ((pint_ne hAB).trans h1) (pint_set (pint_lt h2))
    rw [List.set_set] at hr
    refine ⟨g', ?_⟩
    refine RA.steps 2 rfl ?_
    refine RA.if2F rfl (decide_eq_false (show ¬ nI 2875 ≤ nI K from nI_ge hK2 (by omega))) ?_
    refine RA.steps 4 rfl ?_
    refine RA.iald rfl h1 (hj nA hA) rfl ?_
    refine RA.iast rfl h2 (hj nB hB) ?_
    refine RA.iinc rfl rfl (nI_1 K) rfl ?_
    refine RA.steps 1 rfl ?_
    exact hr
theorem sa_run {this A B nA nB : Nat} {f g : Nat → Int32} (h1 : pint h A = some (nA, f)) (h2 : pint h B = some (nB, g)) (hAB : B ≠ A) (hA : 2875 ≤ nA) (hB : 2875 ≤ nB) : ∃ g' : Nat → Int32, Run prog E V (d + 1) mX8_setAside [.ref this, .ref A, .ref B] h (none, h.set B (.inl (nB, g')), 0, 0) := by
  obtain ⟨g', hr⟩ := sa_loop (E := E) (V := V) (d := d) (this := this) hAB hA hB 2875 0 h g (by omega) h1 h2
  refine ⟨g', Nat.le_of_ble_eq_true rfl, ⟨_, _, rfl⟩, ?_⟩
  refine RA.steps 2 rfl ?_
  exact hr
theorem laysBy_loop {fs : List Value} {f : Nat → Int32} (hfA : fs[0]? = some (.ref 111)) (hfB : fs[13]? = some (.ref 123)) : ∀ (m K : Nat) (h : List pC) (g : Nat → Int32), K + m = 75 → pobj h 110 = some (8, fs) → pint h 111 = some (3075, f) → pint h 123 = some (75, g) → (∀ j, j < K → g j = f j) → ∃ g' : Nat → Int32, (∀ j, j < 75 → g' j = f j) ∧ RA prog E V (d + 1) mX8_laysBy 2 [some (.ref 110), some (.int (nI K))] [] h (none, h.set 123 (.inl (75, g')), 0, 0) := by
  intro m
  induction m with
  | zero =>
    intro K h g hK ho h1 h2 hg
    obtain rfl : K = 75 := by omega
    refine ⟨g, hg, ?_⟩
    refine RA.steps 2 rfl ?_
    refine RA.if2T rfl rfl ?_
    exact RA.to (RA.ret rfl rfl) (by rw [set_sameI h2])
  | succ m ih =>
    intro K h g hK ho h1 h2 hg
    have hK2 : K < 75 := by omega
    have hj : ∀ n : Nat, 75 ≤ n → 0 ≤ nI K ∧ (nI K).toNatClampNeg < n := fun n hn => ⟨nI_pos' (by omega), by rw [nI_clamp (show K < 2 ^ 31 by omega)]; omega⟩
    have hc : (nI K).toNatClampNeg = K := nI_clamp (show K < 2 ^ 31 by omega)
    obtain ⟨g', hg', hr⟩ := ih (K + 1) (h.set 123 (.inl (75, va_up g (nI K).toNatClampNeg (f (nI K).toNatClampNeg)))) _ (by omega) ((pobj_ne (by decide)).trans ho) ((pint_ne (by decide)).trans h1) (pint_set (pint_lt h2)) (fun j hj => by
      show (if j = (nI K).toNatClampNeg then f (nI K).toNatClampNeg else g j) = f j
      rw [hc]
      by_cases e : j = K
      · rw [if_pos e, e]
      · rw [if_neg e]
        exact hg j (by omega))
    rw [List.set_set] at hr
    refine ⟨g', hg', ?_⟩
    refine RA.steps 2 rfl ?_
    refine RA.if2F rfl (decide_eq_false (show ¬ nI 75 ≤ nI K from nI_ge hK2 (by omega))) ?_
    refine RA.steps 1 rfl ?_
    refine RA.getf rfl ho rfl hfB ?_
    refine RA.steps 2 rfl ?_
    refine RA.getf rfl ho rfl hfA ?_
    refine RA.steps 1 rfl ?_
    refine RA.iald rfl h1 (hj 3075 (Nat.le_of_ble_eq_true rfl)) rfl ?_
    refine RA.iast rfl h2 (hj 75 (Nat.le_of_ble_eq_true rfl)) ?_
    refine RA.iinc rfl rfl (nI_1 K) rfl ?_
    refine RA.steps 1 rfl ?_
    exact hr
theorem laysBy_run {fs : List Value} {f g : Nat → Int32} (hfA : fs[0]? = some (.ref 111)) (hfB : fs[13]? = some (.ref 123)) (ho : pobj h 110 = some (8, fs)) (h1 : pint h 111 = some (3075, f)) (h2 : pint h 123 = some (75, g)) : ∃ g' : Nat → Int32, (∀ j, j < 75 → g' j = f j) ∧ Run prog E V (d + 1) mX8_laysBy [.ref 110] h (none, h.set 123 (.inl (75, g')), 0, 0) := by
  obtain ⟨g', hg, hr⟩ := laysBy_loop (E := E) (V := V) (d := d) hfA hfB 75 0 h g (by omega) ho h1 h2 (fun j hj => absurd hj (Nat.not_lt_zero j))
  refine ⟨g', hg, Nat.le_of_ble_eq_true rfl, ⟨_, _, rfl⟩, ?_⟩
  refine RA.steps 2 rfl ?_
  exact hr
theorem laysBack_loop {fs : List Value} {f : Nat → Int32} (hfA : fs[13]? = some (.ref 123)) (hfB : fs[0]? = some (.ref 111)) : ∀ (m K : Nat) (h : List pC) (g : Nat → Int32), K + m = 75 → pobj h 110 = some (8, fs) → pint h 123 = some (75, f) → pint h 111 = some (3075, g) → (∀ j, j < K → g j = f j) → ∃ g' : Nat → Int32, (∀ j, j < 75 → g' j = f j) ∧ RA prog E V (d + 1) mX8_laysBack 2 [some (.ref 110), some (.int (nI K))] [] h (none, h.set 111 (.inl (3075, g')), 0, 0) := by
  intro m
  induction m with
  | zero =>
    intro K h g hK ho h1 h2 hg
    obtain rfl : K = 75 := by omega
    refine ⟨g, hg, ?_⟩
    refine RA.steps 2 rfl ?_
    refine RA.if2T rfl rfl ?_
    exact RA.to (RA.ret rfl rfl) (by rw [set_sameI h2])
  | succ m ih =>
    intro K h g hK ho h1 h2 hg
    have hK2 : K < 75 := by omega
    have hj : ∀ n : Nat, 75 ≤ n → 0 ≤ nI K ∧ (nI K).toNatClampNeg < n := fun n hn => ⟨nI_pos' (by omega), by rw [nI_clamp (show K < 2 ^ 31 by omega)]; omega⟩
    have hc : (nI K).toNatClampNeg = K := nI_clamp (show K < 2 ^ 31 by omega)
    obtain ⟨g', hg', hr⟩ := ih (K + 1) (h.set 111 (.inl (3075, va_up g (nI K).toNatClampNeg (f (nI K).toNatClampNeg)))) _ (by omega) ((pobj_ne (by decide)).trans ho) ((pint_ne (by decide)).trans h1) (pint_set (pint_lt h2)) (fun j hj => by
      show (if j = (nI K).toNatClampNeg then f (nI K).toNatClampNeg else g j) = f j
      rw [hc]
      by_cases e : j = K
      · rw [if_pos e, e]
      · rw [if_neg e]
        exact hg j (by omega))
    rw [List.set_set] at hr
    refine ⟨g', hg', ?_⟩
    refine RA.steps 2 rfl ?_
    refine RA.if2F rfl (decide_eq_false (show ¬ nI 75 ≤ nI K from nI_ge hK2 (by omega))) ?_
    refine RA.steps 1 rfl ?_
    refine RA.getf rfl ho rfl hfB ?_
    refine RA.steps 2 rfl ?_
    refine RA.getf rfl ho rfl hfA ?_
    refine RA.steps 1 rfl ?_
    refine RA.iald rfl h1 (hj 75 (Nat.le_of_ble_eq_true rfl)) rfl ?_
    refine RA.iast rfl h2 (hj 3075 (Nat.le_of_ble_eq_true rfl)) ?_
    refine RA.iinc rfl rfl (nI_1 K) rfl ?_
    refine RA.steps 1 rfl ?_
    exact hr
theorem laysBack_run {fs : List Value} {f g : Nat → Int32} (hfA : fs[13]? = some (.ref 123)) (hfB : fs[0]? = some (.ref 111)) (ho : pobj h 110 = some (8, fs)) (h1 : pint h 123 = some (75, f)) (h2 : pint h 111 = some (3075, g)) : ∃ g' : Nat → Int32, (∀ j, j < 75 → g' j = f j) ∧ Run prog E V (d + 1) mX8_laysBack [.ref 110] h (none, h.set 111 (.inl (3075, g')), 0, 0) := by
  obtain ⟨g', hg, hr⟩ := laysBack_loop (E := E) (V := V) (d := d) hfA hfB 75 0 h g (by omega) ho h1 h2 (fun j hj => absurd hj (Nat.not_lt_zero j))
  refine ⟨g', hg, Nat.le_of_ble_eq_true rfl, ⟨_, _, rfl⟩, ?_⟩
  refine RA.steps 2 rfl ?_
  exact hr
theorem mt_loop (N : Nat) (hN : N ≤ 100) (was : Int32) : ∀ (m K : Nat) (h : List pC) (f : Nat → Int32), K + m = N → SM h fs f → f 3 = was → f 2 = nI K → ∃ h2 : List pC, RA prog E V (d + 3) mX8_tides 15 [some (.ref 110), some (.int (nI N)), some (.int was), some (.int (nI K))] [] h (some (.int 0), h2, 0, 0) := by
  intro m
  induction m with
  | zero =>
    intro K h f hK H hw h2
    obtain rfl : K = N := by omega
    obtain ⟨ho, h0, hs, hf⟩ := H
    refine ⟨h, ?_⟩
    refine RA.steps 2 rfl ?_
    refine RA.if2T rfl (decide_eq_true (Int32.le_refl _)) ?_
    refine RA.steps 1 rfl ?_
    refine RA.getf rfl ho rfl h0 ?_
    refine RA.steps 1 rfl ?_
    refine RA.iald rfl hs ⟨by decide, Nat.le_of_ble_eq_true rfl⟩ hw ?_
    refine RA.steps 2 rfl ?_
    exact RA.to (RA.ret rfl rfl) (by show (some (Value.int (was - was)), h, 0, 0) = _; rw [show was - was = 0 from Int32.sub_self was])
  | succ m ih =>
    intro K h f hK H hw h2
    obtain ⟨ho, h0, hs, hf⟩ := id H
    obtain ⟨g, g0, g3, g2, hr⟩ := goesOn0 (E := E) (V := V) (d := d) H
    obtain ⟨q, hr'⟩ := ih (K + 1) _ g (by omega) (H.next g0) (g3.trans hw) (by rw [g2, h2]; exact nI_1 K)
    refine ⟨q, ?_⟩
    refine RA.steps 2 rfl ?_
    refine RA.if2F rfl (decide_eq_false (nI_ge (show K < N by omega) (by omega))) ?_
    refine RA.steps 1 rfl ?_
    refine RA.getf rfl ho rfl h0 ?_
    refine RA.steps 1 rfl ?_
    refine RA.iald rfl hs ⟨by decide, Nat.le_of_ble_eq_true rfl⟩ h2 ?_
    refine RA.steps 1 rfl ?_
    refine RA.if2F rfl (decide_eq_false (fun q => absurd q (show ¬ nI 9999 ≤ nI K from nI_ge (by omega) (by omega)))) ?_
    refine RA.steps 1 rfl ?_
    refine RA.call0 rfl rfl (pcallV rfl rfl H.1 rfl rfl (Nat.le_of_ble_eq_true rfl)) hr ?_
    refine RA.iinc rfl rfl (nI_1 K) rfl ?_
    refine RA.steps 1 rfl ?_
    exact hr'
end LPM
section LPC
variable {E : pX} {V : pV} {d w : Nat} {h : List pC} {a1 a2 a3 a4 a5 a6 a7 a8 a9 : Value}
theorem draw_run {z : Int32} (hw : pobj h w = some (6, [a1, a2, a3, a4, a5, a6, a7, a8, a9, .int z])) : ∃ r z' : Int32, Run prog E V (d + 1) mX6_draw [.ref w] h (some (.int r), h.set w (.inr (.inr (6, [a1, a2, a3, a4, a5, a6, a7, a8, a9, .int z']))), 0, 0) := by
  exact ⟨_, _, by
    refine ⟨Nat.le_of_ble_eq_true rfl, ⟨_, _, rfl⟩, ?_⟩
    refine RA.steps 2 rfl ?_
    refine RA.getf rfl hw rfl rfl ?_
    refine RA.steps 4 rfl ?_
    refine RA.putf rfl hw rfl rfl ?_
    refine RA.steps 1 rfl ?_
    refine RA.getf rfl (pobj_set (pobj_lt hw)) rfl rfl ?_
    refine RA.steps 2 rfl ?_
    exact RA.ret rfl rfl⟩
theorem flow_loop (N : Nat) (hN : N < 2 ^ 31) : ∀ (m K : Nat) (h : List pC) (ti z : Int32) (l3 l4 l5 : Option Value), K + m = N → pobj h w = some (6, [a1, a2, a3, a4, a5, .int 0, a7, .int ti, a9, .int z]) → ∃ ti' z' : Int32, RA prog E V (d + 2) mX6_flow 2 [some (.ref w), some (.int (nI N)), some (.int (nI K)), l3, l4, l5] [] h (none, h.set w (.inr (.inr (6, [a1, a2, a3, a4, a5, .int 0, a7, .int ti', a9, .int z']))), 0, 0) := by
  intro m
  induction m with
  | zero =>
    intro K h ti z l3 l4 l5 hK H
    obtain rfl : K = N := by omega
    refine ⟨ti, z, ?_⟩
    refine RA.steps 2 rfl ?_
    refine RA.if2T rfl (decide_eq_true (Int32.le_refl _)) ?_
    exact RA.to (RA.ret rfl rfl) (by rw [set_sameO H])
  | succ m ih =>
    intro K h ti z l3 l4 l5 hK H
    obtain ⟨r, z1, hr⟩ := draw_run (E := E) (V := V) (d := d) H
    have H1 := pobj_set (o := (6, [a1, a2, a3, a4, a5, .int 0, a7, .int ti, a9, .int z1])) (pobj_lt H)
    have H2 := pobj_set (h := h.set w (.inr (.inr (6, [a1, a2, a3, a4, a5, .int 0, a7, .int ti, a9, .int z1])))) (o := (6, [a1, a2, a3, a4, a5, .int 0, a7, .int (ti + 1), a9, .int z1])) (pobj_lt H1)
    obtain ⟨ti', z', hr'⟩ := ih (K + 1) _ (ti + 1) z1 (some (.int (r - r / 16 * 16))) (some (.int 0)) l5 (by omega) H2
    rw [List.set_set, List.set_set] at hr'
    refine ⟨ti', z', ?_⟩
    refine RA.steps 2 rfl ?_
    refine RA.if2F rfl (decide_eq_false (nI_ge (show K < N by omega) hN)) ?_
    refine RA.steps 1 rfl ?_
    refine RA.call0 rfl rfl (pcallV rfl rfl H rfl rfl (Nat.le_of_ble_eq_true rfl)) hr ?_
    refine RA.steps 7 rfl ?_
    refine RA.getf rfl H1 rfl rfl ?_
    refine RA.if2T rfl rfl ?_
    refine RA.steps 2 rfl ?_
    refine RA.getf rfl H1 rfl rfl ?_
    refine RA.steps 2 rfl ?_
    refine RA.putf rfl H1 rfl rfl ?_
    refine RA.iinc rfl rfl (nI_1 K) rfl ?_
    refine RA.steps 1 rfl ?_
    rw [List.set_set]
    exact hr'
theorem flow_run {ti z : Int32} (N : Nat) (hN : N < 2 ^ 31) (H : pobj h w = some (6, [a1, a2, a3, a4, a5, .int 0, a7, .int ti, a9, .int z])) : ∃ ti' z' : Int32, Run prog E V (d + 2) mX6_flow [.ref w, .int (nI N)] h (none, h.set w (.inr (.inr (6, [a1, a2, a3, a4, a5, .int 0, a7, .int ti', a9, .int z']))), 0, 0) := by
  obtain ⟨ti', z', hr⟩ := flow_loop (E := E) (V := V) (d := d) N hN N 0 h ti z none none none (by omega) H
  refine ⟨ti', z', Nat.le_of_ble_eq_true rfl, ⟨_, _, rfl⟩, ?_⟩
  refine RA.steps 2 rfl ?_
  exact hr
end LPC
set_option maxRecDepth 100000 in
set_option maxHeartbeats 4000000 in
theorem q_tides (E : pX) (a : Int32) : ∃ (r : Int32) (h1 h2 : List pC), Run prog E pV0 40 mX7_tides [.ref 0, .int a] h0 (some (.int r), h1, 0, 0) ∧ Run prog E pV0 40 mX8_tides [.ref 110, .int a] h1 (some (.int r), h2, 0, 0) := by
  by_cases hh : 1 ≤ a ∧ a ≤ 100
  · obtain ⟨N, hN, rfl⟩ := nI_of2 (x := a) (M := 100) (n := 100) (by decide) (Int32.not_lt.mpr (Int32.le_trans (by decide) hh.1)) hh.2
    obtain ⟨ti, z, hr⟩ := flow_run (E := E) (V := pV0) (d := 37) (h := h0) (w := 34) N (by omega) rfl
    have hm : (if (9999 - 0 : Int32) < nI N then (9999 - 0 : Int32) else nI N) = nI N := if_neg (show ¬ nI 9999 < nI N from nI_nlt (by omega) (by omega))
    obtain ⟨h2, hq⟩ := mt_loop (E := E) (V := pV0) (d := 37) N hN 0 N 0 (h0.set 34 (.inr (.inr (6, [.ref 1, .ref 35, .ref 36, .ref 37, .ref 38, .int 0, .int 0, .int ti, .int 0, .int z])))) _ (by omega) ⟨rfl, rfl, rfl, rfl⟩ rfl rfl
    refine ⟨0, h0.set 34 (.inr (.inr (6, [.ref 1, .ref 35, .ref 36, .ref 37, .ref 38, .int 0, .int 0, .int ti, .int 0, .int z]))), h2, ?_, ?_⟩
    · refine ⟨Nat.le_of_ble_eq_true rfl, ⟨_, _, rfl⟩, ?_⟩
      refine RA.steps 3 rfl ?_
      refine RA.call0 rfl rfl rfl (within_t (v := nI N) (lo := 1) (hi := 100) hh) ?_
      refine RA.steps 13 rfl ?_
      refine RA.mmin rfl rfl (Nat.le_of_ble_eq_true rfl) hm ?_
      refine RA.call0 rfl rfl rfl hr ?_
      refine RA.steps 5 rfl ?_
      exact RA.to (RA.ret rfl rfl) rfl
    · refine ⟨Nat.le_of_ble_eq_true rfl, ⟨_, _, rfl⟩, ?_⟩
      refine RA.steps 4 rfl ?_
      refine RA.call0 rfl rfl rfl (isIn_t (v := nI N) (lo := 1) (hi := 100) hh) ?_
      refine RA.steps 8 rfl ?_
      exact hq
  · exact ⟨_, _, _, by
      refine ⟨Nat.le_of_ble_eq_true rfl, ⟨_, _, rfl⟩, ?_⟩
      refine RA.steps 3 rfl ?_
      refine RA.call0 rfl rfl rfl (within_f (v := a) (lo := 1) (hi := 100) hh) ?_
      refine RA.steps 2 rfl ?_
      exact RA.ret rfl rfl, by
      refine ⟨Nat.le_of_ble_eq_true rfl, ⟨_, _, rfl⟩, ?_⟩
      refine RA.steps 4 rfl ?_
      refine RA.call0 rfl rfl rfl (isIn_f (v := a) (lo := 1) (hi := 100) hh) ?_
      refine RA.steps 2 rfl ?_
      exact RA.ret rfl rfl⟩
end
section
set_option maxRecDepth 100000 in
set_option maxHeartbeats 60000000 in
theorem q_keep (E : pX) : ∃ (r : Int32) (h1 h2 : List pC), Run prog E pV0 40 mX7_keep [.ref 0] h0 (some (.int r), h1, 0, 0) ∧ Run prog E pV0 40 mX8_keep [.ref 110] h1 (some (.int r), h2, 0, 0) := by
  obtain ⟨q0, hr0⟩ := sa_run (E := E) (V := pV0) (d := 38) (this := 110) (h := ((((h0.set 0 (.inr (.inr (7, [.ref 1, .ref 34, .ref 48, .ref 62, .ref 76, .ref 79, .ref 80, .ref 81, .int 0, .int 1])))).set 49 (.inl (16, va_cpy (fun _ => 0) (fun _ => 0) 0 0 16))).set 52 (.inl (3, va_cpy (va_up (va_up (va_up (fun _ => 0) 0 (-1000000005)) 1 (-1000000005)) 2 (-1000000005)) (va_up (va_up (va_up (fun _ => 0) 0 (-1000000005)) 1 (-1000000005)) 2 (-1000000005)) 0 0 3))).set 110 (.inr (.inr (8, [.ref 111, .ref 112, .ref 113, .int 1, .ref 114, .ref 115, .ref 116, .ref 117, .ref 118, .ref 119, .ref 120, .ref 121, .ref 122, .ref 123, .ref 124, .int 0, .int 0, .int 0, .int 0, .int 0, .int 0, .int 0, .int 0, .int 0, .int 0, .int 0, .ref 125, .ref 126, .ref 127, .ref 128, .int 0, .ref 129]))))) (A := 111) (B := 112) (nA := 3075) (nB := 3075) rfl rfl (by decide) (Nat.le_of_ble_eq_true rfl) (Nat.le_of_ble_eq_true rfl)
  exact ⟨0, (((h0.set 0 (.inr (.inr (7, [.ref 1, .ref 34, .ref 48, .ref 62, .ref 76, .ref 79, .ref 80, .ref 81, .int 0, .int 1])))).set 49 (.inl (16, va_cpy (fun _ => 0) (fun _ => 0) 0 0 16))).set 52 (.inl (3, va_cpy (va_up (va_up (va_up (fun _ => 0) 0 (-1000000005)) 1 (-1000000005)) 2 (-1000000005)) (va_up (va_up (va_up (fun _ => 0) 0 (-1000000005)) 1 (-1000000005)) 2 (-1000000005)) 0 0 3))), _, by
      exact Run.ex 4000 (Nat.le_of_ble_eq_true rfl) ⟨_, _, rfl⟩ rfl, by
      refine ⟨Nat.le_of_ble_eq_true rfl, ⟨_, _, rfl⟩, ?_⟩
      refine RA.steps (i' := 8) (L' := [some (.ref 110)]) (st' := [.ref 112, .ref 111, .ref 110]) (h' := ((((h0.set 0 (.inr (.inr (7, [.ref 1, .ref 34, .ref 48, .ref 62, .ref 76, .ref 79, .ref 80, .ref 81, .int 0, .int 1])))).set 49 (.inl (16, va_cpy (fun _ => 0) (fun _ => 0) 0 0 16))).set 52 (.inl (3, va_cpy (va_up (va_up (va_up (fun _ => 0) 0 (-1000000005)) 1 (-1000000005)) 2 (-1000000005)) (va_up (va_up (va_up (fun _ => 0) 0 (-1000000005)) 1 (-1000000005)) 2 (-1000000005)) 0 0 3))).set 110 (.inr (.inr (8, [.ref 111, .ref 112, .ref 113, .int 1, .ref 114, .ref 115, .ref 116, .ref 117, .ref 118, .ref 119, .ref 120, .ref 121, .ref 122, .ref 123, .ref 124, .int 0, .int 0, .int 0, .int 0, .int 0, .int 0, .int 0, .int 0, .int 0, .int 0, .int 0, .ref 125, .ref 126, .ref 127, .ref 128, .int 0, .ref 129]))))) 8 rfl ?_
      refine RA.call0 rfl rfl rfl hr0 ?_
      refine RA.steps (i' := 13) (L' := [some (.ref 110)]) (st' := [.int 0]) (h' := (((((h0.set 0 (.inr (.inr (7, [.ref 1, .ref 34, .ref 48, .ref 62, .ref 76, .ref 79, .ref 80, .ref 81, .int 0, .int 1])))).set 49 (.inl (16, va_cpy (fun _ => 0) (fun _ => 0) 0 0 16))).set 52 (.inl (3, va_cpy (va_up (va_up (va_up (fun _ => 0) 0 (-1000000005)) 1 (-1000000005)) 2 (-1000000005)) (va_up (va_up (va_up (fun _ => 0) 0 (-1000000005)) 1 (-1000000005)) 2 (-1000000005)) 0 0 3))).set 110 (.inr (.inr (8, [.ref 111, .ref 112, .ref 113, .int 1, .ref 114, .ref 115, .ref 116, .ref 117, .ref 118, .ref 119, .ref 120, .ref 121, .ref 122, .ref 123, .ref 124, .int 0, .int 0, .int 0, .int 0, .int 0, .int 0, .int 0, .int 0, .int 0, .int 0, .int 0, .ref 125, .ref 126, .ref 127, .ref 128, .int 0, .ref 129])))).set 112 (.inl (3075, q0)))) 4 rfl ?_
      exact RA.ret rfl rfl⟩
set_option maxRecDepth 100000 in
set_option maxHeartbeats 60000000 in
theorem q_rubbing (E : pX) (a b c : Int32) : ∃ (r : Int32) (h1 h2 : List pC), Run prog E pV0 40 mX7_rubbing [.ref 0, .int a, .int b, .int c] h0 (some (.int r), h1, 0, 0) ∧ Run prog E pV0 40 mX8_rubbing [.ref 110, .int a, .int b, .int c] h1 (some (.int r), h2, 0, 0) := by
  by_cases h1 : 0 ≤ a ∧ a ≤ 5
  · by_cases h2 : 0 ≤ b ∧ b ≤ 65535
    · by_cases h3 : 1 ≤ c ∧ c ≤ 8
      · exact ⟨0, ((h0.set 34 (.inr (.inr (6, [.ref 1, .ref 35, .ref 36, .ref 37, .ref 38, .int 1, .int 0, .int 0, .int 0, .int 1])))).set 39 (.inr (.inr (4, [.int a, .int b, .int c, .int 0, .int 16, .int 50])))), _, by
            refine ⟨Nat.le_of_ble_eq_true rfl, ⟨_, _, rfl⟩, ?_⟩
            refine RA.steps (i' := 1) (L' := [some (.ref 0), some (.int a), some (.int b), some (.int c)]) (st' := [.int a]) (h' := h0) 1 rfl ?_
            refine RA.call0 (h1 := h0) (r1 := some (.int 1)) rfl rfl rfl (by
              refine ⟨Nat.le_of_ble_eq_true rfl, ⟨_, _, rfl⟩, ?_⟩
              refine RA.steps (i' := 3) (L' := [some (.int a)]) (st' := [.int 5, .int 0, .int a]) (h' := h0) 3 rfl ?_
              refine RA.call0 rfl rfl rfl (within_t (v := a) (lo := 0) (hi := 5) h1) ?_
              exact RA.ret rfl rfl) ?_
            refine RA.steps (i' := 6) (L' := [some (.ref 0), some (.int a), some (.int b), some (.int c)]) (st' := [.int 65535, .int 0, .int b]) (h' := h0) 4 rfl ?_
            refine RA.call0 rfl rfl rfl (within_t (v := b) (lo := 0) (hi := 65535) h2) ?_
            refine RA.steps (i' := 11) (L' := [some (.ref 0), some (.int a), some (.int b), some (.int c)]) (st' := [.int 8, .int 1, .int c]) (h' := h0) 4 rfl ?_
            refine RA.call0 rfl rfl rfl (within_t (v := c) (lo := 1) (hi := 8) h3) ?_
            refine RA.steps (i' := 17) (L' := [some (.ref 0), some (.int a), some (.int b), some (.int c)]) (st' := [.ref 34]) (h' := h0) 3 rfl ?_
            refine RA.call0 (h1 := h0) (r1 := some (.int 1)) rfl rfl rfl (Run.ex 4000 (Nat.le_of_ble_eq_true rfl) ⟨_, _, rfl⟩ rfl) ?_
            refine RA.steps (i' := 24) (L' := [some (.ref 0), some (.int a), some (.int b), some (.int c)]) (st' := [.int c, .int b, .int a, .ref 34]) (h' := h0) 6 rfl ?_
            refine RA.call0 (h1 := ((h0.set 34 (.inr (.inr (6, [.ref 1, .ref 35, .ref 36, .ref 37, .ref 38, .int 1, .int 0, .int 0, .int 0, .int 1])))).set 39 (.inr (.inr (4, [.int a, .int b, .int c, .int 0, .int 16, .int 50]))))) (r1 := some (.int 0)) rfl rfl rfl (Run.ex 4000 (Nat.le_of_ble_eq_true rfl) ⟨_, _, rfl⟩ rfl) ?_
            refine RA.steps (i' := 27) (L' := [some (.ref 0), some (.int a), some (.int b), some (.int c)]) (st' := [.int 0]) (h' := ((h0.set 34 (.inr (.inr (6, [.ref 1, .ref 35, .ref 36, .ref 37, .ref 38, .int 1, .int 0, .int 0, .int 0, .int 1])))).set 39 (.inr (.inr (4, [.int a, .int b, .int c, .int 0, .int 16, .int 50]))))) 1 rfl ?_
            exact RA.ret rfl rfl, by
            refine ⟨Nat.le_of_ble_eq_true rfl, ⟨_, _, rfl⟩, ?_⟩
            refine RA.steps (i' := 4) (L' := [some (.ref 110), some (.int a), some (.int b), some (.int c)]) (st' := [.long 5, .long 0, .long (a : Int32).toInt64]) (h' := ((h0.set 34 (.inr (.inr (6, [.ref 1, .ref 35, .ref 36, .ref 37, .ref 38, .int 1, .int 0, .int 0, .int 0, .int 1])))).set 39 (.inr (.inr (4, [.int a, .int b, .int c, .int 0, .int 16, .int 50]))))) 4 rfl ?_
            refine RA.call0 rfl rfl rfl (isIn_t (v := a) (lo := 0) (hi := 5) h1) ?_
            refine RA.steps (i' := 10) (L' := [some (.ref 110), some (.int a), some (.int b), some (.int c)]) (st' := [.long 65535, .long 0, .long (b : Int32).toInt64]) (h' := ((h0.set 34 (.inr (.inr (6, [.ref 1, .ref 35, .ref 36, .ref 37, .ref 38, .int 1, .int 0, .int 0, .int 0, .int 1])))).set 39 (.inr (.inr (4, [.int a, .int b, .int c, .int 0, .int 16, .int 50]))))) 5 rfl ?_
            refine RA.call0 rfl rfl rfl (isIn_t (v := b) (lo := 0) (hi := 65535) h2) ?_
            refine RA.steps (i' := 16) (L' := [some (.ref 110), some (.int a), some (.int b), some (.int c)]) (st' := [.long 8, .long 1, .long (c : Int32).toInt64]) (h' := ((h0.set 34 (.inr (.inr (6, [.ref 1, .ref 35, .ref 36, .ref 37, .ref 38, .int 1, .int 0, .int 0, .int 0, .int 1])))).set 39 (.inr (.inr (4, [.int a, .int b, .int c, .int 0, .int 16, .int 50]))))) 5 rfl ?_
            refine RA.call0 rfl rfl rfl (isIn_t (v := c) (lo := 1) (hi := 8) h3) ?_
            refine RA.steps (i' := 32) (L' := [some (.ref 110), some (.int a), some (.int b), some (.int c)]) (st' := [.int c, .int b, .int a, .ref 110]) (h' := ((h0.set 34 (.inr (.inr (6, [.ref 1, .ref 35, .ref 36, .ref 37, .ref 38, .int 1, .int 0, .int 0, .int 0, .int 1])))).set 39 (.inr (.inr (4, [.int a, .int b, .int c, .int 0, .int 16, .int 50]))))) 11 rfl ?_
            refine RA.call0 (h1 := (((h0.set 34 (.inr (.inr (6, [.ref 1, .ref 35, .ref 36, .ref 37, .ref 38, .int 1, .int 0, .int 0, .int 0, .int 1])))).set 39 (.inr (.inr (4, [.int a, .int b, .int c, .int 0, .int 16, .int 50])))).set 111 (.inl (3075, va_up (va_up (va_up (va_up (va_up (va_up (va_up (va_up (fun _ => 0) 4 1) 0 1) 21 a) 22 b) 23 c) 24 0) 25 16) 26 50)))) (r1 := none) rfl rfl rfl (Run.ex 4000 (Nat.le_of_ble_eq_true rfl) ⟨_, _, rfl⟩ rfl) ?_
            refine RA.steps (i' := 39) (L' := [some (.ref 110), some (.int a), some (.int b), some (.int c)]) (st' := [.int (1 - 1)]) (h' := (((h0.set 34 (.inr (.inr (6, [.ref 1, .ref 35, .ref 36, .ref 37, .ref 38, .int 1, .int 0, .int 0, .int 0, .int 1])))).set 39 (.inr (.inr (4, [.int a, .int b, .int c, .int 0, .int 16, .int 50])))).set 111 (.inl (3075, va_up (va_up (va_up (va_up (va_up (va_up (va_up (va_up (fun _ => 0) 4 1) 0 1) 21 a) 22 b) 23 c) 24 0) 25 16) 26 50)))) 6 rfl ?_
            exact RA.to (RA.ret rfl rfl) (by rw [show ((1 : Int32) - 1) = 0 by decide])⟩
      · exact ⟨(-1000000001), h0, _, by
            refine ⟨Nat.le_of_ble_eq_true rfl, ⟨_, _, rfl⟩, ?_⟩
            refine RA.steps (i' := 1) (L' := [some (.ref 0), some (.int a), some (.int b), some (.int c)]) (st' := [.int a]) (h' := h0) 1 rfl ?_
            refine RA.call0 (h1 := h0) (r1 := some (.int 1)) rfl rfl rfl (by
              refine ⟨Nat.le_of_ble_eq_true rfl, ⟨_, _, rfl⟩, ?_⟩
              refine RA.steps (i' := 3) (L' := [some (.int a)]) (st' := [.int 5, .int 0, .int a]) (h' := h0) 3 rfl ?_
              refine RA.call0 rfl rfl rfl (within_t (v := a) (lo := 0) (hi := 5) h1) ?_
              exact RA.ret rfl rfl) ?_
            refine RA.steps (i' := 6) (L' := [some (.ref 0), some (.int a), some (.int b), some (.int c)]) (st' := [.int 65535, .int 0, .int b]) (h' := h0) 4 rfl ?_
            refine RA.call0 rfl rfl rfl (within_t (v := b) (lo := 0) (hi := 65535) h2) ?_
            refine RA.steps (i' := 11) (L' := [some (.ref 0), some (.int a), some (.int b), some (.int c)]) (st' := [.int 8, .int 1, .int c]) (h' := h0) 4 rfl ?_
            refine RA.call0 rfl rfl rfl (within_f (v := c) (lo := 1) (hi := 8) h3) ?_
            refine RA.steps (i' := 14) (L' := [some (.ref 0), some (.int a), some (.int b), some (.int c)]) (st' := [.int (-1000000001)]) (h' := h0) 2 rfl ?_
            exact RA.ret rfl rfl, by
            refine ⟨Nat.le_of_ble_eq_true rfl, ⟨_, _, rfl⟩, ?_⟩
            refine RA.steps (i' := 4) (L' := [some (.ref 110), some (.int a), some (.int b), some (.int c)]) (st' := [.long 5, .long 0, .long (a : Int32).toInt64]) (h' := h0) 4 rfl ?_
            refine RA.call0 rfl rfl rfl (isIn_t (v := a) (lo := 0) (hi := 5) h1) ?_
            refine RA.steps (i' := 10) (L' := [some (.ref 110), some (.int a), some (.int b), some (.int c)]) (st' := [.long 65535, .long 0, .long (b : Int32).toInt64]) (h' := h0) 5 rfl ?_
            refine RA.call0 rfl rfl rfl (isIn_t (v := b) (lo := 0) (hi := 65535) h2) ?_
            refine RA.steps (i' := 16) (L' := [some (.ref 110), some (.int a), some (.int b), some (.int c)]) (st' := [.long 8, .long 1, .long (c : Int32).toInt64]) (h' := h0) 5 rfl ?_
            refine RA.call0 rfl rfl rfl (isIn_f (v := c) (lo := 1) (hi := 8) h3) ?_
            refine RA.steps (i' := 19) (L' := [some (.ref 110), some (.int a), some (.int b), some (.int c)]) (st' := [.int (-1000000001)]) (h' := h0) 2 rfl ?_
            exact RA.ret rfl rfl⟩
    · exact ⟨(-1000000001), h0, _, by
          refine ⟨Nat.le_of_ble_eq_true rfl, ⟨_, _, rfl⟩, ?_⟩
          refine RA.steps (i' := 1) (L' := [some (.ref 0), some (.int a), some (.int b), some (.int c)]) (st' := [.int a]) (h' := h0) 1 rfl ?_
          refine RA.call0 (h1 := h0) (r1 := some (.int 1)) rfl rfl rfl (by
            refine ⟨Nat.le_of_ble_eq_true rfl, ⟨_, _, rfl⟩, ?_⟩
            refine RA.steps (i' := 3) (L' := [some (.int a)]) (st' := [.int 5, .int 0, .int a]) (h' := h0) 3 rfl ?_
            refine RA.call0 rfl rfl rfl (within_t (v := a) (lo := 0) (hi := 5) h1) ?_
            exact RA.ret rfl rfl) ?_
          refine RA.steps (i' := 6) (L' := [some (.ref 0), some (.int a), some (.int b), some (.int c)]) (st' := [.int 65535, .int 0, .int b]) (h' := h0) 4 rfl ?_
          refine RA.call0 rfl rfl rfl (within_f (v := b) (lo := 0) (hi := 65535) h2) ?_
          refine RA.steps (i' := 14) (L' := [some (.ref 0), some (.int a), some (.int b), some (.int c)]) (st' := [.int (-1000000001)]) (h' := h0) 2 rfl ?_
          exact RA.ret rfl rfl, by
          refine ⟨Nat.le_of_ble_eq_true rfl, ⟨_, _, rfl⟩, ?_⟩
          refine RA.steps (i' := 4) (L' := [some (.ref 110), some (.int a), some (.int b), some (.int c)]) (st' := [.long 5, .long 0, .long (a : Int32).toInt64]) (h' := h0) 4 rfl ?_
          refine RA.call0 rfl rfl rfl (isIn_t (v := a) (lo := 0) (hi := 5) h1) ?_
          refine RA.steps (i' := 10) (L' := [some (.ref 110), some (.int a), some (.int b), some (.int c)]) (st' := [.long 65535, .long 0, .long (b : Int32).toInt64]) (h' := h0) 5 rfl ?_
          refine RA.call0 rfl rfl rfl (isIn_f (v := b) (lo := 0) (hi := 65535) h2) ?_
          refine RA.steps (i' := 19) (L' := [some (.ref 110), some (.int a), some (.int b), some (.int c)]) (st' := [.int (-1000000001)]) (h' := h0) 2 rfl ?_
          exact RA.ret rfl rfl⟩
  · exact ⟨(-1000000001), h0, _, by
        refine ⟨Nat.le_of_ble_eq_true rfl, ⟨_, _, rfl⟩, ?_⟩
        refine RA.steps (i' := 1) (L' := [some (.ref 0), some (.int a), some (.int b), some (.int c)]) (st' := [.int a]) (h' := h0) 1 rfl ?_
        refine RA.call0 (h1 := h0) (r1 := some (.int 0)) rfl rfl rfl (by
          refine ⟨Nat.le_of_ble_eq_true rfl, ⟨_, _, rfl⟩, ?_⟩
          refine RA.steps (i' := 3) (L' := [some (.int a)]) (st' := [.int 5, .int 0, .int a]) (h' := h0) 3 rfl ?_
          refine RA.call0 rfl rfl rfl (within_f (v := a) (lo := 0) (hi := 5) h1) ?_
          exact RA.ret rfl rfl) ?_
        refine RA.steps (i' := 14) (L' := [some (.ref 0), some (.int a), some (.int b), some (.int c)]) (st' := [.int (-1000000001)]) (h' := h0) 2 rfl ?_
        exact RA.ret rfl rfl, by
        refine ⟨Nat.le_of_ble_eq_true rfl, ⟨_, _, rfl⟩, ?_⟩
        refine RA.steps (i' := 4) (L' := [some (.ref 110), some (.int a), some (.int b), some (.int c)]) (st' := [.long 5, .long 0, .long (a : Int32).toInt64]) (h' := h0) 4 rfl ?_
        refine RA.call0 rfl rfl rfl (isIn_f (v := a) (lo := 0) (hi := 5) h1) ?_
        refine RA.steps (i' := 19) (L' := [some (.ref 110), some (.int a), some (.int b), some (.int c)]) (st' := [.int (-1000000001)]) (h' := h0) 2 rfl ?_
        exact RA.ret rfl rfl⟩
set_option maxRecDepth 100000 in
set_option maxHeartbeats 60000000 in
theorem q_feed (E : pX) (a b c : Int32) : ∃ (r : Int32) (h1 h2 : List pC), Run prog E pV0 40 mX7_feed [.ref 0, .int a, .int b, .int c] h0 (some (.int r), h1, 0, 0) ∧ Run prog E pV0 40 mX8_feed [.ref 110, .int a, .int b, .int c] h1 (some (.int r), h2, 0, 0) := by
  exact ⟨12, ((h0.set 76 (.inr (.inr (2, [.ref 77, .int 12, .int 0, .int 0, .int 0, .int 0, .ref 78, .int 0, .int 0, .int 0, .int 0])))).set 77 (.inl (96, va_up (va_up (va_up (va_up (va_up (va_up (va_up (va_up (va_up (va_up (va_up (va_up (fun _ => 0) 0 ((a.toUInt32 >>> ((24 : Int32).toUInt32 &&& Int32.toUInt32 31)).toInt32 &&& 255)) 1 ((a.toUInt32 >>> ((16 : Int32).toUInt32 &&& Int32.toUInt32 31)).toInt32 &&& 255)) 2 ((a.toUInt32 >>> ((8 : Int32).toUInt32 &&& Int32.toUInt32 31)).toInt32 &&& 255)) 3 ((a.toUInt32 >>> ((0 : Int32).toUInt32 &&& Int32.toUInt32 31)).toInt32 &&& 255)) 4 ((b.toUInt32 >>> ((24 : Int32).toUInt32 &&& Int32.toUInt32 31)).toInt32 &&& 255)) 5 ((b.toUInt32 >>> ((16 : Int32).toUInt32 &&& Int32.toUInt32 31)).toInt32 &&& 255)) 6 ((b.toUInt32 >>> ((8 : Int32).toUInt32 &&& Int32.toUInt32 31)).toInt32 &&& 255)) 7 ((b.toUInt32 >>> ((0 : Int32).toUInt32 &&& Int32.toUInt32 31)).toInt32 &&& 255)) 8 ((c.toUInt32 >>> ((24 : Int32).toUInt32 &&& Int32.toUInt32 31)).toInt32 &&& 255)) 9 ((c.toUInt32 >>> ((16 : Int32).toUInt32 &&& Int32.toUInt32 31)).toInt32 &&& 255)) 10 ((c.toUInt32 >>> ((8 : Int32).toUInt32 &&& Int32.toUInt32 31)).toInt32 &&& 255)) 11 ((c.toUInt32 >>> ((0 : Int32).toUInt32 &&& Int32.toUInt32 31)).toInt32 &&& 255)))), _, by
      refine ⟨Nat.le_of_ble_eq_true rfl, ⟨_, _, rfl⟩, ?_⟩
      refine RA.steps (i' := 3) (L' := [some (.ref 0), some (.int a), some (.int b), some (.int c)]) (st' := [.int 12, .ref 76]) (h' := h0) 3 rfl ?_
      refine RA.call0 (h1 := h0) (r1 := some (.int 1)) rfl rfl rfl (Run.ex 4000 (Nat.le_of_ble_eq_true rfl) ⟨_, _, rfl⟩ rfl) ?_
      refine RA.steps (i' := 10) (L' := [some (.ref 0), some (.int a), some (.int b), some (.int c)]) (st' := [.int a, .ref 76]) (h' := h0) 4 rfl ?_
      refine RA.call0 (h1 := ((h0.set 76 (.inr (.inr (2, [.ref 77, .int 4, .int 0, .int 0, .int 0, .int 0, .ref 78, .int 0, .int 0, .int 0, .int 0])))).set 77 (.inl (96, va_up (va_up (va_up (va_up (fun _ => 0) 0 ((a.toUInt32 >>> ((24 : Int32).toUInt32 &&& Int32.toUInt32 31)).toInt32 &&& 255)) 1 ((a.toUInt32 >>> ((16 : Int32).toUInt32 &&& Int32.toUInt32 31)).toInt32 &&& 255)) 2 ((a.toUInt32 >>> ((8 : Int32).toUInt32 &&& Int32.toUInt32 31)).toInt32 &&& 255)) 3 ((a.toUInt32 >>> ((0 : Int32).toUInt32 &&& Int32.toUInt32 31)).toInt32 &&& 255))))) (r1 := none) rfl rfl rfl (by
        refine ⟨Nat.le_of_ble_eq_true rfl, ⟨_, _, rfl⟩, ?_⟩
        refine RA.steps (i' := 2) (L' := [some (.ref 76), some (.int a), some (.int 16)]) (st' := []) (h' := ((h0.set 76 (.inr (.inr (2, [.ref 77, .int 1, .int 0, .int 0, .int 0, .int 0, .ref 78, .int 0, .int 0, .int 0, .int 0])))).set 77 (.inl (96, va_up (fun _ => 0) 0 ((a.toUInt32 >>> ((24 : Int32).toUInt32 &&& Int32.toUInt32 31)).toInt32 &&& 255))))) 31 rfl ?_
        refine RA.steps (i' := 2) (L' := [some (.ref 76), some (.int a), some (.int 8)]) (st' := []) (h' := ((h0.set 76 (.inr (.inr (2, [.ref 77, .int 2, .int 0, .int 0, .int 0, .int 0, .ref 78, .int 0, .int 0, .int 0, .int 0])))).set 77 (.inl (96, va_up (va_up (fun _ => 0) 0 ((a.toUInt32 >>> ((24 : Int32).toUInt32 &&& Int32.toUInt32 31)).toInt32 &&& 255)) 1 ((a.toUInt32 >>> ((16 : Int32).toUInt32 &&& Int32.toUInt32 31)).toInt32 &&& 255))))) 29 rfl ?_
        refine RA.steps (i' := 2) (L' := [some (.ref 76), some (.int a), some (.int 0)]) (st' := []) (h' := ((h0.set 76 (.inr (.inr (2, [.ref 77, .int 3, .int 0, .int 0, .int 0, .int 0, .ref 78, .int 0, .int 0, .int 0, .int 0])))).set 77 (.inl (96, va_up (va_up (va_up (fun _ => 0) 0 ((a.toUInt32 >>> ((24 : Int32).toUInt32 &&& Int32.toUInt32 31)).toInt32 &&& 255)) 1 ((a.toUInt32 >>> ((16 : Int32).toUInt32 &&& Int32.toUInt32 31)).toInt32 &&& 255)) 2 ((a.toUInt32 >>> ((8 : Int32).toUInt32 &&& Int32.toUInt32 31)).toInt32 &&& 255))))) 29 rfl ?_
        refine RA.steps (i' := 2) (L' := [some (.ref 76), some (.int a), some (.int (-8))]) (st' := []) (h' := ((h0.set 76 (.inr (.inr (2, [.ref 77, .int 4, .int 0, .int 0, .int 0, .int 0, .ref 78, .int 0, .int 0, .int 0, .int 0])))).set 77 (.inl (96, va_up (va_up (va_up (va_up (fun _ => 0) 0 ((a.toUInt32 >>> ((24 : Int32).toUInt32 &&& Int32.toUInt32 31)).toInt32 &&& 255)) 1 ((a.toUInt32 >>> ((16 : Int32).toUInt32 &&& Int32.toUInt32 31)).toInt32 &&& 255)) 2 ((a.toUInt32 >>> ((8 : Int32).toUInt32 &&& Int32.toUInt32 31)).toInt32 &&& 255)) 3 ((a.toUInt32 >>> ((0 : Int32).toUInt32 &&& Int32.toUInt32 31)).toInt32 &&& 255))))) 29 rfl ?_
        refine RA.steps (i' := 31) (L' := [some (.ref 76), some (.int a), some (.int (-8))]) (st' := []) (h' := ((h0.set 76 (.inr (.inr (2, [.ref 77, .int 4, .int 0, .int 0, .int 0, .int 0, .ref 78, .int 0, .int 0, .int 0, .int 0])))).set 77 (.inl (96, va_up (va_up (va_up (va_up (fun _ => 0) 0 ((a.toUInt32 >>> ((24 : Int32).toUInt32 &&& Int32.toUInt32 31)).toInt32 &&& 255)) 1 ((a.toUInt32 >>> ((16 : Int32).toUInt32 &&& Int32.toUInt32 31)).toInt32 &&& 255)) 2 ((a.toUInt32 >>> ((8 : Int32).toUInt32 &&& Int32.toUInt32 31)).toInt32 &&& 255)) 3 ((a.toUInt32 >>> ((0 : Int32).toUInt32 &&& Int32.toUInt32 31)).toInt32 &&& 255))))) 2 rfl ?_
        exact RA.ret rfl rfl) ?_
      refine RA.steps (i' := 14) (L' := [some (.ref 0), some (.int a), some (.int b), some (.int c)]) (st' := [.int b, .ref 76]) (h' := ((h0.set 76 (.inr (.inr (2, [.ref 77, .int 4, .int 0, .int 0, .int 0, .int 0, .ref 78, .int 0, .int 0, .int 0, .int 0])))).set 77 (.inl (96, va_up (va_up (va_up (va_up (fun _ => 0) 0 ((a.toUInt32 >>> ((24 : Int32).toUInt32 &&& Int32.toUInt32 31)).toInt32 &&& 255)) 1 ((a.toUInt32 >>> ((16 : Int32).toUInt32 &&& Int32.toUInt32 31)).toInt32 &&& 255)) 2 ((a.toUInt32 >>> ((8 : Int32).toUInt32 &&& Int32.toUInt32 31)).toInt32 &&& 255)) 3 ((a.toUInt32 >>> ((0 : Int32).toUInt32 &&& Int32.toUInt32 31)).toInt32 &&& 255))))) 3 rfl ?_
      refine RA.call0 (h1 := ((h0.set 76 (.inr (.inr (2, [.ref 77, .int 8, .int 0, .int 0, .int 0, .int 0, .ref 78, .int 0, .int 0, .int 0, .int 0])))).set 77 (.inl (96, va_up (va_up (va_up (va_up (va_up (va_up (va_up (va_up (fun _ => 0) 0 ((a.toUInt32 >>> ((24 : Int32).toUInt32 &&& Int32.toUInt32 31)).toInt32 &&& 255)) 1 ((a.toUInt32 >>> ((16 : Int32).toUInt32 &&& Int32.toUInt32 31)).toInt32 &&& 255)) 2 ((a.toUInt32 >>> ((8 : Int32).toUInt32 &&& Int32.toUInt32 31)).toInt32 &&& 255)) 3 ((a.toUInt32 >>> ((0 : Int32).toUInt32 &&& Int32.toUInt32 31)).toInt32 &&& 255)) 4 ((b.toUInt32 >>> ((24 : Int32).toUInt32 &&& Int32.toUInt32 31)).toInt32 &&& 255)) 5 ((b.toUInt32 >>> ((16 : Int32).toUInt32 &&& Int32.toUInt32 31)).toInt32 &&& 255)) 6 ((b.toUInt32 >>> ((8 : Int32).toUInt32 &&& Int32.toUInt32 31)).toInt32 &&& 255)) 7 ((b.toUInt32 >>> ((0 : Int32).toUInt32 &&& Int32.toUInt32 31)).toInt32 &&& 255))))) (r1 := none) rfl rfl rfl (by
        refine ⟨Nat.le_of_ble_eq_true rfl, ⟨_, _, rfl⟩, ?_⟩
        refine RA.steps (i' := 2) (L' := [some (.ref 76), some (.int b), some (.int 16)]) (st' := []) (h' := ((h0.set 76 (.inr (.inr (2, [.ref 77, .int 5, .int 0, .int 0, .int 0, .int 0, .ref 78, .int 0, .int 0, .int 0, .int 0])))).set 77 (.inl (96, va_up (va_up (va_up (va_up (va_up (fun _ => 0) 0 ((a.toUInt32 >>> ((24 : Int32).toUInt32 &&& Int32.toUInt32 31)).toInt32 &&& 255)) 1 ((a.toUInt32 >>> ((16 : Int32).toUInt32 &&& Int32.toUInt32 31)).toInt32 &&& 255)) 2 ((a.toUInt32 >>> ((8 : Int32).toUInt32 &&& Int32.toUInt32 31)).toInt32 &&& 255)) 3 ((a.toUInt32 >>> ((0 : Int32).toUInt32 &&& Int32.toUInt32 31)).toInt32 &&& 255)) 4 ((b.toUInt32 >>> ((24 : Int32).toUInt32 &&& Int32.toUInt32 31)).toInt32 &&& 255))))) 31 rfl ?_
        refine RA.steps (i' := 2) (L' := [some (.ref 76), some (.int b), some (.int 8)]) (st' := []) (h' := ((h0.set 76 (.inr (.inr (2, [.ref 77, .int 6, .int 0, .int 0, .int 0, .int 0, .ref 78, .int 0, .int 0, .int 0, .int 0])))).set 77 (.inl (96, va_up (va_up (va_up (va_up (va_up (va_up (fun _ => 0) 0 ((a.toUInt32 >>> ((24 : Int32).toUInt32 &&& Int32.toUInt32 31)).toInt32 &&& 255)) 1 ((a.toUInt32 >>> ((16 : Int32).toUInt32 &&& Int32.toUInt32 31)).toInt32 &&& 255)) 2 ((a.toUInt32 >>> ((8 : Int32).toUInt32 &&& Int32.toUInt32 31)).toInt32 &&& 255)) 3 ((a.toUInt32 >>> ((0 : Int32).toUInt32 &&& Int32.toUInt32 31)).toInt32 &&& 255)) 4 ((b.toUInt32 >>> ((24 : Int32).toUInt32 &&& Int32.toUInt32 31)).toInt32 &&& 255)) 5 ((b.toUInt32 >>> ((16 : Int32).toUInt32 &&& Int32.toUInt32 31)).toInt32 &&& 255))))) 29 rfl ?_
        refine RA.steps (i' := 2) (L' := [some (.ref 76), some (.int b), some (.int 0)]) (st' := []) (h' := ((h0.set 76 (.inr (.inr (2, [.ref 77, .int 7, .int 0, .int 0, .int 0, .int 0, .ref 78, .int 0, .int 0, .int 0, .int 0])))).set 77 (.inl (96, va_up (va_up (va_up (va_up (va_up (va_up (va_up (fun _ => 0) 0 ((a.toUInt32 >>> ((24 : Int32).toUInt32 &&& Int32.toUInt32 31)).toInt32 &&& 255)) 1 ((a.toUInt32 >>> ((16 : Int32).toUInt32 &&& Int32.toUInt32 31)).toInt32 &&& 255)) 2 ((a.toUInt32 >>> ((8 : Int32).toUInt32 &&& Int32.toUInt32 31)).toInt32 &&& 255)) 3 ((a.toUInt32 >>> ((0 : Int32).toUInt32 &&& Int32.toUInt32 31)).toInt32 &&& 255)) 4 ((b.toUInt32 >>> ((24 : Int32).toUInt32 &&& Int32.toUInt32 31)).toInt32 &&& 255)) 5 ((b.toUInt32 >>> ((16 : Int32).toUInt32 &&& Int32.toUInt32 31)).toInt32 &&& 255)) 6 ((b.toUInt32 >>> ((8 : Int32).toUInt32 &&& Int32.toUInt32 31)).toInt32 &&& 255))))) 29 rfl ?_
        refine RA.steps (i' := 2) (L' := [some (.ref 76), some (.int b), some (.int (-8))]) (st' := []) (h' := ((h0.set 76 (.inr (.inr (2, [.ref 77, .int 8, .int 0, .int 0, .int 0, .int 0, .ref 78, .int 0, .int 0, .int 0, .int 0])))).set 77 (.inl (96, va_up (va_up (va_up (va_up (va_up (va_up (va_up (va_up (fun _ => 0) 0 ((a.toUInt32 >>> ((24 : Int32).toUInt32 &&& Int32.toUInt32 31)).toInt32 &&& 255)) 1 ((a.toUInt32 >>> ((16 : Int32).toUInt32 &&& Int32.toUInt32 31)).toInt32 &&& 255)) 2 ((a.toUInt32 >>> ((8 : Int32).toUInt32 &&& Int32.toUInt32 31)).toInt32 &&& 255)) 3 ((a.toUInt32 >>> ((0 : Int32).toUInt32 &&& Int32.toUInt32 31)).toInt32 &&& 255)) 4 ((b.toUInt32 >>> ((24 : Int32).toUInt32 &&& Int32.toUInt32 31)).toInt32 &&& 255)) 5 ((b.toUInt32 >>> ((16 : Int32).toUInt32 &&& Int32.toUInt32 31)).toInt32 &&& 255)) 6 ((b.toUInt32 >>> ((8 : Int32).toUInt32 &&& Int32.toUInt32 31)).toInt32 &&& 255)) 7 ((b.toUInt32 >>> ((0 : Int32).toUInt32 &&& Int32.toUInt32 31)).toInt32 &&& 255))))) 29 rfl ?_
        refine RA.steps (i' := 31) (L' := [some (.ref 76), some (.int b), some (.int (-8))]) (st' := []) (h' := ((h0.set 76 (.inr (.inr (2, [.ref 77, .int 8, .int 0, .int 0, .int 0, .int 0, .ref 78, .int 0, .int 0, .int 0, .int 0])))).set 77 (.inl (96, va_up (va_up (va_up (va_up (va_up (va_up (va_up (va_up (fun _ => 0) 0 ((a.toUInt32 >>> ((24 : Int32).toUInt32 &&& Int32.toUInt32 31)).toInt32 &&& 255)) 1 ((a.toUInt32 >>> ((16 : Int32).toUInt32 &&& Int32.toUInt32 31)).toInt32 &&& 255)) 2 ((a.toUInt32 >>> ((8 : Int32).toUInt32 &&& Int32.toUInt32 31)).toInt32 &&& 255)) 3 ((a.toUInt32 >>> ((0 : Int32).toUInt32 &&& Int32.toUInt32 31)).toInt32 &&& 255)) 4 ((b.toUInt32 >>> ((24 : Int32).toUInt32 &&& Int32.toUInt32 31)).toInt32 &&& 255)) 5 ((b.toUInt32 >>> ((16 : Int32).toUInt32 &&& Int32.toUInt32 31)).toInt32 &&& 255)) 6 ((b.toUInt32 >>> ((8 : Int32).toUInt32 &&& Int32.toUInt32 31)).toInt32 &&& 255)) 7 ((b.toUInt32 >>> ((0 : Int32).toUInt32 &&& Int32.toUInt32 31)).toInt32 &&& 255))))) 2 rfl ?_
        exact RA.ret rfl rfl) ?_
      refine RA.steps (i' := 18) (L' := [some (.ref 0), some (.int a), some (.int b), some (.int c)]) (st' := [.int c, .ref 76]) (h' := ((h0.set 76 (.inr (.inr (2, [.ref 77, .int 8, .int 0, .int 0, .int 0, .int 0, .ref 78, .int 0, .int 0, .int 0, .int 0])))).set 77 (.inl (96, va_up (va_up (va_up (va_up (va_up (va_up (va_up (va_up (fun _ => 0) 0 ((a.toUInt32 >>> ((24 : Int32).toUInt32 &&& Int32.toUInt32 31)).toInt32 &&& 255)) 1 ((a.toUInt32 >>> ((16 : Int32).toUInt32 &&& Int32.toUInt32 31)).toInt32 &&& 255)) 2 ((a.toUInt32 >>> ((8 : Int32).toUInt32 &&& Int32.toUInt32 31)).toInt32 &&& 255)) 3 ((a.toUInt32 >>> ((0 : Int32).toUInt32 &&& Int32.toUInt32 31)).toInt32 &&& 255)) 4 ((b.toUInt32 >>> ((24 : Int32).toUInt32 &&& Int32.toUInt32 31)).toInt32 &&& 255)) 5 ((b.toUInt32 >>> ((16 : Int32).toUInt32 &&& Int32.toUInt32 31)).toInt32 &&& 255)) 6 ((b.toUInt32 >>> ((8 : Int32).toUInt32 &&& Int32.toUInt32 31)).toInt32 &&& 255)) 7 ((b.toUInt32 >>> ((0 : Int32).toUInt32 &&& Int32.toUInt32 31)).toInt32 &&& 255))))) 3 rfl ?_
      refine RA.call0 (h1 := ((h0.set 76 (.inr (.inr (2, [.ref 77, .int 12, .int 0, .int 0, .int 0, .int 0, .ref 78, .int 0, .int 0, .int 0, .int 0])))).set 77 (.inl (96, va_up (va_up (va_up (va_up (va_up (va_up (va_up (va_up (va_up (va_up (va_up (va_up (fun _ => 0) 0 ((a.toUInt32 >>> ((24 : Int32).toUInt32 &&& Int32.toUInt32 31)).toInt32 &&& 255)) 1 ((a.toUInt32 >>> ((16 : Int32).toUInt32 &&& Int32.toUInt32 31)).toInt32 &&& 255)) 2 ((a.toUInt32 >>> ((8 : Int32).toUInt32 &&& Int32.toUInt32 31)).toInt32 &&& 255)) 3 ((a.toUInt32 >>> ((0 : Int32).toUInt32 &&& Int32.toUInt32 31)).toInt32 &&& 255)) 4 ((b.toUInt32 >>> ((24 : Int32).toUInt32 &&& Int32.toUInt32 31)).toInt32 &&& 255)) 5 ((b.toUInt32 >>> ((16 : Int32).toUInt32 &&& Int32.toUInt32 31)).toInt32 &&& 255)) 6 ((b.toUInt32 >>> ((8 : Int32).toUInt32 &&& Int32.toUInt32 31)).toInt32 &&& 255)) 7 ((b.toUInt32 >>> ((0 : Int32).toUInt32 &&& Int32.toUInt32 31)).toInt32 &&& 255)) 8 ((c.toUInt32 >>> ((24 : Int32).toUInt32 &&& Int32.toUInt32 31)).toInt32 &&& 255)) 9 ((c.toUInt32 >>> ((16 : Int32).toUInt32 &&& Int32.toUInt32 31)).toInt32 &&& 255)) 10 ((c.toUInt32 >>> ((8 : Int32).toUInt32 &&& Int32.toUInt32 31)).toInt32 &&& 255)) 11 ((c.toUInt32 >>> ((0 : Int32).toUInt32 &&& Int32.toUInt32 31)).toInt32 &&& 255))))) (r1 := none) rfl rfl rfl (by
        refine ⟨Nat.le_of_ble_eq_true rfl, ⟨_, _, rfl⟩, ?_⟩
        refine RA.steps (i' := 2) (L' := [some (.ref 76), some (.int c), some (.int 16)]) (st' := []) (h' := ((h0.set 76 (.inr (.inr (2, [.ref 77, .int 9, .int 0, .int 0, .int 0, .int 0, .ref 78, .int 0, .int 0, .int 0, .int 0])))).set 77 (.inl (96, va_up (va_up (va_up (va_up (va_up (va_up (va_up (va_up (va_up (fun _ => 0) 0 ((a.toUInt32 >>> ((24 : Int32).toUInt32 &&& Int32.toUInt32 31)).toInt32 &&& 255)) 1 ((a.toUInt32 >>> ((16 : Int32).toUInt32 &&& Int32.toUInt32 31)).toInt32 &&& 255)) 2 ((a.toUInt32 >>> ((8 : Int32).toUInt32 &&& Int32.toUInt32 31)).toInt32 &&& 255)) 3 ((a.toUInt32 >>> ((0 : Int32).toUInt32 &&& Int32.toUInt32 31)).toInt32 &&& 255)) 4 ((b.toUInt32 >>> ((24 : Int32).toUInt32 &&& Int32.toUInt32 31)).toInt32 &&& 255)) 5 ((b.toUInt32 >>> ((16 : Int32).toUInt32 &&& Int32.toUInt32 31)).toInt32 &&& 255)) 6 ((b.toUInt32 >>> ((8 : Int32).toUInt32 &&& Int32.toUInt32 31)).toInt32 &&& 255)) 7 ((b.toUInt32 >>> ((0 : Int32).toUInt32 &&& Int32.toUInt32 31)).toInt32 &&& 255)) 8 ((c.toUInt32 >>> ((24 : Int32).toUInt32 &&& Int32.toUInt32 31)).toInt32 &&& 255))))) 31 rfl ?_
        refine RA.steps (i' := 2) (L' := [some (.ref 76), some (.int c), some (.int 8)]) (st' := []) (h' := ((h0.set 76 (.inr (.inr (2, [.ref 77, .int 10, .int 0, .int 0, .int 0, .int 0, .ref 78, .int 0, .int 0, .int 0, .int 0])))).set 77 (.inl (96, va_up (va_up (va_up (va_up (va_up (va_up (va_up (va_up (va_up (va_up (fun _ => 0) 0 ((a.toUInt32 >>> ((24 : Int32).toUInt32 &&& Int32.toUInt32 31)).toInt32 &&& 255)) 1 ((a.toUInt32 >>> ((16 : Int32).toUInt32 &&& Int32.toUInt32 31)).toInt32 &&& 255)) 2 ((a.toUInt32 >>> ((8 : Int32).toUInt32 &&& Int32.toUInt32 31)).toInt32 &&& 255)) 3 ((a.toUInt32 >>> ((0 : Int32).toUInt32 &&& Int32.toUInt32 31)).toInt32 &&& 255)) 4 ((b.toUInt32 >>> ((24 : Int32).toUInt32 &&& Int32.toUInt32 31)).toInt32 &&& 255)) 5 ((b.toUInt32 >>> ((16 : Int32).toUInt32 &&& Int32.toUInt32 31)).toInt32 &&& 255)) 6 ((b.toUInt32 >>> ((8 : Int32).toUInt32 &&& Int32.toUInt32 31)).toInt32 &&& 255)) 7 ((b.toUInt32 >>> ((0 : Int32).toUInt32 &&& Int32.toUInt32 31)).toInt32 &&& 255)) 8 ((c.toUInt32 >>> ((24 : Int32).toUInt32 &&& Int32.toUInt32 31)).toInt32 &&& 255)) 9 ((c.toUInt32 >>> ((16 : Int32).toUInt32 &&& Int32.toUInt32 31)).toInt32 &&& 255))))) 29 rfl ?_
        refine RA.steps (i' := 2) (L' := [some (.ref 76), some (.int c), some (.int 0)]) (st' := []) (h' := ((h0.set 76 (.inr (.inr (2, [.ref 77, .int 11, .int 0, .int 0, .int 0, .int 0, .ref 78, .int 0, .int 0, .int 0, .int 0])))).set 77 (.inl (96, va_up (va_up (va_up (va_up (va_up (va_up (va_up (va_up (va_up (va_up (va_up (fun _ => 0) 0 ((a.toUInt32 >>> ((24 : Int32).toUInt32 &&& Int32.toUInt32 31)).toInt32 &&& 255)) 1 ((a.toUInt32 >>> ((16 : Int32).toUInt32 &&& Int32.toUInt32 31)).toInt32 &&& 255)) 2 ((a.toUInt32 >>> ((8 : Int32).toUInt32 &&& Int32.toUInt32 31)).toInt32 &&& 255)) 3 ((a.toUInt32 >>> ((0 : Int32).toUInt32 &&& Int32.toUInt32 31)).toInt32 &&& 255)) 4 ((b.toUInt32 >>> ((24 : Int32).toUInt32 &&& Int32.toUInt32 31)).toInt32 &&& 255)) 5 ((b.toUInt32 >>> ((16 : Int32).toUInt32 &&& Int32.toUInt32 31)).toInt32 &&& 255)) 6 ((b.toUInt32 >>> ((8 : Int32).toUInt32 &&& Int32.toUInt32 31)).toInt32 &&& 255)) 7 ((b.toUInt32 >>> ((0 : Int32).toUInt32 &&& Int32.toUInt32 31)).toInt32 &&& 255)) 8 ((c.toUInt32 >>> ((24 : Int32).toUInt32 &&& Int32.toUInt32 31)).toInt32 &&& 255)) 9 ((c.toUInt32 >>> ((16 : Int32).toUInt32 &&& Int32.toUInt32 31)).toInt32 &&& 255)) 10 ((c.toUInt32 >>> ((8 : Int32).toUInt32 &&& Int32.toUInt32 31)).toInt32 &&& 255))))) 29 rfl ?_
        refine RA.steps (i' := 2) (L' := [some (.ref 76), some (.int c), some (.int (-8))]) (st' := []) (h' := ((h0.set 76 (.inr (.inr (2, [.ref 77, .int 12, .int 0, .int 0, .int 0, .int 0, .ref 78, .int 0, .int 0, .int 0, .int 0])))).set 77 (.inl (96, va_up (va_up (va_up (va_up (va_up (va_up (va_up (va_up (va_up (va_up (va_up (va_up (fun _ => 0) 0 ((a.toUInt32 >>> ((24 : Int32).toUInt32 &&& Int32.toUInt32 31)).toInt32 &&& 255)) 1 ((a.toUInt32 >>> ((16 : Int32).toUInt32 &&& Int32.toUInt32 31)).toInt32 &&& 255)) 2 ((a.toUInt32 >>> ((8 : Int32).toUInt32 &&& Int32.toUInt32 31)).toInt32 &&& 255)) 3 ((a.toUInt32 >>> ((0 : Int32).toUInt32 &&& Int32.toUInt32 31)).toInt32 &&& 255)) 4 ((b.toUInt32 >>> ((24 : Int32).toUInt32 &&& Int32.toUInt32 31)).toInt32 &&& 255)) 5 ((b.toUInt32 >>> ((16 : Int32).toUInt32 &&& Int32.toUInt32 31)).toInt32 &&& 255)) 6 ((b.toUInt32 >>> ((8 : Int32).toUInt32 &&& Int32.toUInt32 31)).toInt32 &&& 255)) 7 ((b.toUInt32 >>> ((0 : Int32).toUInt32 &&& Int32.toUInt32 31)).toInt32 &&& 255)) 8 ((c.toUInt32 >>> ((24 : Int32).toUInt32 &&& Int32.toUInt32 31)).toInt32 &&& 255)) 9 ((c.toUInt32 >>> ((16 : Int32).toUInt32 &&& Int32.toUInt32 31)).toInt32 &&& 255)) 10 ((c.toUInt32 >>> ((8 : Int32).toUInt32 &&& Int32.toUInt32 31)).toInt32 &&& 255)) 11 ((c.toUInt32 >>> ((0 : Int32).toUInt32 &&& Int32.toUInt32 31)).toInt32 &&& 255))))) 29 rfl ?_
        refine RA.steps (i' := 31) (L' := [some (.ref 76), some (.int c), some (.int (-8))]) (st' := []) (h' := ((h0.set 76 (.inr (.inr (2, [.ref 77, .int 12, .int 0, .int 0, .int 0, .int 0, .ref 78, .int 0, .int 0, .int 0, .int 0])))).set 77 (.inl (96, va_up (va_up (va_up (va_up (va_up (va_up (va_up (va_up (va_up (va_up (va_up (va_up (fun _ => 0) 0 ((a.toUInt32 >>> ((24 : Int32).toUInt32 &&& Int32.toUInt32 31)).toInt32 &&& 255)) 1 ((a.toUInt32 >>> ((16 : Int32).toUInt32 &&& Int32.toUInt32 31)).toInt32 &&& 255)) 2 ((a.toUInt32 >>> ((8 : Int32).toUInt32 &&& Int32.toUInt32 31)).toInt32 &&& 255)) 3 ((a.toUInt32 >>> ((0 : Int32).toUInt32 &&& Int32.toUInt32 31)).toInt32 &&& 255)) 4 ((b.toUInt32 >>> ((24 : Int32).toUInt32 &&& Int32.toUInt32 31)).toInt32 &&& 255)) 5 ((b.toUInt32 >>> ((16 : Int32).toUInt32 &&& Int32.toUInt32 31)).toInt32 &&& 255)) 6 ((b.toUInt32 >>> ((8 : Int32).toUInt32 &&& Int32.toUInt32 31)).toInt32 &&& 255)) 7 ((b.toUInt32 >>> ((0 : Int32).toUInt32 &&& Int32.toUInt32 31)).toInt32 &&& 255)) 8 ((c.toUInt32 >>> ((24 : Int32).toUInt32 &&& Int32.toUInt32 31)).toInt32 &&& 255)) 9 ((c.toUInt32 >>> ((16 : Int32).toUInt32 &&& Int32.toUInt32 31)).toInt32 &&& 255)) 10 ((c.toUInt32 >>> ((8 : Int32).toUInt32 &&& Int32.toUInt32 31)).toInt32 &&& 255)) 11 ((c.toUInt32 >>> ((0 : Int32).toUInt32 &&& Int32.toUInt32 31)).toInt32 &&& 255))))) 2 rfl ?_
        exact RA.ret rfl rfl) ?_
      refine RA.steps (i' := 22) (L' := [some (.ref 0), some (.int a), some (.int b), some (.int c)]) (st' := [.int 12]) (h' := ((h0.set 76 (.inr (.inr (2, [.ref 77, .int 12, .int 0, .int 0, .int 0, .int 0, .ref 78, .int 0, .int 0, .int 0, .int 0])))).set 77 (.inl (96, va_up (va_up (va_up (va_up (va_up (va_up (va_up (va_up (va_up (va_up (va_up (va_up (fun _ => 0) 0 ((a.toUInt32 >>> ((24 : Int32).toUInt32 &&& Int32.toUInt32 31)).toInt32 &&& 255)) 1 ((a.toUInt32 >>> ((16 : Int32).toUInt32 &&& Int32.toUInt32 31)).toInt32 &&& 255)) 2 ((a.toUInt32 >>> ((8 : Int32).toUInt32 &&& Int32.toUInt32 31)).toInt32 &&& 255)) 3 ((a.toUInt32 >>> ((0 : Int32).toUInt32 &&& Int32.toUInt32 31)).toInt32 &&& 255)) 4 ((b.toUInt32 >>> ((24 : Int32).toUInt32 &&& Int32.toUInt32 31)).toInt32 &&& 255)) 5 ((b.toUInt32 >>> ((16 : Int32).toUInt32 &&& Int32.toUInt32 31)).toInt32 &&& 255)) 6 ((b.toUInt32 >>> ((8 : Int32).toUInt32 &&& Int32.toUInt32 31)).toInt32 &&& 255)) 7 ((b.toUInt32 >>> ((0 : Int32).toUInt32 &&& Int32.toUInt32 31)).toInt32 &&& 255)) 8 ((c.toUInt32 >>> ((24 : Int32).toUInt32 &&& Int32.toUInt32 31)).toInt32 &&& 255)) 9 ((c.toUInt32 >>> ((16 : Int32).toUInt32 &&& Int32.toUInt32 31)).toInt32 &&& 255)) 10 ((c.toUInt32 >>> ((8 : Int32).toUInt32 &&& Int32.toUInt32 31)).toInt32 &&& 255)) 11 ((c.toUInt32 >>> ((0 : Int32).toUInt32 &&& Int32.toUInt32 31)).toInt32 &&& 255))))) 3 rfl ?_
      exact RA.ret rfl rfl, by
      refine ⟨Nat.le_of_ble_eq_true rfl, ⟨_, _, rfl⟩, ?_⟩
      refine RA.steps (i' := 10) (L' := [some (.ref 110), some (.int a), some (.int b), some (.int c), some (.int 1), some (.int a)]) (st' := []) (h' := ((((h0.set 76 (.inr (.inr (2, [.ref 77, .int 12, .int 0, .int 0, .int 0, .int 0, .ref 78, .int 0, .int 0, .int 0, .int 0])))).set 77 (.inl (96, va_up (va_up (va_up (va_up (va_up (va_up (va_up (va_up (va_up (va_up (va_up (va_up (fun _ => 0) 0 ((a.toUInt32 >>> ((24 : Int32).toUInt32 &&& Int32.toUInt32 31)).toInt32 &&& 255)) 1 ((a.toUInt32 >>> ((16 : Int32).toUInt32 &&& Int32.toUInt32 31)).toInt32 &&& 255)) 2 ((a.toUInt32 >>> ((8 : Int32).toUInt32 &&& Int32.toUInt32 31)).toInt32 &&& 255)) 3 ((a.toUInt32 >>> ((0 : Int32).toUInt32 &&& Int32.toUInt32 31)).toInt32 &&& 255)) 4 ((b.toUInt32 >>> ((24 : Int32).toUInt32 &&& Int32.toUInt32 31)).toInt32 &&& 255)) 5 ((b.toUInt32 >>> ((16 : Int32).toUInt32 &&& Int32.toUInt32 31)).toInt32 &&& 255)) 6 ((b.toUInt32 >>> ((8 : Int32).toUInt32 &&& Int32.toUInt32 31)).toInt32 &&& 255)) 7 ((b.toUInt32 >>> ((0 : Int32).toUInt32 &&& Int32.toUInt32 31)).toInt32 &&& 255)) 8 ((c.toUInt32 >>> ((24 : Int32).toUInt32 &&& Int32.toUInt32 31)).toInt32 &&& 255)) 9 ((c.toUInt32 >>> ((16 : Int32).toUInt32 &&& Int32.toUInt32 31)).toInt32 &&& 255)) 10 ((c.toUInt32 >>> ((8 : Int32).toUInt32 &&& Int32.toUInt32 31)).toInt32 &&& 255)) 11 ((c.toUInt32 >>> ((0 : Int32).toUInt32 &&& Int32.toUInt32 31)).toInt32 &&& 255)))).set 110 (.inr (.inr (8, [.ref 111, .ref 112, .ref 113, .int 0, .ref 114, .ref 115, .ref 116, .ref 117, .ref 118, .ref 119, .ref 120, .ref 121, .ref 122, .ref 123, .ref 124, .int 1, .int 0, .int 0, .int 0, .int 0, .int 0, .int 0, .int 0, .int 0, .int 0, .int 0, .ref 125, .ref 126, .ref 127, .ref 128, .int 0, .ref 129])))).set 124 (.inl (96, va_up (fun _ => 0) 0 ((a >>> (24 &&& 31)) &&& 255))))) 41 rfl ?_
      refine RA.steps (i' := 10) (L' := [some (.ref 110), some (.int a), some (.int b), some (.int c), some (.int 2), some (.int a)]) (st' := []) (h' := ((((h0.set 76 (.inr (.inr (2, [.ref 77, .int 12, .int 0, .int 0, .int 0, .int 0, .ref 78, .int 0, .int 0, .int 0, .int 0])))).set 77 (.inl (96, va_up (va_up (va_up (va_up (va_up (va_up (va_up (va_up (va_up (va_up (va_up (va_up (fun _ => 0) 0 ((a.toUInt32 >>> ((24 : Int32).toUInt32 &&& Int32.toUInt32 31)).toInt32 &&& 255)) 1 ((a.toUInt32 >>> ((16 : Int32).toUInt32 &&& Int32.toUInt32 31)).toInt32 &&& 255)) 2 ((a.toUInt32 >>> ((8 : Int32).toUInt32 &&& Int32.toUInt32 31)).toInt32 &&& 255)) 3 ((a.toUInt32 >>> ((0 : Int32).toUInt32 &&& Int32.toUInt32 31)).toInt32 &&& 255)) 4 ((b.toUInt32 >>> ((24 : Int32).toUInt32 &&& Int32.toUInt32 31)).toInt32 &&& 255)) 5 ((b.toUInt32 >>> ((16 : Int32).toUInt32 &&& Int32.toUInt32 31)).toInt32 &&& 255)) 6 ((b.toUInt32 >>> ((8 : Int32).toUInt32 &&& Int32.toUInt32 31)).toInt32 &&& 255)) 7 ((b.toUInt32 >>> ((0 : Int32).toUInt32 &&& Int32.toUInt32 31)).toInt32 &&& 255)) 8 ((c.toUInt32 >>> ((24 : Int32).toUInt32 &&& Int32.toUInt32 31)).toInt32 &&& 255)) 9 ((c.toUInt32 >>> ((16 : Int32).toUInt32 &&& Int32.toUInt32 31)).toInt32 &&& 255)) 10 ((c.toUInt32 >>> ((8 : Int32).toUInt32 &&& Int32.toUInt32 31)).toInt32 &&& 255)) 11 ((c.toUInt32 >>> ((0 : Int32).toUInt32 &&& Int32.toUInt32 31)).toInt32 &&& 255)))).set 110 (.inr (.inr (8, [.ref 111, .ref 112, .ref 113, .int 0, .ref 114, .ref 115, .ref 116, .ref 117, .ref 118, .ref 119, .ref 120, .ref 121, .ref 122, .ref 123, .ref 124, .int 2, .int 0, .int 0, .int 0, .int 0, .int 0, .int 0, .int 0, .int 0, .int 0, .int 0, .ref 125, .ref 126, .ref 127, .ref 128, .int 0, .ref 129])))).set 124 (.inl (96, va_up (va_up (fun _ => 0) 0 ((a >>> (24 &&& 31)) &&& 255)) 1 ((a >>> (16 &&& 31)) &&& 255))))) 33 rfl ?_
      refine RA.steps (i' := 10) (L' := [some (.ref 110), some (.int a), some (.int b), some (.int c), some (.int 3), some (.int a)]) (st' := []) (h' := ((((h0.set 76 (.inr (.inr (2, [.ref 77, .int 12, .int 0, .int 0, .int 0, .int 0, .ref 78, .int 0, .int 0, .int 0, .int 0])))).set 77 (.inl (96, va_up (va_up (va_up (va_up (va_up (va_up (va_up (va_up (va_up (va_up (va_up (va_up (fun _ => 0) 0 ((a.toUInt32 >>> ((24 : Int32).toUInt32 &&& Int32.toUInt32 31)).toInt32 &&& 255)) 1 ((a.toUInt32 >>> ((16 : Int32).toUInt32 &&& Int32.toUInt32 31)).toInt32 &&& 255)) 2 ((a.toUInt32 >>> ((8 : Int32).toUInt32 &&& Int32.toUInt32 31)).toInt32 &&& 255)) 3 ((a.toUInt32 >>> ((0 : Int32).toUInt32 &&& Int32.toUInt32 31)).toInt32 &&& 255)) 4 ((b.toUInt32 >>> ((24 : Int32).toUInt32 &&& Int32.toUInt32 31)).toInt32 &&& 255)) 5 ((b.toUInt32 >>> ((16 : Int32).toUInt32 &&& Int32.toUInt32 31)).toInt32 &&& 255)) 6 ((b.toUInt32 >>> ((8 : Int32).toUInt32 &&& Int32.toUInt32 31)).toInt32 &&& 255)) 7 ((b.toUInt32 >>> ((0 : Int32).toUInt32 &&& Int32.toUInt32 31)).toInt32 &&& 255)) 8 ((c.toUInt32 >>> ((24 : Int32).toUInt32 &&& Int32.toUInt32 31)).toInt32 &&& 255)) 9 ((c.toUInt32 >>> ((16 : Int32).toUInt32 &&& Int32.toUInt32 31)).toInt32 &&& 255)) 10 ((c.toUInt32 >>> ((8 : Int32).toUInt32 &&& Int32.toUInt32 31)).toInt32 &&& 255)) 11 ((c.toUInt32 >>> ((0 : Int32).toUInt32 &&& Int32.toUInt32 31)).toInt32 &&& 255)))).set 110 (.inr (.inr (8, [.ref 111, .ref 112, .ref 113, .int 0, .ref 114, .ref 115, .ref 116, .ref 117, .ref 118, .ref 119, .ref 120, .ref 121, .ref 122, .ref 123, .ref 124, .int 3, .int 0, .int 0, .int 0, .int 0, .int 0, .int 0, .int 0, .int 0, .int 0, .int 0, .ref 125, .ref 126, .ref 127, .ref 128, .int 0, .ref 129])))).set 124 (.inl (96, va_up (va_up (va_up (fun _ => 0) 0 ((a >>> (24 &&& 31)) &&& 255)) 1 ((a >>> (16 &&& 31)) &&& 255)) 2 ((a >>> (8 &&& 31)) &&& 255))))) 33 rfl ?_
      refine RA.steps (i' := 10) (L' := [some (.ref 110), some (.int a), some (.int b), some (.int c), some (.int 4), some (.int a)]) (st' := []) (h' := ((((h0.set 76 (.inr (.inr (2, [.ref 77, .int 12, .int 0, .int 0, .int 0, .int 0, .ref 78, .int 0, .int 0, .int 0, .int 0])))).set 77 (.inl (96, va_up (va_up (va_up (va_up (va_up (va_up (va_up (va_up (va_up (va_up (va_up (va_up (fun _ => 0) 0 ((a.toUInt32 >>> ((24 : Int32).toUInt32 &&& Int32.toUInt32 31)).toInt32 &&& 255)) 1 ((a.toUInt32 >>> ((16 : Int32).toUInt32 &&& Int32.toUInt32 31)).toInt32 &&& 255)) 2 ((a.toUInt32 >>> ((8 : Int32).toUInt32 &&& Int32.toUInt32 31)).toInt32 &&& 255)) 3 ((a.toUInt32 >>> ((0 : Int32).toUInt32 &&& Int32.toUInt32 31)).toInt32 &&& 255)) 4 ((b.toUInt32 >>> ((24 : Int32).toUInt32 &&& Int32.toUInt32 31)).toInt32 &&& 255)) 5 ((b.toUInt32 >>> ((16 : Int32).toUInt32 &&& Int32.toUInt32 31)).toInt32 &&& 255)) 6 ((b.toUInt32 >>> ((8 : Int32).toUInt32 &&& Int32.toUInt32 31)).toInt32 &&& 255)) 7 ((b.toUInt32 >>> ((0 : Int32).toUInt32 &&& Int32.toUInt32 31)).toInt32 &&& 255)) 8 ((c.toUInt32 >>> ((24 : Int32).toUInt32 &&& Int32.toUInt32 31)).toInt32 &&& 255)) 9 ((c.toUInt32 >>> ((16 : Int32).toUInt32 &&& Int32.toUInt32 31)).toInt32 &&& 255)) 10 ((c.toUInt32 >>> ((8 : Int32).toUInt32 &&& Int32.toUInt32 31)).toInt32 &&& 255)) 11 ((c.toUInt32 >>> ((0 : Int32).toUInt32 &&& Int32.toUInt32 31)).toInt32 &&& 255)))).set 110 (.inr (.inr (8, [.ref 111, .ref 112, .ref 113, .int 0, .ref 114, .ref 115, .ref 116, .ref 117, .ref 118, .ref 119, .ref 120, .ref 121, .ref 122, .ref 123, .ref 124, .int 4, .int 0, .int 0, .int 0, .int 0, .int 0, .int 0, .int 0, .int 0, .int 0, .int 0, .ref 125, .ref 126, .ref 127, .ref 128, .int 0, .ref 129])))).set 124 (.inl (96, va_up (va_up (va_up (va_up (fun _ => 0) 0 ((a >>> (24 &&& 31)) &&& 255)) 1 ((a >>> (16 &&& 31)) &&& 255)) 2 ((a >>> (8 &&& 31)) &&& 255)) 3 ((a >>> (0 &&& 31)) &&& 255))))) 33 rfl ?_
      refine RA.steps (i' := 10) (L' := [some (.ref 110), some (.int a), some (.int b), some (.int c), some (.int 5), some (.int b)]) (st' := []) (h' := ((((h0.set 76 (.inr (.inr (2, [.ref 77, .int 12, .int 0, .int 0, .int 0, .int 0, .ref 78, .int 0, .int 0, .int 0, .int 0])))).set 77 (.inl (96, va_up (va_up (va_up (va_up (va_up (va_up (va_up (va_up (va_up (va_up (va_up (va_up (fun _ => 0) 0 ((a.toUInt32 >>> ((24 : Int32).toUInt32 &&& Int32.toUInt32 31)).toInt32 &&& 255)) 1 ((a.toUInt32 >>> ((16 : Int32).toUInt32 &&& Int32.toUInt32 31)).toInt32 &&& 255)) 2 ((a.toUInt32 >>> ((8 : Int32).toUInt32 &&& Int32.toUInt32 31)).toInt32 &&& 255)) 3 ((a.toUInt32 >>> ((0 : Int32).toUInt32 &&& Int32.toUInt32 31)).toInt32 &&& 255)) 4 ((b.toUInt32 >>> ((24 : Int32).toUInt32 &&& Int32.toUInt32 31)).toInt32 &&& 255)) 5 ((b.toUInt32 >>> ((16 : Int32).toUInt32 &&& Int32.toUInt32 31)).toInt32 &&& 255)) 6 ((b.toUInt32 >>> ((8 : Int32).toUInt32 &&& Int32.toUInt32 31)).toInt32 &&& 255)) 7 ((b.toUInt32 >>> ((0 : Int32).toUInt32 &&& Int32.toUInt32 31)).toInt32 &&& 255)) 8 ((c.toUInt32 >>> ((24 : Int32).toUInt32 &&& Int32.toUInt32 31)).toInt32 &&& 255)) 9 ((c.toUInt32 >>> ((16 : Int32).toUInt32 &&& Int32.toUInt32 31)).toInt32 &&& 255)) 10 ((c.toUInt32 >>> ((8 : Int32).toUInt32 &&& Int32.toUInt32 31)).toInt32 &&& 255)) 11 ((c.toUInt32 >>> ((0 : Int32).toUInt32 &&& Int32.toUInt32 31)).toInt32 &&& 255)))).set 110 (.inr (.inr (8, [.ref 111, .ref 112, .ref 113, .int 0, .ref 114, .ref 115, .ref 116, .ref 117, .ref 118, .ref 119, .ref 120, .ref 121, .ref 122, .ref 123, .ref 124, .int 5, .int 0, .int 0, .int 0, .int 0, .int 0, .int 0, .int 0, .int 0, .int 0, .int 0, .ref 125, .ref 126, .ref 127, .ref 128, .int 0, .ref 129])))).set 124 (.inl (96, va_up (va_up (va_up (va_up (va_up (fun _ => 0) 0 ((a >>> (24 &&& 31)) &&& 255)) 1 ((a >>> (16 &&& 31)) &&& 255)) 2 ((a >>> (8 &&& 31)) &&& 255)) 3 ((a >>> (0 &&& 31)) &&& 255)) 4 ((b >>> (24 &&& 31)) &&& 255))))) 36 rfl ?_
      refine RA.steps (i' := 10) (L' := [some (.ref 110), some (.int a), some (.int b), some (.int c), some (.int 6), some (.int b)]) (st' := []) (h' := ((((h0.set 76 (.inr (.inr (2, [.ref 77, .int 12, .int 0, .int 0, .int 0, .int 0, .ref 78, .int 0, .int 0, .int 0, .int 0])))).set 77 (.inl (96, va_up (va_up (va_up (va_up (va_up (va_up (va_up (va_up (va_up (va_up (va_up (va_up (fun _ => 0) 0 ((a.toUInt32 >>> ((24 : Int32).toUInt32 &&& Int32.toUInt32 31)).toInt32 &&& 255)) 1 ((a.toUInt32 >>> ((16 : Int32).toUInt32 &&& Int32.toUInt32 31)).toInt32 &&& 255)) 2 ((a.toUInt32 >>> ((8 : Int32).toUInt32 &&& Int32.toUInt32 31)).toInt32 &&& 255)) 3 ((a.toUInt32 >>> ((0 : Int32).toUInt32 &&& Int32.toUInt32 31)).toInt32 &&& 255)) 4 ((b.toUInt32 >>> ((24 : Int32).toUInt32 &&& Int32.toUInt32 31)).toInt32 &&& 255)) 5 ((b.toUInt32 >>> ((16 : Int32).toUInt32 &&& Int32.toUInt32 31)).toInt32 &&& 255)) 6 ((b.toUInt32 >>> ((8 : Int32).toUInt32 &&& Int32.toUInt32 31)).toInt32 &&& 255)) 7 ((b.toUInt32 >>> ((0 : Int32).toUInt32 &&& Int32.toUInt32 31)).toInt32 &&& 255)) 8 ((c.toUInt32 >>> ((24 : Int32).toUInt32 &&& Int32.toUInt32 31)).toInt32 &&& 255)) 9 ((c.toUInt32 >>> ((16 : Int32).toUInt32 &&& Int32.toUInt32 31)).toInt32 &&& 255)) 10 ((c.toUInt32 >>> ((8 : Int32).toUInt32 &&& Int32.toUInt32 31)).toInt32 &&& 255)) 11 ((c.toUInt32 >>> ((0 : Int32).toUInt32 &&& Int32.toUInt32 31)).toInt32 &&& 255)))).set 110 (.inr (.inr (8, [.ref 111, .ref 112, .ref 113, .int 0, .ref 114, .ref 115, .ref 116, .ref 117, .ref 118, .ref 119, .ref 120, .ref 121, .ref 122, .ref 123, .ref 124, .int 6, .int 0, .int 0, .int 0, .int 0, .int 0, .int 0, .int 0, .int 0, .int 0, .int 0, .ref 125, .ref 126, .ref 127, .ref 128, .int 0, .ref 129])))).set 124 (.inl (96, va_up (va_up (va_up (va_up (va_up (va_up (fun _ => 0) 0 ((a >>> (24 &&& 31)) &&& 255)) 1 ((a >>> (16 &&& 31)) &&& 255)) 2 ((a >>> (8 &&& 31)) &&& 255)) 3 ((a >>> (0 &&& 31)) &&& 255)) 4 ((b >>> (24 &&& 31)) &&& 255)) 5 ((b >>> (16 &&& 31)) &&& 255))))) 36 rfl ?_
      refine RA.steps (i' := 10) (L' := [some (.ref 110), some (.int a), some (.int b), some (.int c), some (.int 7), some (.int b)]) (st' := []) (h' := ((((h0.set 76 (.inr (.inr (2, [.ref 77, .int 12, .int 0, .int 0, .int 0, .int 0, .ref 78, .int 0, .int 0, .int 0, .int 0])))).set 77 (.inl (96, va_up (va_up (va_up (va_up (va_up (va_up (va_up (va_up (va_up (va_up (va_up (va_up (fun _ => 0) 0 ((a.toUInt32 >>> ((24 : Int32).toUInt32 &&& Int32.toUInt32 31)).toInt32 &&& 255)) 1 ((a.toUInt32 >>> ((16 : Int32).toUInt32 &&& Int32.toUInt32 31)).toInt32 &&& 255)) 2 ((a.toUInt32 >>> ((8 : Int32).toUInt32 &&& Int32.toUInt32 31)).toInt32 &&& 255)) 3 ((a.toUInt32 >>> ((0 : Int32).toUInt32 &&& Int32.toUInt32 31)).toInt32 &&& 255)) 4 ((b.toUInt32 >>> ((24 : Int32).toUInt32 &&& Int32.toUInt32 31)).toInt32 &&& 255)) 5 ((b.toUInt32 >>> ((16 : Int32).toUInt32 &&& Int32.toUInt32 31)).toInt32 &&& 255)) 6 ((b.toUInt32 >>> ((8 : Int32).toUInt32 &&& Int32.toUInt32 31)).toInt32 &&& 255)) 7 ((b.toUInt32 >>> ((0 : Int32).toUInt32 &&& Int32.toUInt32 31)).toInt32 &&& 255)) 8 ((c.toUInt32 >>> ((24 : Int32).toUInt32 &&& Int32.toUInt32 31)).toInt32 &&& 255)) 9 ((c.toUInt32 >>> ((16 : Int32).toUInt32 &&& Int32.toUInt32 31)).toInt32 &&& 255)) 10 ((c.toUInt32 >>> ((8 : Int32).toUInt32 &&& Int32.toUInt32 31)).toInt32 &&& 255)) 11 ((c.toUInt32 >>> ((0 : Int32).toUInt32 &&& Int32.toUInt32 31)).toInt32 &&& 255)))).set 110 (.inr (.inr (8, [.ref 111, .ref 112, .ref 113, .int 0, .ref 114, .ref 115, .ref 116, .ref 117, .ref 118, .ref 119, .ref 120, .ref 121, .ref 122, .ref 123, .ref 124, .int 7, .int 0, .int 0, .int 0, .int 0, .int 0, .int 0, .int 0, .int 0, .int 0, .int 0, .ref 125, .ref 126, .ref 127, .ref 128, .int 0, .ref 129])))).set 124 (.inl (96, va_up (va_up (va_up (va_up (va_up (va_up (va_up (fun _ => 0) 0 ((a >>> (24 &&& 31)) &&& 255)) 1 ((a >>> (16 &&& 31)) &&& 255)) 2 ((a >>> (8 &&& 31)) &&& 255)) 3 ((a >>> (0 &&& 31)) &&& 255)) 4 ((b >>> (24 &&& 31)) &&& 255)) 5 ((b >>> (16 &&& 31)) &&& 255)) 6 ((b >>> (8 &&& 31)) &&& 255))))) 36 rfl ?_
      refine RA.steps (i' := 10) (L' := [some (.ref 110), some (.int a), some (.int b), some (.int c), some (.int 8), some (.int b)]) (st' := []) (h' := ((((h0.set 76 (.inr (.inr (2, [.ref 77, .int 12, .int 0, .int 0, .int 0, .int 0, .ref 78, .int 0, .int 0, .int 0, .int 0])))).set 77 (.inl (96, va_up (va_up (va_up (va_up (va_up (va_up (va_up (va_up (va_up (va_up (va_up (va_up (fun _ => 0) 0 ((a.toUInt32 >>> ((24 : Int32).toUInt32 &&& Int32.toUInt32 31)).toInt32 &&& 255)) 1 ((a.toUInt32 >>> ((16 : Int32).toUInt32 &&& Int32.toUInt32 31)).toInt32 &&& 255)) 2 ((a.toUInt32 >>> ((8 : Int32).toUInt32 &&& Int32.toUInt32 31)).toInt32 &&& 255)) 3 ((a.toUInt32 >>> ((0 : Int32).toUInt32 &&& Int32.toUInt32 31)).toInt32 &&& 255)) 4 ((b.toUInt32 >>> ((24 : Int32).toUInt32 &&& Int32.toUInt32 31)).toInt32 &&& 255)) 5 ((b.toUInt32 >>> ((16 : Int32).toUInt32 &&& Int32.toUInt32 31)).toInt32 &&& 255)) 6 ((b.toUInt32 >>> ((8 : Int32).toUInt32 &&& Int32.toUInt32 31)).toInt32 &&& 255)) 7 ((b.toUInt32 >>> ((0 : Int32).toUInt32 &&& Int32.toUInt32 31)).toInt32 &&& 255)) 8 ((c.toUInt32 >>> ((24 : Int32).toUInt32 &&& Int32.toUInt32 31)).toInt32 &&& 255)) 9 ((c.toUInt32 >>> ((16 : Int32).toUInt32 &&& Int32.toUInt32 31)).toInt32 &&& 255)) 10 ((c.toUInt32 >>> ((8 : Int32).toUInt32 &&& Int32.toUInt32 31)).toInt32 &&& 255)) 11 ((c.toUInt32 >>> ((0 : Int32).toUInt32 &&& Int32.toUInt32 31)).toInt32 &&& 255)))).set 110 (.inr (.inr (8, [.ref 111, .ref 112, .ref 113, .int 0, .ref 114, .ref 115, .ref 116, .ref 117, .ref 118, .ref 119, .ref 120, .ref 121, .ref 122, .ref 123, .ref 124, .int 8, .int 0, .int 0, .int 0, .int 0, .int 0, .int 0, .int 0, .int 0, .int 0, .int 0, .ref 125, .ref 126, .ref 127, .ref 128, .int 0, .ref 129])))).set 124 (.inl (96, va_up (va_up (va_up (va_up (va_up (va_up (va_up (va_up (fun _ => 0) 0 ((a >>> (24 &&& 31)) &&& 255)) 1 ((a >>> (16 &&& 31)) &&& 255)) 2 ((a >>> (8 &&& 31)) &&& 255)) 3 ((a >>> (0 &&& 31)) &&& 255)) 4 ((b >>> (24 &&& 31)) &&& 255)) 5 ((b >>> (16 &&& 31)) &&& 255)) 6 ((b >>> (8 &&& 31)) &&& 255)) 7 ((b >>> (0 &&& 31)) &&& 255))))) 36 rfl ?_
      refine RA.steps (i' := 10) (L' := [some (.ref 110), some (.int a), some (.int b), some (.int c), some (.int 9), some (.int c)]) (st' := []) (h' := ((((h0.set 76 (.inr (.inr (2, [.ref 77, .int 12, .int 0, .int 0, .int 0, .int 0, .ref 78, .int 0, .int 0, .int 0, .int 0])))).set 77 (.inl (96, va_up (va_up (va_up (va_up (va_up (va_up (va_up (va_up (va_up (va_up (va_up (va_up (fun _ => 0) 0 ((a.toUInt32 >>> ((24 : Int32).toUInt32 &&& Int32.toUInt32 31)).toInt32 &&& 255)) 1 ((a.toUInt32 >>> ((16 : Int32).toUInt32 &&& Int32.toUInt32 31)).toInt32 &&& 255)) 2 ((a.toUInt32 >>> ((8 : Int32).toUInt32 &&& Int32.toUInt32 31)).toInt32 &&& 255)) 3 ((a.toUInt32 >>> ((0 : Int32).toUInt32 &&& Int32.toUInt32 31)).toInt32 &&& 255)) 4 ((b.toUInt32 >>> ((24 : Int32).toUInt32 &&& Int32.toUInt32 31)).toInt32 &&& 255)) 5 ((b.toUInt32 >>> ((16 : Int32).toUInt32 &&& Int32.toUInt32 31)).toInt32 &&& 255)) 6 ((b.toUInt32 >>> ((8 : Int32).toUInt32 &&& Int32.toUInt32 31)).toInt32 &&& 255)) 7 ((b.toUInt32 >>> ((0 : Int32).toUInt32 &&& Int32.toUInt32 31)).toInt32 &&& 255)) 8 ((c.toUInt32 >>> ((24 : Int32).toUInt32 &&& Int32.toUInt32 31)).toInt32 &&& 255)) 9 ((c.toUInt32 >>> ((16 : Int32).toUInt32 &&& Int32.toUInt32 31)).toInt32 &&& 255)) 10 ((c.toUInt32 >>> ((8 : Int32).toUInt32 &&& Int32.toUInt32 31)).toInt32 &&& 255)) 11 ((c.toUInt32 >>> ((0 : Int32).toUInt32 &&& Int32.toUInt32 31)).toInt32 &&& 255)))).set 110 (.inr (.inr (8, [.ref 111, .ref 112, .ref 113, .int 0, .ref 114, .ref 115, .ref 116, .ref 117, .ref 118, .ref 119, .ref 120, .ref 121, .ref 122, .ref 123, .ref 124, .int 9, .int 0, .int 0, .int 0, .int 0, .int 0, .int 0, .int 0, .int 0, .int 0, .int 0, .ref 125, .ref 126, .ref 127, .ref 128, .int 0, .ref 129])))).set 124 (.inl (96, va_up (va_up (va_up (va_up (va_up (va_up (va_up (va_up (va_up (fun _ => 0) 0 ((a >>> (24 &&& 31)) &&& 255)) 1 ((a >>> (16 &&& 31)) &&& 255)) 2 ((a >>> (8 &&& 31)) &&& 255)) 3 ((a >>> (0 &&& 31)) &&& 255)) 4 ((b >>> (24 &&& 31)) &&& 255)) 5 ((b >>> (16 &&& 31)) &&& 255)) 6 ((b >>> (8 &&& 31)) &&& 255)) 7 ((b >>> (0 &&& 31)) &&& 255)) 8 ((c >>> (24 &&& 31)) &&& 255))))) 35 rfl ?_
      refine RA.steps (i' := 10) (L' := [some (.ref 110), some (.int a), some (.int b), some (.int c), some (.int 10), some (.int c)]) (st' := []) (h' := ((((h0.set 76 (.inr (.inr (2, [.ref 77, .int 12, .int 0, .int 0, .int 0, .int 0, .ref 78, .int 0, .int 0, .int 0, .int 0])))).set 77 (.inl (96, va_up (va_up (va_up (va_up (va_up (va_up (va_up (va_up (va_up (va_up (va_up (va_up (fun _ => 0) 0 ((a.toUInt32 >>> ((24 : Int32).toUInt32 &&& Int32.toUInt32 31)).toInt32 &&& 255)) 1 ((a.toUInt32 >>> ((16 : Int32).toUInt32 &&& Int32.toUInt32 31)).toInt32 &&& 255)) 2 ((a.toUInt32 >>> ((8 : Int32).toUInt32 &&& Int32.toUInt32 31)).toInt32 &&& 255)) 3 ((a.toUInt32 >>> ((0 : Int32).toUInt32 &&& Int32.toUInt32 31)).toInt32 &&& 255)) 4 ((b.toUInt32 >>> ((24 : Int32).toUInt32 &&& Int32.toUInt32 31)).toInt32 &&& 255)) 5 ((b.toUInt32 >>> ((16 : Int32).toUInt32 &&& Int32.toUInt32 31)).toInt32 &&& 255)) 6 ((b.toUInt32 >>> ((8 : Int32).toUInt32 &&& Int32.toUInt32 31)).toInt32 &&& 255)) 7 ((b.toUInt32 >>> ((0 : Int32).toUInt32 &&& Int32.toUInt32 31)).toInt32 &&& 255)) 8 ((c.toUInt32 >>> ((24 : Int32).toUInt32 &&& Int32.toUInt32 31)).toInt32 &&& 255)) 9 ((c.toUInt32 >>> ((16 : Int32).toUInt32 &&& Int32.toUInt32 31)).toInt32 &&& 255)) 10 ((c.toUInt32 >>> ((8 : Int32).toUInt32 &&& Int32.toUInt32 31)).toInt32 &&& 255)) 11 ((c.toUInt32 >>> ((0 : Int32).toUInt32 &&& Int32.toUInt32 31)).toInt32 &&& 255)))).set 110 (.inr (.inr (8, [.ref 111, .ref 112, .ref 113, .int 0, .ref 114, .ref 115, .ref 116, .ref 117, .ref 118, .ref 119, .ref 120, .ref 121, .ref 122, .ref 123, .ref 124, .int 10, .int 0, .int 0, .int 0, .int 0, .int 0, .int 0, .int 0, .int 0, .int 0, .int 0, .ref 125, .ref 126, .ref 127, .ref 128, .int 0, .ref 129])))).set 124 (.inl (96, va_up (va_up (va_up (va_up (va_up (va_up (va_up (va_up (va_up (va_up (fun _ => 0) 0 ((a >>> (24 &&& 31)) &&& 255)) 1 ((a >>> (16 &&& 31)) &&& 255)) 2 ((a >>> (8 &&& 31)) &&& 255)) 3 ((a >>> (0 &&& 31)) &&& 255)) 4 ((b >>> (24 &&& 31)) &&& 255)) 5 ((b >>> (16 &&& 31)) &&& 255)) 6 ((b >>> (8 &&& 31)) &&& 255)) 7 ((b >>> (0 &&& 31)) &&& 255)) 8 ((c >>> (24 &&& 31)) &&& 255)) 9 ((c >>> (16 &&& 31)) &&& 255))))) 35 rfl ?_
      refine RA.steps (i' := 10) (L' := [some (.ref 110), some (.int a), some (.int b), some (.int c), some (.int 11), some (.int c)]) (st' := []) (h' := ((((h0.set 76 (.inr (.inr (2, [.ref 77, .int 12, .int 0, .int 0, .int 0, .int 0, .ref 78, .int 0, .int 0, .int 0, .int 0])))).set 77 (.inl (96, va_up (va_up (va_up (va_up (va_up (va_up (va_up (va_up (va_up (va_up (va_up (va_up (fun _ => 0) 0 ((a.toUInt32 >>> ((24 : Int32).toUInt32 &&& Int32.toUInt32 31)).toInt32 &&& 255)) 1 ((a.toUInt32 >>> ((16 : Int32).toUInt32 &&& Int32.toUInt32 31)).toInt32 &&& 255)) 2 ((a.toUInt32 >>> ((8 : Int32).toUInt32 &&& Int32.toUInt32 31)).toInt32 &&& 255)) 3 ((a.toUInt32 >>> ((0 : Int32).toUInt32 &&& Int32.toUInt32 31)).toInt32 &&& 255)) 4 ((b.toUInt32 >>> ((24 : Int32).toUInt32 &&& Int32.toUInt32 31)).toInt32 &&& 255)) 5 ((b.toUInt32 >>> ((16 : Int32).toUInt32 &&& Int32.toUInt32 31)).toInt32 &&& 255)) 6 ((b.toUInt32 >>> ((8 : Int32).toUInt32 &&& Int32.toUInt32 31)).toInt32 &&& 255)) 7 ((b.toUInt32 >>> ((0 : Int32).toUInt32 &&& Int32.toUInt32 31)).toInt32 &&& 255)) 8 ((c.toUInt32 >>> ((24 : Int32).toUInt32 &&& Int32.toUInt32 31)).toInt32 &&& 255)) 9 ((c.toUInt32 >>> ((16 : Int32).toUInt32 &&& Int32.toUInt32 31)).toInt32 &&& 255)) 10 ((c.toUInt32 >>> ((8 : Int32).toUInt32 &&& Int32.toUInt32 31)).toInt32 &&& 255)) 11 ((c.toUInt32 >>> ((0 : Int32).toUInt32 &&& Int32.toUInt32 31)).toInt32 &&& 255)))).set 110 (.inr (.inr (8, [.ref 111, .ref 112, .ref 113, .int 0, .ref 114, .ref 115, .ref 116, .ref 117, .ref 118, .ref 119, .ref 120, .ref 121, .ref 122, .ref 123, .ref 124, .int 11, .int 0, .int 0, .int 0, .int 0, .int 0, .int 0, .int 0, .int 0, .int 0, .int 0, .ref 125, .ref 126, .ref 127, .ref 128, .int 0, .ref 129])))).set 124 (.inl (96, va_up (va_up (va_up (va_up (va_up (va_up (va_up (va_up (va_up (va_up (va_up (fun _ => 0) 0 ((a >>> (24 &&& 31)) &&& 255)) 1 ((a >>> (16 &&& 31)) &&& 255)) 2 ((a >>> (8 &&& 31)) &&& 255)) 3 ((a >>> (0 &&& 31)) &&& 255)) 4 ((b >>> (24 &&& 31)) &&& 255)) 5 ((b >>> (16 &&& 31)) &&& 255)) 6 ((b >>> (8 &&& 31)) &&& 255)) 7 ((b >>> (0 &&& 31)) &&& 255)) 8 ((c >>> (24 &&& 31)) &&& 255)) 9 ((c >>> (16 &&& 31)) &&& 255)) 10 ((c >>> (8 &&& 31)) &&& 255))))) 35 rfl ?_
      refine RA.steps (i' := 10) (L' := [some (.ref 110), some (.int a), some (.int b), some (.int c), some (.int 12), some (.int c)]) (st' := []) (h' := ((((h0.set 76 (.inr (.inr (2, [.ref 77, .int 12, .int 0, .int 0, .int 0, .int 0, .ref 78, .int 0, .int 0, .int 0, .int 0])))).set 77 (.inl (96, va_up (va_up (va_up (va_up (va_up (va_up (va_up (va_up (va_up (va_up (va_up (va_up (fun _ => 0) 0 ((a.toUInt32 >>> ((24 : Int32).toUInt32 &&& Int32.toUInt32 31)).toInt32 &&& 255)) 1 ((a.toUInt32 >>> ((16 : Int32).toUInt32 &&& Int32.toUInt32 31)).toInt32 &&& 255)) 2 ((a.toUInt32 >>> ((8 : Int32).toUInt32 &&& Int32.toUInt32 31)).toInt32 &&& 255)) 3 ((a.toUInt32 >>> ((0 : Int32).toUInt32 &&& Int32.toUInt32 31)).toInt32 &&& 255)) 4 ((b.toUInt32 >>> ((24 : Int32).toUInt32 &&& Int32.toUInt32 31)).toInt32 &&& 255)) 5 ((b.toUInt32 >>> ((16 : Int32).toUInt32 &&& Int32.toUInt32 31)).toInt32 &&& 255)) 6 ((b.toUInt32 >>> ((8 : Int32).toUInt32 &&& Int32.toUInt32 31)).toInt32 &&& 255)) 7 ((b.toUInt32 >>> ((0 : Int32).toUInt32 &&& Int32.toUInt32 31)).toInt32 &&& 255)) 8 ((c.toUInt32 >>> ((24 : Int32).toUInt32 &&& Int32.toUInt32 31)).toInt32 &&& 255)) 9 ((c.toUInt32 >>> ((16 : Int32).toUInt32 &&& Int32.toUInt32 31)).toInt32 &&& 255)) 10 ((c.toUInt32 >>> ((8 : Int32).toUInt32 &&& Int32.toUInt32 31)).toInt32 &&& 255)) 11 ((c.toUInt32 >>> ((0 : Int32).toUInt32 &&& Int32.toUInt32 31)).toInt32 &&& 255)))).set 110 (.inr (.inr (8, [.ref 111, .ref 112, .ref 113, .int 0, .ref 114, .ref 115, .ref 116, .ref 117, .ref 118, .ref 119, .ref 120, .ref 121, .ref 122, .ref 123, .ref 124, .int 12, .int 0, .int 0, .int 0, .int 0, .int 0, .int 0, .int 0, .int 0, .int 0, .int 0, .ref 125, .ref 126, .ref 127, .ref 128, .int 0, .ref 129])))).set 124 (.inl (96, va_up (va_up (va_up (va_up (va_up (va_up (va_up (va_up (va_up (va_up (va_up (va_up (fun _ => 0) 0 ((a >>> (24 &&& 31)) &&& 255)) 1 ((a >>> (16 &&& 31)) &&& 255)) 2 ((a >>> (8 &&& 31)) &&& 255)) 3 ((a >>> (0 &&& 31)) &&& 255)) 4 ((b >>> (24 &&& 31)) &&& 255)) 5 ((b >>> (16 &&& 31)) &&& 255)) 6 ((b >>> (8 &&& 31)) &&& 255)) 7 ((b >>> (0 &&& 31)) &&& 255)) 8 ((c >>> (24 &&& 31)) &&& 255)) 9 ((c >>> (16 &&& 31)) &&& 255)) 10 ((c >>> (8 &&& 31)) &&& 255)) 11 ((c >>> (0 &&& 31)) &&& 255))))) 35 rfl ?_
      refine RA.steps (i' := 51) (L' := [some (.ref 110), some (.int a), some (.int b), some (.int c), some (.int 12), some (.int c)]) (st' := [.int 12]) (h' := ((((h0.set 76 (.inr (.inr (2, [.ref 77, .int 12, .int 0, .int 0, .int 0, .int 0, .ref 78, .int 0, .int 0, .int 0, .int 0])))).set 77 (.inl (96, va_up (va_up (va_up (va_up (va_up (va_up (va_up (va_up (va_up (va_up (va_up (va_up (fun _ => 0) 0 ((a.toUInt32 >>> ((24 : Int32).toUInt32 &&& Int32.toUInt32 31)).toInt32 &&& 255)) 1 ((a.toUInt32 >>> ((16 : Int32).toUInt32 &&& Int32.toUInt32 31)).toInt32 &&& 255)) 2 ((a.toUInt32 >>> ((8 : Int32).toUInt32 &&& Int32.toUInt32 31)).toInt32 &&& 255)) 3 ((a.toUInt32 >>> ((0 : Int32).toUInt32 &&& Int32.toUInt32 31)).toInt32 &&& 255)) 4 ((b.toUInt32 >>> ((24 : Int32).toUInt32 &&& Int32.toUInt32 31)).toInt32 &&& 255)) 5 ((b.toUInt32 >>> ((16 : Int32).toUInt32 &&& Int32.toUInt32 31)).toInt32 &&& 255)) 6 ((b.toUInt32 >>> ((8 : Int32).toUInt32 &&& Int32.toUInt32 31)).toInt32 &&& 255)) 7 ((b.toUInt32 >>> ((0 : Int32).toUInt32 &&& Int32.toUInt32 31)).toInt32 &&& 255)) 8 ((c.toUInt32 >>> ((24 : Int32).toUInt32 &&& Int32.toUInt32 31)).toInt32 &&& 255)) 9 ((c.toUInt32 >>> ((16 : Int32).toUInt32 &&& Int32.toUInt32 31)).toInt32 &&& 255)) 10 ((c.toUInt32 >>> ((8 : Int32).toUInt32 &&& Int32.toUInt32 31)).toInt32 &&& 255)) 11 ((c.toUInt32 >>> ((0 : Int32).toUInt32 &&& Int32.toUInt32 31)).toInt32 &&& 255)))).set 110 (.inr (.inr (8, [.ref 111, .ref 112, .ref 113, .int 0, .ref 114, .ref 115, .ref 116, .ref 117, .ref 118, .ref 119, .ref 120, .ref 121, .ref 122, .ref 123, .ref 124, .int 12, .int 0, .int 0, .int 0, .int 0, .int 0, .int 0, .int 0, .int 0, .int 0, .int 0, .ref 125, .ref 126, .ref 127, .ref 128, .int 0, .ref 129])))).set 124 (.inl (96, va_up (va_up (va_up (va_up (va_up (va_up (va_up (va_up (va_up (va_up (va_up (va_up (fun _ => 0) 0 ((a >>> (24 &&& 31)) &&& 255)) 1 ((a >>> (16 &&& 31)) &&& 255)) 2 ((a >>> (8 &&& 31)) &&& 255)) 3 ((a >>> (0 &&& 31)) &&& 255)) 4 ((b >>> (24 &&& 31)) &&& 255)) 5 ((b >>> (16 &&& 31)) &&& 255)) 6 ((b >>> (8 &&& 31)) &&& 255)) 7 ((b >>> (0 &&& 31)) &&& 255)) 8 ((c >>> (24 &&& 31)) &&& 255)) 9 ((c >>> (16 &&& 31)) &&& 255)) 10 ((c >>> (8 &&& 31)) &&& 255)) 11 ((c >>> (0 &&& 31)) &&& 255))))) 5 rfl ?_
      exact RA.ret rfl rfl⟩
end
section
set_option maxRecDepth 100000 in
set_option maxHeartbeats 60000000 in
theorem q_behind (E : pX) (a b : Int32) : ∃ (r : Int32) (h1 h2 : List pC), Run prog E pV0 40 mX7_behind [.ref 0, .int a, .int b] h0 (some (.int r), h1, 0, 0) ∧ Run prog E pV0 40 mX8_behind [.ref 110, .int a, .int b] h1 (some (.int r), h2, 0, 0) := by
  by_cases hh : 0 ≤ a ∧ a ≤ 100
  · obtain ⟨N, hN, rfl⟩ := nI_of2 (x := a) (M := 100) (n := 100) (by decide) (Int32.not_lt.mpr (Int32.le_trans (by decide) hh.1)) hh.2
    by_cases h1 : 0 ≤ b ∧ b ≤ 2
    · rcases cases_0_2 h1 with rfl | rfl | rfl
      · obtain ⟨ti0, z0, hr0⟩ := flow_run (E := E) (V := pV0) (d := 37) (h := ((h0.set 63 (.inl (16, va_cpy (fun _ => 0) (fun _ => 0) 0 0 16))).set 66 (.inl (3, va_cpy (va_up (va_up (va_up (fun _ => 0) 0 (-1000000005)) 1 (-1000000005)) 2 (-1000000005)) (va_up (va_up (va_up (fun _ => 0) 0 (-1000000005)) 1 (-1000000005)) 2 (-1000000005)) 0 0 3)))) (w := 62) N (by omega) rfl
        obtain ⟨c1, hc1, hr1⟩ := laysBy_run (E := E) (V := pV0) (d := 38) (h := (((h0.set 62 (.inr (.inr (6, [.ref 1, .ref 63, .ref 64, .ref 65, .ref 66, .int 0, .int 0, .int ti0, .int 0, .int z0])))).set 63 (.inl (16, va_cpy (fun _ => 0) (fun _ => 0) 0 0 16))).set 66 (.inl (3, va_cpy (va_up (va_up (va_up (fun _ => 0) 0 (-1000000005)) 1 (-1000000005)) 2 (-1000000005)) (va_up (va_up (va_up (fun _ => 0) 0 (-1000000005)) 1 (-1000000005)) 2 (-1000000005)) 0 0 3)))) rfl rfl rfl rfl rfl
        obtain ⟨g2, ga2, gb2, hr2⟩ := gom_run (E := E) (V := pV0) (d := 36) (h := ((((h0.set 62 (.inr (.inr (6, [.ref 1, .ref 63, .ref 64, .ref 65, .ref 66, .int 0, .int 0, .int ti0, .int 0, .int z0])))).set 63 (.inl (16, va_cpy (fun _ => 0) (fun _ => 0) 0 0 16))).set 66 (.inl (3, va_cpy (va_up (va_up (va_up (fun _ => 0) 0 (-1000000005)) 1 (-1000000005)) 2 (-1000000005)) (va_up (va_up (va_up (fun _ => 0) 0 (-1000000005)) 1 (-1000000005)) 2 (-1000000005)) 0 0 3))).set 123 (.inl (75, c1)))) N (by omega) ⟨rfl, rfl, rfl, rfl⟩
        obtain ⟨c3, hc3, hr3⟩ := laysBack_run (E := E) (V := pV0) (d := 38) (h := (((((h0.set 62 (.inr (.inr (6, [.ref 1, .ref 63, .ref 64, .ref 65, .ref 66, .int 0, .int 0, .int ti0, .int 0, .int z0])))).set 63 (.inl (16, va_cpy (fun _ => 0) (fun _ => 0) 0 0 16))).set 66 (.inl (3, va_cpy (va_up (va_up (va_up (fun _ => 0) 0 (-1000000005)) 1 (-1000000005)) 2 (-1000000005)) (va_up (va_up (va_up (fun _ => 0) 0 (-1000000005)) 1 (-1000000005)) 2 (-1000000005)) 0 0 3))).set 111 (.inl (3075, g2))).set 123 (.inl (75, c1)))) rfl rfl rfl rfl rfl
        exact ⟨0, (((h0.set 62 (.inr (.inr (6, [.ref 1, .ref 63, .ref 64, .ref 65, .ref 66, .int 0, .int 0, .int ti0, .int 0, .int z0])))).set 63 (.inl (16, va_cpy (fun _ => 0) (fun _ => 0) 0 0 16))).set 66 (.inl (3, va_cpy (va_up (va_up (va_up (fun _ => 0) 0 (-1000000005)) 1 (-1000000005)) 2 (-1000000005)) (va_up (va_up (va_up (fun _ => 0) 0 (-1000000005)) 1 (-1000000005)) 2 (-1000000005)) 0 0 3))), _, by
            refine ⟨Nat.le_of_ble_eq_true rfl, ⟨_, _, rfl⟩, ?_⟩
            refine RA.steps (i' := 3) (L' := [some (.ref 0), some (.int (nI N)), some (.int 0)]) (st' := [.int 100, .int 0, .int (nI N)]) (h' := h0) 3 rfl ?_
            refine RA.call0 rfl rfl rfl (within_t (v := (nI N)) (lo := 0) (hi := 100) hh) ?_
            refine RA.steps (i' := 12) (L' := [some (.ref 0), some (.int (nI N)), some (.int 0)]) (st' := [.int 2, .int 0, .int 0]) (h' := h0) 8 rfl ?_
            refine RA.call0 (h1 := h0) (r1 := some (.int 1)) rfl rfl rfl (Run.ex 4000 (Nat.le_of_ble_eq_true rfl) ⟨_, _, rfl⟩ rfl) ?_
            refine RA.steps (i' := 20) (L' := [some (.ref 0), some (.int (nI N)), some (.int 0)]) (st' := [.ref 34, .ref 62]) (h' := h0) 5 rfl ?_
            refine RA.call0 (h1 := ((h0.set 63 (.inl (16, va_cpy (fun _ => 0) (fun _ => 0) 0 0 16))).set 66 (.inl (3, va_cpy (va_up (va_up (va_up (fun _ => 0) 0 (-1000000005)) 1 (-1000000005)) 2 (-1000000005)) (va_up (va_up (va_up (fun _ => 0) 0 (-1000000005)) 1 (-1000000005)) 2 (-1000000005)) 0 0 3)))) (r1 := none) rfl rfl rfl (Run.ex 4000 (Nat.le_of_ble_eq_true rfl) ⟨_, _, rfl⟩ rfl) ?_
            refine RA.steps (i' := 24) (L' := [some (.ref 0), some (.int (nI N)), some (.int 0)]) (st' := [.int (nI N), .ref 62]) (h' := ((h0.set 63 (.inl (16, va_cpy (fun _ => 0) (fun _ => 0) 0 0 16))).set 66 (.inl (3, va_cpy (va_up (va_up (va_up (fun _ => 0) 0 (-1000000005)) 1 (-1000000005)) 2 (-1000000005)) (va_up (va_up (va_up (fun _ => 0) 0 (-1000000005)) 1 (-1000000005)) 2 (-1000000005)) 0 0 3)))) 3 rfl ?_
            refine RA.call0 rfl rfl rfl hr0 ?_
            refine RA.steps (i' := 29) (L' := [some (.ref 0), some (.int (nI N)), some (.int 0)]) (st' := [.ref 62]) (h' := (((h0.set 62 (.inr (.inr (6, [.ref 1, .ref 63, .ref 64, .ref 65, .ref 66, .int 0, .int 0, .int ti0, .int 0, .int z0])))).set 63 (.inl (16, va_cpy (fun _ => 0) (fun _ => 0) 0 0 16))).set 66 (.inl (3, va_cpy (va_up (va_up (va_up (fun _ => 0) 0 (-1000000005)) 1 (-1000000005)) 2 (-1000000005)) (va_up (va_up (va_up (fun _ => 0) 0 (-1000000005)) 1 (-1000000005)) 2 (-1000000005)) 0 0 3)))) 4 rfl ?_
            refine RA.call0 (h1 := (((h0.set 62 (.inr (.inr (6, [.ref 1, .ref 63, .ref 64, .ref 65, .ref 66, .int 0, .int 0, .int ti0, .int 0, .int z0])))).set 63 (.inl (16, va_cpy (fun _ => 0) (fun _ => 0) 0 0 16))).set 66 (.inl (3, va_cpy (va_up (va_up (va_up (fun _ => 0) 0 (-1000000005)) 1 (-1000000005)) 2 (-1000000005)) (va_up (va_up (va_up (fun _ => 0) 0 (-1000000005)) 1 (-1000000005)) 2 (-1000000005)) 0 0 3)))) (r1 := some (.int 0)) rfl rfl rfl (Run.ex 4000 (Nat.le_of_ble_eq_true rfl) ⟨_, _, rfl⟩ rfl) ?_
            exact RA.ret rfl rfl, by
            refine ⟨Nat.le_of_ble_eq_true rfl, ⟨_, _, rfl⟩, ?_⟩
            refine RA.steps (i' := 4) (L' := [some (.ref 110), some (.int (nI N)), some (.int 0), none]) (st' := [.long 100, .long 0, .long ((nI N) : Int32).toInt64]) (h' := (((h0.set 62 (.inr (.inr (6, [.ref 1, .ref 63, .ref 64, .ref 65, .ref 66, .int 0, .int 0, .int ti0, .int 0, .int z0])))).set 63 (.inl (16, va_cpy (fun _ => 0) (fun _ => 0) 0 0 16))).set 66 (.inl (3, va_cpy (va_up (va_up (va_up (fun _ => 0) 0 (-1000000005)) 1 (-1000000005)) 2 (-1000000005)) (va_up (va_up (va_up (fun _ => 0) 0 (-1000000005)) 1 (-1000000005)) 2 (-1000000005)) 0 0 3)))) 4 rfl ?_
            refine RA.call0 rfl rfl rfl (isIn_t (v := (nI N)) (lo := 0) (hi := 100) hh) ?_
            refine RA.steps (i' := 16) (L' := [some (.ref 110), some (.int (nI N)), some (.int 0), none]) (st' := [.long 2, .long 0, .long 0]) (h' := (((h0.set 62 (.inr (.inr (6, [.ref 1, .ref 63, .ref 64, .ref 65, .ref 66, .int 0, .int 0, .int ti0, .int 0, .int z0])))).set 63 (.inl (16, va_cpy (fun _ => 0) (fun _ => 0) 0 0 16))).set 66 (.inl (3, va_cpy (va_up (va_up (va_up (fun _ => 0) 0 (-1000000005)) 1 (-1000000005)) 2 (-1000000005)) (va_up (va_up (va_up (fun _ => 0) 0 (-1000000005)) 1 (-1000000005)) 2 (-1000000005)) 0 0 3)))) 11 rfl ?_
            refine RA.call0 (h1 := (((h0.set 62 (.inr (.inr (6, [.ref 1, .ref 63, .ref 64, .ref 65, .ref 66, .int 0, .int 0, .int ti0, .int 0, .int z0])))).set 63 (.inl (16, va_cpy (fun _ => 0) (fun _ => 0) 0 0 16))).set 66 (.inl (3, va_cpy (va_up (va_up (va_up (fun _ => 0) 0 (-1000000005)) 1 (-1000000005)) 2 (-1000000005)) (va_up (va_up (va_up (fun _ => 0) 0 (-1000000005)) 1 (-1000000005)) 2 (-1000000005)) 0 0 3)))) (r1 := some (.int 1)) rfl rfl rfl (Run.ex 4000 (Nat.le_of_ble_eq_true rfl) ⟨_, _, rfl⟩ rfl) ?_
            refine RA.steps (i' := 21) (L' := [some (.ref 110), some (.int (nI N)), some (.int 0), none]) (st' := [.ref 110]) (h' := (((h0.set 62 (.inr (.inr (6, [.ref 1, .ref 63, .ref 64, .ref 65, .ref 66, .int 0, .int 0, .int ti0, .int 0, .int z0])))).set 63 (.inl (16, va_cpy (fun _ => 0) (fun _ => 0) 0 0 16))).set 66 (.inl (3, va_cpy (va_up (va_up (va_up (fun _ => 0) 0 (-1000000005)) 1 (-1000000005)) 2 (-1000000005)) (va_up (va_up (va_up (fun _ => 0) 0 (-1000000005)) 1 (-1000000005)) 2 (-1000000005)) 0 0 3)))) 2 rfl ?_
            refine RA.call0 rfl rfl rfl hr1 ?_
            refine RA.steps (i' := 24) (L' := [some (.ref 110), some (.int (nI N)), some (.int 0), none]) (st' := [.int (nI N), .ref 110]) (h' := ((((h0.set 62 (.inr (.inr (6, [.ref 1, .ref 63, .ref 64, .ref 65, .ref 66, .int 0, .int 0, .int ti0, .int 0, .int z0])))).set 63 (.inl (16, va_cpy (fun _ => 0) (fun _ => 0) 0 0 16))).set 66 (.inl (3, va_cpy (va_up (va_up (va_up (fun _ => 0) 0 (-1000000005)) 1 (-1000000005)) 2 (-1000000005)) (va_up (va_up (va_up (fun _ => 0) 0 (-1000000005)) 1 (-1000000005)) 2 (-1000000005)) 0 0 3))).set 123 (.inl (75, c1)))) 2 rfl ?_
            refine RA.call0 rfl rfl rfl hr2 ?_
            refine RA.steps (i' := 28) (L' := [some (.ref 110), some (.int (nI N)), some (.int 0), none]) (st' := [.ref 110]) (h' := (((((h0.set 62 (.inr (.inr (6, [.ref 1, .ref 63, .ref 64, .ref 65, .ref 66, .int 0, .int 0, .int ti0, .int 0, .int z0])))).set 63 (.inl (16, va_cpy (fun _ => 0) (fun _ => 0) 0 0 16))).set 66 (.inl (3, va_cpy (va_up (va_up (va_up (fun _ => 0) 0 (-1000000005)) 1 (-1000000005)) 2 (-1000000005)) (va_up (va_up (va_up (fun _ => 0) 0 (-1000000005)) 1 (-1000000005)) 2 (-1000000005)) 0 0 3))).set 111 (.inl (3075, g2))).set 123 (.inl (75, c1)))) 3 rfl ?_
            refine RA.call0 rfl rfl rfl (allTrust0 ⟨rfl, rfl, rfl, ga2⟩) ?_
            refine RA.steps (i' := 52) (L' := [some (.ref 110), some (.int (nI N)), some (.int 0), some (.int 0)]) (st' := [.ref 110]) (h' := (((((h0.set 62 (.inr (.inr (6, [.ref 1, .ref 63, .ref 64, .ref 65, .ref 66, .int 0, .int 0, .int ti0, .int 0, .int z0])))).set 63 (.inl (16, va_cpy (fun _ => 0) (fun _ => 0) 0 0 16))).set 66 (.inl (3, va_cpy (va_up (va_up (va_up (fun _ => 0) 0 (-1000000005)) 1 (-1000000005)) 2 (-1000000005)) (va_up (va_up (va_up (fun _ => 0) 0 (-1000000005)) 1 (-1000000005)) 2 (-1000000005)) 0 0 3))).set 111 (.inl (3075, g2))).set 123 (.inl (75, c1)))) 3 rfl ?_
            refine RA.call0 rfl rfl rfl hr3 ?_
            refine RA.steps (i' := 54) (L' := [some (.ref 110), some (.int (nI N)), some (.int 0), some (.int 0)]) (st' := [.int 0]) (h' := (((((h0.set 62 (.inr (.inr (6, [.ref 1, .ref 63, .ref 64, .ref 65, .ref 66, .int 0, .int 0, .int ti0, .int 0, .int z0])))).set 63 (.inl (16, va_cpy (fun _ => 0) (fun _ => 0) 0 0 16))).set 66 (.inl (3, va_cpy (va_up (va_up (va_up (fun _ => 0) 0 (-1000000005)) 1 (-1000000005)) 2 (-1000000005)) (va_up (va_up (va_up (fun _ => 0) 0 (-1000000005)) 1 (-1000000005)) 2 (-1000000005)) 0 0 3))).set 111 (.inl (3075, c3))).set 123 (.inl (75, c1)))) 1 rfl ?_
            exact RA.ret rfl rfl⟩
      · obtain ⟨ti0, z0, hr0⟩ := flow_run (E := E) (V := pV0) (d := 37) (h := ((h0.set 63 (.inl (16, va_cpy (fun _ => 0) (fun _ => 0) 0 0 16))).set 66 (.inl (3, va_cpy (va_up (va_up (va_up (fun _ => 0) 0 (-1000000005)) 1 (-1000000005)) 2 (-1000000005)) (va_up (va_up (va_up (fun _ => 0) 0 (-1000000005)) 1 (-1000000005)) 2 (-1000000005)) 0 0 3)))) (w := 62) N (by omega) rfl
        obtain ⟨c1, hc1, hr1⟩ := laysBy_run (E := E) (V := pV0) (d := 38) (h := (((h0.set 62 (.inr (.inr (6, [.ref 1, .ref 63, .ref 64, .ref 65, .ref 66, .int 0, .int 0, .int ti0, .int 0, .int z0])))).set 63 (.inl (16, va_cpy (fun _ => 0) (fun _ => 0) 0 0 16))).set 66 (.inl (3, va_cpy (va_up (va_up (va_up (fun _ => 0) 0 (-1000000005)) 1 (-1000000005)) 2 (-1000000005)) (va_up (va_up (va_up (fun _ => 0) 0 (-1000000005)) 1 (-1000000005)) 2 (-1000000005)) 0 0 3)))) rfl rfl rfl rfl rfl
        obtain ⟨g2, ga2, gb2, hr2⟩ := gom_run (E := E) (V := pV0) (d := 36) (h := ((((h0.set 62 (.inr (.inr (6, [.ref 1, .ref 63, .ref 64, .ref 65, .ref 66, .int 0, .int 0, .int ti0, .int 0, .int z0])))).set 63 (.inl (16, va_cpy (fun _ => 0) (fun _ => 0) 0 0 16))).set 66 (.inl (3, va_cpy (va_up (va_up (va_up (fun _ => 0) 0 (-1000000005)) 1 (-1000000005)) 2 (-1000000005)) (va_up (va_up (va_up (fun _ => 0) 0 (-1000000005)) 1 (-1000000005)) 2 (-1000000005)) 0 0 3))).set 123 (.inl (75, c1)))) N (by omega) ⟨rfl, rfl, rfl, rfl⟩
        obtain ⟨c3, hc3, hr3⟩ := laysBack_run (E := E) (V := pV0) (d := 38) (h := (((((h0.set 62 (.inr (.inr (6, [.ref 1, .ref 63, .ref 64, .ref 65, .ref 66, .int 0, .int 0, .int ti0, .int 0, .int z0])))).set 63 (.inl (16, va_cpy (fun _ => 0) (fun _ => 0) 0 0 16))).set 66 (.inl (3, va_cpy (va_up (va_up (va_up (fun _ => 0) 0 (-1000000005)) 1 (-1000000005)) 2 (-1000000005)) (va_up (va_up (va_up (fun _ => 0) 0 (-1000000005)) 1 (-1000000005)) 2 (-1000000005)) 0 0 3))).set 111 (.inl (3075, g2))).set 123 (.inl (75, c1)))) rfl rfl rfl rfl rfl
        exact ⟨0, (((h0.set 62 (.inr (.inr (6, [.ref 1, .ref 63, .ref 64, .ref 65, .ref 66, .int 0, .int 0, .int ti0, .int 0, .int z0])))).set 63 (.inl (16, va_cpy (fun _ => 0) (fun _ => 0) 0 0 16))).set 66 (.inl (3, va_cpy (va_up (va_up (va_up (fun _ => 0) 0 (-1000000005)) 1 (-1000000005)) 2 (-1000000005)) (va_up (va_up (va_up (fun _ => 0) 0 (-1000000005)) 1 (-1000000005)) 2 (-1000000005)) 0 0 3))), _, by
            refine ⟨Nat.le_of_ble_eq_true rfl, ⟨_, _, rfl⟩, ?_⟩
            refine RA.steps (i' := 3) (L' := [some (.ref 0), some (.int (nI N)), some (.int 1)]) (st' := [.int 100, .int 0, .int (nI N)]) (h' := h0) 3 rfl ?_
            refine RA.call0 rfl rfl rfl (within_t (v := (nI N)) (lo := 0) (hi := 100) hh) ?_
            refine RA.steps (i' := 12) (L' := [some (.ref 0), some (.int (nI N)), some (.int 1)]) (st' := [.int 2, .int 0, .int 1]) (h' := h0) 8 rfl ?_
            refine RA.call0 (h1 := h0) (r1 := some (.int 1)) rfl rfl rfl (Run.ex 4000 (Nat.le_of_ble_eq_true rfl) ⟨_, _, rfl⟩ rfl) ?_
            refine RA.steps (i' := 20) (L' := [some (.ref 0), some (.int (nI N)), some (.int 1)]) (st' := [.ref 34, .ref 62]) (h' := h0) 5 rfl ?_
            refine RA.call0 (h1 := ((h0.set 63 (.inl (16, va_cpy (fun _ => 0) (fun _ => 0) 0 0 16))).set 66 (.inl (3, va_cpy (va_up (va_up (va_up (fun _ => 0) 0 (-1000000005)) 1 (-1000000005)) 2 (-1000000005)) (va_up (va_up (va_up (fun _ => 0) 0 (-1000000005)) 1 (-1000000005)) 2 (-1000000005)) 0 0 3)))) (r1 := none) rfl rfl rfl (Run.ex 4000 (Nat.le_of_ble_eq_true rfl) ⟨_, _, rfl⟩ rfl) ?_
            refine RA.steps (i' := 24) (L' := [some (.ref 0), some (.int (nI N)), some (.int 1)]) (st' := [.int (nI N), .ref 62]) (h' := ((h0.set 63 (.inl (16, va_cpy (fun _ => 0) (fun _ => 0) 0 0 16))).set 66 (.inl (3, va_cpy (va_up (va_up (va_up (fun _ => 0) 0 (-1000000005)) 1 (-1000000005)) 2 (-1000000005)) (va_up (va_up (va_up (fun _ => 0) 0 (-1000000005)) 1 (-1000000005)) 2 (-1000000005)) 0 0 3)))) 3 rfl ?_
            refine RA.call0 rfl rfl rfl hr0 ?_
            refine RA.steps (i' := 33) (L' := [some (.ref 0), some (.int (nI N)), some (.int 1)]) (st' := [.ref 62]) (h' := (((h0.set 62 (.inr (.inr (6, [.ref 1, .ref 63, .ref 64, .ref 65, .ref 66, .int 0, .int 0, .int ti0, .int 0, .int z0])))).set 63 (.inl (16, va_cpy (fun _ => 0) (fun _ => 0) 0 0 16))).set 66 (.inl (3, va_cpy (va_up (va_up (va_up (fun _ => 0) 0 (-1000000005)) 1 (-1000000005)) 2 (-1000000005)) (va_up (va_up (va_up (fun _ => 0) 0 (-1000000005)) 1 (-1000000005)) 2 (-1000000005)) 0 0 3)))) 4 rfl ?_
            refine RA.call0 (h1 := (((h0.set 62 (.inr (.inr (6, [.ref 1, .ref 63, .ref 64, .ref 65, .ref 66, .int 0, .int 0, .int ti0, .int 0, .int z0])))).set 63 (.inl (16, va_cpy (fun _ => 0) (fun _ => 0) 0 0 16))).set 66 (.inl (3, va_cpy (va_up (va_up (va_up (fun _ => 0) 0 (-1000000005)) 1 (-1000000005)) 2 (-1000000005)) (va_up (va_up (va_up (fun _ => 0) 0 (-1000000005)) 1 (-1000000005)) 2 (-1000000005)) 0 0 3)))) (r1 := some (.int 0)) rfl rfl rfl (Run.ex 4000 (Nat.le_of_ble_eq_true rfl) ⟨_, _, rfl⟩ rfl) ?_
            exact RA.ret rfl rfl, by
            refine ⟨Nat.le_of_ble_eq_true rfl, ⟨_, _, rfl⟩, ?_⟩
            refine RA.steps (i' := 4) (L' := [some (.ref 110), some (.int (nI N)), some (.int 1), none]) (st' := [.long 100, .long 0, .long ((nI N) : Int32).toInt64]) (h' := (((h0.set 62 (.inr (.inr (6, [.ref 1, .ref 63, .ref 64, .ref 65, .ref 66, .int 0, .int 0, .int ti0, .int 0, .int z0])))).set 63 (.inl (16, va_cpy (fun _ => 0) (fun _ => 0) 0 0 16))).set 66 (.inl (3, va_cpy (va_up (va_up (va_up (fun _ => 0) 0 (-1000000005)) 1 (-1000000005)) 2 (-1000000005)) (va_up (va_up (va_up (fun _ => 0) 0 (-1000000005)) 1 (-1000000005)) 2 (-1000000005)) 0 0 3)))) 4 rfl ?_
            refine RA.call0 rfl rfl rfl (isIn_t (v := (nI N)) (lo := 0) (hi := 100) hh) ?_
            refine RA.steps (i' := 16) (L' := [some (.ref 110), some (.int (nI N)), some (.int 1), none]) (st' := [.long 2, .long 0, .long 1]) (h' := (((h0.set 62 (.inr (.inr (6, [.ref 1, .ref 63, .ref 64, .ref 65, .ref 66, .int 0, .int 0, .int ti0, .int 0, .int z0])))).set 63 (.inl (16, va_cpy (fun _ => 0) (fun _ => 0) 0 0 16))).set 66 (.inl (3, va_cpy (va_up (va_up (va_up (fun _ => 0) 0 (-1000000005)) 1 (-1000000005)) 2 (-1000000005)) (va_up (va_up (va_up (fun _ => 0) 0 (-1000000005)) 1 (-1000000005)) 2 (-1000000005)) 0 0 3)))) 11 rfl ?_
            refine RA.call0 (h1 := (((h0.set 62 (.inr (.inr (6, [.ref 1, .ref 63, .ref 64, .ref 65, .ref 66, .int 0, .int 0, .int ti0, .int 0, .int z0])))).set 63 (.inl (16, va_cpy (fun _ => 0) (fun _ => 0) 0 0 16))).set 66 (.inl (3, va_cpy (va_up (va_up (va_up (fun _ => 0) 0 (-1000000005)) 1 (-1000000005)) 2 (-1000000005)) (va_up (va_up (va_up (fun _ => 0) 0 (-1000000005)) 1 (-1000000005)) 2 (-1000000005)) 0 0 3)))) (r1 := some (.int 1)) rfl rfl rfl (Run.ex 4000 (Nat.le_of_ble_eq_true rfl) ⟨_, _, rfl⟩ rfl) ?_
            refine RA.steps (i' := 21) (L' := [some (.ref 110), some (.int (nI N)), some (.int 1), none]) (st' := [.ref 110]) (h' := (((h0.set 62 (.inr (.inr (6, [.ref 1, .ref 63, .ref 64, .ref 65, .ref 66, .int 0, .int 0, .int ti0, .int 0, .int z0])))).set 63 (.inl (16, va_cpy (fun _ => 0) (fun _ => 0) 0 0 16))).set 66 (.inl (3, va_cpy (va_up (va_up (va_up (fun _ => 0) 0 (-1000000005)) 1 (-1000000005)) 2 (-1000000005)) (va_up (va_up (va_up (fun _ => 0) 0 (-1000000005)) 1 (-1000000005)) 2 (-1000000005)) 0 0 3)))) 2 rfl ?_
            refine RA.call0 rfl rfl rfl hr1 ?_
            refine RA.steps (i' := 24) (L' := [some (.ref 110), some (.int (nI N)), some (.int 1), none]) (st' := [.int (nI N), .ref 110]) (h' := ((((h0.set 62 (.inr (.inr (6, [.ref 1, .ref 63, .ref 64, .ref 65, .ref 66, .int 0, .int 0, .int ti0, .int 0, .int z0])))).set 63 (.inl (16, va_cpy (fun _ => 0) (fun _ => 0) 0 0 16))).set 66 (.inl (3, va_cpy (va_up (va_up (va_up (fun _ => 0) 0 (-1000000005)) 1 (-1000000005)) 2 (-1000000005)) (va_up (va_up (va_up (fun _ => 0) 0 (-1000000005)) 1 (-1000000005)) 2 (-1000000005)) 0 0 3))).set 123 (.inl (75, c1)))) 2 rfl ?_
            refine RA.call0 rfl rfl rfl hr2 ?_
            refine RA.steps (i' := 34) (L' := [some (.ref 110), some (.int (nI N)), some (.int 1), none]) (st' := [.ref 110]) (h' := (((((h0.set 62 (.inr (.inr (6, [.ref 1, .ref 63, .ref 64, .ref 65, .ref 66, .int 0, .int 0, .int ti0, .int 0, .int z0])))).set 63 (.inl (16, va_cpy (fun _ => 0) (fun _ => 0) 0 0 16))).set 66 (.inl (3, va_cpy (va_up (va_up (va_up (fun _ => 0) 0 (-1000000005)) 1 (-1000000005)) 2 (-1000000005)) (va_up (va_up (va_up (fun _ => 0) 0 (-1000000005)) 1 (-1000000005)) 2 (-1000000005)) 0 0 3))).set 111 (.inl (3075, g2))).set 123 (.inl (75, c1)))) 6 rfl ?_
            refine RA.call0 rfl rfl rfl (laidOnes0 ⟨rfl, rfl, rfl, ga2⟩) ?_
            refine RA.steps (i' := 52) (L' := [some (.ref 110), some (.int (nI N)), some (.int 1), some (.int 0)]) (st' := [.ref 110]) (h' := (((((h0.set 62 (.inr (.inr (6, [.ref 1, .ref 63, .ref 64, .ref 65, .ref 66, .int 0, .int 0, .int ti0, .int 0, .int z0])))).set 63 (.inl (16, va_cpy (fun _ => 0) (fun _ => 0) 0 0 16))).set 66 (.inl (3, va_cpy (va_up (va_up (va_up (fun _ => 0) 0 (-1000000005)) 1 (-1000000005)) 2 (-1000000005)) (va_up (va_up (va_up (fun _ => 0) 0 (-1000000005)) 1 (-1000000005)) 2 (-1000000005)) 0 0 3))).set 111 (.inl (3075, g2))).set 123 (.inl (75, c1)))) 3 rfl ?_
            refine RA.call0 rfl rfl rfl hr3 ?_
            refine RA.steps (i' := 54) (L' := [some (.ref 110), some (.int (nI N)), some (.int 1), some (.int 0)]) (st' := [.int 0]) (h' := (((((h0.set 62 (.inr (.inr (6, [.ref 1, .ref 63, .ref 64, .ref 65, .ref 66, .int 0, .int 0, .int ti0, .int 0, .int z0])))).set 63 (.inl (16, va_cpy (fun _ => 0) (fun _ => 0) 0 0 16))).set 66 (.inl (3, va_cpy (va_up (va_up (va_up (fun _ => 0) 0 (-1000000005)) 1 (-1000000005)) 2 (-1000000005)) (va_up (va_up (va_up (fun _ => 0) 0 (-1000000005)) 1 (-1000000005)) 2 (-1000000005)) 0 0 3))).set 111 (.inl (3075, c3))).set 123 (.inl (75, c1)))) 1 rfl ?_
            exact RA.ret rfl rfl⟩
      · obtain ⟨ti0, z0, hr0⟩ := flow_run (E := E) (V := pV0) (d := 37) (h := ((h0.set 63 (.inl (16, va_cpy (fun _ => 0) (fun _ => 0) 0 0 16))).set 66 (.inl (3, va_cpy (va_up (va_up (va_up (fun _ => 0) 0 (-1000000005)) 1 (-1000000005)) 2 (-1000000005)) (va_up (va_up (va_up (fun _ => 0) 0 (-1000000005)) 1 (-1000000005)) 2 (-1000000005)) 0 0 3)))) (w := 62) N (by omega) rfl
        obtain ⟨c1, hc1, hr1⟩ := laysBy_run (E := E) (V := pV0) (d := 38) (h := (((h0.set 62 (.inr (.inr (6, [.ref 1, .ref 63, .ref 64, .ref 65, .ref 66, .int 0, .int 0, .int ti0, .int 0, .int z0])))).set 63 (.inl (16, va_cpy (fun _ => 0) (fun _ => 0) 0 0 16))).set 66 (.inl (3, va_cpy (va_up (va_up (va_up (fun _ => 0) 0 (-1000000005)) 1 (-1000000005)) 2 (-1000000005)) (va_up (va_up (va_up (fun _ => 0) 0 (-1000000005)) 1 (-1000000005)) 2 (-1000000005)) 0 0 3)))) rfl rfl rfl rfl rfl
        obtain ⟨g2, ga2, gb2, hr2⟩ := gom_run (E := E) (V := pV0) (d := 36) (h := ((((h0.set 62 (.inr (.inr (6, [.ref 1, .ref 63, .ref 64, .ref 65, .ref 66, .int 0, .int 0, .int ti0, .int 0, .int z0])))).set 63 (.inl (16, va_cpy (fun _ => 0) (fun _ => 0) 0 0 16))).set 66 (.inl (3, va_cpy (va_up (va_up (va_up (fun _ => 0) 0 (-1000000005)) 1 (-1000000005)) 2 (-1000000005)) (va_up (va_up (va_up (fun _ => 0) 0 (-1000000005)) 1 (-1000000005)) 2 (-1000000005)) 0 0 3))).set 123 (.inl (75, c1)))) N (by omega) ⟨rfl, rfl, rfl, rfl⟩
        obtain ⟨c3, hc3, hr3⟩ := laysBack_run (E := E) (V := pV0) (d := 38) (h := (((((h0.set 62 (.inr (.inr (6, [.ref 1, .ref 63, .ref 64, .ref 65, .ref 66, .int 0, .int 0, .int ti0, .int 0, .int z0])))).set 63 (.inl (16, va_cpy (fun _ => 0) (fun _ => 0) 0 0 16))).set 66 (.inl (3, va_cpy (va_up (va_up (va_up (fun _ => 0) 0 (-1000000005)) 1 (-1000000005)) 2 (-1000000005)) (va_up (va_up (va_up (fun _ => 0) 0 (-1000000005)) 1 (-1000000005)) 2 (-1000000005)) 0 0 3))).set 111 (.inl (3075, g2))).set 123 (.inl (75, c1)))) rfl rfl rfl rfl rfl
        exact ⟨0, (((h0.set 62 (.inr (.inr (6, [.ref 1, .ref 63, .ref 64, .ref 65, .ref 66, .int 0, .int 0, .int ti0, .int 0, .int z0])))).set 63 (.inl (16, va_cpy (fun _ => 0) (fun _ => 0) 0 0 16))).set 66 (.inl (3, va_cpy (va_up (va_up (va_up (fun _ => 0) 0 (-1000000005)) 1 (-1000000005)) 2 (-1000000005)) (va_up (va_up (va_up (fun _ => 0) 0 (-1000000005)) 1 (-1000000005)) 2 (-1000000005)) 0 0 3))), _, by
            refine ⟨Nat.le_of_ble_eq_true rfl, ⟨_, _, rfl⟩, ?_⟩
            refine RA.steps (i' := 3) (L' := [some (.ref 0), some (.int (nI N)), some (.int 2)]) (st' := [.int 100, .int 0, .int (nI N)]) (h' := h0) 3 rfl ?_
            refine RA.call0 rfl rfl rfl (within_t (v := (nI N)) (lo := 0) (hi := 100) hh) ?_
            refine RA.steps (i' := 12) (L' := [some (.ref 0), some (.int (nI N)), some (.int 2)]) (st' := [.int 2, .int 0, .int 2]) (h' := h0) 8 rfl ?_
            refine RA.call0 (h1 := h0) (r1 := some (.int 1)) rfl rfl rfl (Run.ex 4000 (Nat.le_of_ble_eq_true rfl) ⟨_, _, rfl⟩ rfl) ?_
            refine RA.steps (i' := 20) (L' := [some (.ref 0), some (.int (nI N)), some (.int 2)]) (st' := [.ref 34, .ref 62]) (h' := h0) 5 rfl ?_
            refine RA.call0 (h1 := ((h0.set 63 (.inl (16, va_cpy (fun _ => 0) (fun _ => 0) 0 0 16))).set 66 (.inl (3, va_cpy (va_up (va_up (va_up (fun _ => 0) 0 (-1000000005)) 1 (-1000000005)) 2 (-1000000005)) (va_up (va_up (va_up (fun _ => 0) 0 (-1000000005)) 1 (-1000000005)) 2 (-1000000005)) 0 0 3)))) (r1 := none) rfl rfl rfl (Run.ex 4000 (Nat.le_of_ble_eq_true rfl) ⟨_, _, rfl⟩ rfl) ?_
            refine RA.steps (i' := 24) (L' := [some (.ref 0), some (.int (nI N)), some (.int 2)]) (st' := [.int (nI N), .ref 62]) (h' := ((h0.set 63 (.inl (16, va_cpy (fun _ => 0) (fun _ => 0) 0 0 16))).set 66 (.inl (3, va_cpy (va_up (va_up (va_up (fun _ => 0) 0 (-1000000005)) 1 (-1000000005)) 2 (-1000000005)) (va_up (va_up (va_up (fun _ => 0) 0 (-1000000005)) 1 (-1000000005)) 2 (-1000000005)) 0 0 3)))) 3 rfl ?_
            refine RA.call0 rfl rfl rfl hr0 ?_
            refine RA.steps (i' := 38) (L' := [some (.ref 0), some (.int (nI N)), some (.int 2)]) (st' := [.int 0]) (h' := (((h0.set 62 (.inr (.inr (6, [.ref 1, .ref 63, .ref 64, .ref 65, .ref 66, .int 0, .int 0, .int ti0, .int 0, .int z0])))).set 63 (.inl (16, va_cpy (fun _ => 0) (fun _ => 0) 0 0 16))).set 66 (.inl (3, va_cpy (va_up (va_up (va_up (fun _ => 0) 0 (-1000000005)) 1 (-1000000005)) 2 (-1000000005)) (va_up (va_up (va_up (fun _ => 0) 0 (-1000000005)) 1 (-1000000005)) 2 (-1000000005)) 0 0 3)))) 5 rfl ?_
            exact RA.ret rfl rfl, by
            refine ⟨Nat.le_of_ble_eq_true rfl, ⟨_, _, rfl⟩, ?_⟩
            refine RA.steps (i' := 4) (L' := [some (.ref 110), some (.int (nI N)), some (.int 2), none]) (st' := [.long 100, .long 0, .long ((nI N) : Int32).toInt64]) (h' := (((h0.set 62 (.inr (.inr (6, [.ref 1, .ref 63, .ref 64, .ref 65, .ref 66, .int 0, .int 0, .int ti0, .int 0, .int z0])))).set 63 (.inl (16, va_cpy (fun _ => 0) (fun _ => 0) 0 0 16))).set 66 (.inl (3, va_cpy (va_up (va_up (va_up (fun _ => 0) 0 (-1000000005)) 1 (-1000000005)) 2 (-1000000005)) (va_up (va_up (va_up (fun _ => 0) 0 (-1000000005)) 1 (-1000000005)) 2 (-1000000005)) 0 0 3)))) 4 rfl ?_
            refine RA.call0 rfl rfl rfl (isIn_t (v := (nI N)) (lo := 0) (hi := 100) hh) ?_
            refine RA.steps (i' := 16) (L' := [some (.ref 110), some (.int (nI N)), some (.int 2), none]) (st' := [.long 2, .long 0, .long 2]) (h' := (((h0.set 62 (.inr (.inr (6, [.ref 1, .ref 63, .ref 64, .ref 65, .ref 66, .int 0, .int 0, .int ti0, .int 0, .int z0])))).set 63 (.inl (16, va_cpy (fun _ => 0) (fun _ => 0) 0 0 16))).set 66 (.inl (3, va_cpy (va_up (va_up (va_up (fun _ => 0) 0 (-1000000005)) 1 (-1000000005)) 2 (-1000000005)) (va_up (va_up (va_up (fun _ => 0) 0 (-1000000005)) 1 (-1000000005)) 2 (-1000000005)) 0 0 3)))) 11 rfl ?_
            refine RA.call0 (h1 := (((h0.set 62 (.inr (.inr (6, [.ref 1, .ref 63, .ref 64, .ref 65, .ref 66, .int 0, .int 0, .int ti0, .int 0, .int z0])))).set 63 (.inl (16, va_cpy (fun _ => 0) (fun _ => 0) 0 0 16))).set 66 (.inl (3, va_cpy (va_up (va_up (va_up (fun _ => 0) 0 (-1000000005)) 1 (-1000000005)) 2 (-1000000005)) (va_up (va_up (va_up (fun _ => 0) 0 (-1000000005)) 1 (-1000000005)) 2 (-1000000005)) 0 0 3)))) (r1 := some (.int 1)) rfl rfl rfl (Run.ex 4000 (Nat.le_of_ble_eq_true rfl) ⟨_, _, rfl⟩ rfl) ?_
            refine RA.steps (i' := 21) (L' := [some (.ref 110), some (.int (nI N)), some (.int 2), none]) (st' := [.ref 110]) (h' := (((h0.set 62 (.inr (.inr (6, [.ref 1, .ref 63, .ref 64, .ref 65, .ref 66, .int 0, .int 0, .int ti0, .int 0, .int z0])))).set 63 (.inl (16, va_cpy (fun _ => 0) (fun _ => 0) 0 0 16))).set 66 (.inl (3, va_cpy (va_up (va_up (va_up (fun _ => 0) 0 (-1000000005)) 1 (-1000000005)) 2 (-1000000005)) (va_up (va_up (va_up (fun _ => 0) 0 (-1000000005)) 1 (-1000000005)) 2 (-1000000005)) 0 0 3)))) 2 rfl ?_
            refine RA.call0 rfl rfl rfl hr1 ?_
            refine RA.steps (i' := 24) (L' := [some (.ref 110), some (.int (nI N)), some (.int 2), none]) (st' := [.int (nI N), .ref 110]) (h' := ((((h0.set 62 (.inr (.inr (6, [.ref 1, .ref 63, .ref 64, .ref 65, .ref 66, .int 0, .int 0, .int ti0, .int 0, .int z0])))).set 63 (.inl (16, va_cpy (fun _ => 0) (fun _ => 0) 0 0 16))).set 66 (.inl (3, va_cpy (va_up (va_up (va_up (fun _ => 0) 0 (-1000000005)) 1 (-1000000005)) 2 (-1000000005)) (va_up (va_up (va_up (fun _ => 0) 0 (-1000000005)) 1 (-1000000005)) 2 (-1000000005)) 0 0 3))).set 123 (.inl (75, c1)))) 2 rfl ?_
            refine RA.call0 rfl rfl rfl hr2 ?_
            refine RA.steps (i' := 42) (L' := [some (.ref 110), some (.int (nI N)), some (.int 2), none]) (st' := [.int 3, .ref 111]) (h' := (((((h0.set 62 (.inr (.inr (6, [.ref 1, .ref 63, .ref 64, .ref 65, .ref 66, .int 0, .int 0, .int ti0, .int 0, .int z0])))).set 63 (.inl (16, va_cpy (fun _ => 0) (fun _ => 0) 0 0 16))).set 66 (.inl (3, va_cpy (va_up (va_up (va_up (fun _ => 0) 0 (-1000000005)) 1 (-1000000005)) 2 (-1000000005)) (va_up (va_up (va_up (fun _ => 0) 0 (-1000000005)) 1 (-1000000005)) 2 (-1000000005)) 0 0 3))).set 111 (.inl (3075, g2))).set 123 (.inl (75, c1)))) 11 rfl ?_
            refine RA.iald rfl rfl ⟨by decide, Nat.le_of_ble_eq_true rfl⟩ gb2 ?_
            refine RA.steps (i' := 52) (L' := [some (.ref 110), some (.int (nI N)), some (.int 2), some (.int 0)]) (st' := [.ref 110]) (h' := (((((h0.set 62 (.inr (.inr (6, [.ref 1, .ref 63, .ref 64, .ref 65, .ref 66, .int 0, .int 0, .int ti0, .int 0, .int z0])))).set 63 (.inl (16, va_cpy (fun _ => 0) (fun _ => 0) 0 0 16))).set 66 (.inl (3, va_cpy (va_up (va_up (va_up (fun _ => 0) 0 (-1000000005)) 1 (-1000000005)) 2 (-1000000005)) (va_up (va_up (va_up (fun _ => 0) 0 (-1000000005)) 1 (-1000000005)) 2 (-1000000005)) 0 0 3))).set 111 (.inl (3075, g2))).set 123 (.inl (75, c1)))) 3 rfl ?_
            refine RA.call0 rfl rfl rfl hr3 ?_
            refine RA.steps (i' := 54) (L' := [some (.ref 110), some (.int (nI N)), some (.int 2), some (.int 0)]) (st' := [.int 0]) (h' := (((((h0.set 62 (.inr (.inr (6, [.ref 1, .ref 63, .ref 64, .ref 65, .ref 66, .int 0, .int 0, .int ti0, .int 0, .int z0])))).set 63 (.inl (16, va_cpy (fun _ => 0) (fun _ => 0) 0 0 16))).set 66 (.inl (3, va_cpy (va_up (va_up (va_up (fun _ => 0) 0 (-1000000005)) 1 (-1000000005)) 2 (-1000000005)) (va_up (va_up (va_up (fun _ => 0) 0 (-1000000005)) 1 (-1000000005)) 2 (-1000000005)) 0 0 3))).set 111 (.inl (3075, c3))).set 123 (.inl (75, c1)))) 1 rfl ?_
            exact RA.ret rfl rfl⟩
    · exact ⟨(-1000000001), h0, _, by
          refine ⟨Nat.le_of_ble_eq_true rfl, ⟨_, _, rfl⟩, ?_⟩
          refine RA.steps (i' := 3) (L' := [some (.ref 0), some (.int (nI N)), some (.int b)]) (st' := [.int 100, .int 0, .int (nI N)]) (h' := h0) 3 rfl ?_
          refine RA.call0 rfl rfl rfl (within_t (v := (nI N)) (lo := 0) (hi := 100) hh) ?_
          refine RA.steps (i' := 12) (L' := [some (.ref 0), some (.int (nI N)), some (.int b)]) (st' := [.int 2, .int 0, .int b]) (h' := h0) 8 rfl ?_
          refine RA.call0 rfl rfl rfl (within_f (v := b) (lo := 0) (hi := 2) h1) ?_
          refine RA.steps (i' := 15) (L' := [some (.ref 0), some (.int (nI N)), some (.int b)]) (st' := [.int (-1000000001)]) (h' := h0) 2 rfl ?_
          exact RA.ret rfl rfl, by
          refine ⟨Nat.le_of_ble_eq_true rfl, ⟨_, _, rfl⟩, ?_⟩
          refine RA.steps (i' := 4) (L' := [some (.ref 110), some (.int (nI N)), some (.int b), none]) (st' := [.long 100, .long 0, .long ((nI N) : Int32).toInt64]) (h' := h0) 4 rfl ?_
          refine RA.call0 rfl rfl rfl (isIn_t (v := (nI N)) (lo := 0) (hi := 100) hh) ?_
          refine RA.steps (i' := 16) (L' := [some (.ref 110), some (.int (nI N)), some (.int b), none]) (st' := [.long 2, .long 0, .long (b : Int32).toInt64]) (h' := h0) 11 rfl ?_
          refine RA.call0 rfl rfl rfl (isIn_f (v := b) (lo := 0) (hi := 2) h1) ?_
          refine RA.steps (i' := 19) (L' := [some (.ref 110), some (.int (nI N)), some (.int b), none]) (st' := [.int (-1000000001)]) (h' := h0) 2 rfl ?_
          exact RA.ret rfl rfl⟩
  · exact ⟨(-1000000001), h0, _, by
        refine ⟨Nat.le_of_ble_eq_true rfl, ⟨_, _, rfl⟩, ?_⟩
        refine RA.steps (i' := 3) (L' := [some (.ref 0), some (.int a), some (.int b)]) (st' := [.int 100, .int 0, .int a]) (h' := h0) 3 rfl ?_
        refine RA.call0 rfl rfl rfl (within_f (v := a) (lo := 0) (hi := 100) hh) ?_
        refine RA.steps (i' := 15) (L' := [some (.ref 0), some (.int a), some (.int b)]) (st' := [.int (-1000000001)]) (h' := h0) 2 rfl ?_
        exact RA.ret rfl rfl, by
        refine ⟨Nat.le_of_ble_eq_true rfl, ⟨_, _, rfl⟩, ?_⟩
        refine RA.steps (i' := 4) (L' := [some (.ref 110), some (.int a), some (.int b), none]) (st' := [.long 100, .long 0, .long (a : Int32).toInt64]) (h' := h0) 4 rfl ?_
        refine RA.call0 rfl rfl rfl (isIn_f (v := a) (lo := 0) (hi := 100) hh) ?_
        refine RA.steps (i' := 19) (L' := [some (.ref 110), some (.int a), some (.int b), none]) (st' := [.int (-1000000001)]) (h' := h0) 2 rfl ?_
        exact RA.ret rfl rfl⟩
end
section
/-! ===== taught on a new object ===== -/
def O0 : List Value := [.ref 1, .ref 34, .ref 48, .ref 62, .ref 76, .ref 79, .ref 80, .ref 81, .int 0, .int 0]
def W34 : List Value := [.ref 1, .ref 35, .ref 36, .ref 37, .ref 38, .int 0, .int 0, .int 0, .int 0, .int 1]
def TC (h : List pC) : Prop := pobj h 0 = some (7, O0) ∧ pobj h 34 = some (6, W34) ∧ (∃ m, pint h 35 = some (16, m)) ∧ (∃ m, pint h 38 = some (3, m)) ∧ (∃ a b c z : Int32, pobj h 62 = some (6, [.ref 1, .ref 63, .ref 64, .ref 65, .ref 66, .int 0, .int a, .int b, .int c, .int z])) ∧ (∃ m, pint h 63 = some (16, m)) ∧ (∃ m, pint h 66 = some (3, m)) ∧ ∀ k, 110 ≤ k → pobj h k = pobj h0 k ∧ pint h k = pint h0 k
section TGT
variable {P : List pM} {E : pX} {V : pV} {d : Nat} {M N : pM} {i i' : Nat} {L L' : pL} {st st' : List Value} {h h' h1 h2 : List pC} {t : pE} {r r1 r2 : Option Value} {res : pR} {j k : Nat} {c : pC}
theorem RA.copy {n pc y a0 a1 : Nat} {v : Value} {z dp sp : Int32} {ts : List Nat} {rest : List Value} {o0 o1 : Nat × (Nat → Int32)} (he : (m_code M)[i]? = some (pc, .invokestatic n, 99999, y, v, ts)) (hP : pcall P (pc, .invokestatic n, 99999, y, v, ts) (.int z :: .int dp :: .ref a1 :: .int sp :: .ref a0 :: rest) h = none) (h8 : pcs rest ≤ 8) (hi0 : pint h a0 = some o0) (hi1 : pint h a1 = some o1)
    (hz : 0 ≤ sp ∧ 0 ≤ dp ∧ 0 ≤ z ∧ sp.toNatClampNeg + z.toNatClampNeg ≤ o0.1 ∧ dp.toNatClampNeg + z.toNatClampNeg ≤ o1.1) (k : RA P E V (d + 1) M (i + 1) L rest (h.set a1 (.inl (o1.1, va_cpy o0.2 o1.2 sp.toNatClampNeg dp.toNatClampNeg z.toNatClampNeg))) res) : RA P E V (d + 1) M i L (.int z :: .int dp :: .ref a1 :: .int sp :: .ref a0 :: rest) h res :=
  RA.step0 he rfl hP (by
    show (if e_x (pc, .invokestatic n, 99999, y, v, ts) = 99999 ∧ pcs rest ≤ 8 then (match pint h a0, pint h a1 with
      | some x, some y => if 0 ≤ sp ∧ 0 ≤ dp ∧ 0 ≤ z ∧ sp.toNatClampNeg + z.toNatClampNeg ≤ x.1 ∧ dp.toNatClampNeg + z.toNatClampNeg ≤ y.1 then pnx i L rest (h.set a1 (.inl (y.1, va_cpy x.2 y.2 sp.toNatClampNeg dp.toNatClampNeg z.toNatClampNeg))) else none
      | _, _ => none) else none) = _
    rw [if_pos ⟨rfl, h8⟩, hi0, hi1]
    dsimp only
    rw [if_pos hz]
    rfl) k
theorem RA.alen {a pc x y : Nat} {v : Value} {ts : List Nat} {o : Nat × (Nat → Int32)} {rest : List Value} (he : (m_code M)[i]? = some (pc, .arraylength, x, y, v, ts)) (ho : pint h a = some o) (k : RA P E V (d + 1) M (i + 1) L (.int (Int32.ofNat o.1) :: rest) h res) : RA P E V (d + 1) M i L (.ref a :: rest) h res :=
  RA.step0 he rfl rfl (by
    show (match h[a]? with
      | some (.inl x) => pnx i L (.int (Int32.ofNat x.1) :: rest) h
      | some (.inr (.inl x)) => pnx i L (.int (Int32.ofNat x.2.1) :: rest) h
      | _ => none) = _
    rw [pint_at ho]
    rfl) k
end TGT
section TGC
variable {E : pX} {V : pV} {d : Nat} {h : List pC}
theorem TC.w (H : TC h) : TC h := H
theorem takeT (H : TC h) : ∃ h', TC h' ∧ Run prog E V (d + 1) mX6_takeFrom [.ref 62, .ref 34] h (none, h', 0, 0) := by
  obtain ⟨e0, e34, ⟨m35, e35⟩, ⟨m38, e38⟩, ⟨a, b, c, z, e62⟩, ⟨m63, e63⟩, ⟨m66, e66⟩, ek⟩ := H
  obtain ⟨A, hA⟩ : ∃ A : pC, A = .inl (16, va_cpy m35 m63 (Int32.toNatClampNeg 0) (Int32.toNatClampNeg 0) (Int32.toNatClampNeg 16)) := ⟨_, rfl⟩
  obtain ⟨B, hB⟩ : ∃ B : pC, B = .inl (3, va_cpy m38 m66 (Int32.toNatClampNeg 0) (Int32.toNatClampNeg 0) (Int32.toNatClampNeg 3)) := ⟨_, rfl⟩
  have o2 : ∀ k, k ≠ 63 → k ≠ 66 → pobj ((h.set 63 A).set 66 B) k = pobj h k := fun k h1 h2 => (pobj_ne (Ne.symm h2)).trans (pobj_ne (Ne.symm h1))
  have i2 : ∀ k, k ≠ 63 → k ≠ 66 → pint ((h.set 63 A).set 66 B) k = pint h k := fun k h1 h2 => (pint_ne (Ne.symm h2)).trans (pint_ne (Ne.symm h1))
  have f34 := (o2 34 (by decide) (by decide)).trans e34
  have f62 := (o2 62 (by decide) (by decide)).trans e62
  have l62 := pobj_lt f62
  have g34 : ∀ q : pC, pobj (((h.set 63 A).set 66 B).set 62 q) 34 = some (6, W34) := fun q => (pobj_ne (by decide)).trans f34
  have g62 : ∀ q : Nat × List Value, pobj (((h.set 63 A).set 66 B).set 62 (.inr (.inr q))) 62 = some q := fun q => pobj_set l62
  refine ⟨((h.set 63 A).set 66 B).set 62 (.inr (.inr (6, [.ref 1, .ref 63, .ref 64, .ref 65, .ref 66, .int 0, .int 0, .int 0, .int 0, .int 1]))), ⟨(pobj_ne (by decide)).trans ((o2 0 (by decide) (by decide)).trans e0), g34 _, ⟨m35, (pint_ne (by decide)).trans ((i2 35 (by decide) (by decide)).trans e35)⟩, ⟨m38, (pint_ne (by decide)).trans ((i2 38 (by decide) (by decide)).trans e38)⟩, ⟨0, 0, 0, 1, g62 _⟩, ⟨_, (pint_ne (by decide)).trans ((pint_ne (by decide)).trans (by rw [hA]; exact pint_set (pint_lt e63)))⟩, ⟨_, (pint_ne (by decide)).trans (by rw [hB]; exact pint_set (by rw [List.length_set]; exact pint_lt e66))⟩, fun k hk => ⟨(pobj_ne (by omega)).trans ((o2 k (by omega) (by omega)).trans (ek k hk).1), (pint_ne (by omega)).trans ((i2 k (by omega) (by omega)).trans (ek k hk).2)⟩⟩, Nat.le_of_ble_eq_true rfl, ⟨_, _, rfl⟩, ?_⟩
  refine RA.steps 1 rfl ?_
  refine RA.getf rfl e34 rfl rfl ?_
  refine RA.steps 2 rfl ?_
  refine RA.getf rfl e62 rfl rfl ?_
  refine RA.steps 2 rfl ?_
  refine RA.copy rfl rfl (Nat.le_of_ble_eq_true rfl) e35 e63 ⟨by decide, by decide, by decide, Nat.le_of_ble_eq_true rfl, Nat.le_of_ble_eq_true rfl⟩ ?_
  dsimp only
  rw [← hA]
  refine RA.steps 1 rfl ?_
  refine RA.getf rfl ((pobj_ne (by decide)).trans e34) rfl rfl ?_
  refine RA.steps 2 rfl ?_
  refine RA.getf rfl ((pobj_ne (by decide)).trans e62) rfl rfl ?_
  refine RA.steps 2 rfl ?_
  refine RA.copy rfl rfl (Nat.le_of_ble_eq_true rfl) ((pint_ne (by decide)).trans e38) ((pint_ne (by decide)).trans e66) ⟨by decide, by decide, by decide, Nat.le_of_ble_eq_true rfl, Nat.le_of_ble_eq_true rfl⟩ ?_
  dsimp only
  rw [← hB]
  refine RA.steps 2 rfl ?_
  refine RA.getf rfl f34 rfl rfl ?_
  refine RA.putf rfl f62 rfl rfl ?_
  refine RA.steps 2 rfl ?_
  refine RA.getf rfl (g34 _) rfl rfl ?_
  refine RA.putf rfl (g62 _) rfl rfl ?_
  rw [List.set_set]
  refine RA.steps 2 rfl ?_
  refine RA.getf rfl (g34 _) rfl rfl ?_
  refine RA.putf rfl (g62 _) rfl rfl ?_
  rw [List.set_set]
  refine RA.steps 2 rfl ?_
  refine RA.getf rfl (g34 _) rfl rfl ?_
  refine RA.putf rfl (g62 _) rfl rfl ?_
  rw [List.set_set]
  refine RA.steps 2 rfl ?_
  refine RA.getf rfl (g34 _) rfl rfl ?_
  refine RA.putf rfl (g62 _) rfl rfl ?_
  rw [List.set_set]
  refine RA.steps 4 rfl ?_
  refine RA.getf rfl (g62 _) rfl rfl ?_
  refine RA.if2T rfl rfl ?_
  exact RA.ret rfl rfl
theorem markT (H : TC h) {X : Nat} (hX : X < 16) : ∃ v : Int32, Run prog E V (d + 1) mX6_markAt [.ref 34, .int (nI X)] h (some (.int v), h, 0, 0) := by
  obtain ⟨e0, e34, ⟨m35, e35⟩, -⟩ := H
  refine ⟨m35 (nI X).toNatClampNeg, Nat.le_of_ble_eq_true rfl, ⟨_, _, rfl⟩, ?_⟩
  refine RA.steps 1 rfl ?_
  refine RA.if1F rfl (decide_eq_false (nI_pos (by omega))) ?_
  refine RA.steps 2 rfl ?_
  refine RA.getf rfl e34 rfl rfl ?_
  refine RA.alen rfl e35 ?_
  refine RA.if2F rfl (decide_eq_false (show ¬ nI 16 ≤ nI X from nI_ge hX (by omega))) ?_
  refine RA.steps 1 rfl ?_
  refine RA.getf rfl e34 rfl rfl ?_
  refine RA.steps 1 rfl ?_
  refine RA.iald rfl e35 ⟨nI_pos' (by omega), by rw [nI_clamp (show X < 2 ^ 31 by omega)]; exact hX⟩ rfl ?_
  refine RA.steps 1 rfl ?_
  exact RA.ret rfl rfl
theorem carveT (H : TC h) {X : Nat} (hX : X < 16) (v : Int32) : ∃ h', TC h' ∧ Run prog E V (d + 1) mX6_carveAt [.ref 62, .int (nI X), .int v] h (none, h', 0, 0) := by
  obtain ⟨e0, e34, e35, e38, ⟨a, b, c, z, e62⟩, ⟨m63, e63⟩, ⟨m66, e66⟩, ek⟩ := H
  refine ⟨h.set 63 (.inl (16, va_up m63 (nI X).toNatClampNeg v)), ⟨(pobj_ne (by decide)).trans e0, (pobj_ne (by decide)).trans e34, ?_, ?_, ⟨a, b, c, z, (pobj_ne (by decide)).trans e62⟩, ⟨_, pint_set (pint_lt e63)⟩, ⟨m66, (pint_ne (by decide)).trans e66⟩, fun k hk => ⟨(pobj_ne (by omega)).trans (ek k hk).1, (pint_ne (by omega)).trans (ek k hk).2⟩⟩, Nat.le_of_ble_eq_true rfl, ⟨_, _, rfl⟩, ?_⟩
  · obtain ⟨m, e⟩ := e35
    exact ⟨m, (pint_ne (by decide)).trans e⟩
  · obtain ⟨m, e⟩ := e38
    exact ⟨m, (pint_ne (by decide)).trans e⟩
  refine RA.steps 1 rfl ?_
  refine RA.if1F rfl (decide_eq_false (nI_pos (by omega))) ?_
  refine RA.steps 2 rfl ?_
  refine RA.getf rfl e62 rfl rfl ?_
  refine RA.alen rfl e63 ?_
  refine RA.if2F rfl (decide_eq_false (show ¬ nI 16 ≤ nI X from nI_ge hX (by omega))) ?_
  refine RA.steps 1 rfl ?_
  refine RA.getf rfl e62 rfl rfl ?_
  refine RA.steps 2 rfl ?_
  refine RA.iast rfl e63 ⟨nI_pos' (by omega), by rw [nI_clamp (show X < 2 ^ 31 by omega)]; exact hX⟩ ?_
  exact RA.ret rfl rfl
theorem flowT (H : TC h) {N : Nat} (hN : N < 2 ^ 31) : ∃ h', TC h' ∧ Run prog E V (d + 2) mX6_flow [.ref 62, .int (nI N)] h (none, h', 0, 0) := by
  obtain ⟨e0, e34, e35, e38, ⟨a, b, c, z, e62⟩, ⟨m63, e63⟩, ⟨m66, e66⟩, ek⟩ := H
  obtain ⟨ti, z', hr⟩ := flow_run (E := E) (V := V) (d := d) N hN e62
  refine ⟨_, ⟨(pobj_ne (by decide)).trans e0, (pobj_ne (by decide)).trans e34, ?_, ?_, ⟨a, ti, c, z', pobj_set (pobj_lt e62)⟩, ⟨m63, (pint_ne (by decide)).trans e63⟩, ⟨m66, (pint_ne (by decide)).trans e66⟩, fun k hk => ⟨(pobj_ne (by omega)).trans (ek k hk).1, (pint_ne (by omega)).trans (ek k hk).2⟩⟩, hr⟩
  · obtain ⟨m, e⟩ := e35
    exact ⟨m, (pint_ne (by decide)).trans e⟩
  · obtain ⟨m, e⟩ := e38
    exact ⟨m, (pint_ne (by decide)).trans e⟩
theorem trustT (H : TC h) : Run prog E V (d + 1) mX6_trustOfAll [.ref 62] h (some (.int 0), h, 0, 0) := by
  obtain ⟨e0, e34, e35, e38, ⟨a, b, c, z, e62⟩, -⟩ := H
  refine ⟨Nat.le_of_ble_eq_true rfl, ⟨_, _, rfl⟩, ?_⟩
  refine RA.steps 6 rfl ?_
  refine RA.getf rfl e62 rfl rfl ?_
  refine RA.if2T rfl rfl ?_
  refine RA.steps 1 rfl ?_
  exact RA.ret rfl rfl
def moT (X : Nat) : Int32 := if X = 0 then -1 else 0
theorem tc_loop (N : Nat) (hN : N < 2 ^ 31) (what : Int32) : ∀ (m X : Nat) (h : List pC) (l6 : Option Value), X + m = 16 → TC h → ∃ h', TC h' ∧ RA prog E V (d + 3) mX7_taught 18 [some (.ref 0), some (.int (nI N)), some (.int what), some (.int 0), some (.int (moT X)), some (.int (nI X)), l6] [] h (some (.int 0), h', 0, 0) := by
  intro m
  induction m with
  | zero =>
    intro X h l6 hX H
    obtain rfl : X = 16 := by omega
    refine ⟨h, H, ?_⟩
    refine RA.steps 2 rfl ?_
    refine RA.if2T rfl rfl ?_
    refine RA.steps 1 rfl ?_
    by_cases hw : what = 0
    · refine RA.if1F rfl (decide_eq_false (fun q => q hw)) ?_
      refine RA.steps 2 rfl ?_
      exact RA.ret rfl rfl
    · refine RA.if1T rfl (decide_eq_true hw) ?_
      refine RA.steps 1 rfl ?_
      exact RA.ret rfl rfl
  | succ m ih =>
    intro X h l6 hX H
    obtain ⟨ha, Ha, ra⟩ := takeT (E := E) (V := V) (d := d + 1) H
    obtain ⟨v, rb⟩ := markT (E := E) (V := V) (d := d + 1) Ha (X := X) (by omega)
    obtain ⟨hc, Hc, rc⟩ := carveT (E := E) (V := V) (d := d + 1) Ha (X := X) (by omega) ((v + 1) - (v + 1) / 4 * 4)
    obtain ⟨hd, Hd, rd⟩ := flowT (E := E) (V := V) (d := d) Hc hN
    have re := trustT (E := E) (V := V) (d := d + 1) Hd
    obtain ⟨h', H', hr⟩ := ih (X + 1) hd (some (.int 0)) (by omega) Hd
    refine ⟨h', H', ?_⟩
    refine RA.steps 2 rfl ?_
    refine RA.if2F rfl (decide_eq_false (show ¬ nI 16 ≤ nI X from nI_ge (by omega) (by omega))) ?_
    refine RA.steps 1 rfl ?_
    refine RA.getf rfl H.1 rfl rfl ?_
    refine RA.steps 1 rfl ?_
    refine RA.getf rfl H.1 rfl rfl ?_
    refine RA.call0 rfl rfl (pcallV rfl rfl H.2.2.2.2.1.choose_spec.choose_spec.choose_spec.choose_spec rfl rfl (Nat.le_of_ble_eq_true rfl)) ra ?_
    refine RA.steps 1 rfl ?_
    refine RA.getf rfl Ha.1 rfl rfl ?_
    refine RA.steps 2 rfl ?_
    refine RA.getf rfl Ha.1 rfl rfl ?_
    refine RA.steps 1 rfl ?_
    refine RA.call0 rfl rfl (pcallV rfl rfl Ha.2.1 rfl rfl (Nat.le_of_ble_eq_true rfl)) rb ?_
    refine RA.steps 4 rfl ?_
    refine RA.call0 rfl rfl (pcallV rfl rfl Ha.2.2.2.2.1.choose_spec.choose_spec.choose_spec.choose_spec rfl rfl (Nat.le_of_ble_eq_true rfl)) rc ?_
    refine RA.steps 1 rfl ?_
    refine RA.getf rfl Hc.1 rfl rfl ?_
    refine RA.steps 1 rfl ?_
    refine RA.call0 rfl rfl (pcallV rfl rfl Hc.2.2.2.2.1.choose_spec.choose_spec.choose_spec.choose_spec rfl rfl (Nat.le_of_ble_eq_true rfl)) rd ?_
    refine RA.steps 1 rfl ?_
    refine RA.getf rfl Hd.1 rfl rfl ?_
    refine RA.call0 rfl rfl (pcallV rfl rfl Hd.2.2.2.2.1.choose_spec.choose_spec.choose_spec.choose_spec rfl rfl (Nat.le_of_ble_eq_true rfl)) re ?_
    refine RA.steps 3 rfl ?_
    by_cases hX0 : X = 0
    · subst hX0
      refine RA.if2F rfl rfl ?_
      refine RA.steps 4 rfl ?_
      refine RA.iinc rfl rfl (nI_1 0) rfl ?_
      refine RA.steps 1 rfl ?_
      exact hr
    · have hmo : moT X = 0 := if_neg hX0
      refine RA.if2T rfl (by rw [hmo]; rfl) ?_
      refine RA.iinc rfl rfl (nI_1 X) rfl ?_
      refine RA.steps 1 rfl ?_
      have hmo2 : moT (X + 1) = 0 := if_neg (by omega)
      rw [hmo2] at hr
      rw [hmo]
      exact hr
theorem tm_loop {fs : List Value} (h0f : fs[0]? = some (.ref 111)) (h13 : fs[13]? = some (.ref 123)) (N : Nat) (hN : N < 2 ^ 31) (what : Int32) : ∀ (m X : Nat) (h : List pC) (f c : Nat → Int32) (l6 : Option Value), X + m = 16 → SM h fs f → pint h 123 = some (75, c) → c 0 = 0 → ∃ h', RA prog E V (d + 4) mX8_taught 22 [some (.ref 110), some (.int (nI N)), some (.int what), some (.int 0), some (.int (moT X)), some (.int (nI X)), l6] [] h (some (.int 0), h', 0, 0) := by
  intro m
  induction m with
  | zero =>
    intro X h f c l6 hX H hc c0
    obtain rfl : X = 16 := by omega
    refine ⟨h, ?_⟩
    refine RA.steps 2 rfl ?_
    refine RA.if2T rfl rfl ?_
    refine RA.steps 1 rfl ?_
    by_cases hw : what = 0
    · refine RA.if1F rfl (decide_eq_false (fun q => q hw)) ?_
      refine RA.steps 2 rfl ?_
      exact RA.ret rfl rfl
    · refine RA.if1T rfl (decide_eq_true hw) ?_
      refine RA.steps 1 rfl ?_
      exact RA.ret rfl rfl
  | succ m ih =>
    intro X h f c l6 hX H hc c0
    have hcl : (nI 5 + nI X).toNatClampNeg = 5 + X := by rw [nI_add]; exact nI_clamp (show 5 + X < 2 ^ 31 by omega)
    have hj : 0 ≤ nI 5 + nI X ∧ (nI 5 + nI X).toNatClampNeg < 3075 := ⟨by rw [nI_add]; exact nI_pos' (by omega), by rw [hcl]; omega⟩
    obtain ⟨w, hw⟩ : ∃ w : Int32, w = (f (nI 5 + nI X).toNatClampNeg + 1) - (f (nI 5 + nI X).toNatClampNeg + 1) / 4 * 4 := ⟨_, rfl⟩
    have H1 : SM (h.set 111 (.inl (3075, va_up f (nI 5 + nI X).toNatClampNeg w))) fs _ := H.next (by
      show (if 0 = (nI 5 + nI X).toNatClampNeg then w else f 0) = 0
      rw [hcl, if_neg (by omega)]
      exact H.2.2.2)
    obtain ⟨g, g0, g3, hg⟩ := gom_run (E := E) (V := V) (d := d) N hN H1
    rw [List.set_set] at hg
    have H2 : SM (h.set 111 (.inl (3075, g))) fs g := H.next g0
    have hc2 : pint (h.set 111 (.inl (3075, g))) 123 = some (75, c) := (pint_ne (by decide)).trans hc
    have ht := allTrust0 (E := E) (V := V) (d := d + 2) H2
    obtain ⟨b, hb, hl⟩ := laysBack_run (E := E) (V := V) (d := d + 2) h13 h0f H2.1 hc2 H2.2.2.1
    rw [List.set_set] at hl
    have b0 : b 0 = 0 := (hb 0 (by omega)).trans c0
    obtain ⟨h', hr⟩ := ih (X + 1) (h.set 111 (.inl (3075, b))) b c (some (.int 0)) (by omega) (H.next b0) ((pint_ne (by decide)).trans hc) c0
    refine ⟨h', ?_⟩
    refine RA.steps 2 rfl ?_
    refine RA.if2F rfl (decide_eq_false (show ¬ nI 16 ≤ nI X from nI_ge (by omega) (by omega))) ?_
    refine RA.steps 1 rfl ?_
    refine RA.getf rfl H.1 rfl h0f ?_
    refine RA.steps 4 rfl ?_
    refine RA.getf rfl H.1 rfl h0f ?_
    refine RA.steps 3 rfl ?_
    refine RA.iald rfl H.2.2.1 hj rfl ?_
    refine RA.steps (i' := 40) (st' := [.int w, .int (nI 5 + nI X), .ref 111]) (h' := h) 4 (by rw [hw]; rfl) ?_
    refine RA.iast (w := w) rfl H.2.2.1 hj ?_
    refine RA.steps 2 rfl ?_
    refine RA.call0 rfl rfl (pcallV rfl rfl H1.1 rfl rfl (Nat.le_of_ble_eq_true rfl)) hg ?_
    refine RA.steps 1 rfl ?_
    refine RA.call0 rfl rfl (pcallV rfl rfl H2.1 rfl rfl (Nat.le_of_ble_eq_true rfl)) ht ?_
    refine RA.steps 2 rfl ?_
    refine RA.call0 rfl rfl (pcallV rfl rfl H2.1 rfl rfl (Nat.le_of_ble_eq_true rfl)) hl ?_
    refine RA.steps 2 rfl ?_
    by_cases hX0 : X = 0
    · subst hX0
      refine RA.if2F rfl rfl ?_
      refine RA.steps 5 rfl ?_
      refine RA.if2F rfl rfl ?_
      refine RA.steps 3 rfl ?_
      refine RA.iinc rfl rfl (nI_1 0) rfl ?_
      refine RA.steps 1 rfl ?_
      exact hr
    · have hmo : moT X = 0 := if_neg hX0
      refine RA.if2T rfl (by rw [hmo]; rfl) ?_
      refine RA.steps 4 rfl ?_
      refine RA.if2T rfl (by rw [hmo]; rfl) ?_
      refine RA.steps 2 rfl ?_
      refine RA.iinc rfl rfl (nI_1 X) rfl ?_
      refine RA.steps 1 rfl ?_
      have hmo2 : moT (X + 1) = 0 := if_neg (by omega)
      rw [hmo2] at hr
      rw [hmo]
      exact hr
end TGC
set_option maxRecDepth 100000 in
set_option maxHeartbeats 4000000 in
theorem q_taught (E : pX) (a b : Int32) : ∃ (r : Int32) (h1 h2 : List pC), Run prog E pV0 40 mX7_taught [.ref 0, .int a, .int b] h0 (some (.int r), h1, 0, 0) ∧ Run prog E pV0 40 mX8_taught [.ref 110, .int a, .int b] h1 (some (.int r), h2, 0, 0) := by
  by_cases hh : 1 ≤ a ∧ a ≤ 60
  · by_cases hb : 0 ≤ b ∧ b ≤ 1
    · obtain ⟨N, hN, rfl⟩ := nI_of2 (x := a) (M := 60) (n := 60) (by decide) (Int32.not_lt.mpr (Int32.le_trans (by decide) hh.1)) hh.2
      have HT : TC h0 := ⟨rfl, rfl, ⟨_, rfl⟩, ⟨_, rfl⟩, ⟨_, _, _, _, rfl⟩, ⟨_, rfl⟩, ⟨_, rfl⟩, fun k _ => ⟨rfl, rfl⟩⟩
      obtain ⟨h1, H1, hr⟩ := tc_loop (E := E) (V := pV0) (d := 37) N (by omega) b 16 0 h0 none (by omega) HT
      have ek := H1.2.2.2.2.2.2.2
      have e110 := (ek 110 (by omega)).1
      have e111 := (ek 111 (by omega)).2
      have e123 := (ek 123 (by omega)).2
      have f110 : pobj h0 110 = some (8, _) := rfl
      have f111 : pint h0 111 = some (3075, va_up (fun _ => 0) 4 1) := rfl
      have f123 : pint h0 123 = some (75, fun _ => 0) := rfl
      have SM1 : SM h1 _ _ := ⟨e110.trans f110, rfl, e111.trans f111, rfl⟩
      obtain ⟨c, hc, hl⟩ := laysBy_run (E := E) (V := pV0) (d := 38) (h := h1) rfl rfl SM1.1 SM1.2.2.1 (e123.trans f123)
      have SM2 : SM (h1.set 123 (.inl (75, c))) _ _ := ⟨(pobj_ne (by decide)).trans SM1.1, SM1.2.1, (pint_ne (by decide)).trans SM1.2.2.1, SM1.2.2.2⟩
      obtain ⟨h2, hm⟩ := tm_loop (E := E) (V := pV0) (d := 36) rfl rfl N (by omega) b 16 0 _ _ c none (by omega) SM2 (pint_set (pint_lt (e123.trans f123))) ((hc 0 (by omega)).trans rfl)
      refine ⟨0, h1, h2, ⟨Nat.le_of_ble_eq_true rfl, ⟨_, _, rfl⟩, ?_⟩, ⟨Nat.le_of_ble_eq_true rfl, ⟨_, _, rfl⟩, ?_⟩⟩
      · refine RA.steps 3 rfl ?_
        refine RA.call0 rfl rfl rfl (within_t (v := nI N) (lo := 1) (hi := 60) hh) ?_
        refine RA.steps 4 rfl ?_
        refine RA.call0 rfl rfl rfl (within_t (v := b) (lo := 0) (hi := 1) hb) ?_
        refine RA.steps 7 rfl ?_
        exact hr
      · refine RA.steps 4 rfl ?_
        refine RA.call0 rfl rfl rfl (isIn_t (v := nI N) (lo := 1) (hi := 60) hh) ?_
        refine RA.steps 5 rfl ?_
        refine RA.call0 rfl rfl rfl (isIn_t (v := b) (lo := 0) (hi := 1) hb) ?_
        refine RA.steps 2 rfl ?_
        refine RA.call0 rfl rfl (pcallV rfl rfl SM1.1 rfl rfl (Nat.le_of_ble_eq_true rfl)) hl ?_
        refine RA.steps 6 rfl ?_
        exact hm
    · exact ⟨_, _, _, by
        refine ⟨Nat.le_of_ble_eq_true rfl, ⟨_, _, rfl⟩, ?_⟩
        refine RA.steps 3 rfl ?_
        refine RA.call0 rfl rfl rfl (within_t (v := a) (lo := 1) (hi := 60) hh) ?_
        refine RA.steps 4 rfl ?_
        refine RA.call0 rfl rfl rfl (within_f (v := b) (lo := 0) (hi := 1) hb) ?_
        refine RA.steps 2 rfl ?_
        exact RA.ret rfl rfl, by
        refine ⟨Nat.le_of_ble_eq_true rfl, ⟨_, _, rfl⟩, ?_⟩
        refine RA.steps 4 rfl ?_
        refine RA.call0 rfl rfl rfl (isIn_t (v := a) (lo := 1) (hi := 60) hh) ?_
        refine RA.steps 5 rfl ?_
        refine RA.call0 rfl rfl rfl (isIn_f (v := b) (lo := 0) (hi := 1) hb) ?_
        refine RA.steps 2 rfl ?_
        exact RA.ret rfl rfl⟩
  · exact ⟨_, _, _, by
      refine ⟨Nat.le_of_ble_eq_true rfl, ⟨_, _, rfl⟩, ?_⟩
      refine RA.steps 3 rfl ?_
      refine RA.call0 rfl rfl rfl (within_f (v := a) (lo := 1) (hi := 60) hh) ?_
      refine RA.steps 2 rfl ?_
      exact RA.ret rfl rfl, by
      refine ⟨Nat.le_of_ble_eq_true rfl, ⟨_, _, rfl⟩, ?_⟩
      refine RA.steps 4 rfl ?_
      refine RA.call0 rfl rfl rfl (isIn_f (v := a) (lo := 1) (hi := 60) hh) ?_
      refine RA.steps 2 rfl ?_
      exact RA.ret rfl rfl⟩
end
section
set_option maxRecDepth 100000 in
set_option maxHeartbeats 60000000 in
theorem q_told (E : pX) (a b : Int32) : ∃ (r : Int32) (h1 h2 : List pC), Run prog E pV0 40 mX7_told [.ref 0, .int a, .int b] h0 (some (.int r), h1, 0, 0) ∧ Run prog E pV0 40 mX8_told [.ref 110, .int a, .int b] h1 (some (.int r), h2, 0, 0) := by
  exact ⟨_, _, _, by
      refine ⟨Nat.le_of_ble_eq_true rfl, ⟨_, _, rfl⟩, ?_⟩
      refine RA.steps 3 rfl ?_
      refine RA.call0 rfl rfl rfl (one_no a rfl) ?_
      refine RA.steps 4 rfl ?_
      exact RA.ret rfl rfl, by
      refine ⟨Nat.le_of_ble_eq_true rfl, ⟨_, _, rfl⟩, ?_⟩
      refine RA.steps 2 rfl ?_
      refine RA.call0 rfl rfl rfl (by
        refine ⟨Nat.le_of_ble_eq_true rfl, ⟨_, _, rfl⟩, ?_⟩
        refine RA.steps 10 rfl ?_
        refine RA.call0 rfl rfl rfl (isIn_f (v := a) (lo := 0) (hi := (-1)) (in_no (by decide))) ?_
        exact RA.ret rfl rfl) ?_
      refine RA.steps 2 rfl ?_
      exact RA.ret rfl rfl⟩
set_option maxRecDepth 100000 in
set_option maxHeartbeats 60000000 in
theorem q_says (E : pX) (a b : Int32) : ∃ (r : Int32) (h1 h2 : List pC), Run prog E pV0 40 mX7_says [.ref 0, .int a, .int b] h0 (some (.int r), h1, 0, 0) ∧ Run prog E pV0 40 mX8_says [.ref 110, .int a, .int b] h1 (some (.int r), h2, 0, 0) := by
  exact ⟨_, _, _, by
      refine ⟨Nat.le_of_ble_eq_true rfl, ⟨_, _, rfl⟩, ?_⟩
      refine RA.steps 3 rfl ?_
      refine RA.call0 rfl rfl rfl (one_no a rfl) ?_
      refine RA.steps 4 rfl ?_
      exact RA.ret rfl rfl, by
      refine ⟨Nat.le_of_ble_eq_true rfl, ⟨_, _, rfl⟩, ?_⟩
      refine RA.steps 2 rfl ?_
      refine RA.call0 rfl rfl rfl (by
        refine ⟨Nat.le_of_ble_eq_true rfl, ⟨_, _, rfl⟩, ?_⟩
        refine RA.steps 10 rfl ?_
        refine RA.call0 rfl rfl rfl (isIn_f (v := a) (lo := 0) (hi := (-1)) (in_no (by decide))) ?_
        exact RA.ret rfl rfl) ?_
      refine RA.steps 2 rfl ?_
      exact RA.ret rfl rfl⟩
set_option maxRecDepth 100000 in
set_option maxHeartbeats 60000000 in
theorem q_as (E : pX) (a b : Int32) : ∃ (r : Int32) (h1 h2 : List pC), Run prog E pV0 40 mX7_as [.ref 0, .int a, .int b] h0 (some (.int r), h1, 0, 0) ∧ Run prog E pV0 40 mX8_as [.ref 110, .int a, .int b] h1 (some (.int r), h2, 0, 0) := by
  exact ⟨_, _, _, by
      refine ⟨Nat.le_of_ble_eq_true rfl, ⟨_, _, rfl⟩, ?_⟩
      refine RA.steps 3 rfl ?_
      refine RA.call0 rfl rfl rfl (one_no a rfl) ?_
      refine RA.steps 4 rfl ?_
      exact RA.ret rfl rfl, by
      refine ⟨Nat.le_of_ble_eq_true rfl, ⟨_, _, rfl⟩, ?_⟩
      refine RA.steps 2 rfl ?_
      refine RA.call0 rfl rfl rfl (by
        refine ⟨Nat.le_of_ble_eq_true rfl, ⟨_, _, rfl⟩, ?_⟩
        refine RA.steps 10 rfl ?_
        refine RA.call0 rfl rfl rfl (isIn_f (v := a) (lo := 0) (hi := (-1)) (in_no (by decide))) ?_
        exact RA.ret rfl rfl) ?_
      refine RA.steps 2 rfl ?_
      exact RA.ret rfl rfl⟩
set_option maxRecDepth 100000 in
set_option maxHeartbeats 60000000 in
theorem q_turns (E : pX) (a b : Int32) : ∃ (r : Int32) (h1 h2 : List pC), Run prog E pV0 40 mX7_turns [.ref 0, .int a, .int b] h0 (some (.int r), h1, 0, 0) ∧ Run prog E pV0 40 mX8_turns [.ref 110, .int a, .int b] h1 (some (.int r), h2, 0, 0) := by
  exact ⟨_, _, _, by
      refine ⟨Nat.le_of_ble_eq_true rfl, ⟨_, _, rfl⟩, ?_⟩
      refine RA.steps 3 rfl ?_
      refine RA.call0 rfl rfl rfl (one_no a rfl) ?_
      refine RA.steps 4 rfl ?_
      exact RA.ret rfl rfl, by
      refine ⟨Nat.le_of_ble_eq_true rfl, ⟨_, _, rfl⟩, ?_⟩
      refine RA.steps 2 rfl ?_
      refine RA.call0 rfl rfl rfl (by
        refine ⟨Nat.le_of_ble_eq_true rfl, ⟨_, _, rfl⟩, ?_⟩
        refine RA.steps 10 rfl ?_
        refine RA.call0 rfl rfl rfl (isIn_f (v := a) (lo := 0) (hi := (-1)) (in_no (by decide))) ?_
        exact RA.ret rfl rfl) ?_
      refine RA.steps 2 rfl ?_
      exact RA.ret rfl rfl⟩
set_option maxRecDepth 100000 in
set_option maxHeartbeats 60000000 in
theorem q_set (E : pX) (a b c : Int32) : ∃ (r : Int32) (h1 h2 : List pC), Run prog E pV0 40 mX7_set [.ref 0, .int a, .int b, .int c] h0 (some (.int r), h1, 0, 0) ∧ Run prog E pV0 40 mX8_set [.ref 110, .int a, .int b, .int c] h1 (some (.int r), h2, 0, 0) := by
  exact ⟨_, _, _, by
      refine ⟨Nat.le_of_ble_eq_true rfl, ⟨_, _, rfl⟩, ?_⟩
      refine RA.steps 3 rfl ?_
      refine RA.call0 rfl rfl rfl (one_no a rfl) ?_
      refine RA.steps 4 rfl ?_
      exact RA.ret rfl rfl, by
      refine ⟨Nat.le_of_ble_eq_true rfl, ⟨_, _, rfl⟩, ?_⟩
      refine RA.steps 2 rfl ?_
      refine RA.call0 rfl rfl rfl (by
        refine ⟨Nat.le_of_ble_eq_true rfl, ⟨_, _, rfl⟩, ?_⟩
        refine RA.steps 10 rfl ?_
        refine RA.call0 rfl rfl rfl (isIn_f (v := a) (lo := 0) (hi := (-1)) (in_no (by decide))) ?_
        exact RA.ret rfl rfl) ?_
      refine RA.steps 2 rfl ?_
      exact RA.ret rfl rfl⟩
set_option maxRecDepth 100000 in
set_option maxHeartbeats 60000000 in
theorem q_carve (E : pX) (a b : Int32) : ∃ (r : Int32) (h1 h2 : List pC), Run prog E pV0 40 mX7_carve [.ref 0, .int a, .int b] h0 (some (.int r), h1, 0, 0) ∧ Run prog E pV0 40 mX8_carve [.ref 110, .int a, .int b] h1 (some (.int r), h2, 0, 0) := by
  by_cases h1 : 0 ≤ a ∧ a ≤ 15
  · by_cases h2 : 0 ≤ b ∧ b ≤ 3
    · rcases cases_0_15 h1 with rfl | rfl | rfl | rfl | rfl | rfl | rfl | rfl | rfl | rfl | rfl | rfl | rfl | rfl | rfl | rfl
      · exact ⟨_, _, _, by
            refine ⟨Nat.le_of_ble_eq_true rfl, ⟨_, _, rfl⟩, ?_⟩
            refine RA.steps 1 rfl ?_
            refine RA.call0 rfl rfl rfl (Run.ex 4000 (Nat.le_of_ble_eq_true rfl) ⟨_, _, rfl⟩ rfl) ?_
            refine RA.steps 4 rfl ?_
            refine RA.call0 rfl rfl rfl (within_t (v := b) (lo := 0) (hi := 3) h2) ?_
            refine RA.steps 4 rfl ?_
            refine RA.call0 rfl rfl rfl (Run.ex 4000 (Nat.le_of_ble_eq_true rfl) ⟨_, _, rfl⟩ rfl) ?_
            refine RA.steps 5 rfl ?_
            refine RA.call0 rfl rfl rfl (Run.ex 4000 (Nat.le_of_ble_eq_true rfl) ⟨_, _, rfl⟩ rfl) ?_
            refine RA.steps 1 rfl ?_
            exact RA.ret rfl rfl, by
            refine ⟨Nat.le_of_ble_eq_true rfl, ⟨_, _, rfl⟩, ?_⟩
            refine RA.steps 4 rfl ?_
            refine RA.call0 rfl rfl rfl (Run.ex 4000 (Nat.le_of_ble_eq_true rfl) ⟨_, _, rfl⟩ rfl) ?_
            refine RA.steps 5 rfl ?_
            refine RA.call0 rfl rfl rfl (isIn_t (v := b) (lo := 0) (hi := 3) h2) ?_
            refine RA.steps 6 rfl ?_
            refine RA.call0 rfl rfl rfl (Run.ex 4000 (Nat.le_of_ble_eq_true rfl) ⟨_, _, rfl⟩ rfl) ?_
            refine RA.steps 1 rfl ?_
            exact RA.ret rfl rfl⟩
      · exact ⟨_, _, _, by
            refine ⟨Nat.le_of_ble_eq_true rfl, ⟨_, _, rfl⟩, ?_⟩
            refine RA.steps 1 rfl ?_
            refine RA.call0 rfl rfl rfl (Run.ex 4000 (Nat.le_of_ble_eq_true rfl) ⟨_, _, rfl⟩ rfl) ?_
            refine RA.steps 4 rfl ?_
            refine RA.call0 rfl rfl rfl (within_t (v := b) (lo := 0) (hi := 3) h2) ?_
            refine RA.steps 4 rfl ?_
            refine RA.call0 rfl rfl rfl (Run.ex 4000 (Nat.le_of_ble_eq_true rfl) ⟨_, _, rfl⟩ rfl) ?_
            refine RA.steps 5 rfl ?_
            refine RA.call0 rfl rfl rfl (Run.ex 4000 (Nat.le_of_ble_eq_true rfl) ⟨_, _, rfl⟩ rfl) ?_
            refine RA.steps 1 rfl ?_
            exact RA.ret rfl rfl, by
            refine ⟨Nat.le_of_ble_eq_true rfl, ⟨_, _, rfl⟩, ?_⟩
            refine RA.steps 4 rfl ?_
            refine RA.call0 rfl rfl rfl (Run.ex 4000 (Nat.le_of_ble_eq_true rfl) ⟨_, _, rfl⟩ rfl) ?_
            refine RA.steps 5 rfl ?_
            refine RA.call0 rfl rfl rfl (isIn_t (v := b) (lo := 0) (hi := 3) h2) ?_
            refine RA.steps 6 rfl ?_
            refine RA.call0 rfl rfl rfl (Run.ex 4000 (Nat.le_of_ble_eq_true rfl) ⟨_, _, rfl⟩ rfl) ?_
            refine RA.steps 1 rfl ?_
            exact RA.ret rfl rfl⟩
      · exact ⟨_, _, _, by
            refine ⟨Nat.le_of_ble_eq_true rfl, ⟨_, _, rfl⟩, ?_⟩
            refine RA.steps 1 rfl ?_
            refine RA.call0 rfl rfl rfl (Run.ex 4000 (Nat.le_of_ble_eq_true rfl) ⟨_, _, rfl⟩ rfl) ?_
            refine RA.steps 4 rfl ?_
            refine RA.call0 rfl rfl rfl (within_t (v := b) (lo := 0) (hi := 3) h2) ?_
            refine RA.steps 4 rfl ?_
            refine RA.call0 rfl rfl rfl (Run.ex 4000 (Nat.le_of_ble_eq_true rfl) ⟨_, _, rfl⟩ rfl) ?_
            refine RA.steps 5 rfl ?_
            refine RA.call0 rfl rfl rfl (Run.ex 4000 (Nat.le_of_ble_eq_true rfl) ⟨_, _, rfl⟩ rfl) ?_
            refine RA.steps 1 rfl ?_
            exact RA.ret rfl rfl, by
            refine ⟨Nat.le_of_ble_eq_true rfl, ⟨_, _, rfl⟩, ?_⟩
            refine RA.steps 4 rfl ?_
            refine RA.call0 rfl rfl rfl (Run.ex 4000 (Nat.le_of_ble_eq_true rfl) ⟨_, _, rfl⟩ rfl) ?_
            refine RA.steps 5 rfl ?_
            refine RA.call0 rfl rfl rfl (isIn_t (v := b) (lo := 0) (hi := 3) h2) ?_
            refine RA.steps 6 rfl ?_
            refine RA.call0 rfl rfl rfl (Run.ex 4000 (Nat.le_of_ble_eq_true rfl) ⟨_, _, rfl⟩ rfl) ?_
            refine RA.steps 1 rfl ?_
            exact RA.ret rfl rfl⟩
      · exact ⟨_, _, _, by
            refine ⟨Nat.le_of_ble_eq_true rfl, ⟨_, _, rfl⟩, ?_⟩
            refine RA.steps 1 rfl ?_
            refine RA.call0 rfl rfl rfl (Run.ex 4000 (Nat.le_of_ble_eq_true rfl) ⟨_, _, rfl⟩ rfl) ?_
            refine RA.steps 4 rfl ?_
            refine RA.call0 rfl rfl rfl (within_t (v := b) (lo := 0) (hi := 3) h2) ?_
            refine RA.steps 4 rfl ?_
            refine RA.call0 rfl rfl rfl (Run.ex 4000 (Nat.le_of_ble_eq_true rfl) ⟨_, _, rfl⟩ rfl) ?_
            refine RA.steps 5 rfl ?_
            refine RA.call0 rfl rfl rfl (Run.ex 4000 (Nat.le_of_ble_eq_true rfl) ⟨_, _, rfl⟩ rfl) ?_
            refine RA.steps 1 rfl ?_
            exact RA.ret rfl rfl, by
            refine ⟨Nat.le_of_ble_eq_true rfl, ⟨_, _, rfl⟩, ?_⟩
            refine RA.steps 4 rfl ?_
            refine RA.call0 rfl rfl rfl (Run.ex 4000 (Nat.le_of_ble_eq_true rfl) ⟨_, _, rfl⟩ rfl) ?_
            refine RA.steps 5 rfl ?_
            refine RA.call0 rfl rfl rfl (isIn_t (v := b) (lo := 0) (hi := 3) h2) ?_
            refine RA.steps 6 rfl ?_
            refine RA.call0 rfl rfl rfl (Run.ex 4000 (Nat.le_of_ble_eq_true rfl) ⟨_, _, rfl⟩ rfl) ?_
            refine RA.steps 1 rfl ?_
            exact RA.ret rfl rfl⟩
      · exact ⟨_, _, _, by
            refine ⟨Nat.le_of_ble_eq_true rfl, ⟨_, _, rfl⟩, ?_⟩
            refine RA.steps 1 rfl ?_
            refine RA.call0 rfl rfl rfl (Run.ex 4000 (Nat.le_of_ble_eq_true rfl) ⟨_, _, rfl⟩ rfl) ?_
            refine RA.steps 4 rfl ?_
            refine RA.call0 rfl rfl rfl (within_t (v := b) (lo := 0) (hi := 3) h2) ?_
            refine RA.steps 4 rfl ?_
            refine RA.call0 rfl rfl rfl (Run.ex 4000 (Nat.le_of_ble_eq_true rfl) ⟨_, _, rfl⟩ rfl) ?_
            refine RA.steps 5 rfl ?_
            refine RA.call0 rfl rfl rfl (Run.ex 4000 (Nat.le_of_ble_eq_true rfl) ⟨_, _, rfl⟩ rfl) ?_
            refine RA.steps 1 rfl ?_
            exact RA.ret rfl rfl, by
            refine ⟨Nat.le_of_ble_eq_true rfl, ⟨_, _, rfl⟩, ?_⟩
            refine RA.steps 4 rfl ?_
            refine RA.call0 rfl rfl rfl (Run.ex 4000 (Nat.le_of_ble_eq_true rfl) ⟨_, _, rfl⟩ rfl) ?_
            refine RA.steps 5 rfl ?_
            refine RA.call0 rfl rfl rfl (isIn_t (v := b) (lo := 0) (hi := 3) h2) ?_
            refine RA.steps 6 rfl ?_
            refine RA.call0 rfl rfl rfl (Run.ex 4000 (Nat.le_of_ble_eq_true rfl) ⟨_, _, rfl⟩ rfl) ?_
            refine RA.steps 1 rfl ?_
            exact RA.ret rfl rfl⟩
      · exact ⟨_, _, _, by
            refine ⟨Nat.le_of_ble_eq_true rfl, ⟨_, _, rfl⟩, ?_⟩
            refine RA.steps 1 rfl ?_
            refine RA.call0 rfl rfl rfl (Run.ex 4000 (Nat.le_of_ble_eq_true rfl) ⟨_, _, rfl⟩ rfl) ?_
            refine RA.steps 4 rfl ?_
            refine RA.call0 rfl rfl rfl (within_t (v := b) (lo := 0) (hi := 3) h2) ?_
            refine RA.steps 4 rfl ?_
            refine RA.call0 rfl rfl rfl (Run.ex 4000 (Nat.le_of_ble_eq_true rfl) ⟨_, _, rfl⟩ rfl) ?_
            refine RA.steps 5 rfl ?_
            refine RA.call0 rfl rfl rfl (Run.ex 4000 (Nat.le_of_ble_eq_true rfl) ⟨_, _, rfl⟩ rfl) ?_
            refine RA.steps 1 rfl ?_
            exact RA.ret rfl rfl, by
            refine ⟨Nat.le_of_ble_eq_true rfl, ⟨_, _, rfl⟩, ?_⟩
            refine RA.steps 4 rfl ?_
            refine RA.call0 rfl rfl rfl (Run.ex 4000 (Nat.le_of_ble_eq_true rfl) ⟨_, _, rfl⟩ rfl) ?_
            refine RA.steps 5 rfl ?_
            refine RA.call0 rfl rfl rfl (isIn_t (v := b) (lo := 0) (hi := 3) h2) ?_
            refine RA.steps 6 rfl ?_
            refine RA.call0 rfl rfl rfl (Run.ex 4000 (Nat.le_of_ble_eq_true rfl) ⟨_, _, rfl⟩ rfl) ?_
            refine RA.steps 1 rfl ?_
            exact RA.ret rfl rfl⟩
      · exact ⟨_, _, _, by
            refine ⟨Nat.le_of_ble_eq_true rfl, ⟨_, _, rfl⟩, ?_⟩
            refine RA.steps 1 rfl ?_
            refine RA.call0 rfl rfl rfl (Run.ex 4000 (Nat.le_of_ble_eq_true rfl) ⟨_, _, rfl⟩ rfl) ?_
            refine RA.steps 4 rfl ?_
            refine RA.call0 rfl rfl rfl (within_t (v := b) (lo := 0) (hi := 3) h2) ?_
            refine RA.steps 4 rfl ?_
            refine RA.call0 rfl rfl rfl (Run.ex 4000 (Nat.le_of_ble_eq_true rfl) ⟨_, _, rfl⟩ rfl) ?_
            refine RA.steps 5 rfl ?_
            refine RA.call0 rfl rfl rfl (Run.ex 4000 (Nat.le_of_ble_eq_true rfl) ⟨_, _, rfl⟩ rfl) ?_
            refine RA.steps 1 rfl ?_
            exact RA.ret rfl rfl, by
            refine ⟨Nat.le_of_ble_eq_true rfl, ⟨_, _, rfl⟩, ?_⟩
            refine RA.steps 4 rfl ?_
            refine RA.call0 rfl rfl rfl (Run.ex 4000 (Nat.le_of_ble_eq_true rfl) ⟨_, _, rfl⟩ rfl) ?_
            refine RA.steps 5 rfl ?_
            refine RA.call0 rfl rfl rfl (isIn_t (v := b) (lo := 0) (hi := 3) h2) ?_
            refine RA.steps 6 rfl ?_
            refine RA.call0 rfl rfl rfl (Run.ex 4000 (Nat.le_of_ble_eq_true rfl) ⟨_, _, rfl⟩ rfl) ?_
            refine RA.steps 1 rfl ?_
            exact RA.ret rfl rfl⟩
      · exact ⟨_, _, _, by
            refine ⟨Nat.le_of_ble_eq_true rfl, ⟨_, _, rfl⟩, ?_⟩
            refine RA.steps 1 rfl ?_
            refine RA.call0 rfl rfl rfl (Run.ex 4000 (Nat.le_of_ble_eq_true rfl) ⟨_, _, rfl⟩ rfl) ?_
            refine RA.steps 4 rfl ?_
            refine RA.call0 rfl rfl rfl (within_t (v := b) (lo := 0) (hi := 3) h2) ?_
            refine RA.steps 4 rfl ?_
            refine RA.call0 rfl rfl rfl (Run.ex 4000 (Nat.le_of_ble_eq_true rfl) ⟨_, _, rfl⟩ rfl) ?_
            refine RA.steps 5 rfl ?_
            refine RA.call0 rfl rfl rfl (Run.ex 4000 (Nat.le_of_ble_eq_true rfl) ⟨_, _, rfl⟩ rfl) ?_
            refine RA.steps 1 rfl ?_
            exact RA.ret rfl rfl, by
            refine ⟨Nat.le_of_ble_eq_true rfl, ⟨_, _, rfl⟩, ?_⟩
            refine RA.steps 4 rfl ?_
            refine RA.call0 rfl rfl rfl (Run.ex 4000 (Nat.le_of_ble_eq_true rfl) ⟨_, _, rfl⟩ rfl) ?_
            refine RA.steps 5 rfl ?_
            refine RA.call0 rfl rfl rfl (isIn_t (v := b) (lo := 0) (hi := 3) h2) ?_
            refine RA.steps 6 rfl ?_
            refine RA.call0 rfl rfl rfl (Run.ex 4000 (Nat.le_of_ble_eq_true rfl) ⟨_, _, rfl⟩ rfl) ?_
            refine RA.steps 1 rfl ?_
            exact RA.ret rfl rfl⟩
      · exact ⟨_, _, _, by
            refine ⟨Nat.le_of_ble_eq_true rfl, ⟨_, _, rfl⟩, ?_⟩
            refine RA.steps 1 rfl ?_
            refine RA.call0 rfl rfl rfl (Run.ex 4000 (Nat.le_of_ble_eq_true rfl) ⟨_, _, rfl⟩ rfl) ?_
            refine RA.steps 4 rfl ?_
            refine RA.call0 rfl rfl rfl (within_t (v := b) (lo := 0) (hi := 3) h2) ?_
            refine RA.steps 4 rfl ?_
            refine RA.call0 rfl rfl rfl (Run.ex 4000 (Nat.le_of_ble_eq_true rfl) ⟨_, _, rfl⟩ rfl) ?_
            refine RA.steps 5 rfl ?_
            refine RA.call0 rfl rfl rfl (Run.ex 4000 (Nat.le_of_ble_eq_true rfl) ⟨_, _, rfl⟩ rfl) ?_
            refine RA.steps 1 rfl ?_
            exact RA.ret rfl rfl, by
            refine ⟨Nat.le_of_ble_eq_true rfl, ⟨_, _, rfl⟩, ?_⟩
            refine RA.steps 4 rfl ?_
            refine RA.call0 rfl rfl rfl (Run.ex 4000 (Nat.le_of_ble_eq_true rfl) ⟨_, _, rfl⟩ rfl) ?_
            refine RA.steps 5 rfl ?_
            refine RA.call0 rfl rfl rfl (isIn_t (v := b) (lo := 0) (hi := 3) h2) ?_
            refine RA.steps 6 rfl ?_
            refine RA.call0 rfl rfl rfl (Run.ex 4000 (Nat.le_of_ble_eq_true rfl) ⟨_, _, rfl⟩ rfl) ?_
            refine RA.steps 1 rfl ?_
            exact RA.ret rfl rfl⟩
      · exact ⟨_, _, _, by
            refine ⟨Nat.le_of_ble_eq_true rfl, ⟨_, _, rfl⟩, ?_⟩
            refine RA.steps 1 rfl ?_
            refine RA.call0 rfl rfl rfl (Run.ex 4000 (Nat.le_of_ble_eq_true rfl) ⟨_, _, rfl⟩ rfl) ?_
            refine RA.steps 4 rfl ?_
            refine RA.call0 rfl rfl rfl (within_t (v := b) (lo := 0) (hi := 3) h2) ?_
            refine RA.steps 4 rfl ?_
            refine RA.call0 rfl rfl rfl (Run.ex 4000 (Nat.le_of_ble_eq_true rfl) ⟨_, _, rfl⟩ rfl) ?_
            refine RA.steps 5 rfl ?_
            refine RA.call0 rfl rfl rfl (Run.ex 4000 (Nat.le_of_ble_eq_true rfl) ⟨_, _, rfl⟩ rfl) ?_
            refine RA.steps 1 rfl ?_
            exact RA.ret rfl rfl, by
            refine ⟨Nat.le_of_ble_eq_true rfl, ⟨_, _, rfl⟩, ?_⟩
            refine RA.steps 4 rfl ?_
            refine RA.call0 rfl rfl rfl (Run.ex 4000 (Nat.le_of_ble_eq_true rfl) ⟨_, _, rfl⟩ rfl) ?_
            refine RA.steps 5 rfl ?_
            refine RA.call0 rfl rfl rfl (isIn_t (v := b) (lo := 0) (hi := 3) h2) ?_
            refine RA.steps 6 rfl ?_
            refine RA.call0 rfl rfl rfl (Run.ex 4000 (Nat.le_of_ble_eq_true rfl) ⟨_, _, rfl⟩ rfl) ?_
            refine RA.steps 1 rfl ?_
            exact RA.ret rfl rfl⟩
      · exact ⟨_, _, _, by
            refine ⟨Nat.le_of_ble_eq_true rfl, ⟨_, _, rfl⟩, ?_⟩
            refine RA.steps 1 rfl ?_
            refine RA.call0 rfl rfl rfl (Run.ex 4000 (Nat.le_of_ble_eq_true rfl) ⟨_, _, rfl⟩ rfl) ?_
            refine RA.steps 4 rfl ?_
            refine RA.call0 rfl rfl rfl (within_t (v := b) (lo := 0) (hi := 3) h2) ?_
            refine RA.steps 4 rfl ?_
            refine RA.call0 rfl rfl rfl (Run.ex 4000 (Nat.le_of_ble_eq_true rfl) ⟨_, _, rfl⟩ rfl) ?_
            refine RA.steps 5 rfl ?_
            refine RA.call0 rfl rfl rfl (Run.ex 4000 (Nat.le_of_ble_eq_true rfl) ⟨_, _, rfl⟩ rfl) ?_
            refine RA.steps 1 rfl ?_
            exact RA.ret rfl rfl, by
            refine ⟨Nat.le_of_ble_eq_true rfl, ⟨_, _, rfl⟩, ?_⟩
            refine RA.steps 4 rfl ?_
            refine RA.call0 rfl rfl rfl (Run.ex 4000 (Nat.le_of_ble_eq_true rfl) ⟨_, _, rfl⟩ rfl) ?_
            refine RA.steps 5 rfl ?_
            refine RA.call0 rfl rfl rfl (isIn_t (v := b) (lo := 0) (hi := 3) h2) ?_
            refine RA.steps 6 rfl ?_
            refine RA.call0 rfl rfl rfl (Run.ex 4000 (Nat.le_of_ble_eq_true rfl) ⟨_, _, rfl⟩ rfl) ?_
            refine RA.steps 1 rfl ?_
            exact RA.ret rfl rfl⟩
      · exact ⟨_, _, _, by
            refine ⟨Nat.le_of_ble_eq_true rfl, ⟨_, _, rfl⟩, ?_⟩
            refine RA.steps 1 rfl ?_
            refine RA.call0 rfl rfl rfl (Run.ex 4000 (Nat.le_of_ble_eq_true rfl) ⟨_, _, rfl⟩ rfl) ?_
            refine RA.steps 4 rfl ?_
            refine RA.call0 rfl rfl rfl (within_t (v := b) (lo := 0) (hi := 3) h2) ?_
            refine RA.steps 4 rfl ?_
            refine RA.call0 rfl rfl rfl (Run.ex 4000 (Nat.le_of_ble_eq_true rfl) ⟨_, _, rfl⟩ rfl) ?_
            refine RA.steps 5 rfl ?_
            refine RA.call0 rfl rfl rfl (Run.ex 4000 (Nat.le_of_ble_eq_true rfl) ⟨_, _, rfl⟩ rfl) ?_
            refine RA.steps 1 rfl ?_
            exact RA.ret rfl rfl, by
            refine ⟨Nat.le_of_ble_eq_true rfl, ⟨_, _, rfl⟩, ?_⟩
            refine RA.steps 4 rfl ?_
            refine RA.call0 rfl rfl rfl (Run.ex 4000 (Nat.le_of_ble_eq_true rfl) ⟨_, _, rfl⟩ rfl) ?_
            refine RA.steps 5 rfl ?_
            refine RA.call0 rfl rfl rfl (isIn_t (v := b) (lo := 0) (hi := 3) h2) ?_
            refine RA.steps 6 rfl ?_
            refine RA.call0 rfl rfl rfl (Run.ex 4000 (Nat.le_of_ble_eq_true rfl) ⟨_, _, rfl⟩ rfl) ?_
            refine RA.steps 1 rfl ?_
            exact RA.ret rfl rfl⟩
      · exact ⟨_, _, _, by
            refine ⟨Nat.le_of_ble_eq_true rfl, ⟨_, _, rfl⟩, ?_⟩
            refine RA.steps 1 rfl ?_
            refine RA.call0 rfl rfl rfl (Run.ex 4000 (Nat.le_of_ble_eq_true rfl) ⟨_, _, rfl⟩ rfl) ?_
            refine RA.steps 4 rfl ?_
            refine RA.call0 rfl rfl rfl (within_t (v := b) (lo := 0) (hi := 3) h2) ?_
            refine RA.steps 4 rfl ?_
            refine RA.call0 rfl rfl rfl (Run.ex 4000 (Nat.le_of_ble_eq_true rfl) ⟨_, _, rfl⟩ rfl) ?_
            refine RA.steps 5 rfl ?_
            refine RA.call0 rfl rfl rfl (Run.ex 4000 (Nat.le_of_ble_eq_true rfl) ⟨_, _, rfl⟩ rfl) ?_
            refine RA.steps 1 rfl ?_
            exact RA.ret rfl rfl, by
            refine ⟨Nat.le_of_ble_eq_true rfl, ⟨_, _, rfl⟩, ?_⟩
            refine RA.steps 4 rfl ?_
            refine RA.call0 rfl rfl rfl (Run.ex 4000 (Nat.le_of_ble_eq_true rfl) ⟨_, _, rfl⟩ rfl) ?_
            refine RA.steps 5 rfl ?_
            refine RA.call0 rfl rfl rfl (isIn_t (v := b) (lo := 0) (hi := 3) h2) ?_
            refine RA.steps 6 rfl ?_
            refine RA.call0 rfl rfl rfl (Run.ex 4000 (Nat.le_of_ble_eq_true rfl) ⟨_, _, rfl⟩ rfl) ?_
            refine RA.steps 1 rfl ?_
            exact RA.ret rfl rfl⟩
      · exact ⟨_, _, _, by
            refine ⟨Nat.le_of_ble_eq_true rfl, ⟨_, _, rfl⟩, ?_⟩
            refine RA.steps 1 rfl ?_
            refine RA.call0 rfl rfl rfl (Run.ex 4000 (Nat.le_of_ble_eq_true rfl) ⟨_, _, rfl⟩ rfl) ?_
            refine RA.steps 4 rfl ?_
            refine RA.call0 rfl rfl rfl (within_t (v := b) (lo := 0) (hi := 3) h2) ?_
            refine RA.steps 4 rfl ?_
            refine RA.call0 rfl rfl rfl (Run.ex 4000 (Nat.le_of_ble_eq_true rfl) ⟨_, _, rfl⟩ rfl) ?_
            refine RA.steps 5 rfl ?_
            refine RA.call0 rfl rfl rfl (Run.ex 4000 (Nat.le_of_ble_eq_true rfl) ⟨_, _, rfl⟩ rfl) ?_
            refine RA.steps 1 rfl ?_
            exact RA.ret rfl rfl, by
            refine ⟨Nat.le_of_ble_eq_true rfl, ⟨_, _, rfl⟩, ?_⟩
            refine RA.steps 4 rfl ?_
            refine RA.call0 rfl rfl rfl (Run.ex 4000 (Nat.le_of_ble_eq_true rfl) ⟨_, _, rfl⟩ rfl) ?_
            refine RA.steps 5 rfl ?_
            refine RA.call0 rfl rfl rfl (isIn_t (v := b) (lo := 0) (hi := 3) h2) ?_
            refine RA.steps 6 rfl ?_
            refine RA.call0 rfl rfl rfl (Run.ex 4000 (Nat.le_of_ble_eq_true rfl) ⟨_, _, rfl⟩ rfl) ?_
            refine RA.steps 1 rfl ?_
            exact RA.ret rfl rfl⟩
      · exact ⟨_, _, _, by
            refine ⟨Nat.le_of_ble_eq_true rfl, ⟨_, _, rfl⟩, ?_⟩
            refine RA.steps 1 rfl ?_
            refine RA.call0 rfl rfl rfl (Run.ex 4000 (Nat.le_of_ble_eq_true rfl) ⟨_, _, rfl⟩ rfl) ?_
            refine RA.steps 4 rfl ?_
            refine RA.call0 rfl rfl rfl (within_t (v := b) (lo := 0) (hi := 3) h2) ?_
            refine RA.steps 4 rfl ?_
            refine RA.call0 rfl rfl rfl (Run.ex 4000 (Nat.le_of_ble_eq_true rfl) ⟨_, _, rfl⟩ rfl) ?_
            refine RA.steps 5 rfl ?_
            refine RA.call0 rfl rfl rfl (Run.ex 4000 (Nat.le_of_ble_eq_true rfl) ⟨_, _, rfl⟩ rfl) ?_
            refine RA.steps 1 rfl ?_
            exact RA.ret rfl rfl, by
            refine ⟨Nat.le_of_ble_eq_true rfl, ⟨_, _, rfl⟩, ?_⟩
            refine RA.steps 4 rfl ?_
            refine RA.call0 rfl rfl rfl (Run.ex 4000 (Nat.le_of_ble_eq_true rfl) ⟨_, _, rfl⟩ rfl) ?_
            refine RA.steps 5 rfl ?_
            refine RA.call0 rfl rfl rfl (isIn_t (v := b) (lo := 0) (hi := 3) h2) ?_
            refine RA.steps 6 rfl ?_
            refine RA.call0 rfl rfl rfl (Run.ex 4000 (Nat.le_of_ble_eq_true rfl) ⟨_, _, rfl⟩ rfl) ?_
            refine RA.steps 1 rfl ?_
            exact RA.ret rfl rfl⟩
      · exact ⟨_, _, _, by
            refine ⟨Nat.le_of_ble_eq_true rfl, ⟨_, _, rfl⟩, ?_⟩
            refine RA.steps 1 rfl ?_
            refine RA.call0 rfl rfl rfl (Run.ex 4000 (Nat.le_of_ble_eq_true rfl) ⟨_, _, rfl⟩ rfl) ?_
            refine RA.steps 4 rfl ?_
            refine RA.call0 rfl rfl rfl (within_t (v := b) (lo := 0) (hi := 3) h2) ?_
            refine RA.steps 4 rfl ?_
            refine RA.call0 rfl rfl rfl (Run.ex 4000 (Nat.le_of_ble_eq_true rfl) ⟨_, _, rfl⟩ rfl) ?_
            refine RA.steps 5 rfl ?_
            refine RA.call0 rfl rfl rfl (Run.ex 4000 (Nat.le_of_ble_eq_true rfl) ⟨_, _, rfl⟩ rfl) ?_
            refine RA.steps 1 rfl ?_
            exact RA.ret rfl rfl, by
            refine ⟨Nat.le_of_ble_eq_true rfl, ⟨_, _, rfl⟩, ?_⟩
            refine RA.steps 4 rfl ?_
            refine RA.call0 rfl rfl rfl (Run.ex 4000 (Nat.le_of_ble_eq_true rfl) ⟨_, _, rfl⟩ rfl) ?_
            refine RA.steps 5 rfl ?_
            refine RA.call0 rfl rfl rfl (isIn_t (v := b) (lo := 0) (hi := 3) h2) ?_
            refine RA.steps 6 rfl ?_
            refine RA.call0 rfl rfl rfl (Run.ex 4000 (Nat.le_of_ble_eq_true rfl) ⟨_, _, rfl⟩ rfl) ?_
            refine RA.steps 1 rfl ?_
            exact RA.ret rfl rfl⟩
    · exact ⟨_, _, _, by
          refine ⟨Nat.le_of_ble_eq_true rfl, ⟨_, _, rfl⟩, ?_⟩
          refine RA.steps 1 rfl ?_
          refine RA.call0 rfl rfl rfl (by
            refine ⟨Nat.le_of_ble_eq_true rfl, ⟨_, _, rfl⟩, ?_⟩
            refine RA.steps 3 rfl ?_
            refine RA.call0 rfl rfl rfl (within_t (v := a) (lo := 0) (hi := 15) h1) ?_
            exact RA.ret rfl rfl) ?_
          refine RA.steps 4 rfl ?_
          refine RA.call0 rfl rfl rfl (within_f (v := b) (lo := 0) (hi := 3) h2) ?_
          refine RA.steps 2 rfl ?_
          exact RA.ret rfl rfl, by
          refine ⟨Nat.le_of_ble_eq_true rfl, ⟨_, _, rfl⟩, ?_⟩
          refine RA.steps 4 rfl ?_
          refine RA.call0 rfl rfl rfl (isIn_t (v := a) (lo := 0) (hi := 15) h1) ?_
          refine RA.steps 5 rfl ?_
          refine RA.call0 rfl rfl rfl (isIn_f (v := b) (lo := 0) (hi := 3) h2) ?_
          refine RA.steps 2 rfl ?_
          exact RA.ret rfl rfl⟩
  · exact ⟨_, _, _, by
        refine ⟨Nat.le_of_ble_eq_true rfl, ⟨_, _, rfl⟩, ?_⟩
        refine RA.steps 1 rfl ?_
        refine RA.call0 rfl rfl rfl (by
          refine ⟨Nat.le_of_ble_eq_true rfl, ⟨_, _, rfl⟩, ?_⟩
          refine RA.steps 3 rfl ?_
          refine RA.call0 rfl rfl rfl (within_f (v := a) (lo := 0) (hi := 15) h1) ?_
          exact RA.ret rfl rfl) ?_
        refine RA.steps 2 rfl ?_
        exact RA.ret rfl rfl, by
        refine ⟨Nat.le_of_ble_eq_true rfl, ⟨_, _, rfl⟩, ?_⟩
        refine RA.steps 4 rfl ?_
        refine RA.call0 rfl rfl rfl (isIn_f (v := a) (lo := 0) (hi := 15) h1) ?_
        refine RA.steps 2 rfl ?_
        exact RA.ret rfl rfl⟩
set_option maxRecDepth 100000 in
set_option maxHeartbeats 60000000 in
theorem q_carved (E : pX) (a : Int32) : ∃ (r : Int32) (h1 h2 : List pC), Run prog E pV0 40 mX7_carved [.ref 0, .int a] h0 (some (.int r), h1, 0, 0) ∧ Run prog E pV0 40 mX8_carved [.ref 110, .int a] h1 (some (.int r), h2, 0, 0) := by
  by_cases h1 : 0 ≤ a ∧ a ≤ 15
  · rcases cases_0_15 h1 with rfl | rfl | rfl | rfl | rfl | rfl | rfl | rfl | rfl | rfl | rfl | rfl | rfl | rfl | rfl | rfl
    · exact ⟨_, _, _, by
          exact Run.ex 4000 (Nat.le_of_ble_eq_true rfl) ⟨_, _, rfl⟩ rfl, by
          exact Run.ex 4000 (Nat.le_of_ble_eq_true rfl) ⟨_, _, rfl⟩ rfl⟩
    · exact ⟨_, _, _, by
          exact Run.ex 4000 (Nat.le_of_ble_eq_true rfl) ⟨_, _, rfl⟩ rfl, by
          exact Run.ex 4000 (Nat.le_of_ble_eq_true rfl) ⟨_, _, rfl⟩ rfl⟩
    · exact ⟨_, _, _, by
          exact Run.ex 4000 (Nat.le_of_ble_eq_true rfl) ⟨_, _, rfl⟩ rfl, by
          exact Run.ex 4000 (Nat.le_of_ble_eq_true rfl) ⟨_, _, rfl⟩ rfl⟩
    · exact ⟨_, _, _, by
          exact Run.ex 4000 (Nat.le_of_ble_eq_true rfl) ⟨_, _, rfl⟩ rfl, by
          exact Run.ex 4000 (Nat.le_of_ble_eq_true rfl) ⟨_, _, rfl⟩ rfl⟩
    · exact ⟨_, _, _, by
          exact Run.ex 4000 (Nat.le_of_ble_eq_true rfl) ⟨_, _, rfl⟩ rfl, by
          exact Run.ex 4000 (Nat.le_of_ble_eq_true rfl) ⟨_, _, rfl⟩ rfl⟩
    · exact ⟨_, _, _, by
          exact Run.ex 4000 (Nat.le_of_ble_eq_true rfl) ⟨_, _, rfl⟩ rfl, by
          exact Run.ex 4000 (Nat.le_of_ble_eq_true rfl) ⟨_, _, rfl⟩ rfl⟩
    · exact ⟨_, _, _, by
          exact Run.ex 4000 (Nat.le_of_ble_eq_true rfl) ⟨_, _, rfl⟩ rfl, by
          exact Run.ex 4000 (Nat.le_of_ble_eq_true rfl) ⟨_, _, rfl⟩ rfl⟩
    · exact ⟨_, _, _, by
          exact Run.ex 4000 (Nat.le_of_ble_eq_true rfl) ⟨_, _, rfl⟩ rfl, by
          exact Run.ex 4000 (Nat.le_of_ble_eq_true rfl) ⟨_, _, rfl⟩ rfl⟩
    · exact ⟨_, _, _, by
          exact Run.ex 4000 (Nat.le_of_ble_eq_true rfl) ⟨_, _, rfl⟩ rfl, by
          exact Run.ex 4000 (Nat.le_of_ble_eq_true rfl) ⟨_, _, rfl⟩ rfl⟩
    · exact ⟨_, _, _, by
          exact Run.ex 4000 (Nat.le_of_ble_eq_true rfl) ⟨_, _, rfl⟩ rfl, by
          exact Run.ex 4000 (Nat.le_of_ble_eq_true rfl) ⟨_, _, rfl⟩ rfl⟩
    · exact ⟨_, _, _, by
          exact Run.ex 4000 (Nat.le_of_ble_eq_true rfl) ⟨_, _, rfl⟩ rfl, by
          exact Run.ex 4000 (Nat.le_of_ble_eq_true rfl) ⟨_, _, rfl⟩ rfl⟩
    · exact ⟨_, _, _, by
          exact Run.ex 4000 (Nat.le_of_ble_eq_true rfl) ⟨_, _, rfl⟩ rfl, by
          exact Run.ex 4000 (Nat.le_of_ble_eq_true rfl) ⟨_, _, rfl⟩ rfl⟩
    · exact ⟨_, _, _, by
          exact Run.ex 4000 (Nat.le_of_ble_eq_true rfl) ⟨_, _, rfl⟩ rfl, by
          exact Run.ex 4000 (Nat.le_of_ble_eq_true rfl) ⟨_, _, rfl⟩ rfl⟩
    · exact ⟨_, _, _, by
          exact Run.ex 4000 (Nat.le_of_ble_eq_true rfl) ⟨_, _, rfl⟩ rfl, by
          exact Run.ex 4000 (Nat.le_of_ble_eq_true rfl) ⟨_, _, rfl⟩ rfl⟩
    · exact ⟨_, _, _, by
          exact Run.ex 4000 (Nat.le_of_ble_eq_true rfl) ⟨_, _, rfl⟩ rfl, by
          exact Run.ex 4000 (Nat.le_of_ble_eq_true rfl) ⟨_, _, rfl⟩ rfl⟩
    · exact ⟨_, _, _, by
          exact Run.ex 4000 (Nat.le_of_ble_eq_true rfl) ⟨_, _, rfl⟩ rfl, by
          exact Run.ex 4000 (Nat.le_of_ble_eq_true rfl) ⟨_, _, rfl⟩ rfl⟩
  · exact ⟨_, _, _, by
        refine ⟨Nat.le_of_ble_eq_true rfl, ⟨_, _, rfl⟩, ?_⟩
        refine RA.steps 1 rfl ?_
        refine RA.call0 rfl rfl rfl (by
          refine ⟨Nat.le_of_ble_eq_true rfl, ⟨_, _, rfl⟩, ?_⟩
          refine RA.steps 3 rfl ?_
          refine RA.call0 rfl rfl rfl (within_f (v := a) (lo := 0) (hi := 15) h1) ?_
          exact RA.ret rfl rfl) ?_
        refine RA.steps 2 rfl ?_
        exact RA.ret rfl rfl, by
        refine ⟨Nat.le_of_ble_eq_true rfl, ⟨_, _, rfl⟩, ?_⟩
        refine RA.steps 4 rfl ?_
        refine RA.call0 rfl rfl rfl (isIn_f (v := a) (lo := 0) (hi := 15) h1) ?_
        refine RA.steps 2 rfl ?_
        exact RA.ret rfl rfl⟩
set_option maxRecDepth 100000 in
set_option maxHeartbeats 60000000 in
theorem q_deal (E : pX) (a : Int32) : ∃ (r : Int32) (h1 h2 : List pC), Run prog E pV0 40 mX7_deal [.ref 0, .int a] h0 (some (.int r), h1, 0, 0) ∧ Run prog E pV0 40 mX8_deal [.ref 110, .int a] h1 (some (.int r), h2, 0, 0) := by
  by_cases h1 : 1 ≤ a ∧ a ≤ 9
  · rcases cases_1_9 h1 with rfl | rfl | rfl | rfl | rfl | rfl | rfl | rfl | rfl
    · exact ⟨_, _, _, by
          exact Run.ex 4000 (Nat.le_of_ble_eq_true rfl) ⟨_, _, rfl⟩ rfl, by
          exact Run.ex 4000 (Nat.le_of_ble_eq_true rfl) ⟨_, _, rfl⟩ rfl⟩
    · exact ⟨_, _, _, by
          exact Run.ex 4000 (Nat.le_of_ble_eq_true rfl) ⟨_, _, rfl⟩ rfl, by
          exact Run.ex 4000 (Nat.le_of_ble_eq_true rfl) ⟨_, _, rfl⟩ rfl⟩
    · exact ⟨_, _, _, by
          exact Run.ex 4000 (Nat.le_of_ble_eq_true rfl) ⟨_, _, rfl⟩ rfl, by
          exact Run.ex 4000 (Nat.le_of_ble_eq_true rfl) ⟨_, _, rfl⟩ rfl⟩
    · exact ⟨_, _, _, by
          exact Run.ex 4000 (Nat.le_of_ble_eq_true rfl) ⟨_, _, rfl⟩ rfl, by
          exact Run.ex 4000 (Nat.le_of_ble_eq_true rfl) ⟨_, _, rfl⟩ rfl⟩
    · exact ⟨_, _, _, by
          exact Run.ex 4000 (Nat.le_of_ble_eq_true rfl) ⟨_, _, rfl⟩ rfl, by
          exact Run.ex 4000 (Nat.le_of_ble_eq_true rfl) ⟨_, _, rfl⟩ rfl⟩
    · exact ⟨_, _, _, by
          exact Run.ex 4000 (Nat.le_of_ble_eq_true rfl) ⟨_, _, rfl⟩ rfl, by
          exact Run.ex 4000 (Nat.le_of_ble_eq_true rfl) ⟨_, _, rfl⟩ rfl⟩
    · exact ⟨_, _, _, by
          exact Run.ex 4000 (Nat.le_of_ble_eq_true rfl) ⟨_, _, rfl⟩ rfl, by
          exact Run.ex 4000 (Nat.le_of_ble_eq_true rfl) ⟨_, _, rfl⟩ rfl⟩
    · exact ⟨_, _, _, by
          exact Run.ex 4000 (Nat.le_of_ble_eq_true rfl) ⟨_, _, rfl⟩ rfl, by
          exact Run.ex 4000 (Nat.le_of_ble_eq_true rfl) ⟨_, _, rfl⟩ rfl⟩
    · exact ⟨_, _, _, by
          exact Run.ex 4000 (Nat.le_of_ble_eq_true rfl) ⟨_, _, rfl⟩ rfl, by
          exact Run.ex 4000 (Nat.le_of_ble_eq_true rfl) ⟨_, _, rfl⟩ rfl⟩
  · exact ⟨_, _, _, by
        refine ⟨Nat.le_of_ble_eq_true rfl, ⟨_, _, rfl⟩, ?_⟩
        refine RA.steps 3 rfl ?_
        refine RA.call0 rfl rfl rfl (within_f (v := a) (lo := 1) (hi := 9) h1) ?_
        refine RA.steps 2 rfl ?_
        exact RA.ret rfl rfl, by
        refine ⟨Nat.le_of_ble_eq_true rfl, ⟨_, _, rfl⟩, ?_⟩
        refine RA.steps 4 rfl ?_
        refine RA.call0 rfl rfl rfl (isIn_f (v := a) (lo := 1) (hi := 9) h1) ?_
        refine RA.steps 2 rfl ?_
        exact RA.ret rfl rfl⟩
set_option maxRecDepth 100000 in
set_option maxHeartbeats 60000000 in
theorem q_seed (E : pX) (a : Int32) : ∃ (r : Int32) (h1 h2 : List pC), Run prog E pV0 40 mX7_seed [.ref 0, .int a] h0 (some (.int r), h1, 0, 0) ∧ Run prog E pV0 40 mX8_seed [.ref 110, .int a] h1 (some (.int r), h2, 0, 0) := by
  exact ⟨_, _, _, by
      exact Run.ex 4000 (Nat.le_of_ble_eq_true rfl) ⟨_, _, rfl⟩ rfl, by
      exact Run.ex 4000 (Nat.le_of_ble_eq_true rfl) ⟨_, _, rfl⟩ rfl⟩
set_option maxRecDepth 100000 in
set_option maxHeartbeats 60000000 in
theorem q_falseAt (E : pX) (a b : Int32) : ∃ (r : Int32) (h1 h2 : List pC), Run prog E pV0 40 mX7_falseAt [.ref 0, .int a, .int b] h0 (some (.int r), h1, 0, 0) ∧ Run prog E pV0 40 mX8_falseAt [.ref 110, .int a, .int b] h1 (some (.int r), h2, 0, 0) := by
  exact ⟨_, _, _, by
      refine ⟨Nat.le_of_ble_eq_true rfl, ⟨_, _, rfl⟩, ?_⟩
      refine RA.steps 3 rfl ?_
      refine RA.call0 rfl rfl rfl (one_no a rfl) ?_
      refine RA.steps 4 rfl ?_
      exact RA.ret rfl rfl, by
      refine ⟨Nat.le_of_ble_eq_true rfl, ⟨_, _, rfl⟩, ?_⟩
      refine RA.steps 2 rfl ?_
      refine RA.call0 rfl rfl rfl (by
        refine ⟨Nat.le_of_ble_eq_true rfl, ⟨_, _, rfl⟩, ?_⟩
        refine RA.steps 10 rfl ?_
        refine RA.call0 rfl rfl rfl (isIn_f (v := a) (lo := 0) (hi := (-1)) (in_no (by decide))) ?_
        exact RA.ret rfl rfl) ?_
      refine RA.steps 2 rfl ?_
      exact RA.ret rfl rfl⟩
set_option maxRecDepth 100000 in
set_option maxHeartbeats 60000000 in
theorem q_fits (E : pX) (a b : Int32) : ∃ (r : Int32) (h1 h2 : List pC), Run prog E pV0 40 mX7_fits [.ref 0, .int a, .int b] h0 (some (.int r), h1, 0, 0) ∧ Run prog E pV0 40 mX8_fits [.ref 110, .int a, .int b] h1 (some (.int r), h2, 0, 0) := by
  exact ⟨_, _, _, by
      refine ⟨Nat.le_of_ble_eq_true rfl, ⟨_, _, rfl⟩, ?_⟩
      refine RA.steps 3 rfl ?_
      refine RA.call0 rfl rfl rfl (one_no a rfl) ?_
      refine RA.steps 4 rfl ?_
      exact RA.ret rfl rfl, by
      refine ⟨Nat.le_of_ble_eq_true rfl, ⟨_, _, rfl⟩, ?_⟩
      refine RA.steps 2 rfl ?_
      refine RA.call0 rfl rfl rfl (by
        refine ⟨Nat.le_of_ble_eq_true rfl, ⟨_, _, rfl⟩, ?_⟩
        refine RA.steps 10 rfl ?_
        refine RA.call0 rfl rfl rfl (isIn_f (v := a) (lo := 0) (hi := (-1)) (in_no (by decide))) ?_
        exact RA.ret rfl rfl) ?_
      refine RA.steps 2 rfl ?_
      exact RA.ret rfl rfl⟩
set_option maxRecDepth 100000 in
set_option maxHeartbeats 60000000 in
theorem q_join (E : pX) (a b c : Int32) : ∃ (r : Int32) (h1 h2 : List pC), Run prog E pV0 40 mX7_join [.ref 0, .int a, .int b, .int c] h0 (some (.int r), h1, 0, 0) ∧ Run prog E pV0 40 mX8_join [.ref 110, .int a, .int b, .int c] h1 (some (.int r), h2, 0, 0) := by
  exact ⟨_, _, _, by
      refine ⟨Nat.le_of_ble_eq_true rfl, ⟨_, _, rfl⟩, ?_⟩
      refine RA.steps 3 rfl ?_
      refine RA.call0 rfl rfl rfl (one_no a rfl) ?_
      refine RA.steps 4 rfl ?_
      refine RA.call0 rfl rfl rfl (one_no b rfl) ?_
      refine RA.steps 4 rfl ?_
      exact RA.ret rfl rfl, by
      refine ⟨Nat.le_of_ble_eq_true rfl, ⟨_, _, rfl⟩, ?_⟩
      refine RA.steps 2 rfl ?_
      refine RA.call0 rfl rfl rfl (by
        refine ⟨Nat.le_of_ble_eq_true rfl, ⟨_, _, rfl⟩, ?_⟩
        refine RA.steps 10 rfl ?_
        refine RA.call0 rfl rfl rfl (isIn_f (v := a) (lo := 0) (hi := (-1)) (in_no (by decide))) ?_
        exact RA.ret rfl rfl) ?_
      refine RA.steps 2 rfl ?_
      exact RA.ret rfl rfl⟩
set_option maxRecDepth 100000 in
set_option maxHeartbeats 60000000 in
theorem q_clash (E : pX) (a b : Int32) : ∃ (r : Int32) (h1 h2 : List pC), Run prog E pV0 40 mX7_clash [.ref 0, .int a, .int b] h0 (some (.int r), h1, 0, 0) ∧ Run prog E pV0 40 mX8_clash [.ref 110, .int a, .int b] h1 (some (.int r), h2, 0, 0) := by
  exact ⟨_, _, _, by
      refine ⟨Nat.le_of_ble_eq_true rfl, ⟨_, _, rfl⟩, ?_⟩
      refine RA.steps 3 rfl ?_
      refine RA.call0 rfl rfl rfl (one_no a rfl) ?_
      refine RA.steps 4 rfl ?_
      refine RA.call0 rfl rfl rfl (one_no b rfl) ?_
      refine RA.steps 4 rfl ?_
      exact RA.ret rfl rfl, by
      refine ⟨Nat.le_of_ble_eq_true rfl, ⟨_, _, rfl⟩, ?_⟩
      refine RA.steps 2 rfl ?_
      refine RA.call0 rfl rfl rfl (by
        refine ⟨Nat.le_of_ble_eq_true rfl, ⟨_, _, rfl⟩, ?_⟩
        refine RA.steps 10 rfl ?_
        refine RA.call0 rfl rfl rfl (isIn_f (v := a) (lo := 0) (hi := (-1)) (in_no (by decide))) ?_
        exact RA.ret rfl rfl) ?_
      refine RA.steps 2 rfl ?_
      exact RA.ret rfl rfl⟩
set_option maxRecDepth 100000 in
set_option maxHeartbeats 60000000 in
theorem q_undone (E : pX) : ∃ (r : Int32) (h1 h2 : List pC), Run prog E pV0 40 mX7_undone [.ref 0] h0 (some (.int r), h1, 0, 0) ∧ Run prog E pV0 40 mX8_undone [.ref 110] h1 (some (.int r), h2, 0, 0) := by
  exact ⟨_, _, _, by
      exact Run.ex 4000 (Nat.le_of_ble_eq_true rfl) ⟨_, _, rfl⟩ rfl, by
      exact Run.ex 4000 (Nat.le_of_ble_eq_true rfl) ⟨_, _, rfl⟩ rfl⟩
set_option maxRecDepth 100000 in
set_option maxHeartbeats 60000000 in
theorem q_borne (E : pX) : ∃ (r : Int32) (h1 h2 : List pC), Run prog E pV0 40 mX7_borne [.ref 0] h0 (some (.int r), h1, 0, 0) ∧ Run prog E pV0 40 mX8_borne [.ref 110] h1 (some (.int r), h2, 0, 0) := by
  exact ⟨_, _, _, by
      exact Run.ex 4000 (Nat.le_of_ble_eq_true rfl) ⟨_, _, rfl⟩ rfl, by
      exact Run.ex 4000 (Nat.le_of_ble_eq_true rfl) ⟨_, _, rfl⟩ rfl⟩
set_option maxRecDepth 100000 in
set_option maxHeartbeats 60000000 in
theorem q_look (E : pX) (a : Int32) : ∃ (r : Int32) (h1 h2 : List pC), Run prog E pV0 40 mX7_look [.ref 0, .int a] h0 (some (.int r), h1, 0, 0) ∧ Run prog E pV0 40 mX8_look [.ref 110, .int a] h1 (some (.int r), h2, 0, 0) := by
  by_cases h1 : 0 ≤ a ∧ a ≤ 1
  · rcases cases_0_1 h1 with rfl | rfl
    · exact ⟨_, _, _, by
          exact Run.ex 4000 (Nat.le_of_ble_eq_true rfl) ⟨_, _, rfl⟩ rfl, by
          exact Run.ex 4000 (Nat.le_of_ble_eq_true rfl) ⟨_, _, rfl⟩ rfl⟩
    · exact ⟨_, _, _, by
          exact Run.ex 4000 (Nat.le_of_ble_eq_true rfl) ⟨_, _, rfl⟩ rfl, by
          exact Run.ex 4000 (Nat.le_of_ble_eq_true rfl) ⟨_, _, rfl⟩ rfl⟩
  · exact ⟨_, _, _, by
        refine ⟨Nat.le_of_ble_eq_true rfl, ⟨_, _, rfl⟩, ?_⟩
        refine RA.steps 3 rfl ?_
        refine RA.call0 rfl rfl rfl (within_f (v := a) (lo := 0) (hi := 1) h1) ?_
        refine RA.steps 2 rfl ?_
        exact RA.ret rfl rfl, by
        refine ⟨Nat.le_of_ble_eq_true rfl, ⟨_, _, rfl⟩, ?_⟩
        refine RA.steps 4 rfl ?_
        refine RA.call0 rfl rfl rfl (isIn_f (v := a) (lo := 0) (hi := 1) h1) ?_
        refine RA.steps 2 rfl ?_
        exact RA.ret rfl rfl⟩
set_option maxRecDepth 100000 in
set_option maxHeartbeats 60000000 in
theorem q_book (E : pX) (a : Int32) : ∃ (r : Int32) (h1 h2 : List pC), Run prog E pV0 40 mX7_book [.ref 0, .int a] h0 (some (.int r), h1, 0, 0) ∧ Run prog E pV0 40 mX8_book [.ref 110, .int a] h1 (some (.int r), h2, 0, 0) := by
  by_cases h1 : a = 0
  · subst h1
    exact ⟨_, _, _, by
        exact Run.ex 4000 (Nat.le_of_ble_eq_true rfl) ⟨_, _, rfl⟩ rfl, by
        exact Run.ex 4000 (Nat.le_of_ble_eq_true rfl) ⟨_, _, rfl⟩ rfl⟩
  · by_cases h2 : a = 1
    · subst h2
      exact ⟨_, _, _, by
          exact Run.ex 4000 (Nat.le_of_ble_eq_true rfl) ⟨_, _, rfl⟩ rfl, by
          exact Run.ex 4000 (Nat.le_of_ble_eq_true rfl) ⟨_, _, rfl⟩ rfl⟩
    · by_cases h3 : a = 2
      · subst h3
        exact ⟨_, _, _, by
            exact Run.ex 4000 (Nat.le_of_ble_eq_true rfl) ⟨_, _, rfl⟩ rfl, by
            exact Run.ex 4000 (Nat.le_of_ble_eq_true rfl) ⟨_, _, rfl⟩ rfl⟩
      · by_cases h4 : a = 3
        · subst h4
          exact ⟨_, _, _, by
              exact Run.ex 4000 (Nat.le_of_ble_eq_true rfl) ⟨_, _, rfl⟩ rfl, by
              exact Run.ex 4000 (Nat.le_of_ble_eq_true rfl) ⟨_, _, rfl⟩ rfl⟩
        · exact ⟨_, _, _, by
              refine ⟨Nat.le_of_ble_eq_true rfl, ⟨_, _, rfl⟩, ?_⟩
              refine RA.steps 1 rfl ?_
              refine RA.sw rfl rfl rfl rfl (show psw _ [(0, 2), (1, 6), (2, 10), (3, 14)] 18 = 18 from ((psw_ne (lv_neT h1 (by decide))).trans ((psw_ne (lv_neT h2 (by decide))).trans ((psw_ne (lv_neT h3 (by decide))).trans ((psw_ne (lv_neT h4 (by decide))).trans rfl))))) ?_
              refine RA.steps 1 rfl ?_
              exact RA.ret rfl rfl, by
              refine ⟨Nat.le_of_ble_eq_true rfl, ⟨_, _, rfl⟩, ?_⟩
              refine RA.steps 1 rfl ?_
              refine RA.sw rfl rfl rfl rfl (show psw _ [(0, 2), (1, 7), (2, 10), (3, 13)] 22 = 22 from ((psw_ne (lv_neT h1 (by decide))).trans ((psw_ne (lv_neT h2 (by decide))).trans ((psw_ne (lv_neT h3 (by decide))).trans ((psw_ne (lv_neT h4 (by decide))).trans rfl))))) ?_
              refine RA.steps 1 rfl ?_
              exact RA.ret rfl rfl⟩
set_option maxRecDepth 100000 in
set_option maxHeartbeats 60000000 in
theorem q_lasts (E : pX) : ∃ (r : Int32) (h1 h2 : List pC), Run prog E pV0 40 mX7_lasts [.ref 0] h0 (some (.int r), h1, 0, 0) ∧ Run prog E pV0 40 mX8_lasts [.ref 110] h1 (some (.int r), h2, 0, 0) := by
  exact ⟨_, _, _, by
      exact Run.ex 4000 (Nat.le_of_ble_eq_true rfl) ⟨_, _, rfl⟩ rfl, by
      exact Run.ex 4000 (Nat.le_of_ble_eq_true rfl) ⟨_, _, rfl⟩ rfl⟩
set_option maxRecDepth 100000 in
set_option maxHeartbeats 60000000 in
theorem q_best (E : pX) (a b c : Int32) : ∃ (r : Int32) (h1 h2 : List pC), Run prog E pV0 40 mX7_best [.ref 0, .int a, .int b, .int c] h0 (some (.int r), h1, 0, 0) ∧ Run prog E pV0 40 mX8_best [.ref 110, .int a, .int b, .int c] h1 (some (.int r), h2, 0, 0) := by
  exact ⟨_, _, _, by
      refine ⟨Nat.le_of_ble_eq_true rfl, ⟨_, _, rfl⟩, ?_⟩
      refine RA.steps 3 rfl ?_
      refine RA.call0 rfl rfl rfl (one_no a rfl) ?_
      refine RA.steps 2 rfl ?_
      exact RA.ret rfl rfl, by
      refine ⟨Nat.le_of_ble_eq_true rfl, ⟨_, _, rfl⟩, ?_⟩
      refine RA.steps 2 rfl ?_
      refine RA.call0 rfl rfl rfl (by
        refine ⟨Nat.le_of_ble_eq_true rfl, ⟨_, _, rfl⟩, ?_⟩
        refine RA.steps 10 rfl ?_
        refine RA.call0 rfl rfl rfl (isIn_f (v := a) (lo := 0) (hi := (-1)) (in_no (by decide))) ?_
        exact RA.ret rfl rfl) ?_
      refine RA.steps 2 rfl ?_
      exact RA.ret rfl rfl⟩
set_option maxRecDepth 100000 in
set_option maxHeartbeats 60000000 in
theorem q_whose (E : pX) (a b : Int32) : ∃ (r : Int32) (h1 h2 : List pC), Run prog E pV0 40 mX7_whose [.ref 0, .int a, .int b] h0 (some (.int r), h1, 0, 0) ∧ Run prog E pV0 40 mX8_whose [.ref 110, .int a, .int b] h1 (some (.int r), h2, 0, 0) := by
  by_cases h1 : a < 0
  · exact ⟨_, _, _, by
        refine ⟨Nat.le_of_ble_eq_true rfl, ⟨_, _, rfl⟩, ?_⟩
        refine RA.steps 2 rfl ?_
        refine RA.call0 rfl rfl rfl (by
          refine ⟨Nat.le_of_ble_eq_true rfl, ⟨_, _, rfl⟩, ?_⟩
          refine RA.steps 1 rfl ?_
          refine RA.if1T rfl (decide_eq_true h1) ?_
          refine RA.steps 1 rfl ?_
          exact RA.ret rfl rfl) ?_
        refine RA.steps 4 rfl ?_
        exact RA.ret rfl rfl, by
        refine ⟨Nat.le_of_ble_eq_true rfl, ⟨_, _, rfl⟩, ?_⟩
        refine RA.steps 1 rfl ?_
        refine RA.call0 rfl rfl rfl (by
          refine ⟨Nat.le_of_ble_eq_true rfl, ⟨_, _, rfl⟩, ?_⟩
          refine RA.steps 4 rfl ?_
          refine RA.call0 rfl rfl rfl (isIn_f (v := a) (lo := 0) (hi := 3) (fun q => absurd h1 (Int32.not_lt.mpr q.1))) ?_
          exact RA.ret rfl rfl) ?_
        refine RA.steps 2 rfl ?_
        exact RA.ret rfl rfl⟩
  · by_cases h2 : a < 4
    · rcases cases_0_3 (in_lt_4 h1 h2) with rfl | rfl | rfl | rfl
      · by_cases h3 : 0 ≤ b ∧ b ≤ 1
        · exact ⟨_, _, _, by
              refine ⟨Nat.le_of_ble_eq_true rfl, ⟨_, _, rfl⟩, ?_⟩
              refine RA.steps 2 rfl ?_
              refine RA.call0 rfl rfl rfl (Run.ex 4000 (Nat.le_of_ble_eq_true rfl) ⟨_, _, rfl⟩ rfl) ?_
              refine RA.steps 6 rfl ?_
              refine RA.call0 rfl rfl rfl (within_t (v := b) (lo := 0) (hi := 1) h3) ?_
              refine RA.steps 2 rfl ?_
              refine RA.call0 rfl rfl rfl (Run.ex 4000 (Nat.le_of_ble_eq_true rfl) ⟨_, _, rfl⟩ rfl) ?_
              refine RA.steps 2 rfl ?_
              exact RA.ret rfl rfl, by
              refine ⟨Nat.le_of_ble_eq_true rfl, ⟨_, _, rfl⟩, ?_⟩
              refine RA.steps 1 rfl ?_
              refine RA.call0 rfl rfl rfl (Run.ex 4000 (Nat.le_of_ble_eq_true rfl) ⟨_, _, rfl⟩ rfl) ?_
              refine RA.steps 5 rfl ?_
              refine RA.call0 rfl rfl rfl (isIn_t (v := b) (lo := 0) (hi := 1) h3) ?_
              refine RA.steps 7 rfl ?_
              exact RA.ret rfl rfl⟩
        · exact ⟨_, _, _, by
              refine ⟨Nat.le_of_ble_eq_true rfl, ⟨_, _, rfl⟩, ?_⟩
              refine RA.steps 2 rfl ?_
              refine RA.call0 rfl rfl rfl (Run.ex 4000 (Nat.le_of_ble_eq_true rfl) ⟨_, _, rfl⟩ rfl) ?_
              refine RA.steps 6 rfl ?_
              refine RA.call0 rfl rfl rfl (within_f (v := b) (lo := 0) (hi := 1) h3) ?_
              refine RA.steps 2 rfl ?_
              exact RA.ret rfl rfl, by
              refine ⟨Nat.le_of_ble_eq_true rfl, ⟨_, _, rfl⟩, ?_⟩
              refine RA.steps 1 rfl ?_
              refine RA.call0 rfl rfl rfl (Run.ex 4000 (Nat.le_of_ble_eq_true rfl) ⟨_, _, rfl⟩ rfl) ?_
              refine RA.steps 5 rfl ?_
              refine RA.call0 rfl rfl rfl (isIn_f (v := b) (lo := 0) (hi := 1) h3) ?_
              refine RA.steps 2 rfl ?_
              exact RA.ret rfl rfl⟩
      · by_cases h4 : 0 ≤ b ∧ b ≤ 1
        · exact ⟨_, _, _, by
              refine ⟨Nat.le_of_ble_eq_true rfl, ⟨_, _, rfl⟩, ?_⟩
              refine RA.steps 2 rfl ?_
              refine RA.call0 rfl rfl rfl (Run.ex 4000 (Nat.le_of_ble_eq_true rfl) ⟨_, _, rfl⟩ rfl) ?_
              refine RA.steps 6 rfl ?_
              refine RA.call0 rfl rfl rfl (within_t (v := b) (lo := 0) (hi := 1) h4) ?_
              refine RA.steps 2 rfl ?_
              refine RA.call0 rfl rfl rfl (Run.ex 4000 (Nat.le_of_ble_eq_true rfl) ⟨_, _, rfl⟩ rfl) ?_
              refine RA.steps 2 rfl ?_
              exact RA.ret rfl rfl, by
              refine ⟨Nat.le_of_ble_eq_true rfl, ⟨_, _, rfl⟩, ?_⟩
              refine RA.steps 1 rfl ?_
              refine RA.call0 rfl rfl rfl (Run.ex 4000 (Nat.le_of_ble_eq_true rfl) ⟨_, _, rfl⟩ rfl) ?_
              refine RA.steps 5 rfl ?_
              refine RA.call0 rfl rfl rfl (isIn_t (v := b) (lo := 0) (hi := 1) h4) ?_
              refine RA.steps 7 rfl ?_
              exact RA.ret rfl rfl⟩
        · exact ⟨_, _, _, by
              refine ⟨Nat.le_of_ble_eq_true rfl, ⟨_, _, rfl⟩, ?_⟩
              refine RA.steps 2 rfl ?_
              refine RA.call0 rfl rfl rfl (Run.ex 4000 (Nat.le_of_ble_eq_true rfl) ⟨_, _, rfl⟩ rfl) ?_
              refine RA.steps 6 rfl ?_
              refine RA.call0 rfl rfl rfl (within_f (v := b) (lo := 0) (hi := 1) h4) ?_
              refine RA.steps 2 rfl ?_
              exact RA.ret rfl rfl, by
              refine ⟨Nat.le_of_ble_eq_true rfl, ⟨_, _, rfl⟩, ?_⟩
              refine RA.steps 1 rfl ?_
              refine RA.call0 rfl rfl rfl (Run.ex 4000 (Nat.le_of_ble_eq_true rfl) ⟨_, _, rfl⟩ rfl) ?_
              refine RA.steps 5 rfl ?_
              refine RA.call0 rfl rfl rfl (isIn_f (v := b) (lo := 0) (hi := 1) h4) ?_
              refine RA.steps 2 rfl ?_
              exact RA.ret rfl rfl⟩
      · by_cases h5 : 0 ≤ b ∧ b ≤ 1
        · exact ⟨_, _, _, by
              refine ⟨Nat.le_of_ble_eq_true rfl, ⟨_, _, rfl⟩, ?_⟩
              refine RA.steps 2 rfl ?_
              refine RA.call0 rfl rfl rfl (Run.ex 4000 (Nat.le_of_ble_eq_true rfl) ⟨_, _, rfl⟩ rfl) ?_
              refine RA.steps 6 rfl ?_
              refine RA.call0 rfl rfl rfl (within_t (v := b) (lo := 0) (hi := 1) h5) ?_
              refine RA.steps 2 rfl ?_
              refine RA.call0 rfl rfl rfl (Run.ex 4000 (Nat.le_of_ble_eq_true rfl) ⟨_, _, rfl⟩ rfl) ?_
              refine RA.steps 2 rfl ?_
              exact RA.ret rfl rfl, by
              refine ⟨Nat.le_of_ble_eq_true rfl, ⟨_, _, rfl⟩, ?_⟩
              refine RA.steps 1 rfl ?_
              refine RA.call0 rfl rfl rfl (Run.ex 4000 (Nat.le_of_ble_eq_true rfl) ⟨_, _, rfl⟩ rfl) ?_
              refine RA.steps 5 rfl ?_
              refine RA.call0 rfl rfl rfl (isIn_t (v := b) (lo := 0) (hi := 1) h5) ?_
              refine RA.steps 7 rfl ?_
              exact RA.ret rfl rfl⟩
        · exact ⟨_, _, _, by
              refine ⟨Nat.le_of_ble_eq_true rfl, ⟨_, _, rfl⟩, ?_⟩
              refine RA.steps 2 rfl ?_
              refine RA.call0 rfl rfl rfl (Run.ex 4000 (Nat.le_of_ble_eq_true rfl) ⟨_, _, rfl⟩ rfl) ?_
              refine RA.steps 6 rfl ?_
              refine RA.call0 rfl rfl rfl (within_f (v := b) (lo := 0) (hi := 1) h5) ?_
              refine RA.steps 2 rfl ?_
              exact RA.ret rfl rfl, by
              refine ⟨Nat.le_of_ble_eq_true rfl, ⟨_, _, rfl⟩, ?_⟩
              refine RA.steps 1 rfl ?_
              refine RA.call0 rfl rfl rfl (Run.ex 4000 (Nat.le_of_ble_eq_true rfl) ⟨_, _, rfl⟩ rfl) ?_
              refine RA.steps 5 rfl ?_
              refine RA.call0 rfl rfl rfl (isIn_f (v := b) (lo := 0) (hi := 1) h5) ?_
              refine RA.steps 2 rfl ?_
              exact RA.ret rfl rfl⟩
      · by_cases h6 : 0 ≤ b ∧ b ≤ 1
        · exact ⟨_, _, _, by
              refine ⟨Nat.le_of_ble_eq_true rfl, ⟨_, _, rfl⟩, ?_⟩
              refine RA.steps 2 rfl ?_
              refine RA.call0 rfl rfl rfl (Run.ex 4000 (Nat.le_of_ble_eq_true rfl) ⟨_, _, rfl⟩ rfl) ?_
              refine RA.steps 6 rfl ?_
              refine RA.call0 rfl rfl rfl (within_t (v := b) (lo := 0) (hi := 1) h6) ?_
              refine RA.steps 2 rfl ?_
              refine RA.call0 rfl rfl rfl (Run.ex 4000 (Nat.le_of_ble_eq_true rfl) ⟨_, _, rfl⟩ rfl) ?_
              refine RA.steps 2 rfl ?_
              exact RA.ret rfl rfl, by
              refine ⟨Nat.le_of_ble_eq_true rfl, ⟨_, _, rfl⟩, ?_⟩
              refine RA.steps 1 rfl ?_
              refine RA.call0 rfl rfl rfl (Run.ex 4000 (Nat.le_of_ble_eq_true rfl) ⟨_, _, rfl⟩ rfl) ?_
              refine RA.steps 5 rfl ?_
              refine RA.call0 rfl rfl rfl (isIn_t (v := b) (lo := 0) (hi := 1) h6) ?_
              refine RA.steps 7 rfl ?_
              exact RA.ret rfl rfl⟩
        · exact ⟨_, _, _, by
              refine ⟨Nat.le_of_ble_eq_true rfl, ⟨_, _, rfl⟩, ?_⟩
              refine RA.steps 2 rfl ?_
              refine RA.call0 rfl rfl rfl (Run.ex 4000 (Nat.le_of_ble_eq_true rfl) ⟨_, _, rfl⟩ rfl) ?_
              refine RA.steps 6 rfl ?_
              refine RA.call0 rfl rfl rfl (within_f (v := b) (lo := 0) (hi := 1) h6) ?_
              refine RA.steps 2 rfl ?_
              exact RA.ret rfl rfl, by
              refine ⟨Nat.le_of_ble_eq_true rfl, ⟨_, _, rfl⟩, ?_⟩
              refine RA.steps 1 rfl ?_
              refine RA.call0 rfl rfl rfl (Run.ex 4000 (Nat.le_of_ble_eq_true rfl) ⟨_, _, rfl⟩ rfl) ?_
              refine RA.steps 5 rfl ?_
              refine RA.call0 rfl rfl rfl (isIn_f (v := b) (lo := 0) (hi := 1) h6) ?_
              refine RA.steps 2 rfl ?_
              exact RA.ret rfl rfl⟩
    · exact ⟨_, _, _, by
          refine ⟨Nat.le_of_ble_eq_true rfl, ⟨_, _, rfl⟩, ?_⟩
          refine RA.steps 2 rfl ?_
          refine RA.call0 rfl rfl rfl (by
            refine ⟨Nat.le_of_ble_eq_true rfl, ⟨_, _, rfl⟩, ?_⟩
            refine RA.steps 1 rfl ?_
            refine RA.if1F rfl (decide_eq_false h1) ?_
            refine RA.steps 4 rfl ?_
            refine RA.if2T rfl (decide_eq_true (Int32.not_lt.mp h2)) ?_
            refine RA.steps 1 rfl ?_
            exact RA.ret rfl rfl) ?_
          refine RA.steps 4 rfl ?_
          exact RA.ret rfl rfl, by
          refine ⟨Nat.le_of_ble_eq_true rfl, ⟨_, _, rfl⟩, ?_⟩
          refine RA.steps 1 rfl ?_
          refine RA.call0 rfl rfl rfl (by
            refine ⟨Nat.le_of_ble_eq_true rfl, ⟨_, _, rfl⟩, ?_⟩
            refine RA.steps 4 rfl ?_
            refine RA.call0 rfl rfl rfl (isIn_f (v := a) (lo := 0) (hi := 3) (fun q => h2 (le_lt_4 q.2))) ?_
            exact RA.ret rfl rfl) ?_
          refine RA.steps 2 rfl ?_
          exact RA.ret rfl rfl⟩
set_option maxRecDepth 100000 in
set_option maxHeartbeats 60000000 in
theorem q_fee (E : pX) : ∃ (r : Int32) (h1 h2 : List pC), Run prog E pV0 40 mX7_fee [.ref 0] h0 (some (.int r), h1, 0, 0) ∧ Run prog E pV0 40 mX8_fee [.ref 110] h1 (some (.int r), h2, 0, 0) := by
  exact ⟨_, _, _, by
      exact Run.ex 4000 (Nat.le_of_ble_eq_true rfl) ⟨_, _, rfl⟩ rfl, by
      exact Run.ex 4000 (Nat.le_of_ble_eq_true rfl) ⟨_, _, rfl⟩ rfl⟩
set_option maxRecDepth 100000 in
set_option maxHeartbeats 60000000 in
theorem q_fine (E : pX) (a : Int32) : ∃ (r : Int32) (h1 h2 : List pC), Run prog E pV0 40 mX7_fine [.ref 0, .int a] h0 (some (.int r), h1, 0, 0) ∧ Run prog E pV0 40 mX8_fine [.ref 110, .int a] h1 (some (.int r), h2, 0, 0) := by
  exact ⟨_, _, _, by
      refine ⟨Nat.le_of_ble_eq_true rfl, ⟨_, _, rfl⟩, ?_⟩
      refine RA.steps 3 rfl ?_
      refine RA.call0 rfl rfl rfl (one_no a rfl) ?_
      refine RA.steps 5 rfl ?_
      exact RA.ret rfl rfl, by
      refine ⟨Nat.le_of_ble_eq_true rfl, ⟨_, _, rfl⟩, ?_⟩
      refine RA.steps 2 rfl ?_
      refine RA.call0 rfl rfl rfl (by
        refine ⟨Nat.le_of_ble_eq_true rfl, ⟨_, _, rfl⟩, ?_⟩
        refine RA.steps 10 rfl ?_
        refine RA.call0 rfl rfl rfl (isIn_f (v := a) (lo := 0) (hi := (-1)) (in_no (by decide))) ?_
        exact RA.ret rfl rfl) ?_
      refine RA.steps 2 rfl ?_
      exact RA.ret rfl rfl⟩
set_option maxRecDepth 100000 in
set_option maxHeartbeats 60000000 in
theorem q_trim (E : pX) (a : Int32) : ∃ (r : Int32) (h1 h2 : List pC), Run prog E pV0 40 mX7_trim [.ref 0, .int a] h0 (some (.int r), h1, 0, 0) ∧ Run prog E pV0 40 mX8_trim [.ref 110, .int a] h1 (some (.int r), h2, 0, 0) := by
  by_cases h1 : 0 ≤ a ∧ a ≤ 0
  · exact ⟨_, _, _, by
        refine ⟨Nat.le_of_ble_eq_true rfl, ⟨_, _, rfl⟩, ?_⟩
        refine RA.steps 5 rfl ?_
        refine RA.call0 rfl rfl rfl (within_t (v := a) (lo := 0) (hi := 0) h1) ?_
        refine RA.steps 6 rfl ?_
        exact RA.ret rfl rfl, by
        refine ⟨Nat.le_of_ble_eq_true rfl, ⟨_, _, rfl⟩, ?_⟩
        refine RA.steps 6 rfl ?_
        refine RA.call0 rfl rfl rfl (isIn_t (v := a) (lo := 0) (hi := 0) h1) ?_
        refine RA.steps 5 rfl ?_
        exact RA.ret rfl rfl⟩
  · exact ⟨_, _, _, by
        refine ⟨Nat.le_of_ble_eq_true rfl, ⟨_, _, rfl⟩, ?_⟩
        refine RA.steps 5 rfl ?_
        refine RA.call0 rfl rfl rfl (within_f (v := a) (lo := 0) (hi := 0) h1) ?_
        refine RA.steps 2 rfl ?_
        exact RA.ret rfl rfl, by
        refine ⟨Nat.le_of_ble_eq_true rfl, ⟨_, _, rfl⟩, ?_⟩
        refine RA.steps 6 rfl ?_
        refine RA.call0 rfl rfl rfl (isIn_f (v := a) (lo := 0) (hi := 0) h1) ?_
        refine RA.steps 2 rfl ?_
        exact RA.ret rfl rfl⟩
set_option maxRecDepth 100000 in
set_option maxHeartbeats 60000000 in
theorem q_text (E : pX) : ∃ (r : Int32) (h1 h2 : List pC), Run prog E pV0 40 mX7_text [.ref 0] h0 (some (.int r), h1, 0, 0) ∧ Run prog E pV0 40 mX8_text [.ref 110] h1 (some (.int r), h2, 0, 0) := by
  exact ⟨_, _, _, by
      refine ⟨Nat.le_of_ble_eq_true rfl, ⟨_, _, rfl⟩, ?_⟩
      refine RA.steps 5 rfl ?_
      refine RA.call0 rfl rfl rfl (by
        refine ⟨Nat.le_of_ble_eq_true rfl, ⟨_, _, rfl⟩, ?_⟩
        refine RA.steps 7 rfl ?_
        refine RA.call0 rfl rfl rfl (Run.ex 4000 (Nat.le_of_ble_eq_true rfl) ⟨_, _, rfl⟩ rfl) ?_
        refine RA.steps 1 rfl ?_
        refine RA.prim rfl rfl rfl rfl (by decide) rfl ?_
        refine RA.steps 5 rfl ?_
        exact RA.ret rfl rfl) ?_
      refine RA.steps 10 rfl ?_
      exact RA.ret rfl rfl, by
      exact Run.ex 4000 (Nat.le_of_ble_eq_true rfl) ⟨_, _, rfl⟩ rfl⟩
set_option maxRecDepth 100000 in
set_option maxHeartbeats 60000000 in
theorem q_textTold (E : pX) (a b : Int32) : ∃ (r : Int32) (h1 h2 : List pC), Run prog E pV0 40 mX7_textTold [.ref 0, .int a, .int b] h0 (some (.int r), h1, 0, 0) ∧ Run prog E pV0 40 mX8_textTold [.ref 110, .int a, .int b] h1 (some (.int r), h2, 0, 0) := by
  by_cases h1 : a < 0
  · exact ⟨_, _, _, by
        refine ⟨Nat.le_of_ble_eq_true rfl, ⟨_, _, rfl⟩, ?_⟩
        refine RA.steps 3 rfl ?_
        refine RA.call0 rfl rfl rfl (by
          refine ⟨Nat.le_of_ble_eq_true rfl, ⟨_, _, rfl⟩, ?_⟩
          refine RA.steps 3 rfl ?_
          refine RA.if2F rfl (decide_eq_false (Int32.not_le.mpr h1)) ?_
          refine RA.steps 3 rfl ?_
          refine RA.call0 rfl rfl rfl (by
            refine ⟨Nat.le_of_ble_eq_true rfl, ⟨_, _, rfl⟩, ?_⟩
            refine RA.steps 1 rfl ?_
            refine RA.if1T rfl (decide_eq_true h1) ?_
            refine RA.steps 1 rfl ?_
            exact RA.ret rfl rfl) ?_
          refine RA.steps 1 rfl ?_
          exact RA.ret rfl rfl) ?_
        refine RA.steps 4 rfl ?_
        exact RA.ret rfl rfl, by
        refine ⟨Nat.le_of_ble_eq_true rfl, ⟨_, _, rfl⟩, ?_⟩
        refine RA.steps 2 rfl ?_
        refine RA.call0 rfl rfl rfl (by
          refine ⟨Nat.le_of_ble_eq_true rfl, ⟨_, _, rfl⟩, ?_⟩
          refine RA.steps 10 rfl ?_
          refine RA.call0 rfl rfl rfl (isIn_f (v := a) (lo := 0) (hi := (-1)) (in_no (by decide))) ?_
          exact RA.ret rfl rfl) ?_
        refine RA.steps 2 rfl ?_
        exact RA.ret rfl rfl⟩
  · exact ⟨_, _, _, by
        refine ⟨Nat.le_of_ble_eq_true rfl, ⟨_, _, rfl⟩, ?_⟩
        refine RA.steps 3 rfl ?_
        refine RA.call0 rfl rfl rfl (by
          refine ⟨Nat.le_of_ble_eq_true rfl, ⟨_, _, rfl⟩, ?_⟩
          refine RA.steps 3 rfl ?_
          refine RA.if2T rfl (decide_eq_true (Int32.not_lt.mp h1)) ?_
          refine RA.steps 1 rfl ?_
          exact RA.ret rfl rfl) ?_
        refine RA.steps 4 rfl ?_
        exact RA.ret rfl rfl, by
        refine ⟨Nat.le_of_ble_eq_true rfl, ⟨_, _, rfl⟩, ?_⟩
        refine RA.steps 2 rfl ?_
        refine RA.call0 rfl rfl rfl (by
          refine ⟨Nat.le_of_ble_eq_true rfl, ⟨_, _, rfl⟩, ?_⟩
          refine RA.steps 10 rfl ?_
          refine RA.call0 rfl rfl rfl (isIn_f (v := a) (lo := 0) (hi := (-1)) (in_no (by decide))) ?_
          exact RA.ret rfl rfl) ?_
        refine RA.steps 2 rfl ?_
        exact RA.ret rfl rfl⟩
set_option maxRecDepth 100000 in
set_option maxHeartbeats 60000000 in
theorem q_why (E : pX) (a : Int32) : ∃ (r : Int32) (h1 h2 : List pC), Run prog E pV0 40 mX7_why [.ref 0, .int a] h0 (some (.int r), h1, 0, 0) ∧ Run prog E pV0 40 mX8_why [.ref 110, .int a] h1 (some (.int r), h2, 0, 0) := by
  by_cases h1 : 0 ≤ a ∧ a ≤ 2
  · rcases cases_0_2 h1 with rfl | rfl | rfl
    · exact ⟨_, _, _, by
          exact Run.ex 4000 (Nat.le_of_ble_eq_true rfl) ⟨_, _, rfl⟩ rfl, by
          exact Run.ex 4000 (Nat.le_of_ble_eq_true rfl) ⟨_, _, rfl⟩ rfl⟩
    · exact ⟨_, _, _, by
          exact Run.ex 4000 (Nat.le_of_ble_eq_true rfl) ⟨_, _, rfl⟩ rfl, by
          exact Run.ex 4000 (Nat.le_of_ble_eq_true rfl) ⟨_, _, rfl⟩ rfl⟩
    · exact ⟨_, _, _, by
          exact Run.ex 4000 (Nat.le_of_ble_eq_true rfl) ⟨_, _, rfl⟩ rfl, by
          exact Run.ex 4000 (Nat.le_of_ble_eq_true rfl) ⟨_, _, rfl⟩ rfl⟩
  · exact ⟨_, _, _, by
        refine ⟨Nat.le_of_ble_eq_true rfl, ⟨_, _, rfl⟩, ?_⟩
        refine RA.steps 3 rfl ?_
        refine RA.call0 rfl rfl rfl (within_f (v := a) (lo := 0) (hi := 2) h1) ?_
        refine RA.steps 2 rfl ?_
        exact RA.ret rfl rfl, by
        refine ⟨Nat.le_of_ble_eq_true rfl, ⟨_, _, rfl⟩, ?_⟩
        refine RA.steps 4 rfl ?_
        refine RA.call0 rfl rfl rfl (isIn_f (v := a) (lo := 0) (hi := 2) h1) ?_
        refine RA.steps 2 rfl ?_
        exact RA.ret rfl rfl⟩
set_option maxRecDepth 100000 in
set_option maxHeartbeats 60000000 in
theorem q_mark (E : pX) (a b c : Int32) : ∃ (r : Int32) (h1 h2 : List pC), Run prog E pV0 40 mX7_mark [.ref 0, .int a, .int b, .int c] h0 (some (.int r), h1, 0, 0) ∧ Run prog E pV0 40 mX8_mark [.ref 110, .int a, .int b, .int c] h1 (some (.int r), h2, 0, 0) := by
  by_cases h1 : a < 0
  · exact ⟨_, _, _, by
        refine ⟨Nat.le_of_ble_eq_true rfl, ⟨_, _, rfl⟩, ?_⟩
        refine RA.steps 2 rfl ?_
        refine RA.call0 rfl rfl rfl (by
          refine ⟨Nat.le_of_ble_eq_true rfl, ⟨_, _, rfl⟩, ?_⟩
          refine RA.steps 1 rfl ?_
          refine RA.if1T rfl (decide_eq_true h1) ?_
          refine RA.steps 1 rfl ?_
          exact RA.ret rfl rfl) ?_
        refine RA.steps 4 rfl ?_
        exact RA.ret rfl rfl, by
        refine ⟨Nat.le_of_ble_eq_true rfl, ⟨_, _, rfl⟩, ?_⟩
        refine RA.steps 1 rfl ?_
        refine RA.call0 rfl rfl rfl (by
          refine ⟨Nat.le_of_ble_eq_true rfl, ⟨_, _, rfl⟩, ?_⟩
          refine RA.steps 4 rfl ?_
          refine RA.call0 rfl rfl rfl (isIn_f (v := a) (lo := 0) (hi := 3) (fun q => absurd h1 (Int32.not_lt.mpr q.1))) ?_
          exact RA.ret rfl rfl) ?_
        refine RA.steps 2 rfl ?_
        exact RA.ret rfl rfl⟩
  · by_cases h2 : a < 4
    · rcases cases_0_3 (in_lt_4 h1 h2) with rfl | rfl | rfl | rfl
      · exact ⟨_, _, _, by
            exact Run.ex 4000 (Nat.le_of_ble_eq_true rfl) ⟨_, _, rfl⟩ rfl, by
            exact Run.ex 4000 (Nat.le_of_ble_eq_true rfl) ⟨_, _, rfl⟩ rfl⟩
      · exact ⟨_, _, _, by
            exact Run.ex 4000 (Nat.le_of_ble_eq_true rfl) ⟨_, _, rfl⟩ rfl, by
            exact Run.ex 4000 (Nat.le_of_ble_eq_true rfl) ⟨_, _, rfl⟩ rfl⟩
      · exact ⟨_, _, _, by
            exact Run.ex 4000 (Nat.le_of_ble_eq_true rfl) ⟨_, _, rfl⟩ rfl, by
            exact Run.ex 4000 (Nat.le_of_ble_eq_true rfl) ⟨_, _, rfl⟩ rfl⟩
      · exact ⟨_, _, _, by
            exact Run.ex 4000 (Nat.le_of_ble_eq_true rfl) ⟨_, _, rfl⟩ rfl, by
            exact Run.ex 4000 (Nat.le_of_ble_eq_true rfl) ⟨_, _, rfl⟩ rfl⟩
    · exact ⟨_, _, _, by
          refine ⟨Nat.le_of_ble_eq_true rfl, ⟨_, _, rfl⟩, ?_⟩
          refine RA.steps 2 rfl ?_
          refine RA.call0 rfl rfl rfl (by
            refine ⟨Nat.le_of_ble_eq_true rfl, ⟨_, _, rfl⟩, ?_⟩
            refine RA.steps 1 rfl ?_
            refine RA.if1F rfl (decide_eq_false h1) ?_
            refine RA.steps 4 rfl ?_
            refine RA.if2T rfl (decide_eq_true (Int32.not_lt.mp h2)) ?_
            refine RA.steps 1 rfl ?_
            exact RA.ret rfl rfl) ?_
          refine RA.steps 4 rfl ?_
          exact RA.ret rfl rfl, by
          refine ⟨Nat.le_of_ble_eq_true rfl, ⟨_, _, rfl⟩, ?_⟩
          refine RA.steps 1 rfl ?_
          refine RA.call0 rfl rfl rfl (by
            refine ⟨Nat.le_of_ble_eq_true rfl, ⟨_, _, rfl⟩, ?_⟩
            refine RA.steps 4 rfl ?_
            refine RA.call0 rfl rfl rfl (isIn_f (v := a) (lo := 0) (hi := 3) (fun q => h2 (le_lt_4 q.2))) ?_
            exact RA.ret rfl rfl) ?_
          refine RA.steps 2 rfl ?_
          exact RA.ret rfl rfl⟩
set_option maxRecDepth 100000 in
set_option maxHeartbeats 60000000 in
theorem q_pour (E : pX) (a : Int32) : ∃ (r : Int32) (h1 h2 : List pC), Run prog E pV0 40 mX7_pour [.ref 0, .int a] h0 (some (.int r), h1, 0, 0) ∧ Run prog E pV0 40 mX8_pour [.ref 110, .int a] h1 (some (.int r), h2, 0, 0) := by
  by_cases h1 : a < 0
  · exact ⟨_, _, _, by
        refine ⟨Nat.le_of_ble_eq_true rfl, ⟨_, _, rfl⟩, ?_⟩
        refine RA.steps 2 rfl ?_
        refine RA.call0 rfl rfl rfl (by
          refine ⟨Nat.le_of_ble_eq_true rfl, ⟨_, _, rfl⟩, ?_⟩
          refine RA.steps 1 rfl ?_
          refine RA.if1T rfl (decide_eq_true h1) ?_
          refine RA.steps 1 rfl ?_
          exact RA.ret rfl rfl) ?_
        refine RA.steps 4 rfl ?_
        exact RA.ret rfl rfl, by
        refine ⟨Nat.le_of_ble_eq_true rfl, ⟨_, _, rfl⟩, ?_⟩
        refine RA.steps 1 rfl ?_
        refine RA.call0 rfl rfl rfl (by
          refine ⟨Nat.le_of_ble_eq_true rfl, ⟨_, _, rfl⟩, ?_⟩
          refine RA.steps 4 rfl ?_
          refine RA.call0 rfl rfl rfl (isIn_f (v := a) (lo := 0) (hi := 3) (fun q => absurd h1 (Int32.not_lt.mpr q.1))) ?_
          exact RA.ret rfl rfl) ?_
        refine RA.steps 2 rfl ?_
        exact RA.ret rfl rfl⟩
  · by_cases h2 : a < 4
    · rcases cases_0_3 (in_lt_4 h1 h2) with rfl | rfl | rfl | rfl
      · exact ⟨_, _, _, by
            exact Run.ex 4000 (Nat.le_of_ble_eq_true rfl) ⟨_, _, rfl⟩ rfl, by
            exact Run.ex 4000 (Nat.le_of_ble_eq_true rfl) ⟨_, _, rfl⟩ rfl⟩
      · exact ⟨_, _, _, by
            exact Run.ex 4000 (Nat.le_of_ble_eq_true rfl) ⟨_, _, rfl⟩ rfl, by
            exact Run.ex 4000 (Nat.le_of_ble_eq_true rfl) ⟨_, _, rfl⟩ rfl⟩
      · exact ⟨_, _, _, by
            exact Run.ex 4000 (Nat.le_of_ble_eq_true rfl) ⟨_, _, rfl⟩ rfl, by
            exact Run.ex 4000 (Nat.le_of_ble_eq_true rfl) ⟨_, _, rfl⟩ rfl⟩
      · exact ⟨_, _, _, by
            exact Run.ex 4000 (Nat.le_of_ble_eq_true rfl) ⟨_, _, rfl⟩ rfl, by
            exact Run.ex 4000 (Nat.le_of_ble_eq_true rfl) ⟨_, _, rfl⟩ rfl⟩
    · exact ⟨_, _, _, by
          refine ⟨Nat.le_of_ble_eq_true rfl, ⟨_, _, rfl⟩, ?_⟩
          refine RA.steps 2 rfl ?_
          refine RA.call0 rfl rfl rfl (by
            refine ⟨Nat.le_of_ble_eq_true rfl, ⟨_, _, rfl⟩, ?_⟩
            refine RA.steps 1 rfl ?_
            refine RA.if1F rfl (decide_eq_false h1) ?_
            refine RA.steps 4 rfl ?_
            refine RA.if2T rfl (decide_eq_true (Int32.not_lt.mp h2)) ?_
            refine RA.steps 1 rfl ?_
            exact RA.ret rfl rfl) ?_
          refine RA.steps 4 rfl ?_
          exact RA.ret rfl rfl, by
          refine ⟨Nat.le_of_ble_eq_true rfl, ⟨_, _, rfl⟩, ?_⟩
          refine RA.steps 1 rfl ?_
          refine RA.call0 rfl rfl rfl (by
            refine ⟨Nat.le_of_ble_eq_true rfl, ⟨_, _, rfl⟩, ?_⟩
            refine RA.steps 4 rfl ?_
            refine RA.call0 rfl rfl rfl (isIn_f (v := a) (lo := 0) (hi := 3) (fun q => h2 (le_lt_4 q.2))) ?_
            exact RA.ret rfl rfl) ?_
          refine RA.steps 2 rfl ?_
          exact RA.ret rfl rfl⟩
set_option maxRecDepth 100000 in
set_option maxHeartbeats 60000000 in
theorem q_reads (E : pX) (a : Int32) : ∃ (r : Int32) (h1 h2 : List pC), Run prog E pV0 40 mX7_reads [.ref 0, .int a] h0 (some (.int r), h1, 0, 0) ∧ Run prog E pV0 40 mX8_reads [.ref 110, .int a] h1 (some (.int r), h2, 0, 0) := by
  by_cases h1 : a < 0
  · exact ⟨_, _, _, by
        refine ⟨Nat.le_of_ble_eq_true rfl, ⟨_, _, rfl⟩, ?_⟩
        refine RA.steps 2 rfl ?_
        refine RA.call0 rfl rfl rfl (by
          refine ⟨Nat.le_of_ble_eq_true rfl, ⟨_, _, rfl⟩, ?_⟩
          refine RA.steps 1 rfl ?_
          refine RA.if1T rfl (decide_eq_true h1) ?_
          refine RA.steps 1 rfl ?_
          exact RA.ret rfl rfl) ?_
        refine RA.steps 4 rfl ?_
        exact RA.ret rfl rfl, by
        refine ⟨Nat.le_of_ble_eq_true rfl, ⟨_, _, rfl⟩, ?_⟩
        refine RA.steps 1 rfl ?_
        refine RA.call0 rfl rfl rfl (by
          refine ⟨Nat.le_of_ble_eq_true rfl, ⟨_, _, rfl⟩, ?_⟩
          refine RA.steps 4 rfl ?_
          refine RA.call0 rfl rfl rfl (isIn_f (v := a) (lo := 0) (hi := 3) (fun q => absurd h1 (Int32.not_lt.mpr q.1))) ?_
          exact RA.ret rfl rfl) ?_
        refine RA.steps 2 rfl ?_
        exact RA.ret rfl rfl⟩
  · by_cases h2 : a < 4
    · rcases cases_0_3 (in_lt_4 h1 h2) with rfl | rfl | rfl | rfl
      · exact ⟨_, _, _, by
            exact Run.ex 4000 (Nat.le_of_ble_eq_true rfl) ⟨_, _, rfl⟩ rfl, by
            exact Run.ex 4000 (Nat.le_of_ble_eq_true rfl) ⟨_, _, rfl⟩ rfl⟩
      · exact ⟨_, _, _, by
            exact Run.ex 4000 (Nat.le_of_ble_eq_true rfl) ⟨_, _, rfl⟩ rfl, by
            exact Run.ex 4000 (Nat.le_of_ble_eq_true rfl) ⟨_, _, rfl⟩ rfl⟩
      · exact ⟨_, _, _, by
            exact Run.ex 4000 (Nat.le_of_ble_eq_true rfl) ⟨_, _, rfl⟩ rfl, by
            exact Run.ex 4000 (Nat.le_of_ble_eq_true rfl) ⟨_, _, rfl⟩ rfl⟩
      · exact ⟨_, _, _, by
            exact Run.ex 4000 (Nat.le_of_ble_eq_true rfl) ⟨_, _, rfl⟩ rfl, by
            exact Run.ex 4000 (Nat.le_of_ble_eq_true rfl) ⟨_, _, rfl⟩ rfl⟩
    · exact ⟨_, _, _, by
          refine ⟨Nat.le_of_ble_eq_true rfl, ⟨_, _, rfl⟩, ?_⟩
          refine RA.steps 2 rfl ?_
          refine RA.call0 rfl rfl rfl (by
            refine ⟨Nat.le_of_ble_eq_true rfl, ⟨_, _, rfl⟩, ?_⟩
            refine RA.steps 1 rfl ?_
            refine RA.if1F rfl (decide_eq_false h1) ?_
            refine RA.steps 4 rfl ?_
            refine RA.if2T rfl (decide_eq_true (Int32.not_lt.mp h2)) ?_
            refine RA.steps 1 rfl ?_
            exact RA.ret rfl rfl) ?_
          refine RA.steps 4 rfl ?_
          exact RA.ret rfl rfl, by
          refine ⟨Nat.le_of_ble_eq_true rfl, ⟨_, _, rfl⟩, ?_⟩
          refine RA.steps 1 rfl ?_
          refine RA.call0 rfl rfl rfl (by
            refine ⟨Nat.le_of_ble_eq_true rfl, ⟨_, _, rfl⟩, ?_⟩
            refine RA.steps 4 rfl ?_
            refine RA.call0 rfl rfl rfl (isIn_f (v := a) (lo := 0) (hi := 3) (fun q => h2 (le_lt_4 q.2))) ?_
            exact RA.ret rfl rfl) ?_
          refine RA.steps 2 rfl ?_
          exact RA.ret rfl rfl⟩
end
section
set_option maxRecDepth 100000 in
set_option maxHeartbeats 60000000 in
theorem q_ask (E : pX) (a b : Int32) : ∃ (r : Int32) (h1 h2 : List pC), Run prog E pV0 40 mX7_ask [.ref 0, .int a, .int b] h0 (some (.int r), h1, 0, 0) ∧ Run prog E pV0 40 mX8_ask [.ref 110, .int a, .int b] h1 (some (.int r), h2, 0, 0) := by
  by_cases h1 : a < 0
  · exact ⟨_, _, _, by
        refine ⟨Nat.le_of_ble_eq_true rfl, ⟨_, _, rfl⟩, ?_⟩
        refine RA.steps 2 rfl ?_
        refine RA.call0 rfl rfl rfl (by
          refine ⟨Nat.le_of_ble_eq_true rfl, ⟨_, _, rfl⟩, ?_⟩
          refine RA.steps 1 rfl ?_
          refine RA.if1T rfl (decide_eq_true h1) ?_
          refine RA.steps 1 rfl ?_
          exact RA.ret rfl rfl) ?_
        refine RA.steps 4 rfl ?_
        exact RA.ret rfl rfl, by
        refine ⟨Nat.le_of_ble_eq_true rfl, ⟨_, _, rfl⟩, ?_⟩
        refine RA.steps 1 rfl ?_
        refine RA.call0 rfl rfl rfl (by
          refine ⟨Nat.le_of_ble_eq_true rfl, ⟨_, _, rfl⟩, ?_⟩
          refine RA.steps 4 rfl ?_
          refine RA.call0 rfl rfl rfl (isIn_f (v := a) (lo := 0) (hi := 4) (fun q => absurd h1 (Int32.not_lt.mpr q.1))) ?_
          exact RA.ret rfl rfl) ?_
        refine RA.steps 2 rfl ?_
        exact RA.ret rfl rfl⟩
  · by_cases h2 : a < 5
    · rcases cases_0_4 (in_lt_5 h1 h2) with rfl | rfl | rfl | rfl | rfl
      · by_cases h3 : 0 ≤ b ∧ b ≤ 5
        · exact ⟨_, _, _, by
              refine ⟨Nat.le_of_ble_eq_true rfl, ⟨_, _, rfl⟩, ?_⟩
              refine RA.steps 2 rfl ?_
              refine RA.call0 rfl rfl rfl (Run.ex 4000 (Nat.le_of_ble_eq_true rfl) ⟨_, _, rfl⟩ rfl) ?_
              refine RA.steps 4 rfl ?_
              refine RA.call0 rfl rfl rfl (by
                refine ⟨Nat.le_of_ble_eq_true rfl, ⟨_, _, rfl⟩, ?_⟩
                refine RA.steps 3 rfl ?_
                refine RA.call0 rfl rfl rfl (within_t (v := b) (lo := 0) (hi := 5) h3) ?_
                exact RA.ret rfl rfl) ?_
              refine RA.steps 5 rfl ?_
              exact RA.ret rfl rfl, by
              refine ⟨Nat.le_of_ble_eq_true rfl, ⟨_, _, rfl⟩, ?_⟩
              refine RA.steps 1 rfl ?_
              refine RA.call0 rfl rfl rfl (Run.ex 4000 (Nat.le_of_ble_eq_true rfl) ⟨_, _, rfl⟩ rfl) ?_
              refine RA.steps 5 rfl ?_
              refine RA.call0 rfl rfl rfl (isIn_t (v := b) (lo := 0) (hi := 5) h3) ?_
              refine RA.steps 7 rfl ?_
              exact RA.ret rfl rfl⟩
        · exact ⟨_, _, _, by
              refine ⟨Nat.le_of_ble_eq_true rfl, ⟨_, _, rfl⟩, ?_⟩
              refine RA.steps 2 rfl ?_
              refine RA.call0 rfl rfl rfl (Run.ex 4000 (Nat.le_of_ble_eq_true rfl) ⟨_, _, rfl⟩ rfl) ?_
              refine RA.steps 4 rfl ?_
              refine RA.call0 rfl rfl rfl (by
                refine ⟨Nat.le_of_ble_eq_true rfl, ⟨_, _, rfl⟩, ?_⟩
                refine RA.steps 3 rfl ?_
                refine RA.call0 rfl rfl rfl (within_f (v := b) (lo := 0) (hi := 5) h3) ?_
                exact RA.ret rfl rfl) ?_
              refine RA.steps 2 rfl ?_
              exact RA.ret rfl rfl, by
              refine ⟨Nat.le_of_ble_eq_true rfl, ⟨_, _, rfl⟩, ?_⟩
              refine RA.steps 1 rfl ?_
              refine RA.call0 rfl rfl rfl (Run.ex 4000 (Nat.le_of_ble_eq_true rfl) ⟨_, _, rfl⟩ rfl) ?_
              refine RA.steps 5 rfl ?_
              refine RA.call0 rfl rfl rfl (isIn_f (v := b) (lo := 0) (hi := 5) h3) ?_
              refine RA.steps 2 rfl ?_
              exact RA.ret rfl rfl⟩
      · by_cases h4 : 0 ≤ b ∧ b ≤ 5
        · exact ⟨_, _, _, by
              refine ⟨Nat.le_of_ble_eq_true rfl, ⟨_, _, rfl⟩, ?_⟩
              refine RA.steps 2 rfl ?_
              refine RA.call0 rfl rfl rfl (Run.ex 4000 (Nat.le_of_ble_eq_true rfl) ⟨_, _, rfl⟩ rfl) ?_
              refine RA.steps 4 rfl ?_
              refine RA.call0 rfl rfl rfl (by
                refine ⟨Nat.le_of_ble_eq_true rfl, ⟨_, _, rfl⟩, ?_⟩
                refine RA.steps 3 rfl ?_
                refine RA.call0 rfl rfl rfl (within_t (v := b) (lo := 0) (hi := 5) h4) ?_
                exact RA.ret rfl rfl) ?_
              refine RA.steps 5 rfl ?_
              exact RA.ret rfl rfl, by
              refine ⟨Nat.le_of_ble_eq_true rfl, ⟨_, _, rfl⟩, ?_⟩
              refine RA.steps 1 rfl ?_
              refine RA.call0 rfl rfl rfl (Run.ex 4000 (Nat.le_of_ble_eq_true rfl) ⟨_, _, rfl⟩ rfl) ?_
              refine RA.steps 5 rfl ?_
              refine RA.call0 rfl rfl rfl (isIn_t (v := b) (lo := 0) (hi := 5) h4) ?_
              refine RA.steps 7 rfl ?_
              exact RA.ret rfl rfl⟩
        · exact ⟨_, _, _, by
              refine ⟨Nat.le_of_ble_eq_true rfl, ⟨_, _, rfl⟩, ?_⟩
              refine RA.steps 2 rfl ?_
              refine RA.call0 rfl rfl rfl (Run.ex 4000 (Nat.le_of_ble_eq_true rfl) ⟨_, _, rfl⟩ rfl) ?_
              refine RA.steps 4 rfl ?_
              refine RA.call0 rfl rfl rfl (by
                refine ⟨Nat.le_of_ble_eq_true rfl, ⟨_, _, rfl⟩, ?_⟩
                refine RA.steps 3 rfl ?_
                refine RA.call0 rfl rfl rfl (within_f (v := b) (lo := 0) (hi := 5) h4) ?_
                exact RA.ret rfl rfl) ?_
              refine RA.steps 2 rfl ?_
              exact RA.ret rfl rfl, by
              refine ⟨Nat.le_of_ble_eq_true rfl, ⟨_, _, rfl⟩, ?_⟩
              refine RA.steps 1 rfl ?_
              refine RA.call0 rfl rfl rfl (Run.ex 4000 (Nat.le_of_ble_eq_true rfl) ⟨_, _, rfl⟩ rfl) ?_
              refine RA.steps 5 rfl ?_
              refine RA.call0 rfl rfl rfl (isIn_f (v := b) (lo := 0) (hi := 5) h4) ?_
              refine RA.steps 2 rfl ?_
              exact RA.ret rfl rfl⟩
      · by_cases h5 : 0 ≤ b ∧ b ≤ 5
        · exact ⟨_, _, _, by
              refine ⟨Nat.le_of_ble_eq_true rfl, ⟨_, _, rfl⟩, ?_⟩
              refine RA.steps 2 rfl ?_
              refine RA.call0 rfl rfl rfl (Run.ex 4000 (Nat.le_of_ble_eq_true rfl) ⟨_, _, rfl⟩ rfl) ?_
              refine RA.steps 4 rfl ?_
              refine RA.call0 rfl rfl rfl (by
                refine ⟨Nat.le_of_ble_eq_true rfl, ⟨_, _, rfl⟩, ?_⟩
                refine RA.steps 3 rfl ?_
                refine RA.call0 rfl rfl rfl (within_t (v := b) (lo := 0) (hi := 5) h5) ?_
                exact RA.ret rfl rfl) ?_
              refine RA.steps 5 rfl ?_
              exact RA.ret rfl rfl, by
              refine ⟨Nat.le_of_ble_eq_true rfl, ⟨_, _, rfl⟩, ?_⟩
              refine RA.steps 1 rfl ?_
              refine RA.call0 rfl rfl rfl (Run.ex 4000 (Nat.le_of_ble_eq_true rfl) ⟨_, _, rfl⟩ rfl) ?_
              refine RA.steps 5 rfl ?_
              refine RA.call0 rfl rfl rfl (isIn_t (v := b) (lo := 0) (hi := 5) h5) ?_
              refine RA.steps 7 rfl ?_
              exact RA.ret rfl rfl⟩
        · exact ⟨_, _, _, by
              refine ⟨Nat.le_of_ble_eq_true rfl, ⟨_, _, rfl⟩, ?_⟩
              refine RA.steps 2 rfl ?_
              refine RA.call0 rfl rfl rfl (Run.ex 4000 (Nat.le_of_ble_eq_true rfl) ⟨_, _, rfl⟩ rfl) ?_
              refine RA.steps 4 rfl ?_
              refine RA.call0 rfl rfl rfl (by
                refine ⟨Nat.le_of_ble_eq_true rfl, ⟨_, _, rfl⟩, ?_⟩
                refine RA.steps 3 rfl ?_
                refine RA.call0 rfl rfl rfl (within_f (v := b) (lo := 0) (hi := 5) h5) ?_
                exact RA.ret rfl rfl) ?_
              refine RA.steps 2 rfl ?_
              exact RA.ret rfl rfl, by
              refine ⟨Nat.le_of_ble_eq_true rfl, ⟨_, _, rfl⟩, ?_⟩
              refine RA.steps 1 rfl ?_
              refine RA.call0 rfl rfl rfl (Run.ex 4000 (Nat.le_of_ble_eq_true rfl) ⟨_, _, rfl⟩ rfl) ?_
              refine RA.steps 5 rfl ?_
              refine RA.call0 rfl rfl rfl (isIn_f (v := b) (lo := 0) (hi := 5) h5) ?_
              refine RA.steps 2 rfl ?_
              exact RA.ret rfl rfl⟩
      · by_cases h6 : 0 ≤ b ∧ b ≤ 5
        · exact ⟨_, _, _, by
              refine ⟨Nat.le_of_ble_eq_true rfl, ⟨_, _, rfl⟩, ?_⟩
              refine RA.steps 2 rfl ?_
              refine RA.call0 rfl rfl rfl (Run.ex 4000 (Nat.le_of_ble_eq_true rfl) ⟨_, _, rfl⟩ rfl) ?_
              refine RA.steps 4 rfl ?_
              refine RA.call0 rfl rfl rfl (by
                refine ⟨Nat.le_of_ble_eq_true rfl, ⟨_, _, rfl⟩, ?_⟩
                refine RA.steps 3 rfl ?_
                refine RA.call0 rfl rfl rfl (within_t (v := b) (lo := 0) (hi := 5) h6) ?_
                exact RA.ret rfl rfl) ?_
              refine RA.steps 5 rfl ?_
              exact RA.ret rfl rfl, by
              refine ⟨Nat.le_of_ble_eq_true rfl, ⟨_, _, rfl⟩, ?_⟩
              refine RA.steps 1 rfl ?_
              refine RA.call0 rfl rfl rfl (Run.ex 4000 (Nat.le_of_ble_eq_true rfl) ⟨_, _, rfl⟩ rfl) ?_
              refine RA.steps 5 rfl ?_
              refine RA.call0 rfl rfl rfl (isIn_t (v := b) (lo := 0) (hi := 5) h6) ?_
              refine RA.steps 7 rfl ?_
              exact RA.ret rfl rfl⟩
        · exact ⟨_, _, _, by
              refine ⟨Nat.le_of_ble_eq_true rfl, ⟨_, _, rfl⟩, ?_⟩
              refine RA.steps 2 rfl ?_
              refine RA.call0 rfl rfl rfl (Run.ex 4000 (Nat.le_of_ble_eq_true rfl) ⟨_, _, rfl⟩ rfl) ?_
              refine RA.steps 4 rfl ?_
              refine RA.call0 rfl rfl rfl (by
                refine ⟨Nat.le_of_ble_eq_true rfl, ⟨_, _, rfl⟩, ?_⟩
                refine RA.steps 3 rfl ?_
                refine RA.call0 rfl rfl rfl (within_f (v := b) (lo := 0) (hi := 5) h6) ?_
                exact RA.ret rfl rfl) ?_
              refine RA.steps 2 rfl ?_
              exact RA.ret rfl rfl, by
              refine ⟨Nat.le_of_ble_eq_true rfl, ⟨_, _, rfl⟩, ?_⟩
              refine RA.steps 1 rfl ?_
              refine RA.call0 rfl rfl rfl (Run.ex 4000 (Nat.le_of_ble_eq_true rfl) ⟨_, _, rfl⟩ rfl) ?_
              refine RA.steps 5 rfl ?_
              refine RA.call0 rfl rfl rfl (isIn_f (v := b) (lo := 0) (hi := 5) h6) ?_
              refine RA.steps 2 rfl ?_
              exact RA.ret rfl rfl⟩
      · by_cases h7 : 0 ≤ b ∧ b ≤ 5
        · exact ⟨_, _, _, by
              refine ⟨Nat.le_of_ble_eq_true rfl, ⟨_, _, rfl⟩, ?_⟩
              refine RA.steps 2 rfl ?_
              refine RA.call0 rfl rfl rfl (Run.ex 4000 (Nat.le_of_ble_eq_true rfl) ⟨_, _, rfl⟩ rfl) ?_
              refine RA.steps 4 rfl ?_
              refine RA.call0 rfl rfl rfl (by
                refine ⟨Nat.le_of_ble_eq_true rfl, ⟨_, _, rfl⟩, ?_⟩
                refine RA.steps 3 rfl ?_
                refine RA.call0 rfl rfl rfl (within_t (v := b) (lo := 0) (hi := 5) h7) ?_
                exact RA.ret rfl rfl) ?_
              refine RA.steps 5 rfl ?_
              exact RA.ret rfl rfl, by
              refine ⟨Nat.le_of_ble_eq_true rfl, ⟨_, _, rfl⟩, ?_⟩
              refine RA.steps 1 rfl ?_
              refine RA.call0 rfl rfl rfl (Run.ex 4000 (Nat.le_of_ble_eq_true rfl) ⟨_, _, rfl⟩ rfl) ?_
              refine RA.steps 5 rfl ?_
              refine RA.call0 rfl rfl rfl (isIn_t (v := b) (lo := 0) (hi := 5) h7) ?_
              refine RA.steps 7 rfl ?_
              exact RA.ret rfl rfl⟩
        · exact ⟨_, _, _, by
              refine ⟨Nat.le_of_ble_eq_true rfl, ⟨_, _, rfl⟩, ?_⟩
              refine RA.steps 2 rfl ?_
              refine RA.call0 rfl rfl rfl (Run.ex 4000 (Nat.le_of_ble_eq_true rfl) ⟨_, _, rfl⟩ rfl) ?_
              refine RA.steps 4 rfl ?_
              refine RA.call0 rfl rfl rfl (by
                refine ⟨Nat.le_of_ble_eq_true rfl, ⟨_, _, rfl⟩, ?_⟩
                refine RA.steps 3 rfl ?_
                refine RA.call0 rfl rfl rfl (within_f (v := b) (lo := 0) (hi := 5) h7) ?_
                exact RA.ret rfl rfl) ?_
              refine RA.steps 2 rfl ?_
              exact RA.ret rfl rfl, by
              refine ⟨Nat.le_of_ble_eq_true rfl, ⟨_, _, rfl⟩, ?_⟩
              refine RA.steps 1 rfl ?_
              refine RA.call0 rfl rfl rfl (Run.ex 4000 (Nat.le_of_ble_eq_true rfl) ⟨_, _, rfl⟩ rfl) ?_
              refine RA.steps 5 rfl ?_
              refine RA.call0 rfl rfl rfl (isIn_f (v := b) (lo := 0) (hi := 5) h7) ?_
              refine RA.steps 2 rfl ?_
              exact RA.ret rfl rfl⟩
    · exact ⟨_, _, _, by
          refine ⟨Nat.le_of_ble_eq_true rfl, ⟨_, _, rfl⟩, ?_⟩
          refine RA.steps 2 rfl ?_
          refine RA.call0 rfl rfl rfl (by
            refine ⟨Nat.le_of_ble_eq_true rfl, ⟨_, _, rfl⟩, ?_⟩
            refine RA.steps 1 rfl ?_
            refine RA.if1F rfl (decide_eq_false h1) ?_
            refine RA.steps 4 rfl ?_
            refine RA.if2T rfl (decide_eq_true (Int32.not_lt.mp h2)) ?_
            refine RA.steps 1 rfl ?_
            exact RA.ret rfl rfl) ?_
          refine RA.steps 4 rfl ?_
          exact RA.ret rfl rfl, by
          refine ⟨Nat.le_of_ble_eq_true rfl, ⟨_, _, rfl⟩, ?_⟩
          refine RA.steps 1 rfl ?_
          refine RA.call0 rfl rfl rfl (by
            refine ⟨Nat.le_of_ble_eq_true rfl, ⟨_, _, rfl⟩, ?_⟩
            refine RA.steps 4 rfl ?_
            refine RA.call0 rfl rfl rfl (isIn_f (v := a) (lo := 0) (hi := 4) (fun q => h2 (le_lt_5 q.2))) ?_
            exact RA.ret rfl rfl) ?_
          refine RA.steps 2 rfl ?_
          exact RA.ret rfl rfl⟩
set_option maxRecDepth 100000 in
set_option maxHeartbeats 60000000 in
theorem q_item (E : pX) (a b : Int32) : ∃ (r : Int32) (h1 h2 : List pC), Run prog E pV0 40 mX7_item [.ref 0, .int a, .int b] h0 (some (.int r), h1, 0, 0) ∧ Run prog E pV0 40 mX8_item [.ref 110, .int a, .int b] h1 (some (.int r), h2, 0, 0) := by
  by_cases h1 : a < 0
  · exact ⟨_, _, _, by
        refine ⟨Nat.le_of_ble_eq_true rfl, ⟨_, _, rfl⟩, ?_⟩
        refine RA.steps 2 rfl ?_
        refine RA.call0 rfl rfl rfl (by
          refine ⟨Nat.le_of_ble_eq_true rfl, ⟨_, _, rfl⟩, ?_⟩
          refine RA.steps 1 rfl ?_
          refine RA.if1T rfl (decide_eq_true h1) ?_
          refine RA.steps 1 rfl ?_
          exact RA.ret rfl rfl) ?_
        refine RA.steps 4 rfl ?_
        exact RA.ret rfl rfl, by
        refine ⟨Nat.le_of_ble_eq_true rfl, ⟨_, _, rfl⟩, ?_⟩
        refine RA.steps 1 rfl ?_
        refine RA.call0 rfl rfl rfl (by
          refine ⟨Nat.le_of_ble_eq_true rfl, ⟨_, _, rfl⟩, ?_⟩
          refine RA.steps 4 rfl ?_
          refine RA.call0 rfl rfl rfl (isIn_f (v := a) (lo := 0) (hi := 4) (fun q => absurd h1 (Int32.not_lt.mpr q.1))) ?_
          exact RA.ret rfl rfl) ?_
        refine RA.steps 2 rfl ?_
        exact RA.ret rfl rfl⟩
  · by_cases h2 : a < 5
    · rcases cases_0_4 (in_lt_5 h1 h2) with rfl | rfl | rfl | rfl | rfl
      · exact ⟨_, _, _, by
            exact Run.ex 4000 (Nat.le_of_ble_eq_true rfl) ⟨_, _, rfl⟩ rfl, by
            exact Run.ex 4000 (Nat.le_of_ble_eq_true rfl) ⟨_, _, rfl⟩ rfl⟩
      · exact ⟨_, _, _, by
            exact Run.ex 4000 (Nat.le_of_ble_eq_true rfl) ⟨_, _, rfl⟩ rfl, by
            exact Run.ex 4000 (Nat.le_of_ble_eq_true rfl) ⟨_, _, rfl⟩ rfl⟩
      · exact ⟨_, _, _, by
            exact Run.ex 4000 (Nat.le_of_ble_eq_true rfl) ⟨_, _, rfl⟩ rfl, by
            exact Run.ex 4000 (Nat.le_of_ble_eq_true rfl) ⟨_, _, rfl⟩ rfl⟩
      · exact ⟨_, _, _, by
            exact Run.ex 4000 (Nat.le_of_ble_eq_true rfl) ⟨_, _, rfl⟩ rfl, by
            exact Run.ex 4000 (Nat.le_of_ble_eq_true rfl) ⟨_, _, rfl⟩ rfl⟩
      · exact ⟨_, _, _, by
            exact Run.ex 4000 (Nat.le_of_ble_eq_true rfl) ⟨_, _, rfl⟩ rfl, by
            exact Run.ex 4000 (Nat.le_of_ble_eq_true rfl) ⟨_, _, rfl⟩ rfl⟩
    · exact ⟨_, _, _, by
          refine ⟨Nat.le_of_ble_eq_true rfl, ⟨_, _, rfl⟩, ?_⟩
          refine RA.steps 2 rfl ?_
          refine RA.call0 rfl rfl rfl (by
            refine ⟨Nat.le_of_ble_eq_true rfl, ⟨_, _, rfl⟩, ?_⟩
            refine RA.steps 1 rfl ?_
            refine RA.if1F rfl (decide_eq_false h1) ?_
            refine RA.steps 4 rfl ?_
            refine RA.if2T rfl (decide_eq_true (Int32.not_lt.mp h2)) ?_
            refine RA.steps 1 rfl ?_
            exact RA.ret rfl rfl) ?_
          refine RA.steps 4 rfl ?_
          exact RA.ret rfl rfl, by
          refine ⟨Nat.le_of_ble_eq_true rfl, ⟨_, _, rfl⟩, ?_⟩
          refine RA.steps 1 rfl ?_
          refine RA.call0 rfl rfl rfl (by
            refine ⟨Nat.le_of_ble_eq_true rfl, ⟨_, _, rfl⟩, ?_⟩
            refine RA.steps 4 rfl ?_
            refine RA.call0 rfl rfl rfl (isIn_f (v := a) (lo := 0) (hi := 4) (fun q => h2 (le_lt_5 q.2))) ?_
            exact RA.ret rfl rfl) ?_
          refine RA.steps 2 rfl ?_
          exact RA.ret rfl rfl⟩
set_option maxRecDepth 100000 in
set_option maxHeartbeats 60000000 in
theorem q_rest (E : pX) (a b : Int32) : ∃ (r : Int32) (h1 h2 : List pC), Run prog E pV0 40 mX7_rest [.ref 0, .int a, .int b] h0 (some (.int r), h1, 0, 0) ∧ Run prog E pV0 40 mX8_rest [.ref 110, .int a, .int b] h1 (some (.int r), h2, 0, 0) := by
  by_cases h1 : a < 0
  · exact ⟨_, _, _, by
        refine ⟨Nat.le_of_ble_eq_true rfl, ⟨_, _, rfl⟩, ?_⟩
        refine RA.steps 2 rfl ?_
        refine RA.call0 rfl rfl rfl (by
          refine ⟨Nat.le_of_ble_eq_true rfl, ⟨_, _, rfl⟩, ?_⟩
          refine RA.steps 1 rfl ?_
          refine RA.if1T rfl (decide_eq_true h1) ?_
          refine RA.steps 1 rfl ?_
          exact RA.ret rfl rfl) ?_
        refine RA.steps 4 rfl ?_
        exact RA.ret rfl rfl, by
        refine ⟨Nat.le_of_ble_eq_true rfl, ⟨_, _, rfl⟩, ?_⟩
        refine RA.steps 1 rfl ?_
        refine RA.call0 rfl rfl rfl (by
          refine ⟨Nat.le_of_ble_eq_true rfl, ⟨_, _, rfl⟩, ?_⟩
          refine RA.steps 4 rfl ?_
          refine RA.call0 rfl rfl rfl (isIn_f (v := a) (lo := 0) (hi := 4) (fun q => absurd h1 (Int32.not_lt.mpr q.1))) ?_
          exact RA.ret rfl rfl) ?_
        refine RA.steps 2 rfl ?_
        exact RA.ret rfl rfl⟩
  · by_cases h2 : a < 5
    · rcases cases_0_4 (in_lt_5 h1 h2) with rfl | rfl | rfl | rfl | rfl
      · exact ⟨_, _, _, by
            exact Run.ex 4000 (Nat.le_of_ble_eq_true rfl) ⟨_, _, rfl⟩ rfl, by
            exact Run.ex 4000 (Nat.le_of_ble_eq_true rfl) ⟨_, _, rfl⟩ rfl⟩
      · exact ⟨_, _, _, by
            exact Run.ex 4000 (Nat.le_of_ble_eq_true rfl) ⟨_, _, rfl⟩ rfl, by
            exact Run.ex 4000 (Nat.le_of_ble_eq_true rfl) ⟨_, _, rfl⟩ rfl⟩
      · exact ⟨_, _, _, by
            exact Run.ex 4000 (Nat.le_of_ble_eq_true rfl) ⟨_, _, rfl⟩ rfl, by
            exact Run.ex 4000 (Nat.le_of_ble_eq_true rfl) ⟨_, _, rfl⟩ rfl⟩
      · exact ⟨_, _, _, by
            exact Run.ex 4000 (Nat.le_of_ble_eq_true rfl) ⟨_, _, rfl⟩ rfl, by
            exact Run.ex 4000 (Nat.le_of_ble_eq_true rfl) ⟨_, _, rfl⟩ rfl⟩
      · exact ⟨_, _, _, by
            exact Run.ex 4000 (Nat.le_of_ble_eq_true rfl) ⟨_, _, rfl⟩ rfl, by
            exact Run.ex 4000 (Nat.le_of_ble_eq_true rfl) ⟨_, _, rfl⟩ rfl⟩
    · exact ⟨_, _, _, by
          refine ⟨Nat.le_of_ble_eq_true rfl, ⟨_, _, rfl⟩, ?_⟩
          refine RA.steps 2 rfl ?_
          refine RA.call0 rfl rfl rfl (by
            refine ⟨Nat.le_of_ble_eq_true rfl, ⟨_, _, rfl⟩, ?_⟩
            refine RA.steps 1 rfl ?_
            refine RA.if1F rfl (decide_eq_false h1) ?_
            refine RA.steps 4 rfl ?_
            refine RA.if2T rfl (decide_eq_true (Int32.not_lt.mp h2)) ?_
            refine RA.steps 1 rfl ?_
            exact RA.ret rfl rfl) ?_
          refine RA.steps 4 rfl ?_
          exact RA.ret rfl rfl, by
          refine ⟨Nat.le_of_ble_eq_true rfl, ⟨_, _, rfl⟩, ?_⟩
          refine RA.steps 1 rfl ?_
          refine RA.call0 rfl rfl rfl (by
            refine ⟨Nat.le_of_ble_eq_true rfl, ⟨_, _, rfl⟩, ?_⟩
            refine RA.steps 4 rfl ?_
            refine RA.call0 rfl rfl rfl (isIn_f (v := a) (lo := 0) (hi := 4) (fun q => h2 (le_lt_5 q.2))) ?_
            exact RA.ret rfl rfl) ?_
          refine RA.steps 2 rfl ?_
          exact RA.ret rfl rfl⟩
set_option maxRecDepth 100000 in
set_option maxHeartbeats 60000000 in
theorem q_tell (E : pX) (a : Int32) : ∃ (r : Int32) (h1 h2 : List pC), Run prog E pV0 40 mX7_tell [.ref 0, .int a] h0 (some (.int r), h1, 0, 0) ∧ Run prog E pV0 40 mX8_tell [.ref 110, .int a] h1 (some (.int r), h2, 0, 0) := by
  exact ⟨_, _, _, by
      exact Run.ex 4000 (Nat.le_of_ble_eq_true rfl) ⟨_, _, rfl⟩ rfl, by
      exact Run.ex 4000 (Nat.le_of_ble_eq_true rfl) ⟨_, _, rfl⟩ rfl⟩
set_option maxRecDepth 100000 in
set_option maxHeartbeats 60000000 in
theorem q_check (E : pX) (a : Int32) : ∃ (r : Int32) (h1 h2 : List pC), Run prog E pV0 40 mX7_check [.ref 0, .int a] h0 (some (.int r), h1, 0, 0) ∧ Run prog E pV0 40 mX8_check [.ref 110, .int a] h1 (some (.int r), h2, 0, 0) := by
  by_cases h1 : 1 ≤ a ∧ a ≤ 30
  · exact ⟨_, _, _, by
        refine ⟨Nat.le_of_ble_eq_true rfl, ⟨_, _, rfl⟩, ?_⟩
        refine RA.steps 9 rfl ?_
        refine RA.call0 rfl rfl rfl (within_t (v := a) (lo := 1) (hi := 30) h1) ?_
        refine RA.steps 5 rfl ?_
        exact RA.ret rfl rfl, by
        refine ⟨Nat.le_of_ble_eq_true rfl, ⟨_, _, rfl⟩, ?_⟩
        refine RA.steps 10 rfl ?_
        refine RA.call0 rfl rfl rfl (isIn_t (v := a) (lo := 1) (hi := 30) h1) ?_
        refine RA.steps 5 rfl ?_
        exact RA.ret rfl rfl⟩
  · exact ⟨_, _, _, by
        refine ⟨Nat.le_of_ble_eq_true rfl, ⟨_, _, rfl⟩, ?_⟩
        refine RA.steps 9 rfl ?_
        refine RA.call0 rfl rfl rfl (within_f (v := a) (lo := 1) (hi := 30) h1) ?_
        refine RA.steps 2 rfl ?_
        exact RA.ret rfl rfl, by
        refine ⟨Nat.le_of_ble_eq_true rfl, ⟨_, _, rfl⟩, ?_⟩
        refine RA.steps 10 rfl ?_
        refine RA.call0 rfl rfl rfl (isIn_f (v := a) (lo := 1) (hi := 30) h1) ?_
        refine RA.steps 2 rfl ?_
        exact RA.ret rfl rfl⟩
set_option maxRecDepth 100000 in
set_option maxHeartbeats 60000000 in
theorem q_back (E : pX) : ∃ (r : Int32) (h1 h2 : List pC), Run prog E pV0 40 mX7_back [.ref 0] h0 (some (.int r), h1, 0, 0) ∧ Run prog E pV0 40 mX8_back [.ref 110] h1 (some (.int r), h2, 0, 0) := by
  exact ⟨_, _, _, by
      exact Run.ex 4000 (Nat.le_of_ble_eq_true rfl) ⟨_, _, rfl⟩ rfl, by
      exact Run.ex 4000 (Nat.le_of_ble_eq_true rfl) ⟨_, _, rfl⟩ rfl⟩
set_option maxRecDepth 100000 in
set_option maxHeartbeats 60000000 in
theorem q_count (E : pX) (a : Int32) : ∃ (r : Int32) (h1 h2 : List pC), Run prog E pV0 40 mX7_count [.ref 0, .int a] h0 (some (.int r), h1, 0, 0) ∧ Run prog E pV0 40 mX8_count [.ref 110, .int a] h1 (some (.int r), h2, 0, 0) := by
  by_cases h1 : a = 0
  · subst h1
    exact ⟨_, _, _, by
        exact Run.ex 4000 (Nat.le_of_ble_eq_true rfl) ⟨_, _, rfl⟩ rfl, by
        exact Run.ex 4000 (Nat.le_of_ble_eq_true rfl) ⟨_, _, rfl⟩ rfl⟩
  · by_cases h2 : a = 1
    · subst h2
      exact ⟨_, _, _, by
          exact Run.ex 4000 (Nat.le_of_ble_eq_true rfl) ⟨_, _, rfl⟩ rfl, by
          exact Run.ex 4000 (Nat.le_of_ble_eq_true rfl) ⟨_, _, rfl⟩ rfl⟩
    · by_cases h3 : a = 2
      · subst h3
        exact ⟨_, _, _, by
            exact Run.ex 4000 (Nat.le_of_ble_eq_true rfl) ⟨_, _, rfl⟩ rfl, by
            exact Run.ex 4000 (Nat.le_of_ble_eq_true rfl) ⟨_, _, rfl⟩ rfl⟩
      · by_cases h4 : a = 3
        · subst h4
          exact ⟨_, _, _, by
              exact Run.ex 4000 (Nat.le_of_ble_eq_true rfl) ⟨_, _, rfl⟩ rfl, by
              exact Run.ex 4000 (Nat.le_of_ble_eq_true rfl) ⟨_, _, rfl⟩ rfl⟩
        · by_cases h5 : a = 4
          · subst h5
            exact ⟨_, _, _, by
                exact Run.ex 4000 (Nat.le_of_ble_eq_true rfl) ⟨_, _, rfl⟩ rfl, by
                exact Run.ex 4000 (Nat.le_of_ble_eq_true rfl) ⟨_, _, rfl⟩ rfl⟩
          · by_cases h6 : a = 5
            · subst h6
              exact ⟨_, _, _, by
                  exact Run.ex 4000 (Nat.le_of_ble_eq_true rfl) ⟨_, _, rfl⟩ rfl, by
                  exact Run.ex 4000 (Nat.le_of_ble_eq_true rfl) ⟨_, _, rfl⟩ rfl⟩
            · by_cases h7 : a = 6
              · subst h7
                exact ⟨_, _, _, by
                    exact Run.ex 4000 (Nat.le_of_ble_eq_true rfl) ⟨_, _, rfl⟩ rfl, by
                    exact Run.ex 4000 (Nat.le_of_ble_eq_true rfl) ⟨_, _, rfl⟩ rfl⟩
              · exact ⟨_, _, _, by
                    refine ⟨Nat.le_of_ble_eq_true rfl, ⟨_, _, rfl⟩, ?_⟩
                    refine RA.steps 1 rfl ?_
                    refine RA.sw rfl rfl rfl rfl (show psw _ [(0, 2), (1, 6), (2, 10), (3, 15), (4, 19), (5, 22), (6, 26)] 30 = 30 from ((psw_ne (lv_neT h1 (by decide))).trans ((psw_ne (lv_neT h2 (by decide))).trans ((psw_ne (lv_neT h3 (by decide))).trans ((psw_ne (lv_neT h4 (by decide))).trans ((psw_ne (lv_neT h5 (by decide))).trans ((psw_ne (lv_neT h6 (by decide))).trans ((psw_ne (lv_neT h7 (by decide))).trans rfl)))))))) ?_
                    refine RA.steps 1 rfl ?_
                    exact RA.ret rfl rfl, by
                    refine ⟨Nat.le_of_ble_eq_true rfl, ⟨_, _, rfl⟩, ?_⟩
                    refine RA.steps 1 rfl ?_
                    refine RA.sw rfl rfl rfl rfl (show psw _ [(0, 2), (1, 7), (2, 12), (3, 16), (4, 21), (5, 24), (6, 27)] 32 = 32 from ((psw_ne (lv_neT h1 (by decide))).trans ((psw_ne (lv_neT h2 (by decide))).trans ((psw_ne (lv_neT h3 (by decide))).trans ((psw_ne (lv_neT h4 (by decide))).trans ((psw_ne (lv_neT h5 (by decide))).trans ((psw_ne (lv_neT h6 (by decide))).trans ((psw_ne (lv_neT h7 (by decide))).trans rfl)))))))) ?_
                    refine RA.steps 1 rfl ?_
                    exact RA.ret rfl rfl⟩
end
section
set_option maxRecDepth 100000 in
set_option maxHeartbeats 60000000 in
theorem q_copy (E : pX) (a b c d e : Int32) : ∃ (r : Int32) (h1 h2 : List pC), Run prog E pV0 40 mX7_copy [.ref 0, .int a, .int b, .int c, .int d, .int e] h0 (some (.int r), h1, 0, 0) ∧ Run prog E pV0 40 mX8_copy [.ref 110, .int a, .int b, .int c, .int d, .int e] h1 (some (.int r), h2, 0, 0) := by
  by_cases h1 : a < 0
  · by_cases h2 : c < 0
    · exact ⟨_, _, _, by
          refine ⟨Nat.le_of_ble_eq_true rfl, ⟨_, _, rfl⟩, ?_⟩
          refine RA.steps 2 rfl ?_
          refine RA.call0 rfl rfl rfl (by
            refine ⟨Nat.le_of_ble_eq_true rfl, ⟨_, _, rfl⟩, ?_⟩
            refine RA.steps 1 rfl ?_
            refine RA.if1T rfl (decide_eq_true h1) ?_
            refine RA.steps 1 rfl ?_
            exact RA.ret rfl rfl) ?_
          refine RA.steps 3 rfl ?_
          refine RA.call0 rfl rfl rfl (by
            refine ⟨Nat.le_of_ble_eq_true rfl, ⟨_, _, rfl⟩, ?_⟩
            refine RA.steps 1 rfl ?_
            refine RA.if1T rfl (decide_eq_true h2) ?_
            refine RA.steps 1 rfl ?_
            exact RA.ret rfl rfl) ?_
          refine RA.steps 4 rfl ?_
          exact RA.ret rfl rfl, by
          refine ⟨Nat.le_of_ble_eq_true rfl, ⟨_, _, rfl⟩, ?_⟩
          refine RA.steps 1 rfl ?_
          refine RA.call0 rfl rfl rfl (by
            refine ⟨Nat.le_of_ble_eq_true rfl, ⟨_, _, rfl⟩, ?_⟩
            refine RA.steps 4 rfl ?_
            refine RA.call0 rfl rfl rfl (isIn_f (v := a) (lo := 0) (hi := 3) (fun q => absurd h1 (Int32.not_lt.mpr q.1))) ?_
            exact RA.ret rfl rfl) ?_
          refine RA.steps 2 rfl ?_
          exact RA.ret rfl rfl⟩
    · by_cases h3 : c < 4
      · rcases cases_0_3 (in_lt_4 h2 h3) with rfl | rfl | rfl | rfl
        · exact ⟨_, _, _, by
              refine ⟨Nat.le_of_ble_eq_true rfl, ⟨_, _, rfl⟩, ?_⟩
              refine RA.steps 2 rfl ?_
              refine RA.call0 rfl rfl rfl (by
                refine ⟨Nat.le_of_ble_eq_true rfl, ⟨_, _, rfl⟩, ?_⟩
                refine RA.steps 1 rfl ?_
                refine RA.if1T rfl (decide_eq_true h1) ?_
                refine RA.steps 1 rfl ?_
                exact RA.ret rfl rfl) ?_
              refine RA.steps 3 rfl ?_
              refine RA.call0 rfl rfl rfl (Run.ex 4000 (Nat.le_of_ble_eq_true rfl) ⟨_, _, rfl⟩ rfl) ?_
              refine RA.steps 4 rfl ?_
              exact RA.ret rfl rfl, by
              refine ⟨Nat.le_of_ble_eq_true rfl, ⟨_, _, rfl⟩, ?_⟩
              refine RA.steps 1 rfl ?_
              refine RA.call0 rfl rfl rfl (by
                refine ⟨Nat.le_of_ble_eq_true rfl, ⟨_, _, rfl⟩, ?_⟩
                refine RA.steps 4 rfl ?_
                refine RA.call0 rfl rfl rfl (isIn_f (v := a) (lo := 0) (hi := 3) (fun q => absurd h1 (Int32.not_lt.mpr q.1))) ?_
                exact RA.ret rfl rfl) ?_
              refine RA.steps 2 rfl ?_
              exact RA.ret rfl rfl⟩
        · exact ⟨_, _, _, by
              refine ⟨Nat.le_of_ble_eq_true rfl, ⟨_, _, rfl⟩, ?_⟩
              refine RA.steps 2 rfl ?_
              refine RA.call0 rfl rfl rfl (by
                refine ⟨Nat.le_of_ble_eq_true rfl, ⟨_, _, rfl⟩, ?_⟩
                refine RA.steps 1 rfl ?_
                refine RA.if1T rfl (decide_eq_true h1) ?_
                refine RA.steps 1 rfl ?_
                exact RA.ret rfl rfl) ?_
              refine RA.steps 3 rfl ?_
              refine RA.call0 rfl rfl rfl (Run.ex 4000 (Nat.le_of_ble_eq_true rfl) ⟨_, _, rfl⟩ rfl) ?_
              refine RA.steps 4 rfl ?_
              exact RA.ret rfl rfl, by
              refine ⟨Nat.le_of_ble_eq_true rfl, ⟨_, _, rfl⟩, ?_⟩
              refine RA.steps 1 rfl ?_
              refine RA.call0 rfl rfl rfl (by
                refine ⟨Nat.le_of_ble_eq_true rfl, ⟨_, _, rfl⟩, ?_⟩
                refine RA.steps 4 rfl ?_
                refine RA.call0 rfl rfl rfl (isIn_f (v := a) (lo := 0) (hi := 3) (fun q => absurd h1 (Int32.not_lt.mpr q.1))) ?_
                exact RA.ret rfl rfl) ?_
              refine RA.steps 2 rfl ?_
              exact RA.ret rfl rfl⟩
        · exact ⟨_, _, _, by
              refine ⟨Nat.le_of_ble_eq_true rfl, ⟨_, _, rfl⟩, ?_⟩
              refine RA.steps 2 rfl ?_
              refine RA.call0 rfl rfl rfl (by
                refine ⟨Nat.le_of_ble_eq_true rfl, ⟨_, _, rfl⟩, ?_⟩
                refine RA.steps 1 rfl ?_
                refine RA.if1T rfl (decide_eq_true h1) ?_
                refine RA.steps 1 rfl ?_
                exact RA.ret rfl rfl) ?_
              refine RA.steps 3 rfl ?_
              refine RA.call0 rfl rfl rfl (Run.ex 4000 (Nat.le_of_ble_eq_true rfl) ⟨_, _, rfl⟩ rfl) ?_
              refine RA.steps 4 rfl ?_
              exact RA.ret rfl rfl, by
              refine ⟨Nat.le_of_ble_eq_true rfl, ⟨_, _, rfl⟩, ?_⟩
              refine RA.steps 1 rfl ?_
              refine RA.call0 rfl rfl rfl (by
                refine ⟨Nat.le_of_ble_eq_true rfl, ⟨_, _, rfl⟩, ?_⟩
                refine RA.steps 4 rfl ?_
                refine RA.call0 rfl rfl rfl (isIn_f (v := a) (lo := 0) (hi := 3) (fun q => absurd h1 (Int32.not_lt.mpr q.1))) ?_
                exact RA.ret rfl rfl) ?_
              refine RA.steps 2 rfl ?_
              exact RA.ret rfl rfl⟩
        · exact ⟨_, _, _, by
              refine ⟨Nat.le_of_ble_eq_true rfl, ⟨_, _, rfl⟩, ?_⟩
              refine RA.steps 2 rfl ?_
              refine RA.call0 rfl rfl rfl (by
                refine ⟨Nat.le_of_ble_eq_true rfl, ⟨_, _, rfl⟩, ?_⟩
                refine RA.steps 1 rfl ?_
                refine RA.if1T rfl (decide_eq_true h1) ?_
                refine RA.steps 1 rfl ?_
                exact RA.ret rfl rfl) ?_
              refine RA.steps 3 rfl ?_
              refine RA.call0 rfl rfl rfl (Run.ex 4000 (Nat.le_of_ble_eq_true rfl) ⟨_, _, rfl⟩ rfl) ?_
              refine RA.steps 4 rfl ?_
              exact RA.ret rfl rfl, by
              refine ⟨Nat.le_of_ble_eq_true rfl, ⟨_, _, rfl⟩, ?_⟩
              refine RA.steps 1 rfl ?_
              refine RA.call0 rfl rfl rfl (by
                refine ⟨Nat.le_of_ble_eq_true rfl, ⟨_, _, rfl⟩, ?_⟩
                refine RA.steps 4 rfl ?_
                refine RA.call0 rfl rfl rfl (isIn_f (v := a) (lo := 0) (hi := 3) (fun q => absurd h1 (Int32.not_lt.mpr q.1))) ?_
                exact RA.ret rfl rfl) ?_
              refine RA.steps 2 rfl ?_
              exact RA.ret rfl rfl⟩
      · exact ⟨_, _, _, by
            refine ⟨Nat.le_of_ble_eq_true rfl, ⟨_, _, rfl⟩, ?_⟩
            refine RA.steps 2 rfl ?_
            refine RA.call0 rfl rfl rfl (by
              refine ⟨Nat.le_of_ble_eq_true rfl, ⟨_, _, rfl⟩, ?_⟩
              refine RA.steps 1 rfl ?_
              refine RA.if1T rfl (decide_eq_true h1) ?_
              refine RA.steps 1 rfl ?_
              exact RA.ret rfl rfl) ?_
            refine RA.steps 3 rfl ?_
            refine RA.call0 rfl rfl rfl (by
              refine ⟨Nat.le_of_ble_eq_true rfl, ⟨_, _, rfl⟩, ?_⟩
              refine RA.steps 1 rfl ?_
              refine RA.if1F rfl (decide_eq_false h2) ?_
              refine RA.steps 4 rfl ?_
              refine RA.if2T rfl (decide_eq_true (Int32.not_lt.mp h3)) ?_
              refine RA.steps 1 rfl ?_
              exact RA.ret rfl rfl) ?_
            refine RA.steps 4 rfl ?_
            exact RA.ret rfl rfl, by
            refine ⟨Nat.le_of_ble_eq_true rfl, ⟨_, _, rfl⟩, ?_⟩
            refine RA.steps 1 rfl ?_
            refine RA.call0 rfl rfl rfl (by
              refine ⟨Nat.le_of_ble_eq_true rfl, ⟨_, _, rfl⟩, ?_⟩
              refine RA.steps 4 rfl ?_
              refine RA.call0 rfl rfl rfl (isIn_f (v := a) (lo := 0) (hi := 3) (fun q => absurd h1 (Int32.not_lt.mpr q.1))) ?_
              exact RA.ret rfl rfl) ?_
            refine RA.steps 2 rfl ?_
            exact RA.ret rfl rfl⟩
  · by_cases h4 : a < 4
    · rcases cases_0_3 (in_lt_4 h1 h4) with rfl | rfl | rfl | rfl
      · by_cases h5 : c < 0
        · exact ⟨_, _, _, by
              refine ⟨Nat.le_of_ble_eq_true rfl, ⟨_, _, rfl⟩, ?_⟩
              refine RA.steps 2 rfl ?_
              refine RA.call0 rfl rfl rfl (Run.ex 4000 (Nat.le_of_ble_eq_true rfl) ⟨_, _, rfl⟩ rfl) ?_
              refine RA.steps 3 rfl ?_
              refine RA.call0 rfl rfl rfl (by
                refine ⟨Nat.le_of_ble_eq_true rfl, ⟨_, _, rfl⟩, ?_⟩
                refine RA.steps 1 rfl ?_
                refine RA.if1T rfl (decide_eq_true h5) ?_
                refine RA.steps 1 rfl ?_
                exact RA.ret rfl rfl) ?_
              refine RA.steps 6 rfl ?_
              exact RA.ret rfl rfl, by
              refine ⟨Nat.le_of_ble_eq_true rfl, ⟨_, _, rfl⟩, ?_⟩
              refine RA.steps 1 rfl ?_
              refine RA.call0 rfl rfl rfl (Run.ex 4000 (Nat.le_of_ble_eq_true rfl) ⟨_, _, rfl⟩ rfl) ?_
              refine RA.steps 2 rfl ?_
              refine RA.call0 rfl rfl rfl (by
                refine ⟨Nat.le_of_ble_eq_true rfl, ⟨_, _, rfl⟩, ?_⟩
                refine RA.steps 4 rfl ?_
                refine RA.call0 rfl rfl rfl (isIn_f (v := c) (lo := 0) (hi := 3) (fun q => absurd h5 (Int32.not_lt.mpr q.1))) ?_
                exact RA.ret rfl rfl) ?_
              refine RA.steps 2 rfl ?_
              exact RA.ret rfl rfl⟩
        · by_cases h6 : c < 4
          · rcases cases_0_3 (in_lt_4 h5 h6) with rfl | rfl | rfl | rfl
            · exact ⟨_, _, _, by
                  exact Run.ex 4000 (Nat.le_of_ble_eq_true rfl) ⟨_, _, rfl⟩ rfl, by
                  exact Run.ex 4000 (Nat.le_of_ble_eq_true rfl) ⟨_, _, rfl⟩ rfl⟩
            · exact ⟨_, _, _, by
                  exact Run.ex 4000 (Nat.le_of_ble_eq_true rfl) ⟨_, _, rfl⟩ rfl, by
                  exact Run.ex 4000 (Nat.le_of_ble_eq_true rfl) ⟨_, _, rfl⟩ rfl⟩
            · exact ⟨_, _, _, by
                  exact Run.ex 4000 (Nat.le_of_ble_eq_true rfl) ⟨_, _, rfl⟩ rfl, by
                  exact Run.ex 4000 (Nat.le_of_ble_eq_true rfl) ⟨_, _, rfl⟩ rfl⟩
            · exact ⟨_, _, _, by
                  exact Run.ex 4000 (Nat.le_of_ble_eq_true rfl) ⟨_, _, rfl⟩ rfl, by
                  exact Run.ex 4000 (Nat.le_of_ble_eq_true rfl) ⟨_, _, rfl⟩ rfl⟩
          · exact ⟨_, _, _, by
                refine ⟨Nat.le_of_ble_eq_true rfl, ⟨_, _, rfl⟩, ?_⟩
                refine RA.steps 2 rfl ?_
                refine RA.call0 rfl rfl rfl (Run.ex 4000 (Nat.le_of_ble_eq_true rfl) ⟨_, _, rfl⟩ rfl) ?_
                refine RA.steps 3 rfl ?_
                refine RA.call0 rfl rfl rfl (by
                  refine ⟨Nat.le_of_ble_eq_true rfl, ⟨_, _, rfl⟩, ?_⟩
                  refine RA.steps 1 rfl ?_
                  refine RA.if1F rfl (decide_eq_false h5) ?_
                  refine RA.steps 4 rfl ?_
                  refine RA.if2T rfl (decide_eq_true (Int32.not_lt.mp h6)) ?_
                  refine RA.steps 1 rfl ?_
                  exact RA.ret rfl rfl) ?_
                refine RA.steps 6 rfl ?_
                exact RA.ret rfl rfl, by
                refine ⟨Nat.le_of_ble_eq_true rfl, ⟨_, _, rfl⟩, ?_⟩
                refine RA.steps 1 rfl ?_
                refine RA.call0 rfl rfl rfl (Run.ex 4000 (Nat.le_of_ble_eq_true rfl) ⟨_, _, rfl⟩ rfl) ?_
                refine RA.steps 2 rfl ?_
                refine RA.call0 rfl rfl rfl (by
                  refine ⟨Nat.le_of_ble_eq_true rfl, ⟨_, _, rfl⟩, ?_⟩
                  refine RA.steps 4 rfl ?_
                  refine RA.call0 rfl rfl rfl (isIn_f (v := c) (lo := 0) (hi := 3) (fun q => h6 (le_lt_4 q.2))) ?_
                  exact RA.ret rfl rfl) ?_
                refine RA.steps 2 rfl ?_
                exact RA.ret rfl rfl⟩
      · by_cases h7 : c < 0
        · exact ⟨_, _, _, by
              refine ⟨Nat.le_of_ble_eq_true rfl, ⟨_, _, rfl⟩, ?_⟩
              refine RA.steps 2 rfl ?_
              refine RA.call0 rfl rfl rfl (Run.ex 4000 (Nat.le_of_ble_eq_true rfl) ⟨_, _, rfl⟩ rfl) ?_
              refine RA.steps 3 rfl ?_
              refine RA.call0 rfl rfl rfl (by
                refine ⟨Nat.le_of_ble_eq_true rfl, ⟨_, _, rfl⟩, ?_⟩
                refine RA.steps 1 rfl ?_
                refine RA.if1T rfl (decide_eq_true h7) ?_
                refine RA.steps 1 rfl ?_
                exact RA.ret rfl rfl) ?_
              refine RA.steps 6 rfl ?_
              exact RA.ret rfl rfl, by
              refine ⟨Nat.le_of_ble_eq_true rfl, ⟨_, _, rfl⟩, ?_⟩
              refine RA.steps 1 rfl ?_
              refine RA.call0 rfl rfl rfl (Run.ex 4000 (Nat.le_of_ble_eq_true rfl) ⟨_, _, rfl⟩ rfl) ?_
              refine RA.steps 2 rfl ?_
              refine RA.call0 rfl rfl rfl (by
                refine ⟨Nat.le_of_ble_eq_true rfl, ⟨_, _, rfl⟩, ?_⟩
                refine RA.steps 4 rfl ?_
                refine RA.call0 rfl rfl rfl (isIn_f (v := c) (lo := 0) (hi := 3) (fun q => absurd h7 (Int32.not_lt.mpr q.1))) ?_
                exact RA.ret rfl rfl) ?_
              refine RA.steps 2 rfl ?_
              exact RA.ret rfl rfl⟩
        · by_cases h8 : c < 4
          · rcases cases_0_3 (in_lt_4 h7 h8) with rfl | rfl | rfl | rfl
            · exact ⟨_, _, _, by
                  exact Run.ex 4000 (Nat.le_of_ble_eq_true rfl) ⟨_, _, rfl⟩ rfl, by
                  exact Run.ex 4000 (Nat.le_of_ble_eq_true rfl) ⟨_, _, rfl⟩ rfl⟩
            · exact ⟨_, _, _, by
                  exact Run.ex 4000 (Nat.le_of_ble_eq_true rfl) ⟨_, _, rfl⟩ rfl, by
                  exact Run.ex 4000 (Nat.le_of_ble_eq_true rfl) ⟨_, _, rfl⟩ rfl⟩
            · exact ⟨_, _, _, by
                  exact Run.ex 4000 (Nat.le_of_ble_eq_true rfl) ⟨_, _, rfl⟩ rfl, by
                  exact Run.ex 4000 (Nat.le_of_ble_eq_true rfl) ⟨_, _, rfl⟩ rfl⟩
            · exact ⟨_, _, _, by
                  exact Run.ex 4000 (Nat.le_of_ble_eq_true rfl) ⟨_, _, rfl⟩ rfl, by
                  exact Run.ex 4000 (Nat.le_of_ble_eq_true rfl) ⟨_, _, rfl⟩ rfl⟩
          · exact ⟨_, _, _, by
                refine ⟨Nat.le_of_ble_eq_true rfl, ⟨_, _, rfl⟩, ?_⟩
                refine RA.steps 2 rfl ?_
                refine RA.call0 rfl rfl rfl (Run.ex 4000 (Nat.le_of_ble_eq_true rfl) ⟨_, _, rfl⟩ rfl) ?_
                refine RA.steps 3 rfl ?_
                refine RA.call0 rfl rfl rfl (by
                  refine ⟨Nat.le_of_ble_eq_true rfl, ⟨_, _, rfl⟩, ?_⟩
                  refine RA.steps 1 rfl ?_
                  refine RA.if1F rfl (decide_eq_false h7) ?_
                  refine RA.steps 4 rfl ?_
                  refine RA.if2T rfl (decide_eq_true (Int32.not_lt.mp h8)) ?_
                  refine RA.steps 1 rfl ?_
                  exact RA.ret rfl rfl) ?_
                refine RA.steps 6 rfl ?_
                exact RA.ret rfl rfl, by
                refine ⟨Nat.le_of_ble_eq_true rfl, ⟨_, _, rfl⟩, ?_⟩
                refine RA.steps 1 rfl ?_
                refine RA.call0 rfl rfl rfl (Run.ex 4000 (Nat.le_of_ble_eq_true rfl) ⟨_, _, rfl⟩ rfl) ?_
                refine RA.steps 2 rfl ?_
                refine RA.call0 rfl rfl rfl (by
                  refine ⟨Nat.le_of_ble_eq_true rfl, ⟨_, _, rfl⟩, ?_⟩
                  refine RA.steps 4 rfl ?_
                  refine RA.call0 rfl rfl rfl (isIn_f (v := c) (lo := 0) (hi := 3) (fun q => h8 (le_lt_4 q.2))) ?_
                  exact RA.ret rfl rfl) ?_
                refine RA.steps 2 rfl ?_
                exact RA.ret rfl rfl⟩
      · by_cases h9 : c < 0
        · exact ⟨_, _, _, by
              refine ⟨Nat.le_of_ble_eq_true rfl, ⟨_, _, rfl⟩, ?_⟩
              refine RA.steps 2 rfl ?_
              refine RA.call0 rfl rfl rfl (Run.ex 4000 (Nat.le_of_ble_eq_true rfl) ⟨_, _, rfl⟩ rfl) ?_
              refine RA.steps 3 rfl ?_
              refine RA.call0 rfl rfl rfl (by
                refine ⟨Nat.le_of_ble_eq_true rfl, ⟨_, _, rfl⟩, ?_⟩
                refine RA.steps 1 rfl ?_
                refine RA.if1T rfl (decide_eq_true h9) ?_
                refine RA.steps 1 rfl ?_
                exact RA.ret rfl rfl) ?_
              refine RA.steps 6 rfl ?_
              exact RA.ret rfl rfl, by
              refine ⟨Nat.le_of_ble_eq_true rfl, ⟨_, _, rfl⟩, ?_⟩
              refine RA.steps 1 rfl ?_
              refine RA.call0 rfl rfl rfl (Run.ex 4000 (Nat.le_of_ble_eq_true rfl) ⟨_, _, rfl⟩ rfl) ?_
              refine RA.steps 2 rfl ?_
              refine RA.call0 rfl rfl rfl (by
                refine ⟨Nat.le_of_ble_eq_true rfl, ⟨_, _, rfl⟩, ?_⟩
                refine RA.steps 4 rfl ?_
                refine RA.call0 rfl rfl rfl (isIn_f (v := c) (lo := 0) (hi := 3) (fun q => absurd h9 (Int32.not_lt.mpr q.1))) ?_
                exact RA.ret rfl rfl) ?_
              refine RA.steps 2 rfl ?_
              exact RA.ret rfl rfl⟩
        · by_cases h10 : c < 4
          · rcases cases_0_3 (in_lt_4 h9 h10) with rfl | rfl | rfl | rfl
            · exact ⟨_, _, _, by
                  exact Run.ex 4000 (Nat.le_of_ble_eq_true rfl) ⟨_, _, rfl⟩ rfl, by
                  exact Run.ex 4000 (Nat.le_of_ble_eq_true rfl) ⟨_, _, rfl⟩ rfl⟩
            · exact ⟨_, _, _, by
                  exact Run.ex 4000 (Nat.le_of_ble_eq_true rfl) ⟨_, _, rfl⟩ rfl, by
                  exact Run.ex 4000 (Nat.le_of_ble_eq_true rfl) ⟨_, _, rfl⟩ rfl⟩
            · exact ⟨_, _, _, by
                  exact Run.ex 4000 (Nat.le_of_ble_eq_true rfl) ⟨_, _, rfl⟩ rfl, by
                  exact Run.ex 4000 (Nat.le_of_ble_eq_true rfl) ⟨_, _, rfl⟩ rfl⟩
            · exact ⟨_, _, _, by
                  exact Run.ex 4000 (Nat.le_of_ble_eq_true rfl) ⟨_, _, rfl⟩ rfl, by
                  exact Run.ex 4000 (Nat.le_of_ble_eq_true rfl) ⟨_, _, rfl⟩ rfl⟩
          · exact ⟨_, _, _, by
                refine ⟨Nat.le_of_ble_eq_true rfl, ⟨_, _, rfl⟩, ?_⟩
                refine RA.steps 2 rfl ?_
                refine RA.call0 rfl rfl rfl (Run.ex 4000 (Nat.le_of_ble_eq_true rfl) ⟨_, _, rfl⟩ rfl) ?_
                refine RA.steps 3 rfl ?_
                refine RA.call0 rfl rfl rfl (by
                  refine ⟨Nat.le_of_ble_eq_true rfl, ⟨_, _, rfl⟩, ?_⟩
                  refine RA.steps 1 rfl ?_
                  refine RA.if1F rfl (decide_eq_false h9) ?_
                  refine RA.steps 4 rfl ?_
                  refine RA.if2T rfl (decide_eq_true (Int32.not_lt.mp h10)) ?_
                  refine RA.steps 1 rfl ?_
                  exact RA.ret rfl rfl) ?_
                refine RA.steps 6 rfl ?_
                exact RA.ret rfl rfl, by
                refine ⟨Nat.le_of_ble_eq_true rfl, ⟨_, _, rfl⟩, ?_⟩
                refine RA.steps 1 rfl ?_
                refine RA.call0 rfl rfl rfl (Run.ex 4000 (Nat.le_of_ble_eq_true rfl) ⟨_, _, rfl⟩ rfl) ?_
                refine RA.steps 2 rfl ?_
                refine RA.call0 rfl rfl rfl (by
                  refine ⟨Nat.le_of_ble_eq_true rfl, ⟨_, _, rfl⟩, ?_⟩
                  refine RA.steps 4 rfl ?_
                  refine RA.call0 rfl rfl rfl (isIn_f (v := c) (lo := 0) (hi := 3) (fun q => h10 (le_lt_4 q.2))) ?_
                  exact RA.ret rfl rfl) ?_
                refine RA.steps 2 rfl ?_
                exact RA.ret rfl rfl⟩
      · by_cases h11 : c < 0
        · exact ⟨_, _, _, by
              refine ⟨Nat.le_of_ble_eq_true rfl, ⟨_, _, rfl⟩, ?_⟩
              refine RA.steps 2 rfl ?_
              refine RA.call0 rfl rfl rfl (Run.ex 4000 (Nat.le_of_ble_eq_true rfl) ⟨_, _, rfl⟩ rfl) ?_
              refine RA.steps 3 rfl ?_
              refine RA.call0 rfl rfl rfl (by
                refine ⟨Nat.le_of_ble_eq_true rfl, ⟨_, _, rfl⟩, ?_⟩
                refine RA.steps 1 rfl ?_
                refine RA.if1T rfl (decide_eq_true h11) ?_
                refine RA.steps 1 rfl ?_
                exact RA.ret rfl rfl) ?_
              refine RA.steps 6 rfl ?_
              exact RA.ret rfl rfl, by
              refine ⟨Nat.le_of_ble_eq_true rfl, ⟨_, _, rfl⟩, ?_⟩
              refine RA.steps 1 rfl ?_
              refine RA.call0 rfl rfl rfl (Run.ex 4000 (Nat.le_of_ble_eq_true rfl) ⟨_, _, rfl⟩ rfl) ?_
              refine RA.steps 2 rfl ?_
              refine RA.call0 rfl rfl rfl (by
                refine ⟨Nat.le_of_ble_eq_true rfl, ⟨_, _, rfl⟩, ?_⟩
                refine RA.steps 4 rfl ?_
                refine RA.call0 rfl rfl rfl (isIn_f (v := c) (lo := 0) (hi := 3) (fun q => absurd h11 (Int32.not_lt.mpr q.1))) ?_
                exact RA.ret rfl rfl) ?_
              refine RA.steps 2 rfl ?_
              exact RA.ret rfl rfl⟩
        · by_cases h12 : c < 4
          · rcases cases_0_3 (in_lt_4 h11 h12) with rfl | rfl | rfl | rfl
            · exact ⟨_, _, _, by
                  exact Run.ex 4000 (Nat.le_of_ble_eq_true rfl) ⟨_, _, rfl⟩ rfl, by
                  exact Run.ex 4000 (Nat.le_of_ble_eq_true rfl) ⟨_, _, rfl⟩ rfl⟩
            · exact ⟨_, _, _, by
                  exact Run.ex 4000 (Nat.le_of_ble_eq_true rfl) ⟨_, _, rfl⟩ rfl, by
                  exact Run.ex 4000 (Nat.le_of_ble_eq_true rfl) ⟨_, _, rfl⟩ rfl⟩
            · exact ⟨_, _, _, by
                  exact Run.ex 4000 (Nat.le_of_ble_eq_true rfl) ⟨_, _, rfl⟩ rfl, by
                  exact Run.ex 4000 (Nat.le_of_ble_eq_true rfl) ⟨_, _, rfl⟩ rfl⟩
            · exact ⟨_, _, _, by
                  exact Run.ex 4000 (Nat.le_of_ble_eq_true rfl) ⟨_, _, rfl⟩ rfl, by
                  exact Run.ex 4000 (Nat.le_of_ble_eq_true rfl) ⟨_, _, rfl⟩ rfl⟩
          · exact ⟨_, _, _, by
                refine ⟨Nat.le_of_ble_eq_true rfl, ⟨_, _, rfl⟩, ?_⟩
                refine RA.steps 2 rfl ?_
                refine RA.call0 rfl rfl rfl (Run.ex 4000 (Nat.le_of_ble_eq_true rfl) ⟨_, _, rfl⟩ rfl) ?_
                refine RA.steps 3 rfl ?_
                refine RA.call0 rfl rfl rfl (by
                  refine ⟨Nat.le_of_ble_eq_true rfl, ⟨_, _, rfl⟩, ?_⟩
                  refine RA.steps 1 rfl ?_
                  refine RA.if1F rfl (decide_eq_false h11) ?_
                  refine RA.steps 4 rfl ?_
                  refine RA.if2T rfl (decide_eq_true (Int32.not_lt.mp h12)) ?_
                  refine RA.steps 1 rfl ?_
                  exact RA.ret rfl rfl) ?_
                refine RA.steps 6 rfl ?_
                exact RA.ret rfl rfl, by
                refine ⟨Nat.le_of_ble_eq_true rfl, ⟨_, _, rfl⟩, ?_⟩
                refine RA.steps 1 rfl ?_
                refine RA.call0 rfl rfl rfl (Run.ex 4000 (Nat.le_of_ble_eq_true rfl) ⟨_, _, rfl⟩ rfl) ?_
                refine RA.steps 2 rfl ?_
                refine RA.call0 rfl rfl rfl (by
                  refine ⟨Nat.le_of_ble_eq_true rfl, ⟨_, _, rfl⟩, ?_⟩
                  refine RA.steps 4 rfl ?_
                  refine RA.call0 rfl rfl rfl (isIn_f (v := c) (lo := 0) (hi := 3) (fun q => h12 (le_lt_4 q.2))) ?_
                  exact RA.ret rfl rfl) ?_
                refine RA.steps 2 rfl ?_
                exact RA.ret rfl rfl⟩
    · by_cases h13 : c < 0
      · exact ⟨_, _, _, by
            refine ⟨Nat.le_of_ble_eq_true rfl, ⟨_, _, rfl⟩, ?_⟩
            refine RA.steps 2 rfl ?_
            refine RA.call0 rfl rfl rfl (by
              refine ⟨Nat.le_of_ble_eq_true rfl, ⟨_, _, rfl⟩, ?_⟩
              refine RA.steps 1 rfl ?_
              refine RA.if1F rfl (decide_eq_false h1) ?_
              refine RA.steps 4 rfl ?_
              refine RA.if2T rfl (decide_eq_true (Int32.not_lt.mp h4)) ?_
              refine RA.steps 1 rfl ?_
              exact RA.ret rfl rfl) ?_
            refine RA.steps 3 rfl ?_
            refine RA.call0 rfl rfl rfl (by
              refine ⟨Nat.le_of_ble_eq_true rfl, ⟨_, _, rfl⟩, ?_⟩
              refine RA.steps 1 rfl ?_
              refine RA.if1T rfl (decide_eq_true h13) ?_
              refine RA.steps 1 rfl ?_
              exact RA.ret rfl rfl) ?_
            refine RA.steps 4 rfl ?_
            exact RA.ret rfl rfl, by
            refine ⟨Nat.le_of_ble_eq_true rfl, ⟨_, _, rfl⟩, ?_⟩
            refine RA.steps 1 rfl ?_
            refine RA.call0 rfl rfl rfl (by
              refine ⟨Nat.le_of_ble_eq_true rfl, ⟨_, _, rfl⟩, ?_⟩
              refine RA.steps 4 rfl ?_
              refine RA.call0 rfl rfl rfl (isIn_f (v := a) (lo := 0) (hi := 3) (fun q => h4 (le_lt_4 q.2))) ?_
              exact RA.ret rfl rfl) ?_
            refine RA.steps 2 rfl ?_
            exact RA.ret rfl rfl⟩
      · by_cases h14 : c < 4
        · rcases cases_0_3 (in_lt_4 h13 h14) with rfl | rfl | rfl | rfl
          · exact ⟨_, _, _, by
                refine ⟨Nat.le_of_ble_eq_true rfl, ⟨_, _, rfl⟩, ?_⟩
                refine RA.steps 2 rfl ?_
                refine RA.call0 rfl rfl rfl (by
                  refine ⟨Nat.le_of_ble_eq_true rfl, ⟨_, _, rfl⟩, ?_⟩
                  refine RA.steps 1 rfl ?_
                  refine RA.if1F rfl (decide_eq_false h1) ?_
                  refine RA.steps 4 rfl ?_
                  refine RA.if2T rfl (decide_eq_true (Int32.not_lt.mp h4)) ?_
                  refine RA.steps 1 rfl ?_
                  exact RA.ret rfl rfl) ?_
                refine RA.steps 3 rfl ?_
                refine RA.call0 rfl rfl rfl (Run.ex 4000 (Nat.le_of_ble_eq_true rfl) ⟨_, _, rfl⟩ rfl) ?_
                refine RA.steps 4 rfl ?_
                exact RA.ret rfl rfl, by
                refine ⟨Nat.le_of_ble_eq_true rfl, ⟨_, _, rfl⟩, ?_⟩
                refine RA.steps 1 rfl ?_
                refine RA.call0 rfl rfl rfl (by
                  refine ⟨Nat.le_of_ble_eq_true rfl, ⟨_, _, rfl⟩, ?_⟩
                  refine RA.steps 4 rfl ?_
                  refine RA.call0 rfl rfl rfl (isIn_f (v := a) (lo := 0) (hi := 3) (fun q => h4 (le_lt_4 q.2))) ?_
                  exact RA.ret rfl rfl) ?_
                refine RA.steps 2 rfl ?_
                exact RA.ret rfl rfl⟩
          · exact ⟨_, _, _, by
                refine ⟨Nat.le_of_ble_eq_true rfl, ⟨_, _, rfl⟩, ?_⟩
                refine RA.steps 2 rfl ?_
                refine RA.call0 rfl rfl rfl (by
                  refine ⟨Nat.le_of_ble_eq_true rfl, ⟨_, _, rfl⟩, ?_⟩
                  refine RA.steps 1 rfl ?_
                  refine RA.if1F rfl (decide_eq_false h1) ?_
                  refine RA.steps 4 rfl ?_
                  refine RA.if2T rfl (decide_eq_true (Int32.not_lt.mp h4)) ?_
                  refine RA.steps 1 rfl ?_
                  exact RA.ret rfl rfl) ?_
                refine RA.steps 3 rfl ?_
                refine RA.call0 rfl rfl rfl (Run.ex 4000 (Nat.le_of_ble_eq_true rfl) ⟨_, _, rfl⟩ rfl) ?_
                refine RA.steps 4 rfl ?_
                exact RA.ret rfl rfl, by
                refine ⟨Nat.le_of_ble_eq_true rfl, ⟨_, _, rfl⟩, ?_⟩
                refine RA.steps 1 rfl ?_
                refine RA.call0 rfl rfl rfl (by
                  refine ⟨Nat.le_of_ble_eq_true rfl, ⟨_, _, rfl⟩, ?_⟩
                  refine RA.steps 4 rfl ?_
                  refine RA.call0 rfl rfl rfl (isIn_f (v := a) (lo := 0) (hi := 3) (fun q => h4 (le_lt_4 q.2))) ?_
                  exact RA.ret rfl rfl) ?_
                refine RA.steps 2 rfl ?_
                exact RA.ret rfl rfl⟩
          · exact ⟨_, _, _, by
                refine ⟨Nat.le_of_ble_eq_true rfl, ⟨_, _, rfl⟩, ?_⟩
                refine RA.steps 2 rfl ?_
                refine RA.call0 rfl rfl rfl (by
                  refine ⟨Nat.le_of_ble_eq_true rfl, ⟨_, _, rfl⟩, ?_⟩
                  refine RA.steps 1 rfl ?_
                  refine RA.if1F rfl (decide_eq_false h1) ?_
                  refine RA.steps 4 rfl ?_
                  refine RA.if2T rfl (decide_eq_true (Int32.not_lt.mp h4)) ?_
                  refine RA.steps 1 rfl ?_
                  exact RA.ret rfl rfl) ?_
                refine RA.steps 3 rfl ?_
                refine RA.call0 rfl rfl rfl (Run.ex 4000 (Nat.le_of_ble_eq_true rfl) ⟨_, _, rfl⟩ rfl) ?_
                refine RA.steps 4 rfl ?_
                exact RA.ret rfl rfl, by
                refine ⟨Nat.le_of_ble_eq_true rfl, ⟨_, _, rfl⟩, ?_⟩
                refine RA.steps 1 rfl ?_
                refine RA.call0 rfl rfl rfl (by
                  refine ⟨Nat.le_of_ble_eq_true rfl, ⟨_, _, rfl⟩, ?_⟩
                  refine RA.steps 4 rfl ?_
                  refine RA.call0 rfl rfl rfl (isIn_f (v := a) (lo := 0) (hi := 3) (fun q => h4 (le_lt_4 q.2))) ?_
                  exact RA.ret rfl rfl) ?_
                refine RA.steps 2 rfl ?_
                exact RA.ret rfl rfl⟩
          · exact ⟨_, _, _, by
                refine ⟨Nat.le_of_ble_eq_true rfl, ⟨_, _, rfl⟩, ?_⟩
                refine RA.steps 2 rfl ?_
                refine RA.call0 rfl rfl rfl (by
                  refine ⟨Nat.le_of_ble_eq_true rfl, ⟨_, _, rfl⟩, ?_⟩
                  refine RA.steps 1 rfl ?_
                  refine RA.if1F rfl (decide_eq_false h1) ?_
                  refine RA.steps 4 rfl ?_
                  refine RA.if2T rfl (decide_eq_true (Int32.not_lt.mp h4)) ?_
                  refine RA.steps 1 rfl ?_
                  exact RA.ret rfl rfl) ?_
                refine RA.steps 3 rfl ?_
                refine RA.call0 rfl rfl rfl (Run.ex 4000 (Nat.le_of_ble_eq_true rfl) ⟨_, _, rfl⟩ rfl) ?_
                refine RA.steps 4 rfl ?_
                exact RA.ret rfl rfl, by
                refine ⟨Nat.le_of_ble_eq_true rfl, ⟨_, _, rfl⟩, ?_⟩
                refine RA.steps 1 rfl ?_
                refine RA.call0 rfl rfl rfl (by
                  refine ⟨Nat.le_of_ble_eq_true rfl, ⟨_, _, rfl⟩, ?_⟩
                  refine RA.steps 4 rfl ?_
                  refine RA.call0 rfl rfl rfl (isIn_f (v := a) (lo := 0) (hi := 3) (fun q => h4 (le_lt_4 q.2))) ?_
                  exact RA.ret rfl rfl) ?_
                refine RA.steps 2 rfl ?_
                exact RA.ret rfl rfl⟩
        · exact ⟨_, _, _, by
              refine ⟨Nat.le_of_ble_eq_true rfl, ⟨_, _, rfl⟩, ?_⟩
              refine RA.steps 2 rfl ?_
              refine RA.call0 rfl rfl rfl (by
                refine ⟨Nat.le_of_ble_eq_true rfl, ⟨_, _, rfl⟩, ?_⟩
                refine RA.steps 1 rfl ?_
                refine RA.if1F rfl (decide_eq_false h1) ?_
                refine RA.steps 4 rfl ?_
                refine RA.if2T rfl (decide_eq_true (Int32.not_lt.mp h4)) ?_
                refine RA.steps 1 rfl ?_
                exact RA.ret rfl rfl) ?_
              refine RA.steps 3 rfl ?_
              refine RA.call0 rfl rfl rfl (by
                refine ⟨Nat.le_of_ble_eq_true rfl, ⟨_, _, rfl⟩, ?_⟩
                refine RA.steps 1 rfl ?_
                refine RA.if1F rfl (decide_eq_false h13) ?_
                refine RA.steps 4 rfl ?_
                refine RA.if2T rfl (decide_eq_true (Int32.not_lt.mp h14)) ?_
                refine RA.steps 1 rfl ?_
                exact RA.ret rfl rfl) ?_
              refine RA.steps 4 rfl ?_
              exact RA.ret rfl rfl, by
              refine ⟨Nat.le_of_ble_eq_true rfl, ⟨_, _, rfl⟩, ?_⟩
              refine RA.steps 1 rfl ?_
              refine RA.call0 rfl rfl rfl (by
                refine ⟨Nat.le_of_ble_eq_true rfl, ⟨_, _, rfl⟩, ?_⟩
                refine RA.steps 4 rfl ?_
                refine RA.call0 rfl rfl rfl (isIn_f (v := a) (lo := 0) (hi := 3) (fun q => h4 (le_lt_4 q.2))) ?_
                exact RA.ret rfl rfl) ?_
              refine RA.steps 2 rfl ?_
              exact RA.ret rfl rfl⟩
end
section
/-! ===== a row of a sheet is filled with 0 ===== -/
section FIL
variable {E : pX} {V : pV} {d : Nat} {h : List pC}
theorem fill_loop {a : Nat} : ∀ (m K : Nat) (h : List pC) (f : Nat → Int32), K + m = 24 → pint h a = some (24, f) → ∃ f' : Nat → Int32, RA prog E V (d + 1) mJ7_fill_53178 5 [some (.ref a), some (.int 0), some (.int (nI K)), some (.int 24)] [] h (none, h.set a (.inl (24, f')), 0, 0) := by
  intro m
  induction m with
  | zero =>
    intro K h f hK ho
    obtain rfl : K = 24 := by omega
    refine ⟨f, ?_⟩
    refine RA.steps 2 rfl ?_
    refine RA.if2T rfl rfl ?_
    exact RA.to (RA.ret rfl rfl) (by rw [set_sameI ho])
  | succ m ih =>
    intro K h f hK ho
    have hK2 : K < 24 := by omega
    have hj : 0 ≤ nI K ∧ (nI K).toNatClampNeg < 24 := ⟨nI_pos' (by omega), by rw [nI_clamp (show K < 2 ^ 31 by omega)]; omega⟩
    obtain ⟨f', hr⟩ := ih (K + 1) (h.set a (.inl (24, va_up f (nI K).toNatClampNeg 0))) _ (by omega) (pint_set (pint_lt ho))
    rw [List.set_set] at hr
    refine ⟨f', ?_⟩
    refine RA.steps 2 rfl ?_
    refine RA.if2F rfl (decide_eq_false (show ¬ nI 24 ≤ nI K from nI_ge hK2 (by omega))) ?_
    refine RA.steps 3 rfl ?_
    refine RA.iast rfl ho hj ?_
    refine RA.iinc rfl rfl (nI_1 K) rfl ?_
    refine RA.steps 1 rfl ?_
    exact hr
theorem fill_run {a : Nat} {f : Nat → Int32} (ho : pint h a = some (24, f)) : ∃ f' : Nat → Int32, Run prog E V (d + 1) mJ7_fill_53178 [.ref a, .int 0] h (none, h.set a (.inl (24, f')), 0, 0) := by
  obtain ⟨f', hr⟩ := fill_loop (E := E) (V := V) (d := d) 24 0 h f rfl ho
  refine ⟨f', Nat.le_of_ble_eq_true rfl, ⟨_, _, rfl⟩, ?_⟩
  refine RA.steps 3 rfl ?_
  refine RA.alen rfl ho ?_
  refine RA.steps 1 rfl ?_
  exact hr
theorem sh_loop {fs : List Value} {g : Nat → Int32} {B5 B6 S : Nat} {so n w : Int32} (h5 : fs[5]? = some (.ref B5)) (h6 : fs[6]? = some (.ref B6)) (hne : B6 ≠ B5) (h6n : B6 ≠ 110) (hS : S < 4) (hw : g S = w) : ∀ (m K : Nat) (h : List pC) (f : Nat → Int32), K + m = 24 → pobj h 110 = some (8, fs) → pint h B5 = some (4, g) → pint h B6 = some (96, f) →
    ∃ h' : List pC, RA prog E V (d + 1) mX8_sheet 38 [some (.ref 110), some (.int (nI S)), some (.int so), some (.int n), some (.int (nI K))] [] h (some (.int w), h', 0, 0) := by
  intro m
  induction m with
  | zero =>
    intro K h f hK ho hb5 hb6
    obtain rfl : K = 24 := by omega
    refine ⟨h, ?_⟩
    refine RA.steps 2 rfl ?_
    refine RA.if2T rfl rfl ?_
    refine RA.steps 1 rfl ?_
    refine RA.getf rfl ho rfl h5 ?_
    refine RA.steps 1 rfl ?_
    refine RA.iald (w := w) rfl hb5 ⟨nI_pos' (by omega), by rw [nI_clamp (show S < 2 ^ 31 by omega)]; exact hS⟩ (by rw [nI_clamp (show S < 2 ^ 31 by omega)]; exact hw) ?_
    exact RA.ret rfl rfl
  | succ m ih =>
    intro K h f hK ho hb5 hb6
    have hK2 : K < 24 := by omega
    have e : 24 * nI S = nI (24 * S) := by
      rcases (show S = 0 ∨ S = 1 ∨ S = 2 ∨ S = 3 by omega) with rfl | rfl | rfl | rfl <;> decide
    have hj : 0 ≤ 24 * nI S + nI K ∧ (24 * nI S + nI K).toNatClampNeg < 96 := by
      rw [e, nI_add]
      exact ⟨nI_pos' (by omega), by rw [nI_clamp (show 24 * S + K < 2 ^ 31 by omega)]; omega⟩
    obtain ⟨h', hr⟩ := ih (K + 1) (h.set B6 (.inl (96, va_up f (24 * nI S + nI K).toNatClampNeg 0))) _ (by omega) ((pobj_ne h6n).trans ho) ((pint_ne hne).trans hb5) (pint_set (pint_lt hb6))
    refine ⟨h', ?_⟩
    refine RA.steps 2 rfl ?_
    refine RA.if2F rfl (decide_eq_false (show ¬ nI 24 ≤ nI K from nI_ge hK2 (by omega))) ?_
    refine RA.steps 1 rfl ?_
    refine RA.getf rfl ho rfl h6 ?_
    refine RA.steps 6 rfl ?_
    refine RA.iast rfl hb6 hj ?_
    refine RA.iinc rfl rfl (nI_1 K) rfl ?_
    refine RA.steps 1 rfl ?_
    exact hr
theorem sh_run {fs : List Value} {f g : Nat → Int32} {B5 B6 S : Nat} {so n w : Int32} (ho : pobj h 110 = some (8, fs)) (h5 : fs[5]? = some (.ref B5)) (h6 : fs[6]? = some (.ref B6)) (hb5 : pint h B5 = some (4, g)) (hb6 : pint h B6 = some (96, f)) (hw : g S = w) (hne : B6 ≠ B5) (h6n : B6 ≠ 110) (hS : S < 4) : ∃ h' : List pC, RA prog E V (d + 1) mX8_sheet 38 [some (.ref 110), some (.int (nI S)), some (.int so), some (.int n), some (.int 0)] [] h (some (.int w), h', 0, 0) :=
  sh_loop h5 h6 hne h6n hS hw 24 0 h f rfl ho hb5 hb6
end FIL
end
section
set_option maxRecDepth 100000 in
set_option maxHeartbeats 60000000 in
theorem q_sheet (E : pX) (a b c : Int32) : ∃ (r : Int32) (h1 h2 : List pC), Run prog E pV0 40 mX7_sheet [.ref 0, .int a, .int b, .int c] h0 (some (.int r), h1, 0, 0) ∧ Run prog E pV0 40 mX8_sheet [.ref 110, .int a, .int b, .int c] h1 (some (.int r), h2, 0, 0) := by
  by_cases h1 : a < 0
  · exact ⟨(-1000000001), h0, _, by
        refine ⟨Nat.le_of_ble_eq_true rfl, ⟨_, _, rfl⟩, ?_⟩
        refine RA.steps (i' := 2) (L' := [some (.ref 0), some (.int a), some (.int b), some (.int c), none]) (st' := [.int a, .ref 0]) (h' := h0) 2 rfl ?_
        refine RA.call0 (h1 := h0) (r1 := some (.null)) rfl rfl rfl (by
          refine ⟨Nat.le_of_ble_eq_true rfl, ⟨_, _, rfl⟩, ?_⟩
          refine RA.steps (i' := 1) (L' := [some (.ref 0), some (.int a)]) (st' := [.int a]) (h' := h0) 1 rfl ?_
          refine RA.if1T rfl (decide_eq_true h1) ?_
          refine RA.steps (i' := 13) (L' := [some (.ref 0), some (.int a)]) (st' := [.null]) (h' := h0) 1 rfl ?_
          exact RA.ret rfl rfl) ?_
        refine RA.steps (i' := 12) (L' := [some (.ref 0), some (.int a), some (.int b), some (.int c), some (.null)]) (st' := [.int (-1000000001)]) (h' := h0) 4 rfl ?_
        exact RA.ret rfl rfl, by
        refine ⟨Nat.le_of_ble_eq_true rfl, ⟨_, _, rfl⟩, ?_⟩
        refine RA.steps (i' := 1) (L' := [some (.ref 110), some (.int a), some (.int b), some (.int c), none]) (st' := [.int a]) (h' := h0) 1 rfl ?_
        refine RA.call0 (h1 := h0) (r1 := some (.int 0)) rfl rfl rfl (by
          refine ⟨Nat.le_of_ble_eq_true rfl, ⟨_, _, rfl⟩, ?_⟩
          refine RA.steps (i' := 4) (L' := [some (.int a)]) (st' := [.long 3, .long 0, .long (a : Int32).toInt64]) (h' := h0) 4 rfl ?_
          refine RA.call0 rfl rfl rfl (isIn_f (v := a) (lo := 0) (hi := 3) (fun q => absurd h1 (Int32.not_lt.mpr q.1))) ?_
          exact RA.ret rfl rfl) ?_
        refine RA.steps (i' := 15) (L' := [some (.ref 110), some (.int a), some (.int b), some (.int c), none]) (st' := [.int (-1000000001)]) (h' := h0) 2 rfl ?_
        exact RA.ret rfl rfl⟩
  · by_cases h2 : a < 4
    · rcases cases_0_3 (in_lt_4 h1 h2) with rfl | rfl | rfl | rfl
      · by_cases h3 : (-1) ≤ b ∧ b ≤ 1
        · rcases cases_m1_1 h3 with rfl | rfl | rfl
          · obtain ⟨f0, hf0⟩ := fill_run (E := E) (V := pV0) (d := 37) (h := h0) (a := 83) rfl
            obtain ⟨hx1, hs1⟩ := sh_run (E := E) (V := pV0) (d := 39) (S := 0) (so := (-1)) (n := c) (w := 0) (h := (((h0.set 83 (.inl (24, f0))).set 114 (.inl (4, va_up (va_up (va_up (va_up (va_up (fun _ => 0) 0 (-1)) 1 (-1)) 2 (-1)) 3 (-1)) 0 (-1)))).set 115 (.inl (4, va_up (fun _ => 0) 0 0)))) rfl rfl rfl rfl rfl rfl (by decide) (by decide) (by decide)
            exact ⟨0, (h0.set 83 (.inl (24, f0))), _, by
                refine ⟨Nat.le_of_ble_eq_true rfl, ⟨_, _, rfl⟩, ?_⟩
                refine RA.steps (i' := 2) (L' := [some (.ref 0), some (.int 0), some (.int (-1)), some (.int c), none]) (st' := [.int 0, .ref 0]) (h' := h0) 2 rfl ?_
                refine RA.call0 (h1 := h0) (r1 := some (.ref 82)) rfl rfl rfl (Run.ex 4000 (Nat.le_of_ble_eq_true rfl) ⟨_, _, rfl⟩ rfl) ?_
                refine RA.steps (i' := 9) (L' := [some (.ref 0), some (.int 0), some (.int (-1)), some (.int c), some (.ref 82)]) (st' := [.int 1, .int (-1), .int (-1)]) (h' := h0) 6 rfl ?_
                refine RA.call0 (h1 := h0) (r1 := some (.int 1)) rfl rfl rfl (Run.ex 4000 (Nat.le_of_ble_eq_true rfl) ⟨_, _, rfl⟩ rfl) ?_
                refine RA.steps (i' := 19) (L' := [some (.ref 0), some (.int 0), some (.int (-1)), some (.int c), some (.ref 82)]) (st' := [.int 0, .int (-1), .ref 82]) (h' := h0) 7 rfl ?_
                refine RA.call0 (h1 := (h0.set 83 (.inl (24, f0)))) (r1 := none) rfl rfl rfl (by
                  refine ⟨Nat.le_of_ble_eq_true rfl, ⟨_, _, rfl⟩, ?_⟩
                  refine RA.steps (i' := 9) (L' := [some (.ref 82), some (.int (-1)), some (.int 0)]) (st' := [.int 0, .ref 83]) (h' := h0) 9 rfl ?_
                  refine RA.call0 rfl rfl rfl hf0 ?_
                  exact RA.ret rfl rfl) ?_
                refine RA.steps (i' := 21) (L' := [some (.ref 0), some (.int 0), some (.int (-1)), some (.int c), some (.ref 82)]) (st' := [.int 0]) (h' := (h0.set 83 (.inl (24, f0)))) 1 rfl ?_
                exact RA.ret rfl rfl, by
                refine ⟨Nat.le_of_ble_eq_true rfl, ⟨_, _, rfl⟩, ?_⟩
                refine RA.steps (i' := 1) (L' := [some (.ref 110), some (.int 0), some (.int (-1)), some (.int c), none]) (st' := [.int 0]) (h' := (h0.set 83 (.inl (24, f0)))) 1 rfl ?_
                refine RA.call0 (h1 := (h0.set 83 (.inl (24, f0)))) (r1 := some (.int 1)) rfl rfl rfl (Run.ex 4000 (Nat.le_of_ble_eq_true rfl) ⟨_, _, rfl⟩ rfl) ?_
                refine RA.steps (i' := 7) (L' := [some (.ref 110), some (.int 0), some (.int (-1)), some (.int c), none]) (st' := [.long 1, .long (-1), .long (-1)]) (h' := (h0.set 83 (.inl (24, f0)))) 5 rfl ?_
                refine RA.call0 (h1 := (h0.set 83 (.inl (24, f0)))) (r1 := some (.int 1)) rfl rfl rfl (Run.ex 4000 (Nat.le_of_ble_eq_true rfl) ⟨_, _, rfl⟩ rfl) ?_
                refine RA.steps (i' := 38) (L' := [some (.ref 110), some (.int 0), some (.int (-1)), some (.int c), some (.int 0)]) (st' := []) (h' := (((h0.set 83 (.inl (24, f0))).set 114 (.inl (4, va_up (va_up (va_up (va_up (va_up (fun _ => 0) 0 (-1)) 1 (-1)) 2 (-1)) 3 (-1)) 0 (-1)))).set 115 (.inl (4, va_up (fun _ => 0) 0 0)))) 20 rfl ?_
                exact hs1⟩
          · by_cases h4 : 24 < c
            · exact ⟨(-1000000001), h0, _, by
                  refine ⟨Nat.le_of_ble_eq_true rfl, ⟨_, _, rfl⟩, ?_⟩
                  refine RA.steps (i' := 2) (L' := [some (.ref 0), some (.int 0), some (.int 0), some (.int c), none]) (st' := [.int 0, .ref 0]) (h' := h0) 2 rfl ?_
                  refine RA.call0 (h1 := h0) (r1 := some (.ref 82)) rfl rfl rfl (Run.ex 4000 (Nat.le_of_ble_eq_true rfl) ⟨_, _, rfl⟩ rfl) ?_
                  refine RA.steps (i' := 9) (L' := [some (.ref 0), some (.int 0), some (.int 0), some (.int c), some (.ref 82)]) (st' := [.int 1, .int (-1), .int 0]) (h' := h0) 6 rfl ?_
                  refine RA.call0 (h1 := h0) (r1 := some (.int 1)) rfl rfl rfl (Run.ex 4000 (Nat.le_of_ble_eq_true rfl) ⟨_, _, rfl⟩ rfl) ?_
                  refine RA.steps (i' := 24) (L' := [some (.ref 0), some (.int 0), some (.int 0), some (.int c), some (.ref 82)]) (st' := [.int 24, .int c]) (h' := h0) 6 rfl ?_
                  refine RA.if2F rfl (decide_eq_false (Int32.not_le.mpr h4)) ?_
                  refine RA.steps (i' := 26) (L' := [some (.ref 0), some (.int 0), some (.int 0), some (.int c), some (.ref 82)]) (st' := [.int (-1000000001)]) (h' := h0) 1 rfl ?_
                  exact RA.ret rfl rfl, by
                  refine ⟨Nat.le_of_ble_eq_true rfl, ⟨_, _, rfl⟩, ?_⟩
                  refine RA.steps (i' := 1) (L' := [some (.ref 110), some (.int 0), some (.int 0), some (.int c), none]) (st' := [.int 0]) (h' := h0) 1 rfl ?_
                  refine RA.call0 (h1 := h0) (r1 := some (.int 1)) rfl rfl rfl (Run.ex 4000 (Nat.le_of_ble_eq_true rfl) ⟨_, _, rfl⟩ rfl) ?_
                  refine RA.steps (i' := 7) (L' := [some (.ref 110), some (.int 0), some (.int 0), some (.int c), none]) (st' := [.long 1, .long (-1), .long 0]) (h' := h0) 5 rfl ?_
                  refine RA.call0 (h1 := h0) (r1 := some (.int 1)) rfl rfl rfl (Run.ex 4000 (Nat.le_of_ble_eq_true rfl) ⟨_, _, rfl⟩ rfl) ?_
                  refine RA.steps (i' := 13) (L' := [some (.ref 110), some (.int 0), some (.int 0), some (.int c), none]) (st' := [.int 24, .int c]) (h' := h0) 5 rfl ?_
                  refine RA.if2F rfl (decide_eq_false (Int32.not_le.mpr h4)) ?_
                  refine RA.steps (i' := 15) (L' := [some (.ref 110), some (.int 0), some (.int 0), some (.int c), none]) (st' := [.int (-1000000001)]) (h' := h0) 1 rfl ?_
                  exact RA.ret rfl rfl⟩
            · by_cases h5 : c < 0
              · exact ⟨(-1000000014), h0, _, by
                    refine ⟨Nat.le_of_ble_eq_true rfl, ⟨_, _, rfl⟩, ?_⟩
                    refine RA.steps (i' := 2) (L' := [some (.ref 0), some (.int 0), some (.int 0), some (.int c), none]) (st' := [.int 0, .ref 0]) (h' := h0) 2 rfl ?_
                    refine RA.call0 (h1 := h0) (r1 := some (.ref 82)) rfl rfl rfl (Run.ex 4000 (Nat.le_of_ble_eq_true rfl) ⟨_, _, rfl⟩ rfl) ?_
                    refine RA.steps (i' := 9) (L' := [some (.ref 0), some (.int 0), some (.int 0), some (.int c), some (.ref 82)]) (st' := [.int 1, .int (-1), .int 0]) (h' := h0) 6 rfl ?_
                    refine RA.call0 (h1 := h0) (r1 := some (.int 1)) rfl rfl rfl (Run.ex 4000 (Nat.le_of_ble_eq_true rfl) ⟨_, _, rfl⟩ rfl) ?_
                    refine RA.steps (i' := 24) (L' := [some (.ref 0), some (.int 0), some (.int 0), some (.int c), some (.ref 82)]) (st' := [.int 24, .int c]) (h' := h0) 6 rfl ?_
                    refine RA.if2T rfl (decide_eq_true (Int32.not_lt.mp h4)) ?_
                    refine RA.steps (i' := 28) (L' := [some (.ref 0), some (.int 0), some (.int 0), some (.int c), some (.ref 82)]) (st' := [.int c]) (h' := h0) 1 rfl ?_
                    refine RA.if1F rfl (decide_eq_false (Int32.not_le.mpr h5)) ?_
                    refine RA.steps (i' := 30) (L' := [some (.ref 0), some (.int 0), some (.int 0), some (.int c), some (.ref 82)]) (st' := [.int (-1000000014)]) (h' := h0) 1 rfl ?_
                    exact RA.ret rfl rfl, by
                    refine ⟨Nat.le_of_ble_eq_true rfl, ⟨_, _, rfl⟩, ?_⟩
                    refine RA.steps (i' := 1) (L' := [some (.ref 110), some (.int 0), some (.int 0), some (.int c), none]) (st' := [.int 0]) (h' := h0) 1 rfl ?_
                    refine RA.call0 (h1 := h0) (r1 := some (.int 1)) rfl rfl rfl (Run.ex 4000 (Nat.le_of_ble_eq_true rfl) ⟨_, _, rfl⟩ rfl) ?_
                    refine RA.steps (i' := 7) (L' := [some (.ref 110), some (.int 0), some (.int 0), some (.int c), none]) (st' := [.long 1, .long (-1), .long 0]) (h' := h0) 5 rfl ?_
                    refine RA.call0 (h1 := h0) (r1 := some (.int 1)) rfl rfl rfl (Run.ex 4000 (Nat.le_of_ble_eq_true rfl) ⟨_, _, rfl⟩ rfl) ?_
                    refine RA.steps (i' := 13) (L' := [some (.ref 110), some (.int 0), some (.int 0), some (.int c), none]) (st' := [.int 24, .int c]) (h' := h0) 5 rfl ?_
                    refine RA.if2T rfl (decide_eq_true (Int32.not_lt.mp h4)) ?_
                    refine RA.steps (i' := 19) (L' := [some (.ref 110), some (.int 0), some (.int 0), some (.int c), none]) (st' := [.int c]) (h' := h0) 3 rfl ?_
                    refine RA.if1F rfl (decide_eq_false (Int32.not_le.mpr h5)) ?_
                    refine RA.steps (i' := 21) (L' := [some (.ref 110), some (.int 0), some (.int 0), some (.int c), none]) (st' := [.int (-1000000014)]) (h' := h0) 1 rfl ?_
                    exact RA.ret rfl rfl⟩
              · obtain ⟨f0, hf0⟩ := fill_run (E := E) (V := pV0) (d := 37) (h := (h0.set 82 (.inr (.inr (3, [.ref 83, .int 0, .int c]))))) (a := 83) rfl
                obtain ⟨hx1, hs1⟩ := sh_run (E := E) (V := pV0) (d := 39) (S := 0) (so := 0) (n := c) (w := c) (h := ((((h0.set 82 (.inr (.inr (3, [.ref 83, .int 0, .int c])))).set 83 (.inl (24, f0))).set 114 (.inl (4, va_up (va_up (va_up (va_up (va_up (fun _ => 0) 0 (-1)) 1 (-1)) 2 (-1)) 3 (-1)) 0 0))).set 115 (.inl (4, va_up (fun _ => 0) 0 c)))) rfl rfl rfl rfl rfl rfl (by decide) (by decide) (by decide)
                exact ⟨c, ((h0.set 82 (.inr (.inr (3, [.ref 83, .int 0, .int c])))).set 83 (.inl (24, f0))), _, by
                    refine ⟨Nat.le_of_ble_eq_true rfl, ⟨_, _, rfl⟩, ?_⟩
                    refine RA.steps (i' := 2) (L' := [some (.ref 0), some (.int 0), some (.int 0), some (.int c), none]) (st' := [.int 0, .ref 0]) (h' := h0) 2 rfl ?_
                    refine RA.call0 (h1 := h0) (r1 := some (.ref 82)) rfl rfl rfl (Run.ex 4000 (Nat.le_of_ble_eq_true rfl) ⟨_, _, rfl⟩ rfl) ?_
                    refine RA.steps (i' := 9) (L' := [some (.ref 0), some (.int 0), some (.int 0), some (.int c), some (.ref 82)]) (st' := [.int 1, .int (-1), .int 0]) (h' := h0) 6 rfl ?_
                    refine RA.call0 (h1 := h0) (r1 := some (.int 1)) rfl rfl rfl (Run.ex 4000 (Nat.le_of_ble_eq_true rfl) ⟨_, _, rfl⟩ rfl) ?_
                    refine RA.steps (i' := 24) (L' := [some (.ref 0), some (.int 0), some (.int 0), some (.int c), some (.ref 82)]) (st' := [.int 24, .int c]) (h' := h0) 6 rfl ?_
                    refine RA.if2T rfl (decide_eq_true (Int32.not_lt.mp h4)) ?_
                    refine RA.steps (i' := 28) (L' := [some (.ref 0), some (.int 0), some (.int 0), some (.int c), some (.ref 82)]) (st' := [.int c]) (h' := h0) 1 rfl ?_
                    refine RA.if1T rfl (decide_eq_true (Int32.not_lt.mp h5)) ?_
                    refine RA.steps (i' := 34) (L' := [some (.ref 0), some (.int 0), some (.int 0), some (.int c), some (.ref 82)]) (st' := [.int c, .int 0, .ref 82]) (h' := h0) 3 rfl ?_
                    refine RA.call0 (h1 := ((h0.set 82 (.inr (.inr (3, [.ref 83, .int 0, .int c])))).set 83 (.inl (24, f0)))) (r1 := none) rfl rfl rfl (by
                      refine ⟨Nat.le_of_ble_eq_true rfl, ⟨_, _, rfl⟩, ?_⟩
                      refine RA.steps (i' := 9) (L' := [some (.ref 82), some (.int 0), some (.int c)]) (st' := [.int 0, .ref 83]) (h' := (h0.set 82 (.inr (.inr (3, [.ref 83, .int 0, .int c]))))) 9 rfl ?_
                      refine RA.call0 rfl rfl rfl hf0 ?_
                      exact RA.ret rfl rfl) ?_
                    refine RA.steps (i' := 36) (L' := [some (.ref 0), some (.int 0), some (.int 0), some (.int c), some (.ref 82)]) (st' := [.int c]) (h' := ((h0.set 82 (.inr (.inr (3, [.ref 83, .int 0, .int c])))).set 83 (.inl (24, f0)))) 1 rfl ?_
                    exact RA.ret rfl rfl, by
                    refine ⟨Nat.le_of_ble_eq_true rfl, ⟨_, _, rfl⟩, ?_⟩
                    refine RA.steps (i' := 1) (L' := [some (.ref 110), some (.int 0), some (.int 0), some (.int c), none]) (st' := [.int 0]) (h' := ((h0.set 82 (.inr (.inr (3, [.ref 83, .int 0, .int c])))).set 83 (.inl (24, f0)))) 1 rfl ?_
                    refine RA.call0 (h1 := ((h0.set 82 (.inr (.inr (3, [.ref 83, .int 0, .int c])))).set 83 (.inl (24, f0)))) (r1 := some (.int 1)) rfl rfl rfl (Run.ex 4000 (Nat.le_of_ble_eq_true rfl) ⟨_, _, rfl⟩ rfl) ?_
                    refine RA.steps (i' := 7) (L' := [some (.ref 110), some (.int 0), some (.int 0), some (.int c), none]) (st' := [.long 1, .long (-1), .long 0]) (h' := ((h0.set 82 (.inr (.inr (3, [.ref 83, .int 0, .int c])))).set 83 (.inl (24, f0)))) 5 rfl ?_
                    refine RA.call0 (h1 := ((h0.set 82 (.inr (.inr (3, [.ref 83, .int 0, .int c])))).set 83 (.inl (24, f0)))) (r1 := some (.int 1)) rfl rfl rfl (Run.ex 4000 (Nat.le_of_ble_eq_true rfl) ⟨_, _, rfl⟩ rfl) ?_
                    refine RA.steps (i' := 13) (L' := [some (.ref 110), some (.int 0), some (.int 0), some (.int c), none]) (st' := [.int 24, .int c]) (h' := ((h0.set 82 (.inr (.inr (3, [.ref 83, .int 0, .int c])))).set 83 (.inl (24, f0)))) 5 rfl ?_
                    refine RA.if2T rfl (decide_eq_true (Int32.not_lt.mp h4)) ?_
                    refine RA.steps (i' := 19) (L' := [some (.ref 110), some (.int 0), some (.int 0), some (.int c), none]) (st' := [.int c]) (h' := ((h0.set 82 (.inr (.inr (3, [.ref 83, .int 0, .int c])))).set 83 (.inl (24, f0)))) 3 rfl ?_
                    refine RA.if1T rfl (decide_eq_true (Int32.not_lt.mp h5)) ?_
                    refine RA.steps (i' := 38) (L' := [some (.ref 110), some (.int 0), some (.int 0), some (.int c), some (.int 0)]) (st' := []) (h' := ((((h0.set 82 (.inr (.inr (3, [.ref 83, .int 0, .int c])))).set 83 (.inl (24, f0))).set 114 (.inl (4, va_up (va_up (va_up (va_up (va_up (fun _ => 0) 0 (-1)) 1 (-1)) 2 (-1)) 3 (-1)) 0 0))).set 115 (.inl (4, va_up (fun _ => 0) 0 c)))) 14 rfl ?_
                    exact hs1⟩
          · by_cases h6 : 24 < c
            · exact ⟨(-1000000001), h0, _, by
                  refine ⟨Nat.le_of_ble_eq_true rfl, ⟨_, _, rfl⟩, ?_⟩
                  refine RA.steps (i' := 2) (L' := [some (.ref 0), some (.int 0), some (.int 1), some (.int c), none]) (st' := [.int 0, .ref 0]) (h' := h0) 2 rfl ?_
                  refine RA.call0 (h1 := h0) (r1 := some (.ref 82)) rfl rfl rfl (Run.ex 4000 (Nat.le_of_ble_eq_true rfl) ⟨_, _, rfl⟩ rfl) ?_
                  refine RA.steps (i' := 9) (L' := [some (.ref 0), some (.int 0), some (.int 1), some (.int c), some (.ref 82)]) (st' := [.int 1, .int (-1), .int 1]) (h' := h0) 6 rfl ?_
                  refine RA.call0 (h1 := h0) (r1 := some (.int 1)) rfl rfl rfl (Run.ex 4000 (Nat.le_of_ble_eq_true rfl) ⟨_, _, rfl⟩ rfl) ?_
                  refine RA.steps (i' := 24) (L' := [some (.ref 0), some (.int 0), some (.int 1), some (.int c), some (.ref 82)]) (st' := [.int 24, .int c]) (h' := h0) 6 rfl ?_
                  refine RA.if2F rfl (decide_eq_false (Int32.not_le.mpr h6)) ?_
                  refine RA.steps (i' := 26) (L' := [some (.ref 0), some (.int 0), some (.int 1), some (.int c), some (.ref 82)]) (st' := [.int (-1000000001)]) (h' := h0) 1 rfl ?_
                  exact RA.ret rfl rfl, by
                  refine ⟨Nat.le_of_ble_eq_true rfl, ⟨_, _, rfl⟩, ?_⟩
                  refine RA.steps (i' := 1) (L' := [some (.ref 110), some (.int 0), some (.int 1), some (.int c), none]) (st' := [.int 0]) (h' := h0) 1 rfl ?_
                  refine RA.call0 (h1 := h0) (r1 := some (.int 1)) rfl rfl rfl (Run.ex 4000 (Nat.le_of_ble_eq_true rfl) ⟨_, _, rfl⟩ rfl) ?_
                  refine RA.steps (i' := 7) (L' := [some (.ref 110), some (.int 0), some (.int 1), some (.int c), none]) (st' := [.long 1, .long (-1), .long 1]) (h' := h0) 5 rfl ?_
                  refine RA.call0 (h1 := h0) (r1 := some (.int 1)) rfl rfl rfl (Run.ex 4000 (Nat.le_of_ble_eq_true rfl) ⟨_, _, rfl⟩ rfl) ?_
                  refine RA.steps (i' := 13) (L' := [some (.ref 110), some (.int 0), some (.int 1), some (.int c), none]) (st' := [.int 24, .int c]) (h' := h0) 5 rfl ?_
                  refine RA.if2F rfl (decide_eq_false (Int32.not_le.mpr h6)) ?_
                  refine RA.steps (i' := 15) (L' := [some (.ref 110), some (.int 0), some (.int 1), some (.int c), none]) (st' := [.int (-1000000001)]) (h' := h0) 1 rfl ?_
                  exact RA.ret rfl rfl⟩
            · by_cases h7 : c < 0
              · exact ⟨(-1000000014), h0, _, by
                    refine ⟨Nat.le_of_ble_eq_true rfl, ⟨_, _, rfl⟩, ?_⟩
                    refine RA.steps (i' := 2) (L' := [some (.ref 0), some (.int 0), some (.int 1), some (.int c), none]) (st' := [.int 0, .ref 0]) (h' := h0) 2 rfl ?_
                    refine RA.call0 (h1 := h0) (r1 := some (.ref 82)) rfl rfl rfl (Run.ex 4000 (Nat.le_of_ble_eq_true rfl) ⟨_, _, rfl⟩ rfl) ?_
                    refine RA.steps (i' := 9) (L' := [some (.ref 0), some (.int 0), some (.int 1), some (.int c), some (.ref 82)]) (st' := [.int 1, .int (-1), .int 1]) (h' := h0) 6 rfl ?_
                    refine RA.call0 (h1 := h0) (r1 := some (.int 1)) rfl rfl rfl (Run.ex 4000 (Nat.le_of_ble_eq_true rfl) ⟨_, _, rfl⟩ rfl) ?_
                    refine RA.steps (i' := 24) (L' := [some (.ref 0), some (.int 0), some (.int 1), some (.int c), some (.ref 82)]) (st' := [.int 24, .int c]) (h' := h0) 6 rfl ?_
                    refine RA.if2T rfl (decide_eq_true (Int32.not_lt.mp h6)) ?_
                    refine RA.steps (i' := 28) (L' := [some (.ref 0), some (.int 0), some (.int 1), some (.int c), some (.ref 82)]) (st' := [.int c]) (h' := h0) 1 rfl ?_
                    refine RA.if1F rfl (decide_eq_false (Int32.not_le.mpr h7)) ?_
                    refine RA.steps (i' := 30) (L' := [some (.ref 0), some (.int 0), some (.int 1), some (.int c), some (.ref 82)]) (st' := [.int (-1000000014)]) (h' := h0) 1 rfl ?_
                    exact RA.ret rfl rfl, by
                    refine ⟨Nat.le_of_ble_eq_true rfl, ⟨_, _, rfl⟩, ?_⟩
                    refine RA.steps (i' := 1) (L' := [some (.ref 110), some (.int 0), some (.int 1), some (.int c), none]) (st' := [.int 0]) (h' := h0) 1 rfl ?_
                    refine RA.call0 (h1 := h0) (r1 := some (.int 1)) rfl rfl rfl (Run.ex 4000 (Nat.le_of_ble_eq_true rfl) ⟨_, _, rfl⟩ rfl) ?_
                    refine RA.steps (i' := 7) (L' := [some (.ref 110), some (.int 0), some (.int 1), some (.int c), none]) (st' := [.long 1, .long (-1), .long 1]) (h' := h0) 5 rfl ?_
                    refine RA.call0 (h1 := h0) (r1 := some (.int 1)) rfl rfl rfl (Run.ex 4000 (Nat.le_of_ble_eq_true rfl) ⟨_, _, rfl⟩ rfl) ?_
                    refine RA.steps (i' := 13) (L' := [some (.ref 110), some (.int 0), some (.int 1), some (.int c), none]) (st' := [.int 24, .int c]) (h' := h0) 5 rfl ?_
                    refine RA.if2T rfl (decide_eq_true (Int32.not_lt.mp h6)) ?_
                    refine RA.steps (i' := 19) (L' := [some (.ref 110), some (.int 0), some (.int 1), some (.int c), none]) (st' := [.int c]) (h' := h0) 3 rfl ?_
                    refine RA.if1F rfl (decide_eq_false (Int32.not_le.mpr h7)) ?_
                    refine RA.steps (i' := 21) (L' := [some (.ref 110), some (.int 0), some (.int 1), some (.int c), none]) (st' := [.int (-1000000014)]) (h' := h0) 1 rfl ?_
                    exact RA.ret rfl rfl⟩
              · obtain ⟨f0, hf0⟩ := fill_run (E := E) (V := pV0) (d := 37) (h := (h0.set 82 (.inr (.inr (3, [.ref 83, .int 1, .int c]))))) (a := 83) rfl
                obtain ⟨hx1, hs1⟩ := sh_run (E := E) (V := pV0) (d := 39) (S := 0) (so := 1) (n := c) (w := c) (h := ((((h0.set 82 (.inr (.inr (3, [.ref 83, .int 1, .int c])))).set 83 (.inl (24, f0))).set 114 (.inl (4, va_up (va_up (va_up (va_up (va_up (fun _ => 0) 0 (-1)) 1 (-1)) 2 (-1)) 3 (-1)) 0 1))).set 115 (.inl (4, va_up (fun _ => 0) 0 c)))) rfl rfl rfl rfl rfl rfl (by decide) (by decide) (by decide)
                exact ⟨c, ((h0.set 82 (.inr (.inr (3, [.ref 83, .int 1, .int c])))).set 83 (.inl (24, f0))), _, by
                    refine ⟨Nat.le_of_ble_eq_true rfl, ⟨_, _, rfl⟩, ?_⟩
                    refine RA.steps (i' := 2) (L' := [some (.ref 0), some (.int 0), some (.int 1), some (.int c), none]) (st' := [.int 0, .ref 0]) (h' := h0) 2 rfl ?_
                    refine RA.call0 (h1 := h0) (r1 := some (.ref 82)) rfl rfl rfl (Run.ex 4000 (Nat.le_of_ble_eq_true rfl) ⟨_, _, rfl⟩ rfl) ?_
                    refine RA.steps (i' := 9) (L' := [some (.ref 0), some (.int 0), some (.int 1), some (.int c), some (.ref 82)]) (st' := [.int 1, .int (-1), .int 1]) (h' := h0) 6 rfl ?_
                    refine RA.call0 (h1 := h0) (r1 := some (.int 1)) rfl rfl rfl (Run.ex 4000 (Nat.le_of_ble_eq_true rfl) ⟨_, _, rfl⟩ rfl) ?_
                    refine RA.steps (i' := 24) (L' := [some (.ref 0), some (.int 0), some (.int 1), some (.int c), some (.ref 82)]) (st' := [.int 24, .int c]) (h' := h0) 6 rfl ?_
                    refine RA.if2T rfl (decide_eq_true (Int32.not_lt.mp h6)) ?_
                    refine RA.steps (i' := 28) (L' := [some (.ref 0), some (.int 0), some (.int 1), some (.int c), some (.ref 82)]) (st' := [.int c]) (h' := h0) 1 rfl ?_
                    refine RA.if1T rfl (decide_eq_true (Int32.not_lt.mp h7)) ?_
                    refine RA.steps (i' := 34) (L' := [some (.ref 0), some (.int 0), some (.int 1), some (.int c), some (.ref 82)]) (st' := [.int c, .int 1, .ref 82]) (h' := h0) 3 rfl ?_
                    refine RA.call0 (h1 := ((h0.set 82 (.inr (.inr (3, [.ref 83, .int 1, .int c])))).set 83 (.inl (24, f0)))) (r1 := none) rfl rfl rfl (by
                      refine ⟨Nat.le_of_ble_eq_true rfl, ⟨_, _, rfl⟩, ?_⟩
                      refine RA.steps (i' := 9) (L' := [some (.ref 82), some (.int 1), some (.int c)]) (st' := [.int 0, .ref 83]) (h' := (h0.set 82 (.inr (.inr (3, [.ref 83, .int 1, .int c]))))) 9 rfl ?_
                      refine RA.call0 rfl rfl rfl hf0 ?_
                      exact RA.ret rfl rfl) ?_
                    refine RA.steps (i' := 36) (L' := [some (.ref 0), some (.int 0), some (.int 1), some (.int c), some (.ref 82)]) (st' := [.int c]) (h' := ((h0.set 82 (.inr (.inr (3, [.ref 83, .int 1, .int c])))).set 83 (.inl (24, f0)))) 1 rfl ?_
                    exact RA.ret rfl rfl, by
                    refine ⟨Nat.le_of_ble_eq_true rfl, ⟨_, _, rfl⟩, ?_⟩
                    refine RA.steps (i' := 1) (L' := [some (.ref 110), some (.int 0), some (.int 1), some (.int c), none]) (st' := [.int 0]) (h' := ((h0.set 82 (.inr (.inr (3, [.ref 83, .int 1, .int c])))).set 83 (.inl (24, f0)))) 1 rfl ?_
                    refine RA.call0 (h1 := ((h0.set 82 (.inr (.inr (3, [.ref 83, .int 1, .int c])))).set 83 (.inl (24, f0)))) (r1 := some (.int 1)) rfl rfl rfl (Run.ex 4000 (Nat.le_of_ble_eq_true rfl) ⟨_, _, rfl⟩ rfl) ?_
                    refine RA.steps (i' := 7) (L' := [some (.ref 110), some (.int 0), some (.int 1), some (.int c), none]) (st' := [.long 1, .long (-1), .long 1]) (h' := ((h0.set 82 (.inr (.inr (3, [.ref 83, .int 1, .int c])))).set 83 (.inl (24, f0)))) 5 rfl ?_
                    refine RA.call0 (h1 := ((h0.set 82 (.inr (.inr (3, [.ref 83, .int 1, .int c])))).set 83 (.inl (24, f0)))) (r1 := some (.int 1)) rfl rfl rfl (Run.ex 4000 (Nat.le_of_ble_eq_true rfl) ⟨_, _, rfl⟩ rfl) ?_
                    refine RA.steps (i' := 13) (L' := [some (.ref 110), some (.int 0), some (.int 1), some (.int c), none]) (st' := [.int 24, .int c]) (h' := ((h0.set 82 (.inr (.inr (3, [.ref 83, .int 1, .int c])))).set 83 (.inl (24, f0)))) 5 rfl ?_
                    refine RA.if2T rfl (decide_eq_true (Int32.not_lt.mp h6)) ?_
                    refine RA.steps (i' := 19) (L' := [some (.ref 110), some (.int 0), some (.int 1), some (.int c), none]) (st' := [.int c]) (h' := ((h0.set 82 (.inr (.inr (3, [.ref 83, .int 1, .int c])))).set 83 (.inl (24, f0)))) 3 rfl ?_
                    refine RA.if1T rfl (decide_eq_true (Int32.not_lt.mp h7)) ?_
                    refine RA.steps (i' := 38) (L' := [some (.ref 110), some (.int 0), some (.int 1), some (.int c), some (.int 0)]) (st' := []) (h' := ((((h0.set 82 (.inr (.inr (3, [.ref 83, .int 1, .int c])))).set 83 (.inl (24, f0))).set 114 (.inl (4, va_up (va_up (va_up (va_up (va_up (fun _ => 0) 0 (-1)) 1 (-1)) 2 (-1)) 3 (-1)) 0 1))).set 115 (.inl (4, va_up (fun _ => 0) 0 c)))) 14 rfl ?_
                    exact hs1⟩
        · exact ⟨(-1000000001), h0, _, by
              refine ⟨Nat.le_of_ble_eq_true rfl, ⟨_, _, rfl⟩, ?_⟩
              refine RA.steps (i' := 2) (L' := [some (.ref 0), some (.int 0), some (.int b), some (.int c), none]) (st' := [.int 0, .ref 0]) (h' := h0) 2 rfl ?_
              refine RA.call0 (h1 := h0) (r1 := some (.ref 82)) rfl rfl rfl (Run.ex 4000 (Nat.le_of_ble_eq_true rfl) ⟨_, _, rfl⟩ rfl) ?_
              refine RA.steps (i' := 9) (L' := [some (.ref 0), some (.int 0), some (.int b), some (.int c), some (.ref 82)]) (st' := [.int 1, .int (-1), .int b]) (h' := h0) 6 rfl ?_
              refine RA.call0 rfl rfl rfl (within_f (v := b) (lo := (-1)) (hi := 1) h3) ?_
              refine RA.steps (i' := 12) (L' := [some (.ref 0), some (.int 0), some (.int b), some (.int c), some (.ref 82)]) (st' := [.int (-1000000001)]) (h' := h0) 2 rfl ?_
              exact RA.ret rfl rfl, by
              refine ⟨Nat.le_of_ble_eq_true rfl, ⟨_, _, rfl⟩, ?_⟩
              refine RA.steps (i' := 1) (L' := [some (.ref 110), some (.int 0), some (.int b), some (.int c), none]) (st' := [.int 0]) (h' := h0) 1 rfl ?_
              refine RA.call0 (h1 := h0) (r1 := some (.int 1)) rfl rfl rfl (Run.ex 4000 (Nat.le_of_ble_eq_true rfl) ⟨_, _, rfl⟩ rfl) ?_
              refine RA.steps (i' := 7) (L' := [some (.ref 110), some (.int 0), some (.int b), some (.int c), none]) (st' := [.long 1, .long (-1), .long (b : Int32).toInt64]) (h' := h0) 5 rfl ?_
              refine RA.call0 rfl rfl rfl (isIn_f (v := b) (lo := (-1)) (hi := 1) h3) ?_
              refine RA.steps (i' := 15) (L' := [some (.ref 110), some (.int 0), some (.int b), some (.int c), none]) (st' := [.int (-1000000001)]) (h' := h0) 2 rfl ?_
              exact RA.ret rfl rfl⟩
      · by_cases h8 : (-1) ≤ b ∧ b ≤ 1
        · rcases cases_m1_1 h8 with rfl | rfl | rfl
          · obtain ⟨f0, hf0⟩ := fill_run (E := E) (V := pV0) (d := 37) (h := h0) (a := 85) rfl
            obtain ⟨hx1, hs1⟩ := sh_run (E := E) (V := pV0) (d := 39) (S := 1) (so := (-1)) (n := c) (w := 0) (h := (((h0.set 85 (.inl (24, f0))).set 114 (.inl (4, va_up (va_up (va_up (va_up (va_up (fun _ => 0) 0 (-1)) 1 (-1)) 2 (-1)) 3 (-1)) 1 (-1)))).set 115 (.inl (4, va_up (fun _ => 0) 1 0)))) rfl rfl rfl rfl rfl rfl (by decide) (by decide) (by decide)
            exact ⟨0, (h0.set 85 (.inl (24, f0))), _, by
                refine ⟨Nat.le_of_ble_eq_true rfl, ⟨_, _, rfl⟩, ?_⟩
                refine RA.steps (i' := 2) (L' := [some (.ref 0), some (.int 1), some (.int (-1)), some (.int c), none]) (st' := [.int 1, .ref 0]) (h' := h0) 2 rfl ?_
                refine RA.call0 (h1 := h0) (r1 := some (.ref 84)) rfl rfl rfl (Run.ex 4000 (Nat.le_of_ble_eq_true rfl) ⟨_, _, rfl⟩ rfl) ?_
                refine RA.steps (i' := 9) (L' := [some (.ref 0), some (.int 1), some (.int (-1)), some (.int c), some (.ref 84)]) (st' := [.int 1, .int (-1), .int (-1)]) (h' := h0) 6 rfl ?_
                refine RA.call0 (h1 := h0) (r1 := some (.int 1)) rfl rfl rfl (Run.ex 4000 (Nat.le_of_ble_eq_true rfl) ⟨_, _, rfl⟩ rfl) ?_
                refine RA.steps (i' := 19) (L' := [some (.ref 0), some (.int 1), some (.int (-1)), some (.int c), some (.ref 84)]) (st' := [.int 0, .int (-1), .ref 84]) (h' := h0) 7 rfl ?_
                refine RA.call0 (h1 := (h0.set 85 (.inl (24, f0)))) (r1 := none) rfl rfl rfl (by
                  refine ⟨Nat.le_of_ble_eq_true rfl, ⟨_, _, rfl⟩, ?_⟩
                  refine RA.steps (i' := 9) (L' := [some (.ref 84), some (.int (-1)), some (.int 0)]) (st' := [.int 0, .ref 85]) (h' := h0) 9 rfl ?_
                  refine RA.call0 rfl rfl rfl hf0 ?_
                  exact RA.ret rfl rfl) ?_
                refine RA.steps (i' := 21) (L' := [some (.ref 0), some (.int 1), some (.int (-1)), some (.int c), some (.ref 84)]) (st' := [.int 0]) (h' := (h0.set 85 (.inl (24, f0)))) 1 rfl ?_
                exact RA.ret rfl rfl, by
                refine ⟨Nat.le_of_ble_eq_true rfl, ⟨_, _, rfl⟩, ?_⟩
                refine RA.steps (i' := 1) (L' := [some (.ref 110), some (.int 1), some (.int (-1)), some (.int c), none]) (st' := [.int 1]) (h' := (h0.set 85 (.inl (24, f0)))) 1 rfl ?_
                refine RA.call0 (h1 := (h0.set 85 (.inl (24, f0)))) (r1 := some (.int 1)) rfl rfl rfl (Run.ex 4000 (Nat.le_of_ble_eq_true rfl) ⟨_, _, rfl⟩ rfl) ?_
                refine RA.steps (i' := 7) (L' := [some (.ref 110), some (.int 1), some (.int (-1)), some (.int c), none]) (st' := [.long 1, .long (-1), .long (-1)]) (h' := (h0.set 85 (.inl (24, f0)))) 5 rfl ?_
                refine RA.call0 (h1 := (h0.set 85 (.inl (24, f0)))) (r1 := some (.int 1)) rfl rfl rfl (Run.ex 4000 (Nat.le_of_ble_eq_true rfl) ⟨_, _, rfl⟩ rfl) ?_
                refine RA.steps (i' := 38) (L' := [some (.ref 110), some (.int 1), some (.int (-1)), some (.int c), some (.int 0)]) (st' := []) (h' := (((h0.set 85 (.inl (24, f0))).set 114 (.inl (4, va_up (va_up (va_up (va_up (va_up (fun _ => 0) 0 (-1)) 1 (-1)) 2 (-1)) 3 (-1)) 1 (-1)))).set 115 (.inl (4, va_up (fun _ => 0) 1 0)))) 20 rfl ?_
                exact hs1⟩
          · by_cases h9 : 24 < c
            · exact ⟨(-1000000001), h0, _, by
                  refine ⟨Nat.le_of_ble_eq_true rfl, ⟨_, _, rfl⟩, ?_⟩
                  refine RA.steps (i' := 2) (L' := [some (.ref 0), some (.int 1), some (.int 0), some (.int c), none]) (st' := [.int 1, .ref 0]) (h' := h0) 2 rfl ?_
                  refine RA.call0 (h1 := h0) (r1 := some (.ref 84)) rfl rfl rfl (Run.ex 4000 (Nat.le_of_ble_eq_true rfl) ⟨_, _, rfl⟩ rfl) ?_
                  refine RA.steps (i' := 9) (L' := [some (.ref 0), some (.int 1), some (.int 0), some (.int c), some (.ref 84)]) (st' := [.int 1, .int (-1), .int 0]) (h' := h0) 6 rfl ?_
                  refine RA.call0 (h1 := h0) (r1 := some (.int 1)) rfl rfl rfl (Run.ex 4000 (Nat.le_of_ble_eq_true rfl) ⟨_, _, rfl⟩ rfl) ?_
                  refine RA.steps (i' := 24) (L' := [some (.ref 0), some (.int 1), some (.int 0), some (.int c), some (.ref 84)]) (st' := [.int 24, .int c]) (h' := h0) 6 rfl ?_
                  refine RA.if2F rfl (decide_eq_false (Int32.not_le.mpr h9)) ?_
                  refine RA.steps (i' := 26) (L' := [some (.ref 0), some (.int 1), some (.int 0), some (.int c), some (.ref 84)]) (st' := [.int (-1000000001)]) (h' := h0) 1 rfl ?_
                  exact RA.ret rfl rfl, by
                  refine ⟨Nat.le_of_ble_eq_true rfl, ⟨_, _, rfl⟩, ?_⟩
                  refine RA.steps (i' := 1) (L' := [some (.ref 110), some (.int 1), some (.int 0), some (.int c), none]) (st' := [.int 1]) (h' := h0) 1 rfl ?_
                  refine RA.call0 (h1 := h0) (r1 := some (.int 1)) rfl rfl rfl (Run.ex 4000 (Nat.le_of_ble_eq_true rfl) ⟨_, _, rfl⟩ rfl) ?_
                  refine RA.steps (i' := 7) (L' := [some (.ref 110), some (.int 1), some (.int 0), some (.int c), none]) (st' := [.long 1, .long (-1), .long 0]) (h' := h0) 5 rfl ?_
                  refine RA.call0 (h1 := h0) (r1 := some (.int 1)) rfl rfl rfl (Run.ex 4000 (Nat.le_of_ble_eq_true rfl) ⟨_, _, rfl⟩ rfl) ?_
                  refine RA.steps (i' := 13) (L' := [some (.ref 110), some (.int 1), some (.int 0), some (.int c), none]) (st' := [.int 24, .int c]) (h' := h0) 5 rfl ?_
                  refine RA.if2F rfl (decide_eq_false (Int32.not_le.mpr h9)) ?_
                  refine RA.steps (i' := 15) (L' := [some (.ref 110), some (.int 1), some (.int 0), some (.int c), none]) (st' := [.int (-1000000001)]) (h' := h0) 1 rfl ?_
                  exact RA.ret rfl rfl⟩
            · by_cases h10 : c < 0
              · exact ⟨(-1000000014), h0, _, by
                    refine ⟨Nat.le_of_ble_eq_true rfl, ⟨_, _, rfl⟩, ?_⟩
                    refine RA.steps (i' := 2) (L' := [some (.ref 0), some (.int 1), some (.int 0), some (.int c), none]) (st' := [.int 1, .ref 0]) (h' := h0) 2 rfl ?_
                    refine RA.call0 (h1 := h0) (r1 := some (.ref 84)) rfl rfl rfl (Run.ex 4000 (Nat.le_of_ble_eq_true rfl) ⟨_, _, rfl⟩ rfl) ?_
                    refine RA.steps (i' := 9) (L' := [some (.ref 0), some (.int 1), some (.int 0), some (.int c), some (.ref 84)]) (st' := [.int 1, .int (-1), .int 0]) (h' := h0) 6 rfl ?_
                    refine RA.call0 (h1 := h0) (r1 := some (.int 1)) rfl rfl rfl (Run.ex 4000 (Nat.le_of_ble_eq_true rfl) ⟨_, _, rfl⟩ rfl) ?_
                    refine RA.steps (i' := 24) (L' := [some (.ref 0), some (.int 1), some (.int 0), some (.int c), some (.ref 84)]) (st' := [.int 24, .int c]) (h' := h0) 6 rfl ?_
                    refine RA.if2T rfl (decide_eq_true (Int32.not_lt.mp h9)) ?_
                    refine RA.steps (i' := 28) (L' := [some (.ref 0), some (.int 1), some (.int 0), some (.int c), some (.ref 84)]) (st' := [.int c]) (h' := h0) 1 rfl ?_
                    refine RA.if1F rfl (decide_eq_false (Int32.not_le.mpr h10)) ?_
                    refine RA.steps (i' := 30) (L' := [some (.ref 0), some (.int 1), some (.int 0), some (.int c), some (.ref 84)]) (st' := [.int (-1000000014)]) (h' := h0) 1 rfl ?_
                    exact RA.ret rfl rfl, by
                    refine ⟨Nat.le_of_ble_eq_true rfl, ⟨_, _, rfl⟩, ?_⟩
                    refine RA.steps (i' := 1) (L' := [some (.ref 110), some (.int 1), some (.int 0), some (.int c), none]) (st' := [.int 1]) (h' := h0) 1 rfl ?_
                    refine RA.call0 (h1 := h0) (r1 := some (.int 1)) rfl rfl rfl (Run.ex 4000 (Nat.le_of_ble_eq_true rfl) ⟨_, _, rfl⟩ rfl) ?_
                    refine RA.steps (i' := 7) (L' := [some (.ref 110), some (.int 1), some (.int 0), some (.int c), none]) (st' := [.long 1, .long (-1), .long 0]) (h' := h0) 5 rfl ?_
                    refine RA.call0 (h1 := h0) (r1 := some (.int 1)) rfl rfl rfl (Run.ex 4000 (Nat.le_of_ble_eq_true rfl) ⟨_, _, rfl⟩ rfl) ?_
                    refine RA.steps (i' := 13) (L' := [some (.ref 110), some (.int 1), some (.int 0), some (.int c), none]) (st' := [.int 24, .int c]) (h' := h0) 5 rfl ?_
                    refine RA.if2T rfl (decide_eq_true (Int32.not_lt.mp h9)) ?_
                    refine RA.steps (i' := 19) (L' := [some (.ref 110), some (.int 1), some (.int 0), some (.int c), none]) (st' := [.int c]) (h' := h0) 3 rfl ?_
                    refine RA.if1F rfl (decide_eq_false (Int32.not_le.mpr h10)) ?_
                    refine RA.steps (i' := 21) (L' := [some (.ref 110), some (.int 1), some (.int 0), some (.int c), none]) (st' := [.int (-1000000014)]) (h' := h0) 1 rfl ?_
                    exact RA.ret rfl rfl⟩
              · obtain ⟨f0, hf0⟩ := fill_run (E := E) (V := pV0) (d := 37) (h := (h0.set 84 (.inr (.inr (3, [.ref 85, .int 0, .int c]))))) (a := 85) rfl
                obtain ⟨hx1, hs1⟩ := sh_run (E := E) (V := pV0) (d := 39) (S := 1) (so := 0) (n := c) (w := c) (h := ((((h0.set 84 (.inr (.inr (3, [.ref 85, .int 0, .int c])))).set 85 (.inl (24, f0))).set 114 (.inl (4, va_up (va_up (va_up (va_up (va_up (fun _ => 0) 0 (-1)) 1 (-1)) 2 (-1)) 3 (-1)) 1 0))).set 115 (.inl (4, va_up (fun _ => 0) 1 c)))) rfl rfl rfl rfl rfl rfl (by decide) (by decide) (by decide)
                exact ⟨c, ((h0.set 84 (.inr (.inr (3, [.ref 85, .int 0, .int c])))).set 85 (.inl (24, f0))), _, by
                    refine ⟨Nat.le_of_ble_eq_true rfl, ⟨_, _, rfl⟩, ?_⟩
                    refine RA.steps (i' := 2) (L' := [some (.ref 0), some (.int 1), some (.int 0), some (.int c), none]) (st' := [.int 1, .ref 0]) (h' := h0) 2 rfl ?_
                    refine RA.call0 (h1 := h0) (r1 := some (.ref 84)) rfl rfl rfl (Run.ex 4000 (Nat.le_of_ble_eq_true rfl) ⟨_, _, rfl⟩ rfl) ?_
                    refine RA.steps (i' := 9) (L' := [some (.ref 0), some (.int 1), some (.int 0), some (.int c), some (.ref 84)]) (st' := [.int 1, .int (-1), .int 0]) (h' := h0) 6 rfl ?_
                    refine RA.call0 (h1 := h0) (r1 := some (.int 1)) rfl rfl rfl (Run.ex 4000 (Nat.le_of_ble_eq_true rfl) ⟨_, _, rfl⟩ rfl) ?_
                    refine RA.steps (i' := 24) (L' := [some (.ref 0), some (.int 1), some (.int 0), some (.int c), some (.ref 84)]) (st' := [.int 24, .int c]) (h' := h0) 6 rfl ?_
                    refine RA.if2T rfl (decide_eq_true (Int32.not_lt.mp h9)) ?_
                    refine RA.steps (i' := 28) (L' := [some (.ref 0), some (.int 1), some (.int 0), some (.int c), some (.ref 84)]) (st' := [.int c]) (h' := h0) 1 rfl ?_
                    refine RA.if1T rfl (decide_eq_true (Int32.not_lt.mp h10)) ?_
                    refine RA.steps (i' := 34) (L' := [some (.ref 0), some (.int 1), some (.int 0), some (.int c), some (.ref 84)]) (st' := [.int c, .int 0, .ref 84]) (h' := h0) 3 rfl ?_
                    refine RA.call0 (h1 := ((h0.set 84 (.inr (.inr (3, [.ref 85, .int 0, .int c])))).set 85 (.inl (24, f0)))) (r1 := none) rfl rfl rfl (by
                      refine ⟨Nat.le_of_ble_eq_true rfl, ⟨_, _, rfl⟩, ?_⟩
                      refine RA.steps (i' := 9) (L' := [some (.ref 84), some (.int 0), some (.int c)]) (st' := [.int 0, .ref 85]) (h' := (h0.set 84 (.inr (.inr (3, [.ref 85, .int 0, .int c]))))) 9 rfl ?_
                      refine RA.call0 rfl rfl rfl hf0 ?_
                      exact RA.ret rfl rfl) ?_
                    refine RA.steps (i' := 36) (L' := [some (.ref 0), some (.int 1), some (.int 0), some (.int c), some (.ref 84)]) (st' := [.int c]) (h' := ((h0.set 84 (.inr (.inr (3, [.ref 85, .int 0, .int c])))).set 85 (.inl (24, f0)))) 1 rfl ?_
                    exact RA.ret rfl rfl, by
                    refine ⟨Nat.le_of_ble_eq_true rfl, ⟨_, _, rfl⟩, ?_⟩
                    refine RA.steps (i' := 1) (L' := [some (.ref 110), some (.int 1), some (.int 0), some (.int c), none]) (st' := [.int 1]) (h' := ((h0.set 84 (.inr (.inr (3, [.ref 85, .int 0, .int c])))).set 85 (.inl (24, f0)))) 1 rfl ?_
                    refine RA.call0 (h1 := ((h0.set 84 (.inr (.inr (3, [.ref 85, .int 0, .int c])))).set 85 (.inl (24, f0)))) (r1 := some (.int 1)) rfl rfl rfl (Run.ex 4000 (Nat.le_of_ble_eq_true rfl) ⟨_, _, rfl⟩ rfl) ?_
                    refine RA.steps (i' := 7) (L' := [some (.ref 110), some (.int 1), some (.int 0), some (.int c), none]) (st' := [.long 1, .long (-1), .long 0]) (h' := ((h0.set 84 (.inr (.inr (3, [.ref 85, .int 0, .int c])))).set 85 (.inl (24, f0)))) 5 rfl ?_
                    refine RA.call0 (h1 := ((h0.set 84 (.inr (.inr (3, [.ref 85, .int 0, .int c])))).set 85 (.inl (24, f0)))) (r1 := some (.int 1)) rfl rfl rfl (Run.ex 4000 (Nat.le_of_ble_eq_true rfl) ⟨_, _, rfl⟩ rfl) ?_
                    refine RA.steps (i' := 13) (L' := [some (.ref 110), some (.int 1), some (.int 0), some (.int c), none]) (st' := [.int 24, .int c]) (h' := ((h0.set 84 (.inr (.inr (3, [.ref 85, .int 0, .int c])))).set 85 (.inl (24, f0)))) 5 rfl ?_
                    refine RA.if2T rfl (decide_eq_true (Int32.not_lt.mp h9)) ?_
                    refine RA.steps (i' := 19) (L' := [some (.ref 110), some (.int 1), some (.int 0), some (.int c), none]) (st' := [.int c]) (h' := ((h0.set 84 (.inr (.inr (3, [.ref 85, .int 0, .int c])))).set 85 (.inl (24, f0)))) 3 rfl ?_
                    refine RA.if1T rfl (decide_eq_true (Int32.not_lt.mp h10)) ?_
                    refine RA.steps (i' := 38) (L' := [some (.ref 110), some (.int 1), some (.int 0), some (.int c), some (.int 0)]) (st' := []) (h' := ((((h0.set 84 (.inr (.inr (3, [.ref 85, .int 0, .int c])))).set 85 (.inl (24, f0))).set 114 (.inl (4, va_up (va_up (va_up (va_up (va_up (fun _ => 0) 0 (-1)) 1 (-1)) 2 (-1)) 3 (-1)) 1 0))).set 115 (.inl (4, va_up (fun _ => 0) 1 c)))) 14 rfl ?_
                    exact hs1⟩
          · by_cases h11 : 24 < c
            · exact ⟨(-1000000001), h0, _, by
                  refine ⟨Nat.le_of_ble_eq_true rfl, ⟨_, _, rfl⟩, ?_⟩
                  refine RA.steps (i' := 2) (L' := [some (.ref 0), some (.int 1), some (.int 1), some (.int c), none]) (st' := [.int 1, .ref 0]) (h' := h0) 2 rfl ?_
                  refine RA.call0 (h1 := h0) (r1 := some (.ref 84)) rfl rfl rfl (Run.ex 4000 (Nat.le_of_ble_eq_true rfl) ⟨_, _, rfl⟩ rfl) ?_
                  refine RA.steps (i' := 9) (L' := [some (.ref 0), some (.int 1), some (.int 1), some (.int c), some (.ref 84)]) (st' := [.int 1, .int (-1), .int 1]) (h' := h0) 6 rfl ?_
                  refine RA.call0 (h1 := h0) (r1 := some (.int 1)) rfl rfl rfl (Run.ex 4000 (Nat.le_of_ble_eq_true rfl) ⟨_, _, rfl⟩ rfl) ?_
                  refine RA.steps (i' := 24) (L' := [some (.ref 0), some (.int 1), some (.int 1), some (.int c), some (.ref 84)]) (st' := [.int 24, .int c]) (h' := h0) 6 rfl ?_
                  refine RA.if2F rfl (decide_eq_false (Int32.not_le.mpr h11)) ?_
                  refine RA.steps (i' := 26) (L' := [some (.ref 0), some (.int 1), some (.int 1), some (.int c), some (.ref 84)]) (st' := [.int (-1000000001)]) (h' := h0) 1 rfl ?_
                  exact RA.ret rfl rfl, by
                  refine ⟨Nat.le_of_ble_eq_true rfl, ⟨_, _, rfl⟩, ?_⟩
                  refine RA.steps (i' := 1) (L' := [some (.ref 110), some (.int 1), some (.int 1), some (.int c), none]) (st' := [.int 1]) (h' := h0) 1 rfl ?_
                  refine RA.call0 (h1 := h0) (r1 := some (.int 1)) rfl rfl rfl (Run.ex 4000 (Nat.le_of_ble_eq_true rfl) ⟨_, _, rfl⟩ rfl) ?_
                  refine RA.steps (i' := 7) (L' := [some (.ref 110), some (.int 1), some (.int 1), some (.int c), none]) (st' := [.long 1, .long (-1), .long 1]) (h' := h0) 5 rfl ?_
                  refine RA.call0 (h1 := h0) (r1 := some (.int 1)) rfl rfl rfl (Run.ex 4000 (Nat.le_of_ble_eq_true rfl) ⟨_, _, rfl⟩ rfl) ?_
                  refine RA.steps (i' := 13) (L' := [some (.ref 110), some (.int 1), some (.int 1), some (.int c), none]) (st' := [.int 24, .int c]) (h' := h0) 5 rfl ?_
                  refine RA.if2F rfl (decide_eq_false (Int32.not_le.mpr h11)) ?_
                  refine RA.steps (i' := 15) (L' := [some (.ref 110), some (.int 1), some (.int 1), some (.int c), none]) (st' := [.int (-1000000001)]) (h' := h0) 1 rfl ?_
                  exact RA.ret rfl rfl⟩
            · by_cases h12 : c < 0
              · exact ⟨(-1000000014), h0, _, by
                    refine ⟨Nat.le_of_ble_eq_true rfl, ⟨_, _, rfl⟩, ?_⟩
                    refine RA.steps (i' := 2) (L' := [some (.ref 0), some (.int 1), some (.int 1), some (.int c), none]) (st' := [.int 1, .ref 0]) (h' := h0) 2 rfl ?_
                    refine RA.call0 (h1 := h0) (r1 := some (.ref 84)) rfl rfl rfl (Run.ex 4000 (Nat.le_of_ble_eq_true rfl) ⟨_, _, rfl⟩ rfl) ?_
                    refine RA.steps (i' := 9) (L' := [some (.ref 0), some (.int 1), some (.int 1), some (.int c), some (.ref 84)]) (st' := [.int 1, .int (-1), .int 1]) (h' := h0) 6 rfl ?_
                    refine RA.call0 (h1 := h0) (r1 := some (.int 1)) rfl rfl rfl (Run.ex 4000 (Nat.le_of_ble_eq_true rfl) ⟨_, _, rfl⟩ rfl) ?_
                    refine RA.steps (i' := 24) (L' := [some (.ref 0), some (.int 1), some (.int 1), some (.int c), some (.ref 84)]) (st' := [.int 24, .int c]) (h' := h0) 6 rfl ?_
                    refine RA.if2T rfl (decide_eq_true (Int32.not_lt.mp h11)) ?_
                    refine RA.steps (i' := 28) (L' := [some (.ref 0), some (.int 1), some (.int 1), some (.int c), some (.ref 84)]) (st' := [.int c]) (h' := h0) 1 rfl ?_
                    refine RA.if1F rfl (decide_eq_false (Int32.not_le.mpr h12)) ?_
                    refine RA.steps (i' := 30) (L' := [some (.ref 0), some (.int 1), some (.int 1), some (.int c), some (.ref 84)]) (st' := [.int (-1000000014)]) (h' := h0) 1 rfl ?_
                    exact RA.ret rfl rfl, by
                    refine ⟨Nat.le_of_ble_eq_true rfl, ⟨_, _, rfl⟩, ?_⟩
                    refine RA.steps (i' := 1) (L' := [some (.ref 110), some (.int 1), some (.int 1), some (.int c), none]) (st' := [.int 1]) (h' := h0) 1 rfl ?_
                    refine RA.call0 (h1 := h0) (r1 := some (.int 1)) rfl rfl rfl (Run.ex 4000 (Nat.le_of_ble_eq_true rfl) ⟨_, _, rfl⟩ rfl) ?_
                    refine RA.steps (i' := 7) (L' := [some (.ref 110), some (.int 1), some (.int 1), some (.int c), none]) (st' := [.long 1, .long (-1), .long 1]) (h' := h0) 5 rfl ?_
                    refine RA.call0 (h1 := h0) (r1 := some (.int 1)) rfl rfl rfl (Run.ex 4000 (Nat.le_of_ble_eq_true rfl) ⟨_, _, rfl⟩ rfl) ?_
                    refine RA.steps (i' := 13) (L' := [some (.ref 110), some (.int 1), some (.int 1), some (.int c), none]) (st' := [.int 24, .int c]) (h' := h0) 5 rfl ?_
                    refine RA.if2T rfl (decide_eq_true (Int32.not_lt.mp h11)) ?_
                    refine RA.steps (i' := 19) (L' := [some (.ref 110), some (.int 1), some (.int 1), some (.int c), none]) (st' := [.int c]) (h' := h0) 3 rfl ?_
                    refine RA.if1F rfl (decide_eq_false (Int32.not_le.mpr h12)) ?_
                    refine RA.steps (i' := 21) (L' := [some (.ref 110), some (.int 1), some (.int 1), some (.int c), none]) (st' := [.int (-1000000014)]) (h' := h0) 1 rfl ?_
                    exact RA.ret rfl rfl⟩
              · obtain ⟨f0, hf0⟩ := fill_run (E := E) (V := pV0) (d := 37) (h := (h0.set 84 (.inr (.inr (3, [.ref 85, .int 1, .int c]))))) (a := 85) rfl
                obtain ⟨hx1, hs1⟩ := sh_run (E := E) (V := pV0) (d := 39) (S := 1) (so := 1) (n := c) (w := c) (h := ((((h0.set 84 (.inr (.inr (3, [.ref 85, .int 1, .int c])))).set 85 (.inl (24, f0))).set 114 (.inl (4, va_up (va_up (va_up (va_up (va_up (fun _ => 0) 0 (-1)) 1 (-1)) 2 (-1)) 3 (-1)) 1 1))).set 115 (.inl (4, va_up (fun _ => 0) 1 c)))) rfl rfl rfl rfl rfl rfl (by decide) (by decide) (by decide)
                exact ⟨c, ((h0.set 84 (.inr (.inr (3, [.ref 85, .int 1, .int c])))).set 85 (.inl (24, f0))), _, by
                    refine ⟨Nat.le_of_ble_eq_true rfl, ⟨_, _, rfl⟩, ?_⟩
                    refine RA.steps (i' := 2) (L' := [some (.ref 0), some (.int 1), some (.int 1), some (.int c), none]) (st' := [.int 1, .ref 0]) (h' := h0) 2 rfl ?_
                    refine RA.call0 (h1 := h0) (r1 := some (.ref 84)) rfl rfl rfl (Run.ex 4000 (Nat.le_of_ble_eq_true rfl) ⟨_, _, rfl⟩ rfl) ?_
                    refine RA.steps (i' := 9) (L' := [some (.ref 0), some (.int 1), some (.int 1), some (.int c), some (.ref 84)]) (st' := [.int 1, .int (-1), .int 1]) (h' := h0) 6 rfl ?_
                    refine RA.call0 (h1 := h0) (r1 := some (.int 1)) rfl rfl rfl (Run.ex 4000 (Nat.le_of_ble_eq_true rfl) ⟨_, _, rfl⟩ rfl) ?_
                    refine RA.steps (i' := 24) (L' := [some (.ref 0), some (.int 1), some (.int 1), some (.int c), some (.ref 84)]) (st' := [.int 24, .int c]) (h' := h0) 6 rfl ?_
                    refine RA.if2T rfl (decide_eq_true (Int32.not_lt.mp h11)) ?_
                    refine RA.steps (i' := 28) (L' := [some (.ref 0), some (.int 1), some (.int 1), some (.int c), some (.ref 84)]) (st' := [.int c]) (h' := h0) 1 rfl ?_
                    refine RA.if1T rfl (decide_eq_true (Int32.not_lt.mp h12)) ?_
                    refine RA.steps (i' := 34) (L' := [some (.ref 0), some (.int 1), some (.int 1), some (.int c), some (.ref 84)]) (st' := [.int c, .int 1, .ref 84]) (h' := h0) 3 rfl ?_
                    refine RA.call0 (h1 := ((h0.set 84 (.inr (.inr (3, [.ref 85, .int 1, .int c])))).set 85 (.inl (24, f0)))) (r1 := none) rfl rfl rfl (by
                      refine ⟨Nat.le_of_ble_eq_true rfl, ⟨_, _, rfl⟩, ?_⟩
                      refine RA.steps (i' := 9) (L' := [some (.ref 84), some (.int 1), some (.int c)]) (st' := [.int 0, .ref 85]) (h' := (h0.set 84 (.inr (.inr (3, [.ref 85, .int 1, .int c]))))) 9 rfl ?_
                      refine RA.call0 rfl rfl rfl hf0 ?_
                      exact RA.ret rfl rfl) ?_
                    refine RA.steps (i' := 36) (L' := [some (.ref 0), some (.int 1), some (.int 1), some (.int c), some (.ref 84)]) (st' := [.int c]) (h' := ((h0.set 84 (.inr (.inr (3, [.ref 85, .int 1, .int c])))).set 85 (.inl (24, f0)))) 1 rfl ?_
                    exact RA.ret rfl rfl, by
                    refine ⟨Nat.le_of_ble_eq_true rfl, ⟨_, _, rfl⟩, ?_⟩
                    refine RA.steps (i' := 1) (L' := [some (.ref 110), some (.int 1), some (.int 1), some (.int c), none]) (st' := [.int 1]) (h' := ((h0.set 84 (.inr (.inr (3, [.ref 85, .int 1, .int c])))).set 85 (.inl (24, f0)))) 1 rfl ?_
                    refine RA.call0 (h1 := ((h0.set 84 (.inr (.inr (3, [.ref 85, .int 1, .int c])))).set 85 (.inl (24, f0)))) (r1 := some (.int 1)) rfl rfl rfl (Run.ex 4000 (Nat.le_of_ble_eq_true rfl) ⟨_, _, rfl⟩ rfl) ?_
                    refine RA.steps (i' := 7) (L' := [some (.ref 110), some (.int 1), some (.int 1), some (.int c), none]) (st' := [.long 1, .long (-1), .long 1]) (h' := ((h0.set 84 (.inr (.inr (3, [.ref 85, .int 1, .int c])))).set 85 (.inl (24, f0)))) 5 rfl ?_
                    refine RA.call0 (h1 := ((h0.set 84 (.inr (.inr (3, [.ref 85, .int 1, .int c])))).set 85 (.inl (24, f0)))) (r1 := some (.int 1)) rfl rfl rfl (Run.ex 4000 (Nat.le_of_ble_eq_true rfl) ⟨_, _, rfl⟩ rfl) ?_
                    refine RA.steps (i' := 13) (L' := [some (.ref 110), some (.int 1), some (.int 1), some (.int c), none]) (st' := [.int 24, .int c]) (h' := ((h0.set 84 (.inr (.inr (3, [.ref 85, .int 1, .int c])))).set 85 (.inl (24, f0)))) 5 rfl ?_
                    refine RA.if2T rfl (decide_eq_true (Int32.not_lt.mp h11)) ?_
                    refine RA.steps (i' := 19) (L' := [some (.ref 110), some (.int 1), some (.int 1), some (.int c), none]) (st' := [.int c]) (h' := ((h0.set 84 (.inr (.inr (3, [.ref 85, .int 1, .int c])))).set 85 (.inl (24, f0)))) 3 rfl ?_
                    refine RA.if1T rfl (decide_eq_true (Int32.not_lt.mp h12)) ?_
                    refine RA.steps (i' := 38) (L' := [some (.ref 110), some (.int 1), some (.int 1), some (.int c), some (.int 0)]) (st' := []) (h' := ((((h0.set 84 (.inr (.inr (3, [.ref 85, .int 1, .int c])))).set 85 (.inl (24, f0))).set 114 (.inl (4, va_up (va_up (va_up (va_up (va_up (fun _ => 0) 0 (-1)) 1 (-1)) 2 (-1)) 3 (-1)) 1 1))).set 115 (.inl (4, va_up (fun _ => 0) 1 c)))) 14 rfl ?_
                    exact hs1⟩
        · exact ⟨(-1000000001), h0, _, by
              refine ⟨Nat.le_of_ble_eq_true rfl, ⟨_, _, rfl⟩, ?_⟩
              refine RA.steps (i' := 2) (L' := [some (.ref 0), some (.int 1), some (.int b), some (.int c), none]) (st' := [.int 1, .ref 0]) (h' := h0) 2 rfl ?_
              refine RA.call0 (h1 := h0) (r1 := some (.ref 84)) rfl rfl rfl (Run.ex 4000 (Nat.le_of_ble_eq_true rfl) ⟨_, _, rfl⟩ rfl) ?_
              refine RA.steps (i' := 9) (L' := [some (.ref 0), some (.int 1), some (.int b), some (.int c), some (.ref 84)]) (st' := [.int 1, .int (-1), .int b]) (h' := h0) 6 rfl ?_
              refine RA.call0 rfl rfl rfl (within_f (v := b) (lo := (-1)) (hi := 1) h8) ?_
              refine RA.steps (i' := 12) (L' := [some (.ref 0), some (.int 1), some (.int b), some (.int c), some (.ref 84)]) (st' := [.int (-1000000001)]) (h' := h0) 2 rfl ?_
              exact RA.ret rfl rfl, by
              refine ⟨Nat.le_of_ble_eq_true rfl, ⟨_, _, rfl⟩, ?_⟩
              refine RA.steps (i' := 1) (L' := [some (.ref 110), some (.int 1), some (.int b), some (.int c), none]) (st' := [.int 1]) (h' := h0) 1 rfl ?_
              refine RA.call0 (h1 := h0) (r1 := some (.int 1)) rfl rfl rfl (Run.ex 4000 (Nat.le_of_ble_eq_true rfl) ⟨_, _, rfl⟩ rfl) ?_
              refine RA.steps (i' := 7) (L' := [some (.ref 110), some (.int 1), some (.int b), some (.int c), none]) (st' := [.long 1, .long (-1), .long (b : Int32).toInt64]) (h' := h0) 5 rfl ?_
              refine RA.call0 rfl rfl rfl (isIn_f (v := b) (lo := (-1)) (hi := 1) h8) ?_
              refine RA.steps (i' := 15) (L' := [some (.ref 110), some (.int 1), some (.int b), some (.int c), none]) (st' := [.int (-1000000001)]) (h' := h0) 2 rfl ?_
              exact RA.ret rfl rfl⟩
      · by_cases h13 : (-1) ≤ b ∧ b ≤ 1
        · rcases cases_m1_1 h13 with rfl | rfl | rfl
          · obtain ⟨f0, hf0⟩ := fill_run (E := E) (V := pV0) (d := 37) (h := h0) (a := 87) rfl
            obtain ⟨hx1, hs1⟩ := sh_run (E := E) (V := pV0) (d := 39) (S := 2) (so := (-1)) (n := c) (w := 0) (h := (((h0.set 87 (.inl (24, f0))).set 114 (.inl (4, va_up (va_up (va_up (va_up (va_up (fun _ => 0) 0 (-1)) 1 (-1)) 2 (-1)) 3 (-1)) 2 (-1)))).set 115 (.inl (4, va_up (fun _ => 0) 2 0)))) rfl rfl rfl rfl rfl rfl (by decide) (by decide) (by decide)
            exact ⟨0, (h0.set 87 (.inl (24, f0))), _, by
                refine ⟨Nat.le_of_ble_eq_true rfl, ⟨_, _, rfl⟩, ?_⟩
                refine RA.steps (i' := 2) (L' := [some (.ref 0), some (.int 2), some (.int (-1)), some (.int c), none]) (st' := [.int 2, .ref 0]) (h' := h0) 2 rfl ?_
                refine RA.call0 (h1 := h0) (r1 := some (.ref 86)) rfl rfl rfl (Run.ex 4000 (Nat.le_of_ble_eq_true rfl) ⟨_, _, rfl⟩ rfl) ?_
                refine RA.steps (i' := 9) (L' := [some (.ref 0), some (.int 2), some (.int (-1)), some (.int c), some (.ref 86)]) (st' := [.int 1, .int (-1), .int (-1)]) (h' := h0) 6 rfl ?_
                refine RA.call0 (h1 := h0) (r1 := some (.int 1)) rfl rfl rfl (Run.ex 4000 (Nat.le_of_ble_eq_true rfl) ⟨_, _, rfl⟩ rfl) ?_
                refine RA.steps (i' := 19) (L' := [some (.ref 0), some (.int 2), some (.int (-1)), some (.int c), some (.ref 86)]) (st' := [.int 0, .int (-1), .ref 86]) (h' := h0) 7 rfl ?_
                refine RA.call0 (h1 := (h0.set 87 (.inl (24, f0)))) (r1 := none) rfl rfl rfl (by
                  refine ⟨Nat.le_of_ble_eq_true rfl, ⟨_, _, rfl⟩, ?_⟩
                  refine RA.steps (i' := 9) (L' := [some (.ref 86), some (.int (-1)), some (.int 0)]) (st' := [.int 0, .ref 87]) (h' := h0) 9 rfl ?_
                  refine RA.call0 rfl rfl rfl hf0 ?_
                  exact RA.ret rfl rfl) ?_
                refine RA.steps (i' := 21) (L' := [some (.ref 0), some (.int 2), some (.int (-1)), some (.int c), some (.ref 86)]) (st' := [.int 0]) (h' := (h0.set 87 (.inl (24, f0)))) 1 rfl ?_
                exact RA.ret rfl rfl, by
                refine ⟨Nat.le_of_ble_eq_true rfl, ⟨_, _, rfl⟩, ?_⟩
                refine RA.steps (i' := 1) (L' := [some (.ref 110), some (.int 2), some (.int (-1)), some (.int c), none]) (st' := [.int 2]) (h' := (h0.set 87 (.inl (24, f0)))) 1 rfl ?_
                refine RA.call0 (h1 := (h0.set 87 (.inl (24, f0)))) (r1 := some (.int 1)) rfl rfl rfl (Run.ex 4000 (Nat.le_of_ble_eq_true rfl) ⟨_, _, rfl⟩ rfl) ?_
                refine RA.steps (i' := 7) (L' := [some (.ref 110), some (.int 2), some (.int (-1)), some (.int c), none]) (st' := [.long 1, .long (-1), .long (-1)]) (h' := (h0.set 87 (.inl (24, f0)))) 5 rfl ?_
                refine RA.call0 (h1 := (h0.set 87 (.inl (24, f0)))) (r1 := some (.int 1)) rfl rfl rfl (Run.ex 4000 (Nat.le_of_ble_eq_true rfl) ⟨_, _, rfl⟩ rfl) ?_
                refine RA.steps (i' := 38) (L' := [some (.ref 110), some (.int 2), some (.int (-1)), some (.int c), some (.int 0)]) (st' := []) (h' := (((h0.set 87 (.inl (24, f0))).set 114 (.inl (4, va_up (va_up (va_up (va_up (va_up (fun _ => 0) 0 (-1)) 1 (-1)) 2 (-1)) 3 (-1)) 2 (-1)))).set 115 (.inl (4, va_up (fun _ => 0) 2 0)))) 20 rfl ?_
                exact hs1⟩
          · by_cases h14 : 24 < c
            · exact ⟨(-1000000001), h0, _, by
                  refine ⟨Nat.le_of_ble_eq_true rfl, ⟨_, _, rfl⟩, ?_⟩
                  refine RA.steps (i' := 2) (L' := [some (.ref 0), some (.int 2), some (.int 0), some (.int c), none]) (st' := [.int 2, .ref 0]) (h' := h0) 2 rfl ?_
                  refine RA.call0 (h1 := h0) (r1 := some (.ref 86)) rfl rfl rfl (Run.ex 4000 (Nat.le_of_ble_eq_true rfl) ⟨_, _, rfl⟩ rfl) ?_
                  refine RA.steps (i' := 9) (L' := [some (.ref 0), some (.int 2), some (.int 0), some (.int c), some (.ref 86)]) (st' := [.int 1, .int (-1), .int 0]) (h' := h0) 6 rfl ?_
                  refine RA.call0 (h1 := h0) (r1 := some (.int 1)) rfl rfl rfl (Run.ex 4000 (Nat.le_of_ble_eq_true rfl) ⟨_, _, rfl⟩ rfl) ?_
                  refine RA.steps (i' := 24) (L' := [some (.ref 0), some (.int 2), some (.int 0), some (.int c), some (.ref 86)]) (st' := [.int 24, .int c]) (h' := h0) 6 rfl ?_
                  refine RA.if2F rfl (decide_eq_false (Int32.not_le.mpr h14)) ?_
                  refine RA.steps (i' := 26) (L' := [some (.ref 0), some (.int 2), some (.int 0), some (.int c), some (.ref 86)]) (st' := [.int (-1000000001)]) (h' := h0) 1 rfl ?_
                  exact RA.ret rfl rfl, by
                  refine ⟨Nat.le_of_ble_eq_true rfl, ⟨_, _, rfl⟩, ?_⟩
                  refine RA.steps (i' := 1) (L' := [some (.ref 110), some (.int 2), some (.int 0), some (.int c), none]) (st' := [.int 2]) (h' := h0) 1 rfl ?_
                  refine RA.call0 (h1 := h0) (r1 := some (.int 1)) rfl rfl rfl (Run.ex 4000 (Nat.le_of_ble_eq_true rfl) ⟨_, _, rfl⟩ rfl) ?_
                  refine RA.steps (i' := 7) (L' := [some (.ref 110), some (.int 2), some (.int 0), some (.int c), none]) (st' := [.long 1, .long (-1), .long 0]) (h' := h0) 5 rfl ?_
                  refine RA.call0 (h1 := h0) (r1 := some (.int 1)) rfl rfl rfl (Run.ex 4000 (Nat.le_of_ble_eq_true rfl) ⟨_, _, rfl⟩ rfl) ?_
                  refine RA.steps (i' := 13) (L' := [some (.ref 110), some (.int 2), some (.int 0), some (.int c), none]) (st' := [.int 24, .int c]) (h' := h0) 5 rfl ?_
                  refine RA.if2F rfl (decide_eq_false (Int32.not_le.mpr h14)) ?_
                  refine RA.steps (i' := 15) (L' := [some (.ref 110), some (.int 2), some (.int 0), some (.int c), none]) (st' := [.int (-1000000001)]) (h' := h0) 1 rfl ?_
                  exact RA.ret rfl rfl⟩
            · by_cases h15 : c < 0
              · exact ⟨(-1000000014), h0, _, by
                    refine ⟨Nat.le_of_ble_eq_true rfl, ⟨_, _, rfl⟩, ?_⟩
                    refine RA.steps (i' := 2) (L' := [some (.ref 0), some (.int 2), some (.int 0), some (.int c), none]) (st' := [.int 2, .ref 0]) (h' := h0) 2 rfl ?_
                    refine RA.call0 (h1 := h0) (r1 := some (.ref 86)) rfl rfl rfl (Run.ex 4000 (Nat.le_of_ble_eq_true rfl) ⟨_, _, rfl⟩ rfl) ?_
                    refine RA.steps (i' := 9) (L' := [some (.ref 0), some (.int 2), some (.int 0), some (.int c), some (.ref 86)]) (st' := [.int 1, .int (-1), .int 0]) (h' := h0) 6 rfl ?_
                    refine RA.call0 (h1 := h0) (r1 := some (.int 1)) rfl rfl rfl (Run.ex 4000 (Nat.le_of_ble_eq_true rfl) ⟨_, _, rfl⟩ rfl) ?_
                    refine RA.steps (i' := 24) (L' := [some (.ref 0), some (.int 2), some (.int 0), some (.int c), some (.ref 86)]) (st' := [.int 24, .int c]) (h' := h0) 6 rfl ?_
                    refine RA.if2T rfl (decide_eq_true (Int32.not_lt.mp h14)) ?_
                    refine RA.steps (i' := 28) (L' := [some (.ref 0), some (.int 2), some (.int 0), some (.int c), some (.ref 86)]) (st' := [.int c]) (h' := h0) 1 rfl ?_
                    refine RA.if1F rfl (decide_eq_false (Int32.not_le.mpr h15)) ?_
                    refine RA.steps (i' := 30) (L' := [some (.ref 0), some (.int 2), some (.int 0), some (.int c), some (.ref 86)]) (st' := [.int (-1000000014)]) (h' := h0) 1 rfl ?_
                    exact RA.ret rfl rfl, by
                    refine ⟨Nat.le_of_ble_eq_true rfl, ⟨_, _, rfl⟩, ?_⟩
                    refine RA.steps (i' := 1) (L' := [some (.ref 110), some (.int 2), some (.int 0), some (.int c), none]) (st' := [.int 2]) (h' := h0) 1 rfl ?_
                    refine RA.call0 (h1 := h0) (r1 := some (.int 1)) rfl rfl rfl (Run.ex 4000 (Nat.le_of_ble_eq_true rfl) ⟨_, _, rfl⟩ rfl) ?_
                    refine RA.steps (i' := 7) (L' := [some (.ref 110), some (.int 2), some (.int 0), some (.int c), none]) (st' := [.long 1, .long (-1), .long 0]) (h' := h0) 5 rfl ?_
                    refine RA.call0 (h1 := h0) (r1 := some (.int 1)) rfl rfl rfl (Run.ex 4000 (Nat.le_of_ble_eq_true rfl) ⟨_, _, rfl⟩ rfl) ?_
                    refine RA.steps (i' := 13) (L' := [some (.ref 110), some (.int 2), some (.int 0), some (.int c), none]) (st' := [.int 24, .int c]) (h' := h0) 5 rfl ?_
                    refine RA.if2T rfl (decide_eq_true (Int32.not_lt.mp h14)) ?_
                    refine RA.steps (i' := 19) (L' := [some (.ref 110), some (.int 2), some (.int 0), some (.int c), none]) (st' := [.int c]) (h' := h0) 3 rfl ?_
                    refine RA.if1F rfl (decide_eq_false (Int32.not_le.mpr h15)) ?_
                    refine RA.steps (i' := 21) (L' := [some (.ref 110), some (.int 2), some (.int 0), some (.int c), none]) (st' := [.int (-1000000014)]) (h' := h0) 1 rfl ?_
                    exact RA.ret rfl rfl⟩
              · obtain ⟨f0, hf0⟩ := fill_run (E := E) (V := pV0) (d := 37) (h := (h0.set 86 (.inr (.inr (3, [.ref 87, .int 0, .int c]))))) (a := 87) rfl
                obtain ⟨hx1, hs1⟩ := sh_run (E := E) (V := pV0) (d := 39) (S := 2) (so := 0) (n := c) (w := c) (h := ((((h0.set 86 (.inr (.inr (3, [.ref 87, .int 0, .int c])))).set 87 (.inl (24, f0))).set 114 (.inl (4, va_up (va_up (va_up (va_up (va_up (fun _ => 0) 0 (-1)) 1 (-1)) 2 (-1)) 3 (-1)) 2 0))).set 115 (.inl (4, va_up (fun _ => 0) 2 c)))) rfl rfl rfl rfl rfl rfl (by decide) (by decide) (by decide)
                exact ⟨c, ((h0.set 86 (.inr (.inr (3, [.ref 87, .int 0, .int c])))).set 87 (.inl (24, f0))), _, by
                    refine ⟨Nat.le_of_ble_eq_true rfl, ⟨_, _, rfl⟩, ?_⟩
                    refine RA.steps (i' := 2) (L' := [some (.ref 0), some (.int 2), some (.int 0), some (.int c), none]) (st' := [.int 2, .ref 0]) (h' := h0) 2 rfl ?_
                    refine RA.call0 (h1 := h0) (r1 := some (.ref 86)) rfl rfl rfl (Run.ex 4000 (Nat.le_of_ble_eq_true rfl) ⟨_, _, rfl⟩ rfl) ?_
                    refine RA.steps (i' := 9) (L' := [some (.ref 0), some (.int 2), some (.int 0), some (.int c), some (.ref 86)]) (st' := [.int 1, .int (-1), .int 0]) (h' := h0) 6 rfl ?_
                    refine RA.call0 (h1 := h0) (r1 := some (.int 1)) rfl rfl rfl (Run.ex 4000 (Nat.le_of_ble_eq_true rfl) ⟨_, _, rfl⟩ rfl) ?_
                    refine RA.steps (i' := 24) (L' := [some (.ref 0), some (.int 2), some (.int 0), some (.int c), some (.ref 86)]) (st' := [.int 24, .int c]) (h' := h0) 6 rfl ?_
                    refine RA.if2T rfl (decide_eq_true (Int32.not_lt.mp h14)) ?_
                    refine RA.steps (i' := 28) (L' := [some (.ref 0), some (.int 2), some (.int 0), some (.int c), some (.ref 86)]) (st' := [.int c]) (h' := h0) 1 rfl ?_
                    refine RA.if1T rfl (decide_eq_true (Int32.not_lt.mp h15)) ?_
                    refine RA.steps (i' := 34) (L' := [some (.ref 0), some (.int 2), some (.int 0), some (.int c), some (.ref 86)]) (st' := [.int c, .int 0, .ref 86]) (h' := h0) 3 rfl ?_
                    refine RA.call0 (h1 := ((h0.set 86 (.inr (.inr (3, [.ref 87, .int 0, .int c])))).set 87 (.inl (24, f0)))) (r1 := none) rfl rfl rfl (by
                      refine ⟨Nat.le_of_ble_eq_true rfl, ⟨_, _, rfl⟩, ?_⟩
                      refine RA.steps (i' := 9) (L' := [some (.ref 86), some (.int 0), some (.int c)]) (st' := [.int 0, .ref 87]) (h' := (h0.set 86 (.inr (.inr (3, [.ref 87, .int 0, .int c]))))) 9 rfl ?_
                      refine RA.call0 rfl rfl rfl hf0 ?_
                      exact RA.ret rfl rfl) ?_
                    refine RA.steps (i' := 36) (L' := [some (.ref 0), some (.int 2), some (.int 0), some (.int c), some (.ref 86)]) (st' := [.int c]) (h' := ((h0.set 86 (.inr (.inr (3, [.ref 87, .int 0, .int c])))).set 87 (.inl (24, f0)))) 1 rfl ?_
                    exact RA.ret rfl rfl, by
                    refine ⟨Nat.le_of_ble_eq_true rfl, ⟨_, _, rfl⟩, ?_⟩
                    refine RA.steps (i' := 1) (L' := [some (.ref 110), some (.int 2), some (.int 0), some (.int c), none]) (st' := [.int 2]) (h' := ((h0.set 86 (.inr (.inr (3, [.ref 87, .int 0, .int c])))).set 87 (.inl (24, f0)))) 1 rfl ?_
                    refine RA.call0 (h1 := ((h0.set 86 (.inr (.inr (3, [.ref 87, .int 0, .int c])))).set 87 (.inl (24, f0)))) (r1 := some (.int 1)) rfl rfl rfl (Run.ex 4000 (Nat.le_of_ble_eq_true rfl) ⟨_, _, rfl⟩ rfl) ?_
                    refine RA.steps (i' := 7) (L' := [some (.ref 110), some (.int 2), some (.int 0), some (.int c), none]) (st' := [.long 1, .long (-1), .long 0]) (h' := ((h0.set 86 (.inr (.inr (3, [.ref 87, .int 0, .int c])))).set 87 (.inl (24, f0)))) 5 rfl ?_
                    refine RA.call0 (h1 := ((h0.set 86 (.inr (.inr (3, [.ref 87, .int 0, .int c])))).set 87 (.inl (24, f0)))) (r1 := some (.int 1)) rfl rfl rfl (Run.ex 4000 (Nat.le_of_ble_eq_true rfl) ⟨_, _, rfl⟩ rfl) ?_
                    refine RA.steps (i' := 13) (L' := [some (.ref 110), some (.int 2), some (.int 0), some (.int c), none]) (st' := [.int 24, .int c]) (h' := ((h0.set 86 (.inr (.inr (3, [.ref 87, .int 0, .int c])))).set 87 (.inl (24, f0)))) 5 rfl ?_
                    refine RA.if2T rfl (decide_eq_true (Int32.not_lt.mp h14)) ?_
                    refine RA.steps (i' := 19) (L' := [some (.ref 110), some (.int 2), some (.int 0), some (.int c), none]) (st' := [.int c]) (h' := ((h0.set 86 (.inr (.inr (3, [.ref 87, .int 0, .int c])))).set 87 (.inl (24, f0)))) 3 rfl ?_
                    refine RA.if1T rfl (decide_eq_true (Int32.not_lt.mp h15)) ?_
                    refine RA.steps (i' := 38) (L' := [some (.ref 110), some (.int 2), some (.int 0), some (.int c), some (.int 0)]) (st' := []) (h' := ((((h0.set 86 (.inr (.inr (3, [.ref 87, .int 0, .int c])))).set 87 (.inl (24, f0))).set 114 (.inl (4, va_up (va_up (va_up (va_up (va_up (fun _ => 0) 0 (-1)) 1 (-1)) 2 (-1)) 3 (-1)) 2 0))).set 115 (.inl (4, va_up (fun _ => 0) 2 c)))) 14 rfl ?_
                    exact hs1⟩
          · by_cases h16 : 24 < c
            · exact ⟨(-1000000001), h0, _, by
                  refine ⟨Nat.le_of_ble_eq_true rfl, ⟨_, _, rfl⟩, ?_⟩
                  refine RA.steps (i' := 2) (L' := [some (.ref 0), some (.int 2), some (.int 1), some (.int c), none]) (st' := [.int 2, .ref 0]) (h' := h0) 2 rfl ?_
                  refine RA.call0 (h1 := h0) (r1 := some (.ref 86)) rfl rfl rfl (Run.ex 4000 (Nat.le_of_ble_eq_true rfl) ⟨_, _, rfl⟩ rfl) ?_
                  refine RA.steps (i' := 9) (L' := [some (.ref 0), some (.int 2), some (.int 1), some (.int c), some (.ref 86)]) (st' := [.int 1, .int (-1), .int 1]) (h' := h0) 6 rfl ?_
                  refine RA.call0 (h1 := h0) (r1 := some (.int 1)) rfl rfl rfl (Run.ex 4000 (Nat.le_of_ble_eq_true rfl) ⟨_, _, rfl⟩ rfl) ?_
                  refine RA.steps (i' := 24) (L' := [some (.ref 0), some (.int 2), some (.int 1), some (.int c), some (.ref 86)]) (st' := [.int 24, .int c]) (h' := h0) 6 rfl ?_
                  refine RA.if2F rfl (decide_eq_false (Int32.not_le.mpr h16)) ?_
                  refine RA.steps (i' := 26) (L' := [some (.ref 0), some (.int 2), some (.int 1), some (.int c), some (.ref 86)]) (st' := [.int (-1000000001)]) (h' := h0) 1 rfl ?_
                  exact RA.ret rfl rfl, by
                  refine ⟨Nat.le_of_ble_eq_true rfl, ⟨_, _, rfl⟩, ?_⟩
                  refine RA.steps (i' := 1) (L' := [some (.ref 110), some (.int 2), some (.int 1), some (.int c), none]) (st' := [.int 2]) (h' := h0) 1 rfl ?_
                  refine RA.call0 (h1 := h0) (r1 := some (.int 1)) rfl rfl rfl (Run.ex 4000 (Nat.le_of_ble_eq_true rfl) ⟨_, _, rfl⟩ rfl) ?_
                  refine RA.steps (i' := 7) (L' := [some (.ref 110), some (.int 2), some (.int 1), some (.int c), none]) (st' := [.long 1, .long (-1), .long 1]) (h' := h0) 5 rfl ?_
                  refine RA.call0 (h1 := h0) (r1 := some (.int 1)) rfl rfl rfl (Run.ex 4000 (Nat.le_of_ble_eq_true rfl) ⟨_, _, rfl⟩ rfl) ?_
                  refine RA.steps (i' := 13) (L' := [some (.ref 110), some (.int 2), some (.int 1), some (.int c), none]) (st' := [.int 24, .int c]) (h' := h0) 5 rfl ?_
                  refine RA.if2F rfl (decide_eq_false (Int32.not_le.mpr h16)) ?_
                  refine RA.steps (i' := 15) (L' := [some (.ref 110), some (.int 2), some (.int 1), some (.int c), none]) (st' := [.int (-1000000001)]) (h' := h0) 1 rfl ?_
                  exact RA.ret rfl rfl⟩
            · by_cases h17 : c < 0
              · exact ⟨(-1000000014), h0, _, by
                    refine ⟨Nat.le_of_ble_eq_true rfl, ⟨_, _, rfl⟩, ?_⟩
                    refine RA.steps (i' := 2) (L' := [some (.ref 0), some (.int 2), some (.int 1), some (.int c), none]) (st' := [.int 2, .ref 0]) (h' := h0) 2 rfl ?_
                    refine RA.call0 (h1 := h0) (r1 := some (.ref 86)) rfl rfl rfl (Run.ex 4000 (Nat.le_of_ble_eq_true rfl) ⟨_, _, rfl⟩ rfl) ?_
                    refine RA.steps (i' := 9) (L' := [some (.ref 0), some (.int 2), some (.int 1), some (.int c), some (.ref 86)]) (st' := [.int 1, .int (-1), .int 1]) (h' := h0) 6 rfl ?_
                    refine RA.call0 (h1 := h0) (r1 := some (.int 1)) rfl rfl rfl (Run.ex 4000 (Nat.le_of_ble_eq_true rfl) ⟨_, _, rfl⟩ rfl) ?_
                    refine RA.steps (i' := 24) (L' := [some (.ref 0), some (.int 2), some (.int 1), some (.int c), some (.ref 86)]) (st' := [.int 24, .int c]) (h' := h0) 6 rfl ?_
                    refine RA.if2T rfl (decide_eq_true (Int32.not_lt.mp h16)) ?_
                    refine RA.steps (i' := 28) (L' := [some (.ref 0), some (.int 2), some (.int 1), some (.int c), some (.ref 86)]) (st' := [.int c]) (h' := h0) 1 rfl ?_
                    refine RA.if1F rfl (decide_eq_false (Int32.not_le.mpr h17)) ?_
                    refine RA.steps (i' := 30) (L' := [some (.ref 0), some (.int 2), some (.int 1), some (.int c), some (.ref 86)]) (st' := [.int (-1000000014)]) (h' := h0) 1 rfl ?_
                    exact RA.ret rfl rfl, by
                    refine ⟨Nat.le_of_ble_eq_true rfl, ⟨_, _, rfl⟩, ?_⟩
                    refine RA.steps (i' := 1) (L' := [some (.ref 110), some (.int 2), some (.int 1), some (.int c), none]) (st' := [.int 2]) (h' := h0) 1 rfl ?_
                    refine RA.call0 (h1 := h0) (r1 := some (.int 1)) rfl rfl rfl (Run.ex 4000 (Nat.le_of_ble_eq_true rfl) ⟨_, _, rfl⟩ rfl) ?_
                    refine RA.steps (i' := 7) (L' := [some (.ref 110), some (.int 2), some (.int 1), some (.int c), none]) (st' := [.long 1, .long (-1), .long 1]) (h' := h0) 5 rfl ?_
                    refine RA.call0 (h1 := h0) (r1 := some (.int 1)) rfl rfl rfl (Run.ex 4000 (Nat.le_of_ble_eq_true rfl) ⟨_, _, rfl⟩ rfl) ?_
                    refine RA.steps (i' := 13) (L' := [some (.ref 110), some (.int 2), some (.int 1), some (.int c), none]) (st' := [.int 24, .int c]) (h' := h0) 5 rfl ?_
                    refine RA.if2T rfl (decide_eq_true (Int32.not_lt.mp h16)) ?_
                    refine RA.steps (i' := 19) (L' := [some (.ref 110), some (.int 2), some (.int 1), some (.int c), none]) (st' := [.int c]) (h' := h0) 3 rfl ?_
                    refine RA.if1F rfl (decide_eq_false (Int32.not_le.mpr h17)) ?_
                    refine RA.steps (i' := 21) (L' := [some (.ref 110), some (.int 2), some (.int 1), some (.int c), none]) (st' := [.int (-1000000014)]) (h' := h0) 1 rfl ?_
                    exact RA.ret rfl rfl⟩
              · obtain ⟨f0, hf0⟩ := fill_run (E := E) (V := pV0) (d := 37) (h := (h0.set 86 (.inr (.inr (3, [.ref 87, .int 1, .int c]))))) (a := 87) rfl
                obtain ⟨hx1, hs1⟩ := sh_run (E := E) (V := pV0) (d := 39) (S := 2) (so := 1) (n := c) (w := c) (h := ((((h0.set 86 (.inr (.inr (3, [.ref 87, .int 1, .int c])))).set 87 (.inl (24, f0))).set 114 (.inl (4, va_up (va_up (va_up (va_up (va_up (fun _ => 0) 0 (-1)) 1 (-1)) 2 (-1)) 3 (-1)) 2 1))).set 115 (.inl (4, va_up (fun _ => 0) 2 c)))) rfl rfl rfl rfl rfl rfl (by decide) (by decide) (by decide)
                exact ⟨c, ((h0.set 86 (.inr (.inr (3, [.ref 87, .int 1, .int c])))).set 87 (.inl (24, f0))), _, by
                    refine ⟨Nat.le_of_ble_eq_true rfl, ⟨_, _, rfl⟩, ?_⟩
                    refine RA.steps (i' := 2) (L' := [some (.ref 0), some (.int 2), some (.int 1), some (.int c), none]) (st' := [.int 2, .ref 0]) (h' := h0) 2 rfl ?_
                    refine RA.call0 (h1 := h0) (r1 := some (.ref 86)) rfl rfl rfl (Run.ex 4000 (Nat.le_of_ble_eq_true rfl) ⟨_, _, rfl⟩ rfl) ?_
                    refine RA.steps (i' := 9) (L' := [some (.ref 0), some (.int 2), some (.int 1), some (.int c), some (.ref 86)]) (st' := [.int 1, .int (-1), .int 1]) (h' := h0) 6 rfl ?_
                    refine RA.call0 (h1 := h0) (r1 := some (.int 1)) rfl rfl rfl (Run.ex 4000 (Nat.le_of_ble_eq_true rfl) ⟨_, _, rfl⟩ rfl) ?_
                    refine RA.steps (i' := 24) (L' := [some (.ref 0), some (.int 2), some (.int 1), some (.int c), some (.ref 86)]) (st' := [.int 24, .int c]) (h' := h0) 6 rfl ?_
                    refine RA.if2T rfl (decide_eq_true (Int32.not_lt.mp h16)) ?_
                    refine RA.steps (i' := 28) (L' := [some (.ref 0), some (.int 2), some (.int 1), some (.int c), some (.ref 86)]) (st' := [.int c]) (h' := h0) 1 rfl ?_
                    refine RA.if1T rfl (decide_eq_true (Int32.not_lt.mp h17)) ?_
                    refine RA.steps (i' := 34) (L' := [some (.ref 0), some (.int 2), some (.int 1), some (.int c), some (.ref 86)]) (st' := [.int c, .int 1, .ref 86]) (h' := h0) 3 rfl ?_
                    refine RA.call0 (h1 := ((h0.set 86 (.inr (.inr (3, [.ref 87, .int 1, .int c])))).set 87 (.inl (24, f0)))) (r1 := none) rfl rfl rfl (by
                      refine ⟨Nat.le_of_ble_eq_true rfl, ⟨_, _, rfl⟩, ?_⟩
                      refine RA.steps (i' := 9) (L' := [some (.ref 86), some (.int 1), some (.int c)]) (st' := [.int 0, .ref 87]) (h' := (h0.set 86 (.inr (.inr (3, [.ref 87, .int 1, .int c]))))) 9 rfl ?_
                      refine RA.call0 rfl rfl rfl hf0 ?_
                      exact RA.ret rfl rfl) ?_
                    refine RA.steps (i' := 36) (L' := [some (.ref 0), some (.int 2), some (.int 1), some (.int c), some (.ref 86)]) (st' := [.int c]) (h' := ((h0.set 86 (.inr (.inr (3, [.ref 87, .int 1, .int c])))).set 87 (.inl (24, f0)))) 1 rfl ?_
                    exact RA.ret rfl rfl, by
                    refine ⟨Nat.le_of_ble_eq_true rfl, ⟨_, _, rfl⟩, ?_⟩
                    refine RA.steps (i' := 1) (L' := [some (.ref 110), some (.int 2), some (.int 1), some (.int c), none]) (st' := [.int 2]) (h' := ((h0.set 86 (.inr (.inr (3, [.ref 87, .int 1, .int c])))).set 87 (.inl (24, f0)))) 1 rfl ?_
                    refine RA.call0 (h1 := ((h0.set 86 (.inr (.inr (3, [.ref 87, .int 1, .int c])))).set 87 (.inl (24, f0)))) (r1 := some (.int 1)) rfl rfl rfl (Run.ex 4000 (Nat.le_of_ble_eq_true rfl) ⟨_, _, rfl⟩ rfl) ?_
                    refine RA.steps (i' := 7) (L' := [some (.ref 110), some (.int 2), some (.int 1), some (.int c), none]) (st' := [.long 1, .long (-1), .long 1]) (h' := ((h0.set 86 (.inr (.inr (3, [.ref 87, .int 1, .int c])))).set 87 (.inl (24, f0)))) 5 rfl ?_
                    refine RA.call0 (h1 := ((h0.set 86 (.inr (.inr (3, [.ref 87, .int 1, .int c])))).set 87 (.inl (24, f0)))) (r1 := some (.int 1)) rfl rfl rfl (Run.ex 4000 (Nat.le_of_ble_eq_true rfl) ⟨_, _, rfl⟩ rfl) ?_
                    refine RA.steps (i' := 13) (L' := [some (.ref 110), some (.int 2), some (.int 1), some (.int c), none]) (st' := [.int 24, .int c]) (h' := ((h0.set 86 (.inr (.inr (3, [.ref 87, .int 1, .int c])))).set 87 (.inl (24, f0)))) 5 rfl ?_
                    refine RA.if2T rfl (decide_eq_true (Int32.not_lt.mp h16)) ?_
                    refine RA.steps (i' := 19) (L' := [some (.ref 110), some (.int 2), some (.int 1), some (.int c), none]) (st' := [.int c]) (h' := ((h0.set 86 (.inr (.inr (3, [.ref 87, .int 1, .int c])))).set 87 (.inl (24, f0)))) 3 rfl ?_
                    refine RA.if1T rfl (decide_eq_true (Int32.not_lt.mp h17)) ?_
                    refine RA.steps (i' := 38) (L' := [some (.ref 110), some (.int 2), some (.int 1), some (.int c), some (.int 0)]) (st' := []) (h' := ((((h0.set 86 (.inr (.inr (3, [.ref 87, .int 1, .int c])))).set 87 (.inl (24, f0))).set 114 (.inl (4, va_up (va_up (va_up (va_up (va_up (fun _ => 0) 0 (-1)) 1 (-1)) 2 (-1)) 3 (-1)) 2 1))).set 115 (.inl (4, va_up (fun _ => 0) 2 c)))) 14 rfl ?_
                    exact hs1⟩
        · exact ⟨(-1000000001), h0, _, by
              refine ⟨Nat.le_of_ble_eq_true rfl, ⟨_, _, rfl⟩, ?_⟩
              refine RA.steps (i' := 2) (L' := [some (.ref 0), some (.int 2), some (.int b), some (.int c), none]) (st' := [.int 2, .ref 0]) (h' := h0) 2 rfl ?_
              refine RA.call0 (h1 := h0) (r1 := some (.ref 86)) rfl rfl rfl (Run.ex 4000 (Nat.le_of_ble_eq_true rfl) ⟨_, _, rfl⟩ rfl) ?_
              refine RA.steps (i' := 9) (L' := [some (.ref 0), some (.int 2), some (.int b), some (.int c), some (.ref 86)]) (st' := [.int 1, .int (-1), .int b]) (h' := h0) 6 rfl ?_
              refine RA.call0 rfl rfl rfl (within_f (v := b) (lo := (-1)) (hi := 1) h13) ?_
              refine RA.steps (i' := 12) (L' := [some (.ref 0), some (.int 2), some (.int b), some (.int c), some (.ref 86)]) (st' := [.int (-1000000001)]) (h' := h0) 2 rfl ?_
              exact RA.ret rfl rfl, by
              refine ⟨Nat.le_of_ble_eq_true rfl, ⟨_, _, rfl⟩, ?_⟩
              refine RA.steps (i' := 1) (L' := [some (.ref 110), some (.int 2), some (.int b), some (.int c), none]) (st' := [.int 2]) (h' := h0) 1 rfl ?_
              refine RA.call0 (h1 := h0) (r1 := some (.int 1)) rfl rfl rfl (Run.ex 4000 (Nat.le_of_ble_eq_true rfl) ⟨_, _, rfl⟩ rfl) ?_
              refine RA.steps (i' := 7) (L' := [some (.ref 110), some (.int 2), some (.int b), some (.int c), none]) (st' := [.long 1, .long (-1), .long (b : Int32).toInt64]) (h' := h0) 5 rfl ?_
              refine RA.call0 rfl rfl rfl (isIn_f (v := b) (lo := (-1)) (hi := 1) h13) ?_
              refine RA.steps (i' := 15) (L' := [some (.ref 110), some (.int 2), some (.int b), some (.int c), none]) (st' := [.int (-1000000001)]) (h' := h0) 2 rfl ?_
              exact RA.ret rfl rfl⟩
      · by_cases h18 : (-1) ≤ b ∧ b ≤ 1
        · rcases cases_m1_1 h18 with rfl | rfl | rfl
          · obtain ⟨f0, hf0⟩ := fill_run (E := E) (V := pV0) (d := 37) (h := h0) (a := 89) rfl
            obtain ⟨hx1, hs1⟩ := sh_run (E := E) (V := pV0) (d := 39) (S := 3) (so := (-1)) (n := c) (w := 0) (h := (((h0.set 89 (.inl (24, f0))).set 114 (.inl (4, va_up (va_up (va_up (va_up (va_up (fun _ => 0) 0 (-1)) 1 (-1)) 2 (-1)) 3 (-1)) 3 (-1)))).set 115 (.inl (4, va_up (fun _ => 0) 3 0)))) rfl rfl rfl rfl rfl rfl (by decide) (by decide) (by decide)
            exact ⟨0, (h0.set 89 (.inl (24, f0))), _, by
                refine ⟨Nat.le_of_ble_eq_true rfl, ⟨_, _, rfl⟩, ?_⟩
                refine RA.steps (i' := 2) (L' := [some (.ref 0), some (.int 3), some (.int (-1)), some (.int c), none]) (st' := [.int 3, .ref 0]) (h' := h0) 2 rfl ?_
                refine RA.call0 (h1 := h0) (r1 := some (.ref 88)) rfl rfl rfl (Run.ex 4000 (Nat.le_of_ble_eq_true rfl) ⟨_, _, rfl⟩ rfl) ?_
                refine RA.steps (i' := 9) (L' := [some (.ref 0), some (.int 3), some (.int (-1)), some (.int c), some (.ref 88)]) (st' := [.int 1, .int (-1), .int (-1)]) (h' := h0) 6 rfl ?_
                refine RA.call0 (h1 := h0) (r1 := some (.int 1)) rfl rfl rfl (Run.ex 4000 (Nat.le_of_ble_eq_true rfl) ⟨_, _, rfl⟩ rfl) ?_
                refine RA.steps (i' := 19) (L' := [some (.ref 0), some (.int 3), some (.int (-1)), some (.int c), some (.ref 88)]) (st' := [.int 0, .int (-1), .ref 88]) (h' := h0) 7 rfl ?_
                refine RA.call0 (h1 := (h0.set 89 (.inl (24, f0)))) (r1 := none) rfl rfl rfl (by
                  refine ⟨Nat.le_of_ble_eq_true rfl, ⟨_, _, rfl⟩, ?_⟩
                  refine RA.steps (i' := 9) (L' := [some (.ref 88), some (.int (-1)), some (.int 0)]) (st' := [.int 0, .ref 89]) (h' := h0) 9 rfl ?_
                  refine RA.call0 rfl rfl rfl hf0 ?_
                  exact RA.ret rfl rfl) ?_
                refine RA.steps (i' := 21) (L' := [some (.ref 0), some (.int 3), some (.int (-1)), some (.int c), some (.ref 88)]) (st' := [.int 0]) (h' := (h0.set 89 (.inl (24, f0)))) 1 rfl ?_
                exact RA.ret rfl rfl, by
                refine ⟨Nat.le_of_ble_eq_true rfl, ⟨_, _, rfl⟩, ?_⟩
                refine RA.steps (i' := 1) (L' := [some (.ref 110), some (.int 3), some (.int (-1)), some (.int c), none]) (st' := [.int 3]) (h' := (h0.set 89 (.inl (24, f0)))) 1 rfl ?_
                refine RA.call0 (h1 := (h0.set 89 (.inl (24, f0)))) (r1 := some (.int 1)) rfl rfl rfl (Run.ex 4000 (Nat.le_of_ble_eq_true rfl) ⟨_, _, rfl⟩ rfl) ?_
                refine RA.steps (i' := 7) (L' := [some (.ref 110), some (.int 3), some (.int (-1)), some (.int c), none]) (st' := [.long 1, .long (-1), .long (-1)]) (h' := (h0.set 89 (.inl (24, f0)))) 5 rfl ?_
                refine RA.call0 (h1 := (h0.set 89 (.inl (24, f0)))) (r1 := some (.int 1)) rfl rfl rfl (Run.ex 4000 (Nat.le_of_ble_eq_true rfl) ⟨_, _, rfl⟩ rfl) ?_
                refine RA.steps (i' := 38) (L' := [some (.ref 110), some (.int 3), some (.int (-1)), some (.int c), some (.int 0)]) (st' := []) (h' := (((h0.set 89 (.inl (24, f0))).set 114 (.inl (4, va_up (va_up (va_up (va_up (va_up (fun _ => 0) 0 (-1)) 1 (-1)) 2 (-1)) 3 (-1)) 3 (-1)))).set 115 (.inl (4, va_up (fun _ => 0) 3 0)))) 20 rfl ?_
                exact hs1⟩
          · by_cases h19 : 24 < c
            · exact ⟨(-1000000001), h0, _, by
                  refine ⟨Nat.le_of_ble_eq_true rfl, ⟨_, _, rfl⟩, ?_⟩
                  refine RA.steps (i' := 2) (L' := [some (.ref 0), some (.int 3), some (.int 0), some (.int c), none]) (st' := [.int 3, .ref 0]) (h' := h0) 2 rfl ?_
                  refine RA.call0 (h1 := h0) (r1 := some (.ref 88)) rfl rfl rfl (Run.ex 4000 (Nat.le_of_ble_eq_true rfl) ⟨_, _, rfl⟩ rfl) ?_
                  refine RA.steps (i' := 9) (L' := [some (.ref 0), some (.int 3), some (.int 0), some (.int c), some (.ref 88)]) (st' := [.int 1, .int (-1), .int 0]) (h' := h0) 6 rfl ?_
                  refine RA.call0 (h1 := h0) (r1 := some (.int 1)) rfl rfl rfl (Run.ex 4000 (Nat.le_of_ble_eq_true rfl) ⟨_, _, rfl⟩ rfl) ?_
                  refine RA.steps (i' := 24) (L' := [some (.ref 0), some (.int 3), some (.int 0), some (.int c), some (.ref 88)]) (st' := [.int 24, .int c]) (h' := h0) 6 rfl ?_
                  refine RA.if2F rfl (decide_eq_false (Int32.not_le.mpr h19)) ?_
                  refine RA.steps (i' := 26) (L' := [some (.ref 0), some (.int 3), some (.int 0), some (.int c), some (.ref 88)]) (st' := [.int (-1000000001)]) (h' := h0) 1 rfl ?_
                  exact RA.ret rfl rfl, by
                  refine ⟨Nat.le_of_ble_eq_true rfl, ⟨_, _, rfl⟩, ?_⟩
                  refine RA.steps (i' := 1) (L' := [some (.ref 110), some (.int 3), some (.int 0), some (.int c), none]) (st' := [.int 3]) (h' := h0) 1 rfl ?_
                  refine RA.call0 (h1 := h0) (r1 := some (.int 1)) rfl rfl rfl (Run.ex 4000 (Nat.le_of_ble_eq_true rfl) ⟨_, _, rfl⟩ rfl) ?_
                  refine RA.steps (i' := 7) (L' := [some (.ref 110), some (.int 3), some (.int 0), some (.int c), none]) (st' := [.long 1, .long (-1), .long 0]) (h' := h0) 5 rfl ?_
                  refine RA.call0 (h1 := h0) (r1 := some (.int 1)) rfl rfl rfl (Run.ex 4000 (Nat.le_of_ble_eq_true rfl) ⟨_, _, rfl⟩ rfl) ?_
                  refine RA.steps (i' := 13) (L' := [some (.ref 110), some (.int 3), some (.int 0), some (.int c), none]) (st' := [.int 24, .int c]) (h' := h0) 5 rfl ?_
                  refine RA.if2F rfl (decide_eq_false (Int32.not_le.mpr h19)) ?_
                  refine RA.steps (i' := 15) (L' := [some (.ref 110), some (.int 3), some (.int 0), some (.int c), none]) (st' := [.int (-1000000001)]) (h' := h0) 1 rfl ?_
                  exact RA.ret rfl rfl⟩
            · by_cases h20 : c < 0
              · exact ⟨(-1000000014), h0, _, by
                    refine ⟨Nat.le_of_ble_eq_true rfl, ⟨_, _, rfl⟩, ?_⟩
                    refine RA.steps (i' := 2) (L' := [some (.ref 0), some (.int 3), some (.int 0), some (.int c), none]) (st' := [.int 3, .ref 0]) (h' := h0) 2 rfl ?_
                    refine RA.call0 (h1 := h0) (r1 := some (.ref 88)) rfl rfl rfl (Run.ex 4000 (Nat.le_of_ble_eq_true rfl) ⟨_, _, rfl⟩ rfl) ?_
                    refine RA.steps (i' := 9) (L' := [some (.ref 0), some (.int 3), some (.int 0), some (.int c), some (.ref 88)]) (st' := [.int 1, .int (-1), .int 0]) (h' := h0) 6 rfl ?_
                    refine RA.call0 (h1 := h0) (r1 := some (.int 1)) rfl rfl rfl (Run.ex 4000 (Nat.le_of_ble_eq_true rfl) ⟨_, _, rfl⟩ rfl) ?_
                    refine RA.steps (i' := 24) (L' := [some (.ref 0), some (.int 3), some (.int 0), some (.int c), some (.ref 88)]) (st' := [.int 24, .int c]) (h' := h0) 6 rfl ?_
                    refine RA.if2T rfl (decide_eq_true (Int32.not_lt.mp h19)) ?_
                    refine RA.steps (i' := 28) (L' := [some (.ref 0), some (.int 3), some (.int 0), some (.int c), some (.ref 88)]) (st' := [.int c]) (h' := h0) 1 rfl ?_
                    refine RA.if1F rfl (decide_eq_false (Int32.not_le.mpr h20)) ?_
                    refine RA.steps (i' := 30) (L' := [some (.ref 0), some (.int 3), some (.int 0), some (.int c), some (.ref 88)]) (st' := [.int (-1000000014)]) (h' := h0) 1 rfl ?_
                    exact RA.ret rfl rfl, by
                    refine ⟨Nat.le_of_ble_eq_true rfl, ⟨_, _, rfl⟩, ?_⟩
                    refine RA.steps (i' := 1) (L' := [some (.ref 110), some (.int 3), some (.int 0), some (.int c), none]) (st' := [.int 3]) (h' := h0) 1 rfl ?_
                    refine RA.call0 (h1 := h0) (r1 := some (.int 1)) rfl rfl rfl (Run.ex 4000 (Nat.le_of_ble_eq_true rfl) ⟨_, _, rfl⟩ rfl) ?_
                    refine RA.steps (i' := 7) (L' := [some (.ref 110), some (.int 3), some (.int 0), some (.int c), none]) (st' := [.long 1, .long (-1), .long 0]) (h' := h0) 5 rfl ?_
                    refine RA.call0 (h1 := h0) (r1 := some (.int 1)) rfl rfl rfl (Run.ex 4000 (Nat.le_of_ble_eq_true rfl) ⟨_, _, rfl⟩ rfl) ?_
                    refine RA.steps (i' := 13) (L' := [some (.ref 110), some (.int 3), some (.int 0), some (.int c), none]) (st' := [.int 24, .int c]) (h' := h0) 5 rfl ?_
                    refine RA.if2T rfl (decide_eq_true (Int32.not_lt.mp h19)) ?_
                    refine RA.steps (i' := 19) (L' := [some (.ref 110), some (.int 3), some (.int 0), some (.int c), none]) (st' := [.int c]) (h' := h0) 3 rfl ?_
                    refine RA.if1F rfl (decide_eq_false (Int32.not_le.mpr h20)) ?_
                    refine RA.steps (i' := 21) (L' := [some (.ref 110), some (.int 3), some (.int 0), some (.int c), none]) (st' := [.int (-1000000014)]) (h' := h0) 1 rfl ?_
                    exact RA.ret rfl rfl⟩
              · obtain ⟨f0, hf0⟩ := fill_run (E := E) (V := pV0) (d := 37) (h := (h0.set 88 (.inr (.inr (3, [.ref 89, .int 0, .int c]))))) (a := 89) rfl
                obtain ⟨hx1, hs1⟩ := sh_run (E := E) (V := pV0) (d := 39) (S := 3) (so := 0) (n := c) (w := c) (h := ((((h0.set 88 (.inr (.inr (3, [.ref 89, .int 0, .int c])))).set 89 (.inl (24, f0))).set 114 (.inl (4, va_up (va_up (va_up (va_up (va_up (fun _ => 0) 0 (-1)) 1 (-1)) 2 (-1)) 3 (-1)) 3 0))).set 115 (.inl (4, va_up (fun _ => 0) 3 c)))) rfl rfl rfl rfl rfl rfl (by decide) (by decide) (by decide)
                exact ⟨c, ((h0.set 88 (.inr (.inr (3, [.ref 89, .int 0, .int c])))).set 89 (.inl (24, f0))), _, by
                    refine ⟨Nat.le_of_ble_eq_true rfl, ⟨_, _, rfl⟩, ?_⟩
                    refine RA.steps (i' := 2) (L' := [some (.ref 0), some (.int 3), some (.int 0), some (.int c), none]) (st' := [.int 3, .ref 0]) (h' := h0) 2 rfl ?_
                    refine RA.call0 (h1 := h0) (r1 := some (.ref 88)) rfl rfl rfl (Run.ex 4000 (Nat.le_of_ble_eq_true rfl) ⟨_, _, rfl⟩ rfl) ?_
                    refine RA.steps (i' := 9) (L' := [some (.ref 0), some (.int 3), some (.int 0), some (.int c), some (.ref 88)]) (st' := [.int 1, .int (-1), .int 0]) (h' := h0) 6 rfl ?_
                    refine RA.call0 (h1 := h0) (r1 := some (.int 1)) rfl rfl rfl (Run.ex 4000 (Nat.le_of_ble_eq_true rfl) ⟨_, _, rfl⟩ rfl) ?_
                    refine RA.steps (i' := 24) (L' := [some (.ref 0), some (.int 3), some (.int 0), some (.int c), some (.ref 88)]) (st' := [.int 24, .int c]) (h' := h0) 6 rfl ?_
                    refine RA.if2T rfl (decide_eq_true (Int32.not_lt.mp h19)) ?_
                    refine RA.steps (i' := 28) (L' := [some (.ref 0), some (.int 3), some (.int 0), some (.int c), some (.ref 88)]) (st' := [.int c]) (h' := h0) 1 rfl ?_
                    refine RA.if1T rfl (decide_eq_true (Int32.not_lt.mp h20)) ?_
                    refine RA.steps (i' := 34) (L' := [some (.ref 0), some (.int 3), some (.int 0), some (.int c), some (.ref 88)]) (st' := [.int c, .int 0, .ref 88]) (h' := h0) 3 rfl ?_
                    refine RA.call0 (h1 := ((h0.set 88 (.inr (.inr (3, [.ref 89, .int 0, .int c])))).set 89 (.inl (24, f0)))) (r1 := none) rfl rfl rfl (by
                      refine ⟨Nat.le_of_ble_eq_true rfl, ⟨_, _, rfl⟩, ?_⟩
                      refine RA.steps (i' := 9) (L' := [some (.ref 88), some (.int 0), some (.int c)]) (st' := [.int 0, .ref 89]) (h' := (h0.set 88 (.inr (.inr (3, [.ref 89, .int 0, .int c]))))) 9 rfl ?_
                      refine RA.call0 rfl rfl rfl hf0 ?_
                      exact RA.ret rfl rfl) ?_
                    refine RA.steps (i' := 36) (L' := [some (.ref 0), some (.int 3), some (.int 0), some (.int c), some (.ref 88)]) (st' := [.int c]) (h' := ((h0.set 88 (.inr (.inr (3, [.ref 89, .int 0, .int c])))).set 89 (.inl (24, f0)))) 1 rfl ?_
                    exact RA.ret rfl rfl, by
                    refine ⟨Nat.le_of_ble_eq_true rfl, ⟨_, _, rfl⟩, ?_⟩
                    refine RA.steps (i' := 1) (L' := [some (.ref 110), some (.int 3), some (.int 0), some (.int c), none]) (st' := [.int 3]) (h' := ((h0.set 88 (.inr (.inr (3, [.ref 89, .int 0, .int c])))).set 89 (.inl (24, f0)))) 1 rfl ?_
                    refine RA.call0 (h1 := ((h0.set 88 (.inr (.inr (3, [.ref 89, .int 0, .int c])))).set 89 (.inl (24, f0)))) (r1 := some (.int 1)) rfl rfl rfl (Run.ex 4000 (Nat.le_of_ble_eq_true rfl) ⟨_, _, rfl⟩ rfl) ?_
                    refine RA.steps (i' := 7) (L' := [some (.ref 110), some (.int 3), some (.int 0), some (.int c), none]) (st' := [.long 1, .long (-1), .long 0]) (h' := ((h0.set 88 (.inr (.inr (3, [.ref 89, .int 0, .int c])))).set 89 (.inl (24, f0)))) 5 rfl ?_
                    refine RA.call0 (h1 := ((h0.set 88 (.inr (.inr (3, [.ref 89, .int 0, .int c])))).set 89 (.inl (24, f0)))) (r1 := some (.int 1)) rfl rfl rfl (Run.ex 4000 (Nat.le_of_ble_eq_true rfl) ⟨_, _, rfl⟩ rfl) ?_
                    refine RA.steps (i' := 13) (L' := [some (.ref 110), some (.int 3), some (.int 0), some (.int c), none]) (st' := [.int 24, .int c]) (h' := ((h0.set 88 (.inr (.inr (3, [.ref 89, .int 0, .int c])))).set 89 (.inl (24, f0)))) 5 rfl ?_
                    refine RA.if2T rfl (decide_eq_true (Int32.not_lt.mp h19)) ?_
                    refine RA.steps (i' := 19) (L' := [some (.ref 110), some (.int 3), some (.int 0), some (.int c), none]) (st' := [.int c]) (h' := ((h0.set 88 (.inr (.inr (3, [.ref 89, .int 0, .int c])))).set 89 (.inl (24, f0)))) 3 rfl ?_
                    refine RA.if1T rfl (decide_eq_true (Int32.not_lt.mp h20)) ?_
                    refine RA.steps (i' := 38) (L' := [some (.ref 110), some (.int 3), some (.int 0), some (.int c), some (.int 0)]) (st' := []) (h' := ((((h0.set 88 (.inr (.inr (3, [.ref 89, .int 0, .int c])))).set 89 (.inl (24, f0))).set 114 (.inl (4, va_up (va_up (va_up (va_up (va_up (fun _ => 0) 0 (-1)) 1 (-1)) 2 (-1)) 3 (-1)) 3 0))).set 115 (.inl (4, va_up (fun _ => 0) 3 c)))) 14 rfl ?_
                    exact hs1⟩
          · by_cases h21 : 24 < c
            · exact ⟨(-1000000001), h0, _, by
                  refine ⟨Nat.le_of_ble_eq_true rfl, ⟨_, _, rfl⟩, ?_⟩
                  refine RA.steps (i' := 2) (L' := [some (.ref 0), some (.int 3), some (.int 1), some (.int c), none]) (st' := [.int 3, .ref 0]) (h' := h0) 2 rfl ?_
                  refine RA.call0 (h1 := h0) (r1 := some (.ref 88)) rfl rfl rfl (Run.ex 4000 (Nat.le_of_ble_eq_true rfl) ⟨_, _, rfl⟩ rfl) ?_
                  refine RA.steps (i' := 9) (L' := [some (.ref 0), some (.int 3), some (.int 1), some (.int c), some (.ref 88)]) (st' := [.int 1, .int (-1), .int 1]) (h' := h0) 6 rfl ?_
                  refine RA.call0 (h1 := h0) (r1 := some (.int 1)) rfl rfl rfl (Run.ex 4000 (Nat.le_of_ble_eq_true rfl) ⟨_, _, rfl⟩ rfl) ?_
                  refine RA.steps (i' := 24) (L' := [some (.ref 0), some (.int 3), some (.int 1), some (.int c), some (.ref 88)]) (st' := [.int 24, .int c]) (h' := h0) 6 rfl ?_
                  refine RA.if2F rfl (decide_eq_false (Int32.not_le.mpr h21)) ?_
                  refine RA.steps (i' := 26) (L' := [some (.ref 0), some (.int 3), some (.int 1), some (.int c), some (.ref 88)]) (st' := [.int (-1000000001)]) (h' := h0) 1 rfl ?_
                  exact RA.ret rfl rfl, by
                  refine ⟨Nat.le_of_ble_eq_true rfl, ⟨_, _, rfl⟩, ?_⟩
                  refine RA.steps (i' := 1) (L' := [some (.ref 110), some (.int 3), some (.int 1), some (.int c), none]) (st' := [.int 3]) (h' := h0) 1 rfl ?_
                  refine RA.call0 (h1 := h0) (r1 := some (.int 1)) rfl rfl rfl (Run.ex 4000 (Nat.le_of_ble_eq_true rfl) ⟨_, _, rfl⟩ rfl) ?_
                  refine RA.steps (i' := 7) (L' := [some (.ref 110), some (.int 3), some (.int 1), some (.int c), none]) (st' := [.long 1, .long (-1), .long 1]) (h' := h0) 5 rfl ?_
                  refine RA.call0 (h1 := h0) (r1 := some (.int 1)) rfl rfl rfl (Run.ex 4000 (Nat.le_of_ble_eq_true rfl) ⟨_, _, rfl⟩ rfl) ?_
                  refine RA.steps (i' := 13) (L' := [some (.ref 110), some (.int 3), some (.int 1), some (.int c), none]) (st' := [.int 24, .int c]) (h' := h0) 5 rfl ?_
                  refine RA.if2F rfl (decide_eq_false (Int32.not_le.mpr h21)) ?_
                  refine RA.steps (i' := 15) (L' := [some (.ref 110), some (.int 3), some (.int 1), some (.int c), none]) (st' := [.int (-1000000001)]) (h' := h0) 1 rfl ?_
                  exact RA.ret rfl rfl⟩
            · by_cases h22 : c < 0
              · exact ⟨(-1000000014), h0, _, by
                    refine ⟨Nat.le_of_ble_eq_true rfl, ⟨_, _, rfl⟩, ?_⟩
                    refine RA.steps (i' := 2) (L' := [some (.ref 0), some (.int 3), some (.int 1), some (.int c), none]) (st' := [.int 3, .ref 0]) (h' := h0) 2 rfl ?_
                    refine RA.call0 (h1 := h0) (r1 := some (.ref 88)) rfl rfl rfl (Run.ex 4000 (Nat.le_of_ble_eq_true rfl) ⟨_, _, rfl⟩ rfl) ?_
                    refine RA.steps (i' := 9) (L' := [some (.ref 0), some (.int 3), some (.int 1), some (.int c), some (.ref 88)]) (st' := [.int 1, .int (-1), .int 1]) (h' := h0) 6 rfl ?_
                    refine RA.call0 (h1 := h0) (r1 := some (.int 1)) rfl rfl rfl (Run.ex 4000 (Nat.le_of_ble_eq_true rfl) ⟨_, _, rfl⟩ rfl) ?_
                    refine RA.steps (i' := 24) (L' := [some (.ref 0), some (.int 3), some (.int 1), some (.int c), some (.ref 88)]) (st' := [.int 24, .int c]) (h' := h0) 6 rfl ?_
                    refine RA.if2T rfl (decide_eq_true (Int32.not_lt.mp h21)) ?_
                    refine RA.steps (i' := 28) (L' := [some (.ref 0), some (.int 3), some (.int 1), some (.int c), some (.ref 88)]) (st' := [.int c]) (h' := h0) 1 rfl ?_
                    refine RA.if1F rfl (decide_eq_false (Int32.not_le.mpr h22)) ?_
                    refine RA.steps (i' := 30) (L' := [some (.ref 0), some (.int 3), some (.int 1), some (.int c), some (.ref 88)]) (st' := [.int (-1000000014)]) (h' := h0) 1 rfl ?_
                    exact RA.ret rfl rfl, by
                    refine ⟨Nat.le_of_ble_eq_true rfl, ⟨_, _, rfl⟩, ?_⟩
                    refine RA.steps (i' := 1) (L' := [some (.ref 110), some (.int 3), some (.int 1), some (.int c), none]) (st' := [.int 3]) (h' := h0) 1 rfl ?_
                    refine RA.call0 (h1 := h0) (r1 := some (.int 1)) rfl rfl rfl (Run.ex 4000 (Nat.le_of_ble_eq_true rfl) ⟨_, _, rfl⟩ rfl) ?_
                    refine RA.steps (i' := 7) (L' := [some (.ref 110), some (.int 3), some (.int 1), some (.int c), none]) (st' := [.long 1, .long (-1), .long 1]) (h' := h0) 5 rfl ?_
                    refine RA.call0 (h1 := h0) (r1 := some (.int 1)) rfl rfl rfl (Run.ex 4000 (Nat.le_of_ble_eq_true rfl) ⟨_, _, rfl⟩ rfl) ?_
                    refine RA.steps (i' := 13) (L' := [some (.ref 110), some (.int 3), some (.int 1), some (.int c), none]) (st' := [.int 24, .int c]) (h' := h0) 5 rfl ?_
                    refine RA.if2T rfl (decide_eq_true (Int32.not_lt.mp h21)) ?_
                    refine RA.steps (i' := 19) (L' := [some (.ref 110), some (.int 3), some (.int 1), some (.int c), none]) (st' := [.int c]) (h' := h0) 3 rfl ?_
                    refine RA.if1F rfl (decide_eq_false (Int32.not_le.mpr h22)) ?_
                    refine RA.steps (i' := 21) (L' := [some (.ref 110), some (.int 3), some (.int 1), some (.int c), none]) (st' := [.int (-1000000014)]) (h' := h0) 1 rfl ?_
                    exact RA.ret rfl rfl⟩
              · obtain ⟨f0, hf0⟩ := fill_run (E := E) (V := pV0) (d := 37) (h := (h0.set 88 (.inr (.inr (3, [.ref 89, .int 1, .int c]))))) (a := 89) rfl
                obtain ⟨hx1, hs1⟩ := sh_run (E := E) (V := pV0) (d := 39) (S := 3) (so := 1) (n := c) (w := c) (h := ((((h0.set 88 (.inr (.inr (3, [.ref 89, .int 1, .int c])))).set 89 (.inl (24, f0))).set 114 (.inl (4, va_up (va_up (va_up (va_up (va_up (fun _ => 0) 0 (-1)) 1 (-1)) 2 (-1)) 3 (-1)) 3 1))).set 115 (.inl (4, va_up (fun _ => 0) 3 c)))) rfl rfl rfl rfl rfl rfl (by decide) (by decide) (by decide)
                exact ⟨c, ((h0.set 88 (.inr (.inr (3, [.ref 89, .int 1, .int c])))).set 89 (.inl (24, f0))), _, by
                    refine ⟨Nat.le_of_ble_eq_true rfl, ⟨_, _, rfl⟩, ?_⟩
                    refine RA.steps (i' := 2) (L' := [some (.ref 0), some (.int 3), some (.int 1), some (.int c), none]) (st' := [.int 3, .ref 0]) (h' := h0) 2 rfl ?_
                    refine RA.call0 (h1 := h0) (r1 := some (.ref 88)) rfl rfl rfl (Run.ex 4000 (Nat.le_of_ble_eq_true rfl) ⟨_, _, rfl⟩ rfl) ?_
                    refine RA.steps (i' := 9) (L' := [some (.ref 0), some (.int 3), some (.int 1), some (.int c), some (.ref 88)]) (st' := [.int 1, .int (-1), .int 1]) (h' := h0) 6 rfl ?_
                    refine RA.call0 (h1 := h0) (r1 := some (.int 1)) rfl rfl rfl (Run.ex 4000 (Nat.le_of_ble_eq_true rfl) ⟨_, _, rfl⟩ rfl) ?_
                    refine RA.steps (i' := 24) (L' := [some (.ref 0), some (.int 3), some (.int 1), some (.int c), some (.ref 88)]) (st' := [.int 24, .int c]) (h' := h0) 6 rfl ?_
                    refine RA.if2T rfl (decide_eq_true (Int32.not_lt.mp h21)) ?_
                    refine RA.steps (i' := 28) (L' := [some (.ref 0), some (.int 3), some (.int 1), some (.int c), some (.ref 88)]) (st' := [.int c]) (h' := h0) 1 rfl ?_
                    refine RA.if1T rfl (decide_eq_true (Int32.not_lt.mp h22)) ?_
                    refine RA.steps (i' := 34) (L' := [some (.ref 0), some (.int 3), some (.int 1), some (.int c), some (.ref 88)]) (st' := [.int c, .int 1, .ref 88]) (h' := h0) 3 rfl ?_
                    refine RA.call0 (h1 := ((h0.set 88 (.inr (.inr (3, [.ref 89, .int 1, .int c])))).set 89 (.inl (24, f0)))) (r1 := none) rfl rfl rfl (by
                      refine ⟨Nat.le_of_ble_eq_true rfl, ⟨_, _, rfl⟩, ?_⟩
                      refine RA.steps (i' := 9) (L' := [some (.ref 88), some (.int 1), some (.int c)]) (st' := [.int 0, .ref 89]) (h' := (h0.set 88 (.inr (.inr (3, [.ref 89, .int 1, .int c]))))) 9 rfl ?_
                      refine RA.call0 rfl rfl rfl hf0 ?_
                      exact RA.ret rfl rfl) ?_
                    refine RA.steps (i' := 36) (L' := [some (.ref 0), some (.int 3), some (.int 1), some (.int c), some (.ref 88)]) (st' := [.int c]) (h' := ((h0.set 88 (.inr (.inr (3, [.ref 89, .int 1, .int c])))).set 89 (.inl (24, f0)))) 1 rfl ?_
                    exact RA.ret rfl rfl, by
                    refine ⟨Nat.le_of_ble_eq_true rfl, ⟨_, _, rfl⟩, ?_⟩
                    refine RA.steps (i' := 1) (L' := [some (.ref 110), some (.int 3), some (.int 1), some (.int c), none]) (st' := [.int 3]) (h' := ((h0.set 88 (.inr (.inr (3, [.ref 89, .int 1, .int c])))).set 89 (.inl (24, f0)))) 1 rfl ?_
                    refine RA.call0 (h1 := ((h0.set 88 (.inr (.inr (3, [.ref 89, .int 1, .int c])))).set 89 (.inl (24, f0)))) (r1 := some (.int 1)) rfl rfl rfl (Run.ex 4000 (Nat.le_of_ble_eq_true rfl) ⟨_, _, rfl⟩ rfl) ?_
                    refine RA.steps (i' := 7) (L' := [some (.ref 110), some (.int 3), some (.int 1), some (.int c), none]) (st' := [.long 1, .long (-1), .long 1]) (h' := ((h0.set 88 (.inr (.inr (3, [.ref 89, .int 1, .int c])))).set 89 (.inl (24, f0)))) 5 rfl ?_
                    refine RA.call0 (h1 := ((h0.set 88 (.inr (.inr (3, [.ref 89, .int 1, .int c])))).set 89 (.inl (24, f0)))) (r1 := some (.int 1)) rfl rfl rfl (Run.ex 4000 (Nat.le_of_ble_eq_true rfl) ⟨_, _, rfl⟩ rfl) ?_
                    refine RA.steps (i' := 13) (L' := [some (.ref 110), some (.int 3), some (.int 1), some (.int c), none]) (st' := [.int 24, .int c]) (h' := ((h0.set 88 (.inr (.inr (3, [.ref 89, .int 1, .int c])))).set 89 (.inl (24, f0)))) 5 rfl ?_
                    refine RA.if2T rfl (decide_eq_true (Int32.not_lt.mp h21)) ?_
                    refine RA.steps (i' := 19) (L' := [some (.ref 110), some (.int 3), some (.int 1), some (.int c), none]) (st' := [.int c]) (h' := ((h0.set 88 (.inr (.inr (3, [.ref 89, .int 1, .int c])))).set 89 (.inl (24, f0)))) 3 rfl ?_
                    refine RA.if1T rfl (decide_eq_true (Int32.not_lt.mp h22)) ?_
                    refine RA.steps (i' := 38) (L' := [some (.ref 110), some (.int 3), some (.int 1), some (.int c), some (.int 0)]) (st' := []) (h' := ((((h0.set 88 (.inr (.inr (3, [.ref 89, .int 1, .int c])))).set 89 (.inl (24, f0))).set 114 (.inl (4, va_up (va_up (va_up (va_up (va_up (fun _ => 0) 0 (-1)) 1 (-1)) 2 (-1)) 3 (-1)) 3 1))).set 115 (.inl (4, va_up (fun _ => 0) 3 c)))) 14 rfl ?_
                    exact hs1⟩
        · exact ⟨(-1000000001), h0, _, by
              refine ⟨Nat.le_of_ble_eq_true rfl, ⟨_, _, rfl⟩, ?_⟩
              refine RA.steps (i' := 2) (L' := [some (.ref 0), some (.int 3), some (.int b), some (.int c), none]) (st' := [.int 3, .ref 0]) (h' := h0) 2 rfl ?_
              refine RA.call0 (h1 := h0) (r1 := some (.ref 88)) rfl rfl rfl (Run.ex 4000 (Nat.le_of_ble_eq_true rfl) ⟨_, _, rfl⟩ rfl) ?_
              refine RA.steps (i' := 9) (L' := [some (.ref 0), some (.int 3), some (.int b), some (.int c), some (.ref 88)]) (st' := [.int 1, .int (-1), .int b]) (h' := h0) 6 rfl ?_
              refine RA.call0 rfl rfl rfl (within_f (v := b) (lo := (-1)) (hi := 1) h18) ?_
              refine RA.steps (i' := 12) (L' := [some (.ref 0), some (.int 3), some (.int b), some (.int c), some (.ref 88)]) (st' := [.int (-1000000001)]) (h' := h0) 2 rfl ?_
              exact RA.ret rfl rfl, by
              refine ⟨Nat.le_of_ble_eq_true rfl, ⟨_, _, rfl⟩, ?_⟩
              refine RA.steps (i' := 1) (L' := [some (.ref 110), some (.int 3), some (.int b), some (.int c), none]) (st' := [.int 3]) (h' := h0) 1 rfl ?_
              refine RA.call0 (h1 := h0) (r1 := some (.int 1)) rfl rfl rfl (Run.ex 4000 (Nat.le_of_ble_eq_true rfl) ⟨_, _, rfl⟩ rfl) ?_
              refine RA.steps (i' := 7) (L' := [some (.ref 110), some (.int 3), some (.int b), some (.int c), none]) (st' := [.long 1, .long (-1), .long (b : Int32).toInt64]) (h' := h0) 5 rfl ?_
              refine RA.call0 rfl rfl rfl (isIn_f (v := b) (lo := (-1)) (hi := 1) h18) ?_
              refine RA.steps (i' := 15) (L' := [some (.ref 110), some (.int 3), some (.int b), some (.int c), none]) (st' := [.int (-1000000001)]) (h' := h0) 2 rfl ?_
              exact RA.ret rfl rfl⟩
    · exact ⟨(-1000000001), h0, _, by
          refine ⟨Nat.le_of_ble_eq_true rfl, ⟨_, _, rfl⟩, ?_⟩
          refine RA.steps (i' := 2) (L' := [some (.ref 0), some (.int a), some (.int b), some (.int c), none]) (st' := [.int a, .ref 0]) (h' := h0) 2 rfl ?_
          refine RA.call0 (h1 := h0) (r1 := some (.null)) rfl rfl rfl (by
            refine ⟨Nat.le_of_ble_eq_true rfl, ⟨_, _, rfl⟩, ?_⟩
            refine RA.steps (i' := 1) (L' := [some (.ref 0), some (.int a)]) (st' := [.int a]) (h' := h0) 1 rfl ?_
            refine RA.if1F rfl (decide_eq_false h1) ?_
            refine RA.steps (i' := 6) (L' := [some (.ref 0), some (.int a)]) (st' := [.int 4, .int a]) (h' := h0) 4 rfl ?_
            refine RA.if2T rfl (decide_eq_true (Int32.not_lt.mp h2)) ?_
            refine RA.steps (i' := 13) (L' := [some (.ref 0), some (.int a)]) (st' := [.null]) (h' := h0) 1 rfl ?_
            exact RA.ret rfl rfl) ?_
          refine RA.steps (i' := 12) (L' := [some (.ref 0), some (.int a), some (.int b), some (.int c), some (.null)]) (st' := [.int (-1000000001)]) (h' := h0) 4 rfl ?_
          exact RA.ret rfl rfl, by
          refine ⟨Nat.le_of_ble_eq_true rfl, ⟨_, _, rfl⟩, ?_⟩
          refine RA.steps (i' := 1) (L' := [some (.ref 110), some (.int a), some (.int b), some (.int c), none]) (st' := [.int a]) (h' := h0) 1 rfl ?_
          refine RA.call0 (h1 := h0) (r1 := some (.int 0)) rfl rfl rfl (by
            refine ⟨Nat.le_of_ble_eq_true rfl, ⟨_, _, rfl⟩, ?_⟩
            refine RA.steps (i' := 4) (L' := [some (.int a)]) (st' := [.long 3, .long 0, .long (a : Int32).toInt64]) (h' := h0) 4 rfl ?_
            refine RA.call0 rfl rfl rfl (isIn_f (v := a) (lo := 0) (hi := 3) (fun q => h2 (le_lt_4 q.2))) ?_
            exact RA.ret rfl rfl) ?_
          refine RA.steps (i' := 15) (L' := [some (.ref 110), some (.int a), some (.int b), some (.int c), none]) (st' := [.int (-1000000001)]) (h' := h0) 2 rfl ?_
          exact RA.ret rfl rfl⟩
end
