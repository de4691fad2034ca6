section
-- ===== PART A: goes FIRST, ahead of the names: the tables' words, and 'selects' of the private methods out of them =====
/-- a private method of a class that the tables say can be made, by its rows of tables_1 -/
def lw_okq (q : MethodName × Nat) : Prop := (q.1.cls ≠ "java/lang/invoke/MethodHandle" ∧ q.1.cls ≠ "java/lang/invoke/VarHandle") ∧ Cond.instantiable q.1.cls q.2 ∈ tables_1 ∧ Cond.privateMethod q.1 ∈ tables_1 ∧ Cond.instanceMethod q.1 ∈ tables_1
theorem lw_p0 : lw_okq (⟨"StoneSheets$Laws", "push", "(I)V"⟩, 4) := ⟨⟨by decide +kernel, by decide +kernel⟩, List.mem_of_getElem? (i := 28) (by decide +kernel), List.mem_of_getElem? (i := 355) (by decide +kernel), List.mem_of_getElem? (i := 356) (by decide +kernel)⟩
theorem lw_p1 : lw_okq (⟨"StoneSheets$Laws", "pop", "()I"⟩, 4) := ⟨⟨by decide +kernel, by decide +kernel⟩, List.mem_of_getElem? (i := 28) (by decide +kernel), List.mem_of_getElem? (i := 365) (by decide +kernel), List.mem_of_getElem? (i := 366) (by decide +kernel)⟩
theorem lw_p2 : lw_okq (⟨"StoneSheets$Rubbing", "rubbedAt", "(I)I"⟩, 6) := ⟨⟨by decide +kernel, by decide +kernel⟩, List.mem_of_getElem? (i := 87) (by decide +kernel), List.mem_of_getElem? (i := 408) (by decide +kernel), List.mem_of_getElem? (i := 409) (by decide +kernel)⟩
theorem lw_p3 : lw_okq (⟨"StoneSheets$Wall", "seeAgain", "(LStoneSheets$Rubbing;I)V"⟩, 10) := ⟨⟨by decide +kernel, by decide +kernel⟩, List.mem_of_getElem? (i := 76) (by decide +kernel), List.mem_of_getElem? (i := 565) (by decide +kernel), List.mem_of_getElem? (i := 566) (by decide +kernel)⟩
theorem lw_p4 : lw_okq (⟨"StoneSheets", "rowOf", "(I)LStoneSheets$Row;"⟩, 10) := ⟨⟨by decide +kernel, by decide +kernel⟩, List.mem_of_getElem? (i := 20) (by decide +kernel), List.mem_of_getElem? (i := 628) (by decide +kernel), List.mem_of_getElem? (i := 629) (by decide +kernel)⟩
theorem lw_p5 : lw_okq (⟨"StoneSheets$Reader", "nextWord", "()V"⟩, 11) := ⟨⟨by decide +kernel, by decide +kernel⟩, List.mem_of_getElem? (i := 159) (by decide +kernel), List.mem_of_getElem? (i := 685) (by decide +kernel), List.mem_of_getElem? (i := 686) (by decide +kernel)⟩
theorem lw_p6 : lw_okq (⟨"StoneSheets$Reader", "byteAt", "(I)I"⟩, 11) := ⟨⟨by decide +kernel, by decide +kernel⟩, List.mem_of_getElem? (i := 159) (by decide +kernel), List.mem_of_getElem? (i := 689) (by decide +kernel), List.mem_of_getElem? (i := 690) (by decide +kernel)⟩
theorem lw_p7 : lw_okq (⟨"StoneSheets$Reader", "keyRead", "()I"⟩, 11) := ⟨⟨by decide +kernel, by decide +kernel⟩, List.mem_of_getElem? (i := 159) (by decide +kernel), List.mem_of_getElem? (i := 697) (by decide +kernel), List.mem_of_getElem? (i := 698) (by decide +kernel)⟩
theorem lw_p8 : lw_okq (⟨"StoneSheets$Reader", "isWord", "(Ljava/lang/String;)Z"⟩, 11) := ⟨⟨by decide +kernel, by decide +kernel⟩, List.mem_of_getElem? (i := 159) (by decide +kernel), List.mem_of_getElem? (i := 702) (by decide +kernel), List.mem_of_getElem? (i := 703) (by decide +kernel)⟩
theorem lw_p9 : lw_okq (⟨"StoneSheets$Reader", "goesOn", "(LStoneSheets$Law;)Z"⟩, 11) := ⟨⟨by decide +kernel, by decide +kernel⟩, List.mem_of_getElem? (i := 159) (by decide +kernel), List.mem_of_getElem? (i := 760) (by decide +kernel), List.mem_of_getElem? (i := 761) (by decide +kernel)⟩
theorem lw_p10 : lw_okq (⟨"StoneSheets$Reader", "takeAhead", "(I)Z"⟩, 11) := ⟨⟨by decide +kernel, by decide +kernel⟩, List.mem_of_getElem? (i := 159) (by decide +kernel), List.mem_of_getElem? (i := 764) (by decide +kernel), List.mem_of_getElem? (i := 765) (by decide +kernel)⟩
theorem lw_p11 : lw_okq (⟨"StoneSheets$Reader", "push", "(I)V"⟩, 11) := ⟨⟨by decide +kernel, by decide +kernel⟩, List.mem_of_getElem? (i := 159) (by decide +kernel), List.mem_of_getElem? (i := 768) (by decide +kernel), List.mem_of_getElem? (i := 769) (by decide +kernel)⟩
theorem lw_p12 : lw_okq (⟨"StoneSheets$Reader", "takeBehind", "(LStoneSheets$Law;I)Z"⟩, 11) := ⟨⟨by decide +kernel, by decide +kernel⟩, List.mem_of_getElem? (i := 159) (by decide +kernel), List.mem_of_getElem? (i := 772) (by decide +kernel), List.mem_of_getElem? (i := 773) (by decide +kernel)⟩
theorem lw_p13 : lw_okq (⟨"StoneSheets$Reader", "unwind", "(LStoneSheets$Law;I)V"⟩, 11) := ⟨⟨by decide +kernel, by decide +kernel⟩, List.mem_of_getElem? (i := 159) (by decide +kernel), List.mem_of_getElem? (i := 776) (by decide +kernel), List.mem_of_getElem? (i := 777) (by decide +kernel)⟩
theorem lw_p14 : lw_okq (⟨"StoneSheets$Reader", "peek", "()I"⟩, 11) := ⟨⟨by decide +kernel, by decide +kernel⟩, List.mem_of_getElem? (i := 159) (by decide +kernel), List.mem_of_getElem? (i := 780) (by decide +kernel), List.mem_of_getElem? (i := 781) (by decide +kernel)⟩
theorem lw_p15 : lw_okq (⟨"StoneSheets$Reader", "endPiece", "(LStoneSheets$Law;)V"⟩, 11) := ⟨⟨by decide +kernel, by decide +kernel⟩, List.mem_of_getElem? (i := 159) (by decide +kernel), List.mem_of_getElem? (i := 791) (by decide +kernel), List.mem_of_getElem? (i := 792) (by decide +kernel)⟩
def lw_privs_1 : List (MethodName × Nat) := [(⟨"StoneSheets$Laws", "push", "(I)V"⟩, 4), (⟨"StoneSheets$Laws", "pop", "()I"⟩, 4), (⟨"StoneSheets$Rubbing", "rubbedAt", "(I)I"⟩, 6), (⟨"StoneSheets$Wall", "seeAgain", "(LStoneSheets$Rubbing;I)V"⟩, 10), (⟨"StoneSheets", "rowOf", "(I)LStoneSheets$Row;"⟩, 10), (⟨"StoneSheets$Reader", "nextWord", "()V"⟩, 11), (⟨"StoneSheets$Reader", "byteAt", "(I)I"⟩, 11), (⟨"StoneSheets$Reader", "keyRead", "()I"⟩, 11), (⟨"StoneSheets$Reader", "isWord", "(Ljava/lang/String;)Z"⟩, 11), (⟨"StoneSheets$Reader", "goesOn", "(LStoneSheets$Law;)Z"⟩, 11), (⟨"StoneSheets$Reader", "takeAhead", "(I)Z"⟩, 11), (⟨"StoneSheets$Reader", "push", "(I)V"⟩, 11), (⟨"StoneSheets$Reader", "takeBehind", "(LStoneSheets$Law;I)Z"⟩, 11), (⟨"StoneSheets$Reader", "unwind", "(LStoneSheets$Law;I)V"⟩, 11), (⟨"StoneSheets$Reader", "peek", "()I"⟩, 11), (⟨"StoneSheets$Reader", "endPiece", "(LStoneSheets$Law;)V"⟩, 11)]
theorem lw_r1 : ∀ q ∈ lw_privs_1, lw_okq q := List.forall_mem_cons.mpr ⟨lw_p0, List.forall_mem_cons.mpr ⟨lw_p1, List.forall_mem_cons.mpr ⟨lw_p2, List.forall_mem_cons.mpr ⟨lw_p3, List.forall_mem_cons.mpr ⟨lw_p4, List.forall_mem_cons.mpr ⟨lw_p5, List.forall_mem_cons.mpr ⟨lw_p6, List.forall_mem_cons.mpr ⟨lw_p7, List.forall_mem_cons.mpr ⟨lw_p8, List.forall_mem_cons.mpr ⟨lw_p9, List.forall_mem_cons.mpr ⟨lw_p10, List.forall_mem_cons.mpr ⟨lw_p11, List.forall_mem_cons.mpr ⟨lw_p12, List.forall_mem_cons.mpr ⟨lw_p13, List.forall_mem_cons.mpr ⟨lw_p14, List.forall_mem_cons.mpr ⟨lw_p15, fun _ h => absurd h List.not_mem_nil⟩⟩⟩⟩⟩⟩⟩⟩⟩⟩⟩⟩⟩⟩⟩⟩
theorem lw_p16 : lw_okq (⟨"StoneSheets$Reader", "takePiece", "(LStoneSheets$Law;)Z"⟩, 11) := ⟨⟨by decide +kernel, by decide +kernel⟩, List.mem_of_getElem? (i := 159) (by decide +kernel), List.mem_of_getElem? (i := 795) (by decide +kernel), List.mem_of_getElem? (i := 796) (by decide +kernel)⟩
theorem lw_p17 : lw_okq (⟨"StoneSheets$Reader", "numberRead", "()I"⟩, 11) := ⟨⟨by decide +kernel, by decide +kernel⟩, List.mem_of_getElem? (i := 159) (by decide +kernel), List.mem_of_getElem? (i := 799) (by decide +kernel), List.mem_of_getElem? (i := 800) (by decide +kernel)⟩
theorem lw_p18 : lw_okq (⟨"StoneSheets$Reader", "nameRead", "(I)I"⟩, 11) := ⟨⟨by decide +kernel, by decide +kernel⟩, List.mem_of_getElem? (i := 159) (by decide +kernel), List.mem_of_getElem? (i := 804) (by decide +kernel), List.mem_of_getElem? (i := 805) (by decide +kernel)⟩
theorem lw_p19 : lw_okq (⟨"StoneSheets", "slotOf", "(I)LStoneSheets$Slot;"⟩, 10) := ⟨⟨by decide +kernel, by decide +kernel⟩, List.mem_of_getElem? (i := 20) (by decide +kernel), List.mem_of_getElem? (i := 931) (by decide +kernel), List.mem_of_getElem? (i := 932) (by decide +kernel)⟩
theorem lw_p20 : lw_okq (⟨"StoneSheetsModel", "comes", "(III)V"⟩, 32) := ⟨⟨by decide +kernel, by decide +kernel⟩, List.mem_of_getElem? (i := 974) (by decide +kernel), List.mem_of_getElem? (i := 1089) (by decide +kernel), List.mem_of_getElem? (i := 1090) (by decide +kernel)⟩
theorem lw_p21 : lw_okq (⟨"StoneSheetsModel", "sets", "(III)V"⟩, 32) := ⟨⟨by decide +kernel, by decide +kernel⟩, List.mem_of_getElem? (i := 974) (by decide +kernel), List.mem_of_getElem? (i := 1093) (by decide +kernel), List.mem_of_getElem? (i := 1094) (by decide +kernel)⟩
theorem lw_p22 : lw_okq (⟨"StoneSheetsModel", "isRubbing", "(I)Z"⟩, 32) := ⟨⟨by decide +kernel, by decide +kernel⟩, List.mem_of_getElem? (i := 974) (by decide +kernel), List.mem_of_getElem? (i := 1101) (by decide +kernel), List.mem_of_getElem? (i := 1102) (by decide +kernel)⟩
theorem lw_p23 : lw_okq (⟨"StoneSheetsModel", "of", "(II)I"⟩, 32) := ⟨⟨by decide +kernel, by decide +kernel⟩, List.mem_of_getElem? (i := 974) (by decide +kernel), List.mem_of_getElem? (i := 1105) (by decide +kernel), List.mem_of_getElem? (i := 1106) (by decide +kernel)⟩
theorem lw_p24 : lw_okq (⟨"StoneSheetsModel", "covers", "(I)I"⟩, 32) := ⟨⟨by decide +kernel, by decide +kernel⟩, List.mem_of_getElem? (i := 974) (by decide +kernel), List.mem_of_getElem? (i := 1109) (by decide +kernel), List.mem_of_getElem? (i := 1110) (by decide +kernel)⟩
theorem lw_p25 : lw_okq (⟨"StoneSheetsModel", "coversFrom", "(II)I"⟩, 32) := ⟨⟨by decide +kernel, by decide +kernel⟩, List.mem_of_getElem? (i := 974) (by decide +kernel), List.mem_of_getElem? (i := 1113) (by decide +kernel), List.mem_of_getElem? (i := 1114) (by decide +kernel)⟩
theorem lw_p26 : lw_okq (⟨"StoneSheetsModel", "gains", "(I)I"⟩, 32) := ⟨⟨by decide +kernel, by decide +kernel⟩, List.mem_of_getElem? (i := 974) (by decide +kernel), List.mem_of_getElem? (i := 1118) (by decide +kernel), List.mem_of_getElem? (i := 1119) (by decide +kernel)⟩
theorem lw_p27 : lw_okq (⟨"StoneSheetsModel", "counts", "(I)I"⟩, 32) := ⟨⟨by decide +kernel, by decide +kernel⟩, List.mem_of_getElem? (i := 974) (by decide +kernel), List.mem_of_getElem? (i := 1122) (by decide +kernel), List.mem_of_getElem? (i := 1123) (by decide +kernel)⟩
theorem lw_p28 : lw_okq (⟨"StoneSheetsModel", "textAt", "(I)I"⟩, 32) := ⟨⟨by decide +kernel, by decide +kernel⟩, List.mem_of_getElem? (i := 974) (by decide +kernel), List.mem_of_getElem? (i := 1126) (by decide +kernel), List.mem_of_getElem? (i := 1127) (by decide +kernel)⟩
theorem lw_p29 : lw_okq (⟨"StoneSheetsModel", "worked", "(I)I"⟩, 32) := ⟨⟨by decide +kernel, by decide +kernel⟩, List.mem_of_getElem? (i := 974) (by decide +kernel), List.mem_of_getElem? (i := 1130) (by decide +kernel), List.mem_of_getElem? (i := 1131) (by decide +kernel)⟩
theorem lw_p30 : lw_okq (⟨"StoneSheetsModel", "loses", "(I)I"⟩, 32) := ⟨⟨by decide +kernel, by decide +kernel⟩, List.mem_of_getElem? (i := 974) (by decide +kernel), List.mem_of_getElem? (i := 1140) (by decide +kernel), List.mem_of_getElem? (i := 1141) (by decide +kernel)⟩
theorem lw_p31 : lw_okq (⟨"StoneSheetsModel", "worth", "(I)I"⟩, 32) := ⟨⟨by decide +kernel, by decide +kernel⟩, List.mem_of_getElem? (i := 974) (by decide +kernel), List.mem_of_getElem? (i := 1144) (by decide +kernel), List.mem_of_getElem? (i := 1145) (by decide +kernel)⟩
def lw_privs_2 : List (MethodName × Nat) := [(⟨"StoneSheets$Reader", "takePiece", "(LStoneSheets$Law;)Z"⟩, 11), (⟨"StoneSheets$Reader", "numberRead", "()I"⟩, 11), (⟨"StoneSheets$Reader", "nameRead", "(I)I"⟩, 11), (⟨"StoneSheets", "slotOf", "(I)LStoneSheets$Slot;"⟩, 10), (⟨"StoneSheetsModel", "comes", "(III)V"⟩, 32), (⟨"StoneSheetsModel", "sets", "(III)V"⟩, 32), (⟨"StoneSheetsModel", "isRubbing", "(I)Z"⟩, 32), (⟨"StoneSheetsModel", "of", "(II)I"⟩, 32), (⟨"StoneSheetsModel", "covers", "(I)I"⟩, 32), (⟨"StoneSheetsModel", "coversFrom", "(II)I"⟩, 32), (⟨"StoneSheetsModel", "gains", "(I)I"⟩, 32), (⟨"StoneSheetsModel", "counts", "(I)I"⟩, 32), (⟨"StoneSheetsModel", "textAt", "(I)I"⟩, 32), (⟨"StoneSheetsModel", "worked", "(I)I"⟩, 32), (⟨"StoneSheetsModel", "loses", "(I)I"⟩, 32), (⟨"StoneSheetsModel", "worth", "(I)I"⟩, 32)]
theorem lw_r2 : ∀ q ∈ lw_privs_2, lw_okq q := List.forall_mem_cons.mpr ⟨lw_p16, List.forall_mem_cons.mpr ⟨lw_p17, List.forall_mem_cons.mpr ⟨lw_p18, List.forall_mem_cons.mpr ⟨lw_p19, List.forall_mem_cons.mpr ⟨lw_p20, List.forall_mem_cons.mpr ⟨lw_p21, List.forall_mem_cons.mpr ⟨lw_p22, List.forall_mem_cons.mpr ⟨lw_p23, List.forall_mem_cons.mpr ⟨lw_p24, List.forall_mem_cons.mpr ⟨lw_p25, List.forall_mem_cons.mpr ⟨lw_p26, List.forall_mem_cons.mpr ⟨lw_p27, List.forall_mem_cons.mpr ⟨lw_p28, List.forall_mem_cons.mpr ⟨lw_p29, List.forall_mem_cons.mpr ⟨lw_p30, List.forall_mem_cons.mpr ⟨lw_p31, fun _ h => absurd h List.not_mem_nil⟩⟩⟩⟩⟩⟩⟩⟩⟩⟩⟩⟩⟩⟩⟩⟩
theorem lw_p32 : lw_okq (⟨"StoneSheetsModel", "saysAt", "(II)I"⟩, 32) := ⟨⟨by decide +kernel, by decide +kernel⟩, List.mem_of_getElem? (i := 974) (by decide +kernel), List.mem_of_getElem? (i := 1152) (by decide +kernel), List.mem_of_getElem? (i := 1153) (by decide +kernel)⟩
theorem lw_p33 : lw_okq (⟨"StoneSheetsModel", "becomes", "(II)I"⟩, 32) := ⟨⟨by decide +kernel, by decide +kernel⟩, List.mem_of_getElem? (i := 974) (by decide +kernel), List.mem_of_getElem? (i := 1171) (by decide +kernel), List.mem_of_getElem? (i := 1172) (by decide +kernel)⟩
theorem lw_p34 : lw_okq (⟨"StoneSheetsModel", "drawn", "()I"⟩, 32) := ⟨⟨by decide +kernel, by decide +kernel⟩, List.mem_of_getElem? (i := 974) (by decide +kernel), List.mem_of_getElem? (i := 1197) (by decide +kernel), List.mem_of_getElem? (i := 1198) (by decide +kernel)⟩
theorem lw_p35 : lw_okq (⟨"StoneSheetsModel", "falseOf", "(II)I"⟩, 32) := ⟨⟨by decide +kernel, by decide +kernel⟩, List.mem_of_getElem? (i := 974) (by decide +kernel), List.mem_of_getElem? (i := 1211) (by decide +kernel), List.mem_of_getElem? (i := 1212) (by decide +kernel)⟩
theorem lw_p36 : lw_okq (⟨"StoneSheetsModel", "joinBy", "(III)I"⟩, 32) := ⟨⟨by decide +kernel, by decide +kernel⟩, List.mem_of_getElem? (i := 974) (by decide +kernel), List.mem_of_getElem? (i := 1223) (by decide +kernel), List.mem_of_getElem? (i := 1224) (by decide +kernel)⟩
theorem lw_p37 : lw_okq (⟨"StoneSheetsModel", "doClash", "(II)Z"⟩, 32) := ⟨⟨by decide +kernel, by decide +kernel⟩, List.mem_of_getElem? (i := 974) (by decide +kernel), List.mem_of_getElem? (i := 1231) (by decide +kernel), List.mem_of_getElem? (i := 1232) (by decide +kernel)⟩
theorem lw_p38 : lw_okq (⟨"StoneSheetsModel", "findClashing", "()V"⟩, 32) := ⟨⟨by decide +kernel, by decide +kernel⟩, List.mem_of_getElem? (i := 974) (by decide +kernel), List.mem_of_getElem? (i := 1239) (by decide +kernel), List.mem_of_getElem? (i := 1240) (by decide +kernel)⟩
theorem lw_p39 : lw_okq (⟨"StoneSheetsModel", "laidOnes", "()I"⟩, 32) := ⟨⟨by decide +kernel, by decide +kernel⟩, List.mem_of_getElem? (i := 974) (by decide +kernel), List.mem_of_getElem? (i := 1243) (by decide +kernel), List.mem_of_getElem? (i := 1244) (by decide +kernel)⟩
theorem lw_p40 : lw_okq (⟨"StoneSheetsModel", "areAtPeace", "(I)Z"⟩, 32) := ⟨⟨by decide +kernel, by decide +kernel⟩, List.mem_of_getElem? (i := 974) (by decide +kernel), List.mem_of_getElem? (i := 1250) (by decide +kernel), List.mem_of_getElem? (i := 1251) (by decide +kernel)⟩
theorem lw_p41 : lw_okq (⟨"StoneSheetsModel", "coveredBy", "(I)I"⟩, 32) := ⟨⟨by decide +kernel, by decide +kernel⟩, List.mem_of_getElem? (i := 974) (by decide +kernel), List.mem_of_getElem? (i := 1258) (by decide +kernel), List.mem_of_getElem? (i := 1259) (by decide +kernel)⟩
theorem lw_p42 : lw_okq (⟨"StoneSheetsModel", "otherwiseAt", "(I)I"⟩, 32) := ⟨⟨by decide +kernel, by decide +kernel⟩, List.mem_of_getElem? (i := 974) (by decide +kernel), List.mem_of_getElem? (i := 1266) (by decide +kernel), List.mem_of_getElem? (i := 1267) (by decide +kernel)⟩
theorem lw_p43 : lw_okq (⟨"StoneSheetsModel", "goesOn", "()V"⟩, 32) := ⟨⟨by decide +kernel, by decide +kernel⟩, List.mem_of_getElem? (i := 974) (by decide +kernel), List.mem_of_getElem? (i := 1275) (by decide +kernel), List.mem_of_getElem? (i := 1276) (by decide +kernel)⟩
theorem lw_p44 : lw_okq (⟨"StoneSheetsModel", "allTrust", "()I"⟩, 32) := ⟨⟨by decide +kernel, by decide +kernel⟩, List.mem_of_getElem? (i := 974) (by decide +kernel), List.mem_of_getElem? (i := 1283) (by decide +kernel), List.mem_of_getElem? (i := 1284) (by decide +kernel)⟩
theorem lw_p45 : lw_okq (⟨"StoneSheetsModel", "laysBy", "()V"⟩, 32) := ⟨⟨by decide +kernel, by decide +kernel⟩, List.mem_of_getElem? (i := 974) (by decide +kernel), List.mem_of_getElem? (i := 1291) (by decide +kernel), List.mem_of_getElem? (i := 1292) (by decide +kernel)⟩
theorem lw_p46 : lw_okq (⟨"StoneSheetsModel", "goesOnMany", "(I)V"⟩, 32) := ⟨⟨by decide +kernel, by decide +kernel⟩, List.mem_of_getElem? (i := 974) (by decide +kernel), List.mem_of_getElem? (i := 1295) (by decide +kernel), List.mem_of_getElem? (i := 1296) (by decide +kernel)⟩
theorem lw_p47 : lw_okq (⟨"StoneSheetsModel", "laysBack", "()V"⟩, 32) := ⟨⟨by decide +kernel, by decide +kernel⟩, List.mem_of_getElem? (i := 974) (by decide +kernel), List.mem_of_getElem? (i := 1299) (by decide +kernel), List.mem_of_getElem? (i := 1300) (by decide +kernel)⟩
def lw_privs_3 : List (MethodName × Nat) := [(⟨"StoneSheetsModel", "saysAt", "(II)I"⟩, 32), (⟨"StoneSheetsModel", "becomes", "(II)I"⟩, 32), (⟨"StoneSheetsModel", "drawn", "()I"⟩, 32), (⟨"StoneSheetsModel", "falseOf", "(II)I"⟩, 32), (⟨"StoneSheetsModel", "joinBy", "(III)I"⟩, 32), (⟨"StoneSheetsModel", "doClash", "(II)Z"⟩, 32), (⟨"StoneSheetsModel", "findClashing", "()V"⟩, 32), (⟨"StoneSheetsModel", "laidOnes", "()I"⟩, 32), (⟨"StoneSheetsModel", "areAtPeace", "(I)Z"⟩, 32), (⟨"StoneSheetsModel", "coveredBy", "(I)I"⟩, 32), (⟨"StoneSheetsModel", "otherwiseAt", "(I)I"⟩, 32), (⟨"StoneSheetsModel", "goesOn", "()V"⟩, 32), (⟨"StoneSheetsModel", "allTrust", "()I"⟩, 32), (⟨"StoneSheetsModel", "laysBy", "()V"⟩, 32), (⟨"StoneSheetsModel", "goesOnMany", "(I)V"⟩, 32), (⟨"StoneSheetsModel", "laysBack", "()V"⟩, 32)]
theorem lw_r3 : ∀ q ∈ lw_privs_3, lw_okq q := List.forall_mem_cons.mpr ⟨lw_p32, List.forall_mem_cons.mpr ⟨lw_p33, List.forall_mem_cons.mpr ⟨lw_p34, List.forall_mem_cons.mpr ⟨lw_p35, List.forall_mem_cons.mpr ⟨lw_p36, List.forall_mem_cons.mpr ⟨lw_p37, List.forall_mem_cons.mpr ⟨lw_p38, List.forall_mem_cons.mpr ⟨lw_p39, List.forall_mem_cons.mpr ⟨lw_p40, List.forall_mem_cons.mpr ⟨lw_p41, List.forall_mem_cons.mpr ⟨lw_p42, List.forall_mem_cons.mpr ⟨lw_p43, List.forall_mem_cons.mpr ⟨lw_p44, List.forall_mem_cons.mpr ⟨lw_p45, List.forall_mem_cons.mpr ⟨lw_p46, List.forall_mem_cons.mpr ⟨lw_p47, fun _ h => absurd h List.not_mem_nil⟩⟩⟩⟩⟩⟩⟩⟩⟩⟩⟩⟩⟩⟩⟩⟩
theorem lw_p48 : lw_okq (⟨"StoneSheetsModel", "parse", "()I"⟩, 32) := ⟨⟨by decide +kernel, by decide +kernel⟩, List.mem_of_getElem? (i := 974) (by decide +kernel), List.mem_of_getElem? (i := 1340) (by decide +kernel), List.mem_of_getElem? (i := 1341) (by decide +kernel)⟩
theorem lw_p49 : lw_okq (⟨"StoneSheetsModel", "nextToken", "()V"⟩, 32) := ⟨⟨by decide +kernel, by decide +kernel⟩, List.mem_of_getElem? (i := 974) (by decide +kernel), List.mem_of_getElem? (i := 1344) (by decide +kernel), List.mem_of_getElem? (i := 1345) (by decide +kernel)⟩
theorem lw_p50 : lw_okq (⟨"StoneSheetsModel", "isLetter", "(I)Z"⟩, 32) := ⟨⟨by decide +kernel, by decide +kernel⟩, List.mem_of_getElem? (i := 974) (by decide +kernel), List.mem_of_getElem? (i := 1348) (by decide +kernel), List.mem_of_getElem? (i := 1349) (by decide +kernel)⟩
theorem lw_p51 : lw_okq (⟨"StoneSheetsModel", "isDigit", "(I)Z"⟩, 32) := ⟨⟨by decide +kernel, by decide +kernel⟩, List.mem_of_getElem? (i := 974) (by decide +kernel), List.mem_of_getElem? (i := 1354) (by decide +kernel), List.mem_of_getElem? (i := 1355) (by decide +kernel)⟩
theorem lw_p52 : lw_okq (⟨"StoneSheetsModel", "key", "()I"⟩, 32) := ⟨⟨by decide +kernel, by decide +kernel⟩, List.mem_of_getElem? (i := 974) (by decide +kernel), List.mem_of_getElem? (i := 1360) (by decide +kernel), List.mem_of_getElem? (i := 1361) (by decide +kernel)⟩
theorem lw_p53 : lw_okq (⟨"StoneSheetsModel", "isWordAt", "(IIII)Z"⟩, 32) := ⟨⟨by decide +kernel, by decide +kernel⟩, List.mem_of_getElem? (i := 974) (by decide +kernel), List.mem_of_getElem? (i := 1364) (by decide +kernel), List.mem_of_getElem? (i := 1365) (by decide +kernel)⟩
theorem lw_p54 : lw_okq (⟨"StoneSheetsModel", "either", "(I)Z"⟩, 32) := ⟨⟨by decide +kernel, by decide +kernel⟩, List.mem_of_getElem? (i := 974) (by decide +kernel), List.mem_of_getElem? (i := 1368) (by decide +kernel), List.mem_of_getElem? (i := 1369) (by decide +kernel)⟩
theorem lw_p55 : lw_okq (⟨"StoneSheetsModel", "both", "(I)Z"⟩, 32) := ⟨⟨by decide +kernel, by decide +kernel⟩, List.mem_of_getElem? (i := 974) (by decide +kernel), List.mem_of_getElem? (i := 1372) (by decide +kernel), List.mem_of_getElem? (i := 1373) (by decide +kernel)⟩
theorem lw_p56 : lw_okq (⟨"StoneSheetsModel", "test", "(I)Z"⟩, 32) := ⟨⟨by decide +kernel, by decide +kernel⟩, List.mem_of_getElem? (i := 974) (by decide +kernel), List.mem_of_getElem? (i := 1376) (by decide +kernel), List.mem_of_getElem? (i := 1377) (by decide +kernel)⟩
theorem lw_p57 : lw_okq (⟨"StoneSheetsModel", "sum", "(I)Z"⟩, 32) := ⟨⟨by decide +kernel, by decide +kernel⟩, List.mem_of_getElem? (i := 974) (by decide +kernel), List.mem_of_getElem? (i := 1380) (by decide +kernel), List.mem_of_getElem? (i := 1381) (by decide +kernel)⟩
theorem lw_p58 : lw_okq (⟨"StoneSheetsModel", "term", "(I)Z"⟩, 32) := ⟨⟨by decide +kernel, by decide +kernel⟩, List.mem_of_getElem? (i := 974) (by decide +kernel), List.mem_of_getElem? (i := 1384) (by decide +kernel), List.mem_of_getElem? (i := 1385) (by decide +kernel)⟩
theorem lw_p59 : lw_okq (⟨"StoneSheetsModel", "part0", "(I)Z"⟩, 32) := ⟨⟨by decide +kernel, by decide +kernel⟩, List.mem_of_getElem? (i := 974) (by decide +kernel), List.mem_of_getElem? (i := 1388) (by decide +kernel), List.mem_of_getElem? (i := 1389) (by decide +kernel)⟩
theorem lw_p60 : lw_okq (⟨"StoneSheetsModel", "step", "(II)V"⟩, 32) := ⟨⟨by decide +kernel, by decide +kernel⟩, List.mem_of_getElem? (i := 974) (by decide +kernel), List.mem_of_getElem? (i := 1392) (by decide +kernel), List.mem_of_getElem? (i := 1393) (by decide +kernel)⟩
theorem lw_p61 : lw_okq (⟨"StoneSheetsModel", "isSign", "(I)Z"⟩, 32) := ⟨⟨by decide +kernel, by decide +kernel⟩, List.mem_of_getElem? (i := 974) (by decide +kernel), List.mem_of_getElem? (i := 1399) (by decide +kernel), List.mem_of_getElem? (i := 1400) (by decide +kernel)⟩
theorem lw_p62 : lw_okq (⟨"StoneSheetsModel", "isText", "(I)Z"⟩, 32) := ⟨⟨by decide +kernel, by decide +kernel⟩, List.mem_of_getElem? (i := 974) (by decide +kernel), List.mem_of_getElem? (i := 1407) (by decide +kernel), List.mem_of_getElem? (i := 1408) (by decide +kernel)⟩
theorem lw_p63 : lw_okq (⟨"StoneSheetsModel", "setAside", "([I[I)V"⟩, 32) := ⟨⟨by decide +kernel, by decide +kernel⟩, List.mem_of_getElem? (i := 974) (by decide +kernel), List.mem_of_getElem? (i := 1482) (by decide +kernel), List.mem_of_getElem? (i := 1483) (by decide +kernel)⟩
def lw_privs_4 : List (MethodName × Nat) := [(⟨"StoneSheetsModel", "parse", "()I"⟩, 32), (⟨"StoneSheetsModel", "nextToken", "()V"⟩, 32), (⟨"StoneSheetsModel", "isLetter", "(I)Z"⟩, 32), (⟨"StoneSheetsModel", "isDigit", "(I)Z"⟩, 32), (⟨"StoneSheetsModel", "key", "()I"⟩, 32), (⟨"StoneSheetsModel", "isWordAt", "(IIII)Z"⟩, 32), (⟨"StoneSheetsModel", "either", "(I)Z"⟩, 32), (⟨"StoneSheetsModel", "both", "(I)Z"⟩, 32), (⟨"StoneSheetsModel", "test", "(I)Z"⟩, 32), (⟨"StoneSheetsModel", "sum", "(I)Z"⟩, 32), (⟨"StoneSheetsModel", "term", "(I)Z"⟩, 32), (⟨"StoneSheetsModel", "part0", "(I)Z"⟩, 32), (⟨"StoneSheetsModel", "step", "(II)V"⟩, 32), (⟨"StoneSheetsModel", "isSign", "(I)Z"⟩, 32), (⟨"StoneSheetsModel", "isText", "(I)Z"⟩, 32), (⟨"StoneSheetsModel", "setAside", "([I[I)V"⟩, 32)]
theorem lw_r4 : ∀ q ∈ lw_privs_4, lw_okq q := List.forall_mem_cons.mpr ⟨lw_p48, List.forall_mem_cons.mpr ⟨lw_p49, List.forall_mem_cons.mpr ⟨lw_p50, List.forall_mem_cons.mpr ⟨lw_p51, List.forall_mem_cons.mpr ⟨lw_p52, List.forall_mem_cons.mpr ⟨lw_p53, List.forall_mem_cons.mpr ⟨lw_p54, List.forall_mem_cons.mpr ⟨lw_p55, List.forall_mem_cons.mpr ⟨lw_p56, List.forall_mem_cons.mpr ⟨lw_p57, List.forall_mem_cons.mpr ⟨lw_p58, List.forall_mem_cons.mpr ⟨lw_p59, List.forall_mem_cons.mpr ⟨lw_p60, List.forall_mem_cons.mpr ⟨lw_p61, List.forall_mem_cons.mpr ⟨lw_p62, List.forall_mem_cons.mpr ⟨lw_p63, fun _ h => absurd h List.not_mem_nil⟩⟩⟩⟩⟩⟩⟩⟩⟩⟩⟩⟩⟩⟩⟩⟩
def lw_privs : List (MethodName × Nat) := lw_privs_1 ++ (lw_privs_2 ++ (lw_privs_3 ++ (lw_privs_4)))
def lw_tbl : List Cond := k2_sels lw_privs ++ tables_1
theorem lw_privs_ok : ∀ q ∈ lw_privs, lw_okq q := by
  show ∀ q ∈ lw_privs_1 ++ (lw_privs_2 ++ (lw_privs_3 ++ (lw_privs_4))), lw_okq q
  exact List.forall_mem_append.mpr ⟨lw_r1, List.forall_mem_append.mpr ⟨lw_r2, List.forall_mem_append.mpr ⟨lw_r3, lw_r4⟩⟩⟩
-- ===== names of the classes, their fields (printed by program from the claim) =====
def RJ0 : String := "java/lang/String"
def RJ1 : String := "java/lang/StringLatin1"
def RJ10 : String := "java/lang/System"
def RJ11 : String := "java/lang/Character"
def RJ2 : String := "java/lang/StringUTF16"
def RJ3 : String := "jdk/internal/util/Preconditions"
def RJ6 : String := "java/lang/Integer"
def RJ7 : String := "java/util/Arrays"
def RJ9 : String := "java/lang/Math"
def RJx145de : String := "java/io/Serializable"
def RJx3cf43 : String := "java/lang/constant/ConstantDesc"
def RJx9f9b0 : String := "java/lang/CharSequence"
def RJxb160c : String := "java/lang/Comparable"
def RJxfd54e : String := "java/lang/constant/Constable"
def RX0 : String := "StoneSheets$Law"
def RX1 : String := "StoneSheets$Laws"
def RX2 : String := "StoneSheets$Reader"
def RX3 : String := "StoneSheets$Row"
def RX4 : String := "StoneSheets$Rubbing"
def RX5 : String := "StoneSheets$Slot"
def RX6 : String := "StoneSheets$Wall"
def RX7 : String := "StoneSheets"
def RX8 : String := "StoneSheetsModel"
def TX0 : u_T := fun k => match k with
  | 0 => ("StoneSheets$Law", "code", "[I", true)
  | 1 => ("StoneSheets$Law", "length", "I", false)
  | 2 => ("StoneSheets$Law", "key", "I", false)
  | _ => ("StoneSheets$Law", "pieces", "I", false)
def tyX0 : Nat → FieldType := fun k => match k with
  | 0 => .array .int
  | 1 => .int
  | 2 => .int
  | _ => .int
theorem nmX0 : ∀ a, a < 4 → ∀ b, b < 4 → a ≠ b → (TX0 a).2.1 ≠ (TX0 b).2.1 := by decide +kernel
theorem tyX0_ok : ∀ k, k < 4 → parseFieldDescriptor (TX0 k).2.2.1 = some (tyX0 k) := by decide +kernel
def TX1 : u_T := fun k => match k with
  | 0 => ("StoneSheets$Laws", "rows", "[LStoneSheets$Law;", true)
  | 1 => ("StoneSheets$Laws", "draft", "LStoneSheets$Law;", true)
  | 2 => ("StoneSheets$Laws", "stack", "[I", true)
  | _ => ("StoneSheets$Laws", "top", "I", false)
def tyX1 : Nat → FieldType := fun k => match k with
  | 0 => .array (.object "StoneSheets$Law")
  | 1 => .object "StoneSheets$Law"
  | 2 => .array .int
  | _ => .int
theorem nmX1 : ∀ a, a < 4 → ∀ b, b < 4 → a ≠ b → (TX1 a).2.1 ≠ (TX1 b).2.1 := by decide +kernel
theorem tyX1_ok : ∀ k, k < 4 → parseFieldDescriptor (TX1 k).2.2.1 = some (tyX1 k) := by decide +kernel
def TX2 : u_T := fun k => match k with
  | 0 => ("StoneSheets$Reader", "tape", "[I", true)
  | 1 => ("StoneSheets$Reader", "length", "I", false)
  | 2 => ("StoneSheets$Reader", "sort", "I", false)
  | 3 => ("StoneSheets$Reader", "start", "I", false)
  | 4 => ("StoneSheets$Reader", "place", "I", false)
  | 5 => ("StoneSheets$Reader", "glued", "Z", false)
  | 6 => ("StoneSheets$Reader", "signs", "[I", true)
  | 7 => ("StoneSheets$Reader", "top", "I", false)
  | 8 => ("StoneSheets$Reader", "brackets", "I", false)
  | 9 => ("StoneSheets$Reader", "nots", "I", false)
  | _ => ("StoneSheets$Reader", "wanting", "Z", false)
def tyX2 : Nat → FieldType := fun k => match k with
  | 0 => .array .int
  | 1 => .int
  | 2 => .int
  | 3 => .int
  | 4 => .int
  | 5 => .boolean
  | 6 => .array .int
  | 7 => .int
  | 8 => .int
  | 9 => .int
  | _ => .boolean
theorem nmX2 : ∀ a, a < 11 → ∀ b, b < 11 → a ≠ b → (TX2 a).2.1 ≠ (TX2 b).2.1 := by decide +kernel
theorem tyX2_ok : ∀ k, k < 11 → parseFieldDescriptor (TX2 k).2.2.1 = some (tyX2 k) := by decide +kernel
def TX3 : u_T := fun k => match k with
  | 0 => ("StoneSheets$Row", "values", "[I", true)
  | 1 => ("StoneSheets$Row", "sort", "I", false)
  | _ => ("StoneSheets$Row", "length", "I", false)
def tyX3 : Nat → FieldType := fun k => match k with
  | 0 => .array .int
  | 1 => .int
  | _ => .int
theorem nmX3 : ∀ a, a < 3 → ∀ b, b < 3 → a ≠ b → (TX3 a).2.1 ≠ (TX3 b).2.1 := by decide +kernel
theorem tyX3_ok : ∀ k, k < 3 → parseFieldDescriptor (TX3 k).2.2.1 = some (tyX3 k) := by decide +kernel
def TX4 : u_T := fun k => match k with
  | 0 => ("StoneSheets$Rubbing", "kind", "I", false)
  | 1 => ("StoneSheets$Rubbing", "raw", "I", false)
  | 2 => ("StoneSheets$Rubbing", "size", "I", false)
  | 3 => ("StoneSheets$Rubbing", "turned", "I", false)
  | 4 => ("StoneSheets$Rubbing", "laid", "I", false)
  | _ => ("StoneSheets$Rubbing", "trust", "I", false)
def tyX4 : Nat → FieldType := fun k => match k with
  | 0 => .int
  | 1 => .int
  | 2 => .int
  | 3 => .int
  | 4 => .int
  | _ => .int
theorem nmX4 : ∀ a, a < 6 → ∀ b, b < 6 → a ≠ b → (TX4 a).2.1 ≠ (TX4 b).2.1 := by decide +kernel
theorem tyX4_ok : ∀ k, k < 6 → parseFieldDescriptor (TX4 k).2.2.1 = some (tyX4 k) := by decide +kernel
def TX5 : u_T := fun k => match k with
  | 0 => ("StoneSheets$Slot", "rubbing", "LStoneSheets$Rubbing;", true)
  | 1 => ("StoneSheets$Slot", "row", "LStoneSheets$Row;", true)
  | 2 => ("StoneSheets$Slot", "thing", "I", false)
  | _ => ("StoneSheets$Slot", "number", "I", false)
def tyX5 : Nat → FieldType := fun k => match k with
  | 0 => .object "StoneSheets$Rubbing"
  | 1 => .object "StoneSheets$Row"
  | 2 => .int
  | _ => .int
theorem nmX5 : ∀ a, a < 4 → ∀ b, b < 4 → a ≠ b → (TX5 a).2.1 ≠ (TX5 b).2.1 := by decide +kernel
theorem tyX5_ok : ∀ k, k < 4 → parseFieldDescriptor (TX5 k).2.2.1 = some (tyX5 k) := by decide +kernel
def TX6 : u_T := fun k => match k with
  | 0 => ("StoneSheets$Wall", "laws", "LStoneSheets$Laws;", true)
  | 1 => ("StoneSheets$Wall", "marks", "[I", true)
  | 2 => ("StoneSheets$Wall", "rubbings", "[LStoneSheets$Rubbing;", true)
  | 3 => ("StoneSheets$Wall", "clashing", "[I", true)
  | 4 => ("StoneSheets$Wall", "counting", "[I", true)
  | 5 => ("StoneSheets$Wall", "many", "I", false)
  | 6 => ("StoneSheets$Wall", "texts", "I", false)
  | 7 => ("StoneSheets$Wall", "tide", "I", false)
  | 8 => ("StoneSheets$Wall", "found", "I", false)
  | _ => ("StoneSheets$Wall", "z", "I", false)
def tyX6 : Nat → FieldType := fun k => match k with
  | 0 => .object "StoneSheets$Laws"
  | 1 => .array .int
  | 2 => .array (.object "StoneSheets$Rubbing")
  | 3 => .array .int
  | 4 => .array .int
  | 5 => .int
  | 6 => .int
  | 7 => .int
  | 8 => .int
  | _ => .int
theorem nmX6 : ∀ a, a < 10 → ∀ b, b < 10 → a ≠ b → (TX6 a).2.1 ≠ (TX6 b).2.1 := by decide +kernel
theorem tyX6_ok : ∀ k, k < 10 → parseFieldDescriptor (TX6 k).2.2.1 = some (tyX6 k) := by decide +kernel
def TX7 : u_T := fun k => match k with
  | 0 => ("StoneSheets", "laws", "LStoneSheets$Laws;", true)
  | 1 => ("StoneSheets", "wall", "LStoneSheets$Wall;", true)
  | 2 => ("StoneSheets", "image", "LStoneSheets$Wall;", true)
  | 3 => ("StoneSheets", "thought", "LStoneSheets$Wall;", true)
  | 4 => ("StoneSheets", "reader", "LStoneSheets$Reader;", true)
  | 5 => ("StoneSheets", "rows", "[LStoneSheets$Row;", true)
  | 6 => ("StoneSheets", "slots", "[LStoneSheets$Slot;", true)
  | 7 => ("StoneSheets", "numbers", "[I", true)
  | 8 => ("StoneSheets", "waiting", "I", false)
  | _ => ("StoneSheets", "imaged", "Z", false)
def tyX7 : Nat → FieldType := fun k => match k with
  | 0 => .object "StoneSheets$Laws"
  | 1 => .object "StoneSheets$Wall"
  | 2 => .object "StoneSheets$Wall"
  | 3 => .object "StoneSheets$Wall"
  | 4 => .object "StoneSheets$Reader"
  | 5 => .array (.object "StoneSheets$Row")
  | 6 => .array (.object "StoneSheets$Slot")
  | 7 => .array .int
  | 8 => .int
  | _ => .boolean
theorem nmX7 : ∀ a, a < 10 → ∀ b, b < 10 → a ≠ b → (TX7 a).2.1 ≠ (TX7 b).2.1 := by decide +kernel
theorem tyX7_ok : ∀ k, k < 10 → parseFieldDescriptor (TX7 k).2.2.1 = some (tyX7 k) := by decide +kernel
def TX8 : u_T := fun k => match k with
  | 0 => ("StoneSheetsModel", "s", "[I", true)
  | 1 => ("StoneSheetsModel", "image", "[I", true)
  | 2 => ("StoneSheetsModel", "aside", "[I", true)
  | 3 => ("StoneSheetsModel", "hasImage", "Z", false)
  | 4 => ("StoneSheetsModel", "tSort", "[I", true)
  | 5 => ("StoneSheetsModel", "tSize", "[I", true)
  | 6 => ("StoneSheetsModel", "tNumber", "[I", true)
  | 7 => ("StoneSheetsModel", "held", "[I", true)
  | 8 => ("StoneSheetsModel", "heldNumber", "[I", true)
  | 9 => ("StoneSheetsModel", "heldWorth", "[I", true)
  | 10 => ("StoneSheetsModel", "heldSize", "[I", true)
  | 11 => ("StoneSheetsModel", "heldRow", "[I", true)
  | 12 => ("StoneSheetsModel", "clashing", "[I", true)
  | 13 => ("StoneSheetsModel", "close", "[I", true)
  | 14 => ("StoneSheetsModel", "tape", "[I", true)
  | 15 => ("StoneSheetsModel", "taped", "I", false)
  | 16 => ("StoneSheetsModel", "begin", "I", false)
  | 17 => ("StoneSheetsModel", "behind", "I", false)
  | 18 => ("StoneSheetsModel", "token", "I", false)
  | 19 => ("StoneSheetsModel", "number", "I", false)
  | 20 => ("StoneSheetsModel", "letter", "I", false)
  | 21 => ("StoneSheetsModel", "deep", "I", false)
  | 22 => ("StoneSheetsModel", "turned", "I", false)
  | 23 => ("StoneSheetsModel", "laid", "I", false)
  | 24 => ("StoneSheetsModel", "laidAt", "I", false)
  | 25 => ("StoneSheetsModel", "said", "I", false)
  | 26 => ("StoneSheetsModel", "named", "[I", true)
  | 27 => ("StoneSheetsModel", "pile", "[I", true)
  | 28 => ("StoneSheetsModel", "carried", "[I", true)
  | 29 => ("StoneSheetsModel", "waits", "[I", true)
  | 30 => ("StoneSheetsModel", "waiting", "I", false)
  | _ => ("StoneSheetsModel", "rowDue", "[I", true)
def tyX8 : Nat → FieldType := fun k => match k with
  | 0 => .array .int
  | 1 => .array .int
  | 2 => .array .int
  | 3 => .boolean
  | 4 => .array .int
  | 5 => .array .int
  | 6 => .array .int
  | 7 => .array .int
  | 8 => .array .int
  | 9 => .array .int
  | 10 => .array .int
  | 11 => .array .int
  | 12 => .array .int
  | 13 => .array .int
  | 14 => .array .int
  | 15 => .int
  | 16 => .int
  | 17 => .int
  | 18 => .int
  | 19 => .int
  | 20 => .int
  | 21 => .int
  | 22 => .int
  | 23 => .int
  | 24 => .int
  | 25 => .int
  | 26 => .array .int
  | 27 => .array .int
  | 28 => .array .int
  | 29 => .array .int
  | 30 => .int
  | _ => .array .int
theorem nmX8 : ∀ a, a < 32 → ∀ b, b < 32 → a ≠ b → (TX8 a).2.1 ≠ (TX8 b).2.1 := by decide +kernel
theorem tyX8_ok : ∀ k, k < 32 → parseFieldDescriptor (TX8 k).2.2.1 = some (tyX8 k) := by decide +kernel
abbrev pcls : List vw_C := [(RX0, TX0, 4), (RX1, TX1, 4), (RX2, TX2, 11), (RX3, TX3, 3), (RX4, TX4, 6), (RX5, TX5, 4), (RX6, TX6, 10), (RX7, TX7, 10), (RX8, TX8, 32)]
def ptyp : Nat → Nat → FieldType := fun c => match c with
  | 0 => tyX0
  | 1 => tyX1
  | 2 => tyX2
  | 3 => tyX3
  | 4 => tyX4
  | 5 => tyX5
  | 6 => tyX6
  | 7 => tyX7
  | _ => tyX8
def pini : Nat → List Value := fun c => match c with
  | 0 => [.null, .int 0, .int 0, .int 0]
  | 1 => [.null, .null, .null, .int 0]
  | 2 => [.null, .int 0, .int 0, .int 0, .int 0, .int 0, .null, .int 0, .int 0, .int 0, .int 0]
  | 3 => [.null, .int 0, .int 0]
  | 4 => [.int 0, .int 0, .int 0, .int 0, .int 0, .int 0]
  | 5 => [.null, .null, .int 0, .int 0]
  | 6 => [.null, .null, .null, .null, .null, .int 0, .int 0, .int 0, .int 0, .int 0]
  | 7 => [.null, .null, .null, .null, .null, .null, .null, .null, .int 0, .int 0]
  | _ => [.null, .null, .null, .int 0, .null, .null, .null, .null, .null, .null, .null, .null, .null, .null, .null, .int 0, .int 0, .int 0, .int 0, .int 0, .int 0, .int 0, .int 0, .int 0, .int 0, .int 0, .null, .null, .null, .null, .int 0, .null]
theorem iX0 : u_ws RX0 TX0 4 = [114, 116, 118, 120].filterMap (fun i => lw_tbl[i]?) := by decide +kernel
theorem iX1 : u_ws RX1 TX1 4 = [130, 132, 134, 136].filterMap (fun i => lw_tbl[i]?) := by decide +kernel
theorem iX2 : u_ws RX2 TX2 11 = [240, 242, 244, 246, 248, 250, 252, 254, 256, 258, 260].filterMap (fun i => lw_tbl[i]?) := by decide +kernel
theorem iX3 : u_ws RX3 TX3 3 = [278, 280, 282].filterMap (fun i => lw_tbl[i]?) := by decide +kernel
theorem iX4 : u_ws RX4 TX4 6 = [171, 173, 175, 177, 179, 181].filterMap (fun i => lw_tbl[i]?) := by decide +kernel
theorem iX5 : u_ws RX5 TX5 4 = [301, 303, 305, 307].filterMap (fun i => lw_tbl[i]?) := by decide +kernel
theorem iX6 : u_ws RX6 TX6 10 = [201, 203, 205, 207, 209, 211, 213, 215, 217, 219].filterMap (fun i => lw_tbl[i]?) := by decide +kernel
theorem iX7 : u_ws RX7 TX7 10 = [320, 322, 324, 326, 328, 330, 332, 334, 336, 338].filterMap (fun i => lw_tbl[i]?) := by decide +kernel
theorem iX8 : u_ws RX8 TX8 32 = [1075, 1077, 1079, 1081, 1083, 1085, 1087, 1089, 1091, 1093, 1095, 1097, 1099, 1101, 1103, 1105, 1107, 1109, 1111, 1113, 1115, 1117, 1119, 1121, 1123, 1125, 1127, 1129, 1131, 1133, 1135, 1137].filterMap (fun i => lw_tbl[i]?) := by decide +kernel
end
section
/-! ===== THE PURE MACHINE: what the bytecode of the claim's methods does, as a function of pure values; cells are numbered from 0 in the order of their making ===== -/
abbrev pC : Type := (Nat × (Nat → Int32)) ⊕ ((Nat × Nat × (Nat → Option Nat)) ⊕ (Nat × List Value))
abbrev pE : Type := Nat × Instr × Nat × Nat × Value × List Nat
abbrev pM : Type := MethodName × ByteArray × Nat × Option FieldType × Nat × Nat × List pE
abbrev pL : Type := List (Option Value)
abbrev pS : Type := Nat × pL × List Value × List pC × Nat × Nat
abbrev pR : Type := Option Value × List pC × Nat × Nat
abbrev pX : Type := Nat → Option (Nat × (Nat → Int32))
abbrev pV : Type := pM → List Value → List pC → Option (Option Value)
def e_pc (e : pE) : Nat := e.1
def e_in (e : pE) : Instr := e.2.1
def e_x (e : pE) : Nat := e.2.2.1
def e_y (e : pE) : Nat := e.2.2.2.1
def e_v (e : pE) : Value := e.2.2.2.2.1
def e_ts (e : pE) : List Nat := e.2.2.2.2.2
def m_y (M : pM) : MethodName := M.1
def m_b (M : pM) : ByteArray := M.2.1
def m_l (M : pM) : Nat := M.2.2.1
def m_r (M : pM) : Option FieldType := M.2.2.2.1
def m_k (M : pM) : Nat := M.2.2.2.2.1
def m_c (M : pM) : Nat := M.2.2.2.2.2.1
def m_code (M : pM) : List pE := M.2.2.2.2.2.2
def pget (L : pL) (i : Nat) : Option Value := match L[i]? with
  | some v => v
  | none => none
def pcat2 (o : Option Value) : Bool := match o with
  | some (.long _) => true
  | some (.double _) => true
  | _ => false
def pset (L : pL) (i : Nat) (v : Value) : Option pL := if i < L.length then (if pcat2 (pget L (i - 1)) = true then none else some (L.set i (some v))) else none
def pexp : List Value → pL
  | [] => []
  | .long x :: vs => some (.long x) :: none :: pexp vs
  | .double x :: vs => some (.double x) :: none :: pexp vs
  | v :: vs => some v :: pexp vs
def pent (n : Nat) (as : List Value) : pL := pexp as ++ List.replicate (n - (pexp as).length) none
def pcs (st : List Value) : Nat := (st.map fun v => v.category).sum
def pnx (i : Nat) (L : pL) (st : List Value) (h : List pC) : Option pS := some (i + 1, L, st, h, 0, 0)
def pc1 (k : ClassFile.Cond) (a : Int32) : Bool := match k with
  | .eq => decide (a = 0)
  | .ne => decide (¬ a = 0)
  | .lt => decide (a < 0)
  | .ge => decide (0 ≤ a)
  | .gt => decide (0 < a)
  | .le => decide (a ≤ 0)
def pc2 (k : ClassFile.Cond) (a b : Int32) : Bool := match k with
  | .eq => decide (a = b)
  | .ne => decide (¬ a = b)
  | .lt => decide (a < b)
  | .ge => decide (b ≤ a)
  | .gt => decide (b < a)
  | .le => decide (a ≤ b)
def psw (z : Int) : List (Int × Nat) → Nat → Nat
  | [], d => d
  | (k, t) :: r, d => if z = k then t else psw z r d
def pkeysT (lo : Int) : List Nat → List (Int × Nat)
  | [] => []
  | t :: r => (lo, t) :: pkeysT (lo + 1) r
def pkeys (e : pE) : List (Int × Nat) := match e_in e with
  | .tableswitch _ lo _ _ => pkeysT lo (e_ts e)
  | .lookupswitch _ ps => (ps.toList.map (fun q => q.1)).zip (e_ts e)
  | _ => []
def pfit (ty : FieldType) (v : Value) : Bool := match ty, v with
  | .int, .int _ => true
  | .boolean, .int x => decide (x = 0 ∨ x = 1)
  | .object _, .null => true
  | .object _, .ref _ => true
  | .array _, .null => true
  | .array _, .ref _ => true
  | _, _ => false
def pbin (f : Int32 → Int32 → Int32) (i : Nat) (L : pL) (st : List Value) (h : List pC) : Option pS := match st with
  | .int b :: .int a :: r => pnx i L (.int (f a b) :: r) h
  | _ => none
def pldi (e : pE) (i : Nat) (L : pL) (st : List Value) (h : List pC) : Option pS := match pget L (e_x e) with
  | some (.int a) => pnx i L (.int a :: st) h
  | _ => none
def pldl (e : pE) (i : Nat) (L : pL) (st : List Value) (h : List pC) : Option pS := match pget L (e_x e) with
  | some (.long a) => pnx i L (.long a :: st) h
  | _ => none
def plda (e : pE) (i : Nat) (L : pL) (st : List Value) (h : List pC) : Option pS := match pget L (e_x e) with
  | some (.ref a) => pnx i L (.ref a :: st) h
  | some .null => pnx i L (.null :: st) h
  | some (.retAddr a) => pnx i L (.retAddr a :: st) h
  | _ => none
def psto (o : Option pL) (i : Nat) (st : List Value) (h : List pC) : Option pS := match o with
  | some L => pnx i L st h
  | none => none
def psti (e : pE) (i : Nat) (L : pL) (st : List Value) (h : List pC) : Option pS := match st with
  | .int a :: r => psto (pset L (e_x e) (.int a)) i r h
  | _ => none
def psta (e : pE) (i : Nat) (L : pL) (st : List Value) (h : List pC) : Option pS := match st with
  | .ref a :: r => psto (pset L (e_x e) (.ref a)) i r h
  | .null :: r => psto (pset L (e_x e) .null) i r h
  | _ => none
def pinc (n : Int) (e : pE) (i : Nat) (L : pL) (st : List Value) (h : List pC) : Option pS := match pget L (e_x e) with
  | some (.int a) => psto (pset L (e_x e) (.int (a + Int32.ofInt n))) i st h
  | _ => none
def pIn (j : Int32) (n : Nat) : Prop := 0 ≤ j ∧ j.toNatClampNeg < n
def pobj (h : List pC) (a : Nat) : Option (Nat × List Value) := match h[a]? with
  | some (.inr (.inr o)) => some o
  | _ => none
def pint (h : List pC) (a : Nat) : Option (Nat × (Nat → Int32)) := match h[a]? with
  | some (.inl o) => some o
  | _ => none
def pref (h : List pC) (a : Nat) : Option (Nat × Nat × (Nat → Option Nat)) := match h[a]? with
  | some (.inr (.inl o)) => some o
  | _ => none
def pgetf (e : pE) (i : Nat) (L : pL) (st : List Value) (h : List pC) : Option pS := match st with
  | .ref a :: r => match pobj h a with
    | some o => if o.1 = e_x e then (match o.2[e_y e]? with
      | some v => pnx i L (v :: r) h
      | none => none) else none
    | none => none
  | _ => none
def pputf (e : pE) (i : Nat) (L : pL) (st : List Value) (h : List pC) : Option pS := match st with
  | v :: .ref a :: r => match pobj h a with
    | some o => if o.1 = e_x e then (if pfit (ptyp (e_x e) (e_y e)) v = true then pnx i L r (h.set a (.inr (.inr (o.1, o.2.set (e_y e) v)))) else none) else none
    | none => none
  | _ => none
def piald (E : pX) (i : Nat) (L : pL) (st : List Value) (h : List pC) : Option pS := match st with
  | .int j :: .ref a :: r => match pint h a with
    | some x => if 0 ≤ j ∧ j.toNatClampNeg < x.1 then pnx i L (.int (x.2 j.toNatClampNeg) :: r) h else none
    | none => none
  | .int j :: .retAddr k :: r => match E k with
    | some x => if 0 ≤ j ∧ j.toNatClampNeg < x.1 then pnx i L (.int (x.2 j.toNatClampNeg) :: r) h else none
    | none => none
  | _ => none
def piast (i : Nat) (L : pL) (st : List Value) (h : List pC) : Option pS := match st with
  | .int v :: .int j :: .ref a :: r => match pint h a with
    | some x => if 0 ≤ j ∧ j.toNatClampNeg < x.1 then pnx i L r (h.set a (.inl (x.1, va_up x.2 j.toNatClampNeg v))) else none
    | none => none
  | _ => none
def paald (i : Nat) (L : pL) (st : List Value) (h : List pC) : Option pS := match st with
  | .int j :: .ref a :: r => match pref h a with
    | some x => if 0 ≤ j ∧ j.toNatClampNeg < x.2.1 then pnx i L (va_rf (x.2.2 j.toNatClampNeg) :: r) h else none
    | none => none
  | _ => none
def paast (i : Nat) (L : pL) (st : List Value) (h : List pC) : Option pS := match st with
  | .ref v :: .int j :: .ref a :: r => match pref h a, pobj h v with
    | some x, some o => if o.1 = x.1 then (if 0 ≤ j ∧ j.toNatClampNeg < x.2.1 then pnx i L r (h.set a (.inr (.inl (x.1, x.2.1, va_up x.2.2 j.toNatClampNeg (some v))))) else none) else none
    | _, _ => none
  | _ => none
def palen (E : pX) (i : Nat) (L : pL) (st : List Value) (h : List pC) : Option pS := match st with
  | .ref a :: r => match h[a]? with
    | some (.inl x) => pnx i L (.int (Int32.ofNat x.1) :: r) h
    | some (.inr (.inl x)) => pnx i L (.int (Int32.ofNat x.2.1) :: r) h
    | _ => none
  | .retAddr k :: r => match E k with
    | some x => pnx i L (.int (Int32.ofNat x.1) :: r) h
    | none => none
  | _ => none
def pnewc (e : pE) (i : Nat) (L : pL) (st : List Value) (h : List pC) : Option pS := if e_x e < pcls.length then some (i + 1, L, .ref h.length :: st, h ++ [.inr (.inr (e_x e, pini (e_x e)))], 1, (pini (e_x e)).length) else none
def pnewa (i : Nat) (L : pL) (st : List Value) (h : List pC) : Option pS := match st with
  | .int n :: r => if 0 ≤ n ∧ n ≤ 100000 then some (i + 1, L, .ref h.length :: r, h ++ [.inl (n.toNatClampNeg, fun _ => 0)], 1, n.toNatClampNeg) else none
  | _ => none
def pnewq (e : pE) (i : Nat) (L : pL) (st : List Value) (h : List pC) : Option pS := match st with
  | .int n :: r => if e_x e < pcls.length ∧ 0 ≤ n ∧ n ≤ 100000 then some (i + 1, L, .ref h.length :: r, h ++ [.inr (.inl (e_x e, n.toNatClampNeg, fun _ => none))], 1, n.toNatClampNeg) else none
  | _ => none
def pocopy (e : pE) (i : Nat) (L : pL) (st : List Value) (h : List pC) : Option pS := match st with
  | .int n :: .int dp :: .ref a1 :: .int sp :: .ref a0 :: r => if e_x e = 99999 ∧ pcs r ≤ 8 then (match pint h a0, pint h a1 with
    | some x, some y => if 0 ≤ sp ∧ 0 ≤ dp ∧ 0 ≤ n ∧ sp.toNatClampNeg + n.toNatClampNeg ≤ x.1 ∧ dp.toNatClampNeg + n.toNatClampNeg ≤ y.1 then pnx i L r (h.set a1 (.inl (y.1, va_cpy x.2 y.2 sp.toNatClampNeg dp.toNatClampNeg n.toNatClampNeg))) else none
    | _, _ => none) else none
  | _ => none
def pm2 (f : Int32 → Int32 → Int32) (i : Nat) (L : pL) (st : List Value) (h : List pC) : Option pS := match st with
  | .int b :: .int a :: r => if pcs r ≤ 8 then pnx i L (.int (f a b) :: r) h else none
  | _ => none
def pm1 (f : Int32 → Int32) (i : Nat) (L : pL) (st : List Value) (h : List pC) : Option pS := match st with
  | .int a :: r => if pcs r ≤ 8 then pnx i L (.int (f a) :: r) h else none
  | _ => none
/-- the JDK's own: Math.max, min, abs; System.arraycopy -/
def pnats (e : pE) (i : Nat) (L : pL) (st : List Value) (h : List pC) : Option pS :=
  if e_x e = 99990 then pm2 (fun a b => if a < b then b else a) i L st h else if e_x e = 99991 then pm2 (fun a b => if b < a then b else a) i L st h else if e_x e = 99992 then pm1 (fun a => if 0 ≤ a then a else 0 - a) i L st h else pocopy e i L st h
def poini (e : pE) (i : Nat) (L : pL) (st : List Value) (h : List pC) : Option pS := match st with
  | .ref _ :: r => if e_x e = 99999 ∧ pcs r ≤ 8 then pnx i L r h else none
  | _ => none
def pdiv (f : Int32 → Int32 → Int32) (i : Nat) (L : pL) (st : List Value) (h : List pC) : Option pS := match st with
  | .int b :: .int a :: r => if b = 0 then none else pnx i L (.int (f a b) :: r) h
  | _ => none
def puni (f : Int32 → Value) (i : Nat) (L : pL) (st : List Value) (h : List pC) : Option pS := match st with
  | .int a :: r => pnx i L (f a :: r) h
  | _ => none
def plbin (f : Int64 → Int64 → Value) (i : Nat) (L : pL) (st : List Value) (h : List pC) : Option pS := match st with
  | .long b :: .long a :: r => pnx i L (f a b :: r) h
  | _ => none
def pdup (i : Nat) (L : pL) (st : List Value) (h : List pC) : Option pS := match st with
  | v :: r => if v.category = 1 then pnx i L (v :: v :: r) h else none
  | _ => none
def pdup2 (i : Nat) (L : pL) (st : List Value) (h : List pC) : Option pS := match st with
  | v :: w :: r => if v.category = 1 ∧ w.category = 1 then pnx i L (v :: w :: v :: w :: r) h else none
  | _ => none
def ppop (i : Nat) (L : pL) (st : List Value) (h : List pC) : Option pS := match st with
  | v :: r => if v.category = 1 then pnx i L r h else none
  | _ => none
def pif1 (k : ClassFile.Cond) (x i : Nat) (L : pL) (st : List Value) (h : List pC) : Option pS := match st with
  | .int a :: r => some (cond (pc1 k a) x (i + 1), L, r, h, 0, 0)
  | _ => none
def pif2 (k : ClassFile.Cond) (x i : Nat) (L : pL) (st : List Value) (h : List pC) : Option pS := match st with
  | .int b :: .int a :: r => some (cond (pc2 k a b) x (i + 1), L, r, h, 0, 0)
  | _ => none
def pifn (x i : Nat) (L : pL) (st : List Value) (h : List pC) : Option pS := match st with
  | .null :: r => some (x, L, r, h, 0, 0)
  | .ref _ :: r => pnx i L r h
  | _ => none
def pifnn (x i : Nat) (L : pL) (st : List Value) (h : List pC) : Option pS := match st with
  | .null :: r => pnx i L r h
  | .ref _ :: r => some (x, L, r, h, 0, 0)
  | _ => none
def pswi (ks : List (Int × Nat)) (x i : Nat) (L : pL) (st : List Value) (h : List pC) : Option pS := match st with
  | .int a :: r => some (psw a.toInt ks x, L, r, h, 0, 0)
  | _ => none
/-- one instruction that is no call of a method of the program, and no return -/
def pstep (E : pX) (e : pE) (i : Nat) (L : pL) (st : List Value) (h : List pC) : Option pS := match e_in e with
  | .iconst _ => pnx i L (e_v e :: st) h
  | .bipush _ => pnx i L (e_v e :: st) h
  | .sipush _ => pnx i L (e_v e :: st) h
  | .lconst _ => pnx i L (e_v e :: st) h
  | .ldc _ => pnx i L (e_v e :: st) h
  | .ldc_w _ => pnx i L (e_v e :: st) h
  | .ldc2_w _ => pnx i L (e_v e :: st) h
  | .aconst_null => pnx i L (.null :: st) h
  | .iload _ => pldi e i L st h
  | .iload_n _ => pldi e i L st h
  | .lload _ => pldl e i L st h
  | .lload_n _ => pldl e i L st h
  | .aload _ => plda e i L st h
  | .aload_n _ => plda e i L st h
  | .istore _ => psti e i L st h
  | .istore_n _ => psti e i L st h
  | .astore _ => psta e i L st h
  | .astore_n _ => psta e i L st h
  | .iinc _ n => pinc n e i L st h
  | .iadd => pbin (fun a b => a + b) i L st h
  | .isub => pbin (fun a b => a - b) i L st h
  | .imul => pbin (fun a b => a * b) i L st h
  | .iand => pbin (fun a b => a &&& b) i L st h
  | .ior => pbin (fun a b => a ||| b) i L st h
  | .ixor => pbin (fun a b => a ^^^ b) i L st h
  | .ishl => pbin (fun a b => a <<< (b &&& 31)) i L st h
  | .ishr => pbin (fun a b => a >>> (b &&& 31)) i L st h
  | .iushr => pbin (fun a b => (a.toUInt32 >>> (b.toUInt32 &&& Int32.toUInt32 31)).toInt32) i L st h
  | .idiv => pdiv (fun a b => a / b) i L st h
  | .irem => pdiv (fun a b => a - a / b * b) i L st h
  | .ineg => puni (fun a => .int (-a)) i L st h
  | .i2l => puni (fun a => .long a.toInt64) i L st h
  | .i2s => puni (fun a => .int a.toInt16.toInt32) i L st h
  | .i2c => puni (fun a => .int (a.toUInt32 % 65536).toInt32) i L st h
  | .ladd => plbin (fun a b => .long (a + b)) i L st h
  | .lcmp => plbin (fun a b => .int (lg_cmp a b)) i L st h
  | .dup => pdup i L st h
  | .dup2 => pdup2 i L st h
  | .pop => ppop i L st h
  | .goto _ => some (e_x e, L, st, h, 0, 0)
  | .ifCond k _ => pif1 k (e_x e) i L st h
  | .if_icmp k _ => pif2 k (e_x e) i L st h
  | .ifnull _ => pifn (e_x e) i L st h
  | .ifnonnull _ => pifnn (e_x e) i L st h
  | .tableswitch _ _ _ _ => pswi (pkeys e) (e_x e) i L st h
  | .lookupswitch _ _ => pswi (pkeys e) (e_x e) i L st h
  | .getfield _ => pgetf e i L st h
  | .putfield _ => pputf e i L st h
  | .iaload => piald E i L st h
  | .iastore => piast i L st h
  | .aaload => paald i L st h
  | .aastore => paast i L st h
  | .arraylength => palen E i L st h
  | .new _ => pnewc e i L st h
  | .newarray _ => pnewa i L st h
  | .anewarray _ => pnewq e i L st h
  | .invokestatic _ => pnats e i L st h
  | .invokespecial _ => poini e i L st h
  | _ => none
def pret (M : pM) (e : pE) (st : List Value) : Option (Option Value) := match e_in e, st with
  | .return_, [] => match m_r M with
    | none => some none
    | _ => none
  | .ireturn, [.int v] => match m_r M with
    | some .int => some (some (.int v))
    | some .boolean => if v = 0 ∨ v = 1 then some (some (.int v)) else none
    | _ => none
  | .areturn, [.null] => match m_r M with
    | some (.object _) => some (some .null)
    | _ => none
  | .areturn, [.ref a] => match m_r M with
    | some (.object _) => some (some (.ref a))
    | _ => none
  | _, _ => none
/-- a call of a method of the program: it, its arguments, what stays on the stack -/
def pcall (P : List pM) (e : pE) (st : List Value) (h : List pC) : Option (pM × List Value × List Value) := match e_in e with
  | .invokestatic _ => match P[e_x e]? with
    | some M => if m_k M = 0 ∧ e_y e ≤ st.length ∧ pcs (st.drop (e_y e)) ≤ 8 then some (M, (st.take (e_y e)).reverse, st.drop (e_y e)) else none
    | none => none
  | .invokevirtual _ => match P[e_x e]? with
    | some M => match st.drop (e_y e) with
      | .ref b :: r => match pobj h b with
        | some o => if m_k M = 1 ∧ o.1 = m_c M ∧ pcs r ≤ 8 then some (M, .ref b :: (st.take (e_y e)).reverse, r) else none
        | none => none
      | _ => none
    | none => none
  | .invokespecial _ => match P[e_x e]? with
    | some M => match st.drop (e_y e) with
      | .ref b :: r => if m_k M = 2 ∧ pcs r ≤ 8 then some (M, .ref b :: (st.take (e_y e)).reverse, r) else none
      | _ => none
    | none => none
  | _ => none
/-- a run of a method from the instruction of number i to its end: what it answers, the cells behind it, how many were made, of how many slots together -/
def pexec (P : List pM) (E : pX) (V : pV) : Nat → Nat → pM → Nat → pL → List Value → List pC → Option pR
  | 0, _, _, _, _, _, _ => none
  | _ + 1, 0, _, _, _, _, _ => none
  | f + 1, d + 1, M, i, L, st, h => match (m_code M)[i]? with
    | none => none
    | some e => match pret M e st with
      | some r => some (r, h, 0, 0)
      | none => match pcall P e st h with
        | some (N, as, rest) => match m_code N with
          | [] => if 6 ≤ d then (match V N as h with
            | some r => pexec P E V f (d + 1) M (i + 1) L (r.toList ++ rest) h
            | none => none) else none
          | _ :: _ => if (pexp as).length ≤ m_l N then (match pexec P E V f d N 0 (pent (m_l N) as) [] h with
            | some (r, h1, k1, n1) => match pexec P E V f (d + 1) M (i + 1) L (r.toList ++ rest) h1 with
              | some (r2, h2, k2, n2) => some (r2, h2, k1 + k2, n1 + n2)
              | none => none
            | none => none) else none
        | none => match pstep E e i L st h with
          | some (i', L', st', h', dk, dn) => match pexec P E V f (d + 1) M i' L' st' h' with
            | some (r2, h2, k2, n2) => some (r2, h2, dk + k2, dn + n2)
            | none => none
          | none => none
end
section
/-! ===== WHAT THE MACHINE HOLDS OF THE PURE CELLS ===== -/
def emb (X : Nat → Nat) (bs : Nat) (v : Value) : Value := match v with
  | .ref a => .ref (bs + a)
  | .retAddr k => .ref (X k)
  | w => w
theorem emb_cat (X : Nat → Nat) (bs : Nat) (v : Value) : (emb X bs v).category = v.category := by cases v <;> rfl
theorem emb_rf (X : Nat → Nat) (bs : Nat) (r : Option Nat) : emb X bs (va_rf r) = va_rf (r.map (fun a => bs + a)) := by cases r <;> rfl
theorem emb_pcs (X : Nat → Nat) (bs : Nat) (st : List Value) : ((st.map (emb X bs)).map fun v => v.category).sum = pcs st := by
  unfold pcs
  rw [List.map_map]
  congr 1
  apply List.map_congr_left
  intro v _
  exact emb_cat X bs v
def cAt (D : va_G) (X : Nat → Nat) (bs : Nat) (U : State) (c : pC) (a : Nat) (H : Heap) : Prop := match c with
  | .inl x => ∃ cA : ClassId, H[a]? = some (arrV cA x.1 (fun j => .int (x.2 j))) ∧ ArrOfT U cA .int
  | .inr (.inl x) => ∃ (cA : ClassId) (r : vw_C), pcls[x.1]? = some r ∧ H[a]? = some (arrV cA x.2.1 (fun j => va_rf ((x.2.2 j).map (fun a => bs + a)))) ∧ ArrOfT U cA (.object r.1) ∧ va_RA U cA (.object r.1)
  | .inr (.inr x) => ∃ r : vw_C, pcls[x.1]? = some r ∧ x.2.length = r.2.2 ∧ t_OB a (D.1 x.1) r.2.2 (D.2 x.1) H (fun k => emb X bs (x.2.getD k .null))
def Rep (D : va_G) (X : Nat → Nat) (bs : Nat) (U : State) (h : List pC) (H : Heap) : Prop := H.size = bs + h.length ∧ ∀ (k : Nat) (c : pC), h[k]? = some c → cAt D X bs U c (bs + k) H
section REP
variable {D : va_G} {X : Nat → Nat} {bs : Nat} {U u : State} {h : List pC} {H H1 : Heap} {c c0 : pC} {a k : Nat}
theorem cAt.kept (hc : cAt D X bs U c a H) (hq : H1[a]? = H[a]?) : cAt D X bs U c a H1 := by
  rcases c with x | x | x
  · obtain ⟨cA, h1, h2⟩ := hc
    exact ⟨cA, hq.trans h1, h2⟩
  · obtain ⟨cA, r, h0, h1, h2⟩ := hc
    exact ⟨cA, r, h0, hq.trans h1, h2⟩
  · obtain ⟨r, h0, h1, h2⟩ := hc
    exact ⟨r, h0, h1, h2.kept hq⟩
theorem cAt.moved (hvm : u.vm.Alike U.vm) (hc : cAt D X bs u c a H) : cAt D X bs U c a H := by
  rcases c with x | x | x
  · obtain ⟨cA, h1, h2⟩ := hc
    exact ⟨cA, h1, arrOfT_moved hvm h2⟩
  · obtain ⟨cA, r, h0, h1, h2, h3⟩ := hc
    exact ⟨cA, r, h0, h1, arrOfT_moved hvm h2, h3.moved hvm⟩
  · exact hc
theorem Rep.moved (hvm : u.vm.Alike U.vm) (R : Rep D X bs u h H) : Rep D X bs U h H := ⟨R.1, fun k c hk => (R.2 k c hk).moved hvm⟩
theorem Rep.lt (R : Rep D X bs U h H) (hk : h[k]? = some c0) : bs + k < H.size := by
  have h1 := (List.getElem?_eq_some_iff.mp hk).1
  have h2 := R.1
  omega
theorem Rep.set (R : Rep D X bs U h H) (hk : h[k]? = some c0) (hz : H1.size = H.size) (hc : cAt D X bs U c (bs + k) H1) (oq : ∀ q : Nat, q ≠ bs + k → H1[q]? = H[q]?) : Rep D X bs U (h.set k c) H1 := by
  refine ⟨by rw [hz, R.1, List.length_set], fun j e hj => ?_⟩
  by_cases hjk : j = k
  · subst hjk
    rw [List.getElem?_set_self (List.getElem?_eq_some_iff.mp hk).1] at hj
    cases hj
    exact hc
  · rw [List.getElem?_set_ne (Ne.symm hjk)] at hj
    exact (R.2 j e hj).kept (oq _ (by omega))
theorem Rep.push (R : Rep D X bs U h H) (hz : H1.size = H.size + 1) (hc : cAt D X bs U c H.size H1) (oq : ∀ q : Nat, q < H.size → H1[q]? = H[q]?) : Rep D X bs U (h ++ [c]) H1 := by
  have hR := R.1
  refine ⟨by rw [hz, hR, List.length_append]; rfl, fun j e hj => ?_⟩
  by_cases hl : j < h.length
  · rw [List.getElem?_append_left hl] at hj
    exact (R.2 j e hj).kept (oq _ (by omega))
  · have h1 := (List.getElem?_eq_some_iff.mp hj).1
    rw [List.length_append] at h1
    have h2 : j = h.length := by
      have h3 : [c].length = 1 := rfl
      omega
    subst h2
    rw [List.getElem?_append_right (Nat.le_refl _), Nat.sub_self] at hj
    cases hj
    rw [← hR]
    exact hc
theorem pobj_at {o : Nat × List Value} (ho : pobj h a = some o) : h[a]? = some (.inr (.inr o)) := by
  unfold pobj at ho
  split at ho
  · rename_i x hx
    cases ho
    exact hx
  · cases ho
theorem pint_at {o : Nat × (Nat → Int32)} (ho : pint h a = some o) : h[a]? = some (.inl o) := by
  unfold pint at ho
  split at ho
  · rename_i x hx
    cases ho
    exact hx
  · cases ho
theorem pref_at {o : Nat × Nat × (Nat → Option Nat)} (ho : pref h a = some o) : h[a]? = some (.inr (.inl o)) := by
  unfold pref at ho
  split at ho
  · rename_i x hx
    cases ho
    exact hx
  · cases ho
end REP
/-! the locals -/
def LH (X : Nat → Nat) (bs : Nat) (ls : Array Slot) (n : Nat) (L : pL) : Prop := lv_has ls n [] ∧ L.length = n ∧ ∀ (i : Nat) (v : Value), pget L i = some v → ls[i]? = some (.val (emb X bs v))
def pLl (X : Nat → Nat) (bs : Nat) (L : pL) : List (Nat × Value) := (List.range L.length).filterMap fun i => (pget L i).map fun v => (i, emb X bs v)
section LHS
variable {X : Nat → Nat} {bs n i : Nat} {ls ls' : Array Slot} {L L' : pL} {v w : Value}
theorem pget_lt (hv : pget L i = some v) : i < L.length := by
  unfold pget at hv
  split at hv
  · rename_i x hx
    exact (List.getElem?_eq_some_iff.mp hx).1
  · cases hv
theorem pLl_mem (hv : pget L i = some v) : (i, emb X bs v) ∈ pLl X bs L := List.mem_filterMap.mpr ⟨i, List.mem_range.mpr (pget_lt hv), by rw [hv]; rfl⟩
theorem LH.has (h : LH X bs ls n L) : lv_has ls n (pLl X bs L) := by
  refine ⟨h.1.1, h.1.2.1, fun q hq => ?_⟩
  obtain ⟨j, -, hj⟩ := List.mem_filterMap.mp hq
  cases hv : pget L j with
  | none => rw [hv] at hj; cases hj
  | some v =>
    rw [hv] at hj
    cases hj
    exact h.2.2 j v hv
theorem pcat2_of (hw : pcat2 (some w) = false) : w.category = 1 := by cases w <;> first | rfl | cases hw
theorem LH.of (hL : L.length = n) (hp : pset L i v = some L') (h : lv_has ls' n ((i, emb X bs v) :: (pLl X bs L).filter (fun q => !(q.1 == i) && !(q.1 + 1 == i && q.2.category == 2)))) : LH X bs ls' n L' := by
  unfold pset at hp
  split at hp
  · rename_i hi
    split at hp
    · cases hp
    · rename_i hc
      cases hp
      refine ⟨⟨h.1, h.2.1, fun q hq => by cases hq⟩, by rw [List.length_set]; exact hL, fun j w hw => ?_⟩
      by_cases hji : j = i
      · subst hji
        unfold pget at hw
        rw [List.getElem?_set_self hi] at hw
        cases hw
        exact h.2.2 _ List.mem_cons_self
      · have hw2 : pget L j = some w := by
          unfold pget at hw ⊢
          rw [List.getElem?_set_ne (Ne.symm hji)] at hw
          exact hw
        refine h.2.2 (j, emb X bs w) (List.mem_cons_of_mem _ (List.mem_filter.mpr ⟨pLl_mem hw2, ?_⟩))
        by_cases hj1 : j + 1 = i
        · have hj2 : i - 1 = j := by omega
          rw [hj2, hw2] at hc
          have hcat := pcat2_of (by simpa using hc)
          simp [hji, emb_cat, hcat]
        · simp [hji, hj1]
  · cases hp
theorem pset_lt (hp : pset L i v = some L') : i < L.length := by
  unfold pset at hp
  split at hp
  · assumption
  · cases hp
end LHS
theorem pexp_len (X : Nat → Nat) (bs : Nat) : ∀ as : List Value, (lg_sl (as.map (emb X bs))).length = (pexp as).length
  | [] => rfl
  | v :: vs => by
    have ih := pexp_len X bs vs
    unfold lg_sl at ih ⊢
    rw [List.map_cons, List.flatMap_cons, List.length_append, ih, emb_cat]
    cases v <;> simp [pexp, Value.category] <;> omega
theorem pexp_in (X : Nat → Nat) (bs : Nat) : ∀ (as : List Value) (k i : Nat) (v : Value), (pexp as)[i]? = some (some v) → (k + i, emb X bs v) ∈ lv_args k (as.map (emb X bs))
  | [], k, i, v, h => by simp [pexp] at h
  | w :: vs, k, i, v, h => by
    have one : ∀ (hc : w.category = 1) (he : pexp (w :: vs) = some w :: pexp vs), (k + i, emb X bs v) ∈ lv_args k ((w :: vs).map (emb X bs)) := by
      intro hc he
      rw [he] at h
      rw [List.map_cons]
      unfold lv_args
      rw [emb_cat, hc, if_neg (by decide)]
      cases i with
      | zero => rw [List.getElem?_cons_zero] at h; cases h; exact List.mem_cons_self
      | succ i =>
        rw [List.getElem?_cons_succ] at h
        have := pexp_in X bs vs (k + 1) i v h
        rw [show k + (i + 1) = k + 1 + i by omega]
        exact List.mem_cons_of_mem _ this
    have two : ∀ (hc : w.category = 2) (he : pexp (w :: vs) = some w :: none :: pexp vs), (k + i, emb X bs v) ∈ lv_args k ((w :: vs).map (emb X bs)) := by
      intro hc he
      rw [he] at h
      rw [List.map_cons]
      unfold lv_args
      rw [emb_cat, hc, if_pos rfl]
      match i, h with
      | 0, h => rw [List.getElem?_cons_zero] at h; cases h; exact List.mem_cons_self
      | 1, h => rw [List.getElem?_cons_succ, List.getElem?_cons_zero] at h; cases h
      | i + 2, h =>
        rw [List.getElem?_cons_succ, List.getElem?_cons_succ] at h
        have := pexp_in X bs vs (k + 2) i v h
        rw [show k + (i + 2) = k + 2 + i by omega]
        exact List.mem_cons_of_mem _ this
    cases w <;> first | exact one rfl rfl | exact two rfl rfl
theorem LH.entry (X : Nat → Nat) (bs n : Nat) (as : List Value) (hn : (pexp as).length ≤ n) : LH X bs ((lg_sl (as.map (emb X bs)) ++ List.replicate (n - (lg_sl (as.map (emb X bs))).length) Slot.unset).toArray) n (pent n as) := by
  have h := lv_entry (as.map (emb X bs)) (n := n) (by rw [pexp_len]; exact hn)
  refine ⟨⟨h.1, h.2.1, fun q hq => by cases hq⟩, ?_, fun i v hv => ?_⟩
  · unfold pent
    rw [List.length_append, List.length_replicate]
    omega
  · have hi : (pexp as)[i]? = some (some v) := by
      unfold pget pent at hv
      by_cases hl : i < (pexp as).length
      · rw [List.getElem?_append_left hl] at hv
        cases hx : (pexp as)[i]? with
        | none => rw [hx] at hv; cases hv
        | some o => rw [hx] at hv; exact congrArg some hv
      · rw [List.getElem?_append_right (by omega)] at hv
        cases hx : (List.replicate (n - (pexp as).length) (none : Option Value))[i - (pexp as).length]? with
        | none => rw [hx] at hv; cases hv
        | some o =>
          rw [hx] at hv
          have := List.eq_of_mem_replicate (List.mem_of_getElem? hx)
          rw [this] at hv
          cases hv
    have := pexp_in X bs as 0 i v hi
    rw [Nat.zero_add] at this
    exact h.2.2 _ this
end
section
/-! ===== WHEN A TABLE IS THE METHOD'S: checks that the kernel makes ===== -/
def pcOf (code : List pE) (i : Nat) : Nat := match code[i]? with
  | some t => e_pc t
  | none => 0
def ilen (x : Instr) : Nat := match x with
  | .bipush _ => 2
  | .ldc _ => 2
  | .iload _ => 2
  | .lload _ => 2
  | .aload _ => 2
  | .istore _ => 2
  | .astore _ => 2
  | .newarray _ => 2
  | .sipush _ => 3
  | .ldc_w _ => 3
  | .ldc2_w _ => 3
  | .iinc _ _ => 3
  | .goto _ => 3
  | .ifCond _ _ => 3
  | .if_icmp _ _ => 3
  | .ifnull _ => 3
  | .ifnonnull _ => 3
  | .getfield _ => 3
  | .putfield _ => 3
  | .new _ => 3
  | .anewarray _ => 3
  | .invokestatic _ => 3
  | .invokevirtual _ => 3
  | .invokespecial _ => 3
  | _ => 1
def pwdec (b : ByteArray) (t : pE) : Bool := match e_in t with
  | .tableswitch d lo hi os => decide (decode b (e_pc t) = .ok (.tableswitch d lo hi os, e_y t))
  | .lookupswitch d ps => decide (decode b (e_pc t) = .ok (.lookupswitch d ps, e_y t))
  | ins => decide (decode b (e_pc t) = .ok (ins, ilen ins))
def pwnext (code : List pE) (i : Nat) (t : pE) : Bool := match e_in t with
  | .goto _ => true
  | .ireturn => true
  | .areturn => true
  | .return_ => true
  | .tableswitch _ _ _ _ => true
  | .lookupswitch _ _ => true
  | ins => decide (pcOf code (i + 1) = e_pc t + ilen ins)
def pwint (v : Value) : Bool := match v with
  | .int _ => true
  | _ => false
def pwlong (v : Value) : Bool := match v with
  | .long _ => true
  | _ => false
def pnn (P : List pM) (x y : Nat) : Bool := match P[x]? with
  | some N => decide ((parseMethodDescriptor (m_y N).desc).map (fun d => d.parameters.length) = some y)
  | none => true
def pfok (M : pM) (x y : Nat) (w : Bool) : Bool := match pcls[x]? with
  | some q => decide (y < q.2.2) && (!w || (decide ((q.2.1 y).2.2.2 = false) || (decide (m_k M = 2) && decide ((q.2.1 y).1 = (m_y M).cls))))
  | none => false
def pwarg (P : List pM) (M : pM) (t : pE) : Bool := match e_in t with
  | .iconst n => decide (e_v t = .int (Int32.ofInt n))
  | .bipush n => decide (e_v t = .int (Int8.ofInt n).toInt32)
  | .sipush n => decide (e_v t = .int (Int16.ofInt n).toInt32)
  | .lconst n => decide (e_v t = .long (Int64.ofNat (n : Nat)))
  | .ldc _ => pwint (e_v t)
  | .ldc_w _ => pwint (e_v t)
  | .ldc2_w _ => pwlong (e_v t)
  | .iload n => decide (n = e_x t)
  | .lload n => decide (n = e_x t)
  | .aload n => decide (n = e_x t)
  | .istore n => decide (n = e_x t)
  | .astore n => decide (n = e_x t)
  | .iload_n n => decide ((n : Nat) = e_x t)
  | .lload_n n => decide ((n : Nat) = e_x t)
  | .aload_n n => decide ((n : Nat) = e_x t)
  | .istore_n n => decide ((n : Nat) = e_x t)
  | .astore_n n => decide ((n : Nat) = e_x t)
  | .iinc n _ => decide (n = e_x t)
  | .goto off => decide ((e_pc t : Int) + off = (pcOf (m_code M) (e_x t) : Int))
  | .ifCond _ off => decide ((e_pc t : Int) + off = (pcOf (m_code M) (e_x t) : Int))
  | .if_icmp _ off => decide ((e_pc t : Int) + off = (pcOf (m_code M) (e_x t) : Int))
  | .ifnull off => decide ((e_pc t : Int) + off = (pcOf (m_code M) (e_x t) : Int))
  | .ifnonnull off => decide ((e_pc t : Int) + off = (pcOf (m_code M) (e_x t) : Int))
  | .tableswitch d lo hi os => decide ((e_pc t : Int) + d = (pcOf (m_code M) (e_x t) : Int)) && (decide (hi = lo + ((e_ts t).length : Int) - 1) && decide (os.toList.map (fun z => (e_pc t : Int) + z) = (e_ts t).map (fun z => (pcOf (m_code M) z : Int))))
  | .lookupswitch d ps => decide ((e_pc t : Int) + d = (pcOf (m_code M) (e_x t) : Int)) && ((ps.toList.zip (ps.toList.drop 1)).all (fun (a, next) => a.1 < next.1) && decide (ps.toList.map (fun z => (e_pc t : Int) + z.2) = (e_ts t).map (fun z => (pcOf (m_code M) z : Int))))
  | .getfield _ => pfok M (e_x t) (e_y t) false
  | .putfield _ => pfok M (e_x t) (e_y t) true
  | .newarray a => decide (a = .int)
  | .invokestatic _ => pnn P (e_x t) (e_y t)
  | .invokevirtual _ => pnn P (e_x t) (e_y t)
  | .invokespecial _ => pnn P (e_x t) (e_y t)
  | _ => true
def plk (own : String) (k : Nat) (y : MethodName) (v : Value) : Cond := match v with
  | .null => .methodLink own k y
  | _ => .methodLinkNest own k y "StoneSheets"
def pnlk (own : String) (k x : Nat) : List Cond :=
  if x = 99990 then [.methodLink own k Lib.Math.max.name, .static Lib.Math.max.name, .initialized "java/lang/Math", .code Lib.Math.max.name Lib.Math.max.code 2 (some .int)]
  else if x = 99991 then [.methodLink own k Lib.Math.min.name, .static Lib.Math.min.name, .initialized "java/lang/Math", .code Lib.Math.min.name Lib.Math.min.code 2 (some .int)]
  else if x = 99992 then [.methodLink own k Lib.Math.abs.name, .static Lib.Math.abs.name, .initialized "java/lang/Math", .code Lib.Math.abs.name Lib.Math.abs.code 1 (some .int)]
  else [.methodLink own k arraycopyName, .native arraycopyName, .static arraycopyName, .initialized "java/lang/System"]
/-- the words that an instruction links by -/
def plnk (P : List pM) (own : String) (t : pE) : List Cond := match e_in t with
  | .ldc k => match e_v t with
    | .int v => [.constant own k v]
    | _ => []
  | .ldc_w k => match e_v t with
    | .int v => [.constant own k v]
    | _ => []
  | .ldc2_w k => match e_v t with
    | .long v => [.constantLong own k v]
    | _ => []
  | .getfield k => match pcls[e_x t]? with
    | some q => [.fieldLink own k (q.2.1 (e_y t)).1 (q.2.1 (e_y t)).2.1 (q.2.1 (e_y t)).2.2.1]
    | none => []
  | .putfield k => match pcls[e_x t]? with
    | some q => [.fieldLink own k (q.2.1 (e_y t)).1 (q.2.1 (e_y t)).2.1 (q.2.1 (e_y t)).2.2.1]
    | none => []
  | .new k => match pcls[e_x t]? with
    | some q => [.classLink own k q.1, .instantiable q.1 q.2.2, .initialized q.1]
    | none => []
  | .newarray _ => [.arrayClass .int]
  | .anewarray k => match pcls[e_x t]? with
    | some q => [.classLink own k q.1, .arrayOver (.object q.1)]
    | none => []
  | .invokestatic k => match P[e_x t]? with
    | some N => [plk own k (m_y N) (e_v t)]
    | none => pnlk own k (e_x t)
  | .invokevirtual k => match P[e_x t]? with
    | some N => [.methodLink own k (m_y N)]
    | none => []
  | .invokespecial k => match P[e_x t]? with
    | some N => [plk own k (m_y N) (e_v t)]
    | none => [.methodLink own k Lib.objectInit, .instanceMethod Lib.objectInit, .code Lib.objectInit ⟨#[0xb1]⟩ 1 none]
  | _ => []
def plnks (P : List pM) (M : pM) : List Cond := (m_code M).flatMap (plnk P (m_y M).cls)
/-- the words by which a method is called -/
def pmw (M : pM) : List Cond := match m_k M with
  | 0 => [.code (m_y M) (m_b M) (m_l M) (m_r M), .static (m_y M), .initialized (m_y M).cls]
  | 1 => [.code (m_y M) (m_b M) (m_l M) (m_r M), .instanceMethod (m_y M), .selects (m_y M).cls (m_y M) (m_y M), .initialized (m_y M).cls]
  | _ => [.code (m_y M) (m_b M) (m_l M) (m_r M), .instanceMethod (m_y M), .initialized (m_y M).cls]
def pwAll (P : List pM) (M : pM) : Nat → List pE → Bool
  | _, [] => true
  | i, t :: r => (pwdec (m_b M) t && (pwnext (m_code M) i t && pwarg P M t)) && pwAll P M (i + 1) r
def pmB (M : pM) : Bool := plainName (m_y M).cls && (decide ((m_y M).cls ≠ "java/lang/invoke/MethodHandle") && (decide ((m_y M).cls ≠ "java/lang/invoke/VarHandle") && (decide (m_l M ≤ 21 ∧ pcOf (m_code M) 0 = 0) && (match m_k M with
  | 0 => true
  | 1 => decide ((pcls[m_c M]?).map (fun q => q.1) = some (m_y M).cls)
  | _ => decide (m_k M = 2) && (decide ((m_y M).name = "<init>") && decide (m_r M = none))))))
def pwB (P : List pM) (M : pM) : Bool := pmB M && pwAll P M 0 (m_code M)
def nword (w : Cond) : Bool := match w with
  | .methodLinkNest _ _ _ _ => true
  | .arrayOver (.object _) => true
  | _ => false
def uword (w : Cond) : Bool := goodWord w || nword w
def utbl : List Cond := lw_tbl.filter uword
def gtbl : List Cond := lw_tbl.filter goodWord
theorem in_of {ws : List Cond} {ps : List Nat} (h : ws = ps.filterMap (fun i => lw_tbl[i]?)) (hu : ws.all uword = true) : ∀ w ∈ ws, w ∈ utbl := by
  intro w hw
  refine List.mem_filter.mpr ⟨?_, List.all_eq_true.mp hu w hw⟩
  rw [h] at hw
  obtain ⟨i, -, hi⟩ := List.mem_filterMap.mp hw
  exact List.mem_of_getElem? hi
def WFe (P : List pM) (M : pM) : Prop := pwAll P M 0 (m_code M) = true ∧ ∀ w ∈ plnks P M, w ∈ utbl
def WFm (P : List pM) (M : pM) : Prop := WFe P M ∧ pmB M = true ∧ ∀ w ∈ pmw M, w ∈ utbl
theorem WFm.of {P : List pM} {M : pM} {ps qs : List Nat} (h1 : pwB P M = true) (h2 : plnks P M = ps.filterMap (fun i => lw_tbl[i]?)) (h3 : pmw M = qs.filterMap (fun i => lw_tbl[i]?)) (hu : (plnks P M ++ pmw M).all uword = true) : WFm P M := by
  unfold pwB at h1
  rw [Bool.and_eq_true] at h1
  rw [List.all_append, Bool.and_eq_true] at hu
  exact ⟨⟨h1.2, in_of h2 hu.1⟩, h1.1, in_of h3 hu.2⟩
theorem pwAll_at {P : List pM} {M : pM} : ∀ (l : List pE) (i j : Nat) (t : pE), pwAll P M i l = true → l[j]? = some t → (pwdec (m_b M) t && (pwnext (m_code M) (i + j) t && pwarg P M t)) = true
  | [], i, j, t, _, h => by simp at h
  | u :: r, i, j, t, hw, h => by
    unfold pwAll at hw
    rw [Bool.and_eq_true] at hw
    cases j with
    | zero =>
      rw [List.getElem?_cons_zero] at h
      cases h
      exact hw.1
    | succ j =>
      rw [List.getElem?_cons_succ] at h
      have := pwAll_at r (i + 1) j t hw.2 h
      rw [show i + (j + 1) = i + 1 + j by omega]
      exact this
/-! ===== A POINT OF A RUN, on the machine ===== -/
/-- what the law knew at its entry, of a state that came out of it: the tables' words, the given premises, the low cells -/
def GS (bs : Nat) (U : State) : Prop := ∃ (A : Array Value) (s0 : State), (∀ w ∈ lw_tbl, w.before A s0 = true) ∧ (Jvm.Cond.and given_1 narrow_1).before A s0 = true ∧ s0.WarmedH U.vm ∧ s0.heap.size = bs ∧ ∀ q : Nat, q < bs → U.heap[q]? = s0.heap[q]?
theorem GS.same {bs : Nat} {u U : State} (hv : u.vm = U.vm) (hh : U.heap = u.heap) (hp : GS bs u) : GS bs U := by
  obtain ⟨A, s0, h1, h2, h3, h4, h5⟩ := hp
  exact ⟨A, s0, h1, h2, by rw [← hv]; exact h3, h4, fun q hq => by rw [hh]; exact h5 q hq⟩
theorem GS.warm {bs : Nat} {s U : State} (hW : s.WarmedH U.vm) (hl : ∀ q : Nat, q < bs → U.heap[q]? = s.heap[q]?) (hp : GS bs s) : GS bs U := by
  obtain ⟨A, s0, h1, h2, h3, h4, h5⟩ := hp
  exact ⟨A, s0, h1, h2, h3.trans hW, h4, fun q hq => (hl q hq).trans (h5 q hq)⟩
def Cx (p : Program) (s : State) (m : MethodId) (args : Array Value) (meth : Method) (c : Code) (D : va_G) (X : Nat → Nat) (bs : Nat) (E : pX) (M : pM) : Prop :=
  p.tables.exec = Jvm.exec ∧ c.code = m_b M ∧ c.maxLocals = m_l M ∧ s.vm.findClass (m_y M).cls = some m.cls ∧ (∀ w ∈ utbl, w.before args s = true) ∧ va_K D pcls [] s ∧ (∀ (k : Nat) (x : Nat × (Nat → Int32)), E k = some x → va_X (X k) x.1 x.2 s s.heap ∧ X k < bs) ∧ ((m_k M = 2 → meth.name = "<init>") ∧ GS bs s)
section PWS
variable {p : Program} {l : Launch} {e : Env} {R : Room} {s : State} {m : MethodId} {args : Array Value} {below : List Frame} {meth : Method} {c : Code} {Q : State → Prop} {D : va_G} {X : Nat → Nat} {bs : Nat} {E : pX} {P : List pM} {M : pM}
def PW (p : Program) (l : Launch) (e : Env) (R : Room) (s : State) (m : MethodId) (args : Array Value) (below : List Frame) (meth : Method) (c : Code) (Q : State → Prop) (D : va_G) (X : Nat → Nat) (bs : Nat) (M : pM) (i : Nat) (L : pL) (st : List Value) (h : List pC) (cells slots : Nat) : Prop :=
  ∀ (H : Heap) (locs : List Loc) (ls : Array Slot), Rep D X bs s h H → LH X bs ls (m_l M) L → (∀ q : Nat, q < bs → H[q]? = s.heap[q]?) → (∀ x ∈ locs, bs ≤ x.base) → W p l e R s m args below meth c H locs cells slots Q (F0 m (pcOf (m_code M) i) ls (st.map (emb X bs)))
def SWc (p : Program) (s : State) (m : MethodId) (args : Array Value) (meth : Method) (c : Code) (D : va_G) (X : Nat → Nat) (bs : Nat) (E : pX) (P : List pM) (M : pM) (i : Nat) (t : pE) : Prop :=
  Cx p s m args meth c D X bs E M ∧ (m_code M)[i]? = some t ∧ pwdec (m_b M) t = true ∧ pwnext (m_code M) i t = true ∧ pwarg P M t = true ∧ ∀ w ∈ plnk P (m_y M).cls t, w ∈ utbl
variable {i pc x y : Nat} {v : Value} {ts : List Nat} {L L' : pL} {st st' r : List Value} {h h' : List pC} {cells slots : Nat}
theorem pcOf_at {t : pE} (he : (m_code M)[i]? = some t) : pcOf (m_code M) i = e_pc t := by
  unfold pcOf
  rw [he]
theorem pw_st {len : Nat} (hpc : pcOf (m_code M) i = pc) (hn : pcOf (m_code M) (i + 1) = pc + len) (k : PW p l e R s m args below meth c Q D X bs M (i + 1) L st' h cells slots)
    (row : ∀ (H : Heap) (locs : List Loc) (ls : Array Slot), LH X bs ls (m_l M) L → W p l e R s m args below meth c H locs cells slots Q (F0 m (pc + len) ls (st'.map (emb X bs))) → W p l e R s m args below meth c H locs cells slots Q (F0 m pc ls (st.map (emb X bs)))) : PW p l e R s m args below meth c Q D X bs M i L st h cells slots := by
  intro H locs ls HR HL h1 h2
  rw [hpc]
  refine row H locs ls HL ?_
  rw [← hn]
  exact k H locs ls HR HL h1 h2
theorem pw_sto {len : Nat} {w : Value} (hpc : pcOf (m_code M) i = pc) (hn : pcOf (m_code M) (i + 1) = pc + len) (hp : pset L x w = some L') (k : PW p l e R s m args below meth c Q D X bs M (i + 1) L' st' h cells slots)
    (row : ∀ (H : Heap) (locs : List Loc) (ls : Array Slot), LH X bs ls (m_l M) L → x < m_l M → lv_has ls (m_l M) (pLl X bs L) → (∀ ls' : Array Slot, lv_has ls' (m_l M) ((x, emb X bs w) :: (pLl X bs L).filter (fun q => !(q.1 == x) && !(q.1 + 1 == x && q.2.category == 2))) → W p l e R s m args below meth c H locs cells slots Q (F0 m (pc + len) ls' (st'.map (emb X bs)))) → W p l e R s m args below meth c H locs cells slots Q (F0 m pc ls (st.map (emb X bs)))) : PW p l e R s m args below meth c Q D X bs M i L st h cells slots := by
  intro H locs ls HR HL h1 h2
  rw [hpc]
  refine row H locs ls HL (by have := pset_lt hp; rw [HL.2.1] at this; exact this) HL.has (fun ls' hl => ?_)
  rw [← hn]
  exact k H locs ls' HR (LH.of HL.2.1 hp hl) h1 h2
theorem pw_j {j tgt : Nat} (hpc : pcOf (m_code M) i = pc) (hj : pcOf (m_code M) j = tgt) (k : PW p l e R s m args below meth c Q D X bs M j L st' h cells slots)
    (row : ∀ (H : Heap) (locs : List Loc) (ls : Array Slot), W p l e R s m args below meth c H locs cells slots Q (F0 m tgt ls (st'.map (emb X bs))) → W p l e R s m args below meth c H locs cells slots Q (F0 m pc ls (st.map (emb X bs)))) : PW p l e R s m args below meth c Q D X bs M i L st h cells slots := by
  intro H locs ls HR HL h1 h2
  rw [hpc]
  refine row H locs ls ?_
  rw [← hj]
  exact k H locs ls HR HL h1 h2

theorem sw_iconst {n : Int} (B : SWc p s m args meth c D X bs E P M i (pc, .iconst n, x, y, v, ts)) (k : PW p l e R s m args below meth c Q D X bs M (i + 1) L (v :: st) h cells slots) : PW p l e R s m args below meth c Q D X bs M i L (st) h cells slots := by
  obtain ⟨C, he, hd0, hn0, ha0, hl⟩ := B
  have hd : decode (m_b M) pc = .ok (.iconst n, 1) := of_decide_eq_true hd0
  have hn : pcOf (m_code M) (i + 1) = pc + 1 := of_decide_eq_true hn0
  have ha : v = .int (Int32.ofInt n) := of_decide_eq_true ha0
  subst ha
  exact pw_st (pcOf_at he) hn k (fun H locs ls HL w => lv_iconst C.1 C.2.1 hd rfl w)
theorem sw_bipush {n : Int} (B : SWc p s m args meth c D X bs E P M i (pc, .bipush n, x, y, v, ts)) (k : PW p l e R s m args below meth c Q D X bs M (i + 1) L (v :: st) h cells slots) : PW p l e R s m args below meth c Q D X bs M i L (st) h cells slots := by
  obtain ⟨C, he, hd0, hn0, ha0, hl⟩ := B
  have hd : decode (m_b M) pc = .ok (.bipush n, 2) := of_decide_eq_true hd0
  have hn : pcOf (m_code M) (i + 1) = pc + 2 := of_decide_eq_true hn0
  have ha : v = .int (Int8.ofInt n).toInt32 := of_decide_eq_true ha0
  subst ha
  exact pw_st (pcOf_at he) hn k (fun H locs ls HL w => lv_bipush C.1 C.2.1 hd rfl w)
theorem sw_sipush {n : Int} (B : SWc p s m args meth c D X bs E P M i (pc, .sipush n, x, y, v, ts)) (k : PW p l e R s m args below meth c Q D X bs M (i + 1) L (v :: st) h cells slots) : PW p l e R s m args below meth c Q D X bs M i L (st) h cells slots := by
  obtain ⟨C, he, hd0, hn0, ha0, hl⟩ := B
  have hd : decode (m_b M) pc = .ok (.sipush n, 3) := of_decide_eq_true hd0
  have hn : pcOf (m_code M) (i + 1) = pc + 3 := of_decide_eq_true hn0
  have ha : v = .int (Int16.ofInt n).toInt32 := of_decide_eq_true ha0
  subst ha
  exact pw_st (pcOf_at he) hn k (fun H locs ls HL w => lv_sipush C.1 C.2.1 hd rfl w)
theorem sw_lconst {n : Fin 2} (B : SWc p s m args meth c D X bs E P M i (pc, .lconst n, x, y, v, ts)) (k : PW p l e R s m args below meth c Q D X bs M (i + 1) L (v :: st) h cells slots) : PW p l e R s m args below meth c Q D X bs M i L (st) h cells slots := by
  obtain ⟨C, he, hd0, hn0, ha0, hl⟩ := B
  have hd : decode (m_b M) pc = .ok (.lconst n, 1) := of_decide_eq_true hd0
  have hn : pcOf (m_code M) (i + 1) = pc + 1 := of_decide_eq_true hn0
  have ha : v = .long (Int64.ofNat (n : Nat)) := of_decide_eq_true ha0
  subst ha
  exact pw_st (pcOf_at he) hn k (fun H locs ls HL w => lv_lconst C.1 C.2.1 hd rfl w)
theorem sw_ldc {n : Nat} (B : SWc p s m args meth c D X bs E P M i (pc, .ldc n, x, y, v, ts)) (k : PW p l e R s m args below meth c Q D X bs M (i + 1) L (v :: st) h cells slots) : PW p l e R s m args below meth c Q D X bs M i L (st) h cells slots := by
  obtain ⟨C, he, hd0, hn0, ha0, hl⟩ := B
  have hd : decode (m_b M) pc = .ok (.ldc n, 2) := of_decide_eq_true hd0
  have hn : pcOf (m_code M) (i + 1) = pc + 2 := of_decide_eq_true hn0
  have ha : pwint v = true := ha0
  cases v <;> try (cases ha; done)
  rename_i z
  have hc : (Jvm.Cond.constant (m_y M).cls n z).before args s = true := C.2.2.2.2.1 _ (hl _ List.mem_cons_self)
  exact pw_st (pcOf_at he) hn k (fun H locs ls HL w => lv_ldc C.1 C.2.1 C.2.2.2.1 hc hd w)
theorem sw_ldc_w {n : Nat} (B : SWc p s m args meth c D X bs E P M i (pc, .ldc_w n, x, y, v, ts)) (k : PW p l e R s m args below meth c Q D X bs M (i + 1) L (v :: st) h cells slots) : PW p l e R s m args below meth c Q D X bs M i L (st) h cells slots := by
  obtain ⟨C, he, hd0, hn0, ha0, hl⟩ := B
  have hd : decode (m_b M) pc = .ok (.ldc_w n, 3) := of_decide_eq_true hd0
  have hn : pcOf (m_code M) (i + 1) = pc + 3 := of_decide_eq_true hn0
  have ha : pwint v = true := ha0
  cases v <;> try (cases ha; done)
  rename_i z
  have hc : (Jvm.Cond.constant (m_y M).cls n z).before args s = true := C.2.2.2.2.1 _ (hl _ List.mem_cons_self)
  exact pw_st (pcOf_at he) hn k (fun H locs ls HL w => lv_ldcw C.1 C.2.1 C.2.2.2.1 hc hd w)
theorem sw_ldc2_w {n : Nat} (B : SWc p s m args meth c D X bs E P M i (pc, .ldc2_w n, x, y, v, ts)) (k : PW p l e R s m args below meth c Q D X bs M (i + 1) L (v :: st) h cells slots) : PW p l e R s m args below meth c Q D X bs M i L (st) h cells slots := by
  obtain ⟨C, he, hd0, hn0, ha0, hl⟩ := B
  have hd : decode (m_b M) pc = .ok (.ldc2_w n, 3) := of_decide_eq_true hd0
  have hn : pcOf (m_code M) (i + 1) = pc + 3 := of_decide_eq_true hn0
  have ha : pwlong v = true := ha0
  cases v <;> try (cases ha; done)
  rename_i z
  have hc : (Jvm.Cond.constantLong (m_y M).cls n z).before args s = true := C.2.2.2.2.1 _ (hl _ List.mem_cons_self)
  exact pw_st (pcOf_at he) hn k (fun H locs ls HL w => lv_ldc2 C.1 C.2.1 C.2.2.2.1 hc hd w)
theorem sw_aconst_null  (B : SWc p s m args meth c D X bs E P M i (pc, .aconst_null, x, y, v, ts))  (k : PW p l e R s m args below meth c Q D X bs M (i + 1) L (.null :: st) h cells slots) : PW p l e R s m args below meth c Q D X bs M i L (st) h cells slots := by
  obtain ⟨C, he, hd0, hn0, ha0, hl⟩ := B
  have hd : decode (m_b M) pc = .ok (.aconst_null, 1) := of_decide_eq_true hd0
  have hn : pcOf (m_code M) (i + 1) = pc + 1 := of_decide_eq_true hn0
  exact pw_st (pcOf_at he) hn k (fun H locs ls HL w => lv_null C.1 C.2.1 hd w)
theorem sw_iload {n : Nat} {a : Int32} (B : SWc p s m args meth c D X bs E P M i (pc, .iload n, x, y, v, ts)) (hv : pget L x = some (.int a)) (k : PW p l e R s m args below meth c Q D X bs M (i + 1) L (.int a :: st) h cells slots) : PW p l e R s m args below meth c Q D X bs M i L (st) h cells slots := by
  obtain ⟨C, he, hd0, hn0, ha0, hl⟩ := B
  have hd : decode (m_b M) pc = .ok (.iload n, 2) := of_decide_eq_true hd0
  have hn : pcOf (m_code M) (i + 1) = pc + 2 := of_decide_eq_true hn0
  have ha : n = x := of_decide_eq_true ha0
  subst ha
  exact pw_st (pcOf_at he) hn k (fun H locs ls HL w => lv_iload C.1 C.2.1 hd (HL.2.2 _ _ hv) w)
theorem sw_iload_n {n : Fin 4} {a : Int32} (B : SWc p s m args meth c D X bs E P M i (pc, .iload_n n, x, y, v, ts)) (hv : pget L x = some (.int a)) (k : PW p l e R s m args below meth c Q D X bs M (i + 1) L (.int a :: st) h cells slots) : PW p l e R s m args below meth c Q D X bs M i L (st) h cells slots := by
  obtain ⟨C, he, hd0, hn0, ha0, hl⟩ := B
  have hd : decode (m_b M) pc = .ok (.iload_n n, 1) := of_decide_eq_true hd0
  have hn : pcOf (m_code M) (i + 1) = pc + 1 := of_decide_eq_true hn0
  have ha : (n : Nat) = x := of_decide_eq_true ha0
  exact pw_st (pcOf_at he) hn k (fun H locs ls HL w => lv_iload_n C.1 C.2.1 hd ha (HL.2.2 _ _ hv) w)
theorem sw_lload {n : Nat} {a : Int64} (B : SWc p s m args meth c D X bs E P M i (pc, .lload n, x, y, v, ts)) (hv : pget L x = some (.long a)) (k : PW p l e R s m args below meth c Q D X bs M (i + 1) L (.long a :: st) h cells slots) : PW p l e R s m args below meth c Q D X bs M i L (st) h cells slots := by
  obtain ⟨C, he, hd0, hn0, ha0, hl⟩ := B
  have hd : decode (m_b M) pc = .ok (.lload n, 2) := of_decide_eq_true hd0
  have hn : pcOf (m_code M) (i + 1) = pc + 2 := of_decide_eq_true hn0
  have ha : n = x := of_decide_eq_true ha0
  subst ha
  exact pw_st (pcOf_at he) hn k (fun H locs ls HL w => lv_lload C.1 C.2.1 hd (HL.2.2 _ _ hv) w)
theorem sw_lload_n {n : Fin 4} {a : Int64} (B : SWc p s m args meth c D X bs E P M i (pc, .lload_n n, x, y, v, ts)) (hv : pget L x = some (.long a)) (k : PW p l e R s m args below meth c Q D X bs M (i + 1) L (.long a :: st) h cells slots) : PW p l e R s m args below meth c Q D X bs M i L (st) h cells slots := by
  obtain ⟨C, he, hd0, hn0, ha0, hl⟩ := B
  have hd : decode (m_b M) pc = .ok (.lload_n n, 1) := of_decide_eq_true hd0
  have hn : pcOf (m_code M) (i + 1) = pc + 1 := of_decide_eq_true hn0
  have ha : (n : Nat) = x := of_decide_eq_true ha0
  exact pw_st (pcOf_at he) hn k (fun H locs ls HL w => lv_lload_n C.1 C.2.1 hd ha (HL.2.2 _ _ hv) w)
theorem sw_aload {n : Nat} {a : Nat} (B : SWc p s m args meth c D X bs E P M i (pc, .aload n, x, y, v, ts)) (hv : pget L x = some (.ref a)) (k : PW p l e R s m args below meth c Q D X bs M (i + 1) L (.ref a :: st) h cells slots) : PW p l e R s m args below meth c Q D X bs M i L (st) h cells slots := by
  obtain ⟨C, he, hd0, hn0, ha0, hl⟩ := B
  have hd : decode (m_b M) pc = .ok (.aload n, 2) := of_decide_eq_true hd0
  have hn : pcOf (m_code M) (i + 1) = pc + 2 := of_decide_eq_true hn0
  have ha : n = x := of_decide_eq_true ha0
  subst ha
  exact pw_st (pcOf_at he) hn k (fun H locs ls HL w => lv_aload C.1 C.2.1 hd (HL.2.2 _ _ hv) w)
theorem sw_aload_n {n : Fin 4} {a : Nat} (B : SWc p s m args meth c D X bs E P M i (pc, .aload_n n, x, y, v, ts)) (hv : pget L x = some (.ref a)) (k : PW p l e R s m args below meth c Q D X bs M (i + 1) L (.ref a :: st) h cells slots) : PW p l e R s m args below meth c Q D X bs M i L (st) h cells slots := by
  obtain ⟨C, he, hd0, hn0, ha0, hl⟩ := B
  have hd : decode (m_b M) pc = .ok (.aload_n n, 1) := of_decide_eq_true hd0
  have hn : pcOf (m_code M) (i + 1) = pc + 1 := of_decide_eq_true hn0
  have ha : (n : Nat) = x := of_decide_eq_true ha0
  exact pw_st (pcOf_at he) hn k (fun H locs ls HL w => lv_aload_n C.1 C.2.1 hd ha (HL.2.2 _ _ hv) w)
theorem sw_aloadN {n : Nat}  (B : SWc p s m args meth c D X bs E P M i (pc, .aload n, x, y, v, ts)) (hv : pget L x = some (.null)) (k : PW p l e R s m args below meth c Q D X bs M (i + 1) L (.null :: st) h cells slots) : PW p l e R s m args below meth c Q D X bs M i L (st) h cells slots := by
  obtain ⟨C, he, hd0, hn0, ha0, hl⟩ := B
  have hd : decode (m_b M) pc = .ok (.aload n, 2) := of_decide_eq_true hd0
  have hn : pcOf (m_code M) (i + 1) = pc + 2 := of_decide_eq_true hn0
  have ha : n = x := of_decide_eq_true ha0
  subst ha
  exact pw_st (pcOf_at he) hn k (fun H locs ls HL w => lv_aloadN C.1 C.2.1 hd (HL.2.2 _ _ hv) w)
theorem sw_aload_nN {n : Fin 4}  (B : SWc p s m args meth c D X bs E P M i (pc, .aload_n n, x, y, v, ts)) (hv : pget L x = some (.null)) (k : PW p l e R s m args below meth c Q D X bs M (i + 1) L (.null :: st) h cells slots) : PW p l e R s m args below meth c Q D X bs M i L (st) h cells slots := by
  obtain ⟨C, he, hd0, hn0, ha0, hl⟩ := B
  have hd : decode (m_b M) pc = .ok (.aload_n n, 1) := of_decide_eq_true hd0
  have hn : pcOf (m_code M) (i + 1) = pc + 1 := of_decide_eq_true hn0
  have ha : (n : Nat) = x := of_decide_eq_true ha0
  exact pw_st (pcOf_at he) hn k (fun H locs ls HL w => lv_aload_nN C.1 C.2.1 hd ha (HL.2.2 _ _ hv) w)
theorem sw_aloadX {n : Nat} {a : Nat} (B : SWc p s m args meth c D X bs E P M i (pc, .aload n, x, y, v, ts)) (hv : pget L x = some (.retAddr a)) (k : PW p l e R s m args below meth c Q D X bs M (i + 1) L (.retAddr a :: st) h cells slots) : PW p l e R s m args below meth c Q D X bs M i L (st) h cells slots := by
  obtain ⟨C, he, hd0, hn0, ha0, hl⟩ := B
  have hd : decode (m_b M) pc = .ok (.aload n, 2) := of_decide_eq_true hd0
  have hn : pcOf (m_code M) (i + 1) = pc + 2 := of_decide_eq_true hn0
  have ha : n = x := of_decide_eq_true ha0
  subst ha
  exact pw_st (pcOf_at he) hn k (fun H locs ls HL w => lv_aload C.1 C.2.1 hd (HL.2.2 _ _ hv) w)
theorem sw_aload_nX {n : Fin 4} {a : Nat} (B : SWc p s m args meth c D X bs E P M i (pc, .aload_n n, x, y, v, ts)) (hv : pget L x = some (.retAddr a)) (k : PW p l e R s m args below meth c Q D X bs M (i + 1) L (.retAddr a :: st) h cells slots) : PW p l e R s m args below meth c Q D X bs M i L (st) h cells slots := by
  obtain ⟨C, he, hd0, hn0, ha0, hl⟩ := B
  have hd : decode (m_b M) pc = .ok (.aload_n n, 1) := of_decide_eq_true hd0
  have hn : pcOf (m_code M) (i + 1) = pc + 1 := of_decide_eq_true hn0
  have ha : (n : Nat) = x := of_decide_eq_true ha0
  exact pw_st (pcOf_at he) hn k (fun H locs ls HL w => lv_aload_n C.1 C.2.1 hd ha (HL.2.2 _ _ hv) w)
theorem sw_istore {n : Nat} {a : Int32} (B : SWc p s m args meth c D X bs E P M i (pc, .istore n, x, y, v, ts)) (hp : pset L x (.int a) = some L') (k : PW p l e R s m args below meth c Q D X bs M (i + 1) L' (r) h cells slots) : PW p l e R s m args below meth c Q D X bs M i L (.int a :: r) h cells slots := by
  obtain ⟨C, he, hd0, hn0, ha0, hl⟩ := B
  have hd : decode (m_b M) pc = .ok (.istore n, 2) := of_decide_eq_true hd0
  have hn : pcOf (m_code M) (i + 1) = pc + 2 := of_decide_eq_true hn0
  have ha : n = x := of_decide_eq_true ha0
  subst ha
  exact pw_sto (pcOf_at he) hn hp k (fun H locs ls HL hlt hl kk => lv_istore C.1 C.2.1 hd hl hlt rfl kk)
theorem sw_istore_n {n : Fin 4} {a : Int32} (B : SWc p s m args meth c D X bs E P M i (pc, .istore_n n, x, y, v, ts)) (hp : pset L x (.int a) = some L') (k : PW p l e R s m args below meth c Q D X bs M (i + 1) L' (r) h cells slots) : PW p l e R s m args below meth c Q D X bs M i L (.int a :: r) h cells slots := by
  obtain ⟨C, he, hd0, hn0, ha0, hl⟩ := B
  have hd : decode (m_b M) pc = .ok (.istore_n n, 1) := of_decide_eq_true hd0
  have hn : pcOf (m_code M) (i + 1) = pc + 1 := of_decide_eq_true hn0
  have ha : (n : Nat) = x := of_decide_eq_true ha0
  exact pw_sto (pcOf_at he) hn hp k (fun H locs ls HL hlt hl kk => lv_istore_n C.1 C.2.1 hd ha hl hlt rfl kk)
theorem sw_astore {n : Nat} {a : Nat} (B : SWc p s m args meth c D X bs E P M i (pc, .astore n, x, y, v, ts)) (hp : pset L x (.ref a) = some L') (k : PW p l e R s m args below meth c Q D X bs M (i + 1) L' (r) h cells slots) : PW p l e R s m args below meth c Q D X bs M i L (.ref a :: r) h cells slots := by
  obtain ⟨C, he, hd0, hn0, ha0, hl⟩ := B
  have hd : decode (m_b M) pc = .ok (.astore n, 2) := of_decide_eq_true hd0
  have hn : pcOf (m_code M) (i + 1) = pc + 2 := of_decide_eq_true hn0
  have ha : n = x := of_decide_eq_true ha0
  subst ha
  exact pw_sto (pcOf_at he) hn hp k (fun H locs ls HL hlt hl kk => lv_astore C.1 C.2.1 hd hl hlt rfl kk)
theorem sw_astore_n {n : Fin 4} {a : Nat} (B : SWc p s m args meth c D X bs E P M i (pc, .astore_n n, x, y, v, ts)) (hp : pset L x (.ref a) = some L') (k : PW p l e R s m args below meth c Q D X bs M (i + 1) L' (r) h cells slots) : PW p l e R s m args below meth c Q D X bs M i L (.ref a :: r) h cells slots := by
  obtain ⟨C, he, hd0, hn0, ha0, hl⟩ := B
  have hd : decode (m_b M) pc = .ok (.astore_n n, 1) := of_decide_eq_true hd0
  have hn : pcOf (m_code M) (i + 1) = pc + 1 := of_decide_eq_true hn0
  have ha : (n : Nat) = x := of_decide_eq_true ha0
  exact pw_sto (pcOf_at he) hn hp k (fun H locs ls HL hlt hl kk => lv_astore_n C.1 C.2.1 hd ha hl hlt rfl kk)
theorem sw_astoreN {n : Nat}  (B : SWc p s m args meth c D X bs E P M i (pc, .astore n, x, y, v, ts)) (hp : pset L x (.null) = some L') (k : PW p l e R s m args below meth c Q D X bs M (i + 1) L' (r) h cells slots) : PW p l e R s m args below meth c Q D X bs M i L (.null :: r) h cells slots := by
  obtain ⟨C, he, hd0, hn0, ha0, hl⟩ := B
  have hd : decode (m_b M) pc = .ok (.astore n, 2) := of_decide_eq_true hd0
  have hn : pcOf (m_code M) (i + 1) = pc + 2 := of_decide_eq_true hn0
  have ha : n = x := of_decide_eq_true ha0
  subst ha
  exact pw_sto (pcOf_at he) hn hp k (fun H locs ls HL hlt hl kk => lv_astoreN C.1 C.2.1 hd hl hlt rfl kk)
theorem sw_astore_nN {n : Fin 4}  (B : SWc p s m args meth c D X bs E P M i (pc, .astore_n n, x, y, v, ts)) (hp : pset L x (.null) = some L') (k : PW p l e R s m args below meth c Q D X bs M (i + 1) L' (r) h cells slots) : PW p l e R s m args below meth c Q D X bs M i L (.null :: r) h cells slots := by
  obtain ⟨C, he, hd0, hn0, ha0, hl⟩ := B
  have hd : decode (m_b M) pc = .ok (.astore_n n, 1) := of_decide_eq_true hd0
  have hn : pcOf (m_code M) (i + 1) = pc + 1 := of_decide_eq_true hn0
  have ha : (n : Nat) = x := of_decide_eq_true ha0
  exact pw_sto (pcOf_at he) hn hp k (fun H locs ls HL hlt hl kk => lv_astore_nN C.1 C.2.1 hd ha hl hlt rfl kk)
theorem sw_iinc {n : Nat} {z : Int} {a : Int32} (B : SWc p s m args meth c D X bs E P M i (pc, .iinc n z, x, y, v, ts)) (hv : pget L x = some (.int a)) (hp : pset L x (.int (a + Int32.ofInt z)) = some L') (k : PW p l e R s m args below meth c Q D X bs M (i + 1) L' (st) h cells slots) : PW p l e R s m args below meth c Q D X bs M i L (st) h cells slots := by
  obtain ⟨C, he, hd0, hn0, ha0, hl⟩ := B
  have hd : decode (m_b M) pc = .ok (.iinc n z, 3) := of_decide_eq_true hd0
  have hn : pcOf (m_code M) (i + 1) = pc + 3 := of_decide_eq_true hn0
  have ha : n = x := of_decide_eq_true ha0
  subst ha
  obtain ⟨q, hq⟩ := List.getElem?_of_mem (pLl_mem (X := X) (bs := bs) hv)
  exact pw_sto (pcOf_at he) hn hp k (fun H locs ls HL hlt hl kk => lv_iinc C.1 C.2.1 hd hl (k := q) hq rfl hlt rfl kk)
theorem sw_iadd {a b : Int32} (B : SWc p s m args meth c D X bs E P M i (pc, .iadd, x, y, v, ts))  (k : PW p l e R s m args below meth c Q D X bs M (i + 1) L (.int (a + b) :: r) h cells slots) : PW p l e R s m args below meth c Q D X bs M i L (.int b :: .int a :: r) h cells slots := by
  obtain ⟨C, he, hd0, hn0, ha0, hl⟩ := B
  have hd : decode (m_b M) pc = .ok (.iadd, 1) := of_decide_eq_true hd0
  have hn : pcOf (m_code M) (i + 1) = pc + 1 := of_decide_eq_true hn0
  exact pw_st (pcOf_at he) hn k (fun H locs ls HL w => lv_iadd C.1 C.2.1 hd w)
theorem sw_isub {a b : Int32} (B : SWc p s m args meth c D X bs E P M i (pc, .isub, x, y, v, ts))  (k : PW p l e R s m args below meth c Q D X bs M (i + 1) L (.int (a - b) :: r) h cells slots) : PW p l e R s m args below meth c Q D X bs M i L (.int b :: .int a :: r) h cells slots := by
  obtain ⟨C, he, hd0, hn0, ha0, hl⟩ := B
  have hd : decode (m_b M) pc = .ok (.isub, 1) := of_decide_eq_true hd0
  have hn : pcOf (m_code M) (i + 1) = pc + 1 := of_decide_eq_true hn0
  exact pw_st (pcOf_at he) hn k (fun H locs ls HL w => lv_isub C.1 C.2.1 hd w)
theorem sw_imul {a b : Int32} (B : SWc p s m args meth c D X bs E P M i (pc, .imul, x, y, v, ts))  (k : PW p l e R s m args below meth c Q D X bs M (i + 1) L (.int (a * b) :: r) h cells slots) : PW p l e R s m args below meth c Q D X bs M i L (.int b :: .int a :: r) h cells slots := by
  obtain ⟨C, he, hd0, hn0, ha0, hl⟩ := B
  have hd : decode (m_b M) pc = .ok (.imul, 1) := of_decide_eq_true hd0
  have hn : pcOf (m_code M) (i + 1) = pc + 1 := of_decide_eq_true hn0
  exact pw_st (pcOf_at he) hn k (fun H locs ls HL w => lv_imul C.1 C.2.1 hd w)
theorem sw_iand {a b : Int32} (B : SWc p s m args meth c D X bs E P M i (pc, .iand, x, y, v, ts))  (k : PW p l e R s m args below meth c Q D X bs M (i + 1) L (.int (a &&& b) :: r) h cells slots) : PW p l e R s m args below meth c Q D X bs M i L (.int b :: .int a :: r) h cells slots := by
  obtain ⟨C, he, hd0, hn0, ha0, hl⟩ := B
  have hd : decode (m_b M) pc = .ok (.iand, 1) := of_decide_eq_true hd0
  have hn : pcOf (m_code M) (i + 1) = pc + 1 := of_decide_eq_true hn0
  exact pw_st (pcOf_at he) hn k (fun H locs ls HL w => lv_iand C.1 C.2.1 hd w)
theorem sw_ior {a b : Int32} (B : SWc p s m args meth c D X bs E P M i (pc, .ior, x, y, v, ts))  (k : PW p l e R s m args below meth c Q D X bs M (i + 1) L (.int (a ||| b) :: r) h cells slots) : PW p l e R s m args below meth c Q D X bs M i L (.int b :: .int a :: r) h cells slots := by
  obtain ⟨C, he, hd0, hn0, ha0, hl⟩ := B
  have hd : decode (m_b M) pc = .ok (.ior, 1) := of_decide_eq_true hd0
  have hn : pcOf (m_code M) (i + 1) = pc + 1 := of_decide_eq_true hn0
  exact pw_st (pcOf_at he) hn k (fun H locs ls HL w => lv_ior C.1 C.2.1 hd w)
theorem sw_ixor {a b : Int32} (B : SWc p s m args meth c D X bs E P M i (pc, .ixor, x, y, v, ts))  (k : PW p l e R s m args below meth c Q D X bs M (i + 1) L (.int (a ^^^ b) :: r) h cells slots) : PW p l e R s m args below meth c Q D X bs M i L (.int b :: .int a :: r) h cells slots := by
  obtain ⟨C, he, hd0, hn0, ha0, hl⟩ := B
  have hd : decode (m_b M) pc = .ok (.ixor, 1) := of_decide_eq_true hd0
  have hn : pcOf (m_code M) (i + 1) = pc + 1 := of_decide_eq_true hn0
  exact pw_st (pcOf_at he) hn k (fun H locs ls HL w => lv_ixor C.1 C.2.1 hd w)
theorem sw_ishl {a b : Int32} (B : SWc p s m args meth c D X bs E P M i (pc, .ishl, x, y, v, ts))  (k : PW p l e R s m args below meth c Q D X bs M (i + 1) L (.int (a <<< (b &&& 31)) :: r) h cells slots) : PW p l e R s m args below meth c Q D X bs M i L (.int b :: .int a :: r) h cells slots := by
  obtain ⟨C, he, hd0, hn0, ha0, hl⟩ := B
  have hd : decode (m_b M) pc = .ok (.ishl, 1) := of_decide_eq_true hd0
  have hn : pcOf (m_code M) (i + 1) = pc + 1 := of_decide_eq_true hn0
  exact pw_st (pcOf_at he) hn k (fun H locs ls HL w => lv_ishl C.1 C.2.1 hd w)
theorem sw_ishr {a b : Int32} (B : SWc p s m args meth c D X bs E P M i (pc, .ishr, x, y, v, ts))  (k : PW p l e R s m args below meth c Q D X bs M (i + 1) L (.int (a >>> (b &&& 31)) :: r) h cells slots) : PW p l e R s m args below meth c Q D X bs M i L (.int b :: .int a :: r) h cells slots := by
  obtain ⟨C, he, hd0, hn0, ha0, hl⟩ := B
  have hd : decode (m_b M) pc = .ok (.ishr, 1) := of_decide_eq_true hd0
  have hn : pcOf (m_code M) (i + 1) = pc + 1 := of_decide_eq_true hn0
  exact pw_st (pcOf_at he) hn k (fun H locs ls HL w => lv_ishr C.1 C.2.1 hd w)
theorem sw_iushr {a b : Int32} (B : SWc p s m args meth c D X bs E P M i (pc, .iushr, x, y, v, ts))  (k : PW p l e R s m args below meth c Q D X bs M (i + 1) L (.int (a.toUInt32 >>> (b.toUInt32 &&& Int32.toUInt32 31)).toInt32 :: r) h cells slots) : PW p l e R s m args below meth c Q D X bs M i L (.int b :: .int a :: r) h cells slots := by
  obtain ⟨C, he, hd0, hn0, ha0, hl⟩ := B
  have hd : decode (m_b M) pc = .ok (.iushr, 1) := of_decide_eq_true hd0
  have hn : pcOf (m_code M) (i + 1) = pc + 1 := of_decide_eq_true hn0
  exact pw_st (pcOf_at he) hn k (fun H locs ls HL w => lv_iushr C.1 C.2.1 hd rfl w)
theorem sw_idiv {a b : Int32} (B : SWc p s m args meth c D X bs E P M i (pc, .idiv, x, y, v, ts)) (h0 : ¬ b = 0) (k : PW p l e R s m args below meth c Q D X bs M (i + 1) L (.int (a / b) :: r) h cells slots) : PW p l e R s m args below meth c Q D X bs M i L (.int b :: .int a :: r) h cells slots := by
  obtain ⟨C, he, hd0, hn0, ha0, hl⟩ := B
  have hd : decode (m_b M) pc = .ok (.idiv, 1) := of_decide_eq_true hd0
  have hn : pcOf (m_code M) (i + 1) = pc + 1 := of_decide_eq_true hn0
  exact pw_st (pcOf_at he) hn k (fun H locs ls HL w => lv_idiv C.1 C.2.1 hd h0 w)
theorem sw_irem {a b : Int32} (B : SWc p s m args meth c D X bs E P M i (pc, .irem, x, y, v, ts)) (h0 : ¬ b = 0) (k : PW p l e R s m args below meth c Q D X bs M (i + 1) L (.int (a - a / b * b) :: r) h cells slots) : PW p l e R s m args below meth c Q D X bs M i L (.int b :: .int a :: r) h cells slots := by
  obtain ⟨C, he, hd0, hn0, ha0, hl⟩ := B
  have hd : decode (m_b M) pc = .ok (.irem, 1) := of_decide_eq_true hd0
  have hn : pcOf (m_code M) (i + 1) = pc + 1 := of_decide_eq_true hn0
  exact pw_st (pcOf_at he) hn k (fun H locs ls HL w => lv_irem C.1 C.2.1 hd h0 w)
theorem sw_ineg {a : Int32} (B : SWc p s m args meth c D X bs E P M i (pc, .ineg, x, y, v, ts))  (k : PW p l e R s m args below meth c Q D X bs M (i + 1) L (.int (-a) :: r) h cells slots) : PW p l e R s m args below meth c Q D X bs M i L (.int a :: r) h cells slots := by
  obtain ⟨C, he, hd0, hn0, ha0, hl⟩ := B
  have hd : decode (m_b M) pc = .ok (.ineg, 1) := of_decide_eq_true hd0
  have hn : pcOf (m_code M) (i + 1) = pc + 1 := of_decide_eq_true hn0
  exact pw_st (pcOf_at he) hn k (fun H locs ls HL w => lv_ineg C.1 C.2.1 hd w)
theorem sw_i2l {a : Int32} (B : SWc p s m args meth c D X bs E P M i (pc, .i2l, x, y, v, ts))  (k : PW p l e R s m args below meth c Q D X bs M (i + 1) L (.long a.toInt64 :: r) h cells slots) : PW p l e R s m args below meth c Q D X bs M i L (.int a :: r) h cells slots := by
  obtain ⟨C, he, hd0, hn0, ha0, hl⟩ := B
  have hd : decode (m_b M) pc = .ok (.i2l, 1) := of_decide_eq_true hd0
  have hn : pcOf (m_code M) (i + 1) = pc + 1 := of_decide_eq_true hn0
  exact pw_st (pcOf_at he) hn k (fun H locs ls HL w => lv_i2l C.1 C.2.1 hd rfl w)
theorem sw_i2s {a : Int32} (B : SWc p s m args meth c D X bs E P M i (pc, .i2s, x, y, v, ts))  (k : PW p l e R s m args below meth c Q D X bs M (i + 1) L (.int a.toInt16.toInt32 :: r) h cells slots) : PW p l e R s m args below meth c Q D X bs M i L (.int a :: r) h cells slots := by
  obtain ⟨C, he, hd0, hn0, ha0, hl⟩ := B
  have hd : decode (m_b M) pc = .ok (.i2s, 1) := of_decide_eq_true hd0
  have hn : pcOf (m_code M) (i + 1) = pc + 1 := of_decide_eq_true hn0
  exact pw_st (pcOf_at he) hn k (fun H locs ls HL w => lv_i2s C.1 C.2.1 hd rfl w)
theorem sw_i2c {a : Int32} (B : SWc p s m args meth c D X bs E P M i (pc, .i2c, x, y, v, ts))  (k : PW p l e R s m args below meth c Q D X bs M (i + 1) L (.int (a.toUInt32 % 65536).toInt32 :: r) h cells slots) : PW p l e R s m args below meth c Q D X bs M i L (.int a :: r) h cells slots := by
  obtain ⟨C, he, hd0, hn0, ha0, hl⟩ := B
  have hd : decode (m_b M) pc = .ok (.i2c, 1) := of_decide_eq_true hd0
  have hn : pcOf (m_code M) (i + 1) = pc + 1 := of_decide_eq_true hn0
  exact pw_st (pcOf_at he) hn k (fun H locs ls HL w => lv_i2c C.1 C.2.1 hd rfl w)
theorem sw_ladd {a b : Int64} (B : SWc p s m args meth c D X bs E P M i (pc, .ladd, x, y, v, ts))  (k : PW p l e R s m args below meth c Q D X bs M (i + 1) L (.long (a + b) :: r) h cells slots) : PW p l e R s m args below meth c Q D X bs M i L (.long b :: .long a :: r) h cells slots := by
  obtain ⟨C, he, hd0, hn0, ha0, hl⟩ := B
  have hd : decode (m_b M) pc = .ok (.ladd, 1) := of_decide_eq_true hd0
  have hn : pcOf (m_code M) (i + 1) = pc + 1 := of_decide_eq_true hn0
  exact pw_st (pcOf_at he) hn k (fun H locs ls HL w => lv_ladd C.1 C.2.1 hd w)
theorem sw_lcmp {a b : Int64} (B : SWc p s m args meth c D X bs E P M i (pc, .lcmp, x, y, v, ts))  (k : PW p l e R s m args below meth c Q D X bs M (i + 1) L (.int (lg_cmp a b) :: r) h cells slots) : PW p l e R s m args below meth c Q D X bs M i L (.long b :: .long a :: r) h cells slots := by
  obtain ⟨C, he, hd0, hn0, ha0, hl⟩ := B
  have hd : decode (m_b M) pc = .ok (.lcmp, 1) := of_decide_eq_true hd0
  have hn : pcOf (m_code M) (i + 1) = pc + 1 := of_decide_eq_true hn0
  exact pw_st (pcOf_at he) hn k (fun H locs ls HL w => W.lcmp C.1 C.2.1 hd w)
theorem sw_dup {a : Value} (B : SWc p s m args meth c D X bs E P M i (pc, .dup, x, y, v, ts)) (hc : a.category = 1) (k : PW p l e R s m args below meth c Q D X bs M (i + 1) L (a :: a :: r) h cells slots) : PW p l e R s m args below meth c Q D X bs M i L (a :: r) h cells slots := by
  obtain ⟨C, he, hd0, hn0, ha0, hl⟩ := B
  have hd : decode (m_b M) pc = .ok (.dup, 1) := of_decide_eq_true hd0
  have hn : pcOf (m_code M) (i + 1) = pc + 1 := of_decide_eq_true hn0
  exact pw_st (pcOf_at he) hn k (fun H locs ls HL w => lv_dup C.1 C.2.1 hd (by rw [emb_cat]; exact hc) w)
theorem sw_dup2 {a b : Value} (B : SWc p s m args meth c D X bs E P M i (pc, .dup2, x, y, v, ts)) (hc : a.category = 1 ∧ b.category = 1) (k : PW p l e R s m args below meth c Q D X bs M (i + 1) L (a :: b :: a :: b :: r) h cells slots) : PW p l e R s m args below meth c Q D X bs M i L (a :: b :: r) h cells slots := by
  obtain ⟨C, he, hd0, hn0, ha0, hl⟩ := B
  have hd : decode (m_b M) pc = .ok (.dup2, 1) := of_decide_eq_true hd0
  have hn : pcOf (m_code M) (i + 1) = pc + 1 := of_decide_eq_true hn0
  exact pw_st (pcOf_at he) hn k (fun H locs ls HL w => lv_dup2_11 C.1 C.2.1 hd (by rw [emb_cat]; exact hc.1) (by rw [emb_cat]; exact hc.2) w)
theorem sw_pop {a : Value} (B : SWc p s m args meth c D X bs E P M i (pc, .pop, x, y, v, ts)) (hc : a.category = 1) (k : PW p l e R s m args below meth c Q D X bs M (i + 1) L (r) h cells slots) : PW p l e R s m args below meth c Q D X bs M i L (a :: r) h cells slots := by
  obtain ⟨C, he, hd0, hn0, ha0, hl⟩ := B
  have hd : decode (m_b M) pc = .ok (.pop, 1) := of_decide_eq_true hd0
  have hn : pcOf (m_code M) (i + 1) = pc + 1 := of_decide_eq_true hn0
  exact pw_st (pcOf_at he) hn k (fun H locs ls HL w => lv_pop C.1 C.2.1 hd (by rw [emb_cat]; exact hc) w)
theorem sw_goto {z : Int} (B : SWc p s m args meth c D X bs E P M i (pc, .goto z, x, y, v, ts)) (k : PW p l e R s m args below meth c Q D X bs M x L (st) h cells slots) : PW p l e R s m args below meth c Q D X bs M i L (st) h cells slots := by
  obtain ⟨C, he, hd0, hn0, ha0, hl⟩ := B
  have hd : decode (m_b M) pc = .ok (.goto z, 3) := of_decide_eq_true hd0
  have ha : (pc : Int) + z = (pcOf (m_code M) x : Int) := of_decide_eq_true ha0
  exact pw_j (pcOf_at he) rfl k (fun H locs ls w => lv_goto C.1 C.2.1 hd ha w)
theorem sw_ifCond {k0 : ClassFile.Cond} {z : Int} {a : Int32} (B : SWc p s m args meth c D X bs E P M i (pc, .ifCond k0 z, x, y, v, ts)) (kt : pc1 k0 a = true → PW p l e R s m args below meth c Q D X bs M x L (r) h cells slots) (kf : pc1 k0 a = false → PW p l e R s m args below meth c Q D X bs M (i + 1) L (r) h cells slots) : PW p l e R s m args below meth c Q D X bs M i L (.int a :: r) h cells slots := by
  obtain ⟨C, he, hd0, hn0, ha0, hl⟩ := B
  have hd : decode (m_b M) pc = .ok (.ifCond k0 z, 3) := of_decide_eq_true hd0
  have hn : pcOf (m_code M) (i + 1) = pc + 3 := of_decide_eq_true hn0
  have ha : (pc : Int) + z = (pcOf (m_code M) x : Int) := of_decide_eq_true ha0
  intro H locs ls HR HL h1 h2
  rw [show pcOf (m_code M) i = pc from pcOf_at he]
  have kt := fun q => kt q H locs ls HR HL h1 h2
  have kf := fun q => kf q H locs ls HR HL h1 h2
  rw [hn] at kf
  cases k0
  · exact lv_if_eq C.1 C.2.1 hd ha (fun q => kt (decide_eq_true q)) (fun q => kf (decide_eq_false q))
  · exact lv_if_ne C.1 C.2.1 hd ha (fun q => kt (decide_eq_true q)) (fun q => kf (decide_eq_false (fun z => z q)))
  · exact lv_if_lt C.1 C.2.1 hd ha (fun q => kt (decide_eq_true q)) (fun q => kf (decide_eq_false q))
  · exact lv_if_ge C.1 C.2.1 hd ha (fun q => kt (decide_eq_true q)) (fun q => kf (decide_eq_false q))
  · exact lv_if_gt C.1 C.2.1 hd ha (fun q => kt (decide_eq_true q)) (fun q => kf (decide_eq_false q))
  · exact lv_if_le C.1 C.2.1 hd ha (fun q => kt (decide_eq_true q)) (fun q => kf (decide_eq_false q))
theorem sw_if_icmp {k0 : ClassFile.Cond} {z : Int} {a b : Int32} (B : SWc p s m args meth c D X bs E P M i (pc, .if_icmp k0 z, x, y, v, ts)) (kt : pc2 k0 a b = true → PW p l e R s m args below meth c Q D X bs M x L (r) h cells slots) (kf : pc2 k0 a b = false → PW p l e R s m args below meth c Q D X bs M (i + 1) L (r) h cells slots) : PW p l e R s m args below meth c Q D X bs M i L (.int b :: .int a :: r) h cells slots := by
  obtain ⟨C, he, hd0, hn0, ha0, hl⟩ := B
  have hd : decode (m_b M) pc = .ok (.if_icmp k0 z, 3) := of_decide_eq_true hd0
  have hn : pcOf (m_code M) (i + 1) = pc + 3 := of_decide_eq_true hn0
  have ha : (pc : Int) + z = (pcOf (m_code M) x : Int) := of_decide_eq_true ha0
  intro H locs ls HR HL h1 h2
  rw [show pcOf (m_code M) i = pc from pcOf_at he]
  have kt := fun q => kt q H locs ls HR HL h1 h2
  have kf := fun q => kf q H locs ls HR HL h1 h2
  rw [hn] at kf
  cases k0
  · exact lv_icmp_eq C.1 C.2.1 hd ha (fun q => kt (decide_eq_true q)) (fun q => kf (decide_eq_false q))
  · exact lv_icmp_ne C.1 C.2.1 hd ha (fun q => kt (decide_eq_true q)) (fun q => kf (decide_eq_false (fun z => z q)))
  · exact lv_icmp_lt C.1 C.2.1 hd ha (fun q => kt (decide_eq_true q)) (fun q => kf (decide_eq_false q))
  · exact lv_icmp_ge C.1 C.2.1 hd ha (fun q => kt (decide_eq_true q)) (fun q => kf (decide_eq_false q))
  · exact lv_icmp_gt C.1 C.2.1 hd ha (fun q => kt (decide_eq_true q)) (fun q => kf (decide_eq_false q))
  · exact lv_icmp_le C.1 C.2.1 hd ha (fun q => kt (decide_eq_true q)) (fun q => kf (decide_eq_false q))
theorem sw_ifnullJ {z : Int}  (B : SWc p s m args meth c D X bs E P M i (pc, .ifnull z, x, y, v, ts)) (k : PW p l e R s m args below meth c Q D X bs M x L (r) h cells slots) : PW p l e R s m args below meth c Q D X bs M i L (.null :: r) h cells slots := by
  obtain ⟨C, he, hd0, hn0, ha0, hl⟩ := B
  have hd : decode (m_b M) pc = .ok (.ifnull z, 3) := of_decide_eq_true hd0
  have ha : (pc : Int) + z = (pcOf (m_code M) x : Int) := of_decide_eq_true ha0
  exact pw_j (pcOf_at he) rfl k (fun H locs ls w => lv_ifnullN C.1 C.2.1 hd ha w)
theorem sw_ifnullF {z : Int} {a : Nat} (B : SWc p s m args meth c D X bs E P M i (pc, .ifnull z, x, y, v, ts)) (k : PW p l e R s m args below meth c Q D X bs M (i + 1) L (r) h cells slots) : PW p l e R s m args below meth c Q D X bs M i L (.ref a :: r) h cells slots := by
  obtain ⟨C, he, hd0, hn0, ha0, hl⟩ := B
  have hd : decode (m_b M) pc = .ok (.ifnull z, 3) := of_decide_eq_true hd0
  have hn : pcOf (m_code M) (i + 1) = pc + 3 := of_decide_eq_true hn0
  exact pw_st (pcOf_at he) hn k (fun H locs ls HL w => lv_ifnull C.1 C.2.1 hd w)
theorem sw_ifnonnullJ {z : Int} {a : Nat} (B : SWc p s m args meth c D X bs E P M i (pc, .ifnonnull z, x, y, v, ts)) (k : PW p l e R s m args below meth c Q D X bs M x L (r) h cells slots) : PW p l e R s m args below meth c Q D X bs M i L (.ref a :: r) h cells slots := by
  obtain ⟨C, he, hd0, hn0, ha0, hl⟩ := B
  have hd : decode (m_b M) pc = .ok (.ifnonnull z, 3) := of_decide_eq_true hd0
  have ha : (pc : Int) + z = (pcOf (m_code M) x : Int) := of_decide_eq_true ha0
  exact pw_j (pcOf_at he) rfl k (fun H locs ls w => lv_ifnonnull C.1 C.2.1 hd ha w)
theorem sw_ifnonnullF {z : Int}  (B : SWc p s m args meth c D X bs E P M i (pc, .ifnonnull z, x, y, v, ts)) (k : PW p l e R s m args below meth c Q D X bs M (i + 1) L (r) h cells slots) : PW p l e R s m args below meth c Q D X bs M i L (.null :: r) h cells slots := by
  obtain ⟨C, he, hd0, hn0, ha0, hl⟩ := B
  have hd : decode (m_b M) pc = .ok (.ifnonnull z, 3) := of_decide_eq_true hd0
  have hn : pcOf (m_code M) (i + 1) = pc + 3 := of_decide_eq_true hn0
  exact pw_st (pcOf_at he) hn k (fun H locs ls HL w => lv_ifnonnullN C.1 C.2.1 hd w)
end PWS
end
section
/-! ===== instructions that read or change cells ===== -/
def PclOK (ci : Nat) (q : vw_C) : Prop := (∀ w ∈ u_ws q.1 q.2.1 q.2.2, w ∈ utbl) ∧ (∀ a, a < q.2.2 → ∀ b, b < q.2.2 → a ≠ b → (q.2.1 a).2.1 ≠ (q.2.1 b).2.1) ∧ (∀ k, k < q.2.2 → parseFieldDescriptor (q.2.1 k).2.2.1 = some (ptyp ci k)) ∧ (pini ci).length = q.2.2 ∧ (∀ k, k < q.2.2 → defaultValue (ptyp ci k) = (pini ci).getD k .null) ∧ ∀ k, k < q.2.2 → (pini ci).getD k .null = .null ∨ (pini ci).getD k .null = .int 0
theorem pcl_ok (ci : Nat) (q : vw_C) (hq : pcls[ci]? = some q) : PclOK ci q := by
  match ci, hq with
  | 0, hq => cases hq; exact ⟨in_of iX0 (by decide +kernel), nmX0, tyX0_ok, rfl, by decide +kernel, by decide +kernel⟩
  | 1, hq => cases hq; exact ⟨in_of iX1 (by decide +kernel), nmX1, tyX1_ok, rfl, by decide +kernel, by decide +kernel⟩
  | 2, hq => cases hq; exact ⟨in_of iX2 (by decide +kernel), nmX2, tyX2_ok, rfl, by decide +kernel, by decide +kernel⟩
  | 3, hq => cases hq; exact ⟨in_of iX3 (by decide +kernel), nmX3, tyX3_ok, rfl, by decide +kernel, by decide +kernel⟩
  | 4, hq => cases hq; exact ⟨in_of iX4 (by decide +kernel), nmX4, tyX4_ok, rfl, by decide +kernel, by decide +kernel⟩
  | 5, hq => cases hq; exact ⟨in_of iX5 (by decide +kernel), nmX5, tyX5_ok, rfl, by decide +kernel, by decide +kernel⟩
  | 6, hq => cases hq; exact ⟨in_of iX6 (by decide +kernel), nmX6, tyX6_ok, rfl, by decide +kernel, by decide +kernel⟩
  | 7, hq => cases hq; exact ⟨in_of iX7 (by decide +kernel), nmX7, tyX7_ok, rfl, by decide +kernel, by decide +kernel⟩
  | 8, hq => cases hq; exact ⟨in_of iX8 (by decide +kernel), nmX8, tyX8_ok, rfl, by decide +kernel, by decide +kernel⟩
  | ci + 9, hq => simp [pcls] at hq
theorem vpV_map (X : Nat → Nat) (bs : Nat) (l : List Value) (k : Nat) : vp_V (l.map (emb X bs)) k = emb X bs (l.getD k .null) := by
  unfold vp_V
  rw [List.getD_eq_getElem?_getD, List.getD_eq_getElem?_getD, List.getElem?_map]
  cases l[k]? <;> rfl
theorem pIn_vp {j : Int32} {n : Nat} (h : 0 ≤ j ∧ j.toNatClampNeg < n) : ¬ (j < 0 ∨ n ≤ j.toNatClampNeg) := by
  rintro (q | q)
  · exact absurd h.1 (Int32.not_le.mpr q)
  · exact absurd h.2 (Nat.not_lt.mpr q)
theorem pfit_emb {X : Nat → Nat} {bs : Nat} {ty : FieldType} {w : Value} (h : pfit ty w = true) : narrow ty (emb X bs w) = emb X bs w ∧ fits ty (emb X bs w) = true := by
  cases ty <;> cases w <;> first | (cases h; done) | exact ⟨rfl, rfl⟩ | skip
  have h := of_decide_eq_true h
  rcases h with rfl | rfl <;> exact ⟨rfl, rfl⟩
theorem pj_le {j : Int32} (hj : 0 ≤ j ∧ j ≤ 100000) : j.toNatClampNeg ≤ 100000 := by
  have h1 := Int32.le_iff_toInt_le.mp hj.2
  have h2 : (100000 : Int32).toInt = 100000 := by decide
  rw [h2] at h1
  show j.toInt.toNat ≤ 100000
  omega
section PWH
variable {p : Program} {l : Launch} {e : Env} {R : Room} {s : State} {m : MethodId} {args : Array Value} {below : List Frame} {meth : Method} {c : Code} {Q : State → Prop} {D : va_G} {X : Nat → Nat} {bs : Nat} {E : pX} {P : List pM} {M : pM}
variable {i pc x y : Nat} {v : Value} {ts : List Nat} {L L' : pL} {st st' r : List Value} {h h' : List pC} {cells slots : Nat}
theorem plnk_f {own : String} {n : Nat} {q : vw_C} (hq : pcls[x]? = some q) : plnk P own (pc, .getfield n, x, y, v, ts) = [.fieldLink own n (q.2.1 y).1 (q.2.1 y).2.1 (q.2.1 y).2.2.1] := by
  show (match pcls[x]? with
    | some q => [Cond.fieldLink own n (q.2.1 y).1 (q.2.1 y).2.1 (q.2.1 y).2.2.1]
    | none => []) = _
  rw [hq]
theorem plnk_p {own : String} {n : Nat} {q : vw_C} (hq : pcls[x]? = some q) : plnk P own (pc, .putfield n, x, y, v, ts) = [.fieldLink own n (q.2.1 y).1 (q.2.1 y).2.1 (q.2.1 y).2.2.1] := by
  show (match pcls[x]? with
    | some q => [Cond.fieldLink own n (q.2.1 y).1 (q.2.1 y).2.1 (q.2.1 y).2.2.1]
    | none => []) = _
  rw [hq]

theorem sw_getfield {n a : Nat} {o : Nat × List Value} {w : Value} (B : SWc p s m args meth c D X bs E P M i (pc, .getfield n, x, y, v, ts)) (ho : pobj h a = some o) (hx1 : o.1 = x) (hw : o.2[y]? = some w) (k : PW p l e R s m args below meth c Q D X bs M (i + 1) L (w :: r) h cells slots) : PW p l e R s m args below meth c Q D X bs M i L (.ref a :: r) h cells slots := by
  obtain ⟨C, he, hd0, hn0, ha0, hl⟩ := B
  have hd : decode (m_b M) pc = .ok (.getfield n, 3) := of_decide_eq_true hd0
  have hn : pcOf (m_code M) (i + 1) = pc + 3 := of_decide_eq_true hn0
  have ha : pfok M x y false = true := ha0
  unfold pfok at ha
  cases hq : pcls[x]? with
  | none => rw [hq] at ha; cases ha
  | some q =>
    rw [hq] at ha
    have hy : y < q.2.2 := by simpa using ha
    rw [plnk_f hq] at hl
    have hlk := C.2.2.2.2.1 _ (hl _ List.mem_cons_self)
    intro H locs ls HR HL h1 h2
    rw [show pcOf (m_code M) i = pc from pcOf_at he]
    obtain ⟨r0, hr0, hlen, hOB⟩ := HR.2 a _ (pobj_at ho)
    rw [hx1] at hr0 hOB
    cases hr0.symm.trans hq
    obtain ⟨C0, T0, N0⟩ := q
    have hP : va_P D pcls [(bs + a, .inr (x, o.2.map (emb X bs)))] H := fun j q hj => by
      have hz : j < 1 := (List.getElem?_eq_some_iff.mp hj).1
      rw [show j = 0 by omega] at hj
      cases hj
      exact ⟨_, hq, hOB.to (fun k _ => (vpV_map X bs o.2 k).symm)⟩
    refine va_get (D := D) (ci := x) (v := emb X bs w) (tys := []) C.1 C.2.1 C.2.2.2.2.1 (pcl_ok x _ hq).1 C.2.2.2.1 C.2.2.2.2.2.1 hP 0 rfl hq y hy hlk (fun _ h9 => h9) (by rw [List.getElem?_map, hw]; rfl) hd ?_
    rw [← hn]
    exact k H locs ls HR HL h1 h2
theorem sw_putfield {n a : Nat} {o : Nat × List Value} {w : Value} (B : SWc p s m args meth c D X bs E P M i (pc, .putfield n, x, y, v, ts)) (ho : pobj h a = some o) (hx1 : o.1 = x) (hf : pfit (ptyp x y) w = true) (k : PW p l e R s m args below meth c Q D X bs M (i + 1) L (r) (h.set a (.inr (.inr (o.1, o.2.set y w)))) cells slots) : PW p l e R s m args below meth c Q D X bs M i L (w :: .ref a :: r) h cells slots := by
  obtain ⟨C, he, hd0, hn0, ha0, hl⟩ := B
  have hd : decode (m_b M) pc = .ok (.putfield n, 3) := of_decide_eq_true hd0
  have hn : pcOf (m_code M) (i + 1) = pc + 3 := of_decide_eq_true hn0
  have ha : pfok M x y true = true := ha0
  unfold pfok at ha
  cases hq : pcls[x]? with
  | none => rw [hq] at ha; cases ha
  | some q =>
    rw [hq] at ha
    have hy : y < q.2.2 ∧ ((q.2.1 y).2.2.2 = false ∨ (m_k M = 2 ∧ (q.2.1 y).1 = (m_y M).cls)) := by simpa using ha
    rw [plnk_p hq] at hl
    have hlk := C.2.2.2.2.1 _ (hl _ List.mem_cons_self)
    intro H locs ls HR HL h1 h2
    rw [show pcOf (m_code M) i = pc from pcOf_at he]
    obtain ⟨r0, hr0, hlen, hOB⟩ := HR.2 a _ (pobj_at ho)
    rw [hx1] at hr0 hOB
    cases hr0.symm.trans hq
    obtain ⟨hy, hfk⟩ := hy
    obtain ⟨C0, T0, N0⟩ := q
    obtain ⟨hin, hnm, hty, hini, -⟩ := pcl_ok x _ hq
    have hap := va_apart (own := (m_y M).cls) C.2.2.2.2.1 hin (ptyp x) hty hnm C.2.2.2.2.2.1 hq
    obtain ⟨hS, hfc, kC, hkC, hkind⟩ := C.2.2.2.2.2.1.1 x _ hq
    obtain ⟨cf, kf, fi, f, hi, hsl⟩ := hS y hy
    obtain ⟨cell, q1, q2, q3, q4⟩ := hOB
    have hst := (u_facts hfc hkC (u_lays C.2.2.2.2.1 hin hy) hi).1
    obtain ⟨hnar, hfit⟩ := pfit_emb (X := X) (bs := bs) hf
    have h6 := u_fits hfc hkC hkind (u_lays C.2.2.2.2.1 hin hy) hi (hty y hy) hnar hfit
    have hlay := C.2.2.2.2.1 _ (hin _ (u_in_lay hy))
    unfold u_lay at hlay
    have fin : ∀ H' : Heap, H'[bs + a]? = some (cell.setSlot f.slot (emb X bs w)) → H'.size = H.size → (∀ q : Nat, q ≠ bs + a → H'[q]? = H[q]?) → W p l e R s m args below meth c H' (locs ++ [⟨bs + a, f.slot⟩]) cells slots Q (F0 m (pc + 3) ls (r.map (emb X bs))) := by
      intro H' e1 e2 e3
      rw [← hn]
      refine k H' _ ls (HR.set (pobj_at ho) e2 ⟨(C0, T0, N0), by rw [hx1]; exact hq, by rw [List.length_set]; exact hlen, ?_⟩ e3) HL (fun q hq => (e3 q (Nat.ne_of_lt (Nat.lt_of_lt_of_le hq (Nat.le_add_right _ _)))).trans (h1 q hq)) (fun z hz => ?_)
      · rw [hx1]
        rw [hsl] at e1
        refine t_OB.to (V := updV (fun k => emb X bs (o.2.getD k .null)) y (emb X bs w)) ⟨_, e1, q2, q3, t_set q4 hap hy (emb X bs w)⟩ (fun j hj => ?_)
        show (if j = y then emb X bs w else emb X bs (o.2.getD j .null)) = emb X bs ((o.2.set y w).getD j .null)
        rw [List.getD_eq_getElem?_getD, List.getD_eq_getElem?_getD]
        by_cases hjy : j = y
        · subst hjy
          rw [if_pos rfl, List.getElem?_set_self (by rw [hlen]; exact hy)]
          rfl
        · rw [if_neg hjy, List.getElem?_set_ne (Ne.symm hjy)]
      · rcases List.mem_append.mp hz with hz | hz
        · exact h2 z hz
        · rw [List.mem_singleton.mp hz]
          exact Nat.le_add_right _ _
    have hlt : f.slot < cell.slots.size := by rw [hsl]; exact k2_hasslot (q4 y hy)
    by_cases hfin : (T0 y).2.2.2 = true
    · rw [if_pos hfin] at hlay
      obtain ⟨hk2, hdecl⟩ : m_k M = 2 ∧ (T0 y).1 = (m_y M).cls := by
        rcases hfk with q | q
        · have q : (T0 y).2.2.2 = false := q
          rw [hfin] at q; cases q
        · exact q
      have hcf : m.cls = cf := by
        obtain ⟨_, _, c', _, _, _, -, -, hf', -, -, -, hown2, -⟩ := Cond.laysFinal_spec hlay
        have e1 : c' = cf := by have := hi.symm.trans hf'; simp at this; exact this.1.symm
        rw [hdecl] at hown2
        rw [← e1]; exact Option.some.inj (C.2.2.2.1.symm.trans hown2)
      exact W.putFinK C.1 C.2.1 C.2.2.2.1 hlk hi hst hcf (C.2.2.2.2.2.2.2.1 hk2) (by rw [q2]; exact h6) q1 q3 hlt rfl rfl hd fin
    · rw [if_neg hfin] at hlay
      have h7 := u_store hfc hkC hkind hlay hi (hty y hy) hnar hfit
      exact W.putK C.1 C.2.1 (f := f) ⟨C.2.2.2.1, hlk, ⟨_, _, _, hi⟩, hst⟩ (by rw [q2]; exact h7) q1 q3 hlt rfl rfl hd fin
theorem sw_iaload {a : Nat} {j : Int32} {o : Nat × (Nat → Int32)} (B : SWc p s m args meth c D X bs E P M i (pc, .iaload, x, y, v, ts)) (ho : pint h a = some o) (hj : 0 ≤ j ∧ j.toNatClampNeg < o.1) (k : PW p l e R s m args below meth c Q D X bs M (i + 1) L (.int (o.2 j.toNatClampNeg) :: r) h cells slots) : PW p l e R s m args below meth c Q D X bs M i L (.int j :: .ref a :: r) h cells slots := by
  obtain ⟨C, he, hd0, hn0, ha0, hl⟩ := B
  have hd : decode (m_b M) pc = .ok (.iaload, 1) := of_decide_eq_true hd0
  have hn : pcOf (m_code M) (i + 1) = pc + 1 := of_decide_eq_true hn0
  intro H locs ls HR HL h1 h2
  rw [show pcOf (m_code M) i = pc from pcOf_at he]
  obtain ⟨cA, hc, hArr⟩ := HR.2 a _ (pint_at ho)
  refine W.iald (v := .int (o.2 j.toNatClampNeg)) C.1 C.2.1 hc (hArr o.1 (fun j => .int (o.2 j))) (fun q => by cases q) (by show ¬ (j < 0 ∨ (arrV _ _ _).slots.size ≤ _); rw [arrV_size]; exact pIn_vp hj) (by show (arrV _ _ _).slots[_]? = _; rw [arrV_read _ _ hj.2]) rfl rfl hd ?_
  show W p l e R s m args below meth c H locs cells slots Q (F0 m (pc + 1) ls _)
  rw [← hn]
  exact k H locs ls HR HL h1 h2
theorem sw_ialoadX {a : Nat} {j : Int32} {o : Nat × (Nat → Int32)} (B : SWc p s m args meth c D X bs E P M i (pc, .iaload, x, y, v, ts)) (ho : E a = some o) (hj : 0 ≤ j ∧ j.toNatClampNeg < o.1) (k : PW p l e R s m args below meth c Q D X bs M (i + 1) L (.int (o.2 j.toNatClampNeg) :: r) h cells slots) : PW p l e R s m args below meth c Q D X bs M i L (.int j :: .retAddr a :: r) h cells slots := by
  obtain ⟨C, he, hd0, hn0, ha0, hl⟩ := B
  have hd : decode (m_b M) pc = .ok (.iaload, 1) := of_decide_eq_true hd0
  have hn : pcOf (m_code M) (i + 1) = pc + 1 := of_decide_eq_true hn0
  intro H locs ls HR HL h1 h2
  rw [show pcOf (m_code M) i = pc from pcOf_at he]
  obtain ⟨⟨scr, g1, g2, g3, g4, g5⟩, g6⟩ := C.2.2.2.2.2.2.1 a o ho
  refine W.iald (v := .int (o.2 j.toNatClampNeg)) C.1 C.2.1 (by rw [h1 _ g6]; exact g1) g2 g3 (by rw [g4]; exact pIn_vp hj) (g5 _ hj.2) rfl rfl hd ?_
  show W p l e R s m args below meth c H locs cells slots Q (F0 m (pc + 1) ls _)
  rw [← hn]
  exact k H locs ls HR HL h1 h2
theorem sw_iastore {a : Nat} {j w : Int32} {o : Nat × (Nat → Int32)} (B : SWc p s m args meth c D X bs E P M i (pc, .iastore, x, y, v, ts)) (ho : pint h a = some o) (hj : 0 ≤ j ∧ j.toNatClampNeg < o.1) (k : PW p l e R s m args below meth c Q D X bs M (i + 1) L (r) (h.set a (.inl (o.1, va_up o.2 j.toNatClampNeg w))) cells slots) : PW p l e R s m args below meth c Q D X bs M i L (.int w :: .int j :: .ref a :: r) h cells slots := by
  obtain ⟨C, he, hd0, hn0, ha0, hl⟩ := B
  have hd : decode (m_b M) pc = .ok (.iastore, 1) := of_decide_eq_true hd0
  have hn : pcOf (m_code M) (i + 1) = pc + 1 := of_decide_eq_true hn0
  intro H locs ls HR HL h1 h2
  rw [show pcOf (m_code M) i = pc from pcOf_at he]
  obtain ⟨cA, hc, hArr⟩ := HR.2 a _ (pint_at ho)
  refine W.iast C.1 C.2.1 hc (hArr o.1 (fun j => .int (o.2 j))) (fun q => by cases q) (by show ¬ (j < 0 ∨ (arrV _ _ _).slots.size ≤ _); rw [arrV_size]; exact pIn_vp hj) rfl rfl hd (fun H' e1 e2 e3 => ?_)
  show W p l e R s m args below meth c H' _ cells slots Q (F0 m (pc + 1) ls _)
  rw [← hn]
  refine k H' _ ls (HR.set (pint_at ho) e2 ⟨cA, ?_, hArr⟩ e3) HL (fun q hq => (e3 q (Nat.ne_of_lt (Nat.lt_of_lt_of_le hq (Nat.le_add_right _ _)))).trans (h1 q hq)) (fun z hz => ?_)
  · rw [e1, arrV_store]
    congr 2
    funext q
    by_cases hq : q = j.toNatClampNeg
    · subst hq
      simp [updV, va_up]
    · simp [updV, va_up, hq]
  · rcases List.mem_append.mp hz with hz | hz
    · exact h2 z hz
    · rw [List.mem_singleton.mp hz]
      exact Nat.le_add_right _ _
theorem sw_aaload {a : Nat} {j : Int32} {o : Nat × Nat × (Nat → Option Nat)} (B : SWc p s m args meth c D X bs E P M i (pc, .aaload, x, y, v, ts)) (ho : pref h a = some o) (hj : 0 ≤ j ∧ j.toNatClampNeg < o.2.1) (k : PW p l e R s m args below meth c Q D X bs M (i + 1) L (va_rf (o.2.2 j.toNatClampNeg) :: r) h cells slots) : PW p l e R s m args below meth c Q D X bs M i L (.int j :: .ref a :: r) h cells slots := by
  obtain ⟨C, he, hd0, hn0, ha0, hl⟩ := B
  have hd : decode (m_b M) pc = .ok (.aaload, 1) := of_decide_eq_true hd0
  have hn : pcOf (m_code M) (i + 1) = pc + 1 := of_decide_eq_true hn0
  intro H locs ls HR HL h1 h2
  rw [show pcOf (m_code M) i = pc from pcOf_at he]
  obtain ⟨cA, r0, hr0, hc, hArr, -⟩ := HR.2 a _ (pref_at ho)
  refine W.aald (v := va_rf ((o.2.2 j.toNatClampNeg).map (fun a => bs + a))) (ty := .object r0.1) C.1 C.2.1 hc (hArr o.2.1 _) rfl (fun q => by cases q) (by show ¬ (j < 0 ∨ (arrV _ _ _).slots.size ≤ _); rw [arrV_size]; exact pIn_vp hj) (by show (arrV _ _ _).slots[_]? = _; rw [arrV_read _ _ hj.2]) rfl rfl hd ?_
  show W p l e R s m args below meth c H locs cells slots Q (F0 m (pc + 1) ls _)
  rw [← hn, ← emb_rf X bs]
  exact k H locs ls HR HL h1 h2
theorem sw_aastore {a b : Nat} {j : Int32} {o : Nat × Nat × (Nat → Option Nat)} {q0 : Nat × List Value} (B : SWc p s m args meth c D X bs E P M i (pc, .aastore, x, y, v, ts)) (ho : pref h a = some o) (hb : pobj h b = some q0) (hx1 : q0.1 = o.1) (hj : 0 ≤ j ∧ j.toNatClampNeg < o.2.1) (k : PW p l e R s m args below meth c Q D X bs M (i + 1) L (r) (h.set a (.inr (.inl (o.1, o.2.1, va_up o.2.2 j.toNatClampNeg (some b))))) cells slots) : PW p l e R s m args below meth c Q D X bs M i L (.ref b :: .int j :: .ref a :: r) h cells slots := by
  obtain ⟨C, he, hd0, hn0, ha0, hl⟩ := B
  have hd : decode (m_b M) pc = .ok (.aastore, 1) := of_decide_eq_true hd0
  have hn : pcOf (m_code M) (i + 1) = pc + 1 := of_decide_eq_true hn0
  intro H locs ls HR HL h1 h2
  rw [show pcOf (m_code M) i = pc from pcOf_at he]
  obtain ⟨cA, r0, hr0, hc, hArr, hRA⟩ := HR.2 a _ (pref_at ho)
  obtain ⟨r1, hr1, hlen, cellV, g1, g2, g3, -⟩ := HR.2 b _ (pobj_at hb)
  rw [hx1] at hr1 g2
  cases hr0.symm.trans hr1
  have hcls := (C.2.2.2.2.2.1.1 o.1 r0 hr0).2
  obtain ⟨kA, comp, k1, k2, k3, k4⟩ := id hRA
  have hcomp : comp = D.1 o.1 := Option.some.inj (k3.symm.trans hcls.1)
  subst hcomp
  obtain ⟨kC, hkC, -⟩ := hcls.2
  have h0 : ¬ j < 0 := Int32.not_lt.mpr hj.1
  refine W.aast C.1 C.2.1 hc (fun q h => by cases h) (fun h => by cases h) k1 k2 rfl hkC ⟨h0, by show _ < (arrV _ _ _).slots.size; rw [arrV_size]; exact hj.2⟩ g1 (fun q h => by rw [g3] at h; cases h) (by rw [g2]; exact hkC) (by rw [g2]; exact va_assign hcls) rfl rfl hd (fun H' e1 e2 e3 => ?_)
  show W p l e R s m args below meth c H' _ cells slots Q (F0 m (pc + 1) ls _)
  rw [← hn]
  refine k H' _ ls (HR.set (pref_at ho) e2 ⟨cA, r0, hr0, ?_, hArr, hRA⟩ e3) HL (fun q hq => (e3 q (Nat.ne_of_lt (Nat.lt_of_lt_of_le hq (Nat.le_add_right _ _)))).trans (h1 q hq)) (fun z hz => ?_)
  · rw [e1, arrV_store]
    congr 2
    funext q
    by_cases hq : q = j.toNatClampNeg
    · subst hq
      simp [updV, va_up, va_rf]
    · simp [updV, va_up, hq]
  · rcases List.mem_append.mp hz with hz | hz
    · exact h2 z hz
    · rw [List.mem_singleton.mp hz]
      exact Nat.le_add_right _ _
theorem sw_alenI {a : Nat} {o : Nat × (Nat → Int32)} (B : SWc p s m args meth c D X bs E P M i (pc, .arraylength, x, y, v, ts)) (ho : h[a]? = some (.inl o)) (k : PW p l e R s m args below meth c Q D X bs M (i + 1) L (.int (Int32.ofNat o.1) :: r) h cells slots) : PW p l e R s m args below meth c Q D X bs M i L (.ref a :: r) h cells slots := by
  obtain ⟨C, he, hd0, hn0, ha0, hl⟩ := B
  have hd : decode (m_b M) pc = .ok (.arraylength, 1) := of_decide_eq_true hd0
  have hn : pcOf (m_code M) (i + 1) = pc + 1 := of_decide_eq_true hn0
  intro H locs ls HR HL h1 h2
  rw [show pcOf (m_code M) i = pc from pcOf_at he]
  obtain ⟨cA, hc, hArr⟩ := HR.2 a _ ho
  refine W.alen (n := Int32.ofNat o.1) C.1 C.2.1 hc (hArr o.1 (fun j => .int (o.2 j))) (by rw [arrV_size] <;> rfl) rfl rfl hd ?_
  show W p l e R s m args below meth c H locs cells slots Q (F0 m (pc + 1) ls _)
  rw [← hn]
  exact k H locs ls HR HL h1 h2
theorem sw_alenR {a : Nat} {o : Nat × Nat × (Nat → Option Nat)} (B : SWc p s m args meth c D X bs E P M i (pc, .arraylength, x, y, v, ts)) (ho : h[a]? = some (.inr (.inl o))) (k : PW p l e R s m args below meth c Q D X bs M (i + 1) L (.int (Int32.ofNat o.2.1) :: r) h cells slots) : PW p l e R s m args below meth c Q D X bs M i L (.ref a :: r) h cells slots := by
  obtain ⟨C, he, hd0, hn0, ha0, hl⟩ := B
  have hd : decode (m_b M) pc = .ok (.arraylength, 1) := of_decide_eq_true hd0
  have hn : pcOf (m_code M) (i + 1) = pc + 1 := of_decide_eq_true hn0
  intro H locs ls HR HL h1 h2
  rw [show pcOf (m_code M) i = pc from pcOf_at he]
  obtain ⟨cA, r0, hr0, hc, hArr, -⟩ := HR.2 a _ ho
  refine W.alen (n := Int32.ofNat o.2.1) C.1 C.2.1 hc (hArr o.2.1 _) (by rw [arrV_size] <;> rfl) rfl rfl hd ?_
  show W p l e R s m args below meth c H locs cells slots Q (F0 m (pc + 1) ls _)
  rw [← hn]
  exact k H locs ls HR HL h1 h2
theorem sw_alenX {a : Nat} {o : Nat × (Nat → Int32)} (B : SWc p s m args meth c D X bs E P M i (pc, .arraylength, x, y, v, ts)) (ho : E a = some o) (k : PW p l e R s m args below meth c Q D X bs M (i + 1) L (.int (Int32.ofNat o.1) :: r) h cells slots) : PW p l e R s m args below meth c Q D X bs M i L (.retAddr a :: r) h cells slots := by
  obtain ⟨C, he, hd0, hn0, ha0, hl⟩ := B
  have hd : decode (m_b M) pc = .ok (.arraylength, 1) := of_decide_eq_true hd0
  have hn : pcOf (m_code M) (i + 1) = pc + 1 := of_decide_eq_true hn0
  intro H locs ls HR HL h1 h2
  rw [show pcOf (m_code M) i = pc from pcOf_at he]
  obtain ⟨⟨scr, g1, g2, g3, g4, g5⟩, g6⟩ := C.2.2.2.2.2.2.1 a o ho
  refine W.alen (n := Int32.ofNat o.1) C.1 C.2.1 (by rw [h1 _ g6]; exact g1) g2 (by rw [g4] <;> rfl) rfl rfl hd ?_
  show W p l e R s m args below meth c H locs cells slots Q (F0 m (pc + 1) ls _)
  rw [← hn]
  exact k H locs ls HR HL h1 h2
theorem sw_new {n : Nat} (B : SWc p s m args meth c D X bs E P M i (pc, .new n, x, y, v, ts)) (hx1 : x < pcls.length) (hc1 : cells + 1 ≤ R.cells) (hs1 : slots + (pini x).length ≤ R.slots) (k : PW p l e R s m args below meth c Q D X bs M (i + 1) L (.ref h.length :: st) (h ++ [.inr (.inr (x, pini x))]) (cells + 1) (slots + (pini x).length)) : PW p l e R s m args below meth c Q D X bs M i L (st) h cells slots := by
  obtain ⟨C, he, hd0, hn0, ha0, hl⟩ := B
  have hd : decode (m_b M) pc = .ok (.new n, 3) := of_decide_eq_true hd0
  have hn : pcOf (m_code M) (i + 1) = pc + 3 := of_decide_eq_true hn0
  cases hq : pcls[x]? with
  | none => exact absurd hx1 (Nat.not_lt.mpr (List.getElem?_eq_none_iff.mp hq))
  | some q =>
    have hl2 : plnk P (m_y M).cls (pc, .new n, x, y, v, ts) = [.classLink (m_y M).cls n q.1, .instantiable q.1 q.2.2, .initialized q.1] := by
      show (match pcls[x]? with
        | some q => [Cond.classLink (m_y M).cls n q.1, .instantiable q.1 q.2.2, .initialized q.1]
        | none => []) = _
      rw [hq]
    rw [hl2] at hl
    have w1 := C.2.2.2.2.1 _ (hl _ List.mem_cons_self)
    have w2 := C.2.2.2.2.1 _ (hl _ (List.mem_cons_of_mem _ List.mem_cons_self))
    have w3 := C.2.2.2.2.1 _ (hl _ (List.mem_cons_of_mem _ (List.mem_cons_of_mem _ List.mem_cons_self)))
    obtain ⟨C0, T0, N0⟩ := q
    obtain ⟨hin, hnm, hty, hini, hdef, hem⟩ := pcl_ok x _ hq
    have hini : (pini x).length = N0 := hini
    intro H locs ls HR HL h1 h2
    rw [show pcOf (m_code M) i = pc from pcOf_at he]
    have hKn := C.2.2.2.2.2.1.1 x _ hq
    refine W.newcK C.1 C.2.1 C.2.2.2.1 w1 w2 w3 rfl hd hc1 (by rw [← hini]; exact hs1) hKn.2.1 rfl (fun H' kC hkC e1 e2 e3 => ?_)
    show W p l e R s m args below meth c H' _ _ _ Q (F0 m (pc + 3) ls _)
    rw [← hn, ← hini]
    have hb := HR.1
    rw [hb]
    refine k H' locs ls (HR.push e2 ⟨_, hq, hini, ?_⟩ e3) HL (fun q hq => (e3 q (by omega)).trans (h1 q hq)) h2
    refine (u_born (ptyp x) C.2.2.2.2.1 hin hKn hkC e1 hty).to (fun j hj => ?_)
    rw [hdef j hj]
    rcases hem j hj with q | q <;> rw [q] <;> rfl
theorem sw_newarray {n : ArrayType} {j : Int32} (B : SWc p s m args meth c D X bs E P M i (pc, .newarray n, x, y, v, ts)) (hj : 0 ≤ j ∧ j ≤ 100000) (hc1 : cells + 1 ≤ R.cells) (hs1 : slots + j.toNatClampNeg ≤ R.slots) (k : PW p l e R s m args below meth c Q D X bs M (i + 1) L (.ref h.length :: r) (h ++ [.inl (j.toNatClampNeg, fun _ => 0)]) (cells + 1) (slots + j.toNatClampNeg)) : PW p l e R s m args below meth c Q D X bs M i L (.int j :: r) h cells slots := by
  obtain ⟨C, he, hd0, hn0, ha0, hl⟩ := B
  have hd : decode (m_b M) pc = .ok (.newarray n, 2) := of_decide_eq_true hd0
  have hn : pcOf (m_code M) (i + 1) = pc + 2 := of_decide_eq_true hn0
  have ha : n = .int := of_decide_eq_true ha0
  subst ha
  have w1 : (Cond.arrayClass .int).before args s = true := C.2.2.2.2.1 _ (hl _ List.mem_cons_self)
  intro H locs ls HR HL h1 h2
  rw [show pcOf (m_code M) i = pc from pcOf_at he]
  have h0 : ¬ j < 0 := Int32.not_lt.mpr hj.1
  have hsz := pj_le hj
  refine W.newaK (atype := .int) (N := j.toNatClampNeg) C.1 C.2.1 w1 rfl hd rfl h0 rfl (by show j.toNatClampNeg * 4 ≤ 536870912; omega) hc1 hs1 rfl (fun H' cA e1 e2 e3 hArr => ?_)
  show W p l e R s m args below meth c H' _ _ _ Q (F0 m (pc + 2) ls _)
  rw [← hn]
  have hb := HR.1
  rw [hb]
  exact k H' locs ls (HR.push e2 ⟨cA, e1, hArr⟩ e3) HL (fun q hq => (e3 q (by omega)).trans (h1 q hq)) h2
theorem sw_anewarray {n : Nat} {j : Int32} (B : SWc p s m args meth c D X bs E P M i (pc, .anewarray n, x, y, v, ts)) (hx1 : x < pcls.length) (hj : 0 ≤ j ∧ j ≤ 100000) (hc1 : cells + 1 ≤ R.cells) (hs1 : slots + j.toNatClampNeg ≤ R.slots) (k : PW p l e R s m args below meth c Q D X bs M (i + 1) L (.ref h.length :: r) (h ++ [.inr (.inl (x, j.toNatClampNeg, fun _ => none))]) (cells + 1) (slots + j.toNatClampNeg)) : PW p l e R s m args below meth c Q D X bs M i L (.int j :: r) h cells slots := by
  obtain ⟨C, he, hd0, hn0, ha0, hl⟩ := B
  have hd : decode (m_b M) pc = .ok (.anewarray n, 3) := of_decide_eq_true hd0
  have hn : pcOf (m_code M) (i + 1) = pc + 3 := of_decide_eq_true hn0
  cases hq : pcls[x]? with
  | none => exact absurd hx1 (Nat.not_lt.mpr (List.getElem?_eq_none_iff.mp hq))
  | some q =>
    have hl2 : plnk P (m_y M).cls (pc, .anewarray n, x, y, v, ts) = [.classLink (m_y M).cls n q.1, .arrayOver (.object q.1)] := by
      show (match pcls[x]? with
        | some q => [Cond.classLink (m_y M).cls n q.1, .arrayOver (.object q.1)]
        | none => []) = _
      rw [hq]
    rw [hl2] at hl
    have w1 := C.2.2.2.2.1 _ (hl _ List.mem_cons_self)
    have w2 := C.2.2.2.2.1 _ (hl _ (List.mem_cons_of_mem _ List.mem_cons_self))
    intro H locs ls HR HL h1 h2
    rw [show pcOf (m_code M) i = pc from pcOf_at he]
    have h0 : ¬ j < 0 := Int32.not_lt.mpr hj.1
    have hsz := pj_le hj
    refine W.anew C.1 C.2.1 C.2.2.2.1 w1 w2 rfl hd rfl h0 (by omega) hc1 hs1 (fun cA kA comp f1 f2 f3 f4 => ?_)
    generalize hH1 : H.push ({ cls := cA, slots := Array.replicate j.toNatClampNeg .null, vm := .none } : Cell) = H1
    have e2 : H1.size = H.size + 1 := by rw [← hH1, Array.size_push]
    have e1 : H1[H.size]? = some (arrV cA j.toNatClampNeg (fun _ => .null)) := by rw [← hH1, Array.getElem?_push_size, ← arrV_new]
    have e3 : ∀ q : Nat, q < H.size → H1[q]? = H[q]? := fun q hq => by rw [← hH1, Array.getElem?_push, if_neg (Nat.ne_of_lt hq)]
    have hArr : ArrOfT s cA (.object q.1) := fun N z => ⟨(fun k h => by cases h), kA, f2, comp, f3⟩
    show W p l e R s m args below meth c H1 _ _ _ Q (F0 m (pc + 3) ls _)
    rw [← hn]
    have hb := HR.1
    rw [hb]
    exact k H1 locs ls (HR.push e2 ⟨cA, q, hq, e1, hArr, kA, comp, f2, f3, f4, f1⟩ e3) HL (fun q hq => (e3 q (by omega)).trans (h1 q hq)) h2
theorem sw_oini {n a : Nat} (B : SWc p s m args meth c D X bs E P M i (pc, .invokespecial n, x, y, v, ts)) (hP : P[x]? = none) (hr8 : pcs r ≤ 8) (hR1 : 1 ≤ R.frames) (hR2 : 40 ≤ R.locals) (k : PW p l e R s m args below meth c Q D X bs M (i + 1) L (r) h cells slots) : PW p l e R s m args below meth c Q D X bs M i L (.ref a :: r) h cells slots := by
  obtain ⟨C, he, hd0, hn0, ha0, hl⟩ := B
  have hd : decode (m_b M) pc = .ok (.invokespecial n, 3) := of_decide_eq_true hd0
  have hn : pcOf (m_code M) (i + 1) = pc + 3 := of_decide_eq_true hn0
  have hl2 : plnk P (m_y M).cls (pc, .invokespecial n, x, y, v, ts) = [.methodLink (m_y M).cls n Lib.objectInit, .instanceMethod Lib.objectInit, .code Lib.objectInit ⟨#[0xb1]⟩ 1 none] := by
    show (match P[x]? with
      | some N => [plk (m_y M).cls n (m_y N) v]
      | none => [Cond.methodLink (m_y M).cls n Lib.objectInit, .instanceMethod Lib.objectInit, .code Lib.objectInit ⟨#[0xb1]⟩ 1 none]) = _
    rw [hP]
  rw [hl2] at hl
  have w1 := C.2.2.2.2.1 _ (hl _ List.mem_cons_self)
  have w2 := C.2.2.2.2.1 _ (hl _ (List.mem_cons_of_mem _ List.mem_cons_self))
  have w3 := C.2.2.2.2.1 _ (hl _ (List.mem_cons_of_mem _ (List.mem_cons_of_mem _ List.mem_cons_self)))
  intro H locs ls HR HL h1 h2
  rw [show pcOf (m_code M) i = pc from pcOf_at he]
  refine W.objInit C.1 C.2.1 C.2.2.2.1 w1 w2 w3 rfl (by show ls.size = _; rw [C.2.2.1]; exact HL.1.1) (a := bs + a) (rest := r.map (emb X bs)) rfl hd hR1 (by
    have := emb_pcs X bs r
    show 2 * 0 + ((r.map (emb X bs)).map fun v => v.category).sum + 12 ≤ R.locals
    omega) ?_
  show W p l e R s m args below meth c H locs cells slots Q (F0 m (pc + 3) ls _)
  rw [← hn]
  exact k H locs ls HR HL h1 h2
end PWH
end
section
/-! ===== arraycopy, switches ===== -/
theorem i32_nat {z : Int32} (hz : 0 ≤ z) : z.toInt = (z.toNatClampNeg : Int) := by
  have h0 : (0 : Int) ≤ z.toInt := by simpa using Int32.le_iff_toInt_le.mp hz
  show z.toInt = ((z.toInt.toNat : Nat) : Int)
  omega
theorem pswT (z : Int) (d : Nat) : ∀ (ts : List Nat) (lo : Int), ((z < lo ∨ lo + (ts.length : Int) - 1 < z) → psw z (pkeysT lo ts) d = d) ∧ (¬ z < lo → ¬ lo + (ts.length : Int) - 1 < z → ts[(z - lo).toNat]? = some (psw z (pkeysT lo ts) d))
  | [], lo => ⟨fun _ => rfl, fun h1 h2 => absurd h2 (by simp; omega)⟩
  | t :: r, lo => by
    obtain ⟨i1, i2⟩ := pswT z d r (lo + 1)
    unfold pkeysT psw
    rw [List.length_cons]
    constructor
    · intro hz
      rw [if_neg (by omega)]
      exact i1 (by omega)
    · intro h1 h2
      by_cases he : z = lo
      · rw [if_pos he, he]
        have : (lo - lo).toNat = 0 := by omega
        rw [this]
        rfl
      · rw [if_neg he]
        have : (z - lo).toNat = (z - (lo + 1)).toNat + 1 := by omega
        rw [this, List.getElem?_cons_succ]
        exact i2 (by omega) (by omega)
theorem pswL (pc : Nat) (g : Nat → Nat) (z d : Int) (x : Nat) (hd : (pc : Int) + d = (g x : Int)) : ∀ (ps : List (Int × Int)) (ts : List Nat), ps.map (fun q => (pc : Int) + q.2) = ts.map (fun q => (g q : Int)) → (pc : Int) + Op.lookupswitch.offset ps d z = (g (psw z ((ps.map (fun q => q.1)).zip ts) x) : Int)
  | [], ts, _ => hd
  | (a, b) :: r, [], hm => by simp at hm
  | (a, b) :: r, t :: ts, hm => by
    rw [List.map_cons, List.map_cons, List.cons.injEq] at hm
    rw [List.map_cons, List.zip_cons_cons, Op.lookupswitch.offset_cons]
    unfold psw
    by_cases hz : z = a
    · rw [if_pos hz, if_pos hz.symm]
      exact hm.1
    · rw [if_neg hz, if_neg (fun q => hz q.symm)]
      exact pswL pc g z d x hd r ts hm.2
section PWC
variable {p : Program} {l : Launch} {e : Env} {R : Room} {s : State} {m : MethodId} {args : Array Value} {below : List Frame} {meth : Method} {c : Code} {Q : State → Prop} {D : va_G} {X : Nat → Nat} {bs : Nat} {E : pX} {P : List pM} {M : pM}
variable {i pc x y : Nat} {v : Value} {ts : List Nat} {L L' : pL} {st st' r : List Value} {h h' : List pC} {cells slots : Nat}
theorem sw_table {dd lo hi : Int} {os : Array Int} {a : Int32} (B : SWc p s m args meth c D X bs E P M i (pc, .tableswitch dd lo hi os, x, y, v, ts)) (k : PW p l e R s m args below meth c Q D X bs M (psw a.toInt (pkeysT lo ts) x) L (r) h cells slots) : PW p l e R s m args below meth c Q D X bs M i L (.int a :: r) h cells slots := by
  obtain ⟨C, he, hd0, hn0, ha0, hl⟩ := B
  have hd : decode (m_b M) pc = .ok (.tableswitch dd lo hi os, y) := of_decide_eq_true hd0
  have ha : (decide ((pc : Int) + dd = (pcOf (m_code M) x : Int)) && (decide (hi = lo + (ts.length : Int) - 1) && decide (os.toList.map (fun z => (pc : Int) + z) = ts.map (fun z => (pcOf (m_code M) z : Int))))) = true := ha0
  rw [Bool.and_eq_true, Bool.and_eq_true] at ha
  have a1 := of_decide_eq_true ha.1
  have a2 := of_decide_eq_true ha.2.1
  have a3 := of_decide_eq_true ha.2.2
  obtain ⟨i1, i2⟩ := pswT a.toInt x ts lo
  by_cases hz : a.toInt < lo ∨ hi < a.toInt
  · rw [i1 (by omega)] at k
    exact pw_j (pcOf_at he) rfl k (fun H locs ls w => lv_tableOut C.1 C.2.1 hd hz a1 w)
  · have b1 : ¬ a.toInt < lo := fun q => hz (Or.inl q)
    have b2 : ¬ hi < a.toInt := fun q => hz (Or.inr q)
    have i2 := i2 b1 (by omega)
    have g := congrArg (fun l : List Int => l[(a.toInt - lo).toNat]?) a3
    simp only [List.getElem?_map, i2, Option.map_some] at g
    cases ho : os.toList[(a.toInt - lo).toNat]? with
    | none => rw [ho] at g; cases g
    | some off =>
      rw [ho] at g
      have g : (pc : Int) + off = (pcOf (m_code M) (psw a.toInt (pkeysT lo ts) x) : Int) := Option.some.inj g
      exact pw_j (pcOf_at he) rfl k (fun H locs ls w => lv_tableIn C.1 C.2.1 hd b1 b2 (by rw [← Array.getElem?_toList]; exact ho) g w)
theorem sw_lookup {dd : Int} {ps : Array (Int × Int)} {a : Int32} (B : SWc p s m args meth c D X bs E P M i (pc, .lookupswitch dd ps, x, y, v, ts)) (k : PW p l e R s m args below meth c Q D X bs M (psw a.toInt ((ps.toList.map (fun q => q.1)).zip ts) x) L (r) h cells slots) : PW p l e R s m args below meth c Q D X bs M i L (.int a :: r) h cells slots := by
  obtain ⟨C, he, hd0, hn0, ha0, hl⟩ := B
  have hd : decode (m_b M) pc = .ok (.lookupswitch dd ps, y) := of_decide_eq_true hd0
  have ha : (decide ((pc : Int) + dd = (pcOf (m_code M) x : Int)) && ((ps.toList.zip (ps.toList.drop 1)).all (fun (a, next) => a.1 < next.1) && decide (ps.toList.map (fun z => (pc : Int) + z.2) = ts.map (fun z => (pcOf (m_code M) z : Int))))) = true := ha0
  rw [Bool.and_eq_true, Bool.and_eq_true] at ha
  have a1 := of_decide_eq_true ha.1
  have a3 := of_decide_eq_true ha.2.2
  exact pw_j (pcOf_at he) rfl k (fun H locs ls w => lv_lookup C.1 C.2.1 hd ha.2.1 rfl (pswL pc (pcOf (m_code M)) a.toInt dd x a1 ps.toList ts a3) w)
theorem sw_copy {n a0 a1 : Nat} {sp dp z : Int32} {o0 o1 : Nat × (Nat → Int32)} (B : SWc p s m args meth c D X bs E P M i (pc, .invokestatic n, x, y, v, ts)) (hP : P[x]? = none) (hx9 : x = 99999) (hr8 : pcs r ≤ 8) (hR1 : 1 ≤ R.frames) (hR2 : 40 ≤ R.locals) (hi0 : pint h a0 = some o0) (hi1 : pint h a1 = some o1)
    (hz : 0 ≤ sp ∧ 0 ≤ dp ∧ 0 ≤ z ∧ sp.toNatClampNeg + z.toNatClampNeg ≤ o0.1 ∧ dp.toNatClampNeg + z.toNatClampNeg ≤ o1.1) (k : PW p l e R s m args below meth c Q D X bs M (i + 1) L (r) (h.set a1 (.inl (o1.1, va_cpy o0.2 o1.2 sp.toNatClampNeg dp.toNatClampNeg z.toNatClampNeg))) cells slots) : PW p l e R s m args below meth c Q D X bs M i L (.int z :: .int dp :: .ref a1 :: .int sp :: .ref a0 :: r) h cells slots := by
  obtain ⟨C, he, hd0, hn0, ha0, hl⟩ := B
  have hd : decode (m_b M) pc = .ok (.invokestatic n, 3) := of_decide_eq_true hd0
  have hn : pcOf (m_code M) (i + 1) = pc + 3 := of_decide_eq_true hn0
  subst hx9
  have hl2 : plnk P (m_y M).cls (pc, .invokestatic n, 99999, y, v, ts) = [.methodLink (m_y M).cls n arraycopyName, .native arraycopyName, .static arraycopyName, .initialized "java/lang/System"] := by
    show (match P[99999]? with
      | some N => [plk (m_y M).cls n (m_y N) v]
      | none => pnlk (m_y M).cls n 99999) = _
    rw [hP]
    rfl
  rw [hl2] at hl
  have w1 := C.2.2.2.2.1 _ (hl _ List.mem_cons_self)
  have w2 := C.2.2.2.2.1 _ (hl _ (List.mem_cons_of_mem _ List.mem_cons_self))
  have w3 := C.2.2.2.2.1 _ (hl _ (List.mem_cons_of_mem _ (List.mem_cons_of_mem _ List.mem_cons_self)))
  have w4 := C.2.2.2.2.1 _ (hl _ (List.mem_cons_of_mem _ (List.mem_cons_of_mem _ (List.mem_cons_of_mem _ List.mem_cons_self))))
  intro H locs ls HR HL g1 g2
  rw [show pcOf (m_code M) i = pc from pcOf_at he]
  obtain ⟨c0, hc0, hA0⟩ := HR.2 a0 _ (pint_at hi0)
  obtain ⟨c1, hc1, hA1⟩ := HR.2 a1 _ (pint_at hi1)
  obtain ⟨-, k0, hk0, cm0, hkk0⟩ := hA0 o0.1 (fun j => .int (o0.2 j))
  obtain ⟨-, k1, hk1, cm1, hkk1⟩ := hA1 o1.1 (fun j => .int (o1.2 j))
  have hprim : refKind FieldType.int = false := rfl
  have hpc := emb_pcs X bs r
  intro T hT Z
  obtain ⟨vm', Z', step⟩ := Z.arraycopy C.1 C.2.2.2.1 w1 w2 w3 w4 (src := bs + a0) (dst := bs + a1) (cs := arrV c0 o0.1 (fun j => .int (o0.2 j))) (cd := arrV c1 o1.1 (fun j => .int (o1.2 j))) (srcPos := sp) (destPos := dp) (n := z) (by rw [hT]; exact hc0) (by rw [hT]; exact hc1)
    (fun _ h => by cases h) (fun _ h => by cases h) (fun h => by cases h) (fun h => by cases h) hk0 hk1 hkk0 hkk1 (by simp [hprim]) (Int32.not_lt.mpr hz.1) (Int32.not_lt.mpr hz.2.1) (Int32.not_lt.mpr hz.2.2.1)
    (by rw [i32_nat hz.1, i32_nat hz.2.2.1]; show ¬ _ > ((arrV c0 o0.1 (fun j => .int (o0.2 j))).slots.size : Int); rw [arrV_size]; omega)
    (by rw [i32_nat hz.2.1, i32_nat hz.2.2.1]; show ¬ _ > ((arrV c1 o1.1 (fun j => .int (o1.2 j))).slots.size : Int); rw [arrV_size]; omega)
    (fun vm₁ _ i hi => by
      have e : (arrV c0 o0.1 (fun j => .int (o0.2 j))).slots.getD (sp.toNatClampNeg + i) .null = .int (o0.2 (sp.toNatClampNeg + i)) := by
        rw [Array.getD_eq_getD_getElem?, arrV_read _ _ (by omega)]
        rfl
      refine ⟨?_, ?_⟩
      · rw [e]
        rfl
      · rw [e]
        exact trivial)
    (g := F0 m pc ls (.int z :: .int dp :: .ref (bs + a1) :: .int sp :: .ref (bs + a0) :: r.map (emb X bs))) rfl (by show ls.size = _; rw [C.2.2.1]; exact HL.1.1) (rest := r.map (emb X bs)) rfl (by rw [C.2.1]; exact hd) hR1 (by
      have hw : nativeFrameWords "java/lang/System" "arraycopy" 5 + 11 ≤ 32 := by decide +kernel
      show 2 * 0 + ((r.map (emb X bs)).map fun v => v.category).sum + _ ≤ _
      omega)
  have e1 : copied (arrV c0 o0.1 (fun j => .int (o0.2 j))) (arrV c1 o1.1 (fun j => .int (o1.2 j))) sp dp z = arrV c1 o1.1 (fun j => .int (va_cpy o0.2 o1.2 sp.toNatClampNeg dp.toNatClampNeg z.toNatClampNeg j)) := va_copied (fun z => .int z) c0 c1 o0.2 o1.2 hz.2.2.2.1
  rw [e1] at Z' step
  have hlt : bs + a1 < H.size := (Array.getElem?_eq_some_iff.mp hc1).1
  generalize hcell : arrV c1 o1.1 (fun j => .int (va_cpy o0.2 o1.2 sp.toNatClampNeg dp.toNatClampNeg z.toNatClampNeg j)) = cell at Z' step
  have hheap : ((T.setVm vm').setCell (bs + a1) cell).heap = H.setIfInBounds (bs + a1) cell := by rw [← hT]; rfl
  have oq : ∀ q : Nat, q ≠ bs + a1 → (H.setIfInBounds (bs + a1) cell)[q]? = H[q]? := fun q hq => by simp [Array.getElem?_setIfInBounds, Ne.symm hq]
  have e2 : (H.setIfInBounds (bs + a1) cell)[bs + a1]? = some cell := by simp [Array.getElem?_setIfInBounds, hlt]
  have kk := fun (locs1 : List Loc) (hl : ∀ x ∈ locs1, bs ≤ x.base) => k (H.setIfInBounds (bs + a1) cell) locs1 ls (HR.set (pint_at hi1) (by simp) ⟨c1, by rw [hcell]; exact e2, hA1⟩ oq) HL (fun q hq => (oq q (by omega)).trans (g1 q hq)) hl
  rw [hn] at kk
  obtain ⟨t, b1, b2⟩ := kk _ (fun q hq => by
      rcases List.mem_append.mp hq with h | h
      · exact g2 q h
      · obtain ⟨w, -, hw⟩ := List.mem_map.mp h
        rw [← hw]
        exact Nat.le_add_right _ _) _ hheap Z'
  exact ⟨t, step t b1, b2⟩

theorem sw_mmax {n : Nat} {a b : Int32} (B : SWc p s m args meth c D X bs E P M i (pc, .invokestatic n, 99990, y, v, ts)) (hP : P[99990]? = none) (hr8 : pcs r ≤ 8) (hR1 : 1 ≤ R.frames) (hR2 : 40 ≤ R.locals) (hc : cells ≤ R.cells) (hsl : slots ≤ R.slots) (k : PW p l e R s m args below meth c Q D X bs M (i + 1) L (.int (if a < b then b else a) :: r) h cells slots) : PW p l e R s m args below meth c Q D X bs M i L (.int b :: .int a :: r) h cells slots := by
  obtain ⟨C, he, hd0, hn0, ha0, hl⟩ := B
  have hd : decode (m_b M) pc = .ok (.invokestatic n, 3) := of_decide_eq_true hd0
  have hn : pcOf (m_code M) (i + 1) = pc + 3 := of_decide_eq_true hn0
  have hl2 : plnk P (m_y M).cls (pc, .invokestatic n, 99990, y, v, ts) = [.methodLink (m_y M).cls n Lib.Math.max.name, .static Lib.Math.max.name, .initialized "java/lang/Math", .code Lib.Math.max.name Lib.Math.max.code 2 (some .int)] := by
    show (match P[99990]? with
      | some N => [plk (m_y M).cls n (m_y N) v]
      | none => pnlk (m_y M).cls n 99990) = _
    rw [hP]
    rfl
  rw [hl2] at hl
  have w1 := C.2.2.2.2.1 _ (hl _ List.mem_cons_self)
  have w2 := C.2.2.2.2.1 _ (hl _ (List.mem_cons_of_mem _ List.mem_cons_self))
  have w3 := C.2.2.2.2.1 _ (hl _ (List.mem_cons_of_mem _ (List.mem_cons_of_mem _ List.mem_cons_self)))
  have w4 := C.2.2.2.2.1 _ (hl _ (List.mem_cons_of_mem _ (List.mem_cons_of_mem _ (List.mem_cons_of_mem _ List.mem_cons_self))))
  exact pw_st (pcOf_at he) hn k (fun H locs ls HL w => va_mmax C.1 C.2.1 (by rw [C.2.2.1]; exact HL.1.1.symm) C.2.2.2.1 w1 w2 w3 w4 hR1 (by
    have := emb_pcs X bs r
    omega) hc hsl hd w)
theorem sw_mmin {n : Nat} {a b : Int32} (B : SWc p s m args meth c D X bs E P M i (pc, .invokestatic n, 99991, y, v, ts)) (hP : P[99991]? = none) (hr8 : pcs r ≤ 8) (hR1 : 1 ≤ R.frames) (hR2 : 40 ≤ R.locals) (hc : cells ≤ R.cells) (hsl : slots ≤ R.slots) (k : PW p l e R s m args below meth c Q D X bs M (i + 1) L (.int (if b < a then b else a) :: r) h cells slots) : PW p l e R s m args below meth c Q D X bs M i L (.int b :: .int a :: r) h cells slots := by
  obtain ⟨C, he, hd0, hn0, ha0, hl⟩ := B
  have hd : decode (m_b M) pc = .ok (.invokestatic n, 3) := of_decide_eq_true hd0
  have hn : pcOf (m_code M) (i + 1) = pc + 3 := of_decide_eq_true hn0
  have hl2 : plnk P (m_y M).cls (pc, .invokestatic n, 99991, y, v, ts) = [.methodLink (m_y M).cls n Lib.Math.min.name, .static Lib.Math.min.name, .initialized "java/lang/Math", .code Lib.Math.min.name Lib.Math.min.code 2 (some .int)] := by
    show (match P[99991]? with
      | some N => [plk (m_y M).cls n (m_y N) v]
      | none => pnlk (m_y M).cls n 99991) = _
    rw [hP]
    rfl
  rw [hl2] at hl
  have w1 := C.2.2.2.2.1 _ (hl _ List.mem_cons_self)
  have w2 := C.2.2.2.2.1 _ (hl _ (List.mem_cons_of_mem _ List.mem_cons_self))
  have w3 := C.2.2.2.2.1 _ (hl _ (List.mem_cons_of_mem _ (List.mem_cons_of_mem _ List.mem_cons_self)))
  have w4 := C.2.2.2.2.1 _ (hl _ (List.mem_cons_of_mem _ (List.mem_cons_of_mem _ (List.mem_cons_of_mem _ List.mem_cons_self))))
  exact pw_st (pcOf_at he) hn k (fun H locs ls HL w => va_mmin C.1 C.2.1 (by rw [C.2.2.1]; exact HL.1.1.symm) C.2.2.2.1 w1 w2 w3 w4 hR1 (by
    have := emb_pcs X bs r
    omega) hc hsl hd w)
theorem sw_mabs {n : Nat} {a : Int32} (B : SWc p s m args meth c D X bs E P M i (pc, .invokestatic n, 99992, y, v, ts)) (hP : P[99992]? = none) (hr8 : pcs r ≤ 8) (hR1 : 1 ≤ R.frames) (hR2 : 40 ≤ R.locals) (hc : cells ≤ R.cells) (hsl : slots ≤ R.slots) (k : PW p l e R s m args below meth c Q D X bs M (i + 1) L (.int (if 0 ≤ a then a else 0 - a) :: r) h cells slots) : PW p l e R s m args below meth c Q D X bs M i L (.int a :: r) h cells slots := by
  obtain ⟨C, he, hd0, hn0, ha0, hl⟩ := B
  have hd : decode (m_b M) pc = .ok (.invokestatic n, 3) := of_decide_eq_true hd0
  have hn : pcOf (m_code M) (i + 1) = pc + 3 := of_decide_eq_true hn0
  have hl2 : plnk P (m_y M).cls (pc, .invokestatic n, 99992, y, v, ts) = [.methodLink (m_y M).cls n Lib.Math.abs.name, .static Lib.Math.abs.name, .initialized "java/lang/Math", .code Lib.Math.abs.name Lib.Math.abs.code 1 (some .int)] := by
    show (match P[99992]? with
      | some N => [plk (m_y M).cls n (m_y N) v]
      | none => pnlk (m_y M).cls n 99992) = _
    rw [hP]
    rfl
  rw [hl2] at hl
  have w1 := C.2.2.2.2.1 _ (hl _ List.mem_cons_self)
  have w2 := C.2.2.2.2.1 _ (hl _ (List.mem_cons_of_mem _ List.mem_cons_self))
  have w3 := C.2.2.2.2.1 _ (hl _ (List.mem_cons_of_mem _ (List.mem_cons_of_mem _ List.mem_cons_self)))
  have w4 := C.2.2.2.2.1 _ (hl _ (List.mem_cons_of_mem _ (List.mem_cons_of_mem _ (List.mem_cons_of_mem _ List.mem_cons_self))))
  exact pw_st (pcOf_at he) hn k (fun H locs ls HL w => va_mabs C.1 C.2.1 (by rw [C.2.2.1]; exact HL.1.1.symm) C.2.2.2.1 w1 w2 w3 w4 hR1 (by
    have := emb_pcs X bs r
    omega) hc hsl hd w)
end PWC

/-! ===== one step of the pure machine is one step of the machine ===== -/
theorem pnx_inv {i : Nat} {L : pL} {st : List Value} {h : List pC} {σ : pS} (hs : pnx i L st h = some σ) : σ = (i + 1, L, st, h, 0, 0) := (Option.some.inj hs).symm
theorem psto_inv {q : Option pL} {i : Nat} {st : List Value} {h : List pC} {σ : pS} (hs : psto q i st h = some σ) : ∃ L', q = some L' ∧ σ = (i + 1, L', st, h, 0, 0) := by
  cases q with
  | none => cases hs
  | some L' => exact ⟨L', rfl, pnx_inv hs⟩
section PWD
variable {p : Program} {l : Launch} {e : Env} {R : Room} {s : State} {m : MethodId} {args : Array Value} {below : List Frame} {meth : Method} {c : Code} {Q : State → Prop} {D : va_G} {X : Nat → Nat} {bs : Nat} {E : pX} {P : List pM} {M : pM}
variable {i pc x y : Nat} {v : Value} {ts : List Nat} {L L' : pL} {st st' r : List Value} {h h' : List pC} {cells slots : Nat}
variable {t : pE} {σ : pS}
theorem pbin_inv {f : Int32 → Int32 → Int32} (hs : pbin f i L st h = some σ) : ∃ a b r, st = .int b :: .int a :: r ∧ σ = (i + 1, L, .int (f a b) :: r, h, 0, 0) := by
  unfold pbin at hs
  split at hs
  · exact ⟨_, _, _, rfl, pnx_inv hs⟩
  · cases hs
theorem pldi_inv (hs : pldi t i L st h = some σ) : ∃ a, pget L (e_x t) = some (.int a) ∧ σ = (i + 1, L, .int a :: st, h, 0, 0) := by
  unfold pldi at hs
  split at hs
  · rename_i q
    exact ⟨_, q, pnx_inv hs⟩
  · cases hs
theorem pldl_inv (hs : pldl t i L st h = some σ) : ∃ a, pget L (e_x t) = some (.long a) ∧ σ = (i + 1, L, .long a :: st, h, 0, 0) := by
  unfold pldl at hs
  split at hs
  · rename_i q
    exact ⟨_, q, pnx_inv hs⟩
  · cases hs
theorem plda_inv (hs : plda t i L st h = some σ) : (∃ a, pget L (e_x t) = some (.ref a) ∧ σ = (i + 1, L, .ref a :: st, h, 0, 0)) ∨ (pget L (e_x t) = some .null ∧ σ = (i + 1, L, .null :: st, h, 0, 0)) ∨ ∃ a, pget L (e_x t) = some (.retAddr a) ∧ σ = (i + 1, L, .retAddr a :: st, h, 0, 0) := by
  unfold plda at hs
  split at hs
  · rename_i q
    exact Or.inl ⟨_, q, pnx_inv hs⟩
  · rename_i q
    exact Or.inr (Or.inl ⟨q, pnx_inv hs⟩)
  · rename_i q
    exact Or.inr (Or.inr ⟨_, q, pnx_inv hs⟩)
  · cases hs
theorem psti_inv (hs : psti t i L st h = some σ) : ∃ a r L', st = .int a :: r ∧ pset L (e_x t) (.int a) = some L' ∧ σ = (i + 1, L', r, h, 0, 0) := by
  unfold psti at hs
  split at hs
  · obtain ⟨L', q, e⟩ := psto_inv hs
    exact ⟨_, _, L', rfl, q, e⟩
  · cases hs
theorem psta_inv (hs : psta t i L st h = some σ) : (∃ a r L', st = .ref a :: r ∧ pset L (e_x t) (.ref a) = some L' ∧ σ = (i + 1, L', r, h, 0, 0)) ∨ ∃ r L', st = .null :: r ∧ pset L (e_x t) .null = some L' ∧ σ = (i + 1, L', r, h, 0, 0) := by
  unfold psta at hs
  split at hs
  · obtain ⟨L', q, e⟩ := psto_inv hs
    exact Or.inl ⟨_, _, L', rfl, q, e⟩
  · obtain ⟨L', q, e⟩ := psto_inv hs
    exact Or.inr ⟨_, L', rfl, q, e⟩
  · cases hs
theorem sw_all (B : SWc p s m args meth c D X bs E P M i t) (hR1 : 1 ≤ R.frames) (hR2 : 40 ≤ R.locals) (hPl : P.length ≤ 90000) (hs : pstep E t i L st h = some σ) (hc : cells + σ.2.2.2.2.1 ≤ R.cells) (hsl : slots + σ.2.2.2.2.2 ≤ R.slots) (k : PW p l e R s m args below meth c Q D X bs M σ.1 σ.2.1 σ.2.2.1 σ.2.2.2.1 (cells + σ.2.2.2.2.1) (slots + σ.2.2.2.2.2)) : PW p l e R s m args below meth c Q D X bs M i L st h cells slots := by
  obtain ⟨pc, ins, x, y, v, ts⟩ := t
  have hPn : ∀ z, z = 99999 → P[z]? = none := fun z hz => List.getElem?_eq_none_iff.mpr (by omega)
  have hPm : ∀ z, 90000 ≤ z → P[z]? = none := fun z hz => List.getElem?_eq_none_iff.mpr (by omega)
  cases ins
  case iconst n =>
    obtain rfl := pnx_inv hs
    exact sw_iconst B k
  case bipush n =>
    obtain rfl := pnx_inv hs
    exact sw_bipush B k
  case sipush n =>
    obtain rfl := pnx_inv hs
    exact sw_sipush B k
  case lconst n =>
    obtain rfl := pnx_inv hs
    exact sw_lconst B k
  case ldc n =>
    obtain rfl := pnx_inv hs
    exact sw_ldc B k
  case ldc_w n =>
    obtain rfl := pnx_inv hs
    exact sw_ldc_w B k
  case ldc2_w n =>
    obtain rfl := pnx_inv hs
    exact sw_ldc2_w B k
  case aconst_null =>
    obtain rfl := pnx_inv hs
    exact sw_aconst_null B k
  case iload n =>
    obtain ⟨a, hv, rfl⟩ := pldi_inv (t := (pc, .iload n, x, y, v, ts)) hs
    exact sw_iload B hv k
  case iload_n n =>
    obtain ⟨a, hv, rfl⟩ := pldi_inv (t := (pc, .iload_n n, x, y, v, ts)) hs
    exact sw_iload_n B hv k
  case lload n =>
    obtain ⟨a, hv, rfl⟩ := pldl_inv (t := (pc, .lload n, x, y, v, ts)) hs
    exact sw_lload B hv k
  case lload_n n =>
    obtain ⟨a, hv, rfl⟩ := pldl_inv (t := (pc, .lload_n n, x, y, v, ts)) hs
    exact sw_lload_n B hv k
  case aload n =>
    rcases plda_inv (t := (pc, .aload n, x, y, v, ts)) hs with ⟨a, hv, rfl⟩ | ⟨hv, rfl⟩ | ⟨a, hv, rfl⟩
    · exact sw_aload B hv k
    · exact sw_aloadN B hv k
    · exact sw_aloadX B hv k
  case aload_n n =>
    rcases plda_inv (t := (pc, .aload_n n, x, y, v, ts)) hs with ⟨a, hv, rfl⟩ | ⟨hv, rfl⟩ | ⟨a, hv, rfl⟩
    · exact sw_aload_n B hv k
    · exact sw_aload_nN B hv k
    · exact sw_aload_nX B hv k
  case istore n =>
    obtain ⟨a, r, L1, rfl, hp, rfl⟩ := psti_inv (t := (pc, .istore n, x, y, v, ts)) hs
    exact sw_istore B hp k
  case istore_n n =>
    obtain ⟨a, r, L1, rfl, hp, rfl⟩ := psti_inv (t := (pc, .istore_n n, x, y, v, ts)) hs
    exact sw_istore_n B hp k
  case astore n =>
    rcases psta_inv (t := (pc, .astore n, x, y, v, ts)) hs with ⟨a, r, L1, rfl, hp, rfl⟩ | ⟨r, L1, rfl, hp, rfl⟩
    · exact sw_astore B hp k
    · exact sw_astoreN B hp k
  case astore_n n =>
    rcases psta_inv (t := (pc, .astore_n n, x, y, v, ts)) hs with ⟨a, r, L1, rfl, hp, rfl⟩ | ⟨r, L1, rfl, hp, rfl⟩
    · exact sw_astore_n B hp k
    · exact sw_astore_nN B hp k
  case iinc n z =>
    have hs : pinc z (pc, .iinc n z, x, y, v, ts) i L st h = some σ := hs
    unfold pinc at hs
    split at hs
    · rename_i hv
      obtain ⟨L1, hp, rfl⟩ := psto_inv hs
      exact sw_iinc B hv hp k
    · cases hs
  case iadd =>
    obtain ⟨a, b, r, rfl, rfl⟩ := pbin_inv hs
    exact sw_iadd B k
  case isub =>
    obtain ⟨a, b, r, rfl, rfl⟩ := pbin_inv hs
    exact sw_isub B k
  case imul =>
    obtain ⟨a, b, r, rfl, rfl⟩ := pbin_inv hs
    exact sw_imul B k
  case iand =>
    obtain ⟨a, b, r, rfl, rfl⟩ := pbin_inv hs
    exact sw_iand B k
  case ior =>
    obtain ⟨a, b, r, rfl, rfl⟩ := pbin_inv hs
    exact sw_ior B k
  case ixor =>
    obtain ⟨a, b, r, rfl, rfl⟩ := pbin_inv hs
    exact sw_ixor B k
  case ishl =>
    obtain ⟨a, b, r, rfl, rfl⟩ := pbin_inv hs
    exact sw_ishl B k
  case ishr =>
    obtain ⟨a, b, r, rfl, rfl⟩ := pbin_inv hs
    exact sw_ishr B k
  case iushr =>
    obtain ⟨a, b, r, rfl, rfl⟩ := pbin_inv hs
    exact sw_iushr B k
  case idiv =>
    have hs : pdiv (fun a b => a / b) i L st h = some σ := hs
    unfold pdiv at hs
    split at hs
    · split at hs
      · cases hs
      · rename_i h0
        obtain rfl := pnx_inv hs
        exact sw_idiv B h0 k
    · cases hs
  case irem =>
    have hs : pdiv (fun a b => a - a / b * b) i L st h = some σ := hs
    unfold pdiv at hs
    split at hs
    · split at hs
      · cases hs
      · rename_i h0
        obtain rfl := pnx_inv hs
        exact sw_irem B h0 k
    · cases hs
  case ineg =>
    have hs : puni (fun a => .int (-a)) i L st h = some σ := hs
    unfold puni at hs
    split at hs
    · obtain rfl := pnx_inv hs
      exact sw_ineg B k
    · cases hs
  case i2l =>
    have hs : puni (fun a => .long a.toInt64) i L st h = some σ := hs
    unfold puni at hs
    split at hs
    · obtain rfl := pnx_inv hs
      exact sw_i2l B k
    · cases hs
  case i2s =>
    have hs : puni (fun a => .int a.toInt16.toInt32) i L st h = some σ := hs
    unfold puni at hs
    split at hs
    · obtain rfl := pnx_inv hs
      exact sw_i2s B k
    · cases hs
  case i2c =>
    have hs : puni (fun a => .int (a.toUInt32 % 65536).toInt32) i L st h = some σ := hs
    unfold puni at hs
    split at hs
    · obtain rfl := pnx_inv hs
      exact sw_i2c B k
    · cases hs
  case ladd =>
    have hs : plbin (fun a b => .long (a + b)) i L st h = some σ := hs
    unfold plbin at hs
    split at hs
    · obtain rfl := pnx_inv hs
      exact sw_ladd B k
    · cases hs
  case lcmp =>
    have hs : plbin (fun a b => .int (lg_cmp a b)) i L st h = some σ := hs
    unfold plbin at hs
    split at hs
    · obtain rfl := pnx_inv hs
      exact sw_lcmp B k
    · cases hs
  case dup =>
    have hs : pdup i L st h = some σ := hs
    unfold pdup at hs
    split at hs
    · split at hs
      · rename_i h0
        obtain rfl := pnx_inv hs
        exact sw_dup B h0 k
      · cases hs
    · cases hs
  case dup2 =>
    have hs : pdup2 i L st h = some σ := hs
    unfold pdup2 at hs
    split at hs
    · split at hs
      · rename_i h0
        obtain rfl := pnx_inv hs
        exact sw_dup2 B h0 k
      · cases hs
    · cases hs
  case pop =>
    have hs : ppop i L st h = some σ := hs
    unfold ppop at hs
    split at hs
    · split at hs
      · rename_i h0
        obtain rfl := pnx_inv hs
        exact sw_pop B h0 k
      · cases hs
    · cases hs
  case goto z =>
    obtain rfl : σ = (x, L, st, h, 0, 0) := (Option.some.inj hs).symm
    exact sw_goto B k
  case ifCond k0 z =>
    have hs : pif1 k0 x i L st h = some σ := hs
    unfold pif1 at hs
    split at hs
    · obtain rfl := (Option.some.inj hs).symm
      refine sw_ifCond B (fun q => ?_) (fun q => ?_)
      · simp only [q, cond_true] at k
        exact k
      · simp only [q, cond_false] at k
        exact k
    · cases hs
  case if_icmp k0 z =>
    have hs : pif2 k0 x i L st h = some σ := hs
    unfold pif2 at hs
    split at hs
    · obtain rfl := (Option.some.inj hs).symm
      refine sw_if_icmp B (fun q => ?_) (fun q => ?_)
      · simp only [q, cond_true] at k
        exact k
      · simp only [q, cond_false] at k
        exact k
    · cases hs
  case ifnull z =>
    have hs : pifn x i L st h = some σ := hs
    unfold pifn at hs
    split at hs
    · obtain rfl := (Option.some.inj hs).symm
      exact sw_ifnullJ B k
    · obtain rfl := pnx_inv hs
      exact sw_ifnullF B k
    · cases hs
  case ifnonnull z =>
    have hs : pifnn x i L st h = some σ := hs
    unfold pifnn at hs
    split at hs
    · obtain rfl := pnx_inv hs
      exact sw_ifnonnullF B k
    · obtain rfl := (Option.some.inj hs).symm
      exact sw_ifnonnullJ B k
    · cases hs
  case tableswitch dd lo hi os =>
    have hs : pswi (pkeysT lo ts) x i L st h = some σ := hs
    unfold pswi at hs
    split at hs
    · obtain rfl := (Option.some.inj hs).symm
      exact sw_table B k
    · cases hs
  case lookupswitch dd ps =>
    have hs : pswi ((ps.toList.map (fun q => q.1)).zip ts) x i L st h = some σ := hs
    unfold pswi at hs
    split at hs
    · obtain rfl := (Option.some.inj hs).symm
      exact sw_lookup B k
    · cases hs
  case getfield n =>
    have hs : pgetf (pc, .getfield n, x, y, v, ts) i L st h = some σ := hs
    unfold pgetf at hs
    split at hs
    · split at hs
      · rename_i ho
        split at hs
        · rename_i hx1
          split at hs
          · rename_i hw
            obtain rfl := pnx_inv hs
            exact sw_getfield B ho hx1 hw k
          · cases hs
        · cases hs
      · cases hs
    · cases hs
  case putfield n =>
    have hs : pputf (pc, .putfield n, x, y, v, ts) i L st h = some σ := hs
    unfold pputf at hs
    split at hs
    · split at hs
      · rename_i ho
        split at hs
        · rename_i hx1
          split at hs
          · rename_i hf
            obtain rfl := pnx_inv hs
            exact sw_putfield B ho hx1 hf k
          · cases hs
        · cases hs
      · cases hs
    · cases hs
  case iaload =>
    have hs : piald E i L st h = some σ := hs
    unfold piald at hs
    split at hs
    · split at hs
      · rename_i ho
        split at hs
        · rename_i hj
          obtain rfl := pnx_inv hs
          exact sw_iaload B ho hj k
        · cases hs
      · cases hs
    · split at hs
      · rename_i ho
        split at hs
        · rename_i hj
          obtain rfl := pnx_inv hs
          exact sw_ialoadX B ho hj k
        · cases hs
      · cases hs
    · cases hs
  case iastore =>
    have hs : piast i L st h = some σ := hs
    unfold piast at hs
    split at hs
    · split at hs
      · rename_i ho
        split at hs
        · rename_i hj
          obtain rfl := pnx_inv hs
          exact sw_iastore B ho hj k
        · cases hs
      · cases hs
    · cases hs
  case aaload =>
    have hs : paald i L st h = some σ := hs
    unfold paald at hs
    split at hs
    · split at hs
      · rename_i ho
        split at hs
        · rename_i hj
          obtain rfl := pnx_inv hs
          exact sw_aaload B ho hj k
        · cases hs
      · cases hs
    · cases hs
  case aastore =>
    have hs : paast i L st h = some σ := hs
    unfold paast at hs
    split at hs
    · split at hs
      · rename_i ho hb
        split at hs
        · rename_i hx1
          split at hs
          · rename_i hj
            obtain rfl := pnx_inv hs
            exact sw_aastore B ho hb hx1 hj k
          · cases hs
        · cases hs
      · cases hs
    · cases hs
  case arraylength =>
    have hs : palen E i L st h = some σ := hs
    unfold palen at hs
    split at hs
    · split at hs
      · rename_i ho
        obtain rfl := pnx_inv hs
        exact sw_alenI B ho k
      · rename_i ho
        obtain rfl := pnx_inv hs
        exact sw_alenR B ho k
      · cases hs
    · split at hs
      · rename_i ho
        obtain rfl := pnx_inv hs
        exact sw_alenX B ho k
      · cases hs
    · cases hs
  case new n =>
    have hs : pnewc (pc, .new n, x, y, v, ts) i L st h = some σ := hs
    unfold pnewc at hs
    split at hs
    · rename_i hx1
      obtain rfl := (Option.some.inj hs).symm
      exact sw_new B hx1 hc hsl k
    · cases hs
  case newarray n =>
    have hs : pnewa i L st h = some σ := hs
    unfold pnewa at hs
    split at hs
    · split at hs
      · rename_i hj
        obtain rfl := (Option.some.inj hs).symm
        exact sw_newarray B hj hc hsl k
      · cases hs
    · cases hs
  case anewarray n =>
    have hs : pnewq (pc, .anewarray n, x, y, v, ts) i L st h = some σ := hs
    unfold pnewq at hs
    split at hs
    · split at hs
      · rename_i hj
        obtain rfl := (Option.some.inj hs).symm
        exact sw_anewarray B hj.1 hj.2 hc hsl k
      · cases hs
    · cases hs
  case invokestatic n =>
    have hq : pnats (pc, .invokestatic n, x, y, v, ts) i L st h = some σ := hs
    clear hs
    unfold pnats at hq
    split at hq
    · rename_i hx1
      obtain rfl : x = 99990 := hx1
      unfold pm2 at hq
      split at hq
      · split at hq
        · rename_i h8
          obtain rfl := pnx_inv hq
          exact sw_mmax B (hPm _ (by decide)) h8 hR1 hR2 hc hsl k
        · cases hq
      · cases hq
    · split at hq
      · rename_i hx1
        obtain rfl : x = 99991 := hx1
        unfold pm2 at hq
        split at hq
        · split at hq
          · rename_i h8
            obtain rfl := pnx_inv hq
            exact sw_mmin B (hPm _ (by decide)) h8 hR1 hR2 hc hsl k
          · cases hq
        · cases hq
      · split at hq
        · rename_i hx1
          obtain rfl : x = 99992 := hx1
          unfold pm1 at hq
          split at hq
          · split at hq
            · rename_i h8
              obtain rfl := pnx_inv hq
              exact sw_mabs B (hPm _ (by decide)) h8 hR1 hR2 hc hsl k
            · cases hq
          · cases hq
        · unfold pocopy at hq
          split at hq
          · split at hq
            · rename_i hx1
              split at hq
              · rename_i h0 h1
                split at hq
                · rename_i hz
                  obtain rfl := pnx_inv hq
                  exact sw_copy B (hPn _ hx1.1) hx1.1 hx1.2 hR1 hR2 h0 h1 hz k
                · cases hq
              · cases hq
            · cases hq
          · cases hq
  case invokespecial n =>
    have hs : poini (pc, .invokespecial n, x, y, v, ts) i L st h = some σ := hs
    unfold poini at hs
    split at hs
    · split at hs
      · rename_i hx1
        obtain rfl := pnx_inv hs
        exact sw_oini B (hPn _ hx1.1) hx1.2 hR1 hR2 k
      · cases hs
    · cases hs
  all_goals (have hs2 : (none : Option pS) = some σ := hs; cases hs2)
end PWD
end
section
/-! ===== calls, and a whole run ===== -/
theorem good_u {w : Cond} (h : w ∈ gtbl) : w ∈ utbl := by
  obtain ⟨h1, h2⟩ := List.mem_filter.mp h
  exact List.mem_filter.mpr ⟨h1, by unfold uword; rw [h2]; rfl⟩
theorem good_g {w : Cond} (h : w ∈ gtbl) : (w.onTables && w.keeps) = true ∨ ∃ ty, w = .arrayClass ty := good_of_word (List.mem_filter.mp h).2
def PCx (D : va_G) (X : Nat → Nat) (bs : Nat) (E : pX) (h : List pC) (U : State) : Prop := Rep D X bs U h U.heap ∧ va_K D pcls [] U ∧ (∀ (k : Nat) (x : Nat × (Nat → Int32)), E k = some x → va_X (X k) x.1 x.2 U U.heap ∧ X k < bs) ∧ (∀ w ∈ utbl, nword w = true → w.before #[] U = true) ∧ GS bs U
def PQ (D : va_G) (X : Nat → Nat) (bs : Nat) (r : Option Value) (h' : List pC) : Array Value → State → Outcome → State → Prop := fun _ st o t => o = .returned (r.map (emb X bs)) ∧ Rep D X bs t h' t.heap ∧ ∀ q : Nat, q < bs → t.heap[q]? = st.heap[q]?
def pws (M : pM) : List Cond := .code (m_y M) (m_b M) (m_l M) (m_r M) :: gtbl
def prm (d k n : Nat) : Room := { frames := d, cells := k, slots := n, locals := 40 * d }
/-- a method's contract: from the cells h, with these arguments, it answers r, the cells behind it are h' -/
def Cn (l : Launch) (E : pX) (M : pM) (d : Nat) (as : List Value) (h : List pC) (r : Option Value) (h' : List pC) (k n : Nat) : Prop :=
  ∀ (D : va_G) (X : Nat → Nat) (bs : Nat), Met l (m_y M) (pws M) (prm d k n) (va_Pc (as.map (emb X bs)) (PCx D X bs E h)) (PQ D X bs r h') k n (fun q => bs ≤ q)
theorem nword_same {w : Cond} (hw : nword w = true) {A A' : Array Value} {u U : State} (h : u.vm = U.vm) (hb : w.before A u = true) : w.before A' U = true := by
  unfold nword at hw
  split at hw
  · exact va_tabs rfl h hb
  · exact (va_AO.moved (u := u) (U := U) (by rw [h]; exact Vm.Alike.refl U.vm) hb)
  · cases hw
theorem nword_warm {w : Cond} (hw : nword w = true) {A A' : Array Value} {u U : State} (h : u.WarmedH U.vm) (hb : w.before A u = true) : w.before A' U = true := by
  unfold nword at hw
  split at hw
  · exact va_Nw.use rfl (va_Nw.warmM h (va_Nw.of rfl hb))
  · exact (va_AO.moved (u := u) (U := U) h.alike hb)
  · cases hw
theorem PCx.same {D : va_G} {X : Nat → Nat} {bs : Nat} {E : pX} {h : List pC} {u U : State} (hv : u.vm = U.vm) (hh : U.heap = u.heap) (hp : PCx D X bs E h u) : PCx D X bs E h U := by
  obtain ⟨h1, h2, h3, h4, h5⟩ := hp
  have hvm : u.vm.Alike U.vm := by rw [hv]; exact Vm.Alike.refl U.vm
  exact ⟨by rw [hh]; exact h1.moved hvm, h2.moved hvm, fun k x hk => ⟨by rw [hh]; exact (h3 k x hk).1.moved hvm, (h3 k x hk).2⟩, fun w hw hn => nword_same hn hv (h4 w hw hn), h5.same hv hh⟩
theorem fr_blind (av : List Value) (D : va_G) (X : Nat → Nat) (bs : Nat) (E : pX) (h : List pC) : FrameBlind (va_Pc av (PCx D X bs E h)) := fun a U g mk q => ⟨q.1, q.2.same (u := U) (U := U.calling g mk a) rfl rfl⟩
section PWE
variable {p : Program} {l : Launch} {e : Env} {R : Room} {s : State} {m : MethodId} {args : Array Value} {below : List Frame} {meth : Method} {c : Code} {Q : State → Prop} {D : va_G} {X : Nat → Nat} {bs : Nat} {E : pX} {P : List pM} {M N : pM}
variable {i pc x y : Nat} {v : Value} {ts : List Nat} {L L' : pL} {st st' r : List Value} {h h1 : List pC} {cells slots k1 n1 d : Nat} {r1 : Option Value}
theorem cx_at {H : Heap} (C : Cx p s m args meth c D X bs E M) (HR : Rep D X bs s h H) (g1 : ∀ q : Nat, q < bs → H[q]? = s.heap[q]?) (U : State) (hU : U.heap = H) (hW : s.WarmedH U.vm) : PCx D X bs E h U := by
  refine ⟨by rw [hU]; exact HR.moved hW.alike, C.2.2.2.2.2.1.moved hW.alike, fun k x hk => ?_, fun w hw hn => nword_warm hn hW (C.2.2.2.2.1 w hw), C.2.2.2.2.2.2.2.2.warm hW (fun q hq => by rw [hU]; exact g1 q hq)⟩
  obtain ⟨q1, q2⟩ := C.2.2.2.2.2.2.1 k x hk
  exact ⟨(q1.moved hW.alike).kept (by rw [hU]; exact g1 _ q2), q2⟩
theorem run_go {H : Heap} {locs : List Loc} {ls : Array Slot} {st0 rest : List Value} {a : Array Value} (hr : va_Run p l e R s m args below meth c H locs cells slots k1 n1 (F0 m pc ls st0) (rest.map (emb X bs)) (PQ D X bs r1 h1 a) (fun q => bs ≤ q))
    (HL : LH X bs ls (m_l M) L) (g1 : ∀ q : Nat, q < bs → H[q]? = s.heap[q]?) (g2 : ∀ x ∈ locs, bs ≤ x.base) (hn : pcOf (m_code M) (i + 1) = pc + 3)
    (kk : PW p l e R s m args below meth c Q D X bs M (i + 1) L (r1.toList ++ rest) h1 (cells + k1) (slots + n1)) : W p l e R s m args below meth c H locs cells slots Q (F0 m pc ls st0) := by
  intro T hT Z
  obtain ⟨v, st₀, t, T', Lc, h0, Z', hL, e1, e2, ⟨hv, hRp, hlow⟩, stp⟩ := hr T hT Z
  have hv : v = r1.map (emb X bs) := Outcome.returned.inj hv
  have hal : s.vm.Alike t.vm := by rw [← e2]; exact Z'.warmed.alike
  obtain ⟨t2, a1, b1⟩ := kk T'.heap (locs ++ Lc) ls (by rw [e1]; exact hRp.moved hal.symm) HL (fun q hq => by rw [e1, hlow q hq, h0]; exact g1 q hq) (fun z hz => by
    rcases List.mem_append.mp hz with hz | hz
    · exact g2 z hz
    · exact hL z hz) T' rfl Z'
  refine ⟨t2, stp t2 ?_, b1⟩
  rw [hn] at a1
  have hst : (r1.toList ++ rest).map (emb X bs) = v.toList ++ rest.map (emb X bs) := by
    rw [hv, List.map_append]
    cases r1 <;> rfl
  rw [hst] at a1
  exact a1
theorem pmB_s (h : pmB N = true) : plainName (m_y N).cls = true ∧ (m_y N).cls ≠ "java/lang/invoke/MethodHandle" ∧ (m_y N).cls ≠ "java/lang/invoke/VarHandle" ∧ (m_l N ≤ 21 ∧ pcOf (m_code N) 0 = 0) ∧ (m_k N = 1 → (pcls[m_c N]?).map (fun q => q.1) = some (m_y N).cls) ∧ (m_k N = 2 → (m_y N).name = "<init>" ∧ m_r N = none) := by
  unfold pmB at h
  rw [Bool.and_eq_true, Bool.and_eq_true, Bool.and_eq_true, Bool.and_eq_true] at h
  obtain ⟨h1, h2, h3, h4, h5⟩ := h
  refine ⟨h1, of_decide_eq_true h2, of_decide_eq_true h3, of_decide_eq_true h4, fun hk => ?_, fun hk => ?_⟩
  · rw [hk] at h5
    exact of_decide_eq_true h5
  · rw [hk] at h5
    have h5 : (decide (2 = 2) && (decide ((m_y N).name = "<init>") && decide (m_r N = none))) = true := h5
    rw [Bool.and_eq_true, Bool.and_eq_true] at h5
    exact ⟨of_decide_eq_true h5.2.1, of_decide_eq_true h5.2.2⟩
theorem pws_in (hN : ∀ w ∈ pmw N, w ∈ utbl) : GoodIn utbl (pws N) := by
  intro w hw
  rcases List.mem_cons.mp hw with rfl | hw
  · refine ⟨hN _ ?_, Or.inl rfl⟩
    unfold pmw
    split <;> exact List.mem_cons_self
  · exact ⟨good_u hw, good_g hw⟩
theorem stk_split {st : List Value} {y b : Nat} {r : List Value} (h : st.drop y = .ref b :: r) : st.map (emb X bs) = (((st.take y).reverse).map (emb X bs)).reverse ++ .ref (bs + b) :: r.map (emb X bs) ∧ (((st.take y).reverse).map (emb X bs)).length = y := by
  constructor
  · have h2 := List.take_append_drop y st
    rw [h] at h2
    rw [← List.map_reverse, List.reverse_reverse]
    conv => lhs; rw [← h2]
    rw [List.map_append]
    rfl
  · have hl : y < st.length := by
      have := congrArg List.length h
      rw [List.length_drop, List.length_cons] at this
      omega
    rw [List.length_map, List.length_reverse, List.length_take]
    omega
theorem stk_splitS {st : List Value} {y : Nat} (h : y ≤ st.length) : st.map (emb X bs) = (((st.take y).reverse).map (emb X bs)).reverse ++ (st.drop y).map (emb X bs) ∧ (((st.take y).reverse).map (emb X bs)).length = y := by
  constructor
  · rw [← List.map_reverse, List.reverse_reverse, ← List.map_append, List.take_append_drop]
  · rw [List.length_map, List.length_reverse, List.length_take]
    omega
theorem sum8 {r : List Value} (h : pcs r ≤ 8) : ((r.map (emb X bs)).map fun v => v.category).sum ≤ 8 := by
  rw [emb_pcs]
  exact h
theorem plk_nn {own : String} {k : Nat} {z : MethodName} {v : Value} (h : v ≠ .null) : plk own k z v = .methodLinkNest own k z "StoneSheets" := by cases v <;> first | rfl | exact absurd rfl h
theorem call_go {t : pE} {as rest : List Value} (B : SWc p s m args meth c D X bs E P M i t) (hc : pcall P t st h = some (N, as, rest)) (hN : WFm P N) (hM : Cn l E N d as h r1 h1 k1 n1) (hR : d + 1 ≤ R.frames ∧ 40 * (d + 1) ≤ R.locals ∧ cells + k1 ≤ R.cells ∧ slots + n1 ≤ R.slots)
    (kk : PW p l e R s m args below meth c Q D X bs M (i + 1) L (r1.toList ++ rest) h1 (cells + k1) (slots + n1)) : PW p l e R s m args below meth c Q D X bs M i L st h cells slots := by
  obtain ⟨pc, ins, x, y, v, ts⟩ := t
  obtain ⟨C, he, hd0, hn0, ha0, hl⟩ := B
  intro H locs ls HR HL g1 g2
  rw [show pcOf (m_code M) i = pc from pcOf_at he]
  obtain ⟨hNe, hNb, hNw⟩ := hN
  obtain ⟨b1, b2, b3, ⟨b4, b40⟩, b5, b6⟩ := pmB_s hNb
  have hroom : (prm d k1 n1).frames + 1 ≤ R.frames ∧ 8 + (m_l N + 11) + (prm d k1 n1).locals ≤ R.locals := ⟨hR.1, by show 8 + (m_l N + 11) + 40 * d ≤ R.locals; omega⟩
  have S : CallFix p m c (m_b M) (m_l M) s args utbl (m_y M).cls := ⟨C.1, C.2.1, C.2.2.1, C.2.2.2.1, C.2.2.2.2.1⟩
  have hts := C.2.2.2.2.1
  have hG : GoodIn utbl (pws N) := pws_in hNw
  have hls : ls.size = m_l M := HL.1.1
  unfold pcall at hc
  split at hc
  · -- invokestatic
    rename_i n hin
    obtain rfl : ins = .invokestatic n := hin
    split at hc
    · rename_i N' hx
      have hx : P[x]? = some N' := hx
      split at hc
      · rename_i hcond
        cases hc
        obtain ⟨c1, c2, c3⟩ := hcond
        have c2 : y ≤ st.length := c2
        have c3 : pcs (st.drop y) ≤ 8 := c3
        have hd : decode (m_b M) pc = .ok (.invokestatic n, 3) := of_decide_eq_true hd0
        have hn : pcOf (m_code M) (i + 1) = pc + 3 := of_decide_eq_true hn0
        have ha : pnn P x y = true := ha0
        unfold pnn at ha
        rw [hx] at ha
        have ha := of_decide_eq_true ha
        have hl2 : plnk P (m_y M).cls (pc, .invokestatic n, x, y, v, ts) = [plk (m_y M).cls n (m_y N) v] := by
          show (match P[x]? with
            | some N => [plk (m_y M).cls n (m_y N) v]
            | none => pnlk (m_y M).cls n x) = _
          rw [hx]
        rw [hl2] at hl
        have hlk := hl _ List.mem_cons_self
        have hk0 : pmw N = [.code (m_y N) (m_b N) (m_l N) (m_r N), .static (m_y N), .initialized (m_y N).cls] := by unfold pmw; rw [c1]; rfl
        rw [hk0] at hNw
        have w2 := hNw _ (List.mem_cons_of_mem _ List.mem_cons_self)
        have w3 := hNw _ (List.mem_cons_of_mem _ (List.mem_cons_of_mem _ List.mem_cons_self))
        obtain ⟨sp1, sp2⟩ := stk_splitS (X := X) (bs := bs) c2
        have hp : PreS s H (va_Pc ((((st.take y).reverse)).map (emb X bs)) (PCx D X bs E h)) (((st.take y).reverse).map (emb X bs)) := ⟨fr_blind _ D X bs E h, fun U hU hW => ⟨rfl, cx_at C HR g1 U hU hW⟩⟩
        by_cases hv : v = .null
        · subst hv
          have cw := va_cwS (R := R) (s := s) (args := args) (own := (m_y M).cls) (index := n) (rm := prm d k1 n1) (mc := k1) (ms := n1) y hts (ws := pws N) (fun w hw => by
            rcases List.mem_append.mp hw with hw | hw
            · rcases List.mem_cons.mp hw with rfl | hw
              · exact ⟨hlk, Or.inl rfl⟩
              · rcases List.mem_cons.mp hw with rfl | hw
                · exact ⟨w2, Or.inl rfl⟩
                · rw [List.mem_singleton.mp hw]; exact ⟨w3, Or.inl rfl⟩
            · exact hG w hw) rfl rfl rfl ⟨b2, b3, ha⟩ hroom
          exact run_go (va_runS S (hM D X bs) cw hp rfl sp2 hls sp1 (lv_room (sum8 c3)) hd ⟨hR.2.2.1, hR.2.2.2⟩) HL g1 g2 hn kk
        · rw [plk_nn hv] at hlk
          have cw := va_cnB (R := R) (s := s) (args := args) (own := (m_y M).cls) (host := "StoneSheets") (index := n) (rm := prm d k1 n1) (mc := k1) (ms := n1) y hts (ws := pws N) hG rfl rfl rfl (va_Nw.of rfl (hts _ hlk)) (hts _ w3) ⟨b2, b3, ha⟩ hroom
          exact run_go (va_runSN S (hM D X bs) ⟨cw, hts _ w2, trivial⟩ hp rfl sp2 hls sp1 (lv_room (sum8 c3)) hd ⟨hR.2.2.1, hR.2.2.2⟩) HL g1 g2 hn kk
      · cases hc
    · cases hc
  · -- invokevirtual
    rename_i n hin
    obtain rfl : ins = .invokevirtual n := hin
    split at hc
    · rename_i N' hx
      have hx : P[x]? = some N' := hx
      split at hc
      · rename_i b r hdr
        have hdr : st.drop y = .ref b :: r := hdr
        split at hc
        · rename_i o ho
          split at hc
          · rename_i hcond
            cases hc
            obtain ⟨c1, c2, c3⟩ := hcond
            have hd : decode (m_b M) pc = .ok (.invokevirtual n, 3) := of_decide_eq_true hd0
            have hn : pcOf (m_code M) (i + 1) = pc + 3 := of_decide_eq_true hn0
            have ha : pnn P x y = true := ha0
            unfold pnn at ha
            rw [hx] at ha
            have ha := of_decide_eq_true ha
            have hl2 : plnk P (m_y M).cls (pc, .invokevirtual n, x, y, v, ts) = [.methodLink (m_y M).cls n (m_y N)] := by
              show (match P[x]? with
                | some N => [Cond.methodLink (m_y M).cls n (m_y N)]
                | none => []) = _
              rw [hx]
            rw [hl2] at hl
            have hlk := hl _ List.mem_cons_self
            have hk0 : pmw N = [.code (m_y N) (m_b N) (m_l N) (m_r N), .instanceMethod (m_y N), .selects (m_y N).cls (m_y N) (m_y N), .initialized (m_y N).cls] := by unfold pmw; rw [c1]; rfl
            rw [hk0] at hNw
            have w2 := hNw _ (List.mem_cons_of_mem _ List.mem_cons_self)
            have w3 := hNw _ (List.mem_cons_of_mem _ (List.mem_cons_of_mem _ List.mem_cons_self))
            have w4 := hNw _ (List.mem_cons_of_mem _ (List.mem_cons_of_mem _ (List.mem_cons_of_mem _ List.mem_cons_self)))
            obtain ⟨sp1, sp2⟩ := stk_split (X := X) (bs := bs) hdr
            have hrecv : ∃ cellB : Cell, H[bs + b]? = some cellB ∧ cellB.vm.isStatics = false ∧ s.vm.findClass (m_y N).cls = some cellB.cls := by
              obtain ⟨r0, hr0, hlen, cell, q1, q2, q3, -⟩ := HR.2 b _ (pobj_at ho)
              have b5 := b5 c1
              rw [← c2, hr0] at b5
              have b5 : r0.1 = (m_y N).cls := Option.some.inj b5
              refine ⟨cell, q1, by rw [q3]; rfl, ?_⟩
              rw [← b5, q2]
              exact (C.2.2.2.2.2.1.1 _ r0 hr0).2.1
            have hp : PreV s H (m_y N).cls (bs + b) (va_Pc ((Value.ref b :: (st.take y).reverse).map (emb X bs)) (PCx D X bs E h)) (((st.take y).reverse).map (emb X bs)) := ⟨fr_blind _ D X bs E h, hrecv, fun U hU hW => ⟨rfl, cx_at C HR g1 U hU hW⟩⟩
            have cw := cwV (R := R) (s := s) (args := args) (own := (m_y M).cls) (C := (m_y N).cls) (index := n) (rm := prm d k1 n1) (mc := k1) (ms := n1) y hts (ws := pws N) (fun w hw => by
              rcases List.mem_append.mp hw with hw | hw
              · rcases List.mem_cons.mp hw with rfl | hw
                · exact ⟨hlk, Or.inl rfl⟩
                · rcases List.mem_cons.mp hw with rfl | hw
                  · exact ⟨w2, Or.inl rfl⟩
                  · rcases List.mem_cons.mp hw with rfl | hw
                    · exact ⟨w3, Or.inl rfl⟩
                    · rw [List.mem_singleton.mp hw]; exact ⟨w4, Or.inl rfl⟩
              · exact hG w hw) rfl rfl rfl ⟨rfl, b2, b3, ha⟩ hroom
            exact run_go (va_runV S (hM D X bs) cw hp rfl sp2 hls sp1 (lv_room (sum8 c3)) hd ⟨hR.2.2.1, hR.2.2.2⟩) HL g1 g2 hn kk
          · cases hc
        · cases hc
      · cases hc
    · cases hc
  · -- invokespecial
    rename_i n hin
    obtain rfl : ins = .invokespecial n := hin
    split at hc
    · rename_i N' hx
      have hx : P[x]? = some N' := hx
      split at hc
      · rename_i b r hdr
        have hdr : st.drop y = .ref b :: r := hdr
        split at hc
        · rename_i hcond
          cases hc
          obtain ⟨c1, c3⟩ := hcond
          have hd : decode (m_b M) pc = .ok (.invokespecial n, 3) := of_decide_eq_true hd0
          have hn : pcOf (m_code M) (i + 1) = pc + 3 := of_decide_eq_true hn0
          have ha : pnn P x y = true := ha0
          unfold pnn at ha
          rw [hx] at ha
          have ha := of_decide_eq_true ha
          have hl2 : plnk P (m_y M).cls (pc, .invokespecial n, x, y, v, ts) = [plk (m_y M).cls n (m_y N) v] := by
            show (match P[x]? with
              | some N => [plk (m_y M).cls n (m_y N) v]
              | none => [Cond.methodLink (m_y M).cls n Lib.objectInit, .instanceMethod Lib.objectInit, .code Lib.objectInit ⟨#[0xb1]⟩ 1 none]) = _
            rw [hx]
          rw [hl2] at hl
          have hlk := hl _ List.mem_cons_self
          have hk0 : pmw N = [.code (m_y N) (m_b N) (m_l N) (m_r N), .instanceMethod (m_y N), .initialized (m_y N).cls] := by unfold pmw; rw [c1]; rfl
          rw [hk0] at hNw
          have w2 := hNw _ (List.mem_cons_of_mem _ List.mem_cons_self)
          have w3 := hNw _ (List.mem_cons_of_mem _ (List.mem_cons_of_mem _ List.mem_cons_self))
          obtain ⟨hinit, hret⟩ := b6 c1
          obtain ⟨sp1, sp2⟩ := stk_split (X := X) (bs := bs) hdr
          have hp : PreS s H (va_Pc ((Value.ref b :: (st.take y).reverse).map (emb X bs)) (PCx D X bs E h)) (.ref (bs + b) :: ((st.take y).reverse).map (emb X bs)) := ⟨fr_blind _ D X bs E h, fun U hU hW => ⟨rfl, cx_at C HR g1 U hU hW⟩⟩
          have hw : pws N = .code (m_y N) (m_b N) (m_l N) none :: gtbl := by unfold pws; rw [hret]
          by_cases hv : v = .null
          · subst hv
            have cw := cwI (R := R) (s := s) (args := args) (own := (m_y M).cls) (index := n) (rm := prm d k1 n1) (mc := k1) (ms := n1) y hts (ws := pws N) hG hw rfl rfl (hts _ w3) (hts _ hlk) (hts _ w2) hinit ⟨b2, b3, ha⟩ hroom
            exact run_go (va_runI S (hM D X bs) cw hp rfl sp2 hls sp1 (lv_room (sum8 c3)) hd ⟨hR.2.2.1, hR.2.2.2⟩) HL g1 g2 hn kk
          · rw [plk_nn hv] at hlk
            have cw := va_cnB (R := R) (s := s) (args := args) (own := (m_y M).cls) (host := "StoneSheets") (index := n) (rm := prm d k1 n1) (mc := k1) (ms := n1) y hts (ws := pws N) hG hw rfl rfl (va_Nw.of rfl (hts _ hlk)) (hts _ w3) ⟨b2, b3, ha⟩ hroom
            exact run_go (va_runIN S (hM D X bs) ⟨cw, hinit, hts _ w2⟩ hp rfl sp2 hls sp1 (lv_room (sum8 c3)) hd ⟨hR.2.2.1, hR.2.2.2⟩) HL g1 g2 hn kk
        · cases hc
      · cases hc
    · cases hc
  · cases hc
end PWE
theorem pcall_in {P : List pM} {t : pE} {st : List Value} {h : List pC} {N : pM} {as rest : List Value} (hc : pcall P t st h = some (N, as, rest)) : N ∈ P := by
  unfold pcall at hc
  split at hc
  · split at hc
    · rename_i hx
      split at hc
      · cases hc
        exact List.mem_of_getElem? hx
      · cases hc
    · cases hc
  · split at hc
    · rename_i hx
      split at hc
      · split at hc
        · split at hc
          · cases hc
            exact List.mem_of_getElem? hx
          · cases hc
        · cases hc
      · cases hc
    · cases hc
  · split at hc
    · rename_i hx
      split at hc
      · split at hc
        · cases hc
          exact List.mem_of_getElem? hx
        · cases hc
      · cases hc
    · cases hc
  · cases hc
theorem ret_ok {p : Program} {l : Launch} {e : Env} {R : Room} {s : State} {m : MethodId} {args : Array Value} {below : List Frame} {meth : Method} {c : Code} {D : va_G} {X : Nat → Nat} {bs : Nat} {E : pX} {M : pM} (C : Cx p s m args meth c D X bs E M) (hr : meth.sig.returnType = m_r M) (hlocks : meth.locks = false) {i : Nat} {L : pL} {st : List Value} {h : List pC} {t : pE} {r : Option Value} {cells slots : Nat}
    (he : (m_code M)[i]? = some t) (hd : pwdec (m_b M) t = true) (hp : pret M t st = some r) : PW p l e R s m args below meth c (MQ below (PQ D X bs r h) args s cells slots (fun q => bs ≤ q)) D X bs M i L st h cells slots := by
  obtain ⟨pc, ins, x, y, v, ts⟩ := t
  intro H locs ls HR HL g1 g2
  rw [show pcOf (m_code M) i = pc from pcOf_at he]
  have q0 : ∀ (w : Option Value) (t : State), t.heap = H → s.WarmedH t.vm → PQ D X bs w h args s (.returned (w.map (emb X bs))) t := fun w t ht hW => ⟨rfl, by rw [ht]; exact HR.moved hW.alike, fun q hq => by rw [ht]; exact g1 q hq⟩
  unfold pret at hp
  split at hp
  · rename_i hin
    obtain rfl : ins = .return_ := hin
    have hd : decode (m_b M) pc = .ok (.return_, 1) := of_decide_eq_true hd
    split at hp
    · rename_i hm
      cases hp
      exact W.vret C.1 C.2.1 (hr.trans hm) (q0 none) g2 hd hlocks
    · cases hp
  · rename_i z hin
    obtain rfl : ins = .ireturn := hin
    have hd : decode (m_b M) pc = .ok (.ireturn, 1) := of_decide_eq_true hd
    split at hp
    · rename_i hm
      cases hp
      exact W.iret C.1 C.2.1 (hr.trans hm) (q0 (some (.int z))) g2 hd hlocks
    · rename_i hm
      split at hp
      · rename_i hz
        cases hp
        exact W.zret (ty := .boolean) C.1 C.2.1 (hr.trans hm) (by rcases hz with rfl | rfl <;> rfl) (q0 (some (.int z))) g2 hd hlocks
      · cases hp
    · cases hp
  · rename_i hin
    obtain rfl : ins = .areturn := hin
    have hd : decode (m_b M) pc = .ok (.areturn, 1) := of_decide_eq_true hd
    split at hp
    · rename_i cn hm
      cases hp
      exact W.aret C.1 C.2.1 (hr.trans hm) (Or.inl ⟨cn, rfl⟩) (Or.inl rfl) (q0 (some .null)) g2 hd hlocks
    · cases hp
  · rename_i a hin
    obtain rfl : ins = .areturn := hin
    have hd : decode (m_b M) pc = .ok (.areturn, 1) := of_decide_eq_true hd
    split at hp
    · rename_i cn hm
      cases hp
      exact W.aret C.1 C.2.1 (hr.trans hm) (Or.inl ⟨cn, rfl⟩) (Or.inr ⟨bs + a, rfl⟩) (q0 (some (.ref a))) g2 hd hlocks
    · cases hp
  · cases hp
theorem wfe_at {P : List pM} {M : pM} (hW : WFe P M) {i : Nat} {t : pE} (he : (m_code M)[i]? = some t) : pwdec (m_b M) t = true ∧ pwnext (m_code M) i t = true ∧ pwarg P M t = true ∧ ∀ w ∈ plnk P (m_y M).cls t, w ∈ utbl := by
  have h := pwAll_at (m_code M) 0 i t hW.1 he
  rw [Nat.zero_add, Bool.and_eq_true, Bool.and_eq_true] at h
  exact ⟨h.1, h.2.1, h.2.2, fun w hw => hW.2 w (List.mem_flatMap.mpr ⟨t, List.mem_of_getElem? he, hw⟩)⟩
/-- what a run of the pure machine with fuel f says of the machine -/
def Snd (l : Launch) (P : List pM) (E : pX) (V : pV) (f : Nat) : Prop :=
  ∀ (d : Nat) (M : pM) (i : Nat) (L : pL) (st : List Value) (h : List pC) (r : Option Value) (h' : List pC) (k n : Nat), pexec P E V f d M i L st h = some (r, h', k, n) → WFe P M →
    ∀ (p : Program) (e : Env) (R : Room) (s : State) (m : MethodId) (args : Array Value) (below : List Frame) (meth : Method) (c : Code) (Q : State → Prop) (D : va_G) (X : Nat → Nat) (bs : Nat), Cx p s m args meth c D X bs E M → d ≤ R.frames → 40 * d ≤ R.locals →
    ∀ mc ms cells slots : Nat, cells + k = mc → slots + n = ms → mc ≤ R.cells → ms ≤ R.slots →
    (∀ (i : Nat) (L : pL) (st : List Value) (t : pE), (m_code M)[i]? = some t → pret M t st = some r → PW p l e R s m args below meth c Q D X bs M i L st h' mc ms) → PW p l e R s m args below meth c Q D X bs M i L st h cells slots
theorem cn_of {l : Launch} {P : List pM} {E : pX} {V : pV} {f : Nat} (hS : Snd l P E V f) {d : Nat} {M : pM} {as : List Value} {h h' : List pC} {r : Option Value} {k n : Nat} (hM : WFm P M) (hlen : (pexp as).length ≤ m_l M) (hx : pexec P E V f d M 0 (pent (m_l M) as) [] h = some (r, h', k, n)) : Cn l E M d as h r h' k n := by
  intro D X bs
  obtain ⟨hMe, hMb, hMw⟩ := hM
  obtain ⟨b1, b2, b3, ⟨b4, b40⟩, b5, b6⟩ := pmB_s hMb
  refine Met.ofW (cc := m_b M) (maxL := m_l M) (ret := m_r M) b1 rfl ?_
  intro p e s m args below meth c s₁ B hml hv
  obtain ⟨rfl, hR, hK, hE, hN, hG⟩ := hv
  have hts : ∀ w ∈ pws M, w.before ((as.map (emb X bs)).toArray) s = true := atoms_spec (ws := pws M) B.pre
  have C : Cx p s m ((as.map (emb X bs)).toArray) meth c D X bs E M := ⟨B.exec, B.bytes, hml, findClass_of_methodNamed B.named, fun w hw => (by
    obtain ⟨hw1, hw2⟩ := List.mem_filter.mp hw
    by_cases hg : goodWord w = true
    · exact hts w (List.mem_cons_of_mem _ (List.mem_filter.mpr ⟨hw1, hg⟩))
    · have hn : nword w = true := by
        unfold uword at hw2
        rw [show goodWord w = false by simpa using hg, Bool.false_or] at hw2
        exact hw2
      exact nword_same hn rfl (hN w hw hn)), hK, hE, fun hk => (name_of_methodNamed B.named B.method).1.trans (b6 hk).1, hG⟩
  have hH := LH.entry X bs (m_l M) as hlen
  rw [lg_entry_eq]
  have key := hS d M 0 (pent (m_l M) as) [] h r h' k n hx hMe p e (headSpec (pws M) (prm d k n)).room s m ((as.map (emb X bs)).toArray) below meth c (MQ below (PQ D X bs r h') ((as.map (emb X bs)).toArray) s k n (fun q => bs ≤ q)) D X bs C (Nat.le_refl _) (Nat.le_refl _) k n 0 0 (Nat.zero_add _) (Nat.zero_add _) (Nat.le_refl _) (Nat.le_refl _)
    (fun i L st t he hp => ret_ok C B.returns B.notSynchronized he (wfe_at hMe he).1 hp) s.heap [] _ hR hH (fun _ _ => rfl) (fun x hx => by cases hx)
  rw [b40] at key
  exact key
theorem snd {l : Launch} {P : List pM} {E : pX} {V : pV} (hP : ∀ M ∈ P, WFm P M) (hPl : P.length ≤ 90000) (hV : ∀ M ∈ P, m_code M = [] → ∀ (as : List Value) (h : List pC) (r : Option Value), V M as h = some r → (∃ (t : pE) (st rest : List Value), pcall P t st h = some (M, as, rest)) → ∀ d : Nat, 6 ≤ d → Cn l E M d as h r h 0 0) : ∀ f : Nat, Snd l P E V f := by
  intro f
  induction f with
  | zero =>
    intro d M i L st h r h' k n hx
    cases hx
  | succ f ih =>
    intro d M i L st h r h' k n hx hMe p e R s m args below meth c Q D X bs C hR1 hR2 mc ms cells slots hcm hsm hcR hsR hret
    cases d with
    | zero => cases hx
    | succ d =>
      unfold pexec at hx
      split at hx
      · cases hx
      · rename_i t he
        obtain ⟨wd, wn, wa, wl⟩ := wfe_at hMe he
        have B : SWc p s m args meth c D X bs E P M i t := ⟨C, he, wd, wn, wa, wl⟩
        split at hx
        · rename_i rr hpr
          cases hx
          rw [← hcm, ← hsm] at hret
          exact hret i L st t he hpr
        · split at hx
          · rename_i N as rest hpc
            have hN := hP N (pcall_in hpc)
            split at hx
            · rename_i hcode
              split at hx
              · rename_i h6
                split at hx
                · rename_i r1 hv
                  have hM := hV N (pcall_in hpc) hcode as h r1 hv ⟨_, _, _, hpc⟩ d h6
                  refine call_go B hpc hN hM ⟨by omega, by omega, by omega, by omega⟩ ?_
                  exact ih (d + 1) M (i + 1) L (r1.toList ++ rest) h r h' k n hx hMe p e R s m args below meth c Q D X bs C hR1 hR2 mc ms _ _ (by omega) (by omega) hcR hsR hret
                · cases hx
              · cases hx
            · split at hx
              · rename_i hlen
                split at hx
                · rename_i r1 h1 k1 n1 hx1
                  split at hx
                  · rename_i r2 h2 k2 n2 hx2
                    cases hx
                    have hM := cn_of ih hN hlen hx1
                    refine call_go B hpc hN hM ⟨by omega, by omega, by omega, by omega⟩ ?_
                    exact ih (d + 1) M (i + 1) L (r1.toList ++ rest) h1 r h' k2 n2 hx2 hMe p e R s m args below meth c Q D X bs C hR1 hR2 mc ms _ _ (by omega) (by omega) hcR hsR hret
                  · cases hx
                · cases hx
              · cases hx
          · split at hx
            · rename_i i1 L1 st1 h1 dk dn hst
              split at hx
              · rename_i r2 h2 k2 n2 hx2
                cases hx
                refine sw_all B (by omega) (by omega) hPl hst (by show cells + dk ≤ R.cells; omega) (by show slots + dn ≤ R.slots; omega) ?_
                exact ih (d + 1) M i1 L1 st1 h1 r h' k2 n2 hx2 hMe p e R s m args below meth c Q D X bs C hR1 hR2 mc ms _ _ (by show cells + dk + k2 = mc; omega) (by show slots + dn + n2 = ms; omega) hcR hsR hret
              · cases hx
            · cases hx
end
section
/-! ===== runs of the pure machine, fuel left out ===== -/
section RAS
variable {P : List pM} {E : pX} {V : pV}
theorem pexec_up (f : Nat) : ∀ (d : Nat) (M : pM) (i : Nat) (L : pL) (st : List Value) (h : List pC) (res : pR), pexec P E V f d M i L st h = some res → pexec P E V (f + 1) d M i L st h = some res := by
  induction f with
  | zero =>
    intro d M i L st h res hx
    cases hx
  | succ f ih =>
    intro d M i L st h res hx
    cases d with
    | zero => cases hx
    | succ d =>
      rw [pexec] at hx ⊢
      cases he : (m_code M)[i]? with
      | none => rw [he] at hx; cases hx
      | some t =>
        rw [he] at hx
        dsimp only at hx ⊢
        cases hpr : pret M t st with
        | some rr => rw [hpr] at hx; exact hx
        | none =>
          rw [hpr] at hx
          dsimp only at hx ⊢
          cases hpc : pcall P t st h with
          | some w =>
            obtain ⟨N, as, rest⟩ := w
            rw [hpc] at hx
            dsimp only at hx ⊢
            cases hcode : m_code N with
            | nil =>
              rw [hcode] at hx
              dsimp only at hx ⊢
              split at hx
              · rename_i h6
                rw [if_pos h6]
                cases hv : V N as h with
                | none => rw [hv] at hx; cases hx
                | some r1 =>
                  rw [hv] at hx
                  exact ih _ _ _ _ _ _ _ hx
              · cases hx
            | cons u us =>
              rw [hcode] at hx
              dsimp only at hx ⊢
              split at hx
              · rename_i h6
                rw [if_pos h6]
                cases h1 : pexec P E V f d N 0 (pent (m_l N) as) [] h with
                | none => rw [h1] at hx; cases hx
                | some w =>
                  rw [ih _ _ _ _ _ _ _ h1]
                  rw [h1] at hx
                  obtain ⟨r1, g1, k1, n1⟩ := w
                  dsimp only at hx ⊢
                  cases h2 : pexec P E V f (d + 1) M (i + 1) L (r1.toList ++ rest) g1 with
                  | none => rw [h2] at hx; cases hx
                  | some w =>
                    rw [ih _ _ _ _ _ _ _ h2]
                    rw [h2] at hx
                    exact hx
              · cases hx
          | none =>
            rw [hpc] at hx
            dsimp only at hx ⊢
            cases hps : pstep E t i L st h with
            | none => rw [hps] at hx; cases hx
            | some w =>
              obtain ⟨i1, L1, st1, g1, dk, dn⟩ := w
              rw [hps] at hx
              dsimp only at hx ⊢
              cases h2 : pexec P E V f (d + 1) M i1 L1 st1 g1 with
              | none => rw [h2] at hx; cases hx
              | some w =>
                rw [ih _ _ _ _ _ _ _ h2]
                rw [h2] at hx
                exact hx
theorem pexec_le {f g : Nat} (hfg : f ≤ g) {d : Nat} {M : pM} {i : Nat} {L : pL} {st : List Value} {h : List pC} {res : pR} (hx : pexec P E V f d M i L st h = some res) : pexec P E V g d M i L st h = some res := by
  induction hfg with
  | refl => exact hx
  | step _ ih => exact pexec_up _ _ _ _ _ _ _ _ ih
def RA (P : List pM) (E : pX) (V : pV) (d : Nat) (M : pM) (i : Nat) (L : pL) (st : List Value) (h : List pC) (res : pR) : Prop := ∃ f, pexec P E V f d M i L st h = some res
def Run (P : List pM) (E : pX) (V : pV) (d : Nat) (N : pM) (as : List Value) (h : List pC) (res : pR) : Prop := (pexp as).length ≤ m_l N ∧ (∃ u us, m_code N = u :: us) ∧ RA P E V d N 0 (pent (m_l N) as) [] h res
variable {d : Nat} {M N : pM} {i i' : Nat} {L L' : pL} {st st' : List Value} {h h' h1 h2 : List pC} {t : pE} {r r1 r2 : Option Value} {k1 n1 k2 n2 : Nat} {res : pR}
theorem RA.ret (he : (m_code M)[i]? = some t) (hr : pret M t st = some r) : RA P E V (d + 1) M i L st h (r, h, 0, 0) := ⟨1, by rw [pexec, he]; dsimp only; rw [hr]⟩
theorem RA.step {dk dn : Nat} (he : (m_code M)[i]? = some t) (hr : pret M t st = none) (hc : pcall P t st h = none) (hs : pstep E t i L st h = some (i', L', st', h', dk, dn)) (k : RA P E V (d + 1) M i' L' st' h' (r, h2, k2, n2)) : RA P E V (d + 1) M i L st h (r, h2, dk + k2, dn + n2) := by
  obtain ⟨f, hf⟩ := k
  refine ⟨f + 1, ?_⟩
  rw [pexec, he]
  dsimp only
  rw [hr]
  dsimp only
  rw [hc]
  dsimp only
  rw [hs]
  dsimp only
  rw [hf]
theorem RA.step0 (he : (m_code M)[i]? = some t) (hr : pret M t st = none) (hc : pcall P t st h = none) (hs : pstep E t i L st h = some (i', L', st', h', 0, 0)) (k : RA P E V (d + 1) M i' L' st' h' res) : RA P E V (d + 1) M i L st h res := by
  obtain ⟨r, h2, k2, n2⟩ := res
  have q := RA.step he hr hc hs k
  rw [Nat.zero_add, Nat.zero_add] at q
  exact q
theorem RA.call {as rest : List Value} (he : (m_code M)[i]? = some t) (hr : pret M t st = none) (hc : pcall P t st h = some (N, as, rest)) (h0 : Run P E V d N as h (r1, h1, k1, n1)) (k : RA P E V (d + 1) M (i + 1) L (r1.toList ++ rest) h1 (r2, h2, k2, n2)) : RA P E V (d + 1) M i L st h (r2, h2, k1 + k2, n1 + n2) := by
  obtain ⟨hlen, ⟨u, us, hcode⟩, f, hf⟩ := h0
  obtain ⟨g, hg⟩ := k
  refine ⟨f + g + 1, ?_⟩
  rw [pexec, he]
  dsimp only
  rw [hr]
  dsimp only
  rw [hc]
  dsimp only
  rw [hcode]
  dsimp only
  rw [if_pos hlen, pexec_le (Nat.le_add_right f g) hf]
  dsimp only
  rw [pexec_le (Nat.le_add_left g f) hg]
theorem RA.call0 {as rest : List Value} (he : (m_code M)[i]? = some t) (hr : pret M t st = none) (hc : pcall P t st h = some (N, as, rest)) (h0 : Run P E V d N as h (r1, h1, 0, 0)) (k : RA P E V (d + 1) M (i + 1) L (r1.toList ++ rest) h1 res) : RA P E V (d + 1) M i L st h res := by
  obtain ⟨r, h2, k2, n2⟩ := res
  have q := RA.call he hr hc h0 k
  rw [Nat.zero_add, Nat.zero_add] at q
  exact q
theorem RA.prim {as rest : List Value} (he : (m_code M)[i]? = some t) (hr : pret M t st = none) (hc : pcall P t st h = some (N, as, rest)) (hcode : m_code N = []) (h6 : 6 ≤ d) (hv : V N as h = some r1) (k : RA P E V (d + 1) M (i + 1) L (r1.toList ++ rest) h res) : RA P E V (d + 1) M i L st h res := by
  obtain ⟨g, hg⟩ := k
  refine ⟨g + 1, ?_⟩
  rw [pexec, he]
  dsimp only
  rw [hr]
  dsimp only
  rw [hc]
  dsimp only
  rw [hcode]
  dsimp only
  rw [if_pos h6, hv]
  exact hg
def psteps (P : List pM) (E : pX) (M : pM) : Nat → Nat → pL → List Value → List pC → Option (Nat × pL × List Value × List pC)
  | 0, i, L, st, h => some (i, L, st, h)
  | n + 1, i, L, st, h => match (m_code M)[i]? with
    | some t => match pret M t st, pcall P t st h, pstep E t i L st h with
      | none, none, some (i', L', st', h', 0, 0) => psteps P E M n i' L' st' h'
      | _, _, _ => none
    | none => none
theorem RA.steps : ∀ (n : Nat) {i : Nat} {L : pL} {st : List Value} {h : List pC}, psteps P E M n i L st h = some (i', L', st', h') → RA P E V (d + 1) M i' L' st' h' res → RA P E V (d + 1) M i L st h res
  | 0, i, L, st, h, hs, k => by cases hs; exact k
  | n + 1, i, L, st, h, hs, k => by
    rw [psteps] at hs
    split at hs
    · rename_i t he
      split at hs
      · rename_i hr hc hps
        exact RA.step0 he hr hc hps (RA.steps n hs k)
      · cases hs
    · cases hs
theorem RA.if1 {k0 : ClassFile.Cond} {z : Int} {a : Int32} {pc x y : Nat} {v : Value} {ts : List Nat} {rest : List Value} (he : (m_code M)[i]? = some (pc, .ifCond k0 z, x, y, v, ts)) (kt : pc1 k0 a = true → RA P E V (d + 1) M x L rest h res) (kf : pc1 k0 a = false → RA P E V (d + 1) M (i + 1) L rest h res) : RA P E V (d + 1) M i L (.int a :: rest) h res := by
  cases hb : pc1 k0 a with
  | true => exact RA.step0 he rfl rfl (by show some (cond (pc1 k0 a) x (i + 1), L, rest, h, 0, 0) = _; rw [hb]; rfl) (kt hb)
  | false => exact RA.step0 he rfl rfl (by show some (cond (pc1 k0 a) x (i + 1), L, rest, h, 0, 0) = _; rw [hb]; rfl) (kf hb)
theorem RA.if2 {k0 : ClassFile.Cond} {z : Int} {a b : Int32} {pc x y : Nat} {v : Value} {ts : List Nat} {rest : List Value} (he : (m_code M)[i]? = some (pc, .if_icmp k0 z, x, y, v, ts)) (kt : pc2 k0 a b = true → RA P E V (d + 1) M x L rest h res) (kf : pc2 k0 a b = false → RA P E V (d + 1) M (i + 1) L rest h res) : RA P E V (d + 1) M i L (.int b :: .int a :: rest) h res := by
  cases hb : pc2 k0 a b with
  | true => exact RA.step0 he rfl rfl (by show some (cond (pc2 k0 a b) x (i + 1), L, rest, h, 0, 0) = _; rw [hb]; rfl) (kt hb)
  | false => exact RA.step0 he rfl rfl (by show some (cond (pc2 k0 a b) x (i + 1), L, rest, h, 0, 0) = _; rw [hb]; rfl) (kf hb)
theorem RA.to {res' : pR} (k : RA P E V d M i L st h res) (hq : res = res') : RA P E V d M i L st h res' := hq ▸ k
end RAS
end
section
/-! ===== objects stay objects of their class ===== -/
def Shp (h h' : List pC) : Prop := ∀ (a : Nat) (o : Nat × List Value), pobj h a = some o → ∃ o', pobj h' a = some o' ∧ o'.1 = o.1
theorem Shp.rf (h : List pC) : Shp h h := fun a o ho => ⟨o, ho, rfl⟩
theorem Shp.tr {h1 h2 h3 : List pC} (h12 : Shp h1 h2) (h23 : Shp h2 h3) : Shp h1 h3 := fun a o ho => by
  obtain ⟨o2, q2, e2⟩ := h12 a o ho
  obtain ⟨o3, q3, e3⟩ := h23 a o2 q2
  exact ⟨o3, q3, e3.trans e2⟩
theorem Shp.set {h : List pC} {k : Nat} {c c' : pC} (hk : h[k]? = some c) (hc : ∀ o, c = .inr (.inr o) → ∃ o', c' = .inr (.inr o') ∧ o'.1 = o.1) : Shp h (h.set k c') := by
  intro a o ho
  by_cases e : k = a
  · subst e
    have h1 := pobj_at ho
    rw [hk] at h1
    obtain ⟨o', q1, q2⟩ := hc o (Option.some.inj h1)
    refine ⟨o', ?_, q2⟩
    unfold pobj
    rw [List.getElem?_set_self (List.getElem?_eq_some_iff.mp hk).1, q1]
  · refine ⟨o, ?_, rfl⟩
    unfold pobj at ho ⊢
    rw [List.getElem?_set_ne e]
    exact ho
theorem Shp.push (h : List pC) (c : pC) : Shp h (h ++ [c]) := by
  intro a o ho
  refine ⟨o, ?_, rfl⟩
  have h1 := pobj_at ho
  unfold pobj
  rw [List.getElem?_append_left (List.getElem?_eq_some_iff.mp h1).1, h1]
section SHP
variable {E : pX} {P : List pM} {V : pV} {t : pE} {i : Nat} {L : pL} {st : List Value} {h : List pC} {σ : pS}
theorem pstep_shp (hs : pstep E t i L st h = some σ) : Shp h σ.2.2.2.1 := by
  obtain ⟨pc, ins, x, y, v, ts⟩ := t
  cases ins
  case iconst n =>
    obtain rfl := pnx_inv hs
    exact Shp.rf _
  case bipush n =>
    obtain rfl := pnx_inv hs
    exact Shp.rf _
  case sipush n =>
    obtain rfl := pnx_inv hs
    exact Shp.rf _
  case lconst n =>
    obtain rfl := pnx_inv hs
    exact Shp.rf _
  case ldc n =>
    obtain rfl := pnx_inv hs
    exact Shp.rf _
  case ldc_w n =>
    obtain rfl := pnx_inv hs
    exact Shp.rf _
  case ldc2_w n =>
    obtain rfl := pnx_inv hs
    exact Shp.rf _
  case aconst_null =>
    obtain rfl := pnx_inv hs
    exact Shp.rf _
  case iload n =>
    obtain ⟨a, hv, rfl⟩ := pldi_inv (t := (pc, .iload n, x, y, v, ts)) hs
    exact Shp.rf _
  case iload_n n =>
    obtain ⟨a, hv, rfl⟩ := pldi_inv (t := (pc, .iload_n n, x, y, v, ts)) hs
    exact Shp.rf _
  case lload n =>
    obtain ⟨a, hv, rfl⟩ := pldl_inv (t := (pc, .lload n, x, y, v, ts)) hs
    exact Shp.rf _
  case lload_n n =>
    obtain ⟨a, hv, rfl⟩ := pldl_inv (t := (pc, .lload_n n, x, y, v, ts)) hs
    exact Shp.rf _
  case aload n =>
    rcases plda_inv (t := (pc, .aload n, x, y, v, ts)) hs with ⟨a, hv, rfl⟩ | ⟨hv, rfl⟩ | ⟨a, hv, rfl⟩
    · exact Shp.rf _
    · exact Shp.rf _
    · exact Shp.rf _
  case aload_n n =>
    rcases plda_inv (t := (pc, .aload_n n, x, y, v, ts)) hs with ⟨a, hv, rfl⟩ | ⟨hv, rfl⟩ | ⟨a, hv, rfl⟩
    · exact Shp.rf _
    · exact Shp.rf _
    · exact Shp.rf _
  case istore n =>
    obtain ⟨a, r, L1, rfl, hp, rfl⟩ := psti_inv (t := (pc, .istore n, x, y, v, ts)) hs
    exact Shp.rf _
  case istore_n n =>
    obtain ⟨a, r, L1, rfl, hp, rfl⟩ := psti_inv (t := (pc, .istore_n n, x, y, v, ts)) hs
    exact Shp.rf _
  case astore n =>
    rcases psta_inv (t := (pc, .astore n, x, y, v, ts)) hs with ⟨a, r, L1, rfl, hp, rfl⟩ | ⟨r, L1, rfl, hp, rfl⟩
    · exact Shp.rf _
    · exact Shp.rf _
  case astore_n n =>
    rcases psta_inv (t := (pc, .astore_n n, x, y, v, ts)) hs with ⟨a, r, L1, rfl, hp, rfl⟩ | ⟨r, L1, rfl, hp, rfl⟩
    · exact Shp.rf _
    · exact Shp.rf _
  case iinc n z =>
    have hs : pinc z (pc, .iinc n z, x, y, v, ts) i L st h = some σ := hs
    unfold pinc at hs
    split at hs
    · rename_i hv
      obtain ⟨L1, hp, rfl⟩ := psto_inv hs
      exact Shp.rf _
    · cases hs
  case iadd =>
    obtain ⟨a, b, r, rfl, rfl⟩ := pbin_inv hs
    exact Shp.rf _
  case isub =>
    obtain ⟨a, b, r, rfl, rfl⟩ := pbin_inv hs
    exact Shp.rf _
  case imul =>
    obtain ⟨a, b, r, rfl, rfl⟩ := pbin_inv hs
    exact Shp.rf _
  case iand =>
    obtain ⟨a, b, r, rfl, rfl⟩ := pbin_inv hs
    exact Shp.rf _
  case ior =>
    obtain ⟨a, b, r, rfl, rfl⟩ := pbin_inv hs
    exact Shp.rf _
  case ixor =>
    obtain ⟨a, b, r, rfl, rfl⟩ := pbin_inv hs
    exact Shp.rf _
  case ishl =>
    obtain ⟨a, b, r, rfl, rfl⟩ := pbin_inv hs
    exact Shp.rf _
  case ishr =>
    obtain ⟨a, b, r, rfl, rfl⟩ := pbin_inv hs
    exact Shp.rf _
  case iushr =>
    obtain ⟨a, b, r, rfl, rfl⟩ := pbin_inv hs
    exact Shp.rf _
  case idiv =>
    have hs : pdiv (fun a b => a / b) i L st h = some σ := hs
    unfold pdiv at hs
    split at hs
    · split at hs
      · cases hs
      · rename_i h0
        obtain rfl := pnx_inv hs
        exact Shp.rf _
    · cases hs
  case irem =>
    have hs : pdiv (fun a b => a - a / b * b) i L st h = some σ := hs
    unfold pdiv at hs
    split at hs
    · split at hs
      · cases hs
      · rename_i h0
        obtain rfl := pnx_inv hs
        exact Shp.rf _
    · cases hs
  case ineg =>
    have hs : puni (fun a => .int (-a)) i L st h = some σ := hs
    unfold puni at hs
    split at hs
    · obtain rfl := pnx_inv hs
      exact Shp.rf _
    · cases hs
  case i2l =>
    have hs : puni (fun a => .long a.toInt64) i L st h = some σ := hs
    unfold puni at hs
    split at hs
    · obtain rfl := pnx_inv hs
      exact Shp.rf _
    · cases hs
  case i2s =>
    have hs : puni (fun a => .int a.toInt16.toInt32) i L st h = some σ := hs
    unfold puni at hs
    split at hs
    · obtain rfl := pnx_inv hs
      exact Shp.rf _
    · cases hs
  case i2c =>
    have hs : puni (fun a => .int (a.toUInt32 % 65536).toInt32) i L st h = some σ := hs
    unfold puni at hs
    split at hs
    · obtain rfl := pnx_inv hs
      exact Shp.rf _
    · cases hs
  case ladd =>
    have hs : plbin (fun a b => .long (a + b)) i L st h = some σ := hs
    unfold plbin at hs
    split at hs
    · obtain rfl := pnx_inv hs
      exact Shp.rf _
    · cases hs
  case lcmp =>
    have hs : plbin (fun a b => .int (lg_cmp a b)) i L st h = some σ := hs
    unfold plbin at hs
    split at hs
    · obtain rfl := pnx_inv hs
      exact Shp.rf _
    · cases hs
  case dup =>
    have hs : pdup i L st h = some σ := hs
    unfold pdup at hs
    split at hs
    · split at hs
      · rename_i h0
        obtain rfl := pnx_inv hs
        exact Shp.rf _
      · cases hs
    · cases hs
  case dup2 =>
    have hs : pdup2 i L st h = some σ := hs
    unfold pdup2 at hs
    split at hs
    · split at hs
      · rename_i h0
        obtain rfl := pnx_inv hs
        exact Shp.rf _
      · cases hs
    · cases hs
  case pop =>
    have hs : ppop i L st h = some σ := hs
    unfold ppop at hs
    split at hs
    · split at hs
      · rename_i h0
        obtain rfl := pnx_inv hs
        exact Shp.rf _
      · cases hs
    · cases hs
  case goto z =>
    obtain rfl : σ = (x, L, st, h, 0, 0) := (Option.some.inj hs).symm
    exact Shp.rf _
  case ifCond k0 z =>
    have hs : pif1 k0 x i L st h = some σ := hs
    unfold pif1 at hs
    split at hs
    · obtain rfl := (Option.some.inj hs).symm
      exact Shp.rf _
    · cases hs
  case if_icmp k0 z =>
    have hs : pif2 k0 x i L st h = some σ := hs
    unfold pif2 at hs
    split at hs
    · obtain rfl := (Option.some.inj hs).symm
      exact Shp.rf _
    · cases hs
  case ifnull z =>
    have hs : pifn x i L st h = some σ := hs
    unfold pifn at hs
    split at hs
    · obtain rfl := (Option.some.inj hs).symm
      exact Shp.rf _
    · obtain rfl := pnx_inv hs
      exact Shp.rf _
    · cases hs
  case ifnonnull z =>
    have hs : pifnn x i L st h = some σ := hs
    unfold pifnn at hs
    split at hs
    · obtain rfl := pnx_inv hs
      exact Shp.rf _
    · obtain rfl := (Option.some.inj hs).symm
      exact Shp.rf _
    · cases hs
  case tableswitch dd lo hi os =>
    have hs : pswi (pkeysT lo ts) x i L st h = some σ := hs
    unfold pswi at hs
    split at hs
    · obtain rfl := (Option.some.inj hs).symm
      exact Shp.rf _
    · cases hs
  case lookupswitch dd ps =>
    have hs : pswi ((ps.toList.map (fun q => q.1)).zip ts) x i L st h = some σ := hs
    unfold pswi at hs
    split at hs
    · obtain rfl := (Option.some.inj hs).symm
      exact Shp.rf _
    · cases hs
  case getfield n =>
    have hs : pgetf (pc, .getfield n, x, y, v, ts) i L st h = some σ := hs
    unfold pgetf at hs
    split at hs
    · split at hs
      · rename_i ho
        split at hs
        · rename_i hx1
          split at hs
          · rename_i hw
            obtain rfl := pnx_inv hs
            exact Shp.rf _
          · cases hs
        · cases hs
      · cases hs
    · cases hs
  case putfield n =>
    have hs : pputf (pc, .putfield n, x, y, v, ts) i L st h = some σ := hs
    unfold pputf at hs
    split at hs
    · split at hs
      · rename_i ho
        split at hs
        · rename_i hx1
          split at hs
          · rename_i hf
            obtain rfl := pnx_inv hs
            exact Shp.set (pobj_at ho) (fun o h => by cases h; exact ⟨_, rfl, rfl⟩)
          · cases hs
        · cases hs
      · cases hs
    · cases hs
  case iaload =>
    have hs : piald E i L st h = some σ := hs
    unfold piald at hs
    split at hs
    · split at hs
      · rename_i ho
        split at hs
        · rename_i hj
          obtain rfl := pnx_inv hs
          exact Shp.rf _
        · cases hs
      · cases hs
    · split at hs
      · rename_i ho
        split at hs
        · rename_i hj
          obtain rfl := pnx_inv hs
          exact Shp.rf _
        · cases hs
      · cases hs
    · cases hs
  case iastore =>
    have hs : piast i L st h = some σ := hs
    unfold piast at hs
    split at hs
    · split at hs
      · rename_i ho
        split at hs
        · rename_i hj
          obtain rfl := pnx_inv hs
          exact Shp.set (pint_at ho) (fun o h => by cases h)
        · cases hs
      · cases hs
    · cases hs
  case aaload =>
    have hs : paald i L st h = some σ := hs
    unfold paald at hs
    split at hs
    · split at hs
      · rename_i ho
        split at hs
        · rename_i hj
          obtain rfl := pnx_inv hs
          exact Shp.rf _
        · cases hs
      · cases hs
    · cases hs
  case aastore =>
    have hs : paast i L st h = some σ := hs
    unfold paast at hs
    split at hs
    · split at hs
      · rename_i ho hb
        split at hs
        · rename_i hx1
          split at hs
          · rename_i hj
            obtain rfl := pnx_inv hs
            exact Shp.set (pref_at ho) (fun o h => by cases h)
          · cases hs
        · cases hs
      · cases hs
    · cases hs
  case arraylength =>
    have hs : palen E i L st h = some σ := hs
    unfold palen at hs
    split at hs
    · split at hs
      · rename_i ho
        obtain rfl := pnx_inv hs
        exact Shp.rf _
      · rename_i ho
        obtain rfl := pnx_inv hs
        exact Shp.rf _
      · cases hs
    · split at hs
      · rename_i ho
        obtain rfl := pnx_inv hs
        exact Shp.rf _
      · cases hs
    · cases hs
  case new n =>
    have hs : pnewc (pc, .new n, x, y, v, ts) i L st h = some σ := hs
    unfold pnewc at hs
    split at hs
    · rename_i hx1
      obtain rfl := (Option.some.inj hs).symm
      exact Shp.push _ _
    · cases hs
  case newarray n =>
    have hs : pnewa i L st h = some σ := hs
    unfold pnewa at hs
    split at hs
    · split at hs
      · rename_i hj
        obtain rfl := (Option.some.inj hs).symm
        exact Shp.push _ _
      · cases hs
    · cases hs
  case anewarray n =>
    have hs : pnewq (pc, .anewarray n, x, y, v, ts) i L st h = some σ := hs
    unfold pnewq at hs
    split at hs
    · split at hs
      · rename_i hj
        obtain rfl := (Option.some.inj hs).symm
        exact Shp.push _ _
      · cases hs
    · cases hs
  case invokestatic n =>
    have hq : pnats (pc, .invokestatic n, x, y, v, ts) i L st h = some σ := hs
    clear hs
    unfold pnats at hq
    split at hq
    · rename_i hx1
      obtain rfl : x = 99990 := hx1
      unfold pm2 at hq
      split at hq
      · split at hq
        · rename_i h8
          obtain rfl := pnx_inv hq
          exact Shp.rf _
        · cases hq
      · cases hq
    · split at hq
      · rename_i hx1
        obtain rfl : x = 99991 := hx1
        unfold pm2 at hq
        split at hq
        · split at hq
          · rename_i h8
            obtain rfl := pnx_inv hq
            exact Shp.rf _
          · cases hq
        · cases hq
      · split at hq
        · rename_i hx1
          obtain rfl : x = 99992 := hx1
          unfold pm1 at hq
          split at hq
          · split at hq
            · rename_i h8
              obtain rfl := pnx_inv hq
              exact Shp.rf _
            · cases hq
          · cases hq
        · unfold pocopy at hq
          split at hq
          · split at hq
            · rename_i hx1
              split at hq
              · rename_i h0 h1
                split at hq
                · rename_i hz
                  obtain rfl := pnx_inv hq
                  exact Shp.set (pint_at h1) (fun o h => by cases h)
                · cases hq
              · cases hq
            · cases hq
          · cases hq
  case invokespecial n =>
    have hs : poini (pc, .invokespecial n, x, y, v, ts) i L st h = some σ := hs
    unfold poini at hs
    split at hs
    · split at hs
      · rename_i hx1
        obtain rfl := pnx_inv hs
        exact Shp.rf _
      · cases hs
    · cases hs
  all_goals (have hs2 : (none : Option pS) = some σ := hs; cases hs2)
theorem pexec_shp : ∀ (f d : Nat) (M : pM) (i : Nat) (L : pL) (st : List Value) (h : List pC) (res : pR), pexec P E V f d M i L st h = some res → Shp h res.2.1 := by
  intro f
  induction f with
  | zero =>
    intro d M i L st h res hx
    cases hx
  | succ f ih =>
    intro d M i L st h res hx
    cases d with
    | zero => cases hx
    | succ d =>
      unfold pexec at hx
      split at hx
      · cases hx
      · split at hx
        · cases hx
          exact Shp.rf _
        · split at hx
          · split at hx
            · split at hx
              · split at hx
                · exact ih _ _ _ _ _ _ _ hx
                · cases hx
              · cases hx
            · split at hx
              · split at hx
                · rename_i h1
                  split at hx
                  · rename_i h2
                    cases hx
                    have e1 := ih _ _ _ _ _ _ _ h1
                    have e2 := ih _ _ _ _ _ _ _ h2
                    exact Shp.tr e1 e2
                  · cases hx
                · cases hx
              · cases hx
          · split at hx
            · rename_i hst
              split at hx
              · rename_i h2
                cases hx
                have e1 := pstep_shp hst
                have e2 := ih _ _ _ _ _ _ _ h2
                exact Shp.tr e1 e2
              · cases hx
            · cases hx
theorem Run.shp {d : Nat} {N : pM} {as : List Value} {res : pR} (hr : Run P E V d N as h res) : Shp h res.2.1 := by
  obtain ⟨-, -, f, hf⟩ := hr
  exact pexec_shp f _ _ _ _ _ _ _ hf
end SHP
end
section
/-! ===== the methods as tables (printed by program) ===== -/
def mX0_init : pM := (⟨RX0, "<init>", "()V"⟩, prog_2_method_1_code, 1, none, 2, 0, [(0, .aload_n 0, 0, 0, .null, []),
  (1, .invokespecial 3, 99999, 0, .null, []),
  (4, .aload_n 0, 0, 0, .null, []),
  (5, .bipush 96, 0, 0, .int 96, []),
  (7, .newarray .int, 0, 0, .null, []),
  (9, .putfield 9, 0, 0, .null, []),
  (12, .return_, 0, 0, .null, [])])
def mX0_begin : pM := (⟨RX0, "begin", "(I)V"⟩, prog_2_method_2_code, 2, none, 1, 0, [(0, .aload_n 0, 0, 0, .null, []),
  (1, .iload_n 1, 1, 0, .null, []),
  (2, .putfield 15, 0, 2, .null, []),
  (5, .aload_n 0, 0, 0, .null, []),
  (6, .iconst 0, 0, 0, .int 0, []),
  (7, .putfield 19, 0, 1, .null, []),
  (10, .aload_n 0, 0, 0, .null, []),
  (11, .iconst 0, 0, 0, .int 0, []),
  (12, .putfield 22, 0, 3, .null, []),
  (15, .return_, 0, 0, .null, [])])
def mX0_add : pM := (⟨RX0, "add", "(I)V"⟩, prog_2_method_3_code, 2, none, 1, 0, [(0, .aload_n 0, 0, 0, .null, []),
  (1, .getfield 19, 0, 1, .null, []),
  (4, .ifCond .lt 35, 21, 0, .null, []),
  (7, .aload_n 0, 0, 0, .null, []),
  (8, .getfield 19, 0, 1, .null, []),
  (11, .aload_n 0, 0, 0, .null, []),
  (12, .getfield 9, 0, 0, .null, []),
  (15, .arraylength, 0, 0, .null, []),
  (16, .if_icmp .ge 23, 21, 0, .null, []),
  (19, .aload_n 0, 0, 0, .null, []),
  (20, .getfield 9, 0, 0, .null, []),
  (23, .aload_n 0, 0, 0, .null, []),
  (24, .getfield 19, 0, 1, .null, []),
  (27, .iload_n 1, 1, 0, .null, []),
  (28, .iastore, 0, 0, .null, []),
  (29, .aload_n 0, 0, 0, .null, []),
  (30, .dup, 0, 0, .null, []),
  (31, .getfield 19, 0, 1, .null, []),
  (34, .iconst 1, 0, 0, .int 1, []),
  (35, .iadd, 0, 0, .null, []),
  (36, .putfield 19, 0, 1, .null, []),
  (39, .return_, 0, 0, .null, [])])
def mX0_at : pM := (⟨RX0, "at", "(I)I"⟩, prog_2_method_4_code, 2, (some FieldType.int), 1, 0, [(0, .iload_n 1, 1, 0, .null, []),
  (1, .ifCond .lt 21, 12, 0, .null, []),
  (4, .iload_n 1, 1, 0, .null, []),
  (5, .aload_n 0, 0, 0, .null, []),
  (6, .getfield 9, 0, 0, .null, []),
  (9, .arraylength, 0, 0, .null, []),
  (10, .if_icmp .ge 12, 12, 0, .null, []),
  (13, .aload_n 0, 0, 0, .null, []),
  (14, .getfield 9, 0, 0, .null, []),
  (17, .iload_n 1, 1, 0, .null, []),
  (18, .iaload, 0, 0, .null, []),
  (19, .goto 4, 13, 0, .null, []),
  (22, .iconst 0, 0, 0, .int 0, []),
  (23, .ireturn, 0, 0, .null, [])])
def mX0_takeFrom : pM := (⟨RX0, "takeFrom", "(LStoneSheets$Law;)V"⟩, prog_2_method_5_code, 2, none, 1, 0, [(0, .aload_n 1, 1, 0, .null, []),
  (1, .getfield 9, 0, 0, .null, []),
  (4, .iconst 0, 0, 0, .int 0, []),
  (5, .aload_n 0, 0, 0, .null, []),
  (6, .getfield 9, 0, 0, .null, []),
  (9, .iconst 0, 0, 0, .int 0, []),
  (10, .bipush 96, 0, 0, .int 96, []),
  (12, .invokestatic 25, 99999, 0, .null, []),
  (15, .aload_n 0, 0, 0, .null, []),
  (16, .aload_n 1, 1, 0, .null, []),
  (17, .getfield 19, 0, 1, .null, []),
  (20, .putfield 19, 0, 1, .null, []),
  (23, .aload_n 0, 0, 0, .null, []),
  (24, .aload_n 1, 1, 0, .null, []),
  (25, .getfield 15, 0, 2, .null, []),
  (28, .putfield 15, 0, 2, .null, []),
  (31, .aload_n 0, 0, 0, .null, []),
  (32, .aload_n 1, 1, 0, .null, []),
  (33, .getfield 22, 0, 3, .null, []),
  (36, .putfield 22, 0, 3, .null, []),
  (39, .return_, 0, 0, .null, [])])
def mX1_init : pM := (⟨RX1, "<init>", "()V"⟩, prog_3_method_1_code, 2, none, 2, 1, [(0, .aload_n 0, 0, 0, .null, []),
  (1, .invokespecial 3, 99999, 0, .null, []),
  (4, .aload_n 0, 0, 0, .null, []),
  (5, .bipush 14, 0, 0, .int 14, []),
  (7, .anewarray 9, 0, 0, .null, []),
  (10, .putfield 11, 1, 0, .null, []),
  (13, .aload_n 0, 0, 0, .null, []),
  (14, .new 9, 0, 0, .null, []),
  (17, .dup, 0, 0, .null, []),
  (18, .invokespecial 17, 0, 0, .int 1, []),
  (21, .putfield 18, 1, 1, .null, []),
  (24, .aload_n 0, 0, 0, .null, []),
  (25, .bipush 96, 0, 0, .int 96, []),
  (27, .newarray .int, 0, 0, .null, []),
  (29, .putfield 22, 1, 2, .null, []),
  (32, .iconst 0, 0, 0, .int 0, []),
  (33, .istore_n 1, 1, 0, .null, []),
  (34, .iload_n 1, 1, 0, .null, []),
  (35, .aload_n 0, 0, 0, .null, []),
  (36, .getfield 11, 1, 0, .null, []),
  (39, .arraylength, 0, 0, .null, []),
  (40, .if_icmp .ge 22, 31, 0, .null, []),
  (43, .aload_n 0, 0, 0, .null, []),
  (44, .getfield 11, 1, 0, .null, []),
  (47, .iload_n 1, 1, 0, .null, []),
  (48, .new 9, 0, 0, .null, []),
  (51, .dup, 0, 0, .null, []),
  (52, .invokespecial 17, 0, 0, .int 1, []),
  (55, .aastore, 0, 0, .null, []),
  (56, .iinc 1 1, 1, 0, .null, []),
  (59, .goto (-25), 17, 0, .null, []),
  (62, .return_, 0, 0, .null, [])])
def mX1_one : pM := (⟨RX1, "one", "(I)LStoneSheets$Law;"⟩, prog_3_method_2_code, 2, (some (FieldType.object "StoneSheets$Law")), 1, 1, [(0, .iload_n 1, 1, 0, .null, []),
  (1, .ifCond .lt 21, 12, 0, .null, []),
  (4, .iload_n 1, 1, 0, .null, []),
  (5, .aload_n 0, 0, 0, .null, []),
  (6, .getfield 11, 1, 0, .null, []),
  (9, .arraylength, 0, 0, .null, []),
  (10, .if_icmp .ge 12, 12, 0, .null, []),
  (13, .aload_n 0, 0, 0, .null, []),
  (14, .getfield 11, 1, 0, .null, []),
  (17, .iload_n 1, 1, 0, .null, []),
  (18, .aaload, 0, 0, .null, []),
  (19, .goto 4, 13, 0, .null, []),
  (22, .aconst_null, 0, 0, .null, []),
  (23, .areturn, 0, 0, .null, [])])
def mX1_worked : pM := (⟨RX1, "worked", "(LStoneSheets$Law;LStoneSheets$Wall;LStoneSheets$Rubbing;)I"⟩, prog_3_method_3_code, 7, (some FieldType.int), 1, 1, [(0, .aload_n 0, 0, 0, .null, []),
  (1, .iconst 0, 0, 0, .int 0, []),
  (2, .putfield 26, 1, 3, .null, []),
  (5, .iconst 0, 0, 0, .int 0, []),
  (6, .istore 4, 4, 0, .null, []),
  (8, .iload 4, 4, 0, .null, []),
  (10, .aload_n 1, 1, 0, .null, []),
  (11, .getfield 30, 0, 1, .null, []),
  (14, .if_icmp .ge 103, 56, 0, .null, []),
  (17, .aload_n 1, 1, 0, .null, []),
  (18, .iload 4, 4, 0, .null, []),
  (20, .invokevirtual 33, 3, 1, .null, []),
  (23, .istore 5, 5, 0, .null, []),
  (25, .iload 5, 5, 0, .null, []),
  (27, .ifCond .lt 12, 19, 0, .null, []),
  (30, .aload_n 0, 0, 0, .null, []),
  (31, .iload 5, 5, 0, .null, []),
  (33, .invokevirtual 37, 8, 1, .null, []),
  (36, .goto 75, 54, 0, .null, []),
  (39, .iload 5, 5, 0, .null, []),
  (41, .ineg, 0, 0, .null, []),
  (42, .invokestatic 41, 19, 1, .null, []),
  (45, .ifCond .eq 18, 31, 0, .null, []),
  (48, .aload_n 0, 0, 0, .null, []),
  (49, .iload 5, 5, 0, .null, []),
  (51, .ineg, 0, 0, .null, []),
  (52, .aload_n 2, 2, 0, .null, []),
  (53, .aload_n 3, 3, 0, .null, []),
  (54, .invokestatic 47, 10, 3, .null, []),
  (57, .invokevirtual 37, 8, 1, .null, []),
  (60, .goto 51, 54, 0, .null, []),
  (63, .iload 5, 5, 0, .null, []),
  (65, .bipush (-33), 0, 0, .int (-33), []),
  (67, .if_icmp .ne 22, 43, 0, .null, []),
  (70, .aload_n 0, 0, 0, .null, []),
  (71, .aload_n 0, 0, 0, .null, []),
  (72, .invokevirtual 51, 9, 0, .null, []),
  (75, .ifCond .ne 7, 40, 0, .null, []),
  (78, .iconst 1, 0, 0, .int 1, []),
  (79, .goto 4, 41, 0, .null, []),
  (82, .iconst 0, 0, 0, .int 0, []),
  (83, .invokevirtual 37, 8, 1, .null, []),
  (86, .goto 25, 54, 0, .null, []),
  (89, .aload_n 0, 0, 0, .null, []),
  (90, .invokevirtual 51, 9, 0, .null, []),
  (93, .istore 6, 6, 0, .null, []),
  (95, .aload_n 0, 0, 0, .null, []),
  (96, .iload 5, 5, 0, .null, []),
  (98, .ineg, 0, 0, .null, []),
  (99, .aload_n 0, 0, 0, .null, []),
  (100, .invokevirtual 51, 9, 0, .null, []),
  (103, .iload 6, 6, 0, .null, []),
  (105, .invokestatic 55, 11, 3, .null, []),
  (108, .invokevirtual 37, 8, 1, .null, []),
  (111, .iinc 4 1, 4, 0, .null, []),
  (114, .goto (-106), 5, 0, .null, []),
  (117, .aload_n 0, 0, 0, .null, []),
  (118, .invokevirtual 51, 9, 0, .null, []),
  (121, .ireturn, 0, 0, .null, [])])
def mX1_push : pM := (⟨RX1, "push", "(I)V"⟩, prog_3_method_4_code, 2, none, 1, 1, [(0, .aload_n 0, 0, 0, .null, []),
  (1, .getfield 26, 1, 3, .null, []),
  (4, .ifCond .lt 35, 21, 0, .null, []),
  (7, .aload_n 0, 0, 0, .null, []),
  (8, .getfield 26, 1, 3, .null, []),
  (11, .aload_n 0, 0, 0, .null, []),
  (12, .getfield 22, 1, 2, .null, []),
  (15, .arraylength, 0, 0, .null, []),
  (16, .if_icmp .ge 23, 21, 0, .null, []),
  (19, .aload_n 0, 0, 0, .null, []),
  (20, .getfield 22, 1, 2, .null, []),
  (23, .aload_n 0, 0, 0, .null, []),
  (24, .getfield 26, 1, 3, .null, []),
  (27, .iload_n 1, 1, 0, .null, []),
  (28, .iastore, 0, 0, .null, []),
  (29, .aload_n 0, 0, 0, .null, []),
  (30, .dup, 0, 0, .null, []),
  (31, .getfield 26, 1, 3, .null, []),
  (34, .iconst 1, 0, 0, .int 1, []),
  (35, .iadd, 0, 0, .null, []),
  (36, .putfield 26, 1, 3, .null, []),
  (39, .return_, 0, 0, .null, [])])
def mX1_pop : pM := (⟨RX1, "pop", "()I"⟩, prog_3_method_5_code, 1, (some FieldType.int), 1, 1, [(0, .aload_n 0, 0, 0, .null, []),
  (1, .getfield 26, 1, 3, .null, []),
  (4, .ifCond .le 15, 9, 0, .null, []),
  (7, .aload_n 0, 0, 0, .null, []),
  (8, .getfield 26, 1, 3, .null, []),
  (11, .aload_n 0, 0, 0, .null, []),
  (12, .getfield 22, 1, 2, .null, []),
  (15, .arraylength, 0, 0, .null, []),
  (16, .if_icmp .le 5, 11, 0, .null, []),
  (19, .iconst 0, 0, 0, .int 0, []),
  (20, .ireturn, 0, 0, .null, []),
  (21, .aload_n 0, 0, 0, .null, []),
  (22, .dup, 0, 0, .null, []),
  (23, .getfield 26, 1, 3, .null, []),
  (26, .iconst 1, 0, 0, .int 1, []),
  (27, .isub, 0, 0, .null, []),
  (28, .putfield 26, 1, 3, .null, []),
  (31, .aload_n 0, 0, 0, .null, []),
  (32, .getfield 22, 1, 2, .null, []),
  (35, .aload_n 0, 0, 0, .null, []),
  (36, .getfield 26, 1, 3, .null, []),
  (39, .iaload, 0, 0, .null, []),
  (40, .ireturn, 0, 0, .null, [])])
def mX1_named : pM := (⟨RX1, "named", "(ILStoneSheets$Wall;LStoneSheets$Rubbing;)I"⟩, prog_3_method_6_code, 3, (some FieldType.int), 0, 1, [(0, .iload_n 0, 0, 0, .null, []),
  (1, .lookupswitch 79 #[(102, 48), (110, 43), (115, 66), (116, 53)], 22, 43, .null, [5, 2, 15, 8]),
  (44, .aload_n 1, 1, 0, .null, []),
  (45, .getfield 59, 6, 7, .null, []),
  (48, .ireturn, 0, 0, .null, []),
  (49, .aload_n 1, 1, 0, .null, []),
  (50, .getfield 64, 6, 8, .null, []),
  (53, .ireturn, 0, 0, .null, []),
  (54, .aload_n 2, 2, 0, .null, []),
  (55, .ifnonnull 7, 12, 0, .null, []),
  (58, .iconst 0, 0, 0, .int 0, []),
  (59, .goto 7, 14, 0, .null, []),
  (62, .aload_n 2, 2, 0, .null, []),
  (63, .getfield 67, 4, 5, .null, []),
  (66, .ireturn, 0, 0, .null, []),
  (67, .aload_n 2, 2, 0, .null, []),
  (68, .ifnonnull 7, 19, 0, .null, []),
  (71, .iconst 0, 0, 0, .int 0, []),
  (72, .goto 7, 21, 0, .null, []),
  (75, .aload_n 2, 2, 0, .null, []),
  (76, .getfield 72, 4, 2, .null, []),
  (79, .ireturn, 0, 0, .null, []),
  (80, .aload_n 2, 2, 0, .null, []),
  (81, .ifnonnull 7, 26, 0, .null, []),
  (84, .iconst 0, 0, 0, .int 0, []),
  (85, .goto 7, 28, 0, .null, []),
  (88, .aload_n 2, 2, 0, .null, []),
  (89, .getfield 75, 4, 4, .null, []),
  (92, .ireturn, 0, 0, .null, [])])
def mX1_joined : pM := (⟨RX1, "joined", "(III)I"⟩, prog_3_method_7_code, 3, (some FieldType.int), 0, 1, [(0, .iload_n 0, 0, 0, .null, []),
  (1, .lookupswitch 148 #[(38, 89), (42, 144), (43, 136), (45, 140), (60, 103), (61, 114), (62, 125), (124, 75)], 51, 75, .null, [10, 47, 39, 43, 18, 25, 32, 2]),
  (76, .iload_n 1, 1, 0, .null, []),
  (77, .ifCond .ne 7, 6, 0, .null, []),
  (80, .iload_n 2, 2, 0, .null, []),
  (81, .ifCond .eq 7, 8, 0, .null, []),
  (84, .iconst 1, 0, 0, .int 1, []),
  (85, .goto 4, 9, 0, .null, []),
  (88, .iconst 0, 0, 0, .int 0, []),
  (89, .ireturn, 0, 0, .null, []),
  (90, .iload_n 1, 1, 0, .null, []),
  (91, .ifCond .eq 11, 16, 0, .null, []),
  (94, .iload_n 2, 2, 0, .null, []),
  (95, .ifCond .eq 7, 16, 0, .null, []),
  (98, .iconst 1, 0, 0, .int 1, []),
  (99, .goto 4, 17, 0, .null, []),
  (102, .iconst 0, 0, 0, .int 0, []),
  (103, .ireturn, 0, 0, .null, []),
  (104, .iload_n 1, 1, 0, .null, []),
  (105, .iload_n 2, 2, 0, .null, []),
  (106, .if_icmp .ge 7, 23, 0, .null, []),
  (109, .iconst 1, 0, 0, .int 1, []),
  (110, .goto 4, 24, 0, .null, []),
  (113, .iconst 0, 0, 0, .int 0, []),
  (114, .ireturn, 0, 0, .null, []),
  (115, .iload_n 1, 1, 0, .null, []),
  (116, .iload_n 2, 2, 0, .null, []),
  (117, .if_icmp .ne 7, 30, 0, .null, []),
  (120, .iconst 1, 0, 0, .int 1, []),
  (121, .goto 4, 31, 0, .null, []),
  (124, .iconst 0, 0, 0, .int 0, []),
  (125, .ireturn, 0, 0, .null, []),
  (126, .iload_n 1, 1, 0, .null, []),
  (127, .iload_n 2, 2, 0, .null, []),
  (128, .if_icmp .le 7, 37, 0, .null, []),
  (131, .iconst 1, 0, 0, .int 1, []),
  (132, .goto 4, 38, 0, .null, []),
  (135, .iconst 0, 0, 0, .int 0, []),
  (136, .ireturn, 0, 0, .null, []),
  (137, .iload_n 1, 1, 0, .null, []),
  (138, .iload_n 2, 2, 0, .null, []),
  (139, .iadd, 0, 0, .null, []),
  (140, .ireturn, 0, 0, .null, []),
  (141, .iload_n 1, 1, 0, .null, []),
  (142, .iload_n 2, 2, 0, .null, []),
  (143, .isub, 0, 0, .null, []),
  (144, .ireturn, 0, 0, .null, []),
  (145, .iload_n 1, 1, 0, .null, []),
  (146, .iload_n 2, 2, 0, .null, []),
  (147, .imul, 0, 0, .null, []),
  (148, .ireturn, 0, 0, .null, []),
  (149, .iload_n 2, 2, 0, .null, []),
  (150, .ifCond .ne 7, 55, 0, .null, []),
  (153, .iconst 0, 0, 0, .int 0, []),
  (154, .goto 6, 58, 0, .null, []),
  (157, .iload_n 1, 1, 0, .null, []),
  (158, .iload_n 2, 2, 0, .null, []),
  (159, .idiv, 0, 0, .null, []),
  (160, .ireturn, 0, 0, .null, [])])
def mX2_init : pM := (⟨RX2, "<init>", "()V"⟩, prog_4_method_1_code, 1, none, 2, 2, [(0, .aload_n 0, 0, 0, .null, []),
  (1, .invokespecial 3, 99999, 0, .null, []),
  (4, .aload_n 0, 0, 0, .null, []),
  (5, .bipush 96, 0, 0, .int 96, []),
  (7, .newarray .int, 0, 0, .null, []),
  (9, .putfield 9, 2, 0, .null, []),
  (12, .aload_n 0, 0, 0, .null, []),
  (13, .bipush 96, 0, 0, .int 96, []),
  (15, .newarray .int, 0, 0, .null, []),
  (17, .putfield 15, 2, 6, .null, []),
  (20, .return_, 0, 0, .null, [])])
def mX2_hasRoom : pM := (⟨RX2, "hasRoom", "(I)Z"⟩, prog_4_method_2_code, 2, (some FieldType.boolean), 1, 2, [(0, .aload_n 0, 0, 0, .null, []),
  (1, .getfield 18, 2, 1, .null, []),
  (4, .iload_n 1, 1, 0, .null, []),
  (5, .iadd, 0, 0, .null, []),
  (6, .bipush 96, 0, 0, .int 96, []),
  (8, .if_icmp .gt 7, 8, 0, .null, []),
  (11, .iconst 1, 0, 0, .int 1, []),
  (12, .goto 4, 9, 0, .null, []),
  (15, .iconst 0, 0, 0, .int 0, []),
  (16, .ireturn, 0, 0, .null, [])])
def mX2_takeNumber : pM := (⟨RX2, "takeNumber", "(I)V"⟩, prog_4_method_3_code, 3, none, 1, 2, [(0, .bipush 24, 0, 0, .int 24, []),
  (2, .istore_n 2, 2, 0, .null, []),
  (3, .iload_n 2, 2, 0, .null, []),
  (4, .ifCond .lt 54, 31, 0, .null, []),
  (7, .aload_n 0, 0, 0, .null, []),
  (8, .getfield 18, 2, 1, .null, []),
  (11, .ifCond .lt 41, 29, 0, .null, []),
  (14, .aload_n 0, 0, 0, .null, []),
  (15, .getfield 18, 2, 1, .null, []),
  (18, .aload_n 0, 0, 0, .null, []),
  (19, .getfield 9, 2, 0, .null, []),
  (22, .arraylength, 0, 0, .null, []),
  (23, .if_icmp .ge 29, 29, 0, .null, []),
  (26, .aload_n 0, 0, 0, .null, []),
  (27, .getfield 9, 2, 0, .null, []),
  (30, .aload_n 0, 0, 0, .null, []),
  (31, .getfield 18, 2, 1, .null, []),
  (34, .iload_n 1, 1, 0, .null, []),
  (35, .iload_n 2, 2, 0, .null, []),
  (36, .iushr, 0, 0, .null, []),
  (37, .sipush 255, 0, 0, .int 255, []),
  (40, .iand, 0, 0, .null, []),
  (41, .iastore, 0, 0, .null, []),
  (42, .aload_n 0, 0, 0, .null, []),
  (43, .dup, 0, 0, .null, []),
  (44, .getfield 18, 2, 1, .null, []),
  (47, .iconst 1, 0, 0, .int 1, []),
  (48, .iadd, 0, 0, .null, []),
  (49, .putfield 18, 2, 1, .null, []),
  (52, .iinc 2 (-8), 2, 0, .null, []),
  (55, .goto (-52), 2, 0, .null, []),
  (58, .return_, 0, 0, .null, [])])
def mX2_readInto : pM := (⟨RX2, "readInto", "(LStoneSheets$Law;)I"⟩, prog_4_method_4_code, 4, (some FieldType.int), 1, 2, [(0, .aload_n 0, 0, 0, .null, []),
  (1, .iconst 0, 0, 0, .int 0, []),
  (2, .putfield 22, 2, 4, .null, []),
  (5, .aload_n 0, 0, 0, .null, []),
  (6, .iconst 3, 0, 0, .int 3, []),
  (7, .putfield 25, 2, 2, .null, []),
  (10, .aload_n 0, 0, 0, .null, []),
  (11, .invokevirtual 28, 16, 0, .null, []),
  (14, .aload_n 0, 0, 0, .null, []),
  (15, .invokevirtual 31, 20, 0, .null, []),
  (18, .istore_n 2, 2, 0, .null, []),
  (19, .iload_n 2, 2, 0, .null, []),
  (20, .ifCond .ge 8, 16, 0, .null, []),
  (23, .aload_n 0, 0, 0, .null, []),
  (24, .getfield 35, 2, 3, .null, []),
  (27, .ireturn, 0, 0, .null, []),
  (28, .aload_n 1, 1, 0, .null, []),
  (29, .iload_n 2, 2, 0, .null, []),
  (30, .invokevirtual 38, 1, 1, .null, []),
  (33, .aload_n 0, 0, 0, .null, []),
  (34, .iconst 0, 0, 0, .int 0, []),
  (35, .putfield 44, 2, 7, .null, []),
  (38, .aload_n 0, 0, 0, .null, []),
  (39, .iconst 0, 0, 0, .int 0, []),
  (40, .putfield 47, 2, 8, .null, []),
  (43, .aload_n 0, 0, 0, .null, []),
  (44, .iconst 0, 0, 0, .int 0, []),
  (45, .putfield 50, 2, 9, .null, []),
  (48, .aload_n 0, 0, 0, .null, []),
  (49, .iconst 1, 0, 0, .int 1, []),
  (50, .putfield 53, 2, 10, .null, []),
  (53, .aload_n 0, 0, 0, .null, []),
  (54, .invokevirtual 28, 16, 0, .null, []),
  (57, .iconst 0, 0, 0, .int 0, []),
  (58, .istore_n 3, 3, 0, .null, []),
  (59, .iload_n 3, 3, 0, .null, []),
  (60, .bipush 96, 0, 0, .int 96, []),
  (62, .if_icmp .ge 33, 52, 0, .null, []),
  (65, .aload_n 0, 0, 0, .null, []),
  (66, .getfield 25, 2, 2, .null, []),
  (69, .ifCond .eq 26, 52, 0, .null, []),
  (72, .aload_n 0, 0, 0, .null, []),
  (73, .aload_n 1, 1, 0, .null, []),
  (74, .invokevirtual 57, 22, 1, .null, []),
  (77, .ifCond .ne 8, 48, 0, .null, []),
  (80, .aload_n 0, 0, 0, .null, []),
  (81, .getfield 35, 2, 3, .null, []),
  (84, .ireturn, 0, 0, .null, []),
  (85, .aload_n 0, 0, 0, .null, []),
  (86, .invokevirtual 28, 16, 0, .null, []),
  (89, .iinc 3 1, 3, 0, .null, []),
  (92, .goto (-33), 35, 0, .null, []),
  (95, .aload_n 0, 0, 0, .null, []),
  (96, .getfield 53, 2, 10, .null, []),
  (99, .ifCond .ne 10, 58, 0, .null, []),
  (102, .aload_n 0, 0, 0, .null, []),
  (103, .getfield 47, 2, 8, .null, []),
  (106, .ifCond .le 8, 61, 0, .null, []),
  (109, .aload_n 0, 0, 0, .null, []),
  (110, .getfield 35, 2, 3, .null, []),
  (113, .ireturn, 0, 0, .null, []),
  (114, .aload_n 0, 0, 0, .null, []),
  (115, .aload_n 1, 1, 0, .null, []),
  (116, .iconst 1, 0, 0, .int 1, []),
  (117, .invokevirtual 61, 29, 2, .null, []),
  (120, .iconst (-1), 0, 0, .int (-1), []),
  (121, .ireturn, 0, 0, .null, [])])
def mX2_nextWord : pM := (⟨RX2, "nextWord", "()V"⟩, prog_4_method_5_code, 3, none, 1, 2, [(0, .aload_n 0, 0, 0, .null, []),
  (1, .getfield 25, 2, 2, .null, []),
  (4, .iconst 1, 0, 0, .int 1, []),
  (5, .if_icmp .eq 11, 8, 0, .null, []),
  (8, .aload_n 0, 0, 0, .null, []),
  (9, .getfield 25, 2, 2, .null, []),
  (12, .iconst 2, 0, 0, .int 2, []),
  (13, .if_icmp .ne 7, 10, 0, .null, []),
  (16, .iconst 1, 0, 0, .int 1, []),
  (17, .goto 4, 11, 0, .null, []),
  (20, .iconst 0, 0, 0, .int 0, []),
  (21, .istore_n 1, 1, 0, .null, []),
  (22, .aload_n 0, 0, 0, .null, []),
  (23, .getfield 22, 2, 4, .null, []),
  (26, .istore_n 2, 2, 0, .null, []),
  (27, .aload_n 0, 0, 0, .null, []),
  (28, .getfield 22, 2, 4, .null, []),
  (31, .aload_n 0, 0, 0, .null, []),
  (32, .getfield 18, 2, 1, .null, []),
  (35, .if_icmp .ge 29, 33, 0, .null, []),
  (38, .aload_n 0, 0, 0, .null, []),
  (39, .aload_n 0, 0, 0, .null, []),
  (40, .getfield 22, 2, 4, .null, []),
  (43, .invokevirtual 65, 17, 1, .null, []),
  (46, .bipush 32, 0, 0, .int 32, []),
  (48, .if_icmp .ne 16, 33, 0, .null, []),
  (51, .aload_n 0, 0, 0, .null, []),
  (52, .dup, 0, 0, .null, []),
  (53, .getfield 22, 2, 4, .null, []),
  (56, .iconst 1, 0, 0, .int 1, []),
  (57, .iadd, 0, 0, .null, []),
  (58, .putfield 22, 2, 4, .null, []),
  (61, .goto (-34), 15, 0, .null, []),
  (64, .aload_n 0, 0, 0, .null, []),
  (65, .aload_n 0, 0, 0, .null, []),
  (66, .getfield 22, 2, 4, .null, []),
  (69, .putfield 35, 2, 3, .null, []),
  (72, .aload_n 0, 0, 0, .null, []),
  (73, .aload_n 0, 0, 0, .null, []),
  (74, .aload_n 0, 0, 0, .null, []),
  (75, .getfield 35, 2, 3, .null, []),
  (78, .invokevirtual 65, 17, 1, .null, []),
  (81, .invokestatic 69, 18, 1, .null, []),
  (84, .putfield 25, 2, 2, .null, []),
  (87, .aload_n 0, 0, 0, .null, []),
  (88, .iload_n 1, 1, 0, .null, []),
  (89, .ifCond .eq 15, 53, 0, .null, []),
  (92, .aload_n 0, 0, 0, .null, []),
  (93, .getfield 35, 2, 3, .null, []),
  (96, .iload_n 2, 2, 0, .null, []),
  (97, .if_icmp .ne 7, 53, 0, .null, []),
  (100, .iconst 1, 0, 0, .int 1, []),
  (101, .goto 4, 54, 0, .null, []),
  (104, .iconst 0, 0, 0, .int 0, []),
  (105, .putfield 72, 2, 5, .null, []),
  (108, .aload_n 0, 0, 0, .null, []),
  (109, .getfield 25, 2, 2, .null, []),
  (112, .ifCond .eq 13, 64, 0, .null, []),
  (115, .aload_n 0, 0, 0, .null, []),
  (116, .dup, 0, 0, .null, []),
  (117, .getfield 22, 2, 4, .null, []),
  (120, .iconst 1, 0, 0, .int 1, []),
  (121, .iadd, 0, 0, .null, []),
  (122, .putfield 22, 2, 4, .null, []),
  (125, .aload_n 0, 0, 0, .null, []),
  (126, .getfield 25, 2, 2, .null, []),
  (129, .iconst 3, 0, 0, .int 3, []),
  (130, .if_icmp .eq 45, 88, 0, .null, []),
  (133, .aload_n 0, 0, 0, .null, []),
  (134, .getfield 22, 2, 4, .null, []),
  (137, .aload_n 0, 0, 0, .null, []),
  (138, .getfield 18, 2, 1, .null, []),
  (141, .if_icmp .ge 34, 88, 0, .null, []),
  (144, .aload_n 0, 0, 0, .null, []),
  (145, .aload_n 0, 0, 0, .null, []),
  (146, .getfield 22, 2, 4, .null, []),
  (149, .invokevirtual 65, 17, 1, .null, []),
  (152, .invokestatic 69, 18, 1, .null, []),
  (155, .aload_n 0, 0, 0, .null, []),
  (156, .getfield 25, 2, 2, .null, []),
  (159, .if_icmp .ne 16, 88, 0, .null, []),
  (162, .aload_n 0, 0, 0, .null, []),
  (163, .dup, 0, 0, .null, []),
  (164, .getfield 22, 2, 4, .null, []),
  (167, .iconst 1, 0, 0, .int 1, []),
  (168, .iadd, 0, 0, .null, []),
  (169, .putfield 22, 2, 4, .null, []),
  (172, .goto (-47), 64, 0, .null, []),
  (175, .return_, 0, 0, .null, [])])
def mX2_byteAt : pM := (⟨RX2, "byteAt", "(I)I"⟩, prog_4_method_6_code, 2, (some FieldType.int), 1, 2, [(0, .iload_n 1, 1, 0, .null, []),
  (1, .ifCond .lt 29, 16, 0, .null, []),
  (4, .iload_n 1, 1, 0, .null, []),
  (5, .aload_n 0, 0, 0, .null, []),
  (6, .getfield 18, 2, 1, .null, []),
  (9, .if_icmp .ge 21, 16, 0, .null, []),
  (12, .iload_n 1, 1, 0, .null, []),
  (13, .aload_n 0, 0, 0, .null, []),
  (14, .getfield 9, 2, 0, .null, []),
  (17, .arraylength, 0, 0, .null, []),
  (18, .if_icmp .ge 12, 16, 0, .null, []),
  (21, .aload_n 0, 0, 0, .null, []),
  (22, .getfield 9, 2, 0, .null, []),
  (25, .iload_n 1, 1, 0, .null, []),
  (26, .iaload, 0, 0, .null, []),
  (27, .goto 4, 17, 0, .null, []),
  (30, .iconst (-1), 0, 0, .int (-1), []),
  (31, .ireturn, 0, 0, .null, [])])
def mX2_sortOf : pM := (⟨RX2, "sortOf", "(I)I"⟩, prog_4_method_7_code, 1, (some FieldType.int), 0, 2, [(0, .iload_n 0, 0, 0, .null, []),
  (1, .ifCond .ge 5, 4, 0, .null, []),
  (4, .iconst 0, 0, 0, .int 0, []),
  (5, .ireturn, 0, 0, .null, []),
  (6, .iload_n 0, 0, 0, .null, []),
  (7, .invokestatic 75, 19, 1, .null, []),
  (10, .ifCond .eq 5, 9, 0, .null, []),
  (13, .iconst 1, 0, 0, .int 1, []),
  (14, .ireturn, 0, 0, .null, []),
  (15, .iload_n 0, 0, 0, .null, []),
  (16, .bipush 48, 0, 0, .int 48, []),
  (18, .if_icmp .lt 13, 17, 0, .null, []),
  (21, .iload_n 0, 0, 0, .null, []),
  (22, .bipush 57, 0, 0, .int 57, []),
  (24, .if_icmp .gt 7, 17, 0, .null, []),
  (27, .iconst 2, 0, 0, .int 2, []),
  (28, .goto 4, 18, 0, .null, []),
  (31, .iconst 3, 0, 0, .int 3, []),
  (32, .ireturn, 0, 0, .null, [])])
def mX2_isLetter : pM := (⟨RX2, "isLetter", "(I)Z"⟩, prog_4_method_8_code, 1, (some FieldType.boolean), 0, 2, [(0, .iload_n 0, 0, 0, .null, []),
  (1, .bipush 97, 0, 0, .int 97, []),
  (3, .if_icmp .lt 13, 8, 0, .null, []),
  (6, .iload_n 0, 0, 0, .null, []),
  (7, .bipush 122, 0, 0, .int 122, []),
  (9, .if_icmp .gt 7, 8, 0, .null, []),
  (12, .iconst 1, 0, 0, .int 1, []),
  (13, .goto 4, 9, 0, .null, []),
  (16, .iconst 0, 0, 0, .int 0, []),
  (17, .ireturn, 0, 0, .null, [])])
def mX2_keyRead : pM := (⟨RX2, "keyRead", "()I"⟩, prog_4_method_9_code, 1, (some FieldType.int), 1, 2, [])
def mX2_isWord : pM := (⟨RX2, "isWord", "(Ljava/lang/String;)Z"⟩, prog_4_method_10_code, 3, (some FieldType.boolean), 1, 2, [])
def mX2_goesOn : pM := (⟨RX2, "goesOn", "(LStoneSheets$Law;)Z"⟩, prog_4_method_11_code, 2, (some FieldType.boolean), 1, 2, [(0, .aload_n 0, 0, 0, .null, []),
  (1, .getfield 25, 2, 2, .null, []),
  (4, .iconst 3, 0, 0, .int 3, []),
  (5, .if_icmp .ne 39, 22, 0, .null, []),
  (8, .aload_n 0, 0, 0, .null, []),
  (9, .getfield 53, 2, 10, .null, []),
  (12, .ifCond .eq 18, 14, 0, .null, []),
  (15, .aload_n 0, 0, 0, .null, []),
  (16, .aload_n 0, 0, 0, .null, []),
  (17, .aload_n 0, 0, 0, .null, []),
  (18, .getfield 35, 2, 3, .null, []),
  (21, .invokevirtual 65, 17, 1, .null, []),
  (24, .invokevirtual 97, 26, 1, .null, []),
  (27, .goto 16, 21, 0, .null, []),
  (30, .aload_n 0, 0, 0, .null, []),
  (31, .aload_n 1, 1, 0, .null, []),
  (32, .aload_n 0, 0, 0, .null, []),
  (33, .aload_n 0, 0, 0, .null, []),
  (34, .getfield 35, 2, 3, .null, []),
  (37, .invokevirtual 65, 17, 1, .null, []),
  (40, .invokevirtual 100, 27, 2, .null, []),
  (43, .ireturn, 0, 0, .null, []),
  (44, .aload_n 0, 0, 0, .null, []),
  (45, .getfield 53, 2, 10, .null, []),
  (48, .ifCond .eq 22, 34, 0, .null, []),
  (51, .aload_n 0, 0, 0, .null, []),
  (52, .getfield 72, 2, 5, .null, []),
  (55, .ifCond .ne 15, 34, 0, .null, []),
  (58, .aload_n 0, 0, 0, .null, []),
  (59, .aload_n 1, 1, 0, .null, []),
  (60, .invokevirtual 104, 23, 1, .null, []),
  (63, .ifCond .eq 7, 34, 0, .null, []),
  (66, .iconst 1, 0, 0, .int 1, []),
  (67, .goto 4, 35, 0, .null, []),
  (70, .iconst 0, 0, 0, .int 0, []),
  (71, .ireturn, 0, 0, .null, [])])
def mX2_takePiece : pM := (⟨RX2, "takePiece", "(LStoneSheets$Law;)Z"⟩, prog_4_method_12_code, 3, (some FieldType.boolean), 1, 2, [(0, .aload_n 0, 0, 0, .null, []),
  (1, .getfield 25, 2, 2, .null, []),
  (4, .iconst 2, 0, 0, .int 2, []),
  (5, .if_icmp .ne 10, 7, 0, .null, []),
  (8, .aload_n 0, 0, 0, .null, []),
  (9, .invokevirtual 107, 24, 0, .null, []),
  (12, .goto 11, 11, 0, .null, []),
  (15, .aload_n 0, 0, 0, .null, []),
  (16, .aload_n 1, 1, 0, .null, []),
  (17, .getfield 110, 0, 2, .null, []),
  (20, .invokevirtual 113, 25, 1, .null, []),
  (23, .istore_n 2, 2, 0, .null, []),
  (24, .iload_n 2, 2, 0, .null, []),
  (25, .ldc 116, 0, 0, .int (-1000000005), []),
  (27, .if_icmp .ne 5, 17, 0, .null, []),
  (30, .iconst 0, 0, 0, .int 0, []),
  (31, .ireturn, 0, 0, .null, []),
  (32, .aload_n 1, 1, 0, .null, []),
  (33, .iload_n 2, 2, 0, .null, []),
  (34, .invokevirtual 117, 2, 1, .null, []),
  (37, .aload_n 1, 1, 0, .null, []),
  (38, .dup, 0, 0, .null, []),
  (39, .getfield 120, 0, 3, .null, []),
  (42, .iconst 1, 0, 0, .int 1, []),
  (43, .iadd, 0, 0, .null, []),
  (44, .putfield 120, 0, 3, .null, []),
  (47, .aload_n 0, 0, 0, .null, []),
  (48, .aload_n 1, 1, 0, .null, []),
  (49, .invokevirtual 123, 28, 1, .null, []),
  (52, .iconst 1, 0, 0, .int 1, []),
  (53, .ireturn, 0, 0, .null, [])])
def mX2_numberRead : pM := (⟨RX2, "numberRead", "()I"⟩, prog_4_method_13_code, 3, (some FieldType.int), 1, 2, [(0, .aload_n 0, 0, 0, .null, []),
  (1, .getfield 22, 2, 4, .null, []),
  (4, .aload_n 0, 0, 0, .null, []),
  (5, .getfield 35, 2, 3, .null, []),
  (8, .isub, 0, 0, .null, []),
  (9, .iconst 4, 0, 0, .int 4, []),
  (10, .if_icmp .le 6, 9, 0, .null, []),
  (13, .ldc 116, 0, 0, .int (-1000000005), []),
  (15, .ireturn, 0, 0, .null, []),
  (16, .iconst 0, 0, 0, .int 0, []),
  (17, .istore_n 1, 1, 0, .null, []),
  (18, .aload_n 0, 0, 0, .null, []),
  (19, .getfield 35, 2, 3, .null, []),
  (22, .istore_n 2, 2, 0, .null, []),
  (23, .iload_n 2, 2, 0, .null, []),
  (24, .aload_n 0, 0, 0, .null, []),
  (25, .getfield 22, 2, 4, .null, []),
  (28, .if_icmp .ge 23, 30, 0, .null, []),
  (31, .bipush 10, 0, 0, .int 10, []),
  (33, .iload_n 1, 1, 0, .null, []),
  (34, .imul, 0, 0, .null, []),
  (35, .aload_n 0, 0, 0, .null, []),
  (36, .iload_n 2, 2, 0, .null, []),
  (37, .invokevirtual 65, 17, 1, .null, []),
  (40, .iadd, 0, 0, .null, []),
  (41, .bipush 48, 0, 0, .int 48, []),
  (43, .isub, 0, 0, .null, []),
  (44, .istore_n 1, 1, 0, .null, []),
  (45, .iinc 2 1, 2, 0, .null, []),
  (48, .goto (-25), 14, 0, .null, []),
  (51, .iload_n 1, 1, 0, .null, []),
  (52, .ireturn, 0, 0, .null, [])])
def mX2_nameRead : pM := (⟨RX2, "nameRead", "(I)I"⟩, prog_4_method_14_code, 4, (some FieldType.int), 1, 2, [])
def mX2_takeAhead : pM := (⟨RX2, "takeAhead", "(I)Z"⟩, prog_4_method_15_code, 2, (some FieldType.boolean), 1, 2, [(0, .iload_n 1, 1, 0, .null, []),
  (1, .bipush 40, 0, 0, .int 40, []),
  (3, .if_icmp .ne 29, 18, 0, .null, []),
  (6, .aload_n 0, 0, 0, .null, []),
  (7, .getfield 47, 2, 8, .null, []),
  (10, .bipush 8, 0, 0, .int 8, []),
  (12, .if_icmp .ge 20, 18, 0, .null, []),
  (15, .aload_n 0, 0, 0, .null, []),
  (16, .dup, 0, 0, .null, []),
  (17, .getfield 47, 2, 8, .null, []),
  (20, .iconst 1, 0, 0, .int 1, []),
  (21, .iadd, 0, 0, .null, []),
  (22, .putfield 47, 2, 8, .null, []),
  (25, .aload_n 0, 0, 0, .null, []),
  (26, .iload_n 1, 1, 0, .null, []),
  (27, .invokevirtual 136, 31, 1, .null, []),
  (30, .iconst 1, 0, 0, .int 1, []),
  (31, .ireturn, 0, 0, .null, []),
  (32, .iload_n 1, 1, 0, .null, []),
  (33, .bipush 33, 0, 0, .int 33, []),
  (35, .if_icmp .ne 29, 36, 0, .null, []),
  (38, .aload_n 0, 0, 0, .null, []),
  (39, .getfield 50, 2, 9, .null, []),
  (42, .bipush 8, 0, 0, .int 8, []),
  (44, .if_icmp .ge 20, 36, 0, .null, []),
  (47, .aload_n 0, 0, 0, .null, []),
  (48, .dup, 0, 0, .null, []),
  (49, .getfield 50, 2, 9, .null, []),
  (52, .iconst 1, 0, 0, .int 1, []),
  (53, .iadd, 0, 0, .null, []),
  (54, .putfield 50, 2, 9, .null, []),
  (57, .aload_n 0, 0, 0, .null, []),
  (58, .iload_n 1, 1, 0, .null, []),
  (59, .invokevirtual 136, 31, 1, .null, []),
  (62, .iconst 1, 0, 0, .int 1, []),
  (63, .ireturn, 0, 0, .null, []),
  (64, .iconst 0, 0, 0, .int 0, []),
  (65, .ireturn, 0, 0, .null, [])])
def mX2_takeBehind : pM := (⟨RX2, "takeBehind", "(LStoneSheets$Law;I)Z"⟩, prog_4_method_16_code, 4, (some FieldType.boolean), 1, 2, [(0, .iload_n 2, 2, 0, .null, []),
  (1, .bipush 41, 0, 0, .int 41, []),
  (3, .if_icmp .ne 43, 27, 0, .null, []),
  (6, .aload_n 0, 0, 0, .null, []),
  (7, .getfield 47, 2, 8, .null, []),
  (10, .ifCond .le 36, 27, 0, .null, []),
  (13, .aload_n 0, 0, 0, .null, []),
  (14, .aload_n 1, 1, 0, .null, []),
  (15, .iconst 1, 0, 0, .int 1, []),
  (16, .invokevirtual 61, 29, 2, .null, []),
  (19, .aload_n 0, 0, 0, .null, []),
  (20, .dup, 0, 0, .null, []),
  (21, .getfield 44, 2, 7, .null, []),
  (24, .iconst 1, 0, 0, .int 1, []),
  (25, .isub, 0, 0, .null, []),
  (26, .putfield 44, 2, 7, .null, []),
  (29, .aload_n 0, 0, 0, .null, []),
  (30, .dup, 0, 0, .null, []),
  (31, .getfield 47, 2, 8, .null, []),
  (34, .iconst 1, 0, 0, .int 1, []),
  (35, .isub, 0, 0, .null, []),
  (36, .putfield 47, 2, 8, .null, []),
  (39, .aload_n 0, 0, 0, .null, []),
  (40, .aload_n 1, 1, 0, .null, []),
  (41, .invokevirtual 123, 28, 1, .null, []),
  (44, .iconst 1, 0, 0, .int 1, []),
  (45, .ireturn, 0, 0, .null, []),
  (46, .iload_n 2, 2, 0, .null, []),
  (47, .invokestatic 139, 30, 1, .null, []),
  (50, .istore_n 3, 3, 0, .null, []),
  (51, .iload_n 3, 3, 0, .null, []),
  (52, .ifCond .ne 5, 34, 0, .null, []),
  (55, .iconst 0, 0, 0, .int 0, []),
  (56, .ireturn, 0, 0, .null, []),
  (57, .aload_n 0, 0, 0, .null, []),
  (58, .aload_n 1, 1, 0, .null, []),
  (59, .iload_n 3, 3, 0, .null, []),
  (60, .iconst 3, 0, 0, .int 3, []),
  (61, .if_icmp .ne 9, 43, 0, .null, []),
  (64, .iload_n 3, 3, 0, .null, []),
  (65, .iconst 1, 0, 0, .int 1, []),
  (66, .iadd, 0, 0, .null, []),
  (67, .goto 4, 44, 0, .null, []),
  (70, .iload_n 3, 3, 0, .null, []),
  (71, .invokevirtual 61, 29, 2, .null, []),
  (74, .iload_n 3, 3, 0, .null, []),
  (75, .iconst 3, 0, 0, .int 3, []),
  (76, .if_icmp .ne 16, 55, 0, .null, []),
  (79, .aload_n 0, 0, 0, .null, []),
  (80, .invokevirtual 142, 32, 0, .null, []),
  (83, .invokestatic 139, 30, 1, .null, []),
  (86, .iconst 3, 0, 0, .int 3, []),
  (87, .if_icmp .ne 5, 55, 0, .null, []),
  (90, .iconst 0, 0, 0, .int 0, []),
  (91, .ireturn, 0, 0, .null, []),
  (92, .aload_n 0, 0, 0, .null, []),
  (93, .iload_n 2, 2, 0, .null, []),
  (94, .invokevirtual 136, 31, 1, .null, []),
  (97, .aload_n 0, 0, 0, .null, []),
  (98, .iconst 1, 0, 0, .int 1, []),
  (99, .putfield 53, 2, 10, .null, []),
  (102, .iconst 1, 0, 0, .int 1, []),
  (103, .ireturn, 0, 0, .null, [])])
def mX2_endPiece : pM := (⟨RX2, "endPiece", "(LStoneSheets$Law;)V"⟩, prog_4_method_17_code, 2, none, 1, 2, [(0, .aload_n 0, 0, 0, .null, []),
  (1, .getfield 44, 2, 7, .null, []),
  (4, .ifCond .le 44, 25, 0, .null, []),
  (7, .aload_n 0, 0, 0, .null, []),
  (8, .invokevirtual 142, 32, 0, .null, []),
  (11, .bipush 33, 0, 0, .int 33, []),
  (13, .if_icmp .ne 35, 25, 0, .null, []),
  (16, .aload_n 1, 1, 0, .null, []),
  (17, .aload_n 0, 0, 0, .null, []),
  (18, .invokevirtual 142, 32, 0, .null, []),
  (21, .ineg, 0, 0, .null, []),
  (22, .invokevirtual 117, 2, 1, .null, []),
  (25, .aload_n 0, 0, 0, .null, []),
  (26, .dup, 0, 0, .null, []),
  (27, .getfield 44, 2, 7, .null, []),
  (30, .iconst 1, 0, 0, .int 1, []),
  (31, .isub, 0, 0, .null, []),
  (32, .putfield 44, 2, 7, .null, []),
  (35, .aload_n 0, 0, 0, .null, []),
  (36, .dup, 0, 0, .null, []),
  (37, .getfield 50, 2, 9, .null, []),
  (40, .iconst 1, 0, 0, .int 1, []),
  (41, .isub, 0, 0, .null, []),
  (42, .putfield 50, 2, 9, .null, []),
  (45, .goto (-45), 0, 0, .null, []),
  (48, .aload_n 0, 0, 0, .null, []),
  (49, .iconst 0, 0, 0, .int 0, []),
  (50, .putfield 53, 2, 10, .null, []),
  (53, .return_, 0, 0, .null, [])])
def mX2_unwind : pM := (⟨RX2, "unwind", "(LStoneSheets$Law;I)V"⟩, prog_4_method_18_code, 3, none, 1, 2, [(0, .aload_n 0, 0, 0, .null, []),
  (1, .getfield 44, 2, 7, .null, []),
  (4, .ifCond .le 36, 20, 0, .null, []),
  (7, .aload_n 0, 0, 0, .null, []),
  (8, .invokevirtual 142, 32, 0, .null, []),
  (11, .invokestatic 139, 30, 1, .null, []),
  (14, .iload_n 2, 2, 0, .null, []),
  (15, .if_icmp .lt 25, 20, 0, .null, []),
  (18, .aload_n 1, 1, 0, .null, []),
  (19, .aload_n 0, 0, 0, .null, []),
  (20, .invokevirtual 142, 32, 0, .null, []),
  (23, .ineg, 0, 0, .null, []),
  (24, .invokevirtual 117, 2, 1, .null, []),
  (27, .aload_n 0, 0, 0, .null, []),
  (28, .dup, 0, 0, .null, []),
  (29, .getfield 44, 2, 7, .null, []),
  (32, .iconst 1, 0, 0, .int 1, []),
  (33, .isub, 0, 0, .null, []),
  (34, .putfield 44, 2, 7, .null, []),
  (37, .goto (-37), 0, 0, .null, []),
  (40, .return_, 0, 0, .null, [])])
def mX2_rankOf : pM := (⟨RX2, "rankOf", "(I)I"⟩, prog_4_method_19_code, 1, (some FieldType.int), 0, 2, [(0, .iload_n 0, 0, 0, .null, []),
  (1, .lookupswitch 93 #[(38, 85), (42, 91), (43, 89), (45, 89), (47, 91), (60, 87), (61, 87), (62, 87), (124, 83)], 12, 83, .null, [4, 10, 8, 8, 10, 6, 6, 6, 2]),
  (84, .iconst 1, 0, 0, .int 1, []),
  (85, .ireturn, 0, 0, .null, []),
  (86, .iconst 2, 0, 0, .int 2, []),
  (87, .ireturn, 0, 0, .null, []),
  (88, .iconst 3, 0, 0, .int 3, []),
  (89, .ireturn, 0, 0, .null, []),
  (90, .iconst 4, 0, 0, .int 4, []),
  (91, .ireturn, 0, 0, .null, []),
  (92, .iconst 5, 0, 0, .int 5, []),
  (93, .ireturn, 0, 0, .null, []),
  (94, .iconst 0, 0, 0, .int 0, []),
  (95, .ireturn, 0, 0, .null, [])])
def mX2_push : pM := (⟨RX2, "push", "(I)V"⟩, prog_4_method_20_code, 2, none, 1, 2, [(0, .aload_n 0, 0, 0, .null, []),
  (1, .getfield 44, 2, 7, .null, []),
  (4, .ifCond .lt 35, 21, 0, .null, []),
  (7, .aload_n 0, 0, 0, .null, []),
  (8, .getfield 44, 2, 7, .null, []),
  (11, .aload_n 0, 0, 0, .null, []),
  (12, .getfield 15, 2, 6, .null, []),
  (15, .arraylength, 0, 0, .null, []),
  (16, .if_icmp .ge 23, 21, 0, .null, []),
  (19, .aload_n 0, 0, 0, .null, []),
  (20, .getfield 15, 2, 6, .null, []),
  (23, .aload_n 0, 0, 0, .null, []),
  (24, .getfield 44, 2, 7, .null, []),
  (27, .iload_n 1, 1, 0, .null, []),
  (28, .iastore, 0, 0, .null, []),
  (29, .aload_n 0, 0, 0, .null, []),
  (30, .dup, 0, 0, .null, []),
  (31, .getfield 44, 2, 7, .null, []),
  (34, .iconst 1, 0, 0, .int 1, []),
  (35, .iadd, 0, 0, .null, []),
  (36, .putfield 44, 2, 7, .null, []),
  (39, .return_, 0, 0, .null, [])])
def mX2_peek : pM := (⟨RX2, "peek", "()I"⟩, prog_4_method_21_code, 1, (some FieldType.int), 1, 2, [(0, .aload_n 0, 0, 0, .null, []),
  (1, .getfield 44, 2, 7, .null, []),
  (4, .ifCond .le 29, 17, 0, .null, []),
  (7, .aload_n 0, 0, 0, .null, []),
  (8, .getfield 44, 2, 7, .null, []),
  (11, .aload_n 0, 0, 0, .null, []),
  (12, .getfield 15, 2, 6, .null, []),
  (15, .arraylength, 0, 0, .null, []),
  (16, .if_icmp .gt 17, 17, 0, .null, []),
  (19, .aload_n 0, 0, 0, .null, []),
  (20, .getfield 15, 2, 6, .null, []),
  (23, .aload_n 0, 0, 0, .null, []),
  (24, .getfield 44, 2, 7, .null, []),
  (27, .iconst 1, 0, 0, .int 1, []),
  (28, .isub, 0, 0, .null, []),
  (29, .iaload, 0, 0, .null, []),
  (30, .goto 4, 18, 0, .null, []),
  (33, .iconst 0, 0, 0, .int 0, []),
  (34, .ireturn, 0, 0, .null, [])])
def mX3_init : pM := (⟨RX3, "<init>", "()V"⟩, prog_5_method_1_code, 1, none, 2, 3, [(0, .aload_n 0, 0, 0, .null, []),
  (1, .invokespecial 3, 99999, 0, .null, []),
  (4, .aload_n 0, 0, 0, .null, []),
  (5, .bipush 24, 0, 0, .int 24, []),
  (7, .newarray .int, 0, 0, .null, []),
  (9, .putfield 9, 3, 0, .null, []),
  (12, .aload_n 0, 0, 0, .null, []),
  (13, .iconst (-1), 0, 0, .int (-1), []),
  (14, .putfield 15, 3, 1, .null, []),
  (17, .return_, 0, 0, .null, [])])
def mX3_become : pM := (⟨RX3, "become", "(II)V"⟩, prog_5_method_2_code, 3, none, 1, 3, [(0, .aload_n 0, 0, 0, .null, []),
  (1, .iload_n 1, 1, 0, .null, []),
  (2, .putfield 15, 3, 1, .null, []),
  (5, .aload_n 0, 0, 0, .null, []),
  (6, .iload_n 2, 2, 0, .null, []),
  (7, .putfield 19, 3, 2, .null, []),
  (10, .aload_n 0, 0, 0, .null, []),
  (11, .getfield 9, 3, 0, .null, []),
  (14, .iconst 0, 0, 0, .int 0, []),
  (15, .invokestatic 22, 245, 2, .null, []),
  (18, .return_, 0, 0, .null, [])])
def mX3_isMissing : pM := (⟨RX3, "isMissing", "()Z"⟩, prog_5_method_3_code, 1, (some FieldType.boolean), 1, 3, [(0, .aload_n 0, 0, 0, .null, []),
  (1, .getfield 15, 3, 1, .null, []),
  (4, .iconst (-1), 0, 0, .int (-1), []),
  (5, .if_icmp .ne 7, 6, 0, .null, []),
  (8, .iconst 1, 0, 0, .int 1, []),
  (9, .goto 4, 7, 0, .null, []),
  (12, .iconst 0, 0, 0, .int 0, []),
  (13, .ireturn, 0, 0, .null, [])])
def mX3_has : pM := (⟨RX3, "has", "(I)Z"⟩, prog_5_method_4_code, 2, (some FieldType.boolean), 1, 3, [(0, .iload_n 1, 1, 0, .null, []),
  (1, .ifCond .lt 15, 8, 0, .null, []),
  (4, .iload_n 1, 1, 0, .null, []),
  (5, .aload_n 0, 0, 0, .null, []),
  (6, .getfield 19, 3, 2, .null, []),
  (9, .if_icmp .ge 7, 8, 0, .null, []),
  (12, .iconst 1, 0, 0, .int 1, []),
  (13, .goto 4, 9, 0, .null, []),
  (16, .iconst 0, 0, 0, .int 0, []),
  (17, .ireturn, 0, 0, .null, [])])
def mX3_hasAll : pM := (⟨RX3, "hasAll", "(II)Z"⟩, prog_5_method_5_code, 3, (some FieldType.boolean), 1, 3, [(0, .iload_n 1, 1, 0, .null, []),
  (1, .ifCond .lt 41, 22, 0, .null, []),
  (4, .iload_n 2, 2, 0, .null, []),
  (5, .ifCond .lt 37, 22, 0, .null, []),
  (8, .aload_n 0, 0, 0, .null, []),
  (9, .getfield 19, 3, 2, .null, []),
  (12, .aload_n 0, 0, 0, .null, []),
  (13, .getfield 9, 3, 0, .null, []),
  (16, .arraylength, 0, 0, .null, []),
  (17, .if_icmp .gt 25, 22, 0, .null, []),
  (20, .iload_n 1, 1, 0, .null, []),
  (21, .aload_n 0, 0, 0, .null, []),
  (22, .getfield 19, 3, 2, .null, []),
  (25, .if_icmp .gt 17, 22, 0, .null, []),
  (28, .iload_n 2, 2, 0, .null, []),
  (29, .aload_n 0, 0, 0, .null, []),
  (30, .getfield 19, 3, 2, .null, []),
  (33, .iload_n 1, 1, 0, .null, []),
  (34, .isub, 0, 0, .null, []),
  (35, .if_icmp .gt 7, 22, 0, .null, []),
  (38, .iconst 1, 0, 0, .int 1, []),
  (39, .goto 4, 23, 0, .null, []),
  (42, .iconst 0, 0, 0, .int 0, []),
  (43, .ireturn, 0, 0, .null, [])])
def mX3_at : pM := (⟨RX3, "at", "(I)I"⟩, prog_5_method_6_code, 2, (some FieldType.int), 1, 3, [(0, .aload_n 0, 0, 0, .null, []),
  (1, .iload_n 1, 1, 0, .null, []),
  (2, .invokevirtual 28, 36, 1, .null, []),
  (5, .ifCond .eq 21, 14, 0, .null, []),
  (8, .iload_n 1, 1, 0, .null, []),
  (9, .aload_n 0, 0, 0, .null, []),
  (10, .getfield 9, 3, 0, .null, []),
  (13, .arraylength, 0, 0, .null, []),
  (14, .if_icmp .ge 12, 14, 0, .null, []),
  (17, .aload_n 0, 0, 0, .null, []),
  (18, .getfield 9, 3, 0, .null, []),
  (21, .iload_n 1, 1, 0, .null, []),
  (22, .iaload, 0, 0, .null, []),
  (23, .goto 5, 15, 0, .null, []),
  (26, .ldc 32, 0, 0, .int (-1000000005), []),
  (28, .ireturn, 0, 0, .null, [])])
def mX3_put : pM := (⟨RX3, "put", "(II)V"⟩, prog_5_method_7_code, 3, none, 1, 3, [(0, .aload_n 0, 0, 0, .null, []),
  (1, .iload_n 1, 1, 0, .null, []),
  (2, .invokevirtual 28, 36, 1, .null, []),
  (5, .ifCond .eq 19, 14, 0, .null, []),
  (8, .iload_n 1, 1, 0, .null, []),
  (9, .aload_n 0, 0, 0, .null, []),
  (10, .getfield 9, 3, 0, .null, []),
  (13, .arraylength, 0, 0, .null, []),
  (14, .if_icmp .ge 10, 14, 0, .null, []),
  (17, .aload_n 0, 0, 0, .null, []),
  (18, .getfield 9, 3, 0, .null, []),
  (21, .iload_n 1, 1, 0, .null, []),
  (22, .iload_n 2, 2, 0, .null, []),
  (23, .iastore, 0, 0, .null, []),
  (24, .return_, 0, 0, .null, [])])
def mX3_takeFrom : pM := (⟨RX3, "takeFrom", "(LStoneSheets$Row;)V"⟩, prog_5_method_8_code, 2, none, 1, 3, [(0, .aload_n 1, 1, 0, .null, []),
  (1, .ifnull 34, 18, 0, .null, []),
  (4, .aload_n 1, 1, 0, .null, []),
  (5, .getfield 9, 3, 0, .null, []),
  (8, .iconst 0, 0, 0, .int 0, []),
  (9, .aload_n 0, 0, 0, .null, []),
  (10, .getfield 9, 3, 0, .null, []),
  (13, .iconst 0, 0, 0, .int 0, []),
  (14, .bipush 24, 0, 0, .int 24, []),
  (16, .invokestatic 33, 99999, 0, .null, []),
  (19, .aload_n 0, 0, 0, .null, []),
  (20, .aload_n 1, 1, 0, .null, []),
  (21, .getfield 15, 3, 1, .null, []),
  (24, .putfield 15, 3, 1, .null, []),
  (27, .aload_n 0, 0, 0, .null, []),
  (28, .aload_n 1, 1, 0, .null, []),
  (29, .getfield 19, 3, 2, .null, []),
  (32, .putfield 19, 3, 2, .null, []),
  (35, .return_, 0, 0, .null, [])])
def mX4_init : pM := (⟨RX4, "<init>", "()V"⟩, prog_6_method_1_code, 1, none, 2, 4, [(0, .aload_n 0, 0, 0, .null, []),
  (1, .invokespecial 3, 99999, 0, .null, []),
  (4, .aload_n 0, 0, 0, .null, []),
  (5, .iconst 1, 0, 0, .int 1, []),
  (6, .putfield 9, 4, 2, .null, []),
  (9, .aload_n 0, 0, 0, .null, []),
  (10, .bipush 16, 0, 0, .int 16, []),
  (12, .putfield 15, 4, 4, .null, []),
  (15, .aload_n 0, 0, 0, .null, []),
  (16, .bipush 50, 0, 0, .int 50, []),
  (18, .putfield 18, 4, 5, .null, []),
  (21, .return_, 0, 0, .null, [])])
def mX4_begin : pM := (⟨RX4, "begin", "(III)V"⟩, prog_6_method_2_code, 4, none, 1, 4, [(0, .aload_n 0, 0, 0, .null, []),
  (1, .iload_n 1, 1, 0, .null, []),
  (2, .putfield 21, 4, 0, .null, []),
  (5, .aload_n 0, 0, 0, .null, []),
  (6, .iload_n 2, 2, 0, .null, []),
  (7, .putfield 24, 4, 1, .null, []),
  (10, .aload_n 0, 0, 0, .null, []),
  (11, .iload_n 3, 3, 0, .null, []),
  (12, .putfield 9, 4, 2, .null, []),
  (15, .aload_n 0, 0, 0, .null, []),
  (16, .iconst 0, 0, 0, .int 0, []),
  (17, .putfield 27, 4, 3, .null, []),
  (20, .aload_n 0, 0, 0, .null, []),
  (21, .bipush 16, 0, 0, .int 16, []),
  (23, .putfield 15, 4, 4, .null, []),
  (26, .aload_n 0, 0, 0, .null, []),
  (27, .bipush 50, 0, 0, .int 50, []),
  (29, .putfield 18, 4, 5, .null, []),
  (32, .return_, 0, 0, .null, [])])
def mX4_takeFrom : pM := (⟨RX4, "takeFrom", "(LStoneSheets$Rubbing;)V"⟩, prog_6_method_3_code, 2, none, 1, 4, [(0, .aload_n 1, 1, 0, .null, []),
  (1, .ifnull 51, 26, 0, .null, []),
  (4, .aload_n 0, 0, 0, .null, []),
  (5, .aload_n 1, 1, 0, .null, []),
  (6, .getfield 21, 4, 0, .null, []),
  (9, .putfield 21, 4, 0, .null, []),
  (12, .aload_n 0, 0, 0, .null, []),
  (13, .aload_n 1, 1, 0, .null, []),
  (14, .getfield 24, 4, 1, .null, []),
  (17, .putfield 24, 4, 1, .null, []),
  (20, .aload_n 0, 0, 0, .null, []),
  (21, .aload_n 1, 1, 0, .null, []),
  (22, .getfield 9, 4, 2, .null, []),
  (25, .putfield 9, 4, 2, .null, []),
  (28, .aload_n 0, 0, 0, .null, []),
  (29, .aload_n 1, 1, 0, .null, []),
  (30, .getfield 27, 4, 3, .null, []),
  (33, .putfield 27, 4, 3, .null, []),
  (36, .aload_n 0, 0, 0, .null, []),
  (37, .aload_n 1, 1, 0, .null, []),
  (38, .getfield 15, 4, 4, .null, []),
  (41, .putfield 15, 4, 4, .null, []),
  (44, .aload_n 0, 0, 0, .null, []),
  (45, .aload_n 1, 1, 0, .null, []),
  (46, .getfield 18, 4, 5, .null, []),
  (49, .putfield 18, 4, 5, .null, []),
  (52, .return_, 0, 0, .null, [])])
def mX4_value : pM := (⟨RX4, "value", "(I)I"⟩, prog_6_method_4_code, 2, (some FieldType.int), 1, 4, [(0, .iload_n 1, 1, 0, .null, []),
  (1, .tableswitch 51 1 4 #[31, 36, 41, 46], 14, 31, .null, [2, 5, 8, 11]),
  (32, .aload_n 0, 0, 0, .null, []),
  (33, .getfield 24, 4, 1, .null, []),
  (36, .ireturn, 0, 0, .null, []),
  (37, .aload_n 0, 0, 0, .null, []),
  (38, .getfield 9, 4, 2, .null, []),
  (41, .ireturn, 0, 0, .null, []),
  (42, .aload_n 0, 0, 0, .null, []),
  (43, .getfield 27, 4, 3, .null, []),
  (46, .ireturn, 0, 0, .null, []),
  (47, .aload_n 0, 0, 0, .null, []),
  (48, .getfield 15, 4, 4, .null, []),
  (51, .ireturn, 0, 0, .null, []),
  (52, .aload_n 0, 0, 0, .null, []),
  (53, .getfield 18, 4, 5, .null, []),
  (56, .ireturn, 0, 0, .null, [])])
def mX4_become : pM := (⟨RX4, "become", "(II)V"⟩, prog_6_method_5_code, 3, none, 1, 4, [(0, .iload_n 1, 1, 0, .null, []),
  (1, .tableswitch 63 1 4 #[31, 39, 47, 55], 18, 31, .null, [2, 6, 10, 14]),
  (32, .aload_n 0, 0, 0, .null, []),
  (33, .iload_n 2, 2, 0, .null, []),
  (34, .putfield 24, 4, 1, .null, []),
  (37, .goto 32, 21, 0, .null, []),
  (40, .aload_n 0, 0, 0, .null, []),
  (41, .iload_n 2, 2, 0, .null, []),
  (42, .putfield 9, 4, 2, .null, []),
  (45, .goto 24, 21, 0, .null, []),
  (48, .aload_n 0, 0, 0, .null, []),
  (49, .iload_n 2, 2, 0, .null, []),
  (50, .putfield 27, 4, 3, .null, []),
  (53, .goto 16, 21, 0, .null, []),
  (56, .aload_n 0, 0, 0, .null, []),
  (57, .iload_n 2, 2, 0, .null, []),
  (58, .putfield 15, 4, 4, .null, []),
  (61, .goto 8, 21, 0, .null, []),
  (64, .aload_n 0, 0, 0, .null, []),
  (65, .iload_n 2, 2, 0, .null, []),
  (66, .putfield 18, 4, 5, .null, []),
  (69, .return_, 0, 0, .null, [])])
def mX4_isOf : pM := (⟨RX4, "isOf", "(I)Z"⟩, prog_6_method_6_code, 4, (some FieldType.boolean), 1, 4, [])
def mX4_isLaid : pM := (⟨RX4, "isLaid", "()Z"⟩, prog_6_method_7_code, 1, (some FieldType.boolean), 1, 4, [(0, .aload_n 0, 0, 0, .null, []),
  (1, .getfield 15, 4, 4, .null, []),
  (4, .bipush 16, 0, 0, .int 16, []),
  (6, .if_icmp .eq 7, 6, 0, .null, []),
  (9, .iconst 1, 0, 0, .int 1, []),
  (10, .goto 4, 7, 0, .null, []),
  (13, .iconst 0, 0, 0, .int 0, []),
  (14, .ireturn, 0, 0, .null, [])])
def mX4_covers : pM := (⟨RX4, "covers", "(I)Z"⟩, prog_6_method_8_code, 2, (some FieldType.boolean), 1, 4, [(0, .aload_n 0, 0, 0, .null, []),
  (1, .invokevirtual 34, 47, 0, .null, []),
  (4, .ifCond .eq 35, 19, 0, .null, []),
  (7, .iload_n 1, 1, 0, .null, []),
  (8, .invokestatic 38, 133, 1, .int 1, []),
  (11, .ifCond .eq 28, 19, 0, .null, []),
  (14, .iload_n 1, 1, 0, .null, []),
  (15, .aload_n 0, 0, 0, .null, []),
  (16, .getfield 15, 4, 4, .null, []),
  (19, .if_icmp .lt 20, 19, 0, .null, []),
  (22, .iload_n 1, 1, 0, .null, []),
  (23, .aload_n 0, 0, 0, .null, []),
  (24, .getfield 15, 4, 4, .null, []),
  (27, .aload_n 0, 0, 0, .null, []),
  (28, .getfield 9, 4, 2, .null, []),
  (31, .iadd, 0, 0, .null, []),
  (32, .if_icmp .ge 7, 19, 0, .null, []),
  (35, .iconst 1, 0, 0, .int 1, []),
  (36, .goto 4, 20, 0, .null, []),
  (39, .iconst 0, 0, 0, .int 0, []),
  (40, .ireturn, 0, 0, .null, [])])
def mX4_covered : pM := (⟨RX4, "covered", "()I"⟩, prog_6_method_9_code, 3, (some FieldType.int), 1, 4, [(0, .iconst 0, 0, 0, .int 0, []),
  (1, .istore_n 1, 1, 0, .null, []),
  (2, .iconst 0, 0, 0, .int 0, []),
  (3, .istore_n 2, 2, 0, .null, []),
  (4, .iload_n 2, 2, 0, .null, []),
  (5, .bipush 16, 0, 0, .int 16, []),
  (7, .if_icmp .ge 23, 19, 0, .null, []),
  (10, .aload_n 0, 0, 0, .null, []),
  (11, .iload_n 2, 2, 0, .null, []),
  (12, .invokevirtual 42, 48, 1, .null, []),
  (15, .ifCond .eq 9, 17, 0, .null, []),
  (18, .iload_n 1, 1, 0, .null, []),
  (19, .iconst 1, 0, 0, .int 1, []),
  (20, .iload_n 2, 2, 0, .null, []),
  (21, .ishl, 0, 0, .null, []),
  (22, .ior, 0, 0, .null, []),
  (23, .istore_n 1, 1, 0, .null, []),
  (24, .iinc 2 1, 2, 0, .null, []),
  (27, .goto (-23), 4, 0, .null, []),
  (30, .iload_n 1, 1, 0, .null, []),
  (31, .ireturn, 0, 0, .null, [])])
def mX4_sayAt : pM := (⟨RX4, "sayAt", "(I)I"⟩, prog_6_method_10_code, 2, (some FieldType.int), 1, 4, [(0, .iload_n 1, 1, 0, .null, []),
  (1, .ifCond .lt 11, 6, 0, .null, []),
  (4, .iload_n 1, 1, 0, .null, []),
  (5, .aload_n 0, 0, 0, .null, []),
  (6, .getfield 9, 4, 2, .null, []),
  (9, .if_icmp .lt 5, 8, 0, .null, []),
  (12, .iconst 0, 0, 0, .int 0, []),
  (13, .ireturn, 0, 0, .null, []),
  (14, .aload_n 0, 0, 0, .null, []),
  (15, .getfield 21, 4, 0, .null, []),
  (18, .tableswitch 89 1 5 #[34, 55, 43, 64, 87], 42, 34, .null, [11, 22, 16, 27, 40]),
  (52, .aload_n 0, 0, 0, .null, []),
  (53, .iload_n 1, 1, 0, .null, []),
  (54, .invokevirtual 45, 51, 1, .null, []),
  (57, .invokestatic 49, 52, 1, .null, []),
  (60, .ireturn, 0, 0, .null, []),
  (61, .aload_n 0, 0, 0, .null, []),
  (62, .iload_n 1, 1, 0, .null, []),
  (63, .invokevirtual 45, 51, 1, .null, []),
  (66, .invokestatic 49, 52, 1, .null, []),
  (69, .invokestatic 49, 52, 1, .null, []),
  (72, .ireturn, 0, 0, .null, []),
  (73, .aload_n 0, 0, 0, .null, []),
  (74, .iload_n 1, 1, 0, .null, []),
  (75, .invokevirtual 45, 51, 1, .null, []),
  (78, .invokestatic 52, 53, 1, .null, []),
  (81, .ireturn, 0, 0, .null, []),
  (82, .iload_n 1, 1, 0, .null, []),
  (83, .aload_n 0, 0, 0, .null, []),
  (84, .getfield 9, 4, 2, .null, []),
  (87, .iconst 2, 0, 0, .int 2, []),
  (88, .idiv, 0, 0, .null, []),
  (89, .if_icmp .ne 7, 35, 0, .null, []),
  (92, .iconst 3, 0, 0, .int 3, []),
  (93, .goto 11, 39, 0, .null, []),
  (96, .aload_n 0, 0, 0, .null, []),
  (97, .iload_n 1, 1, 0, .null, []),
  (98, .invokevirtual 45, 51, 1, .null, []),
  (101, .invokestatic 52, 53, 1, .null, []),
  (104, .ireturn, 0, 0, .null, []),
  (105, .iconst 2, 0, 0, .int 2, []),
  (106, .ireturn, 0, 0, .null, []),
  (107, .aload_n 0, 0, 0, .null, []),
  (108, .iload_n 1, 1, 0, .null, []),
  (109, .invokevirtual 45, 51, 1, .null, []),
  (112, .ireturn, 0, 0, .null, [])])
def mX4_rubbedAt : pM := (⟨RX4, "rubbedAt", "(I)I"⟩, prog_6_method_11_code, 3, (some FieldType.int), 1, 4, [(0, .aload_n 0, 0, 0, .null, []),
  (1, .getfield 27, 4, 3, .null, []),
  (4, .iconst 1, 0, 0, .int 1, []),
  (5, .if_icmp .ne 14, 11, 0, .null, []),
  (8, .aload_n 0, 0, 0, .null, []),
  (9, .getfield 9, 4, 2, .null, []),
  (12, .iconst 1, 0, 0, .int 1, []),
  (13, .isub, 0, 0, .null, []),
  (14, .iload_n 1, 1, 0, .null, []),
  (15, .isub, 0, 0, .null, []),
  (16, .goto 4, 12, 0, .null, []),
  (19, .iload_n 1, 1, 0, .null, []),
  (20, .istore_n 2, 2, 0, .null, []),
  (21, .aload_n 0, 0, 0, .null, []),
  (22, .getfield 24, 4, 1, .null, []),
  (25, .iconst 2, 0, 0, .int 2, []),
  (26, .iload_n 2, 2, 0, .null, []),
  (27, .imul, 0, 0, .null, []),
  (28, .ishr, 0, 0, .null, []),
  (29, .iconst 3, 0, 0, .int 3, []),
  (30, .iand, 0, 0, .null, []),
  (31, .ireturn, 0, 0, .null, [])])
def mX4_bolder : pM := (⟨RX4, "bolder", "(I)I"⟩, prog_6_method_12_code, 1, (some FieldType.int), 0, 4, [(0, .iload_n 0, 0, 0, .null, []),
  (1, .ifCond .le 13, 8, 0, .null, []),
  (4, .iconst 3, 0, 0, .int 3, []),
  (5, .iload_n 0, 0, 0, .null, []),
  (6, .iconst 1, 0, 0, .int 1, []),
  (7, .iadd, 0, 0, .null, []),
  (8, .invokestatic 55, 99991, 0, .null, []),
  (11, .goto 4, 9, 0, .null, []),
  (14, .iload_n 0, 0, 0, .null, []),
  (15, .ireturn, 0, 0, .null, [])])
def mX4_fainter : pM := (⟨RX4, "fainter", "(I)I"⟩, prog_6_method_13_code, 1, (some FieldType.int), 0, 4, [(0, .iconst 0, 0, 0, .int 0, []),
  (1, .iload_n 0, 0, 0, .null, []),
  (2, .iconst 1, 0, 0, .int 1, []),
  (3, .isub, 0, 0, .null, []),
  (4, .invokestatic 61, 99990, 0, .null, []),
  (7, .ireturn, 0, 0, .null, [])])
def mX4_gainOver : pM := (⟨RX4, "gainOver", "(I)I"⟩, prog_6_method_14_code, 2, (some FieldType.int), 1, 4, [(0, .aload_n 0, 0, 0, .null, []),
  (1, .getfield 21, 4, 0, .null, []),
  (4, .tableswitch 52 1 5 #[36, 40, 36, 44, 50], 19, 36, .null, [3, 7, 3, 11, 17]),
  (40, .iload_n 1, 1, 0, .null, []),
  (41, .iconst 1, 0, 0, .int 1, []),
  (42, .iadd, 0, 0, .null, []),
  (43, .ireturn, 0, 0, .null, []),
  (44, .iload_n 1, 1, 0, .null, []),
  (45, .iconst 2, 0, 0, .int 2, []),
  (46, .idiv, 0, 0, .null, []),
  (47, .ireturn, 0, 0, .null, []),
  (48, .iload_n 1, 1, 0, .null, []),
  (49, .iconst 2, 0, 0, .int 2, []),
  (50, .idiv, 0, 0, .null, []),
  (51, .iconst 2, 0, 0, .int 2, []),
  (52, .iadd, 0, 0, .null, []),
  (53, .ireturn, 0, 0, .null, []),
  (54, .iconst 0, 0, 0, .int 0, []),
  (55, .ireturn, 0, 0, .null, []),
  (56, .iload_n 1, 1, 0, .null, []),
  (57, .ireturn, 0, 0, .null, [])])
def mX4_loss : pM := (⟨RX4, "loss", "()I"⟩, prog_6_method_15_code, 1, (some FieldType.int), 1, 4, [(0, .aload_n 0, 0, 0, .null, []),
  (1, .getfield 21, 4, 0, .null, []),
  (4, .tableswitch 47 1 5 #[36, 42, 39, 42, 44], 11, 36, .null, [3, 7, 5, 7, 9]),
  (40, .bipush 7, 0, 0, .int 7, []),
  (42, .ireturn, 0, 0, .null, []),
  (43, .bipush 14, 0, 0, .int 14, []),
  (45, .ireturn, 0, 0, .null, []),
  (46, .iconst 3, 0, 0, .int 3, []),
  (47, .ireturn, 0, 0, .null, []),
  (48, .bipush 20, 0, 0, .int 20, []),
  (50, .ireturn, 0, 0, .null, []),
  (51, .iconst 5, 0, 0, .int 5, []),
  (52, .ireturn, 0, 0, .null, [])])
def mX4_worth : pM := (⟨RX4, "worth", "()I"⟩, prog_6_method_16_code, 1, (some FieldType.int), 1, 4, [(0, .aload_n 0, 0, 0, .null, []),
  (1, .getfield 21, 4, 0, .null, []),
  (4, .tableswitch 73 1 5 #[36, 52, 43, 60, 71], 29, 36, .null, [3, 15, 8, 20, 27]),
  (40, .aload_n 0, 0, 0, .null, []),
  (41, .getfield 18, 4, 5, .null, []),
  (44, .iconst 5, 0, 0, .int 5, []),
  (45, .iadd, 0, 0, .null, []),
  (46, .ireturn, 0, 0, .null, []),
  (47, .iconst 2, 0, 0, .int 2, []),
  (48, .aload_n 0, 0, 0, .null, []),
  (49, .getfield 18, 4, 5, .null, []),
  (52, .iconst 5, 0, 0, .int 5, []),
  (53, .iadd, 0, 0, .null, []),
  (54, .imul, 0, 0, .null, []),
  (55, .ireturn, 0, 0, .null, []),
  (56, .bipush 99, 0, 0, .int 99, []),
  (58, .aload_n 0, 0, 0, .null, []),
  (59, .getfield 18, 4, 5, .null, []),
  (62, .isub, 0, 0, .null, []),
  (63, .ireturn, 0, 0, .null, []),
  (64, .bipush 99, 0, 0, .int 99, []),
  (66, .aload_n 0, 0, 0, .null, []),
  (67, .getfield 18, 4, 5, .null, []),
  (70, .isub, 0, 0, .null, []),
  (71, .bipush 6, 0, 0, .int 6, []),
  (73, .isub, 0, 0, .null, []),
  (74, .ireturn, 0, 0, .null, []),
  (75, .iconst 1, 0, 0, .int 1, []),
  (76, .ireturn, 0, 0, .null, []),
  (77, .aload_n 0, 0, 0, .null, []),
  (78, .getfield 18, 4, 5, .null, []),
  (81, .ireturn, 0, 0, .null, [])])
def mX4_joined : pM := (⟨RX4, "joined", "(LStoneSheets$Rubbing;I)I"⟩, prog_6_method_17_code, 5, (some FieldType.int), 1, 4, [(0, .iconst 0, 0, 0, .int 0, []),
  (1, .istore_n 3, 3, 0, .null, []),
  (2, .iload_n 2, 2, 0, .null, []),
  (3, .istore 4, 4, 0, .null, []),
  (5, .iload 4, 4, 0, .null, []),
  (7, .aload_n 0, 0, 0, .null, []),
  (8, .getfield 9, 4, 2, .null, []),
  (11, .if_icmp .ge 46, 31, 0, .null, []),
  (14, .iload 4, 4, 0, .null, []),
  (16, .iload_n 2, 2, 0, .null, []),
  (17, .isub, 0, 0, .null, []),
  (18, .aload_n 1, 1, 0, .null, []),
  (19, .getfield 9, 4, 2, .null, []),
  (22, .if_icmp .ge 35, 31, 0, .null, []),
  (25, .iload_n 3, 3, 0, .null, []),
  (26, .aload_n 0, 0, 0, .null, []),
  (27, .iload 4, 4, 0, .null, []),
  (29, .invokevirtual 64, 50, 1, .null, []),
  (32, .aload_n 1, 1, 0, .null, []),
  (33, .iload 4, 4, 0, .null, []),
  (35, .iload_n 2, 2, 0, .null, []),
  (36, .isub, 0, 0, .null, []),
  (37, .invokevirtual 64, 50, 1, .null, []),
  (40, .if_icmp .ne 7, 26, 0, .null, []),
  (43, .iconst 1, 0, 0, .int 1, []),
  (44, .goto 5, 27, 0, .null, []),
  (47, .bipush (-2), 0, 0, .int (-2), []),
  (49, .iadd, 0, 0, .null, []),
  (50, .istore_n 3, 3, 0, .null, []),
  (51, .iinc 4 1, 4, 0, .null, []),
  (54, .goto (-49), 4, 0, .null, []),
  (57, .iload_n 3, 3, 0, .null, []),
  (58, .ireturn, 0, 0, .null, [])])
def mX4_clashes : pM := (⟨RX4, "clashes", "(LStoneSheets$Rubbing;)Z"⟩, prog_6_method_18_code, 3, (some FieldType.boolean), 1, 4, [(0, .iconst 0, 0, 0, .int 0, []),
  (1, .istore_n 2, 2, 0, .null, []),
  (2, .iload_n 2, 2, 0, .null, []),
  (3, .bipush 16, 0, 0, .int 16, []),
  (5, .if_icmp .ge 50, 30, 0, .null, []),
  (8, .aload_n 0, 0, 0, .null, []),
  (9, .iload_n 2, 2, 0, .null, []),
  (10, .invokevirtual 42, 48, 1, .null, []),
  (13, .ifCond .eq 36, 28, 0, .null, []),
  (16, .aload_n 1, 1, 0, .null, []),
  (17, .iload_n 2, 2, 0, .null, []),
  (18, .invokevirtual 42, 48, 1, .null, []),
  (21, .ifCond .eq 28, 28, 0, .null, []),
  (24, .aload_n 0, 0, 0, .null, []),
  (25, .iload_n 2, 2, 0, .null, []),
  (26, .aload_n 0, 0, 0, .null, []),
  (27, .getfield 15, 4, 4, .null, []),
  (30, .isub, 0, 0, .null, []),
  (31, .invokevirtual 64, 50, 1, .null, []),
  (34, .aload_n 1, 1, 0, .null, []),
  (35, .iload_n 2, 2, 0, .null, []),
  (36, .aload_n 1, 1, 0, .null, []),
  (37, .getfield 15, 4, 4, .null, []),
  (40, .isub, 0, 0, .null, []),
  (41, .invokevirtual 64, 50, 1, .null, []),
  (44, .if_icmp .eq 5, 28, 0, .null, []),
  (47, .iconst 1, 0, 0, .int 1, []),
  (48, .ireturn, 0, 0, .null, []),
  (49, .iinc 2 1, 2, 0, .null, []),
  (52, .goto (-50), 2, 0, .null, []),
  (55, .iconst 0, 0, 0, .int 0, []),
  (56, .ireturn, 0, 0, .null, [])])
def mX5_init : pM := (⟨RX5, "<init>", "()V"⟩, prog_7_method_1_code, 1, none, 2, 5, [(0, .aload_n 0, 0, 0, .null, []),
  (1, .invokespecial 1, 99999, 0, .null, []),
  (4, .aload_n 0, 0, 0, .null, []),
  (5, .new 7, 4, 0, .null, []),
  (8, .dup, 0, 0, .null, []),
  (9, .invokespecial 9, 41, 0, .int 1, []),
  (12, .putfield 10, 5, 0, .null, []),
  (15, .aload_n 0, 0, 0, .null, []),
  (16, .new 16, 3, 0, .null, []),
  (19, .dup, 0, 0, .null, []),
  (20, .invokespecial 18, 33, 0, .int 1, []),
  (23, .putfield 19, 5, 1, .null, []),
  (26, .aload_n 0, 0, 0, .null, []),
  (27, .iconst 0, 0, 0, .int 0, []),
  (28, .putfield 23, 5, 2, .null, []),
  (31, .return_, 0, 0, .null, [])])
def mX6_init : pM := (⟨RX6, "<init>", "(LStoneSheets$Laws;)V"⟩, prog_8_method_1_code, 3, none, 2, 6, [(0, .aload_n 0, 0, 0, .null, []),
  (1, .invokespecial 3, 99999, 0, .null, []),
  (4, .aload_n 0, 0, 0, .null, []),
  (5, .bipush 16, 0, 0, .int 16, []),
  (7, .newarray .int, 0, 0, .null, []),
  (9, .putfield 9, 6, 1, .null, []),
  (12, .aload_n 0, 0, 0, .null, []),
  (13, .bipush 9, 0, 0, .int 9, []),
  (15, .anewarray 15, 4, 0, .null, []),
  (18, .putfield 17, 6, 2, .null, []),
  (21, .aload_n 0, 0, 0, .null, []),
  (22, .bipush 9, 0, 0, .int 9, []),
  (24, .newarray .int, 0, 0, .null, []),
  (26, .putfield 21, 6, 3, .null, []),
  (29, .aload_n 0, 0, 0, .null, []),
  (30, .iconst 3, 0, 0, .int 3, []),
  (31, .newarray .int, 0, 0, .null, []),
  (33, .putfield 24, 6, 4, .null, []),
  (36, .aload_n 0, 0, 0, .null, []),
  (37, .iconst 1, 0, 0, .int 1, []),
  (38, .putfield 27, 6, 9, .null, []),
  (41, .aload_n 0, 0, 0, .null, []),
  (42, .aload_n 1, 1, 0, .null, []),
  (43, .putfield 31, 6, 0, .null, []),
  (46, .aload_n 0, 0, 0, .null, []),
  (47, .getfield 24, 6, 4, .null, []),
  (50, .ldc 35, 0, 0, .int (-1000000005), []),
  (52, .invokestatic 36, 245, 2, .null, []),
  (55, .iconst 0, 0, 0, .int 0, []),
  (56, .istore_n 2, 2, 0, .null, []),
  (57, .iload_n 2, 2, 0, .null, []),
  (58, .aload_n 0, 0, 0, .null, []),
  (59, .getfield 17, 6, 2, .null, []),
  (62, .arraylength, 0, 0, .null, []),
  (63, .if_icmp .ge 22, 44, 0, .null, []),
  (66, .aload_n 0, 0, 0, .null, []),
  (67, .getfield 17, 6, 2, .null, []),
  (70, .iload_n 2, 2, 0, .null, []),
  (71, .new 15, 4, 0, .null, []),
  (74, .dup, 0, 0, .null, []),
  (75, .invokespecial 42, 41, 0, .int 1, []),
  (78, .aastore, 0, 0, .null, []),
  (79, .iinc 2 1, 2, 0, .null, []),
  (82, .goto (-25), 30, 0, .null, []),
  (85, .return_, 0, 0, .null, [])])
def mX6_takeFrom : pM := (⟨RX6, "takeFrom", "(LStoneSheets$Wall;)V"⟩, prog_8_method_2_code, 4, none, 1, 6, [(0, .aload_n 1, 1, 0, .null, []),
  (1, .getfield 9, 6, 1, .null, []),
  (4, .iconst 0, 0, 0, .int 0, []),
  (5, .aload_n 0, 0, 0, .null, []),
  (6, .getfield 9, 6, 1, .null, []),
  (9, .iconst 0, 0, 0, .int 0, []),
  (10, .bipush 16, 0, 0, .int 16, []),
  (12, .invokestatic 43, 99999, 0, .null, []),
  (15, .aload_n 1, 1, 0, .null, []),
  (16, .getfield 24, 6, 4, .null, []),
  (19, .iconst 0, 0, 0, .int 0, []),
  (20, .aload_n 0, 0, 0, .null, []),
  (21, .getfield 24, 6, 4, .null, []),
  (24, .iconst 0, 0, 0, .int 0, []),
  (25, .iconst 3, 0, 0, .int 3, []),
  (26, .invokestatic 43, 99999, 0, .null, []),
  (29, .aload_n 0, 0, 0, .null, []),
  (30, .aload_n 1, 1, 0, .null, []),
  (31, .getfield 49, 6, 5, .null, []),
  (34, .putfield 49, 6, 5, .null, []),
  (37, .aload_n 0, 0, 0, .null, []),
  (38, .aload_n 1, 1, 0, .null, []),
  (39, .getfield 52, 6, 6, .null, []),
  (42, .putfield 52, 6, 6, .null, []),
  (45, .aload_n 0, 0, 0, .null, []),
  (46, .aload_n 1, 1, 0, .null, []),
  (47, .getfield 55, 6, 7, .null, []),
  (50, .putfield 55, 6, 7, .null, []),
  (53, .aload_n 0, 0, 0, .null, []),
  (54, .aload_n 1, 1, 0, .null, []),
  (55, .getfield 58, 6, 8, .null, []),
  (58, .putfield 58, 6, 8, .null, []),
  (61, .aload_n 0, 0, 0, .null, []),
  (62, .aload_n 1, 1, 0, .null, []),
  (63, .getfield 27, 6, 9, .null, []),
  (66, .putfield 27, 6, 9, .null, []),
  (69, .iconst 0, 0, 0, .int 0, []),
  (70, .istore_n 2, 2, 0, .null, []),
  (71, .iload_n 2, 2, 0, .null, []),
  (72, .aload_n 0, 0, 0, .null, []),
  (73, .getfield 49, 6, 5, .null, []),
  (76, .if_icmp .ge 28, 55, 0, .null, []),
  (79, .aload_n 0, 0, 0, .null, []),
  (80, .iload_n 2, 2, 0, .null, []),
  (81, .invokevirtual 61, 64, 1, .null, []),
  (84, .astore_n 3, 3, 0, .null, []),
  (85, .aload_n 3, 3, 0, .null, []),
  (86, .ifnull 12, 53, 0, .null, []),
  (89, .aload_n 3, 3, 0, .null, []),
  (90, .aload_n 1, 1, 0, .null, []),
  (91, .iload_n 2, 2, 0, .null, []),
  (92, .invokevirtual 61, 64, 1, .null, []),
  (95, .invokevirtual 65, 43, 1, .null, []),
  (98, .iinc 2 1, 2, 0, .null, []),
  (101, .goto (-30), 38, 0, .null, []),
  (104, .return_, 0, 0, .null, [])])
def mX6_hasRoom : pM := (⟨RX6, "hasRoom", "()Z"⟩, prog_8_method_3_code, 1, (some FieldType.boolean), 1, 6, [(0, .aload_n 0, 0, 0, .null, []),
  (1, .getfield 49, 6, 5, .null, []),
  (4, .bipush 9, 0, 0, .int 9, []),
  (6, .if_icmp .ge 7, 6, 0, .null, []),
  (9, .iconst 1, 0, 0, .int 1, []),
  (10, .goto 4, 7, 0, .null, []),
  (13, .iconst 0, 0, 0, .int 0, []),
  (14, .ireturn, 0, 0, .null, [])])
def mX6_add : pM := (⟨RX6, "add", "(III)I"⟩, prog_8_method_4_code, 6, (some FieldType.int), 1, 6, [(0, .aload_n 0, 0, 0, .null, []),
  (1, .getfield 49, 6, 5, .null, []),
  (4, .istore 4, 4, 0, .null, []),
  (6, .aload_n 0, 0, 0, .null, []),
  (7, .dup, 0, 0, .null, []),
  (8, .getfield 49, 6, 5, .null, []),
  (11, .iconst 1, 0, 0, .int 1, []),
  (12, .iadd, 0, 0, .null, []),
  (13, .putfield 49, 6, 5, .null, []),
  (16, .aload_n 0, 0, 0, .null, []),
  (17, .iload 4, 4, 0, .null, []),
  (19, .invokevirtual 61, 64, 1, .null, []),
  (22, .astore 5, 5, 0, .null, []),
  (24, .aload 5, 5, 0, .null, []),
  (26, .ifnull 11, 20, 0, .null, []),
  (29, .aload 5, 5, 0, .null, []),
  (31, .iload_n 1, 1, 0, .null, []),
  (32, .iload_n 2, 2, 0, .null, []),
  (33, .iload_n 3, 3, 0, .null, []),
  (34, .invokevirtual 69, 42, 3, .null, []),
  (37, .iload 4, 4, 0, .null, []),
  (39, .ireturn, 0, 0, .null, [])])
def mX6_one : pM := (⟨RX6, "one", "(I)LStoneSheets$Rubbing;"⟩, prog_8_method_5_code, 2, (some (FieldType.object "StoneSheets$Rubbing")), 1, 6, [(0, .iload_n 1, 1, 0, .null, []),
  (1, .ifCond .lt 29, 16, 0, .null, []),
  (4, .iload_n 1, 1, 0, .null, []),
  (5, .aload_n 0, 0, 0, .null, []),
  (6, .getfield 49, 6, 5, .null, []),
  (9, .if_icmp .ge 21, 16, 0, .null, []),
  (12, .iload_n 1, 1, 0, .null, []),
  (13, .aload_n 0, 0, 0, .null, []),
  (14, .getfield 17, 6, 2, .null, []),
  (17, .arraylength, 0, 0, .null, []),
  (18, .if_icmp .ge 12, 16, 0, .null, []),
  (21, .aload_n 0, 0, 0, .null, []),
  (22, .getfield 17, 6, 2, .null, []),
  (25, .iload_n 1, 1, 0, .null, []),
  (26, .aaload, 0, 0, .null, []),
  (27, .goto 4, 17, 0, .null, []),
  (30, .aconst_null, 0, 0, .null, []),
  (31, .areturn, 0, 0, .null, [])])
def mX6_trustOf : pM := (⟨RX6, "trustOf", "(I)I"⟩, prog_8_method_6_code, 3, (some FieldType.int), 1, 6, [(0, .aload_n 0, 0, 0, .null, []),
  (1, .iload_n 1, 1, 0, .null, []),
  (2, .invokevirtual 61, 64, 1, .null, []),
  (5, .astore_n 2, 2, 0, .null, []),
  (6, .aload_n 2, 2, 0, .null, []),
  (7, .ifnonnull 7, 8, 0, .null, []),
  (10, .iconst 0, 0, 0, .int 0, []),
  (11, .goto 7, 10, 0, .null, []),
  (14, .aload_n 2, 2, 0, .null, []),
  (15, .getfield 73, 4, 5, .null, []),
  (18, .ireturn, 0, 0, .null, [])])
def mX6_layOne : pM := (⟨RX6, "layOne", "(II)V"⟩, prog_8_method_7_code, 4, none, 1, 6, [(0, .aload_n 0, 0, 0, .null, []),
  (1, .iload_n 1, 1, 0, .null, []),
  (2, .invokevirtual 61, 64, 1, .null, []),
  (5, .astore_n 3, 3, 0, .null, []),
  (6, .aload_n 3, 3, 0, .null, []),
  (7, .ifnull 8, 9, 0, .null, []),
  (10, .aload_n 3, 3, 0, .null, []),
  (11, .iload_n 2, 2, 0, .null, []),
  (12, .putfield 76, 4, 4, .null, []),
  (15, .return_, 0, 0, .null, [])])
def mX6_markAt : pM := (⟨RX6, "markAt", "(I)I"⟩, prog_8_method_8_code, 2, (some FieldType.int), 1, 6, [(0, .iload_n 1, 1, 0, .null, []),
  (1, .ifCond .lt 21, 12, 0, .null, []),
  (4, .iload_n 1, 1, 0, .null, []),
  (5, .aload_n 0, 0, 0, .null, []),
  (6, .getfield 9, 6, 1, .null, []),
  (9, .arraylength, 0, 0, .null, []),
  (10, .if_icmp .ge 12, 12, 0, .null, []),
  (13, .aload_n 0, 0, 0, .null, []),
  (14, .getfield 9, 6, 1, .null, []),
  (17, .iload_n 1, 1, 0, .null, []),
  (18, .iaload, 0, 0, .null, []),
  (19, .goto 4, 13, 0, .null, []),
  (22, .iconst 0, 0, 0, .int 0, []),
  (23, .ireturn, 0, 0, .null, [])])
def mX6_carveAt : pM := (⟨RX6, "carveAt", "(II)V"⟩, prog_8_method_9_code, 3, none, 1, 6, [(0, .iload_n 1, 1, 0, .null, []),
  (1, .ifCond .lt 19, 12, 0, .null, []),
  (4, .iload_n 1, 1, 0, .null, []),
  (5, .aload_n 0, 0, 0, .null, []),
  (6, .getfield 9, 6, 1, .null, []),
  (9, .arraylength, 0, 0, .null, []),
  (10, .if_icmp .ge 10, 12, 0, .null, []),
  (13, .aload_n 0, 0, 0, .null, []),
  (14, .getfield 9, 6, 1, .null, []),
  (17, .iload_n 1, 1, 0, .null, []),
  (18, .iload_n 2, 2, 0, .null, []),
  (19, .iastore, 0, 0, .null, []),
  (20, .return_, 0, 0, .null, [])])
def mX6_draw : pM := (⟨RX6, "draw", "()I"⟩, prog_8_method_10_code, 1, (some FieldType.int), 1, 6, [(0, .aload_n 0, 0, 0, .null, []),
  (1, .aload_n 0, 0, 0, .null, []),
  (2, .getfield 27, 6, 9, .null, []),
  (5, .ldc 79, 0, 0, .int 1103515245, []),
  (7, .imul, 0, 0, .null, []),
  (8, .sipush 12345, 0, 0, .int 12345, []),
  (11, .iadd, 0, 0, .null, []),
  (12, .putfield 27, 6, 9, .null, []),
  (15, .aload_n 0, 0, 0, .null, []),
  (16, .getfield 27, 6, 9, .null, []),
  (19, .bipush 8, 0, 0, .int 8, []),
  (21, .iushr, 0, 0, .null, []),
  (22, .ireturn, 0, 0, .null, [])])
def mX6_falsehood : pM := (⟨RX6, "falsehood", "(LStoneSheets$Rubbing;I)I"⟩, prog_8_method_11_code, 5, (some FieldType.int), 1, 6, [(0, .iconst 0, 0, 0, .int 0, []),
  (1, .istore_n 3, 3, 0, .null, []),
  (2, .iconst 0, 0, 0, .int 0, []),
  (3, .istore 4, 4, 0, .null, []),
  (5, .iload 4, 4, 0, .null, []),
  (7, .aload_n 1, 1, 0, .null, []),
  (8, .getfield 80, 4, 2, .null, []),
  (11, .if_icmp .ge 38, 25, 0, .null, []),
  (14, .iload_n 2, 2, 0, .null, []),
  (15, .iload 4, 4, 0, .null, []),
  (17, .iadd, 0, 0, .null, []),
  (18, .bipush 16, 0, 0, .int 16, []),
  (20, .if_icmp .ge 29, 25, 0, .null, []),
  (23, .aload_n 1, 1, 0, .null, []),
  (24, .iload 4, 4, 0, .null, []),
  (26, .invokevirtual 83, 50, 1, .null, []),
  (29, .aload_n 0, 0, 0, .null, []),
  (30, .iload_n 2, 2, 0, .null, []),
  (31, .iload 4, 4, 0, .null, []),
  (33, .iadd, 0, 0, .null, []),
  (34, .invokevirtual 87, 67, 1, .null, []),
  (37, .if_icmp .eq 6, 23, 0, .null, []),
  (40, .iinc 3 1, 3, 0, .null, []),
  (43, .iinc 4 1, 4, 0, .null, []),
  (46, .goto (-41), 4, 0, .null, []),
  (49, .iload_n 3, 3, 0, .null, []),
  (50, .ireturn, 0, 0, .null, [])])
def mX6_trustOfAll : pM := (⟨RX6, "trustOfAll", "()I"⟩, prog_8_method_12_code, 3, (some FieldType.int), 1, 6, [(0, .iconst 0, 0, 0, .int 0, []),
  (1, .istore_n 1, 1, 0, .null, []),
  (2, .iconst 0, 0, 0, .int 0, []),
  (3, .istore_n 2, 2, 0, .null, []),
  (4, .iload_n 2, 2, 0, .null, []),
  (5, .aload_n 0, 0, 0, .null, []),
  (6, .getfield 49, 6, 5, .null, []),
  (9, .if_icmp .ge 17, 16, 0, .null, []),
  (12, .iload_n 1, 1, 0, .null, []),
  (13, .aload_n 0, 0, 0, .null, []),
  (14, .iload_n 2, 2, 0, .null, []),
  (15, .invokevirtual 90, 65, 1, .null, []),
  (18, .iadd, 0, 0, .null, []),
  (19, .istore_n 1, 1, 0, .null, []),
  (20, .iinc 2 1, 2, 0, .null, []),
  (23, .goto (-19), 4, 0, .null, []),
  (26, .iload_n 1, 1, 0, .null, []),
  (27, .ireturn, 0, 0, .null, [])])
def mX6_laidSet : pM := (⟨RX6, "laidSet", "()I"⟩, prog_8_method_13_code, 4, (some FieldType.int), 1, 6, [(0, .iconst 0, 0, 0, .int 0, []),
  (1, .istore_n 1, 1, 0, .null, []),
  (2, .iconst 0, 0, 0, .int 0, []),
  (3, .istore_n 2, 2, 0, .null, []),
  (4, .iload_n 2, 2, 0, .null, []),
  (5, .aload_n 0, 0, 0, .null, []),
  (6, .getfield 49, 6, 5, .null, []),
  (9, .if_icmp .ge 32, 25, 0, .null, []),
  (12, .aload_n 0, 0, 0, .null, []),
  (13, .iload_n 2, 2, 0, .null, []),
  (14, .invokevirtual 61, 64, 1, .null, []),
  (17, .astore_n 3, 3, 0, .null, []),
  (18, .aload_n 3, 3, 0, .null, []),
  (19, .ifnull 16, 23, 0, .null, []),
  (22, .aload_n 3, 3, 0, .null, []),
  (23, .invokevirtual 93, 47, 0, .null, []),
  (26, .ifCond .eq 9, 23, 0, .null, []),
  (29, .iload_n 1, 1, 0, .null, []),
  (30, .iconst 1, 0, 0, .int 1, []),
  (31, .iload_n 2, 2, 0, .null, []),
  (32, .ishl, 0, 0, .null, []),
  (33, .ior, 0, 0, .null, []),
  (34, .istore_n 1, 1, 0, .null, []),
  (35, .iinc 2 1, 2, 0, .null, []),
  (38, .goto (-34), 4, 0, .null, []),
  (41, .iload_n 1, 1, 0, .null, []),
  (42, .ireturn, 0, 0, .null, [])])
def mX6_coveredBy : pM := (⟨RX6, "coveredBy", "(I)I"⟩, prog_8_method_14_code, 5, (some FieldType.int), 1, 6, [(0, .iconst 0, 0, 0, .int 0, []),
  (1, .istore_n 2, 2, 0, .null, []),
  (2, .iconst 0, 0, 0, .int 0, []),
  (3, .istore_n 3, 3, 0, .null, []),
  (4, .iload_n 3, 3, 0, .null, []),
  (5, .aload_n 0, 0, 0, .null, []),
  (6, .getfield 49, 6, 5, .null, []),
  (9, .if_icmp .ge 38, 28, 0, .null, []),
  (12, .aload_n 0, 0, 0, .null, []),
  (13, .iload_n 3, 3, 0, .null, []),
  (14, .invokevirtual 61, 64, 1, .null, []),
  (17, .astore 4, 4, 0, .null, []),
  (19, .aload 4, 4, 0, .null, []),
  (21, .ifnull 20, 26, 0, .null, []),
  (24, .iload_n 1, 1, 0, .null, []),
  (25, .iload_n 3, 3, 0, .null, []),
  (26, .ishr, 0, 0, .null, []),
  (27, .iconst 1, 0, 0, .int 1, []),
  (28, .iand, 0, 0, .null, []),
  (29, .iconst 1, 0, 0, .int 1, []),
  (30, .if_icmp .ne 11, 26, 0, .null, []),
  (33, .iload_n 2, 2, 0, .null, []),
  (34, .aload 4, 4, 0, .null, []),
  (36, .invokevirtual 97, 49, 0, .null, []),
  (39, .ior, 0, 0, .null, []),
  (40, .istore_n 2, 2, 0, .null, []),
  (41, .iinc 3 1, 3, 0, .null, []),
  (44, .goto (-40), 4, 0, .null, []),
  (47, .iload_n 2, 2, 0, .null, []),
  (48, .ireturn, 0, 0, .null, [])])
def mX6_open : pM := (⟨RX6, "open", "()I"⟩, prog_8_method_15_code, 1, (some FieldType.int), 1, 6, [(0, .ldc 101, 0, 0, .int 65535, []),
  (2, .aload_n 0, 0, 0, .null, []),
  (3, .aload_n 0, 0, 0, .null, []),
  (4, .invokevirtual 102, 72, 0, .null, []),
  (7, .invokevirtual 105, 73, 1, .null, []),
  (10, .iconst (-1), 0, 0, .int (-1), []),
  (11, .ixor, 0, 0, .null, []),
  (12, .iand, 0, 0, .null, []),
  (13, .ireturn, 0, 0, .null, [])])
def mX6_noteClashes : pM := (⟨RX6, "noteClashes", "()V"⟩, prog_8_method_16_code, 5, none, 1, 6, [(0, .iconst 0, 0, 0, .int 0, []),
  (1, .istore_n 1, 1, 0, .null, []),
  (2, .iload_n 1, 1, 0, .null, []),
  (3, .aload_n 0, 0, 0, .null, []),
  (4, .getfield 49, 6, 5, .null, []),
  (7, .if_icmp .ge 89, 55, 0, .null, []),
  (10, .iload_n 1, 1, 0, .null, []),
  (11, .aload_n 0, 0, 0, .null, []),
  (12, .getfield 21, 6, 3, .null, []),
  (15, .arraylength, 0, 0, .null, []),
  (16, .if_icmp .ge 80, 55, 0, .null, []),
  (19, .aload_n 0, 0, 0, .null, []),
  (20, .getfield 21, 6, 3, .null, []),
  (23, .iload_n 1, 1, 0, .null, []),
  (24, .iconst 0, 0, 0, .int 0, []),
  (25, .iastore, 0, 0, .null, []),
  (26, .aload_n 0, 0, 0, .null, []),
  (27, .iload_n 1, 1, 0, .null, []),
  (28, .invokevirtual 61, 64, 1, .null, []),
  (31, .astore_n 2, 2, 0, .null, []),
  (32, .iconst 0, 0, 0, .int 0, []),
  (33, .istore_n 3, 3, 0, .null, []),
  (34, .iload_n 3, 3, 0, .null, []),
  (35, .aload_n 0, 0, 0, .null, []),
  (36, .getfield 49, 6, 5, .null, []),
  (39, .if_icmp .ge 51, 53, 0, .null, []),
  (42, .aload_n 0, 0, 0, .null, []),
  (43, .iload_n 3, 3, 0, .null, []),
  (44, .invokevirtual 61, 64, 1, .null, []),
  (47, .astore 4, 4, 0, .null, []),
  (49, .iload_n 1, 1, 0, .null, []),
  (50, .iload_n 3, 3, 0, .null, []),
  (51, .if_icmp .eq 33, 51, 0, .null, []),
  (54, .aload_n 2, 2, 0, .null, []),
  (55, .ifnull 29, 51, 0, .null, []),
  (58, .aload 4, 4, 0, .null, []),
  (60, .ifnull 24, 51, 0, .null, []),
  (63, .aload_n 2, 2, 0, .null, []),
  (64, .aload 4, 4, 0, .null, []),
  (66, .invokevirtual 108, 58, 1, .null, []),
  (69, .ifCond .eq 15, 51, 0, .null, []),
  (72, .aload_n 0, 0, 0, .null, []),
  (73, .getfield 21, 6, 3, .null, []),
  (76, .iload_n 1, 1, 0, .null, []),
  (77, .dup2, 0, 0, .null, []),
  (78, .iaload, 0, 0, .null, []),
  (79, .iconst 1, 0, 0, .int 1, []),
  (80, .iload_n 3, 3, 0, .null, []),
  (81, .ishl, 0, 0, .null, []),
  (82, .ior, 0, 0, .null, []),
  (83, .iastore, 0, 0, .null, []),
  (84, .iinc 3 1, 3, 0, .null, []),
  (87, .goto (-53), 22, 0, .null, []),
  (90, .iinc 1 1, 1, 0, .null, []),
  (93, .goto (-91), 2, 0, .null, []),
  (96, .return_, 0, 0, .null, [])])
def mX6_anyClash : pM := (⟨RX6, "anyClash", "(I)Z"⟩, prog_8_method_17_code, 3, (some FieldType.boolean), 1, 6, [(0, .iconst 0, 0, 0, .int 0, []),
  (1, .istore_n 2, 2, 0, .null, []),
  (2, .iload_n 2, 2, 0, .null, []),
  (3, .aload_n 0, 0, 0, .null, []),
  (4, .getfield 49, 6, 5, .null, []),
  (7, .if_icmp .ge 40, 29, 0, .null, []),
  (10, .iload_n 2, 2, 0, .null, []),
  (11, .aload_n 0, 0, 0, .null, []),
  (12, .getfield 21, 6, 3, .null, []),
  (15, .arraylength, 0, 0, .null, []),
  (16, .if_icmp .ge 31, 29, 0, .null, []),
  (19, .iload_n 1, 1, 0, .null, []),
  (20, .iload_n 2, 2, 0, .null, []),
  (21, .ishr, 0, 0, .null, []),
  (22, .iconst 1, 0, 0, .int 1, []),
  (23, .iand, 0, 0, .null, []),
  (24, .iconst 1, 0, 0, .int 1, []),
  (25, .if_icmp .ne 16, 27, 0, .null, []),
  (28, .aload_n 0, 0, 0, .null, []),
  (29, .getfield 21, 6, 3, .null, []),
  (32, .iload_n 2, 2, 0, .null, []),
  (33, .iaload, 0, 0, .null, []),
  (34, .iload_n 1, 1, 0, .null, []),
  (35, .iand, 0, 0, .null, []),
  (36, .ifCond .eq 5, 27, 0, .null, []),
  (39, .iconst 1, 0, 0, .int 1, []),
  (40, .ireturn, 0, 0, .null, []),
  (41, .iinc 2 1, 2, 0, .null, []),
  (44, .goto (-42), 2, 0, .null, []),
  (47, .iconst 0, 0, 0, .int 0, []),
  (48, .ireturn, 0, 0, .null, [])])
def mX6_deniers : pM := (⟨RX6, "deniers", "(I)I"⟩, prog_8_method_18_code, 5, (some FieldType.int), 1, 6, [(0, .iconst 0, 0, 0, .int 0, []),
  (1, .istore_n 2, 2, 0, .null, []),
  (2, .iconst 0, 0, 0, .int 0, []),
  (3, .istore_n 3, 3, 0, .null, []),
  (4, .iload_n 3, 3, 0, .null, []),
  (5, .aload_n 0, 0, 0, .null, []),
  (6, .getfield 49, 6, 5, .null, []),
  (9, .if_icmp .ge 53, 31, 0, .null, []),
  (12, .aload_n 0, 0, 0, .null, []),
  (13, .iload_n 3, 3, 0, .null, []),
  (14, .invokevirtual 61, 64, 1, .null, []),
  (17, .astore 4, 4, 0, .null, []),
  (19, .aload 4, 4, 0, .null, []),
  (21, .ifnull 35, 29, 0, .null, []),
  (24, .aload 4, 4, 0, .null, []),
  (26, .iload_n 1, 1, 0, .null, []),
  (27, .invokevirtual 112, 48, 1, .null, []),
  (30, .ifCond .eq 26, 29, 0, .null, []),
  (33, .aload 4, 4, 0, .null, []),
  (35, .iload_n 1, 1, 0, .null, []),
  (36, .aload 4, 4, 0, .null, []),
  (38, .getfield 76, 4, 4, .null, []),
  (41, .isub, 0, 0, .null, []),
  (42, .invokevirtual 83, 50, 1, .null, []),
  (45, .aload_n 0, 0, 0, .null, []),
  (46, .iload_n 1, 1, 0, .null, []),
  (47, .invokevirtual 87, 67, 1, .null, []),
  (50, .if_icmp .eq 6, 29, 0, .null, []),
  (53, .iinc 2 1, 2, 0, .null, []),
  (56, .iinc 3 1, 3, 0, .null, []),
  (59, .goto (-55), 4, 0, .null, []),
  (62, .iload_n 2, 2, 0, .null, []),
  (63, .ireturn, 0, 0, .null, [])])
def mX6_flow : pM := (⟨RX6, "flow", "(I)V"⟩, prog_8_method_19_code, 6, none, 1, 6, [(0, .iconst 0, 0, 0, .int 0, []),
  (1, .istore_n 2, 2, 0, .null, []),
  (2, .iload_n 2, 2, 0, .null, []),
  (3, .iload_n 1, 1, 0, .null, []),
  (4, .if_icmp .ge 74, 40, 0, .null, []),
  (7, .aload_n 0, 0, 0, .null, []),
  (8, .invokevirtual 116, 69, 0, .null, []),
  (11, .bipush 16, 0, 0, .int 16, []),
  (13, .irem, 0, 0, .null, []),
  (14, .istore_n 3, 3, 0, .null, []),
  (15, .iconst 0, 0, 0, .int 0, []),
  (16, .istore 4, 4, 0, .null, []),
  (18, .iload 4, 4, 0, .null, []),
  (20, .aload_n 0, 0, 0, .null, []),
  (21, .getfield 49, 6, 5, .null, []),
  (24, .if_icmp .ge 38, 32, 0, .null, []),
  (27, .aload_n 0, 0, 0, .null, []),
  (28, .iload 4, 4, 0, .null, []),
  (30, .invokevirtual 61, 64, 1, .null, []),
  (33, .astore 5, 5, 0, .null, []),
  (35, .aload 5, 5, 0, .null, []),
  (37, .ifnull 19, 30, 0, .null, []),
  (40, .aload 5, 5, 0, .null, []),
  (42, .iload_n 3, 3, 0, .null, []),
  (43, .invokevirtual 112, 48, 1, .null, []),
  (46, .ifCond .eq 10, 30, 0, .null, []),
  (49, .aload_n 0, 0, 0, .null, []),
  (50, .aload 5, 5, 0, .null, []),
  (52, .iload_n 3, 3, 0, .null, []),
  (53, .invokevirtual 119, 79, 2, .null, []),
  (56, .iinc 4 1, 4, 0, .null, []),
  (59, .goto (-41), 12, 0, .null, []),
  (62, .aload_n 0, 0, 0, .null, []),
  (63, .dup, 0, 0, .null, []),
  (64, .getfield 55, 6, 7, .null, []),
  (67, .iconst 1, 0, 0, .int 1, []),
  (68, .iadd, 0, 0, .null, []),
  (69, .putfield 55, 6, 7, .null, []),
  (72, .iinc 2 1, 2, 0, .null, []),
  (75, .goto (-73), 2, 0, .null, []),
  (78, .return_, 0, 0, .null, [])])
def mX6_seeAgain : pM := (⟨RX6, "seeAgain", "(LStoneSheets$Rubbing;I)V"⟩, prog_8_method_20_code, 3, none, 1, 6, [(0, .aload_n 1, 1, 0, .null, []),
  (1, .iload_n 2, 2, 0, .null, []),
  (2, .aload_n 1, 1, 0, .null, []),
  (3, .getfield 76, 4, 4, .null, []),
  (6, .isub, 0, 0, .null, []),
  (7, .invokevirtual 83, 50, 1, .null, []),
  (10, .aload_n 0, 0, 0, .null, []),
  (11, .iload_n 2, 2, 0, .null, []),
  (12, .invokevirtual 87, 67, 1, .null, []),
  (15, .if_icmp .ne 25, 21, 0, .null, []),
  (18, .aload_n 1, 1, 0, .null, []),
  (19, .bipush 99, 0, 0, .int 99, []),
  (21, .aload_n 1, 1, 0, .null, []),
  (22, .getfield 73, 4, 5, .null, []),
  (25, .aload_n 0, 0, 0, .null, []),
  (26, .aload_n 1, 1, 0, .null, []),
  (27, .invokevirtual 123, 80, 1, .null, []),
  (30, .iadd, 0, 0, .null, []),
  (31, .invokestatic 127, 99991, 0, .null, []),
  (34, .putfield 73, 4, 5, .null, []),
  (37, .goto 16, 28, 0, .null, []),
  (40, .aload_n 1, 1, 0, .null, []),
  (41, .dup, 0, 0, .null, []),
  (42, .getfield 73, 4, 5, .null, []),
  (45, .aload_n 1, 1, 0, .null, []),
  (46, .invokevirtual 133, 55, 0, .null, []),
  (49, .isub, 0, 0, .null, []),
  (50, .putfield 73, 4, 5, .null, []),
  (53, .aload_n 1, 1, 0, .null, []),
  (54, .getfield 73, 4, 5, .null, []),
  (57, .ifCond .gt 24, 43, 0, .null, []),
  (60, .aload_n 1, 1, 0, .null, []),
  (61, .iconst 0, 0, 0, .int 0, []),
  (62, .putfield 73, 4, 5, .null, []),
  (65, .aload_n 1, 1, 0, .null, []),
  (66, .bipush 16, 0, 0, .int 16, []),
  (68, .putfield 76, 4, 4, .null, []),
  (71, .aload_n 0, 0, 0, .null, []),
  (72, .dup, 0, 0, .null, []),
  (73, .getfield 58, 6, 8, .null, []),
  (76, .iconst 1, 0, 0, .int 1, []),
  (77, .iadd, 0, 0, .null, []),
  (78, .putfield 58, 6, 8, .null, []),
  (81, .return_, 0, 0, .null, [])])
def mX6_gainOf : pM := (⟨RX6, "gainOf", "(LStoneSheets$Rubbing;)I"⟩, prog_8_method_21_code, 2, (some FieldType.int), 1, 6, [(0, .aload_n 1, 1, 0, .null, []),
  (1, .aload_n 0, 0, 0, .null, []),
  (2, .iconst 0, 0, 0, .int 0, []),
  (3, .aload_n 1, 1, 0, .null, []),
  (4, .iconst 3, 0, 0, .int 3, []),
  (5, .invokevirtual 136, 81, 3, .null, []),
  (8, .iconst 0, 0, 0, .int 0, []),
  (9, .bipush 99, 0, 0, .int 99, []),
  (11, .invokestatic 140, 132, 3, .int 1, []),
  (14, .invokevirtual 144, 54, 1, .null, []),
  (17, .ireturn, 0, 0, .null, [])])
def mX6_given : pM := (⟨RX6, "given", "(ILStoneSheets$Rubbing;I)I"⟩, prog_8_method_22_code, 5, (some FieldType.int), 1, 6, [(0, .aload_n 0, 0, 0, .null, []),
  (1, .aload_n 0, 0, 0, .null, []),
  (2, .iload_n 1, 1, 0, .null, []),
  (3, .invokevirtual 147, 82, 1, .null, []),
  (6, .invokevirtual 150, 83, 1, .null, []),
  (9, .astore 4, 4, 0, .null, []),
  (11, .aload 4, 4, 0, .null, []),
  (13, .ifnonnull 7, 10, 0, .null, []),
  (16, .iload_n 3, 3, 0, .null, []),
  (17, .goto 14, 16, 0, .null, []),
  (20, .aload_n 0, 0, 0, .null, []),
  (21, .getfield 31, 6, 0, .null, []),
  (24, .aload 4, 4, 0, .null, []),
  (26, .aload_n 0, 0, 0, .null, []),
  (27, .aload_n 2, 2, 0, .null, []),
  (28, .invokevirtual 154, 7, 3, .null, []),
  (31, .ireturn, 0, 0, .null, [])])
def mX6_textFor : pM := (⟨RX6, "textFor", "(I)I"⟩, prog_8_method_23_code, 2, (some FieldType.int), 1, 6, [(0, .iload_n 1, 1, 0, .null, []),
  (1, .ifCond .lt 21, 12, 0, .null, []),
  (4, .iload_n 1, 1, 0, .null, []),
  (5, .aload_n 0, 0, 0, .null, []),
  (6, .getfield 24, 6, 4, .null, []),
  (9, .arraylength, 0, 0, .null, []),
  (10, .if_icmp .ge 12, 12, 0, .null, []),
  (13, .aload_n 0, 0, 0, .null, []),
  (14, .getfield 24, 6, 4, .null, []),
  (17, .iload_n 1, 1, 0, .null, []),
  (18, .iaload, 0, 0, .null, []),
  (19, .goto 5, 13, 0, .null, []),
  (22, .ldc 35, 0, 0, .int (-1000000005), []),
  (24, .ireturn, 0, 0, .null, [])])
def mX6_lawAt : pM := (⟨RX6, "lawAt", "(I)LStoneSheets$Law;"⟩, prog_8_method_24_code, 2, (some (FieldType.object "StoneSheets$Law")), 1, 6, [(0, .iload_n 1, 1, 0, .null, []),
  (1, .aload_n 0, 0, 0, .null, []),
  (2, .getfield 52, 6, 6, .null, []),
  (5, .if_icmp .ge 14, 9, 0, .null, []),
  (8, .aload_n 0, 0, 0, .null, []),
  (9, .getfield 31, 6, 0, .null, []),
  (12, .iload_n 1, 1, 0, .null, []),
  (13, .invokevirtual 160, 6, 1, .null, []),
  (16, .goto 4, 10, 0, .null, []),
  (19, .aconst_null, 0, 0, .null, []),
  (20, .areturn, 0, 0, .null, [])])
def mX6_addText : pM := (⟨RX6, "addText", "()I"⟩, prog_8_method_25_code, 3, (some FieldType.int), 1, 6, [(0, .aload_n 0, 0, 0, .null, []),
  (1, .getfield 31, 6, 0, .null, []),
  (4, .aload_n 0, 0, 0, .null, []),
  (5, .getfield 52, 6, 6, .null, []),
  (8, .invokevirtual 160, 6, 1, .null, []),
  (11, .astore_n 1, 1, 0, .null, []),
  (12, .aload_n 0, 0, 0, .null, []),
  (13, .getfield 31, 6, 0, .null, []),
  (16, .getfield 162, 1, 1, .null, []),
  (19, .getfield 166, 0, 2, .null, []),
  (22, .istore_n 2, 2, 0, .null, []),
  (23, .aload_n 1, 1, 0, .null, []),
  (24, .ifnull 16, 20, 0, .null, []),
  (27, .iload_n 2, 2, 0, .null, []),
  (28, .ifCond .lt 12, 20, 0, .null, []),
  (31, .iload_n 2, 2, 0, .null, []),
  (32, .aload_n 0, 0, 0, .null, []),
  (33, .getfield 24, 6, 4, .null, []),
  (36, .arraylength, 0, 0, .null, []),
  (37, .if_icmp .lt 6, 22, 0, .null, []),
  (40, .ldc 171, 0, 0, .int (-1000000003), []),
  (42, .ireturn, 0, 0, .null, []),
  (43, .aload_n 1, 1, 0, .null, []),
  (44, .aload_n 0, 0, 0, .null, []),
  (45, .getfield 31, 6, 0, .null, []),
  (48, .getfield 162, 1, 1, .null, []),
  (51, .invokevirtual 172, 4, 1, .null, []),
  (54, .aload_n 0, 0, 0, .null, []),
  (55, .getfield 24, 6, 4, .null, []),
  (58, .iload_n 2, 2, 0, .null, []),
  (59, .aload_n 0, 0, 0, .null, []),
  (60, .getfield 52, 6, 6, .null, []),
  (63, .iastore, 0, 0, .null, []),
  (64, .aload_n 0, 0, 0, .null, []),
  (65, .dup, 0, 0, .null, []),
  (66, .getfield 52, 6, 6, .null, []),
  (69, .iconst 1, 0, 0, .int 1, []),
  (70, .iadd, 0, 0, .null, []),
  (71, .putfield 52, 6, 6, .null, []),
  (74, .aload_n 0, 0, 0, .null, []),
  (75, .getfield 52, 6, 6, .null, []),
  (78, .iconst 1, 0, 0, .int 1, []),
  (79, .isub, 0, 0, .null, []),
  (80, .ireturn, 0, 0, .null, [])])
def mX7_init : pM := (⟨RX7, "<init>", "()V"⟩, prog_1_method_1_code, 2, none, 2, 7, [(0, .aload_n 0, 0, 0, .null, []),
  (1, .invokespecial 1, 99999, 0, .null, []),
  (4, .aload_n 0, 0, 0, .null, []),
  (5, .new 7, 1, 0, .null, []),
  (8, .dup, 0, 0, .null, []),
  (9, .invokespecial 9, 5, 0, .null, []),
  (12, .putfield 10, 7, 0, .null, []),
  (15, .aload_n 0, 0, 0, .null, []),
  (16, .new 16, 6, 0, .null, []),
  (19, .dup, 0, 0, .null, []),
  (20, .aload_n 0, 0, 0, .null, []),
  (21, .getfield 10, 7, 0, .null, []),
  (24, .invokespecial 18, 60, 1, .null, []),
  (27, .putfield 21, 7, 1, .null, []),
  (30, .aload_n 0, 0, 0, .null, []),
  (31, .new 16, 6, 0, .null, []),
  (34, .dup, 0, 0, .null, []),
  (35, .aload_n 0, 0, 0, .null, []),
  (36, .getfield 10, 7, 0, .null, []),
  (39, .invokespecial 18, 60, 1, .null, []),
  (42, .putfield 25, 7, 2, .null, []),
  (45, .aload_n 0, 0, 0, .null, []),
  (46, .new 16, 6, 0, .null, []),
  (49, .dup, 0, 0, .null, []),
  (50, .aload_n 0, 0, 0, .null, []),
  (51, .getfield 10, 7, 0, .null, []),
  (54, .invokespecial 18, 60, 1, .null, []),
  (57, .putfield 28, 7, 3, .null, []),
  (60, .aload_n 0, 0, 0, .null, []),
  (61, .new 31, 2, 0, .null, []),
  (64, .dup, 0, 0, .null, []),
  (65, .invokespecial 33, 12, 0, .int 1, []),
  (68, .putfield 34, 7, 4, .null, []),
  (71, .aload_n 0, 0, 0, .null, []),
  (72, .iconst 4, 0, 0, .int 4, []),
  (73, .anewarray 38, 3, 0, .null, []),
  (76, .putfield 40, 7, 5, .null, []),
  (79, .aload_n 0, 0, 0, .null, []),
  (80, .iconst 5, 0, 0, .int 5, []),
  (81, .anewarray 44, 5, 0, .null, []),
  (84, .putfield 46, 7, 6, .null, []),
  (87, .aload_n 0, 0, 0, .null, []),
  (88, .bipush 60, 0, 0, .int 60, []),
  (90, .newarray .int, 0, 0, .null, []),
  (92, .putfield 50, 7, 7, .null, []),
  (95, .iconst 0, 0, 0, .int 0, []),
  (96, .istore_n 1, 1, 0, .null, []),
  (97, .iload_n 1, 1, 0, .null, []),
  (98, .aload_n 0, 0, 0, .null, []),
  (99, .getfield 40, 7, 5, .null, []),
  (102, .arraylength, 0, 0, .null, []),
  (103, .if_icmp .ge 22, 61, 0, .null, []),
  (106, .aload_n 0, 0, 0, .null, []),
  (107, .getfield 40, 7, 5, .null, []),
  (110, .iload_n 1, 1, 0, .null, []),
  (111, .new 38, 3, 0, .null, []),
  (114, .dup, 0, 0, .null, []),
  (115, .invokespecial 54, 33, 0, .int 1, []),
  (118, .aastore, 0, 0, .null, []),
  (119, .iinc 1 1, 1, 0, .null, []),
  (122, .goto (-25), 47, 0, .null, []),
  (125, .iconst 0, 0, 0, .int 0, []),
  (126, .istore_n 1, 1, 0, .null, []),
  (127, .iload_n 1, 1, 0, .null, []),
  (128, .aload_n 0, 0, 0, .null, []),
  (129, .getfield 46, 7, 6, .null, []),
  (132, .arraylength, 0, 0, .null, []),
  (133, .if_icmp .ge 22, 77, 0, .null, []),
  (136, .aload_n 0, 0, 0, .null, []),
  (137, .getfield 46, 7, 6, .null, []),
  (140, .iload_n 1, 1, 0, .null, []),
  (141, .new 44, 5, 0, .null, []),
  (144, .dup, 0, 0, .null, []),
  (145, .invokespecial 55, 59, 0, .int 1, []),
  (148, .aastore, 0, 0, .null, []),
  (149, .iinc 1 1, 1, 0, .null, []),
  (152, .goto (-25), 63, 0, .null, []),
  (155, .return_, 0, 0, .null, [])])
def mX7_rubbing : pM := (⟨RX7, "rubbing", "(III)I"⟩, prog_1_method_2_code, 4, (some FieldType.int), 1, 7, [(0, .iload_n 1, 1, 0, .null, []),
  (1, .invokestatic 56, 134, 1, .null, []),
  (4, .ifCond .eq 23, 13, 0, .null, []),
  (7, .iload_n 2, 2, 0, .null, []),
  (8, .iconst 0, 0, 0, .int 0, []),
  (9, .ldc 60, 0, 0, .int 65535, []),
  (11, .invokestatic 61, 131, 3, .null, []),
  (14, .ifCond .eq 13, 13, 0, .null, []),
  (17, .iload_n 3, 3, 0, .null, []),
  (18, .iconst 1, 0, 0, .int 1, []),
  (19, .bipush 8, 0, 0, .int 8, []),
  (21, .invokestatic 61, 131, 3, .null, []),
  (24, .ifCond .ne 6, 15, 0, .null, []),
  (27, .ldc 65, 0, 0, .int (-1000000001), []),
  (29, .ireturn, 0, 0, .null, []),
  (30, .aload_n 0, 0, 0, .null, []),
  (31, .getfield 21, 7, 1, .null, []),
  (34, .invokevirtual 66, 62, 0, .null, []),
  (37, .ifCond .eq 16, 26, 0, .null, []),
  (40, .aload_n 0, 0, 0, .null, []),
  (41, .getfield 21, 7, 1, .null, []),
  (44, .iload_n 1, 1, 0, .null, []),
  (45, .iload_n 2, 2, 0, .null, []),
  (46, .iload_n 3, 3, 0, .null, []),
  (47, .invokevirtual 70, 63, 3, .null, []),
  (50, .goto 5, 27, 0, .null, []),
  (53, .ldc 74, 0, 0, .int (-1000000003), []),
  (55, .ireturn, 0, 0, .null, [])])
def mX7_told : pM := (⟨RX7, "told", "(II)I"⟩, prog_1_method_3_code, 4, (some FieldType.int), 1, 7, [(0, .aload_n 0, 0, 0, .null, []),
  (1, .getfield 21, 7, 1, .null, []),
  (4, .iload_n 1, 1, 0, .null, []),
  (5, .invokevirtual 75, 64, 1, .null, []),
  (8, .astore_n 3, 3, 0, .null, []),
  (9, .aload_n 3, 3, 0, .null, []),
  (10, .ifnonnull 6, 9, 0, .null, []),
  (13, .ldc 65, 0, 0, .int (-1000000001), []),
  (15, .ireturn, 0, 0, .null, []),
  (16, .iload_n 2, 2, 0, .null, []),
  (17, .tableswitch 84 0 9 #[55, 84, 84, 84, 84, 84, 60, 65, 74, 79], 28, 55, .null, [11, 28, 28, 28, 28, 28, 14, 17, 22, 25]),
  (72, .aload_n 3, 3, 0, .null, []),
  (73, .getfield 79, 4, 0, .null, []),
  (76, .ireturn, 0, 0, .null, []),
  (77, .aload_n 3, 3, 0, .null, []),
  (78, .invokevirtual 85, 49, 0, .null, []),
  (81, .ireturn, 0, 0, .null, []),
  (82, .aload_n 0, 0, 0, .null, []),
  (83, .getfield 21, 7, 1, .null, []),
  (86, .aload_n 3, 3, 0, .null, []),
  (87, .invokevirtual 89, 80, 1, .null, []),
  (90, .ireturn, 0, 0, .null, []),
  (91, .aload_n 3, 3, 0, .null, []),
  (92, .invokevirtual 93, 55, 0, .null, []),
  (95, .ireturn, 0, 0, .null, []),
  (96, .aload_n 3, 3, 0, .null, []),
  (97, .invokevirtual 96, 56, 0, .null, []),
  (100, .ireturn, 0, 0, .null, []),
  (101, .iload_n 2, 2, 0, .null, []),
  (102, .invokestatic 99, 135, 1, .null, []),
  (105, .ifCond .eq 11, 35, 0, .null, []),
  (108, .aload_n 3, 3, 0, .null, []),
  (109, .iload_n 2, 2, 0, .null, []),
  (110, .invokevirtual 102, 44, 1, .null, []),
  (113, .goto 5, 36, 0, .null, []),
  (116, .ldc 65, 0, 0, .int (-1000000001), []),
  (118, .ireturn, 0, 0, .null, [])])
def mX7_says : pM := (⟨RX7, "says", "(II)I"⟩, prog_1_method_4_code, 4, (some FieldType.int), 1, 7, [(0, .aload_n 0, 0, 0, .null, []),
  (1, .getfield 21, 7, 1, .null, []),
  (4, .iload_n 1, 1, 0, .null, []),
  (5, .invokevirtual 75, 64, 1, .null, []),
  (8, .astore_n 3, 3, 0, .null, []),
  (9, .aload_n 3, 3, 0, .null, []),
  (10, .ifnull 25, 19, 0, .null, []),
  (13, .iload_n 2, 2, 0, .null, []),
  (14, .iconst 0, 0, 0, .int 0, []),
  (15, .aload_n 3, 3, 0, .null, []),
  (16, .getfield 106, 4, 2, .null, []),
  (19, .iconst 1, 0, 0, .int 1, []),
  (20, .isub, 0, 0, .null, []),
  (21, .invokestatic 61, 131, 3, .null, []),
  (24, .ifCond .eq 11, 19, 0, .null, []),
  (27, .aload_n 3, 3, 0, .null, []),
  (28, .iload_n 2, 2, 0, .null, []),
  (29, .invokevirtual 109, 50, 1, .null, []),
  (32, .goto 5, 20, 0, .null, []),
  (35, .ldc 65, 0, 0, .int (-1000000001), []),
  (37, .ireturn, 0, 0, .null, [])])
def mX7_as : pM := (⟨RX7, "as", "(II)I"⟩, prog_1_method_5_code, 4, (some FieldType.int), 1, 7, [(0, .aload_n 0, 0, 0, .null, []),
  (1, .getfield 21, 7, 1, .null, []),
  (4, .iload_n 1, 1, 0, .null, []),
  (5, .invokevirtual 75, 64, 1, .null, []),
  (8, .astore_n 3, 3, 0, .null, []),
  (9, .aload_n 3, 3, 0, .null, []),
  (10, .ifnull 10, 10, 0, .null, []),
  (13, .iload_n 2, 2, 0, .null, []),
  (14, .invokestatic 56, 134, 1, .null, []),
  (17, .ifCond .ne 6, 12, 0, .null, []),
  (20, .ldc 65, 0, 0, .int (-1000000001), []),
  (22, .ireturn, 0, 0, .null, []),
  (23, .aload_n 3, 3, 0, .null, []),
  (24, .iload_n 2, 2, 0, .null, []),
  (25, .invokevirtual 112, 46, 1, .null, []),
  (28, .ifCond .eq 10, 19, 0, .null, []),
  (31, .aload_n 3, 3, 0, .null, []),
  (32, .getfield 106, 4, 2, .null, []),
  (35, .goto 5, 20, 0, .null, []),
  (38, .ldc 115, 0, 0, .int (-1000000012), []),
  (40, .ireturn, 0, 0, .null, [])])
def mX7_turns : pM := (⟨RX7, "turns", "(II)I"⟩, prog_1_method_6_code, 5, (some FieldType.int), 1, 7, [(0, .aload_n 0, 0, 0, .null, []),
  (1, .getfield 21, 7, 1, .null, []),
  (4, .iload_n 1, 1, 0, .null, []),
  (5, .invokevirtual 75, 64, 1, .null, []),
  (8, .astore_n 3, 3, 0, .null, []),
  (9, .aload_n 3, 3, 0, .null, []),
  (10, .ifnull 10, 10, 0, .null, []),
  (13, .iload_n 2, 2, 0, .null, []),
  (14, .invokestatic 56, 134, 1, .null, []),
  (17, .ifCond .ne 6, 12, 0, .null, []),
  (20, .ldc 65, 0, 0, .int (-1000000001), []),
  (22, .ireturn, 0, 0, .null, []),
  (23, .aload_n 3, 3, 0, .null, []),
  (24, .getfield 79, 4, 0, .null, []),
  (27, .istore 4, 4, 0, .null, []),
  (29, .aload_n 3, 3, 0, .null, []),
  (30, .iload_n 2, 2, 0, .null, []),
  (31, .putfield 79, 4, 0, .null, []),
  (34, .iload 4, 4, 0, .null, []),
  (36, .ireturn, 0, 0, .null, [])])
def mX7_set : pM := (⟨RX7, "set", "(III)I"⟩, prog_1_method_7_code, 6, (some FieldType.int), 1, 7, [(0, .aload_n 0, 0, 0, .null, []),
  (1, .getfield 21, 7, 1, .null, []),
  (4, .iload_n 1, 1, 0, .null, []),
  (5, .invokevirtual 75, 64, 1, .null, []),
  (8, .astore 4, 4, 0, .null, []),
  (10, .aload 4, 4, 0, .null, []),
  (12, .ifnull 25, 17, 0, .null, []),
  (15, .iload_n 2, 2, 0, .null, []),
  (16, .invokestatic 99, 135, 1, .null, []),
  (19, .ifCond .eq 18, 17, 0, .null, []),
  (22, .iload_n 3, 3, 0, .null, []),
  (23, .iload_n 2, 2, 0, .null, []),
  (24, .invokestatic 116, 136, 1, .null, []),
  (27, .iload_n 2, 2, 0, .null, []),
  (28, .invokestatic 119, 137, 1, .null, []),
  (31, .invokestatic 61, 131, 3, .null, []),
  (34, .ifCond .ne 6, 19, 0, .null, []),
  (37, .ldc 65, 0, 0, .int (-1000000001), []),
  (39, .ireturn, 0, 0, .null, []),
  (40, .aload 4, 4, 0, .null, []),
  (42, .iload_n 2, 2, 0, .null, []),
  (43, .invokevirtual 102, 44, 1, .null, []),
  (46, .istore 5, 5, 0, .null, []),
  (48, .aload 4, 4, 0, .null, []),
  (50, .iload_n 2, 2, 0, .null, []),
  (51, .iload_n 3, 3, 0, .null, []),
  (52, .invokevirtual 122, 45, 2, .null, []),
  (55, .iload 5, 5, 0, .null, []),
  (57, .ireturn, 0, 0, .null, [])])
def mX7_carve : pM := (⟨RX7, "carve", "(II)I"⟩, prog_1_method_8_code, 4, (some FieldType.int), 1, 7, [(0, .iload_n 1, 1, 0, .null, []),
  (1, .invokestatic 126, 133, 1, .null, []),
  (4, .ifCond .eq 12, 8, 0, .null, []),
  (7, .iload_n 2, 2, 0, .null, []),
  (8, .iconst 0, 0, 0, .int 0, []),
  (9, .iconst 3, 0, 0, .int 3, []),
  (10, .invokestatic 61, 131, 3, .null, []),
  (13, .ifCond .ne 6, 10, 0, .null, []),
  (16, .ldc 65, 0, 0, .int (-1000000001), []),
  (18, .ireturn, 0, 0, .null, []),
  (19, .aload_n 0, 0, 0, .null, []),
  (20, .getfield 21, 7, 1, .null, []),
  (23, .iload_n 1, 1, 0, .null, []),
  (24, .invokevirtual 129, 67, 1, .null, []),
  (27, .istore_n 3, 3, 0, .null, []),
  (28, .aload_n 0, 0, 0, .null, []),
  (29, .getfield 21, 7, 1, .null, []),
  (32, .iload_n 1, 1, 0, .null, []),
  (33, .iload_n 2, 2, 0, .null, []),
  (34, .invokevirtual 132, 68, 2, .null, []),
  (37, .iload_n 3, 3, 0, .null, []),
  (38, .ireturn, 0, 0, .null, [])])
def mX7_carved : pM := (⟨RX7, "carved", "(I)I"⟩, prog_1_method_9_code, 2, (some FieldType.int), 1, 7, [(0, .iload_n 1, 1, 0, .null, []),
  (1, .invokestatic 126, 133, 1, .null, []),
  (4, .ifCond .eq 14, 8, 0, .null, []),
  (7, .aload_n 0, 0, 0, .null, []),
  (8, .getfield 21, 7, 1, .null, []),
  (11, .iload_n 1, 1, 0, .null, []),
  (12, .invokevirtual 129, 67, 1, .null, []),
  (15, .goto 5, 9, 0, .null, []),
  (18, .ldc 65, 0, 0, .int (-1000000001), []),
  (20, .ireturn, 0, 0, .null, [])])
def mX7_deal : pM := (⟨RX7, "deal", "(I)I"⟩, prog_1_method_10_code, 6, (some FieldType.int), 1, 7, [(0, .iload_n 1, 1, 0, .null, []),
  (1, .iconst 1, 0, 0, .int 1, []),
  (2, .bipush 9, 0, 0, .int 9, []),
  (4, .invokestatic 61, 131, 3, .null, []),
  (7, .ifCond .ne 6, 7, 0, .null, []),
  (10, .ldc 65, 0, 0, .int (-1000000001), []),
  (12, .ireturn, 0, 0, .null, []),
  (13, .iconst 0, 0, 0, .int 0, []),
  (14, .istore_n 2, 2, 0, .null, []),
  (15, .iload_n 2, 2, 0, .null, []),
  (16, .iload_n 1, 1, 0, .null, []),
  (17, .if_icmp .ge 69, 45, 0, .null, []),
  (20, .aload_n 0, 0, 0, .null, []),
  (21, .getfield 21, 7, 1, .null, []),
  (24, .invokevirtual 66, 62, 0, .null, []),
  (27, .ifCond .eq 59, 45, 0, .null, []),
  (30, .aload_n 0, 0, 0, .null, []),
  (31, .getfield 21, 7, 1, .null, []),
  (34, .invokevirtual 135, 69, 0, .null, []),
  (37, .bipush 6, 0, 0, .int 6, []),
  (39, .irem, 0, 0, .null, []),
  (40, .istore_n 3, 3, 0, .null, []),
  (41, .aload_n 0, 0, 0, .null, []),
  (42, .getfield 21, 7, 1, .null, []),
  (45, .invokevirtual 135, 69, 0, .null, []),
  (48, .ldc 138, 0, 0, .int 65536, []),
  (50, .irem, 0, 0, .null, []),
  (51, .istore 4, 4, 0, .null, []),
  (53, .iconst 1, 0, 0, .int 1, []),
  (54, .aload_n 0, 0, 0, .null, []),
  (55, .getfield 21, 7, 1, .null, []),
  (58, .invokevirtual 135, 69, 0, .null, []),
  (61, .bipush 8, 0, 0, .int 8, []),
  (63, .irem, 0, 0, .null, []),
  (64, .iadd, 0, 0, .null, []),
  (65, .istore 5, 5, 0, .null, []),
  (67, .aload_n 0, 0, 0, .null, []),
  (68, .getfield 21, 7, 1, .null, []),
  (71, .iload_n 3, 3, 0, .null, []),
  (72, .iload 4, 4, 0, .null, []),
  (74, .iload 5, 5, 0, .null, []),
  (76, .invokevirtual 70, 63, 3, .null, []),
  (79, .pop, 0, 0, .null, []),
  (80, .iinc 2 1, 2, 0, .null, []),
  (83, .goto (-68), 9, 0, .null, []),
  (86, .iload_n 2, 2, 0, .null, []),
  (87, .ireturn, 0, 0, .null, [])])
def mX7_seed : pM := (⟨RX7, "seed", "(I)I"⟩, prog_1_method_11_code, 3, (some FieldType.int), 1, 7, [(0, .aload_n 0, 0, 0, .null, []),
  (1, .getfield 21, 7, 1, .null, []),
  (4, .getfield 139, 6, 9, .null, []),
  (7, .istore_n 2, 2, 0, .null, []),
  (8, .aload_n 0, 0, 0, .null, []),
  (9, .getfield 21, 7, 1, .null, []),
  (12, .iload_n 1, 1, 0, .null, []),
  (13, .putfield 139, 6, 9, .null, []),
  (16, .iload_n 2, 2, 0, .null, []),
  (17, .ireturn, 0, 0, .null, [])])
def mX7_falseAt : pM := (⟨RX7, "falseAt", "(II)I"⟩, prog_1_method_12_code, 4, (some FieldType.int), 1, 7, [(0, .aload_n 0, 0, 0, .null, []),
  (1, .getfield 21, 7, 1, .null, []),
  (4, .iload_n 1, 1, 0, .null, []),
  (5, .invokevirtual 75, 64, 1, .null, []),
  (8, .astore_n 3, 3, 0, .null, []),
  (9, .aload_n 3, 3, 0, .null, []),
  (10, .ifnull 22, 16, 0, .null, []),
  (13, .iload_n 2, 2, 0, .null, []),
  (14, .invokestatic 126, 133, 1, .null, []),
  (17, .ifCond .eq 15, 16, 0, .null, []),
  (20, .aload_n 0, 0, 0, .null, []),
  (21, .getfield 21, 7, 1, .null, []),
  (24, .aload_n 3, 3, 0, .null, []),
  (25, .iload_n 2, 2, 0, .null, []),
  (26, .invokevirtual 142, 70, 2, .null, []),
  (29, .goto 5, 17, 0, .null, []),
  (32, .ldc 65, 0, 0, .int (-1000000001), []),
  (34, .ireturn, 0, 0, .null, [])])
def mX7_fits : pM := (⟨RX7, "fits", "(II)I"⟩, prog_1_method_13_code, 8, (some FieldType.int), 1, 7, [(0, .aload_n 0, 0, 0, .null, []),
  (1, .getfield 21, 7, 1, .null, []),
  (4, .iload_n 1, 1, 0, .null, []),
  (5, .invokevirtual 75, 64, 1, .null, []),
  (8, .astore_n 3, 3, 0, .null, []),
  (9, .aload_n 3, 3, 0, .null, []),
  (10, .ifnull 12, 12, 0, .null, []),
  (13, .iload_n 2, 2, 0, .null, []),
  (14, .iconst 0, 0, 0, .int 0, []),
  (15, .iconst 1, 0, 0, .int 1, []),
  (16, .invokestatic 61, 131, 3, .null, []),
  (19, .ifCond .ne 6, 14, 0, .null, []),
  (22, .ldc 65, 0, 0, .int (-1000000001), []),
  (24, .ireturn, 0, 0, .null, []),
  (25, .iconst 0, 0, 0, .int 0, []),
  (26, .istore 4, 4, 0, .null, []),
  (28, .aload_n 0, 0, 0, .null, []),
  (29, .getfield 21, 7, 1, .null, []),
  (32, .aload_n 3, 3, 0, .null, []),
  (33, .iconst 0, 0, 0, .int 0, []),
  (34, .invokevirtual 142, 70, 2, .null, []),
  (37, .istore 5, 5, 0, .null, []),
  (39, .iconst 1, 0, 0, .int 1, []),
  (40, .istore 6, 6, 0, .null, []),
  (42, .iload 6, 6, 0, .null, []),
  (44, .bipush 16, 0, 0, .int 16, []),
  (46, .aload_n 3, 3, 0, .null, []),
  (47, .getfield 106, 4, 2, .null, []),
  (50, .isub, 0, 0, .null, []),
  (51, .if_icmp .gt 36, 45, 0, .null, []),
  (54, .aload_n 0, 0, 0, .null, []),
  (55, .getfield 21, 7, 1, .null, []),
  (58, .aload_n 3, 3, 0, .null, []),
  (59, .iload 6, 6, 0, .null, []),
  (61, .invokevirtual 142, 70, 2, .null, []),
  (64, .istore 7, 7, 0, .null, []),
  (66, .iload 7, 7, 0, .null, []),
  (68, .iload 5, 5, 0, .null, []),
  (70, .if_icmp .ge 11, 43, 0, .null, []),
  (73, .iload 7, 7, 0, .null, []),
  (75, .istore 5, 5, 0, .null, []),
  (77, .iload 6, 6, 0, .null, []),
  (79, .istore 4, 4, 0, .null, []),
  (81, .iinc 6 1, 6, 0, .null, []),
  (84, .goto (-42), 24, 0, .null, []),
  (87, .iload_n 2, 2, 0, .null, []),
  (88, .ifCond .ne 8, 49, 0, .null, []),
  (91, .iload 4, 4, 0, .null, []),
  (93, .goto 5, 50, 0, .null, []),
  (96, .iload 5, 5, 0, .null, []),
  (98, .ireturn, 0, 0, .null, [])])
def mX7_join : pM := (⟨RX7, "join", "(III)I"⟩, prog_1_method_14_code, 10, (some FieldType.int), 1, 7, [(0, .aload_n 0, 0, 0, .null, []),
  (1, .getfield 21, 7, 1, .null, []),
  (4, .iload_n 1, 1, 0, .null, []),
  (5, .invokevirtual 75, 64, 1, .null, []),
  (8, .astore 4, 4, 0, .null, []),
  (10, .aload_n 0, 0, 0, .null, []),
  (11, .getfield 21, 7, 1, .null, []),
  (14, .iload_n 2, 2, 0, .null, []),
  (15, .invokevirtual 75, 64, 1, .null, []),
  (18, .astore 5, 5, 0, .null, []),
  (20, .aload 4, 4, 0, .null, []),
  (22, .ifnull 22, 22, 0, .null, []),
  (25, .aload 5, 5, 0, .null, []),
  (27, .ifnull 17, 22, 0, .null, []),
  (30, .iload_n 1, 1, 0, .null, []),
  (31, .iload_n 2, 2, 0, .null, []),
  (32, .if_icmp .eq 12, 22, 0, .null, []),
  (35, .iload_n 3, 3, 0, .null, []),
  (36, .iconst 0, 0, 0, .int 0, []),
  (37, .iconst 1, 0, 0, .int 1, []),
  (38, .invokestatic 61, 131, 3, .null, []),
  (41, .ifCond .ne 6, 24, 0, .null, []),
  (44, .ldc 65, 0, 0, .int (-1000000001), []),
  (46, .ireturn, 0, 0, .null, []),
  (47, .iconst 0, 0, 0, .int 0, []),
  (48, .istore 6, 6, 0, .null, []),
  (50, .aload 4, 4, 0, .null, []),
  (52, .aload 5, 5, 0, .null, []),
  (54, .iconst 0, 0, 0, .int 0, []),
  (55, .invokevirtual 146, 57, 2, .null, []),
  (58, .istore 7, 7, 0, .null, []),
  (60, .iconst 1, 0, 0, .int 1, []),
  (61, .istore 8, 8, 0, .null, []),
  (63, .iload 8, 8, 0, .null, []),
  (65, .aload 4, 4, 0, .null, []),
  (67, .getfield 106, 4, 2, .null, []),
  (70, .if_icmp .ge 35, 51, 0, .null, []),
  (73, .aload 4, 4, 0, .null, []),
  (75, .aload 5, 5, 0, .null, []),
  (77, .iload 8, 8, 0, .null, []),
  (79, .invokevirtual 146, 57, 2, .null, []),
  (82, .istore 9, 9, 0, .null, []),
  (84, .iload 9, 9, 0, .null, []),
  (86, .iload 7, 7, 0, .null, []),
  (88, .if_icmp .le 11, 49, 0, .null, []),
  (91, .iload 9, 9, 0, .null, []),
  (93, .istore 7, 7, 0, .null, []),
  (95, .iload 8, 8, 0, .null, []),
  (97, .istore 6, 6, 0, .null, []),
  (99, .iinc 8 1, 8, 0, .null, []),
  (102, .goto (-39), 33, 0, .null, []),
  (105, .iload_n 3, 3, 0, .null, []),
  (106, .ifCond .ne 8, 55, 0, .null, []),
  (109, .iload 6, 6, 0, .null, []),
  (111, .goto 5, 56, 0, .null, []),
  (114, .iload 7, 7, 0, .null, []),
  (116, .ireturn, 0, 0, .null, [])])
def mX7_clash : pM := (⟨RX7, "clash", "(II)I"⟩, prog_1_method_15_code, 5, (some FieldType.int), 1, 7, [(0, .aload_n 0, 0, 0, .null, []),
  (1, .getfield 21, 7, 1, .null, []),
  (4, .iload_n 1, 1, 0, .null, []),
  (5, .invokevirtual 75, 64, 1, .null, []),
  (8, .astore_n 3, 3, 0, .null, []),
  (9, .aload_n 0, 0, 0, .null, []),
  (10, .getfield 21, 7, 1, .null, []),
  (13, .iload_n 2, 2, 0, .null, []),
  (14, .invokevirtual 75, 64, 1, .null, []),
  (17, .astore 4, 4, 0, .null, []),
  (19, .aload_n 3, 3, 0, .null, []),
  (20, .ifnull 13, 17, 0, .null, []),
  (23, .aload 4, 4, 0, .null, []),
  (25, .ifnull 8, 17, 0, .null, []),
  (28, .iload_n 1, 1, 0, .null, []),
  (29, .iload_n 2, 2, 0, .null, []),
  (30, .if_icmp .ne 6, 19, 0, .null, []),
  (33, .ldc 65, 0, 0, .int (-1000000001), []),
  (35, .ireturn, 0, 0, .null, []),
  (36, .aload_n 3, 3, 0, .null, []),
  (37, .aload 4, 4, 0, .null, []),
  (39, .invokevirtual 149, 58, 1, .null, []),
  (42, .ifCond .eq 7, 25, 0, .null, []),
  (45, .iconst 1, 0, 0, .int 1, []),
  (46, .goto 4, 26, 0, .null, []),
  (49, .iconst 0, 0, 0, .int 0, []),
  (50, .ireturn, 0, 0, .null, [])])
def mX7_undone : pM := (⟨RX7, "undone", "()I"⟩, prog_1_method_16_code, 4, (some FieldType.int), 1, 7, [(0, .aload_n 0, 0, 0, .null, []),
  (1, .getfield 21, 7, 1, .null, []),
  (4, .invokevirtual 153, 75, 0, .null, []),
  (7, .aload_n 0, 0, 0, .null, []),
  (8, .getfield 21, 7, 1, .null, []),
  (11, .invokevirtual 156, 72, 0, .null, []),
  (14, .istore_n 1, 1, 0, .null, []),
  (15, .iload_n 1, 1, 0, .null, []),
  (16, .istore_n 2, 2, 0, .null, []),
  (17, .iconst 0, 0, 0, .int 0, []),
  (18, .istore_n 3, 3, 0, .null, []),
  (19, .iload_n 3, 3, 0, .null, []),
  (20, .iload_n 1, 1, 0, .null, []),
  (21, .if_icmp .ge 35, 32, 0, .null, []),
  (24, .iload_n 3, 3, 0, .null, []),
  (25, .iload_n 2, 2, 0, .null, []),
  (26, .iload_n 1, 1, 0, .null, []),
  (27, .invokestatic 159, 138, 3, .null, []),
  (30, .ifCond .eq 20, 30, 0, .null, []),
  (33, .aload_n 0, 0, 0, .null, []),
  (34, .getfield 21, 7, 1, .null, []),
  (37, .iload_n 1, 1, 0, .null, []),
  (38, .iload_n 3, 3, 0, .null, []),
  (39, .iconst (-1), 0, 0, .int (-1), []),
  (40, .ixor, 0, 0, .null, []),
  (41, .iand, 0, 0, .null, []),
  (42, .invokevirtual 162, 76, 1, .null, []),
  (45, .ifCond .ne 5, 30, 0, .null, []),
  (48, .iload_n 3, 3, 0, .null, []),
  (49, .istore_n 2, 2, 0, .null, []),
  (50, .iinc 3 1, 3, 0, .null, []),
  (53, .goto (-34), 11, 0, .null, []),
  (56, .iload_n 2, 2, 0, .null, []),
  (57, .ireturn, 0, 0, .null, [])])
def mX7_borne : pM := (⟨RX7, "borne", "()I"⟩, prog_1_method_17_code, 5, (some FieldType.int), 1, 7, [(0, .aload_n 0, 0, 0, .null, []),
  (1, .getfield 21, 7, 1, .null, []),
  (4, .invokevirtual 156, 72, 0, .null, []),
  (7, .istore_n 1, 1, 0, .null, []),
  (8, .aload_n 0, 0, 0, .null, []),
  (9, .getfield 21, 7, 1, .null, []),
  (12, .iload_n 1, 1, 0, .null, []),
  (13, .invokevirtual 165, 73, 1, .null, []),
  (16, .istore_n 2, 2, 0, .null, []),
  (17, .iload_n 1, 1, 0, .null, []),
  (18, .istore_n 3, 3, 0, .null, []),
  (19, .iconst 0, 0, 0, .int 0, []),
  (20, .istore 4, 4, 0, .null, []),
  (22, .iload 4, 4, 0, .null, []),
  (24, .iload_n 1, 1, 0, .null, []),
  (25, .if_icmp .ge 35, 31, 0, .null, []),
  (28, .iload 4, 4, 0, .null, []),
  (30, .iload_n 3, 3, 0, .null, []),
  (31, .iload_n 1, 1, 0, .null, []),
  (32, .invokestatic 159, 138, 3, .null, []),
  (35, .ifCond .eq 19, 29, 0, .null, []),
  (38, .aload_n 0, 0, 0, .null, []),
  (39, .getfield 21, 7, 1, .null, []),
  (42, .iload 4, 4, 0, .null, []),
  (44, .invokevirtual 165, 73, 1, .null, []),
  (47, .iload_n 2, 2, 0, .null, []),
  (48, .if_icmp .ne 6, 29, 0, .null, []),
  (51, .iload 4, 4, 0, .null, []),
  (53, .istore_n 3, 3, 0, .null, []),
  (54, .iinc 4 1, 4, 0, .null, []),
  (57, .goto (-35), 13, 0, .null, []),
  (60, .iload_n 3, 3, 0, .null, []),
  (61, .ireturn, 0, 0, .null, [])])
def mX7_look : pM := (⟨RX7, "look", "(I)I"⟩, prog_1_method_18_code, 6, (some FieldType.int), 1, 7, [(0, .iload_n 1, 1, 0, .null, []),
  (1, .iconst 0, 0, 0, .int 0, []),
  (2, .iconst 1, 0, 0, .int 1, []),
  (3, .invokestatic 61, 131, 3, .null, []),
  (6, .ifCond .ne 6, 7, 0, .null, []),
  (9, .ldc 65, 0, 0, .int (-1000000001), []),
  (11, .ireturn, 0, 0, .null, []),
  (12, .iconst 0, 0, 0, .int 0, []),
  (13, .istore_n 2, 2, 0, .null, []),
  (14, .aload_n 0, 0, 0, .null, []),
  (15, .getfield 21, 7, 1, .null, []),
  (18, .iconst 0, 0, 0, .int 0, []),
  (19, .invokevirtual 168, 77, 1, .null, []),
  (22, .istore_n 3, 3, 0, .null, []),
  (23, .iconst 1, 0, 0, .int 1, []),
  (24, .istore 4, 4, 0, .null, []),
  (26, .iload 4, 4, 0, .null, []),
  (28, .bipush 16, 0, 0, .int 16, []),
  (30, .if_icmp .ge 32, 33, 0, .null, []),
  (33, .aload_n 0, 0, 0, .null, []),
  (34, .getfield 21, 7, 1, .null, []),
  (37, .iload 4, 4, 0, .null, []),
  (39, .invokevirtual 168, 77, 1, .null, []),
  (42, .istore 5, 5, 0, .null, []),
  (44, .iload 5, 5, 0, .null, []),
  (46, .iload_n 3, 3, 0, .null, []),
  (47, .if_icmp .le 9, 31, 0, .null, []),
  (50, .iload 5, 5, 0, .null, []),
  (52, .istore_n 3, 3, 0, .null, []),
  (53, .iload 4, 4, 0, .null, []),
  (55, .istore_n 2, 2, 0, .null, []),
  (56, .iinc 4 1, 4, 0, .null, []),
  (59, .goto (-33), 16, 0, .null, []),
  (62, .iload_n 1, 1, 0, .null, []),
  (63, .ifCond .ne 7, 37, 0, .null, []),
  (66, .iload_n 2, 2, 0, .null, []),
  (67, .goto 4, 38, 0, .null, []),
  (70, .iload_n 3, 3, 0, .null, []),
  (71, .ireturn, 0, 0, .null, [])])
def mX7_tides : pM := (⟨RX7, "tides", "(I)I"⟩, prog_1_method_19_code, 3, (some FieldType.int), 1, 7, [(0, .iload_n 1, 1, 0, .null, []),
  (1, .iconst 1, 0, 0, .int 1, []),
  (2, .bipush 100, 0, 0, .int 100, []),
  (4, .invokestatic 61, 131, 3, .null, []),
  (7, .ifCond .ne 6, 7, 0, .null, []),
  (10, .ldc 65, 0, 0, .int (-1000000001), []),
  (12, .ireturn, 0, 0, .null, []),
  (13, .aload_n 0, 0, 0, .null, []),
  (14, .getfield 21, 7, 1, .null, []),
  (17, .getfield 171, 6, 8, .null, []),
  (20, .istore_n 2, 2, 0, .null, []),
  (21, .aload_n 0, 0, 0, .null, []),
  (22, .getfield 21, 7, 1, .null, []),
  (25, .iload_n 1, 1, 0, .null, []),
  (26, .sipush 9999, 0, 0, .int 9999, []),
  (29, .aload_n 0, 0, 0, .null, []),
  (30, .getfield 21, 7, 1, .null, []),
  (33, .getfield 174, 6, 7, .null, []),
  (36, .isub, 0, 0, .null, []),
  (37, .invokestatic 177, 99991, 0, .null, []),
  (40, .invokevirtual 183, 78, 1, .null, []),
  (43, .aload_n 0, 0, 0, .null, []),
  (44, .getfield 21, 7, 1, .null, []),
  (47, .getfield 171, 6, 8, .null, []),
  (50, .iload_n 2, 2, 0, .null, []),
  (51, .isub, 0, 0, .null, []),
  (52, .ireturn, 0, 0, .null, [])])
def mX7_book : pM := (⟨RX7, "book", "(I)I"⟩, prog_1_method_20_code, 2, (some FieldType.int), 1, 7, [(0, .iload_n 1, 1, 0, .null, []),
  (1, .tableswitch 63 0 3 #[31, 39, 47, 55], 18, 31, .null, [2, 6, 10, 14]),
  (32, .aload_n 0, 0, 0, .null, []),
  (33, .getfield 21, 7, 1, .null, []),
  (36, .getfield 171, 6, 8, .null, []),
  (39, .ireturn, 0, 0, .null, []),
  (40, .aload_n 0, 0, 0, .null, []),
  (41, .getfield 21, 7, 1, .null, []),
  (44, .invokevirtual 187, 71, 0, .null, []),
  (47, .ireturn, 0, 0, .null, []),
  (48, .aload_n 0, 0, 0, .null, []),
  (49, .getfield 21, 7, 1, .null, []),
  (52, .invokevirtual 156, 72, 0, .null, []),
  (55, .ireturn, 0, 0, .null, []),
  (56, .aload_n 0, 0, 0, .null, []),
  (57, .getfield 21, 7, 1, .null, []),
  (60, .invokevirtual 190, 74, 0, .null, []),
  (63, .ireturn, 0, 0, .null, []),
  (64, .ldc 65, 0, 0, .int (-1000000001), []),
  (66, .ireturn, 0, 0, .null, [])])
def mX7_behind : pM := (⟨RX7, "behind", "(II)I"⟩, prog_1_method_21_code, 3, (some FieldType.int), 1, 7, [(0, .iload_n 1, 1, 0, .null, []),
  (1, .iconst 0, 0, 0, .int 0, []),
  (2, .bipush 100, 0, 0, .int 100, []),
  (4, .invokestatic 61, 131, 3, .null, []),
  (7, .ifCond .eq 20, 14, 0, .null, []),
  (10, .iload_n 2, 2, 0, .null, []),
  (11, .iconst 0, 0, 0, .int 0, []),
  (12, .iconst 2, 0, 0, .int 2, []),
  (13, .aload_n 0, 0, 0, .null, []),
  (14, .getfield 21, 7, 1, .null, []),
  (17, .getfield 193, 6, 5, .null, []),
  (20, .iadd, 0, 0, .null, []),
  (21, .invokestatic 61, 131, 3, .null, []),
  (24, .ifCond .ne 6, 16, 0, .null, []),
  (27, .ldc 65, 0, 0, .int (-1000000001), []),
  (29, .ireturn, 0, 0, .null, []),
  (30, .aload_n 0, 0, 0, .null, []),
  (31, .getfield 28, 7, 3, .null, []),
  (34, .aload_n 0, 0, 0, .null, []),
  (35, .getfield 21, 7, 1, .null, []),
  (38, .invokevirtual 196, 61, 1, .null, []),
  (41, .aload_n 0, 0, 0, .null, []),
  (42, .getfield 28, 7, 3, .null, []),
  (45, .iload_n 1, 1, 0, .null, []),
  (46, .invokevirtual 183, 78, 1, .null, []),
  (49, .iload_n 2, 2, 0, .null, []),
  (50, .tableswitch 50 0 2 #[26, 34, 42], 39, 26, .null, [27, 31, 35]),
  (76, .aload_n 0, 0, 0, .null, []),
  (77, .getfield 28, 7, 3, .null, []),
  (80, .invokevirtual 187, 71, 0, .null, []),
  (83, .ireturn, 0, 0, .null, []),
  (84, .aload_n 0, 0, 0, .null, []),
  (85, .getfield 28, 7, 3, .null, []),
  (88, .invokevirtual 156, 72, 0, .null, []),
  (91, .ireturn, 0, 0, .null, []),
  (92, .aload_n 0, 0, 0, .null, []),
  (93, .getfield 28, 7, 3, .null, []),
  (96, .getfield 171, 6, 8, .null, []),
  (99, .ireturn, 0, 0, .null, []),
  (100, .aload_n 0, 0, 0, .null, []),
  (101, .getfield 28, 7, 3, .null, []),
  (104, .iload_n 2, 2, 0, .null, []),
  (105, .iconst 3, 0, 0, .int 3, []),
  (106, .isub, 0, 0, .null, []),
  (107, .invokevirtual 200, 65, 1, .null, []),
  (110, .ireturn, 0, 0, .null, [])])
def mX7_lasts : pM := (⟨RX7, "lasts", "()I"⟩, prog_1_method_22_code, 2, (some FieldType.int), 1, 7, [(0, .aload_n 0, 0, 0, .null, []),
  (1, .getfield 28, 7, 3, .null, []),
  (4, .aload_n 0, 0, 0, .null, []),
  (5, .getfield 21, 7, 1, .null, []),
  (8, .invokevirtual 196, 61, 1, .null, []),
  (11, .iconst 0, 0, 0, .int 0, []),
  (12, .istore_n 1, 1, 0, .null, []),
  (13, .iload_n 1, 1, 0, .null, []),
  (14, .sipush 300, 0, 0, .int 300, []),
  (17, .if_icmp .gt 29, 22, 0, .null, []),
  (20, .aload_n 0, 0, 0, .null, []),
  (21, .getfield 28, 7, 3, .null, []),
  (24, .invokevirtual 156, 72, 0, .null, []),
  (27, .ifCond .ne 5, 16, 0, .null, []),
  (30, .iload_n 1, 1, 0, .null, []),
  (31, .ireturn, 0, 0, .null, []),
  (32, .aload_n 0, 0, 0, .null, []),
  (33, .getfield 28, 7, 3, .null, []),
  (36, .iconst 1, 0, 0, .int 1, []),
  (37, .invokevirtual 183, 78, 1, .null, []),
  (40, .iinc 1 1, 1, 0, .null, []),
  (43, .goto (-30), 7, 0, .null, []),
  (46, .ldc 203, 0, 0, .int (-1000000005), []),
  (48, .ireturn, 0, 0, .null, [])])
def mX7_best : pM := (⟨RX7, "best", "(III)I"⟩, prog_1_method_23_code, 8, (some FieldType.int), 1, 7, [(0, .aload_n 0, 0, 0, .null, []),
  (1, .getfield 21, 7, 1, .null, []),
  (4, .iload_n 1, 1, 0, .null, []),
  (5, .invokevirtual 75, 64, 1, .null, []),
  (8, .ifnull 22, 15, 0, .null, []),
  (11, .iload_n 2, 2, 0, .null, []),
  (12, .iconst 1, 0, 0, .int 1, []),
  (13, .bipush 60, 0, 0, .int 60, []),
  (15, .invokestatic 61, 131, 3, .null, []),
  (18, .ifCond .eq 12, 15, 0, .null, []),
  (21, .iload_n 3, 3, 0, .null, []),
  (22, .iconst 0, 0, 0, .int 0, []),
  (23, .iconst 1, 0, 0, .int 1, []),
  (24, .invokestatic 61, 131, 3, .null, []),
  (27, .ifCond .ne 6, 17, 0, .null, []),
  (30, .ldc 65, 0, 0, .int (-1000000001), []),
  (32, .ireturn, 0, 0, .null, []),
  (33, .iconst 0, 0, 0, .int 0, []),
  (34, .istore 4, 4, 0, .null, []),
  (36, .iconst (-1), 0, 0, .int (-1), []),
  (37, .istore 5, 5, 0, .null, []),
  (39, .iconst 0, 0, 0, .int 0, []),
  (40, .istore 6, 6, 0, .null, []),
  (42, .iload 6, 6, 0, .null, []),
  (44, .bipush 16, 0, 0, .int 16, []),
  (46, .if_icmp .ge 63, 54, 0, .null, []),
  (49, .aload_n 0, 0, 0, .null, []),
  (50, .getfield 28, 7, 3, .null, []),
  (53, .aload_n 0, 0, 0, .null, []),
  (54, .getfield 21, 7, 1, .null, []),
  (57, .invokevirtual 196, 61, 1, .null, []),
  (60, .aload_n 0, 0, 0, .null, []),
  (61, .getfield 28, 7, 3, .null, []),
  (64, .iload_n 1, 1, 0, .null, []),
  (65, .iload 6, 6, 0, .null, []),
  (67, .invokevirtual 204, 66, 2, .null, []),
  (70, .aload_n 0, 0, 0, .null, []),
  (71, .getfield 28, 7, 3, .null, []),
  (74, .iload_n 2, 2, 0, .null, []),
  (75, .invokevirtual 183, 78, 1, .null, []),
  (78, .aload_n 0, 0, 0, .null, []),
  (79, .getfield 28, 7, 3, .null, []),
  (82, .iload_n 1, 1, 0, .null, []),
  (83, .invokevirtual 200, 65, 1, .null, []),
  (86, .istore 7, 7, 0, .null, []),
  (88, .iload 7, 7, 0, .null, []),
  (90, .iload 5, 5, 0, .null, []),
  (92, .if_icmp .le 11, 52, 0, .null, []),
  (95, .iload 7, 7, 0, .null, []),
  (97, .istore 5, 5, 0, .null, []),
  (99, .iload 6, 6, 0, .null, []),
  (101, .istore 4, 4, 0, .null, []),
  (103, .iinc 6 1, 6, 0, .null, []),
  (106, .goto (-64), 23, 0, .null, []),
  (109, .iload_n 3, 3, 0, .null, []),
  (110, .ifCond .ne 8, 58, 0, .null, []),
  (113, .iload 4, 4, 0, .null, []),
  (115, .goto 5, 59, 0, .null, []),
  (118, .iload 5, 5, 0, .null, []),
  (120, .ireturn, 0, 0, .null, [])])
def mX7_taught : pM := (⟨RX7, "taught", "(II)I"⟩, prog_1_method_24_code, 7, (some FieldType.int), 1, 7, [(0, .iload_n 1, 1, 0, .null, []),
  (1, .iconst 1, 0, 0, .int 1, []),
  (2, .bipush 60, 0, 0, .int 60, []),
  (4, .invokestatic 61, 131, 3, .null, []),
  (7, .ifCond .eq 12, 10, 0, .null, []),
  (10, .iload_n 2, 2, 0, .null, []),
  (11, .iconst 0, 0, 0, .int 0, []),
  (12, .iconst 1, 0, 0, .int 1, []),
  (13, .invokestatic 61, 131, 3, .null, []),
  (16, .ifCond .ne 6, 12, 0, .null, []),
  (19, .ldc 65, 0, 0, .int (-1000000001), []),
  (21, .ireturn, 0, 0, .null, []),
  (22, .iconst 0, 0, 0, .int 0, []),
  (23, .istore_n 3, 3, 0, .null, []),
  (24, .iconst (-1), 0, 0, .int (-1), []),
  (25, .istore 4, 4, 0, .null, []),
  (27, .iconst 0, 0, 0, .int 0, []),
  (28, .istore 5, 5, 0, .null, []),
  (30, .iload 5, 5, 0, .null, []),
  (32, .bipush 16, 0, 0, .int 16, []),
  (34, .if_icmp .ge 73, 55, 0, .null, []),
  (37, .aload_n 0, 0, 0, .null, []),
  (38, .getfield 28, 7, 3, .null, []),
  (41, .aload_n 0, 0, 0, .null, []),
  (42, .getfield 21, 7, 1, .null, []),
  (45, .invokevirtual 196, 61, 1, .null, []),
  (48, .aload_n 0, 0, 0, .null, []),
  (49, .getfield 28, 7, 3, .null, []),
  (52, .iload 5, 5, 0, .null, []),
  (54, .aload_n 0, 0, 0, .null, []),
  (55, .getfield 21, 7, 1, .null, []),
  (58, .iload 5, 5, 0, .null, []),
  (60, .invokevirtual 129, 67, 1, .null, []),
  (63, .iconst 1, 0, 0, .int 1, []),
  (64, .iadd, 0, 0, .null, []),
  (65, .iconst 4, 0, 0, .int 4, []),
  (66, .irem, 0, 0, .null, []),
  (67, .invokevirtual 132, 68, 2, .null, []),
  (70, .aload_n 0, 0, 0, .null, []),
  (71, .getfield 28, 7, 3, .null, []),
  (74, .iload_n 1, 1, 0, .null, []),
  (75, .invokevirtual 183, 78, 1, .null, []),
  (78, .aload_n 0, 0, 0, .null, []),
  (79, .getfield 28, 7, 3, .null, []),
  (82, .invokevirtual 187, 71, 0, .null, []),
  (85, .istore 6, 6, 0, .null, []),
  (87, .iload 6, 6, 0, .null, []),
  (89, .iload 4, 4, 0, .null, []),
  (91, .if_icmp .le 10, 53, 0, .null, []),
  (94, .iload 6, 6, 0, .null, []),
  (96, .istore 4, 4, 0, .null, []),
  (98, .iload 5, 5, 0, .null, []),
  (100, .istore_n 3, 3, 0, .null, []),
  (101, .iinc 5 1, 5, 0, .null, []),
  (104, .goto (-74), 18, 0, .null, []),
  (107, .iload_n 2, 2, 0, .null, []),
  (108, .ifCond .ne 7, 59, 0, .null, []),
  (111, .iload_n 3, 3, 0, .null, []),
  (112, .goto 5, 60, 0, .null, []),
  (115, .iload 4, 4, 0, .null, []),
  (117, .ireturn, 0, 0, .null, [])])
def mX7_whose : pM := (⟨RX7, "whose", "(II)I"⟩, prog_1_method_25_code, 8, (some FieldType.int), 1, 7, [(0, .aload_n 0, 0, 0, .null, []),
  (1, .iload_n 1, 1, 0, .null, []),
  (2, .invokevirtual 207, 140, 1, .null, []),
  (5, .astore_n 3, 3, 0, .null, []),
  (6, .aload_n 3, 3, 0, .null, []),
  (7, .ifnull 12, 11, 0, .null, []),
  (10, .iload_n 2, 2, 0, .null, []),
  (11, .iconst 0, 0, 0, .int 0, []),
  (12, .iconst 1, 0, 0, .int 1, []),
  (13, .invokestatic 61, 131, 3, .null, []),
  (16, .ifCond .ne 6, 13, 0, .null, []),
  (19, .ldc 65, 0, 0, .int (-1000000001), []),
  (21, .ireturn, 0, 0, .null, []),
  (22, .aload_n 3, 3, 0, .null, []),
  (23, .invokevirtual 211, 35, 0, .null, []),
  (26, .ifCond .eq 6, 18, 0, .null, []),
  (29, .ldc 214, 0, 0, .int (-1000000011), []),
  (31, .ireturn, 0, 0, .null, []),
  (32, .ldc 203, 0, 0, .int (-1000000005), []),
  (34, .istore 4, 4, 0, .null, []),
  (36, .ldc 203, 0, 0, .int (-1000000005), []),
  (38, .istore 5, 5, 0, .null, []),
  (40, .iconst 0, 0, 0, .int 0, []),
  (41, .istore 6, 6, 0, .null, []),
  (43, .iload 6, 6, 0, .null, []),
  (45, .aload_n 0, 0, 0, .null, []),
  (46, .getfield 21, 7, 1, .null, []),
  (49, .getfield 193, 6, 5, .null, []),
  (52, .if_icmp .ge 44, 47, 0, .null, []),
  (55, .aload_n 0, 0, 0, .null, []),
  (56, .getfield 21, 7, 1, .null, []),
  (59, .iload 6, 6, 0, .null, []),
  (61, .invokevirtual 75, 64, 1, .null, []),
  (64, .aload_n 3, 3, 0, .null, []),
  (65, .invokestatic 215, 139, 2, .null, []),
  (68, .istore 7, 7, 0, .null, []),
  (70, .iload 6, 6, 0, .null, []),
  (72, .ifCond .eq 10, 41, 0, .null, []),
  (75, .iload 7, 7, 0, .null, []),
  (77, .iload 5, 5, 0, .null, []),
  (79, .if_icmp .ge 11, 45, 0, .null, []),
  (82, .iload 7, 7, 0, .null, []),
  (84, .istore 5, 5, 0, .null, []),
  (86, .iload 6, 6, 0, .null, []),
  (88, .istore 4, 4, 0, .null, []),
  (90, .iinc 6 1, 6, 0, .null, []),
  (93, .goto (-50), 24, 0, .null, []),
  (96, .iload_n 2, 2, 0, .null, []),
  (97, .ifCond .ne 8, 51, 0, .null, []),
  (100, .iload 4, 4, 0, .null, []),
  (102, .goto 5, 52, 0, .null, []),
  (105, .iload 5, 5, 0, .null, []),
  (107, .ireturn, 0, 0, .null, [])])
def mX7_fee : pM := (⟨RX7, "fee", "()I"⟩, prog_1_method_26_code, 1, (some FieldType.int), 1, 7, [(0, .aload_n 0, 0, 0, .null, []),
  (1, .getfield 21, 7, 1, .null, []),
  (4, .iconst 1, 0, 0, .int 1, []),
  (5, .aconst_null, 0, 0, .null, []),
  (6, .aload_n 0, 0, 0, .null, []),
  (7, .getfield 21, 7, 1, .null, []),
  (10, .getfield 171, 6, 8, .null, []),
  (13, .invokevirtual 219, 81, 3, .null, []),
  (16, .ireturn, 0, 0, .null, [])])
def mX7_fine : pM := (⟨RX7, "fine", "(I)I"⟩, prog_1_method_27_code, 3, (some FieldType.int), 1, 7, [(0, .aload_n 0, 0, 0, .null, []),
  (1, .getfield 21, 7, 1, .null, []),
  (4, .iload_n 1, 1, 0, .null, []),
  (5, .invokevirtual 75, 64, 1, .null, []),
  (8, .astore_n 2, 2, 0, .null, []),
  (9, .aload_n 2, 2, 0, .null, []),
  (10, .ifnonnull 8, 9, 0, .null, []),
  (13, .ldc 65, 0, 0, .int (-1000000001), []),
  (15, .goto 16, 16, 0, .null, []),
  (18, .aload_n 0, 0, 0, .null, []),
  (19, .getfield 21, 7, 1, .null, []),
  (22, .iconst 2, 0, 0, .int 2, []),
  (23, .aload_n 2, 2, 0, .null, []),
  (24, .aload_n 2, 2, 0, .null, []),
  (25, .getfield 223, 4, 5, .null, []),
  (28, .invokevirtual 219, 81, 3, .null, []),
  (31, .ireturn, 0, 0, .null, [])])
def mX7_feed : pM := (⟨RX7, "feed", "(III)I"⟩, prog_1_method_28_code, 4, (some FieldType.int), 1, 7, [(0, .aload_n 0, 0, 0, .null, []),
  (1, .getfield 34, 7, 4, .null, []),
  (4, .bipush 12, 0, 0, .int 12, []),
  (6, .invokevirtual 226, 13, 1, .null, []),
  (9, .ifCond .ne 6, 7, 0, .null, []),
  (12, .ldc 74, 0, 0, .int (-1000000003), []),
  (14, .ireturn, 0, 0, .null, []),
  (15, .aload_n 0, 0, 0, .null, []),
  (16, .getfield 34, 7, 4, .null, []),
  (19, .iload_n 1, 1, 0, .null, []),
  (20, .invokevirtual 228, 14, 1, .null, []),
  (23, .aload_n 0, 0, 0, .null, []),
  (24, .getfield 34, 7, 4, .null, []),
  (27, .iload_n 2, 2, 0, .null, []),
  (28, .invokevirtual 228, 14, 1, .null, []),
  (31, .aload_n 0, 0, 0, .null, []),
  (32, .getfield 34, 7, 4, .null, []),
  (35, .iload_n 3, 3, 0, .null, []),
  (36, .invokevirtual 228, 14, 1, .null, []),
  (39, .aload_n 0, 0, 0, .null, []),
  (40, .getfield 34, 7, 4, .null, []),
  (43, .getfield 231, 2, 1, .null, []),
  (46, .ireturn, 0, 0, .null, [])])
def mX7_trim : pM := (⟨RX7, "trim", "(I)I"⟩, prog_1_method_29_code, 2, (some FieldType.int), 1, 7, [(0, .iload_n 1, 1, 0, .null, []),
  (1, .iconst 0, 0, 0, .int 0, []),
  (2, .aload_n 0, 0, 0, .null, []),
  (3, .getfield 34, 7, 4, .null, []),
  (6, .getfield 231, 2, 1, .null, []),
  (9, .invokestatic 61, 131, 3, .null, []),
  (12, .ifCond .ne 6, 9, 0, .null, []),
  (15, .ldc 65, 0, 0, .int (-1000000001), []),
  (17, .ireturn, 0, 0, .null, []),
  (18, .aload_n 0, 0, 0, .null, []),
  (19, .getfield 34, 7, 4, .null, []),
  (22, .iload_n 1, 1, 0, .null, []),
  (23, .putfield 231, 2, 1, .null, []),
  (26, .iload_n 1, 1, 0, .null, []),
  (27, .ireturn, 0, 0, .null, [])])
def mX7_text : pM := (⟨RX7, "text", "()I"⟩, prog_1_method_30_code, 2, (some FieldType.int), 1, 7, [(0, .aload_n 0, 0, 0, .null, []),
  (1, .getfield 34, 7, 4, .null, []),
  (4, .aload_n 0, 0, 0, .null, []),
  (5, .getfield 10, 7, 0, .null, []),
  (8, .getfield 234, 1, 1, .null, []),
  (11, .invokevirtual 238, 15, 1, .null, []),
  (14, .istore_n 1, 1, 0, .null, []),
  (15, .aload_n 0, 0, 0, .null, []),
  (16, .getfield 34, 7, 4, .null, []),
  (19, .iconst 0, 0, 0, .int 0, []),
  (20, .putfield 231, 2, 1, .null, []),
  (23, .iload_n 1, 1, 0, .null, []),
  (24, .ifCond .lt 8, 17, 0, .null, []),
  (27, .bipush (-100), 0, 0, .int (-100), []),
  (29, .iload_n 1, 1, 0, .null, []),
  (30, .isub, 0, 0, .null, []),
  (31, .ireturn, 0, 0, .null, []),
  (32, .aload_n 0, 0, 0, .null, []),
  (33, .getfield 21, 7, 1, .null, []),
  (36, .getfield 242, 6, 6, .null, []),
  (39, .bipush 14, 0, 0, .int 14, []),
  (41, .if_icmp .ge 13, 26, 0, .null, []),
  (44, .aload_n 0, 0, 0, .null, []),
  (45, .getfield 21, 7, 1, .null, []),
  (48, .invokevirtual 245, 84, 0, .null, []),
  (51, .goto 5, 27, 0, .null, []),
  (54, .ldc 74, 0, 0, .int (-1000000003), []),
  (56, .ireturn, 0, 0, .null, [])])
def mX7_textTold : pM := (⟨RX7, "textTold", "(II)I"⟩, prog_1_method_31_code, 4, (some FieldType.int), 1, 7, [(0, .aload_n 0, 0, 0, .null, []),
  (1, .getfield 21, 7, 1, .null, []),
  (4, .iload_n 1, 1, 0, .null, []),
  (5, .invokevirtual 248, 83, 1, .null, []),
  (8, .astore_n 3, 3, 0, .null, []),
  (9, .aload_n 3, 3, 0, .null, []),
  (10, .ifnull 12, 12, 0, .null, []),
  (13, .iload_n 2, 2, 0, .null, []),
  (14, .iconst 0, 0, 0, .int 0, []),
  (15, .iconst 1, 0, 0, .int 1, []),
  (16, .invokestatic 61, 131, 3, .null, []),
  (19, .ifCond .ne 6, 14, 0, .null, []),
  (22, .ldc 65, 0, 0, .int (-1000000001), []),
  (24, .ireturn, 0, 0, .null, []),
  (25, .iload_n 2, 2, 0, .null, []),
  (26, .ifCond .ne 10, 19, 0, .null, []),
  (29, .aload_n 3, 3, 0, .null, []),
  (30, .getfield 252, 0, 2, .null, []),
  (33, .goto 7, 21, 0, .null, []),
  (36, .aload_n 3, 3, 0, .null, []),
  (37, .getfield 257, 0, 3, .null, []),
  (40, .ireturn, 0, 0, .null, [])])
def mX7_why : pM := (⟨RX7, "why", "(I)I"⟩, prog_1_method_32_code, 2, (some FieldType.int), 1, 7, [(0, .iload_n 1, 1, 0, .null, []),
  (1, .iconst 0, 0, 0, .int 0, []),
  (2, .iconst 2, 0, 0, .int 2, []),
  (3, .invokestatic 61, 131, 3, .null, []),
  (6, .ifCond .eq 14, 10, 0, .null, []),
  (9, .aload_n 0, 0, 0, .null, []),
  (10, .getfield 21, 7, 1, .null, []),
  (13, .iload_n 1, 1, 0, .null, []),
  (14, .invokevirtual 260, 82, 1, .null, []),
  (17, .goto 5, 11, 0, .null, []),
  (20, .ldc 65, 0, 0, .int (-1000000001), []),
  (22, .ireturn, 0, 0, .null, [])])
def mX7_sheet : pM := (⟨RX7, "sheet", "(III)I"⟩, prog_1_method_33_code, 5, (some FieldType.int), 1, 7, [(0, .aload_n 0, 0, 0, .null, []),
  (1, .iload_n 1, 1, 0, .null, []),
  (2, .invokevirtual 207, 140, 1, .null, []),
  (5, .astore 4, 4, 0, .null, []),
  (7, .aload 4, 4, 0, .null, []),
  (9, .ifnull 12, 11, 0, .null, []),
  (12, .iload_n 2, 2, 0, .null, []),
  (13, .iconst (-1), 0, 0, .int (-1), []),
  (14, .iconst 1, 0, 0, .int 1, []),
  (15, .invokestatic 61, 131, 3, .null, []),
  (18, .ifCond .ne 6, 13, 0, .null, []),
  (21, .ldc 65, 0, 0, .int (-1000000001), []),
  (23, .ireturn, 0, 0, .null, []),
  (24, .iload_n 2, 2, 0, .null, []),
  (25, .iconst (-1), 0, 0, .int (-1), []),
  (26, .if_icmp .ne 12, 22, 0, .null, []),
  (29, .aload 4, 4, 0, .null, []),
  (31, .iconst (-1), 0, 0, .int (-1), []),
  (32, .iconst 0, 0, 0, .int 0, []),
  (33, .invokevirtual 263, 34, 2, .null, []),
  (36, .iconst 0, 0, 0, .int 0, []),
  (37, .ireturn, 0, 0, .null, []),
  (38, .iload_n 3, 3, 0, .null, []),
  (39, .bipush 24, 0, 0, .int 24, []),
  (41, .if_icmp .le 6, 27, 0, .null, []),
  (44, .ldc 65, 0, 0, .int (-1000000001), []),
  (46, .ireturn, 0, 0, .null, []),
  (47, .iload_n 3, 3, 0, .null, []),
  (48, .ifCond .ge 7, 31, 0, .null, []),
  (51, .ldc_w 264, 0, 0, .int (-1000000014), []),
  (54, .ireturn, 0, 0, .null, []),
  (55, .aload 4, 4, 0, .null, []),
  (57, .iload_n 2, 2, 0, .null, []),
  (58, .iload_n 3, 3, 0, .null, []),
  (59, .invokevirtual 263, 34, 2, .null, []),
  (62, .iload_n 3, 3, 0, .null, []),
  (63, .ireturn, 0, 0, .null, [])])
def mX7_mark : pM := (⟨RX7, "mark", "(III)I"⟩, prog_1_method_34_code, 5, (some FieldType.int), 1, 7, [(0, .aload_n 0, 0, 0, .null, []),
  (1, .iload_n 1, 1, 0, .null, []),
  (2, .invokevirtual 207, 140, 1, .null, []),
  (5, .astore 4, 4, 0, .null, []),
  (7, .aload 4, 4, 0, .null, []),
  (9, .ifnonnull 6, 8, 0, .null, []),
  (12, .ldc 65, 0, 0, .int (-1000000001), []),
  (14, .ireturn, 0, 0, .null, []),
  (15, .aload 4, 4, 0, .null, []),
  (17, .invokevirtual 211, 35, 0, .null, []),
  (20, .ifCond .eq 6, 13, 0, .null, []),
  (23, .ldc 214, 0, 0, .int (-1000000011), []),
  (25, .ireturn, 0, 0, .null, []),
  (26, .aload 4, 4, 0, .null, []),
  (28, .iload_n 2, 2, 0, .null, []),
  (29, .invokevirtual 265, 36, 1, .null, []),
  (32, .ifCond .ne 7, 19, 0, .null, []),
  (35, .ldc_w 268, 0, 0, .int (-1000000013), []),
  (38, .ireturn, 0, 0, .null, []),
  (39, .aload 4, 4, 0, .null, []),
  (41, .getfield 269, 3, 1, .null, []),
  (44, .ifCond .ne 22, 34, 0, .null, []),
  (47, .iload_n 3, 3, 0, .null, []),
  (48, .ldc 203, 0, 0, .int (-1000000005), []),
  (50, .if_icmp .ne 6, 27, 0, .null, []),
  (53, .ldc 115, 0, 0, .int (-1000000012), []),
  (55, .ireturn, 0, 0, .null, []),
  (56, .aload 4, 4, 0, .null, []),
  (58, .iload_n 2, 2, 0, .null, []),
  (59, .iload_n 3, 3, 0, .null, []),
  (60, .i2s, 0, 0, .null, []),
  (61, .invokevirtual 272, 39, 2, .null, []),
  (64, .iconst 1, 0, 0, .int 1, []),
  (65, .ireturn, 0, 0, .null, []),
  (66, .iload_n 3, 3, 0, .null, []),
  (67, .ldc 203, 0, 0, .int (-1000000005), []),
  (69, .if_icmp .eq 19, 44, 0, .null, []),
  (72, .iload_n 3, 3, 0, .null, []),
  (73, .ldc_w 275, 0, 0, .int (-99999), []),
  (76, .ldc_w 276, 0, 0, .int 99999, []),
  (79, .invokestatic 61, 131, 3, .null, []),
  (82, .ifCond .ne 6, 44, 0, .null, []),
  (85, .ldc 65, 0, 0, .int (-1000000001), []),
  (87, .ireturn, 0, 0, .null, []),
  (88, .aload 4, 4, 0, .null, []),
  (90, .iload_n 2, 2, 0, .null, []),
  (91, .iload_n 3, 3, 0, .null, []),
  (92, .invokevirtual 272, 39, 2, .null, []),
  (95, .iconst 1, 0, 0, .int 1, []),
  (96, .ireturn, 0, 0, .null, [])])
def mX7_pour : pM := (⟨RX7, "pour", "(I)I"⟩, prog_1_method_35_code, 7, (some FieldType.int), 1, 7, [(0, .aload_n 0, 0, 0, .null, []),
  (1, .iload_n 1, 1, 0, .null, []),
  (2, .invokevirtual 207, 140, 1, .null, []),
  (5, .astore_n 2, 2, 0, .null, []),
  (6, .aload_n 2, 2, 0, .null, []),
  (7, .ifnonnull 6, 8, 0, .null, []),
  (10, .ldc 65, 0, 0, .int (-1000000001), []),
  (12, .ireturn, 0, 0, .null, []),
  (13, .aload_n 2, 2, 0, .null, []),
  (14, .invokevirtual 211, 35, 0, .null, []),
  (17, .ifCond .eq 6, 13, 0, .null, []),
  (20, .ldc 214, 0, 0, .int (-1000000011), []),
  (22, .ireturn, 0, 0, .null, []),
  (23, .iconst 0, 0, 0, .int 0, []),
  (24, .istore_n 3, 3, 0, .null, []),
  (25, .iconst 0, 0, 0, .int 0, []),
  (26, .istore 4, 4, 0, .null, []),
  (28, .iload 4, 4, 0, .null, []),
  (30, .bipush 16, 0, 0, .int 16, []),
  (32, .if_icmp .ge 61, 46, 0, .null, []),
  (35, .aload_n 2, 2, 0, .null, []),
  (36, .iload 4, 4, 0, .null, []),
  (38, .invokevirtual 277, 38, 1, .null, []),
  (41, .istore 5, 5, 0, .null, []),
  (43, .iload 5, 5, 0, .null, []),
  (45, .iconst 0, 0, 0, .int 0, []),
  (46, .iconst 3, 0, 0, .int 3, []),
  (47, .invokestatic 280, 132, 3, .null, []),
  (50, .istore 6, 6, 0, .null, []),
  (52, .iload 5, 5, 0, .null, []),
  (54, .ldc 203, 0, 0, .int (-1000000005), []),
  (56, .if_icmp .eq 31, 44, 0, .null, []),
  (59, .iload 6, 6, 0, .null, []),
  (61, .aload_n 0, 0, 0, .null, []),
  (62, .getfield 21, 7, 1, .null, []),
  (65, .iload 4, 4, 0, .null, []),
  (67, .invokevirtual 129, 67, 1, .null, []),
  (70, .if_icmp .eq 17, 44, 0, .null, []),
  (73, .aload_n 0, 0, 0, .null, []),
  (74, .getfield 21, 7, 1, .null, []),
  (77, .iload 4, 4, 0, .null, []),
  (79, .iload 6, 6, 0, .null, []),
  (81, .invokevirtual 132, 68, 2, .null, []),
  (84, .iinc 3 1, 3, 0, .null, []),
  (87, .iinc 4 1, 4, 0, .null, []),
  (90, .goto (-62), 17, 0, .null, []),
  (93, .iload_n 3, 3, 0, .null, []),
  (94, .ireturn, 0, 0, .null, [])])
def mX7_reads : pM := (⟨RX7, "reads", "(I)I"⟩, prog_1_method_36_code, 6, (some FieldType.int), 1, 7, [(0, .aload_n 0, 0, 0, .null, []),
  (1, .iload_n 1, 1, 0, .null, []),
  (2, .invokevirtual 207, 140, 1, .null, []),
  (5, .astore_n 2, 2, 0, .null, []),
  (6, .aload_n 2, 2, 0, .null, []),
  (7, .ifnonnull 6, 8, 0, .null, []),
  (10, .ldc 65, 0, 0, .int (-1000000001), []),
  (12, .ireturn, 0, 0, .null, []),
  (13, .aload_n 2, 2, 0, .null, []),
  (14, .invokevirtual 211, 35, 0, .null, []),
  (17, .ifCond .eq 6, 13, 0, .null, []),
  (20, .ldc 214, 0, 0, .int (-1000000011), []),
  (22, .ireturn, 0, 0, .null, []),
  (23, .iconst 0, 0, 0, .int 0, []),
  (24, .istore_n 3, 3, 0, .null, []),
  (25, .iload_n 3, 3, 0, .null, []),
  (26, .aload_n 2, 2, 0, .null, []),
  (27, .getfield 283, 3, 2, .null, []),
  (30, .if_icmp .ge 50, 41, 0, .null, []),
  (33, .aload_n 2, 2, 0, .null, []),
  (34, .iload_n 3, 3, 0, .null, []),
  (35, .invokevirtual 277, 38, 1, .null, []),
  (38, .istore 4, 4, 0, .null, []),
  (40, .aload_n 0, 0, 0, .null, []),
  (41, .getfield 21, 7, 1, .null, []),
  (44, .iload_n 3, 3, 0, .null, []),
  (45, .invokevirtual 75, 64, 1, .null, []),
  (48, .astore 5, 5, 0, .null, []),
  (50, .iload 4, 4, 0, .null, []),
  (52, .ldc 203, 0, 0, .int (-1000000005), []),
  (54, .if_icmp .eq 20, 39, 0, .null, []),
  (57, .aload 5, 5, 0, .null, []),
  (59, .ifnull 13, 37, 0, .null, []),
  (62, .aload 5, 5, 0, .null, []),
  (64, .getfield 223, 4, 5, .null, []),
  (67, .iload 4, 4, 0, .null, []),
  (69, .if_icmp .eq 5, 39, 0, .null, []),
  (72, .iload_n 3, 3, 0, .null, []),
  (73, .ireturn, 0, 0, .null, []),
  (74, .iinc 3 1, 3, 0, .null, []),
  (77, .goto (-52), 15, 0, .null, []),
  (80, .ldc 203, 0, 0, .int (-1000000005), []),
  (82, .ireturn, 0, 0, .null, [])])
def mX7_copy : pM := (⟨RX7, "copy", "(IIIII)I"⟩, prog_1_method_37_code, 8, (some FieldType.int), 1, 7, [(0, .aload_n 0, 0, 0, .null, []),
  (1, .iload_n 1, 1, 0, .null, []),
  (2, .invokevirtual 207, 140, 1, .null, []),
  (5, .astore 6, 6, 0, .null, []),
  (7, .aload_n 0, 0, 0, .null, []),
  (8, .iload_n 3, 3, 0, .null, []),
  (9, .invokevirtual 207, 140, 1, .null, []),
  (12, .astore 7, 7, 0, .null, []),
  (14, .aload 6, 6, 0, .null, []),
  (16, .ifnull 8, 12, 0, .null, []),
  (19, .aload 7, 7, 0, .null, []),
  (21, .ifnonnull 6, 14, 0, .null, []),
  (24, .ldc 65, 0, 0, .int (-1000000001), []),
  (26, .ireturn, 0, 0, .null, []),
  (27, .aload 6, 6, 0, .null, []),
  (29, .invokevirtual 211, 35, 0, .null, []),
  (32, .ifCond .ne 11, 20, 0, .null, []),
  (35, .aload 7, 7, 0, .null, []),
  (37, .invokevirtual 211, 35, 0, .null, []),
  (40, .ifCond .eq 6, 22, 0, .null, []),
  (43, .ldc 214, 0, 0, .int (-1000000011), []),
  (45, .ireturn, 0, 0, .null, []),
  (46, .aload 6, 6, 0, .null, []),
  (48, .getfield 269, 3, 1, .null, []),
  (51, .aload 7, 7, 0, .null, []),
  (53, .getfield 269, 3, 1, .null, []),
  (56, .if_icmp .eq 6, 29, 0, .null, []),
  (59, .ldc 115, 0, 0, .int (-1000000012), []),
  (61, .ireturn, 0, 0, .null, []),
  (62, .aload 6, 6, 0, .null, []),
  (64, .iload_n 2, 2, 0, .null, []),
  (65, .iload 5, 5, 0, .null, []),
  (67, .invokevirtual 284, 37, 2, .null, []),
  (70, .ifCond .eq 15, 39, 0, .null, []),
  (73, .aload 7, 7, 0, .null, []),
  (75, .iload 4, 4, 0, .null, []),
  (77, .iload 5, 5, 0, .null, []),
  (79, .invokevirtual 284, 37, 2, .null, []),
  (82, .ifCond .ne 7, 41, 0, .null, []),
  (85, .ldc_w 268, 0, 0, .int (-1000000013), []),
  (88, .ireturn, 0, 0, .null, []),
  (89, .aload 6, 6, 0, .null, []),
  (91, .getfield 288, 3, 0, .null, []),
  (94, .iload_n 2, 2, 0, .null, []),
  (95, .aload 7, 7, 0, .null, []),
  (97, .getfield 288, 3, 0, .null, []),
  (100, .iload 4, 4, 0, .null, []),
  (102, .iload 5, 5, 0, .null, []),
  (104, .invokestatic 291, 99999, 0, .null, []),
  (107, .iload 5, 5, 0, .null, []),
  (109, .ireturn, 0, 0, .null, [])])
def mX7_lay : pM := (⟨RX7, "lay", "(III)I"⟩, prog_1_method_38_code, 8, (some FieldType.int), 1, 7, [(0, .aload_n 0, 0, 0, .null, []),
  (1, .iload_n 1, 1, 0, .null, []),
  (2, .invokevirtual 297, 141, 1, .null, []),
  (5, .astore 4, 4, 0, .null, []),
  (7, .aload 4, 4, 0, .null, []),
  (9, .ifnull 12, 11, 0, .null, []),
  (12, .iload_n 2, 2, 0, .null, []),
  (13, .iconst 0, 0, 0, .int 0, []),
  (14, .iconst 3, 0, 0, .int 3, []),
  (15, .invokestatic 61, 131, 3, .null, []),
  (18, .ifCond .ne 6, 13, 0, .null, []),
  (21, .ldc 65, 0, 0, .int (-1000000001), []),
  (23, .ireturn, 0, 0, .null, []),
  (24, .aload_n 0, 0, 0, .null, []),
  (25, .getfield 21, 7, 1, .null, []),
  (28, .iload_n 3, 3, 0, .null, []),
  (29, .invokevirtual 75, 64, 1, .null, []),
  (32, .astore 5, 5, 0, .null, []),
  (34, .aload_n 0, 0, 0, .null, []),
  (35, .iload_n 3, 3, 0, .null, []),
  (36, .invokevirtual 207, 140, 1, .null, []),
  (39, .astore 6, 6, 0, .null, []),
  (41, .iload_n 2, 2, 0, .null, []),
  (42, .iconst 1, 0, 0, .int 1, []),
  (43, .if_icmp .ne 8, 27, 0, .null, []),
  (46, .aload 5, 5, 0, .null, []),
  (48, .ifnull 13, 32, 0, .null, []),
  (51, .iload_n 2, 2, 0, .null, []),
  (52, .iconst 2, 0, 0, .int 2, []),
  (53, .if_icmp .ne 11, 34, 0, .null, []),
  (56, .aload 6, 6, 0, .null, []),
  (58, .ifnonnull 6, 34, 0, .null, []),
  (61, .ldc 65, 0, 0, .int (-1000000001), []),
  (63, .ireturn, 0, 0, .null, []),
  (64, .iload_n 2, 2, 0, .null, []),
  (65, .iconst 2, 0, 0, .int 2, []),
  (66, .if_icmp .ne 19, 44, 0, .null, []),
  (69, .aload 6, 6, 0, .null, []),
  (71, .ifnull 14, 44, 0, .null, []),
  (74, .aload 6, 6, 0, .null, []),
  (76, .invokevirtual 211, 35, 0, .null, []),
  (79, .ifCond .eq 6, 44, 0, .null, []),
  (82, .ldc 214, 0, 0, .int (-1000000011), []),
  (84, .ireturn, 0, 0, .null, []),
  (85, .aload 4, 4, 0, .null, []),
  (87, .getfield 301, 5, 2, .null, []),
  (90, .istore 7, 7, 0, .null, []),
  (92, .aload 4, 4, 0, .null, []),
  (94, .iload_n 2, 2, 0, .null, []),
  (95, .putfield 301, 5, 2, .null, []),
  (98, .iload_n 2, 2, 0, .null, []),
  (99, .iconst 1, 0, 0, .int 1, []),
  (100, .if_icmp .ne 16, 58, 0, .null, []),
  (103, .aload 4, 4, 0, .null, []),
  (105, .getfield 304, 5, 0, .null, []),
  (108, .aload 5, 5, 0, .null, []),
  (110, .invokevirtual 308, 43, 1, .null, []),
  (113, .goto 32, 72, 0, .null, []),
  (116, .iload_n 2, 2, 0, .null, []),
  (117, .iconst 2, 0, 0, .int 2, []),
  (118, .if_icmp .ne 16, 66, 0, .null, []),
  (121, .aload 4, 4, 0, .null, []),
  (123, .getfield 311, 5, 1, .null, []),
  (126, .aload 6, 6, 0, .null, []),
  (128, .invokevirtual 315, 40, 1, .null, []),
  (131, .goto 14, 72, 0, .null, []),
  (134, .iload_n 2, 2, 0, .null, []),
  (135, .iconst 3, 0, 0, .int 3, []),
  (136, .if_icmp .ne 9, 72, 0, .null, []),
  (139, .aload 4, 4, 0, .null, []),
  (141, .iload_n 3, 3, 0, .null, []),
  (142, .putfield 318, 5, 3, .null, []),
  (145, .iload 7, 7, 0, .null, []),
  (147, .ireturn, 0, 0, .null, [])])
def mX7_ask : pM := (⟨RX7, "ask", "(II)I"⟩, prog_1_method_39_code, 4, (some FieldType.int), 1, 7, [(0, .aload_n 0, 0, 0, .null, []),
  (1, .iload_n 1, 1, 0, .null, []),
  (2, .invokevirtual 297, 141, 1, .null, []),
  (5, .astore_n 3, 3, 0, .null, []),
  (6, .aload_n 3, 3, 0, .null, []),
  (7, .ifnull 10, 9, 0, .null, []),
  (10, .iload_n 2, 2, 0, .null, []),
  (11, .invokestatic 56, 134, 1, .null, []),
  (14, .ifCond .ne 6, 11, 0, .null, []),
  (17, .ldc 65, 0, 0, .int (-1000000001), []),
  (19, .ireturn, 0, 0, .null, []),
  (20, .aload_n 3, 3, 0, .null, []),
  (21, .getfield 301, 5, 2, .null, []),
  (24, .ifCond .ne 6, 16, 0, .null, []),
  (27, .ldc 214, 0, 0, .int (-1000000011), []),
  (29, .ireturn, 0, 0, .null, []),
  (30, .aload_n 3, 3, 0, .null, []),
  (31, .getfield 301, 5, 2, .null, []),
  (34, .iconst 1, 0, 0, .int 1, []),
  (35, .if_icmp .ne 24, 29, 0, .null, []),
  (38, .aload_n 3, 3, 0, .null, []),
  (39, .getfield 304, 5, 0, .null, []),
  (42, .iload_n 2, 2, 0, .null, []),
  (43, .invokevirtual 112, 46, 1, .null, []),
  (46, .ifCond .eq 13, 29, 0, .null, []),
  (49, .aload_n 3, 3, 0, .null, []),
  (50, .getfield 304, 5, 0, .null, []),
  (53, .invokevirtual 96, 56, 0, .null, []),
  (56, .goto 5, 30, 0, .null, []),
  (59, .ldc 115, 0, 0, .int (-1000000012), []),
  (61, .ireturn, 0, 0, .null, [])])
def mX7_item : pM := (⟨RX7, "item", "(II)I"⟩, prog_1_method_40_code, 5, (some FieldType.int), 1, 7, [(0, .aload_n 0, 0, 0, .null, []),
  (1, .iload_n 1, 1, 0, .null, []),
  (2, .invokevirtual 297, 141, 1, .null, []),
  (5, .astore_n 3, 3, 0, .null, []),
  (6, .aload_n 3, 3, 0, .null, []),
  (7, .ifnonnull 6, 8, 0, .null, []),
  (10, .ldc 65, 0, 0, .int (-1000000001), []),
  (12, .ireturn, 0, 0, .null, []),
  (13, .aload_n 3, 3, 0, .null, []),
  (14, .getfield 301, 5, 2, .null, []),
  (17, .ifCond .ne 6, 13, 0, .null, []),
  (20, .ldc 214, 0, 0, .int (-1000000011), []),
  (22, .ireturn, 0, 0, .null, []),
  (23, .aload_n 3, 3, 0, .null, []),
  (24, .getfield 301, 5, 2, .null, []),
  (27, .iconst 2, 0, 0, .int 2, []),
  (28, .if_icmp .eq 6, 19, 0, .null, []),
  (31, .ldc 115, 0, 0, .int (-1000000012), []),
  (33, .ireturn, 0, 0, .null, []),
  (34, .aload_n 3, 3, 0, .null, []),
  (35, .getfield 311, 5, 1, .null, []),
  (38, .iload_n 2, 2, 0, .null, []),
  (39, .invokevirtual 265, 36, 1, .null, []),
  (42, .ifCond .ne 7, 26, 0, .null, []),
  (45, .ldc_w 268, 0, 0, .int (-1000000013), []),
  (48, .ireturn, 0, 0, .null, []),
  (49, .aload_n 3, 3, 0, .null, []),
  (50, .getfield 311, 5, 1, .null, []),
  (53, .iload_n 2, 2, 0, .null, []),
  (54, .invokevirtual 277, 38, 1, .null, []),
  (57, .istore 4, 4, 0, .null, []),
  (59, .iload 4, 4, 0, .null, []),
  (61, .ldc 203, 0, 0, .int (-1000000005), []),
  (63, .if_icmp .ne 8, 36, 0, .null, []),
  (66, .ldc 115, 0, 0, .int (-1000000012), []),
  (68, .goto 5, 37, 0, .null, []),
  (71, .iload 4, 4, 0, .null, []),
  (73, .ireturn, 0, 0, .null, [])])
def mX7_rest : pM := (⟨RX7, "rest", "(II)I"⟩, prog_1_method_41_code, 4, (some FieldType.int), 1, 7, [(0, .aload_n 0, 0, 0, .null, []),
  (1, .iload_n 1, 1, 0, .null, []),
  (2, .invokevirtual 297, 141, 1, .null, []),
  (5, .astore_n 3, 3, 0, .null, []),
  (6, .aload_n 3, 3, 0, .null, []),
  (7, .ifnonnull 6, 8, 0, .null, []),
  (10, .ldc 65, 0, 0, .int (-1000000001), []),
  (12, .ireturn, 0, 0, .null, []),
  (13, .aload_n 3, 3, 0, .null, []),
  (14, .getfield 301, 5, 2, .null, []),
  (17, .ifCond .ne 6, 13, 0, .null, []),
  (20, .ldc 214, 0, 0, .int (-1000000011), []),
  (22, .ireturn, 0, 0, .null, []),
  (23, .aload_n 3, 3, 0, .null, []),
  (24, .getfield 301, 5, 2, .null, []),
  (27, .iconst 3, 0, 0, .int 3, []),
  (28, .if_icmp .eq 6, 19, 0, .null, []),
  (31, .ldc 115, 0, 0, .int (-1000000012), []),
  (33, .ireturn, 0, 0, .null, []),
  (34, .iload_n 2, 2, 0, .null, []),
  (35, .ifCond .ne 9, 23, 0, .null, []),
  (38, .ldc_w 321, 0, 0, .int (-1000000002), []),
  (41, .goto 9, 27, 0, .null, []),
  (44, .aload_n 3, 3, 0, .null, []),
  (45, .getfield 318, 5, 3, .null, []),
  (48, .iload_n 2, 2, 0, .null, []),
  (49, .irem, 0, 0, .null, []),
  (50, .ireturn, 0, 0, .null, [])])
def mX7_tell : pM := (⟨RX7, "tell", "(I)I"⟩, prog_1_method_42_code, 2, (some FieldType.int), 1, 7, [(0, .aload_n 0, 0, 0, .null, []),
  (1, .getfield 322, 7, 8, .null, []),
  (4, .ifCond .lt 15, 9, 0, .null, []),
  (7, .aload_n 0, 0, 0, .null, []),
  (8, .getfield 322, 7, 8, .null, []),
  (11, .aload_n 0, 0, 0, .null, []),
  (12, .getfield 50, 7, 7, .null, []),
  (15, .arraylength, 0, 0, .null, []),
  (16, .if_icmp .lt 6, 11, 0, .null, []),
  (19, .ldc 74, 0, 0, .int (-1000000003), []),
  (21, .ireturn, 0, 0, .null, []),
  (22, .aload_n 0, 0, 0, .null, []),
  (23, .getfield 50, 7, 7, .null, []),
  (26, .aload_n 0, 0, 0, .null, []),
  (27, .getfield 322, 7, 8, .null, []),
  (30, .iload_n 1, 1, 0, .null, []),
  (31, .iastore, 0, 0, .null, []),
  (32, .aload_n 0, 0, 0, .null, []),
  (33, .dup, 0, 0, .null, []),
  (34, .getfield 322, 7, 8, .null, []),
  (37, .iconst 1, 0, 0, .int 1, []),
  (38, .iadd, 0, 0, .null, []),
  (39, .putfield 322, 7, 8, .null, []),
  (42, .aload_n 0, 0, 0, .null, []),
  (43, .getfield 322, 7, 8, .null, []),
  (46, .ireturn, 0, 0, .null, [])])
def mX7_check : pM := (⟨RX7, "check", "(I)I"⟩, prog_1_method_43_code, 6, (some FieldType.int), 1, 7, [(0, .aload_n 0, 0, 0, .null, []),
  (1, .getfield 322, 7, 8, .null, []),
  (4, .istore_n 2, 2, 0, .null, []),
  (5, .aload_n 0, 0, 0, .null, []),
  (6, .iconst 0, 0, 0, .int 0, []),
  (7, .putfield 322, 7, 8, .null, []),
  (10, .iload_n 1, 1, 0, .null, []),
  (11, .iconst 1, 0, 0, .int 1, []),
  (12, .bipush 30, 0, 0, .int 30, []),
  (14, .invokestatic 61, 131, 3, .null, []),
  (17, .ifCond .ne 6, 13, 0, .null, []),
  (20, .ldc 65, 0, 0, .int (-1000000001), []),
  (22, .ireturn, 0, 0, .null, []),
  (23, .aload_n 0, 0, 0, .null, []),
  (24, .getfield 325, 7, 9, .null, []),
  (27, .ifCond .ne 7, 18, 0, .null, []),
  (30, .ldc_w 321, 0, 0, .int (-1000000002), []),
  (33, .ireturn, 0, 0, .null, []),
  (34, .aload_n 0, 0, 0, .null, []),
  (35, .getfield 28, 7, 3, .null, []),
  (38, .aload_n 0, 0, 0, .null, []),
  (39, .getfield 25, 7, 2, .null, []),
  (42, .invokevirtual 196, 61, 1, .null, []),
  (45, .iconst 2, 0, 0, .int 2, []),
  (46, .iload_n 1, 1, 0, .null, []),
  (47, .sipush 9999, 0, 0, .int 9999, []),
  (50, .aload_n 0, 0, 0, .null, []),
  (51, .getfield 25, 7, 2, .null, []),
  (54, .getfield 174, 6, 7, .null, []),
  (57, .isub, 0, 0, .null, []),
  (58, .invokestatic 177, 99991, 0, .null, []),
  (61, .imul, 0, 0, .null, []),
  (62, .istore_n 3, 3, 0, .null, []),
  (63, .iconst 0, 0, 0, .int 0, []),
  (64, .istore 4, 4, 0, .null, []),
  (66, .iload 4, 4, 0, .null, []),
  (68, .iload_n 3, 3, 0, .null, []),
  (69, .if_icmp .ge 86, 79, 0, .null, []),
  (72, .iload 4, 4, 0, .null, []),
  (74, .iconst 2, 0, 0, .int 2, []),
  (75, .irem, 0, 0, .null, []),
  (76, .ifCond .ne 11, 46, 0, .null, []),
  (79, .aload_n 0, 0, 0, .null, []),
  (80, .getfield 28, 7, 3, .null, []),
  (83, .iconst 1, 0, 0, .int 1, []),
  (84, .invokevirtual 183, 78, 1, .null, []),
  (87, .iload 4, 4, 0, .null, []),
  (89, .iconst 2, 0, 0, .int 2, []),
  (90, .irem, 0, 0, .null, []),
  (91, .ifCond .ne 13, 54, 0, .null, []),
  (94, .aload_n 0, 0, 0, .null, []),
  (95, .getfield 28, 7, 3, .null, []),
  (98, .invokevirtual 187, 71, 0, .null, []),
  (101, .goto 13, 58, 0, .null, []),
  (104, .aload_n 0, 0, 0, .null, []),
  (105, .getfield 28, 7, 3, .null, []),
  (108, .invokevirtual 156, 72, 0, .null, []),
  (111, .invokestatic 329, 244, 1, .null, []),
  (114, .istore 5, 5, 0, .null, []),
  (116, .iload 4, 4, 0, .null, []),
  (118, .iload_n 2, 2, 0, .null, []),
  (119, .if_icmp .ge 25, 73, 0, .null, []),
  (122, .iload 4, 4, 0, .null, []),
  (124, .aload_n 0, 0, 0, .null, []),
  (125, .getfield 50, 7, 7, .null, []),
  (128, .arraylength, 0, 0, .null, []),
  (129, .if_icmp .ge 15, 73, 0, .null, []),
  (132, .aload_n 0, 0, 0, .null, []),
  (133, .getfield 50, 7, 7, .null, []),
  (136, .iload 4, 4, 0, .null, []),
  (138, .iaload, 0, 0, .null, []),
  (139, .iload 5, 5, 0, .null, []),
  (141, .if_icmp .eq 8, 77, 0, .null, []),
  (144, .iconst 1, 0, 0, .int 1, []),
  (145, .iload 4, 4, 0, .null, []),
  (147, .iadd, 0, 0, .null, []),
  (148, .ireturn, 0, 0, .null, []),
  (149, .iinc 4 1, 4, 0, .null, []),
  (152, .goto (-86), 35, 0, .null, []),
  (155, .iload_n 2, 2, 0, .null, []),
  (156, .iload_n 3, 3, 0, .null, []),
  (157, .if_icmp .le 9, 86, 0, .null, []),
  (160, .iconst 1, 0, 0, .int 1, []),
  (161, .iload_n 3, 3, 0, .null, []),
  (162, .iadd, 0, 0, .null, []),
  (163, .goto 4, 87, 0, .null, []),
  (166, .iconst 0, 0, 0, .int 0, []),
  (167, .ireturn, 0, 0, .null, [])])
def mX7_keep : pM := (⟨RX7, "keep", "()I"⟩, prog_1_method_44_code, 1, (some FieldType.int), 1, 7, [(0, .aload_n 0, 0, 0, .null, []),
  (1, .getfield 25, 7, 2, .null, []),
  (4, .aload_n 0, 0, 0, .null, []),
  (5, .getfield 21, 7, 1, .null, []),
  (8, .invokevirtual 196, 61, 1, .null, []),
  (11, .aload_n 0, 0, 0, .null, []),
  (12, .iconst 1, 0, 0, .int 1, []),
  (13, .putfield 325, 7, 9, .null, []),
  (16, .aload_n 0, 0, 0, .null, []),
  (17, .getfield 21, 7, 1, .null, []),
  (20, .getfield 193, 6, 5, .null, []),
  (23, .ireturn, 0, 0, .null, [])])
def mX7_back : pM := (⟨RX7, "back", "()I"⟩, prog_1_method_45_code, 1, (some FieldType.int), 1, 7, [(0, .aload_n 0, 0, 0, .null, []),
  (1, .getfield 325, 7, 9, .null, []),
  (4, .ifCond .ne 7, 5, 0, .null, []),
  (7, .ldc_w 321, 0, 0, .int (-1000000002), []),
  (10, .ireturn, 0, 0, .null, []),
  (11, .aload_n 0, 0, 0, .null, []),
  (12, .getfield 21, 7, 1, .null, []),
  (15, .aload_n 0, 0, 0, .null, []),
  (16, .getfield 25, 7, 2, .null, []),
  (19, .invokevirtual 196, 61, 1, .null, []),
  (22, .aload_n 0, 0, 0, .null, []),
  (23, .getfield 21, 7, 1, .null, []),
  (26, .getfield 193, 6, 5, .null, []),
  (29, .ireturn, 0, 0, .null, [])])
def mX7_count : pM := (⟨RX7, "count", "(I)I"⟩, prog_1_method_46_code, 2, (some FieldType.int), 1, 7, [(0, .iload_n 1, 1, 0, .null, []),
  (1, .tableswitch 99 0 6 #[43, 51, 59, 70, 78, 83, 91], 30, 43, .null, [2, 6, 10, 15, 19, 22, 26]),
  (44, .aload_n 0, 0, 0, .null, []),
  (45, .getfield 21, 7, 1, .null, []),
  (48, .getfield 193, 6, 5, .null, []),
  (51, .ireturn, 0, 0, .null, []),
  (52, .aload_n 0, 0, 0, .null, []),
  (53, .getfield 21, 7, 1, .null, []),
  (56, .getfield 174, 6, 7, .null, []),
  (59, .ireturn, 0, 0, .null, []),
  (60, .aload_n 0, 0, 0, .null, []),
  (61, .getfield 21, 7, 1, .null, []),
  (64, .invokevirtual 156, 72, 0, .null, []),
  (67, .invokestatic 329, 244, 1, .null, []),
  (70, .ireturn, 0, 0, .null, []),
  (71, .aload_n 0, 0, 0, .null, []),
  (72, .getfield 21, 7, 1, .null, []),
  (75, .getfield 242, 6, 6, .null, []),
  (78, .ireturn, 0, 0, .null, []),
  (79, .aload_n 0, 0, 0, .null, []),
  (80, .getfield 322, 7, 8, .null, []),
  (83, .ireturn, 0, 0, .null, []),
  (84, .aload_n 0, 0, 0, .null, []),
  (85, .getfield 34, 7, 4, .null, []),
  (88, .getfield 231, 2, 1, .null, []),
  (91, .ireturn, 0, 0, .null, []),
  (92, .aload_n 0, 0, 0, .null, []),
  (93, .getfield 21, 7, 1, .null, []),
  (96, .getfield 139, 6, 9, .null, []),
  (99, .ireturn, 0, 0, .null, []),
  (100, .ldc 65, 0, 0, .int (-1000000001), []),
  (102, .ireturn, 0, 0, .null, [])])
def mX7_within : pM := (⟨RX7, "within", "(III)Z"⟩, prog_1_method_47_code, 3, (some FieldType.boolean), 0, 7, [(0, .iload_n 0, 0, 0, .null, []),
  (1, .iload_n 1, 1, 0, .null, []),
  (2, .if_icmp .lt 12, 8, 0, .null, []),
  (5, .iload_n 0, 0, 0, .null, []),
  (6, .iload_n 2, 2, 0, .null, []),
  (7, .if_icmp .gt 7, 8, 0, .null, []),
  (10, .iconst 1, 0, 0, .int 1, []),
  (11, .goto 4, 9, 0, .null, []),
  (14, .iconst 0, 0, 0, .int 0, []),
  (15, .ireturn, 0, 0, .null, [])])
def mX7_held : pM := (⟨RX7, "held", "(III)I"⟩, prog_1_method_48_code, 3, (some FieldType.int), 0, 7, [(0, .iload_n 1, 1, 0, .null, []),
  (1, .iload_n 2, 2, 0, .null, []),
  (2, .iload_n 0, 0, 0, .null, []),
  (3, .invokestatic 177, 99991, 0, .null, []),
  (6, .invokestatic 334, 99990, 0, .null, []),
  (9, .ireturn, 0, 0, .null, [])])
def mX7_isPlace : pM := (⟨RX7, "isPlace", "(I)Z"⟩, prog_1_method_49_code, 1, (some FieldType.boolean), 0, 7, [(0, .iload_n 0, 0, 0, .null, []),
  (1, .iconst 0, 0, 0, .int 0, []),
  (2, .bipush 15, 0, 0, .int 15, []),
  (4, .invokestatic 61, 131, 3, .null, []),
  (7, .ireturn, 0, 0, .null, [])])
def mX7_isKind : pM := (⟨RX7, "isKind", "(I)Z"⟩, prog_1_method_50_code, 1, (some FieldType.boolean), 0, 7, [(0, .iload_n 0, 0, 0, .null, []),
  (1, .iconst 0, 0, 0, .int 0, []),
  (2, .iconst 5, 0, 0, .int 5, []),
  (3, .invokestatic 61, 131, 3, .null, []),
  (6, .ireturn, 0, 0, .null, [])])
def mX7_isSettable : pM := (⟨RX7, "isSettable", "(I)Z"⟩, prog_1_method_51_code, 1, (some FieldType.boolean), 0, 7, [(0, .iload_n 0, 0, 0, .null, []),
  (1, .iconst 1, 0, 0, .int 1, []),
  (2, .iconst 5, 0, 0, .int 5, []),
  (3, .invokestatic 61, 131, 3, .null, []),
  (6, .ireturn, 0, 0, .null, [])])
def mX7_leastValue : pM := (⟨RX7, "leastValue", "(I)I"⟩, prog_1_method_52_code, 1, (some FieldType.int), 0, 7, [(0, .iload_n 0, 0, 0, .null, []),
  (1, .iconst 2, 0, 0, .int 2, []),
  (2, .if_icmp .ne 7, 5, 0, .null, []),
  (5, .iconst 1, 0, 0, .int 1, []),
  (6, .goto 4, 6, 0, .null, []),
  (9, .iconst 0, 0, 0, .int 0, []),
  (10, .ireturn, 0, 0, .null, [])])
def mX7_mostValue : pM := (⟨RX7, "mostValue", "(I)I"⟩, prog_1_method_53_code, 1, (some FieldType.int), 0, 7, [(0, .iload_n 0, 0, 0, .null, []),
  (1, .tableswitch 42 1 4 #[31, 34, 37, 39], 10, 31, .null, [2, 4, 6, 8]),
  (32, .ldc 60, 0, 0, .int 65535, []),
  (34, .ireturn, 0, 0, .null, []),
  (35, .bipush 8, 0, 0, .int 8, []),
  (37, .ireturn, 0, 0, .null, []),
  (38, .iconst 1, 0, 0, .int 1, []),
  (39, .ireturn, 0, 0, .null, []),
  (40, .bipush 16, 0, 0, .int 16, []),
  (42, .ireturn, 0, 0, .null, []),
  (43, .bipush 99, 0, 0, .int 99, []),
  (45, .ireturn, 0, 0, .null, [])])
def mX7_isFewerOf : pM := (⟨RX7, "isFewerOf", "(III)Z"⟩, prog_1_method_54_code, 3, (some FieldType.boolean), 0, 7, [(0, .iload_n 0, 0, 0, .null, []),
  (1, .iload_n 2, 2, 0, .null, []),
  (2, .iconst (-1), 0, 0, .int (-1), []),
  (3, .ixor, 0, 0, .null, []),
  (4, .iand, 0, 0, .null, []),
  (5, .ifCond .ne 18, 13, 0, .null, []),
  (8, .iload_n 0, 0, 0, .null, []),
  (9, .invokestatic 329, 244, 1, .null, []),
  (12, .iload_n 1, 1, 0, .null, []),
  (13, .invokestatic 329, 244, 1, .null, []),
  (16, .if_icmp .ge 7, 13, 0, .null, []),
  (19, .iconst 1, 0, 0, .int 1, []),
  (20, .goto 4, 14, 0, .null, []),
  (23, .iconst 0, 0, 0, .int 0, []),
  (24, .ireturn, 0, 0, .null, [])])
def mX7_apart : pM := (⟨RX7, "apart", "(LStoneSheets$Rubbing;LStoneSheets$Row;)I"⟩, prog_1_method_55_code, 5, (some FieldType.int), 0, 7, [(0, .iconst 0, 0, 0, .int 0, []),
  (1, .istore_n 2, 2, 0, .null, []),
  (2, .iconst 0, 0, 0, .int 0, []),
  (3, .istore_n 3, 3, 0, .null, []),
  (4, .aload_n 0, 0, 0, .null, []),
  (5, .ifnull 45, 28, 0, .null, []),
  (8, .iload_n 3, 3, 0, .null, []),
  (9, .aload_n 1, 1, 0, .null, []),
  (10, .getfield 283, 3, 2, .null, []),
  (13, .if_icmp .ge 37, 28, 0, .null, []),
  (16, .aload_n 1, 1, 0, .null, []),
  (17, .iload_n 3, 3, 0, .null, []),
  (18, .invokevirtual 277, 38, 1, .null, []),
  (21, .istore 4, 4, 0, .null, []),
  (23, .iload 4, 4, 0, .null, []),
  (25, .ldc 203, 0, 0, .int (-1000000005), []),
  (27, .if_icmp .eq 17, 26, 0, .null, []),
  (30, .iload_n 2, 2, 0, .null, []),
  (31, .aload_n 0, 0, 0, .null, []),
  (32, .iload_n 3, 3, 0, .null, []),
  (33, .invokevirtual 109, 50, 1, .null, []),
  (36, .iload 4, 4, 0, .null, []),
  (38, .isub, 0, 0, .null, []),
  (39, .invokestatic 337, 99992, 0, .null, []),
  (42, .iadd, 0, 0, .null, []),
  (43, .istore_n 2, 2, 0, .null, []),
  (44, .iinc 3 1, 3, 0, .null, []),
  (47, .goto (-43), 4, 0, .null, []),
  (50, .iload_n 2, 2, 0, .null, []),
  (51, .ireturn, 0, 0, .null, [])])
def mX7_rowOf : pM := (⟨RX7, "rowOf", "(I)LStoneSheets$Row;"⟩, prog_1_method_56_code, 2, (some (FieldType.object "StoneSheets$Row")), 1, 7, [(0, .iload_n 1, 1, 0, .null, []),
  (1, .ifCond .lt 21, 12, 0, .null, []),
  (4, .iload_n 1, 1, 0, .null, []),
  (5, .aload_n 0, 0, 0, .null, []),
  (6, .getfield 40, 7, 5, .null, []),
  (9, .arraylength, 0, 0, .null, []),
  (10, .if_icmp .ge 12, 12, 0, .null, []),
  (13, .aload_n 0, 0, 0, .null, []),
  (14, .getfield 40, 7, 5, .null, []),
  (17, .iload_n 1, 1, 0, .null, []),
  (18, .aaload, 0, 0, .null, []),
  (19, .goto 4, 13, 0, .null, []),
  (22, .aconst_null, 0, 0, .null, []),
  (23, .areturn, 0, 0, .null, [])])
def mX7_slotOf : pM := (⟨RX7, "slotOf", "(I)LStoneSheets$Slot;"⟩, prog_1_method_57_code, 2, (some (FieldType.object "StoneSheets$Slot")), 1, 7, [(0, .iload_n 1, 1, 0, .null, []),
  (1, .ifCond .lt 21, 12, 0, .null, []),
  (4, .iload_n 1, 1, 0, .null, []),
  (5, .aload_n 0, 0, 0, .null, []),
  (6, .getfield 46, 7, 6, .null, []),
  (9, .arraylength, 0, 0, .null, []),
  (10, .if_icmp .ge 12, 12, 0, .null, []),
  (13, .aload_n 0, 0, 0, .null, []),
  (14, .getfield 46, 7, 6, .null, []),
  (17, .iload_n 1, 1, 0, .null, []),
  (18, .aaload, 0, 0, .null, []),
  (19, .goto 4, 13, 0, .null, []),
  (22, .aconst_null, 0, 0, .null, []),
  (23, .areturn, 0, 0, .null, [])])
def mX8_init : pM := (⟨RX8, "<init>", "()V"⟩, prog_10_method_1_code, 2, none, 2, 8, [(0, .aload_n 0, 0, 0, .null, []),
  (1, .invokespecial 1, 99999, 0, .null, []),
  (4, .aload_n 0, 0, 0, .null, []),
  (5, .sipush 3075, 0, 0, .int 3075, []),
  (8, .newarray .int, 0, 0, .null, []),
  (10, .putfield 7, 8, 0, .null, []),
  (13, .aload_n 0, 0, 0, .null, []),
  (14, .sipush 3075, 0, 0, .int 3075, []),
  (17, .newarray .int, 0, 0, .null, []),
  (19, .putfield 13, 8, 1, .null, []),
  (22, .aload_n 0, 0, 0, .null, []),
  (23, .sipush 3075, 0, 0, .int 3075, []),
  (26, .newarray .int, 0, 0, .null, []),
  (28, .putfield 16, 8, 2, .null, []),
  (31, .aload_n 0, 0, 0, .null, []),
  (32, .iconst 4, 0, 0, .int 4, []),
  (33, .newarray .int, 0, 0, .null, []),
  (35, .putfield 19, 8, 4, .null, []),
  (38, .aload_n 0, 0, 0, .null, []),
  (39, .iconst 4, 0, 0, .int 4, []),
  (40, .newarray .int, 0, 0, .null, []),
  (42, .putfield 22, 8, 5, .null, []),
  (45, .aload_n 0, 0, 0, .null, []),
  (46, .bipush 96, 0, 0, .int 96, []),
  (48, .newarray .int, 0, 0, .null, []),
  (50, .putfield 25, 8, 6, .null, []),
  (53, .aload_n 0, 0, 0, .null, []),
  (54, .iconst 5, 0, 0, .int 5, []),
  (55, .newarray .int, 0, 0, .null, []),
  (57, .putfield 28, 8, 7, .null, []),
  (60, .aload_n 0, 0, 0, .null, []),
  (61, .iconst 5, 0, 0, .int 5, []),
  (62, .newarray .int, 0, 0, .null, []),
  (64, .putfield 31, 8, 8, .null, []),
  (67, .aload_n 0, 0, 0, .null, []),
  (68, .iconst 5, 0, 0, .int 5, []),
  (69, .newarray .int, 0, 0, .null, []),
  (71, .putfield 34, 8, 9, .null, []),
  (74, .aload_n 0, 0, 0, .null, []),
  (75, .iconst 5, 0, 0, .int 5, []),
  (76, .newarray .int, 0, 0, .null, []),
  (78, .putfield 37, 8, 10, .null, []),
  (81, .aload_n 0, 0, 0, .null, []),
  (82, .bipush 120, 0, 0, .int 120, []),
  (84, .newarray .int, 0, 0, .null, []),
  (86, .putfield 40, 8, 11, .null, []),
  (89, .aload_n 0, 0, 0, .null, []),
  (90, .bipush 9, 0, 0, .int 9, []),
  (92, .newarray .int, 0, 0, .null, []),
  (94, .putfield 43, 8, 12, .null, []),
  (97, .aload_n 0, 0, 0, .null, []),
  (98, .bipush 75, 0, 0, .int 75, []),
  (100, .newarray .int, 0, 0, .null, []),
  (102, .putfield 46, 8, 13, .null, []),
  (105, .aload_n 0, 0, 0, .null, []),
  (106, .bipush 96, 0, 0, .int 96, []),
  (108, .newarray .int, 0, 0, .null, []),
  (110, .putfield 49, 8, 14, .null, []),
  (113, .aload_n 0, 0, 0, .null, []),
  (114, .sipush 128, 0, 0, .int 128, []),
  (117, .newarray .int, 0, 0, .null, []),
  (119, .putfield 52, 8, 26, .null, []),
  (122, .aload_n 0, 0, 0, .null, []),
  (123, .bipush 100, 0, 0, .int 100, []),
  (125, .newarray .int, 0, 0, .null, []),
  (127, .putfield 55, 8, 27, .null, []),
  (130, .aload_n 0, 0, 0, .null, []),
  (131, .bipush 24, 0, 0, .int 24, []),
  (133, .newarray .int, 0, 0, .null, []),
  (135, .putfield 58, 8, 28, .null, []),
  (138, .aload_n 0, 0, 0, .null, []),
  (139, .bipush 60, 0, 0, .int 60, []),
  (141, .newarray .int, 0, 0, .null, []),
  (143, .putfield 61, 8, 29, .null, []),
  (146, .aload_n 0, 0, 0, .null, []),
  (147, .bipush 60, 0, 0, .int 60, []),
  (149, .newarray .int, 0, 0, .null, []),
  (151, .putfield 64, 8, 31, .null, []),
  (154, .aload_n 0, 0, 0, .null, []),
  (155, .getfield 7, 8, 0, .null, []),
  (158, .iconst 4, 0, 0, .int 4, []),
  (159, .iconst 1, 0, 0, .int 1, []),
  (160, .iastore, 0, 0, .null, []),
  (161, .iconst 0, 0, 0, .int 0, []),
  (162, .istore_n 1, 1, 0, .null, []),
  (163, .iload_n 1, 1, 0, .null, []),
  (164, .iconst 4, 0, 0, .int 4, []),
  (165, .if_icmp .ge 16, 95, 0, .null, []),
  (168, .aload_n 0, 0, 0, .null, []),
  (169, .getfield 19, 8, 4, .null, []),
  (172, .iload_n 1, 1, 0, .null, []),
  (173, .iconst (-1), 0, 0, .int (-1), []),
  (174, .iastore, 0, 0, .null, []),
  (175, .iinc 1 1, 1, 0, .null, []),
  (178, .goto (-15), 85, 0, .null, []),
  (181, .return_, 0, 0, .null, [])])
def mX8_isIn : pM := (⟨RX8, "isIn", "(JJJ)Z"⟩, prog_10_method_2_code, 6, (some FieldType.boolean), 0, 8, [(0, .lload_n 0, 0, 0, .null, []),
  (1, .lload_n 2, 2, 0, .null, []),
  (2, .lcmp, 0, 0, .null, []),
  (3, .ifCond .lt 14, 10, 0, .null, []),
  (6, .lload_n 0, 0, 0, .null, []),
  (7, .lload 4, 4, 0, .null, []),
  (9, .lcmp, 0, 0, .null, []),
  (10, .ifCond .gt 7, 10, 0, .null, []),
  (13, .iconst 1, 0, 0, .int 1, []),
  (14, .goto 4, 11, 0, .null, []),
  (17, .iconst 0, 0, 0, .int 0, []),
  (18, .ireturn, 0, 0, .null, [])])
def mX8_orNone : pM := (⟨RX8, "orNone", "(I)I"⟩, prog_10_method_3_code, 1, (some FieldType.int), 0, 8, [(0, .iload_n 0, 0, 0, .null, []),
  (1, .ifCond .ge 8, 4, 0, .null, []),
  (4, .ldc 67, 0, 0, .int (-1000000005), []),
  (6, .goto 4, 5, 0, .null, []),
  (9, .iload_n 0, 0, 0, .null, []),
  (10, .ireturn, 0, 0, .null, [])])
def mX8_within : pM := (⟨RX8, "within", "(II)I"⟩, prog_10_method_4_code, 2, (some FieldType.int), 0, 8, [(0, .iload_n 0, 0, 0, .null, []),
  (1, .ifCond .ge 7, 4, 0, .null, []),
  (4, .iconst 0, 0, 0, .int 0, []),
  (5, .goto 13, 10, 0, .null, []),
  (8, .iload_n 0, 0, 0, .null, []),
  (9, .iload_n 1, 1, 0, .null, []),
  (10, .if_icmp .le 7, 9, 0, .null, []),
  (13, .iload_n 1, 1, 0, .null, []),
  (14, .goto 4, 10, 0, .null, []),
  (17, .iload_n 0, 0, 0, .null, []),
  (18, .ireturn, 0, 0, .null, [])])
def mX8_off : pM := (⟨RX8, "off", "(II)I"⟩, prog_10_method_5_code, 2, (some FieldType.int), 0, 8, [(0, .iload_n 0, 0, 0, .null, []),
  (1, .iload_n 1, 1, 0, .null, []),
  (2, .if_icmp .ge 9, 7, 0, .null, []),
  (5, .iload_n 1, 1, 0, .null, []),
  (6, .iload_n 0, 0, 0, .null, []),
  (7, .isub, 0, 0, .null, []),
  (8, .goto 6, 10, 0, .null, []),
  (11, .iload_n 0, 0, 0, .null, []),
  (12, .iload_n 1, 1, 0, .null, []),
  (13, .isub, 0, 0, .null, []),
  (14, .ireturn, 0, 0, .null, [])])
def mX8_manyIn : pM := (⟨RX8, "manyIn", "(I)I"⟩, prog_10_method_6_code, 3, (some FieldType.int), 0, 8, [(0, .iconst 0, 0, 0, .int 0, []),
  (1, .istore_n 1, 1, 0, .null, []),
  (2, .iload_n 0, 0, 0, .null, []),
  (3, .istore_n 2, 2, 0, .null, []),
  (4, .iload_n 2, 2, 0, .null, []),
  (5, .ifCond .eq 15, 14, 0, .null, []),
  (8, .iinc 1 1, 1, 0, .null, []),
  (11, .iload_n 2, 2, 0, .null, []),
  (12, .iload_n 2, 2, 0, .null, []),
  (13, .iconst 1, 0, 0, .int 1, []),
  (14, .isub, 0, 0, .null, []),
  (15, .iand, 0, 0, .null, []),
  (16, .istore_n 2, 2, 0, .null, []),
  (17, .goto (-13), 4, 0, .null, []),
  (20, .iload_n 1, 1, 0, .null, []),
  (21, .ireturn, 0, 0, .null, [])])
def mX8_becomes : pM := (⟨RX8, "becomes", "(II)I"⟩, prog_10_method_7_code, 4, (some FieldType.int), 1, 8, [(0, .aload_n 0, 0, 0, .null, []),
  (1, .getfield 7, 8, 0, .null, []),
  (4, .iload_n 1, 1, 0, .null, []),
  (5, .iaload, 0, 0, .null, []),
  (6, .istore_n 3, 3, 0, .null, []),
  (7, .aload_n 0, 0, 0, .null, []),
  (8, .getfield 7, 8, 0, .null, []),
  (11, .iload_n 1, 1, 0, .null, []),
  (12, .iload_n 2, 2, 0, .null, []),
  (13, .iastore, 0, 0, .null, []),
  (14, .iload_n 3, 3, 0, .null, []),
  (15, .ireturn, 0, 0, .null, [])])
def mX8_textAt : pM := (⟨RX8, "textAt", "(I)I"⟩, prog_10_method_8_code, 2, (some FieldType.int), 1, 8, [(0, .bipush 75, 0, 0, .int 75, []),
  (2, .sipush 200, 0, 0, .int 200, []),
  (5, .iload_n 1, 1, 0, .null, []),
  (6, .imul, 0, 0, .null, []),
  (7, .iadd, 0, 0, .null, []),
  (8, .ireturn, 0, 0, .null, [])])
def mX8_of : pM := (⟨RX8, "of", "(II)I"⟩, prog_10_method_9_code, 3, (some FieldType.int), 1, 8, [(0, .aload_n 0, 0, 0, .null, []),
  (1, .getfield 7, 8, 0, .null, []),
  (4, .bipush 21, 0, 0, .int 21, []),
  (6, .bipush 6, 0, 0, .int 6, []),
  (8, .iload_n 1, 1, 0, .null, []),
  (9, .imul, 0, 0, .null, []),
  (10, .iadd, 0, 0, .null, []),
  (11, .iload_n 2, 2, 0, .null, []),
  (12, .iadd, 0, 0, .null, []),
  (13, .iaload, 0, 0, .null, []),
  (14, .ireturn, 0, 0, .null, [])])
def mX8_sets : pM := (⟨RX8, "sets", "(III)V"⟩, prog_10_method_10_code, 4, none, 1, 8, [(0, .aload_n 0, 0, 0, .null, []),
  (1, .getfield 7, 8, 0, .null, []),
  (4, .bipush 21, 0, 0, .int 21, []),
  (6, .bipush 6, 0, 0, .int 6, []),
  (8, .iload_n 1, 1, 0, .null, []),
  (9, .imul, 0, 0, .null, []),
  (10, .iadd, 0, 0, .null, []),
  (11, .iload_n 2, 2, 0, .null, []),
  (12, .iadd, 0, 0, .null, []),
  (13, .iload_n 3, 3, 0, .null, []),
  (14, .iastore, 0, 0, .null, []),
  (15, .return_, 0, 0, .null, [])])
def mX8_isRubbing : pM := (⟨RX8, "isRubbing", "(I)Z"⟩, prog_10_method_11_code, 2, (some FieldType.boolean), 1, 8, [(0, .iload_n 1, 1, 0, .null, []),
  (1, .i2l, 0, 0, .null, []),
  (2, .lconst 0, 0, 0, .long 0, []),
  (3, .aload_n 0, 0, 0, .null, []),
  (4, .getfield 7, 8, 0, .null, []),
  (7, .iconst 0, 0, 0, .int 0, []),
  (8, .iaload, 0, 0, .null, []),
  (9, .iconst 1, 0, 0, .int 1, []),
  (10, .isub, 0, 0, .null, []),
  (11, .i2l, 0, 0, .null, []),
  (12, .invokestatic 68, 143, 3, .null, []),
  (15, .ireturn, 0, 0, .null, [])])
def mX8_isText : pM := (⟨RX8, "isText", "(I)Z"⟩, prog_10_method_12_code, 2, (some FieldType.boolean), 1, 8, [(0, .iload_n 1, 1, 0, .null, []),
  (1, .i2l, 0, 0, .null, []),
  (2, .lconst 0, 0, 0, .long 0, []),
  (3, .aload_n 0, 0, 0, .null, []),
  (4, .getfield 7, 8, 0, .null, []),
  (7, .iconst 1, 0, 0, .int 1, []),
  (8, .iaload, 0, 0, .null, []),
  (9, .iconst 1, 0, 0, .int 1, []),
  (10, .isub, 0, 0, .null, []),
  (11, .i2l, 0, 0, .null, []),
  (12, .invokestatic 68, 143, 3, .null, []),
  (15, .ireturn, 0, 0, .null, [])])
def mX8_drawn : pM := (⟨RX8, "drawn", "()I"⟩, prog_10_method_13_code, 1, (some FieldType.int), 1, 8, [(0, .aload_n 0, 0, 0, .null, []),
  (1, .getfield 7, 8, 0, .null, []),
  (4, .iconst 4, 0, 0, .int 4, []),
  (5, .aload_n 0, 0, 0, .null, []),
  (6, .getfield 7, 8, 0, .null, []),
  (9, .iconst 4, 0, 0, .int 4, []),
  (10, .iaload, 0, 0, .null, []),
  (11, .ldc 72, 0, 0, .int 1103515245, []),
  (13, .imul, 0, 0, .null, []),
  (14, .sipush 12345, 0, 0, .int 12345, []),
  (17, .iadd, 0, 0, .null, []),
  (18, .iastore, 0, 0, .null, []),
  (19, .aload_n 0, 0, 0, .null, []),
  (20, .getfield 7, 8, 0, .null, []),
  (23, .iconst 4, 0, 0, .int 4, []),
  (24, .iaload, 0, 0, .null, []),
  (25, .bipush 8, 0, 0, .int 8, []),
  (27, .iushr, 0, 0, .null, []),
  (28, .ireturn, 0, 0, .null, [])])
def mX8_comes : pM := (⟨RX8, "comes", "(III)V"⟩, prog_10_method_14_code, 5, none, 1, 8, [(0, .aload_n 0, 0, 0, .null, []),
  (1, .getfield 7, 8, 0, .null, []),
  (4, .iconst 0, 0, 0, .int 0, []),
  (5, .iaload, 0, 0, .null, []),
  (6, .istore 4, 4, 0, .null, []),
  (8, .aload_n 0, 0, 0, .null, []),
  (9, .getfield 7, 8, 0, .null, []),
  (12, .iconst 0, 0, 0, .int 0, []),
  (13, .dup2, 0, 0, .null, []),
  (14, .iaload, 0, 0, .null, []),
  (15, .iconst 1, 0, 0, .int 1, []),
  (16, .iadd, 0, 0, .null, []),
  (17, .iastore, 0, 0, .null, []),
  (18, .aload_n 0, 0, 0, .null, []),
  (19, .iload 4, 4, 0, .null, []),
  (21, .iconst 0, 0, 0, .int 0, []),
  (22, .iload_n 1, 1, 0, .null, []),
  (23, .invokevirtual 73, 151, 3, .null, []),
  (26, .aload_n 0, 0, 0, .null, []),
  (27, .iload 4, 4, 0, .null, []),
  (29, .iconst 1, 0, 0, .int 1, []),
  (30, .iload_n 2, 2, 0, .null, []),
  (31, .invokevirtual 73, 151, 3, .null, []),
  (34, .aload_n 0, 0, 0, .null, []),
  (35, .iload 4, 4, 0, .null, []),
  (37, .iconst 2, 0, 0, .int 2, []),
  (38, .iload_n 3, 3, 0, .null, []),
  (39, .invokevirtual 73, 151, 3, .null, []),
  (42, .aload_n 0, 0, 0, .null, []),
  (43, .iload 4, 4, 0, .null, []),
  (45, .iconst 3, 0, 0, .int 3, []),
  (46, .iconst 0, 0, 0, .int 0, []),
  (47, .invokevirtual 73, 151, 3, .null, []),
  (50, .aload_n 0, 0, 0, .null, []),
  (51, .iload 4, 4, 0, .null, []),
  (53, .iconst 4, 0, 0, .int 4, []),
  (54, .bipush 16, 0, 0, .int 16, []),
  (56, .invokevirtual 73, 151, 3, .null, []),
  (59, .aload_n 0, 0, 0, .null, []),
  (60, .iload 4, 4, 0, .null, []),
  (62, .iconst 5, 0, 0, .int 5, []),
  (63, .bipush 50, 0, 0, .int 50, []),
  (65, .invokevirtual 73, 151, 3, .null, []),
  (68, .return_, 0, 0, .null, [])])
def mX8_rubbing : pM := (⟨RX8, "rubbing", "(III)I"⟩, prog_10_method_15_code, 4, (some FieldType.int), 1, 8, [(0, .iload_n 1, 1, 0, .null, []),
  (1, .i2l, 0, 0, .null, []),
  (2, .lconst 0, 0, 0, .long 0, []),
  (3, .ldc2_w 77, 0, 0, .long 5, []),
  (6, .invokestatic 68, 143, 3, .null, []),
  (9, .ifCond .eq 27, 18, 0, .null, []),
  (12, .iload_n 2, 2, 0, .null, []),
  (13, .i2l, 0, 0, .null, []),
  (14, .lconst 0, 0, 0, .long 0, []),
  (15, .ldc2_w 79, 0, 0, .long 65535, []),
  (18, .invokestatic 68, 143, 3, .null, []),
  (21, .ifCond .eq 15, 18, 0, .null, []),
  (24, .iload_n 3, 3, 0, .null, []),
  (25, .i2l, 0, 0, .null, []),
  (26, .lconst 1, 0, 0, .long 1, []),
  (27, .ldc2_w 81, 0, 0, .long 8, []),
  (30, .invokestatic 68, 143, 3, .null, []),
  (33, .ifCond .ne 6, 20, 0, .null, []),
  (36, .ldc 83, 0, 0, .int (-1000000001), []),
  (38, .ireturn, 0, 0, .null, []),
  (39, .aload_n 0, 0, 0, .null, []),
  (40, .getfield 7, 8, 0, .null, []),
  (43, .iconst 0, 0, 0, .int 0, []),
  (44, .iaload, 0, 0, .null, []),
  (45, .bipush 9, 0, 0, .int 9, []),
  (47, .if_icmp .ne 6, 28, 0, .null, []),
  (50, .ldc 84, 0, 0, .int (-1000000003), []),
  (52, .ireturn, 0, 0, .null, []),
  (53, .aload_n 0, 0, 0, .null, []),
  (54, .iload_n 1, 1, 0, .null, []),
  (55, .iload_n 2, 2, 0, .null, []),
  (56, .iload_n 3, 3, 0, .null, []),
  (57, .invokevirtual 85, 155, 3, .null, []),
  (60, .aload_n 0, 0, 0, .null, []),
  (61, .getfield 7, 8, 0, .null, []),
  (64, .iconst 0, 0, 0, .int 0, []),
  (65, .iaload, 0, 0, .null, []),
  (66, .iconst 1, 0, 0, .int 1, []),
  (67, .isub, 0, 0, .null, []),
  (68, .ireturn, 0, 0, .null, [])])
def mX8_bolder : pM := (⟨RX8, "bolder", "(I)I"⟩, prog_10_method_16_code, 1, (some FieldType.int), 0, 8, [(0, .iload_n 0, 0, 0, .null, []),
  (1, .ifCond .le 14, 9, 0, .null, []),
  (4, .iload_n 0, 0, 0, .null, []),
  (5, .iconst 3, 0, 0, .int 3, []),
  (6, .if_icmp .ge 9, 9, 0, .null, []),
  (9, .iload_n 0, 0, 0, .null, []),
  (10, .iconst 1, 0, 0, .int 1, []),
  (11, .iadd, 0, 0, .null, []),
  (12, .goto 4, 10, 0, .null, []),
  (15, .iload_n 0, 0, 0, .null, []),
  (16, .ireturn, 0, 0, .null, [])])
def mX8_saysAt : pM := (⟨RX8, "saysAt", "(II)I"⟩, prog_10_method_17_code, 6, (some FieldType.int), 1, 8, [(0, .aload_n 0, 0, 0, .null, []),
  (1, .iload_n 1, 1, 0, .null, []),
  (2, .iconst 3, 0, 0, .int 3, []),
  (3, .invokevirtual 88, 150, 2, .null, []),
  (6, .iconst 1, 0, 0, .int 1, []),
  (7, .if_icmp .ne 16, 15, 0, .null, []),
  (10, .aload_n 0, 0, 0, .null, []),
  (11, .iload_n 1, 1, 0, .null, []),
  (12, .iconst 2, 0, 0, .int 2, []),
  (13, .invokevirtual 88, 150, 2, .null, []),
  (16, .iconst 1, 0, 0, .int 1, []),
  (17, .isub, 0, 0, .null, []),
  (18, .iload_n 2, 2, 0, .null, []),
  (19, .isub, 0, 0, .null, []),
  (20, .goto 4, 16, 0, .null, []),
  (23, .iload_n 2, 2, 0, .null, []),
  (24, .istore_n 3, 3, 0, .null, []),
  (25, .aload_n 0, 0, 0, .null, []),
  (26, .iload_n 1, 1, 0, .null, []),
  (27, .iconst 1, 0, 0, .int 1, []),
  (28, .invokevirtual 88, 150, 2, .null, []),
  (31, .iconst 2, 0, 0, .int 2, []),
  (32, .iload_n 3, 3, 0, .null, []),
  (33, .imul, 0, 0, .null, []),
  (34, .ishr, 0, 0, .null, []),
  (35, .iconst 3, 0, 0, .int 3, []),
  (36, .iand, 0, 0, .null, []),
  (37, .istore 4, 4, 0, .null, []),
  (39, .iload 4, 4, 0, .null, []),
  (41, .ifCond .le 10, 34, 0, .null, []),
  (44, .iload 4, 4, 0, .null, []),
  (46, .iconst 1, 0, 0, .int 1, []),
  (47, .isub, 0, 0, .null, []),
  (48, .goto 4, 35, 0, .null, []),
  (51, .iconst 0, 0, 0, .int 0, []),
  (52, .istore 5, 5, 0, .null, []),
  (54, .aload_n 0, 0, 0, .null, []),
  (55, .iload_n 1, 1, 0, .null, []),
  (56, .iconst 0, 0, 0, .int 0, []),
  (57, .invokevirtual 88, 150, 2, .null, []),
  (60, .tableswitch 75 1 5 #[36, 42, 45, 54, 73], 64, 36, .null, [41, 44, 46, 50, 62]),
  (96, .iload 4, 4, 0, .null, []),
  (98, .invokestatic 92, 157, 1, .null, []),
  (101, .ireturn, 0, 0, .null, []),
  (102, .iload 5, 5, 0, .null, []),
  (104, .ireturn, 0, 0, .null, []),
  (105, .iload 4, 4, 0, .null, []),
  (107, .invokestatic 92, 157, 1, .null, []),
  (110, .invokestatic 92, 157, 1, .null, []),
  (113, .ireturn, 0, 0, .null, []),
  (114, .iload_n 2, 2, 0, .null, []),
  (115, .aload_n 0, 0, 0, .null, []),
  (116, .iload_n 1, 1, 0, .null, []),
  (117, .iconst 2, 0, 0, .int 2, []),
  (118, .invokevirtual 88, 150, 2, .null, []),
  (121, .iconst 2, 0, 0, .int 2, []),
  (122, .idiv, 0, 0, .null, []),
  (123, .if_icmp .ne 7, 60, 0, .null, []),
  (126, .iconst 3, 0, 0, .int 3, []),
  (127, .goto 5, 61, 0, .null, []),
  (130, .iload 5, 5, 0, .null, []),
  (132, .ireturn, 0, 0, .null, []),
  (133, .iconst 2, 0, 0, .int 2, []),
  (134, .ireturn, 0, 0, .null, []),
  (135, .iload 4, 4, 0, .null, []),
  (137, .ireturn, 0, 0, .null, [])])
def mX8_gains : pM := (⟨RX8, "gains", "(I)I"⟩, prog_10_method_18_code, 4, (some FieldType.int), 1, 8, [(0, .iconst 3, 0, 0, .int 3, []),
  (1, .istore_n 2, 2, 0, .null, []),
  (2, .aload_n 0, 0, 0, .null, []),
  (3, .iconst 0, 0, 0, .int 0, []),
  (4, .invokevirtual 96, 222, 1, .null, []),
  (7, .istore_n 3, 3, 0, .null, []),
  (8, .iload_n 3, 3, 0, .null, []),
  (9, .ifCond .lt 53, 38, 0, .null, []),
  (12, .aload_n 0, 0, 0, .null, []),
  (13, .getfield 52, 8, 26, .null, []),
  (16, .bipush 116, 0, 0, .int 116, []),
  (18, .aload_n 0, 0, 0, .null, []),
  (19, .iload_n 1, 1, 0, .null, []),
  (20, .iconst 5, 0, 0, .int 5, []),
  (21, .invokevirtual 88, 150, 2, .null, []),
  (24, .iastore, 0, 0, .null, []),
  (25, .aload_n 0, 0, 0, .null, []),
  (26, .getfield 52, 8, 26, .null, []),
  (29, .bipush 115, 0, 0, .int 115, []),
  (31, .aload_n 0, 0, 0, .null, []),
  (32, .iload_n 1, 1, 0, .null, []),
  (33, .iconst 2, 0, 0, .int 2, []),
  (34, .invokevirtual 88, 150, 2, .null, []),
  (37, .iastore, 0, 0, .null, []),
  (38, .aload_n 0, 0, 0, .null, []),
  (39, .getfield 52, 8, 26, .null, []),
  (42, .bipush 108, 0, 0, .int 108, []),
  (44, .aload_n 0, 0, 0, .null, []),
  (45, .iload_n 1, 1, 0, .null, []),
  (46, .iconst 4, 0, 0, .int 4, []),
  (47, .invokevirtual 88, 150, 2, .null, []),
  (50, .iastore, 0, 0, .null, []),
  (51, .aload_n 0, 0, 0, .null, []),
  (52, .iload_n 3, 3, 0, .null, []),
  (53, .invokevirtual 99, 225, 1, .null, []),
  (56, .bipush 99, 0, 0, .int 99, []),
  (58, .invokestatic 102, 145, 2, .null, []),
  (61, .istore_n 2, 2, 0, .null, []),
  (62, .aload_n 0, 0, 0, .null, []),
  (63, .iload_n 1, 1, 0, .null, []),
  (64, .iconst 0, 0, 0, .int 0, []),
  (65, .invokevirtual 88, 150, 2, .null, []),
  (68, .tableswitch 52 1 5 #[36, 40, 36, 44, 50], 59, 36, .null, [43, 47, 43, 51, 57]),
  (104, .iload_n 2, 2, 0, .null, []),
  (105, .iconst 1, 0, 0, .int 1, []),
  (106, .iadd, 0, 0, .null, []),
  (107, .ireturn, 0, 0, .null, []),
  (108, .iload_n 2, 2, 0, .null, []),
  (109, .iconst 2, 0, 0, .int 2, []),
  (110, .idiv, 0, 0, .null, []),
  (111, .ireturn, 0, 0, .null, []),
  (112, .iload_n 2, 2, 0, .null, []),
  (113, .iconst 2, 0, 0, .int 2, []),
  (114, .idiv, 0, 0, .null, []),
  (115, .iconst 2, 0, 0, .int 2, []),
  (116, .iadd, 0, 0, .null, []),
  (117, .ireturn, 0, 0, .null, []),
  (118, .iconst 0, 0, 0, .int 0, []),
  (119, .ireturn, 0, 0, .null, []),
  (120, .iload_n 2, 2, 0, .null, []),
  (121, .ireturn, 0, 0, .null, [])])
def mX8_loses : pM := (⟨RX8, "loses", "(I)I"⟩, prog_10_method_19_code, 2, (some FieldType.int), 1, 8, [(0, .aload_n 0, 0, 0, .null, []),
  (1, .iload_n 1, 1, 0, .null, []),
  (2, .iconst 0, 0, 0, .int 0, []),
  (3, .invokevirtual 88, 150, 2, .null, []),
  (6, .tableswitch 45 1 5 #[34, 37, 39, 37, 42], 13, 34, .null, [5, 7, 9, 7, 11]),
  (40, .bipush 7, 0, 0, .int 7, []),
  (42, .ireturn, 0, 0, .null, []),
  (43, .iconst 3, 0, 0, .int 3, []),
  (44, .ireturn, 0, 0, .null, []),
  (45, .bipush 14, 0, 0, .int 14, []),
  (47, .ireturn, 0, 0, .null, []),
  (48, .bipush 20, 0, 0, .int 20, []),
  (50, .ireturn, 0, 0, .null, []),
  (51, .iconst 5, 0, 0, .int 5, []),
  (52, .ireturn, 0, 0, .null, [])])
def mX8_worth : pM := (⟨RX8, "worth", "(I)I"⟩, prog_10_method_20_code, 3, (some FieldType.int), 1, 8, [(0, .aload_n 0, 0, 0, .null, []),
  (1, .iload_n 1, 1, 0, .null, []),
  (2, .iconst 5, 0, 0, .int 5, []),
  (3, .invokevirtual 88, 150, 2, .null, []),
  (6, .istore_n 2, 2, 0, .null, []),
  (7, .aload_n 0, 0, 0, .null, []),
  (8, .iload_n 1, 1, 0, .null, []),
  (9, .iconst 0, 0, 0, .int 0, []),
  (10, .invokevirtual 88, 150, 2, .null, []),
  (13, .tableswitch 57 1 5 #[35, 39, 44, 50, 55], 30, 35, .null, [10, 14, 18, 24, 28]),
  (48, .iload_n 2, 2, 0, .null, []),
  (49, .iconst 5, 0, 0, .int 5, []),
  (50, .iadd, 0, 0, .null, []),
  (51, .ireturn, 0, 0, .null, []),
  (52, .bipush 99, 0, 0, .int 99, []),
  (54, .iload_n 2, 2, 0, .null, []),
  (55, .isub, 0, 0, .null, []),
  (56, .ireturn, 0, 0, .null, []),
  (57, .iconst 2, 0, 0, .int 2, []),
  (58, .iload_n 2, 2, 0, .null, []),
  (59, .iconst 5, 0, 0, .int 5, []),
  (60, .iadd, 0, 0, .null, []),
  (61, .imul, 0, 0, .null, []),
  (62, .ireturn, 0, 0, .null, []),
  (63, .bipush 93, 0, 0, .int 93, []),
  (65, .iload_n 2, 2, 0, .null, []),
  (66, .isub, 0, 0, .null, []),
  (67, .ireturn, 0, 0, .null, []),
  (68, .iconst 1, 0, 0, .int 1, []),
  (69, .ireturn, 0, 0, .null, []),
  (70, .iload_n 2, 2, 0, .null, []),
  (71, .ireturn, 0, 0, .null, [])])
def mX8_coversFrom : pM := (⟨RX8, "coversFrom", "(II)I"⟩, prog_10_method_21_code, 3, (some FieldType.int), 1, 8, [(0, .iconst 1, 0, 0, .int 1, []),
  (1, .aload_n 0, 0, 0, .null, []),
  (2, .iload_n 1, 1, 0, .null, []),
  (3, .iconst 2, 0, 0, .int 2, []),
  (4, .invokevirtual 88, 150, 2, .null, []),
  (7, .ishl, 0, 0, .null, []),
  (8, .iconst 1, 0, 0, .int 1, []),
  (9, .isub, 0, 0, .null, []),
  (10, .iload_n 2, 2, 0, .null, []),
  (11, .ishl, 0, 0, .null, []),
  (12, .ldc 105, 0, 0, .int 65535, []),
  (14, .iand, 0, 0, .null, []),
  (15, .ireturn, 0, 0, .null, [])])
def mX8_covers : pM := (⟨RX8, "covers", "(I)I"⟩, prog_10_method_22_code, 2, (some FieldType.int), 1, 8, [(0, .aload_n 0, 0, 0, .null, []),
  (1, .iload_n 1, 1, 0, .null, []),
  (2, .aload_n 0, 0, 0, .null, []),
  (3, .iload_n 1, 1, 0, .null, []),
  (4, .iconst 4, 0, 0, .int 4, []),
  (5, .invokevirtual 88, 150, 2, .null, []),
  (8, .invokevirtual 106, 162, 2, .null, []),
  (11, .ireturn, 0, 0, .null, [])])
def mX8_told : pM := (⟨RX8, "told", "(II)I"⟩, prog_10_method_23_code, 3, (some FieldType.int), 1, 8, [(0, .aload_n 0, 0, 0, .null, []),
  (1, .iload_n 1, 1, 0, .null, []),
  (2, .invokevirtual 109, 152, 1, .null, []),
  (5, .ifCond .ne 6, 6, 0, .null, []),
  (8, .ldc 83, 0, 0, .int (-1000000001), []),
  (10, .ireturn, 0, 0, .null, []),
  (11, .iload_n 2, 2, 0, .null, []),
  (12, .tableswitch 87 0 9 #[56, 56, 56, 56, 56, 56, 63, 69, 75, 81], 29, 56, .null, [8, 8, 8, 8, 8, 8, 13, 17, 21, 25]),
  (68, .aload_n 0, 0, 0, .null, []),
  (69, .iload_n 1, 1, 0, .null, []),
  (70, .iload_n 2, 2, 0, .null, []),
  (71, .invokevirtual 88, 150, 2, .null, []),
  (74, .ireturn, 0, 0, .null, []),
  (75, .aload_n 0, 0, 0, .null, []),
  (76, .iload_n 1, 1, 0, .null, []),
  (77, .invokevirtual 113, 163, 1, .null, []),
  (80, .ireturn, 0, 0, .null, []),
  (81, .aload_n 0, 0, 0, .null, []),
  (82, .iload_n 1, 1, 0, .null, []),
  (83, .invokevirtual 116, 159, 1, .null, []),
  (86, .ireturn, 0, 0, .null, []),
  (87, .aload_n 0, 0, 0, .null, []),
  (88, .iload_n 1, 1, 0, .null, []),
  (89, .invokevirtual 119, 160, 1, .null, []),
  (92, .ireturn, 0, 0, .null, []),
  (93, .aload_n 0, 0, 0, .null, []),
  (94, .iload_n 1, 1, 0, .null, []),
  (95, .invokevirtual 122, 161, 1, .null, []),
  (98, .ireturn, 0, 0, .null, []),
  (99, .ldc 83, 0, 0, .int (-1000000001), []),
  (101, .ireturn, 0, 0, .null, [])])
def mX8_says : pM := (⟨RX8, "says", "(II)I"⟩, prog_10_method_24_code, 3, (some FieldType.int), 1, 8, [(0, .aload_n 0, 0, 0, .null, []),
  (1, .iload_n 1, 1, 0, .null, []),
  (2, .invokevirtual 109, 152, 1, .null, []),
  (5, .ifCond .eq 30, 21, 0, .null, []),
  (8, .iload_n 2, 2, 0, .null, []),
  (9, .i2l, 0, 0, .null, []),
  (10, .lconst 0, 0, 0, .long 0, []),
  (11, .aload_n 0, 0, 0, .null, []),
  (12, .iload_n 1, 1, 0, .null, []),
  (13, .iconst 2, 0, 0, .int 2, []),
  (14, .invokevirtual 88, 150, 2, .null, []),
  (17, .iconst 1, 0, 0, .int 1, []),
  (18, .isub, 0, 0, .null, []),
  (19, .i2l, 0, 0, .null, []),
  (20, .invokestatic 68, 143, 3, .null, []),
  (23, .ifCond .eq 12, 21, 0, .null, []),
  (26, .aload_n 0, 0, 0, .null, []),
  (27, .iload_n 1, 1, 0, .null, []),
  (28, .iload_n 2, 2, 0, .null, []),
  (29, .invokevirtual 125, 158, 2, .null, []),
  (32, .goto 5, 22, 0, .null, []),
  (35, .ldc 83, 0, 0, .int (-1000000001), []),
  (37, .ireturn, 0, 0, .null, [])])
def mX8_isOf : pM := (⟨RX8, "isOf", "(II)Z"⟩, prog_10_method_25_code, 2, (some FieldType.boolean), 0, 8, [(0, .iload_n 0, 0, 0, .null, []),
  (1, .iload_n 1, 1, 0, .null, []),
  (2, .if_icmp .eq 27, 17, 0, .null, []),
  (5, .iload_n 1, 1, 0, .null, []),
  (6, .ifCond .eq 23, 17, 0, .null, []),
  (9, .iload_n 1, 1, 0, .null, []),
  (10, .iconst 1, 0, 0, .int 1, []),
  (11, .if_icmp .ne 8, 11, 0, .null, []),
  (14, .iload_n 0, 0, 0, .null, []),
  (15, .iconst 3, 0, 0, .int 3, []),
  (16, .if_icmp .eq 13, 17, 0, .null, []),
  (19, .iload_n 1, 1, 0, .null, []),
  (20, .iconst 2, 0, 0, .int 2, []),
  (21, .if_icmp .ne 12, 19, 0, .null, []),
  (24, .iload_n 0, 0, 0, .null, []),
  (25, .iconst 4, 0, 0, .int 4, []),
  (26, .if_icmp .ne 7, 19, 0, .null, []),
  (29, .iconst 1, 0, 0, .int 1, []),
  (30, .goto 4, 20, 0, .null, []),
  (33, .iconst 0, 0, 0, .int 0, []),
  (34, .ireturn, 0, 0, .null, [])])
def mX8_as : pM := (⟨RX8, "as", "(II)I"⟩, prog_10_method_26_code, 3, (some FieldType.int), 1, 8, [(0, .aload_n 0, 0, 0, .null, []),
  (1, .iload_n 1, 1, 0, .null, []),
  (2, .invokevirtual 109, 152, 1, .null, []),
  (5, .ifCond .eq 15, 10, 0, .null, []),
  (8, .iload_n 2, 2, 0, .null, []),
  (9, .i2l, 0, 0, .null, []),
  (10, .lconst 0, 0, 0, .long 0, []),
  (11, .ldc2_w 77, 0, 0, .long 5, []),
  (14, .invokestatic 68, 143, 3, .null, []),
  (17, .ifCond .ne 6, 12, 0, .null, []),
  (20, .ldc 83, 0, 0, .int (-1000000001), []),
  (22, .ireturn, 0, 0, .null, []),
  (23, .aload_n 0, 0, 0, .null, []),
  (24, .iload_n 1, 1, 0, .null, []),
  (25, .iconst 0, 0, 0, .int 0, []),
  (26, .invokevirtual 88, 150, 2, .null, []),
  (29, .iload_n 2, 2, 0, .null, []),
  (30, .invokestatic 128, 166, 2, .null, []),
  (33, .ifCond .eq 12, 24, 0, .null, []),
  (36, .aload_n 0, 0, 0, .null, []),
  (37, .iload_n 1, 1, 0, .null, []),
  (38, .iconst 2, 0, 0, .int 2, []),
  (39, .invokevirtual 88, 150, 2, .null, []),
  (42, .goto 5, 25, 0, .null, []),
  (45, .ldc 132, 0, 0, .int (-1000000012), []),
  (47, .ireturn, 0, 0, .null, [])])
def mX8_turns : pM := (⟨RX8, "turns", "(II)I"⟩, prog_10_method_27_code, 3, (some FieldType.int), 1, 8, [(0, .aload_n 0, 0, 0, .null, []),
  (1, .iload_n 1, 1, 0, .null, []),
  (2, .invokevirtual 109, 152, 1, .null, []),
  (5, .ifCond .eq 30, 19, 0, .null, []),
  (8, .iload_n 2, 2, 0, .null, []),
  (9, .i2l, 0, 0, .null, []),
  (10, .lconst 0, 0, 0, .long 0, []),
  (11, .ldc2_w 77, 0, 0, .long 5, []),
  (14, .invokestatic 68, 143, 3, .null, []),
  (17, .ifCond .eq 18, 19, 0, .null, []),
  (20, .aload_n 0, 0, 0, .null, []),
  (21, .bipush 21, 0, 0, .int 21, []),
  (23, .bipush 6, 0, 0, .int 6, []),
  (25, .iload_n 1, 1, 0, .null, []),
  (26, .imul, 0, 0, .null, []),
  (27, .iadd, 0, 0, .null, []),
  (28, .iload_n 2, 2, 0, .null, []),
  (29, .invokevirtual 133, 148, 2, .null, []),
  (32, .goto 5, 20, 0, .null, []),
  (35, .ldc 83, 0, 0, .int (-1000000001), []),
  (37, .ireturn, 0, 0, .null, [])])
def mX8_mostOf : pM := (⟨RX8, "mostOf", "(I)I"⟩, prog_10_method_28_code, 1, (some FieldType.int), 0, 8, [(0, .iload_n 0, 0, 0, .null, []),
  (1, .tableswitch 42 1 4 #[31, 34, 37, 39], 10, 31, .null, [2, 4, 6, 8]),
  (32, .ldc 105, 0, 0, .int 65535, []),
  (34, .ireturn, 0, 0, .null, []),
  (35, .bipush 8, 0, 0, .int 8, []),
  (37, .ireturn, 0, 0, .null, []),
  (38, .iconst 1, 0, 0, .int 1, []),
  (39, .ireturn, 0, 0, .null, []),
  (40, .bipush 16, 0, 0, .int 16, []),
  (42, .ireturn, 0, 0, .null, []),
  (43, .bipush 99, 0, 0, .int 99, []),
  (45, .ireturn, 0, 0, .null, [])])
def mX8_set : pM := (⟨RX8, "set", "(III)I"⟩, prog_10_method_29_code, 4, (some FieldType.int), 1, 8, [(0, .aload_n 0, 0, 0, .null, []),
  (1, .iload_n 1, 1, 0, .null, []),
  (2, .invokevirtual 109, 152, 1, .null, []),
  (5, .ifCond .eq 38, 23, 0, .null, []),
  (8, .iload_n 2, 2, 0, .null, []),
  (9, .i2l, 0, 0, .null, []),
  (10, .lconst 1, 0, 0, .long 1, []),
  (11, .ldc2_w 77, 0, 0, .long 5, []),
  (14, .invokestatic 68, 143, 3, .null, []),
  (17, .ifCond .eq 26, 23, 0, .null, []),
  (20, .iload_n 3, 3, 0, .null, []),
  (21, .i2l, 0, 0, .null, []),
  (22, .iload_n 2, 2, 0, .null, []),
  (23, .iconst 2, 0, 0, .int 2, []),
  (24, .if_icmp .ne 7, 17, 0, .null, []),
  (27, .lconst 1, 0, 0, .long 1, []),
  (28, .goto 4, 18, 0, .null, []),
  (31, .lconst 0, 0, 0, .long 0, []),
  (32, .iload_n 2, 2, 0, .null, []),
  (33, .invokestatic 136, 169, 1, .null, []),
  (36, .i2l, 0, 0, .null, []),
  (37, .invokestatic 68, 143, 3, .null, []),
  (40, .ifCond .ne 6, 25, 0, .null, []),
  (43, .ldc 83, 0, 0, .int (-1000000001), []),
  (45, .ireturn, 0, 0, .null, []),
  (46, .aload_n 0, 0, 0, .null, []),
  (47, .bipush 21, 0, 0, .int 21, []),
  (49, .bipush 6, 0, 0, .int 6, []),
  (51, .iload_n 1, 1, 0, .null, []),
  (52, .imul, 0, 0, .null, []),
  (53, .iadd, 0, 0, .null, []),
  (54, .iload_n 2, 2, 0, .null, []),
  (55, .iadd, 0, 0, .null, []),
  (56, .iload_n 3, 3, 0, .null, []),
  (57, .invokevirtual 133, 148, 2, .null, []),
  (60, .ireturn, 0, 0, .null, [])])
def mX8_carve : pM := (⟨RX8, "carve", "(II)I"⟩, prog_10_method_30_code, 3, (some FieldType.int), 1, 8, [(0, .iload_n 1, 1, 0, .null, []),
  (1, .i2l, 0, 0, .null, []),
  (2, .lconst 0, 0, 0, .long 0, []),
  (3, .ldc2_w 139, 0, 0, .long 15, []),
  (6, .invokestatic 68, 143, 3, .null, []),
  (9, .ifCond .eq 26, 19, 0, .null, []),
  (12, .iload_n 2, 2, 0, .null, []),
  (13, .i2l, 0, 0, .null, []),
  (14, .lconst 0, 0, 0, .long 0, []),
  (15, .ldc2_w 141, 0, 0, .long 3, []),
  (18, .invokestatic 68, 143, 3, .null, []),
  (21, .ifCond .eq 14, 19, 0, .null, []),
  (24, .aload_n 0, 0, 0, .null, []),
  (25, .iconst 5, 0, 0, .int 5, []),
  (26, .iload_n 1, 1, 0, .null, []),
  (27, .iadd, 0, 0, .null, []),
  (28, .iload_n 2, 2, 0, .null, []),
  (29, .invokevirtual 133, 148, 2, .null, []),
  (32, .goto 5, 20, 0, .null, []),
  (35, .ldc 83, 0, 0, .int (-1000000001), []),
  (37, .ireturn, 0, 0, .null, [])])
def mX8_carved : pM := (⟨RX8, "carved", "(I)I"⟩, prog_10_method_31_code, 2, (some FieldType.int), 1, 8, [(0, .iload_n 1, 1, 0, .null, []),
  (1, .i2l, 0, 0, .null, []),
  (2, .lconst 0, 0, 0, .long 0, []),
  (3, .ldc2_w 139, 0, 0, .long 15, []),
  (6, .invokestatic 68, 143, 3, .null, []),
  (9, .ifCond .eq 14, 13, 0, .null, []),
  (12, .aload_n 0, 0, 0, .null, []),
  (13, .getfield 7, 8, 0, .null, []),
  (16, .iconst 5, 0, 0, .int 5, []),
  (17, .iload_n 1, 1, 0, .null, []),
  (18, .iadd, 0, 0, .null, []),
  (19, .iaload, 0, 0, .null, []),
  (20, .goto 5, 14, 0, .null, []),
  (23, .ldc 83, 0, 0, .int (-1000000001), []),
  (25, .ireturn, 0, 0, .null, [])])
def mX8_deal : pM := (⟨RX8, "deal", "(I)I"⟩, prog_10_method_32_code, 5, (some FieldType.int), 1, 8, [(0, .iload_n 1, 1, 0, .null, []),
  (1, .i2l, 0, 0, .null, []),
  (2, .lconst 1, 0, 0, .long 1, []),
  (3, .ldc2_w 143, 0, 0, .long 9, []),
  (6, .invokestatic 68, 143, 3, .null, []),
  (9, .ifCond .ne 6, 8, 0, .null, []),
  (12, .ldc 83, 0, 0, .int (-1000000001), []),
  (14, .ireturn, 0, 0, .null, []),
  (15, .iconst 0, 0, 0, .int 0, []),
  (16, .istore_n 2, 2, 0, .null, []),
  (17, .iload_n 2, 2, 0, .null, []),
  (18, .iload_n 1, 1, 0, .null, []),
  (19, .if_icmp .ge 53, 41, 0, .null, []),
  (22, .aload_n 0, 0, 0, .null, []),
  (23, .getfield 7, 8, 0, .null, []),
  (26, .iconst 0, 0, 0, .int 0, []),
  (27, .iaload, 0, 0, .null, []),
  (28, .bipush 9, 0, 0, .int 9, []),
  (30, .if_icmp .ge 42, 41, 0, .null, []),
  (33, .aload_n 0, 0, 0, .null, []),
  (34, .invokevirtual 145, 154, 0, .null, []),
  (37, .bipush 6, 0, 0, .int 6, []),
  (39, .irem, 0, 0, .null, []),
  (40, .istore_n 3, 3, 0, .null, []),
  (41, .aload_n 0, 0, 0, .null, []),
  (42, .invokevirtual 145, 154, 0, .null, []),
  (45, .ldc 149, 0, 0, .int 65536, []),
  (47, .irem, 0, 0, .null, []),
  (48, .istore 4, 4, 0, .null, []),
  (50, .aload_n 0, 0, 0, .null, []),
  (51, .iload_n 3, 3, 0, .null, []),
  (52, .iload 4, 4, 0, .null, []),
  (54, .iconst 1, 0, 0, .int 1, []),
  (55, .aload_n 0, 0, 0, .null, []),
  (56, .invokevirtual 145, 154, 0, .null, []),
  (59, .bipush 8, 0, 0, .int 8, []),
  (61, .irem, 0, 0, .null, []),
  (62, .iadd, 0, 0, .null, []),
  (63, .invokevirtual 85, 155, 3, .null, []),
  (66, .iinc 2 1, 2, 0, .null, []),
  (69, .goto (-52), 10, 0, .null, []),
  (72, .iload_n 2, 2, 0, .null, []),
  (73, .ireturn, 0, 0, .null, [])])
def mX8_seed : pM := (⟨RX8, "seed", "(I)I"⟩, prog_10_method_33_code, 2, (some FieldType.int), 1, 8, [(0, .aload_n 0, 0, 0, .null, []),
  (1, .iconst 4, 0, 0, .int 4, []),
  (2, .iload_n 1, 1, 0, .null, []),
  (3, .invokevirtual 133, 148, 2, .null, []),
  (6, .ireturn, 0, 0, .null, [])])
def mX8_falseOf : pM := (⟨RX8, "falseOf", "(II)I"⟩, prog_10_method_34_code, 5, (some FieldType.int), 1, 8, [(0, .iconst 0, 0, 0, .int 0, []),
  (1, .istore_n 3, 3, 0, .null, []),
  (2, .iconst 0, 0, 0, .int 0, []),
  (3, .istore 4, 4, 0, .null, []),
  (5, .iload 4, 4, 0, .null, []),
  (7, .aload_n 0, 0, 0, .null, []),
  (8, .iload_n 1, 1, 0, .null, []),
  (9, .iconst 2, 0, 0, .int 2, []),
  (10, .invokevirtual 88, 150, 2, .null, []),
  (13, .if_icmp .ge 47, 36, 0, .null, []),
  (16, .iload_n 2, 2, 0, .null, []),
  (17, .iload 4, 4, 0, .null, []),
  (19, .iadd, 0, 0, .null, []),
  (20, .bipush 16, 0, 0, .int 16, []),
  (22, .if_icmp .ge 38, 36, 0, .null, []),
  (25, .iload_n 3, 3, 0, .null, []),
  (26, .aload_n 0, 0, 0, .null, []),
  (27, .iload_n 1, 1, 0, .null, []),
  (28, .iload 4, 4, 0, .null, []),
  (30, .invokevirtual 125, 158, 2, .null, []),
  (33, .aload_n 0, 0, 0, .null, []),
  (34, .getfield 7, 8, 0, .null, []),
  (37, .iconst 5, 0, 0, .int 5, []),
  (38, .iload_n 2, 2, 0, .null, []),
  (39, .iadd, 0, 0, .null, []),
  (40, .iload 4, 4, 0, .null, []),
  (42, .iadd, 0, 0, .null, []),
  (43, .iaload, 0, 0, .null, []),
  (44, .if_icmp .ne 7, 31, 0, .null, []),
  (47, .iconst 0, 0, 0, .int 0, []),
  (48, .goto 4, 32, 0, .null, []),
  (51, .iconst 1, 0, 0, .int 1, []),
  (52, .iadd, 0, 0, .null, []),
  (53, .istore_n 3, 3, 0, .null, []),
  (54, .iinc 4 1, 4, 0, .null, []),
  (57, .goto (-52), 4, 0, .null, []),
  (60, .iload_n 3, 3, 0, .null, []),
  (61, .ireturn, 0, 0, .null, [])])
def mX8_falseAt : pM := (⟨RX8, "falseAt", "(II)I"⟩, prog_10_method_35_code, 3, (some FieldType.int), 1, 8, [(0, .aload_n 0, 0, 0, .null, []),
  (1, .iload_n 1, 1, 0, .null, []),
  (2, .invokevirtual 109, 152, 1, .null, []),
  (5, .ifCond .eq 24, 15, 0, .null, []),
  (8, .iload_n 2, 2, 0, .null, []),
  (9, .i2l, 0, 0, .null, []),
  (10, .lconst 0, 0, 0, .long 0, []),
  (11, .ldc2_w 139, 0, 0, .long 15, []),
  (14, .invokestatic 68, 143, 3, .null, []),
  (17, .ifCond .eq 12, 15, 0, .null, []),
  (20, .aload_n 0, 0, 0, .null, []),
  (21, .iload_n 1, 1, 0, .null, []),
  (22, .iload_n 2, 2, 0, .null, []),
  (23, .invokevirtual 150, 175, 2, .null, []),
  (26, .goto 5, 16, 0, .null, []),
  (29, .ldc 83, 0, 0, .int (-1000000001), []),
  (31, .ireturn, 0, 0, .null, [])])
def mX8_fits : pM := (⟨RX8, "fits", "(II)I"⟩, prog_10_method_36_code, 5, (some FieldType.int), 1, 8, [(0, .aload_n 0, 0, 0, .null, []),
  (1, .iload_n 1, 1, 0, .null, []),
  (2, .invokevirtual 109, 152, 1, .null, []),
  (5, .ifCond .eq 13, 10, 0, .null, []),
  (8, .iload_n 2, 2, 0, .null, []),
  (9, .i2l, 0, 0, .null, []),
  (10, .lconst 0, 0, 0, .long 0, []),
  (11, .lconst 1, 0, 0, .long 1, []),
  (12, .invokestatic 68, 143, 3, .null, []),
  (15, .ifCond .ne 6, 12, 0, .null, []),
  (18, .ldc 83, 0, 0, .int (-1000000001), []),
  (20, .ireturn, 0, 0, .null, []),
  (21, .iconst 0, 0, 0, .int 0, []),
  (22, .istore_n 3, 3, 0, .null, []),
  (23, .iconst 1, 0, 0, .int 1, []),
  (24, .istore 4, 4, 0, .null, []),
  (26, .iload 4, 4, 0, .null, []),
  (28, .bipush 16, 0, 0, .int 16, []),
  (30, .aload_n 0, 0, 0, .null, []),
  (31, .iload_n 1, 1, 0, .null, []),
  (32, .iconst 2, 0, 0, .int 2, []),
  (33, .invokevirtual 88, 150, 2, .null, []),
  (36, .isub, 0, 0, .null, []),
  (37, .if_icmp .gt 32, 39, 0, .null, []),
  (40, .aload_n 0, 0, 0, .null, []),
  (41, .iload_n 1, 1, 0, .null, []),
  (42, .iload 4, 4, 0, .null, []),
  (44, .invokevirtual 150, 175, 2, .null, []),
  (47, .aload_n 0, 0, 0, .null, []),
  (48, .iload_n 1, 1, 0, .null, []),
  (49, .iload_n 3, 3, 0, .null, []),
  (50, .invokevirtual 150, 175, 2, .null, []),
  (53, .if_icmp .ge 8, 35, 0, .null, []),
  (56, .iload 4, 4, 0, .null, []),
  (58, .goto 4, 36, 0, .null, []),
  (61, .iload_n 3, 3, 0, .null, []),
  (62, .istore_n 3, 3, 0, .null, []),
  (63, .iinc 4 1, 4, 0, .null, []),
  (66, .goto (-40), 16, 0, .null, []),
  (69, .iload_n 2, 2, 0, .null, []),
  (70, .ifCond .ne 7, 43, 0, .null, []),
  (73, .iload_n 3, 3, 0, .null, []),
  (74, .goto 9, 47, 0, .null, []),
  (77, .aload_n 0, 0, 0, .null, []),
  (78, .iload_n 1, 1, 0, .null, []),
  (79, .iload_n 3, 3, 0, .null, []),
  (80, .invokevirtual 150, 175, 2, .null, []),
  (83, .ireturn, 0, 0, .null, [])])
def mX8_joinBy : pM := (⟨RX8, "joinBy", "(III)I"⟩, prog_10_method_37_code, 6, (some FieldType.int), 1, 8, [(0, .iconst 0, 0, 0, .int 0, []),
  (1, .istore 4, 4, 0, .null, []),
  (3, .iload_n 3, 3, 0, .null, []),
  (4, .istore 5, 5, 0, .null, []),
  (6, .iload 5, 5, 0, .null, []),
  (8, .aload_n 0, 0, 0, .null, []),
  (9, .iload_n 1, 1, 0, .null, []),
  (10, .iconst 2, 0, 0, .int 2, []),
  (11, .invokevirtual 88, 150, 2, .null, []),
  (14, .if_icmp .ge 52, 37, 0, .null, []),
  (17, .iload 5, 5, 0, .null, []),
  (19, .iload_n 3, 3, 0, .null, []),
  (20, .isub, 0, 0, .null, []),
  (21, .aload_n 0, 0, 0, .null, []),
  (22, .iload_n 2, 2, 0, .null, []),
  (23, .iconst 2, 0, 0, .int 2, []),
  (24, .invokevirtual 88, 150, 2, .null, []),
  (27, .if_icmp .ge 39, 37, 0, .null, []),
  (30, .iload 4, 4, 0, .null, []),
  (32, .aload_n 0, 0, 0, .null, []),
  (33, .iload_n 1, 1, 0, .null, []),
  (34, .iload 5, 5, 0, .null, []),
  (36, .invokevirtual 125, 158, 2, .null, []),
  (39, .aload_n 0, 0, 0, .null, []),
  (40, .iload_n 2, 2, 0, .null, []),
  (41, .iload 5, 5, 0, .null, []),
  (43, .iload_n 3, 3, 0, .null, []),
  (44, .isub, 0, 0, .null, []),
  (45, .invokevirtual 125, 158, 2, .null, []),
  (48, .if_icmp .ne 7, 32, 0, .null, []),
  (51, .iconst 1, 0, 0, .int 1, []),
  (52, .goto 5, 33, 0, .null, []),
  (55, .bipush (-2), 0, 0, .int (-2), []),
  (57, .iadd, 0, 0, .null, []),
  (58, .istore 4, 4, 0, .null, []),
  (60, .iinc 5 1, 5, 0, .null, []),
  (63, .goto (-57), 4, 0, .null, []),
  (66, .iload 4, 4, 0, .null, []),
  (68, .ireturn, 0, 0, .null, [])])
def mX8_join : pM := (⟨RX8, "join", "(III)I"⟩, prog_10_method_38_code, 6, (some FieldType.int), 1, 8, [(0, .aload_n 0, 0, 0, .null, []),
  (1, .iload_n 1, 1, 0, .null, []),
  (2, .invokevirtual 109, 152, 1, .null, []),
  (5, .ifCond .eq 26, 17, 0, .null, []),
  (8, .aload_n 0, 0, 0, .null, []),
  (9, .iload_n 2, 2, 0, .null, []),
  (10, .invokevirtual 109, 152, 1, .null, []),
  (13, .ifCond .eq 18, 17, 0, .null, []),
  (16, .iload_n 1, 1, 0, .null, []),
  (17, .iload_n 2, 2, 0, .null, []),
  (18, .if_icmp .eq 13, 17, 0, .null, []),
  (21, .iload_n 3, 3, 0, .null, []),
  (22, .i2l, 0, 0, .null, []),
  (23, .lconst 0, 0, 0, .long 0, []),
  (24, .lconst 1, 0, 0, .long 1, []),
  (25, .invokestatic 68, 143, 3, .null, []),
  (28, .ifCond .ne 6, 19, 0, .null, []),
  (31, .ldc 83, 0, 0, .int (-1000000001), []),
  (33, .ireturn, 0, 0, .null, []),
  (34, .iconst 0, 0, 0, .int 0, []),
  (35, .istore 4, 4, 0, .null, []),
  (37, .iconst 1, 0, 0, .int 1, []),
  (38, .istore 5, 5, 0, .null, []),
  (40, .iload 5, 5, 0, .null, []),
  (42, .aload_n 0, 0, 0, .null, []),
  (43, .iload_n 1, 1, 0, .null, []),
  (44, .iconst 2, 0, 0, .int 2, []),
  (45, .invokevirtual 88, 150, 2, .null, []),
  (48, .if_icmp .ge 37, 46, 0, .null, []),
  (51, .aload_n 0, 0, 0, .null, []),
  (52, .iload_n 1, 1, 0, .null, []),
  (53, .iload_n 2, 2, 0, .null, []),
  (54, .iload 5, 5, 0, .null, []),
  (56, .invokevirtual 153, 178, 3, .null, []),
  (59, .aload_n 0, 0, 0, .null, []),
  (60, .iload_n 1, 1, 0, .null, []),
  (61, .iload_n 2, 2, 0, .null, []),
  (62, .iload 4, 4, 0, .null, []),
  (64, .invokevirtual 153, 178, 3, .null, []),
  (67, .if_icmp .le 8, 42, 0, .null, []),
  (70, .iload 5, 5, 0, .null, []),
  (72, .goto 5, 43, 0, .null, []),
  (75, .iload 4, 4, 0, .null, []),
  (77, .istore 4, 4, 0, .null, []),
  (79, .iinc 5 1, 5, 0, .null, []),
  (82, .goto (-42), 23, 0, .null, []),
  (85, .iload_n 3, 3, 0, .null, []),
  (86, .ifCond .ne 8, 50, 0, .null, []),
  (89, .iload 4, 4, 0, .null, []),
  (91, .goto 11, 55, 0, .null, []),
  (94, .aload_n 0, 0, 0, .null, []),
  (95, .iload_n 1, 1, 0, .null, []),
  (96, .iload_n 2, 2, 0, .null, []),
  (97, .iload 4, 4, 0, .null, []),
  (99, .invokevirtual 153, 178, 3, .null, []),
  (102, .ireturn, 0, 0, .null, [])])
def mX8_doClash : pM := (⟨RX8, "doClash", "(II)Z"⟩, prog_10_method_39_code, 5, (some FieldType.boolean), 1, 8, [(0, .aload_n 0, 0, 0, .null, []),
  (1, .iload_n 1, 1, 0, .null, []),
  (2, .invokevirtual 113, 163, 1, .null, []),
  (5, .aload_n 0, 0, 0, .null, []),
  (6, .iload_n 2, 2, 0, .null, []),
  (7, .invokevirtual 113, 163, 1, .null, []),
  (10, .iand, 0, 0, .null, []),
  (11, .istore_n 3, 3, 0, .null, []),
  (12, .iconst 0, 0, 0, .int 0, []),
  (13, .istore 4, 4, 0, .null, []),
  (15, .iload 4, 4, 0, .null, []),
  (17, .bipush 16, 0, 0, .int 16, []),
  (19, .if_icmp .ge 52, 43, 0, .null, []),
  (22, .iload_n 3, 3, 0, .null, []),
  (23, .iload 4, 4, 0, .null, []),
  (25, .ishr, 0, 0, .null, []),
  (26, .iconst 1, 0, 0, .int 1, []),
  (27, .iand, 0, 0, .null, []),
  (28, .iconst 1, 0, 0, .int 1, []),
  (29, .if_icmp .ne 36, 41, 0, .null, []),
  (32, .aload_n 0, 0, 0, .null, []),
  (33, .iload_n 1, 1, 0, .null, []),
  (34, .iload 4, 4, 0, .null, []),
  (36, .aload_n 0, 0, 0, .null, []),
  (37, .iload_n 1, 1, 0, .null, []),
  (38, .iconst 4, 0, 0, .int 4, []),
  (39, .invokevirtual 88, 150, 2, .null, []),
  (42, .isub, 0, 0, .null, []),
  (43, .invokevirtual 125, 158, 2, .null, []),
  (46, .aload_n 0, 0, 0, .null, []),
  (47, .iload_n 2, 2, 0, .null, []),
  (48, .iload 4, 4, 0, .null, []),
  (50, .aload_n 0, 0, 0, .null, []),
  (51, .iload_n 2, 2, 0, .null, []),
  (52, .iconst 4, 0, 0, .int 4, []),
  (53, .invokevirtual 88, 150, 2, .null, []),
  (56, .isub, 0, 0, .null, []),
  (57, .invokevirtual 125, 158, 2, .null, []),
  (60, .if_icmp .eq 5, 41, 0, .null, []),
  (63, .iconst 1, 0, 0, .int 1, []),
  (64, .ireturn, 0, 0, .null, []),
  (65, .iinc 4 1, 4, 0, .null, []),
  (68, .goto (-53), 10, 0, .null, []),
  (71, .iconst 0, 0, 0, .int 0, []),
  (72, .ireturn, 0, 0, .null, [])])
def mX8_clash : pM := (⟨RX8, "clash", "(II)I"⟩, prog_10_method_40_code, 3, (some FieldType.int), 1, 8, [(0, .aload_n 0, 0, 0, .null, []),
  (1, .iload_n 1, 1, 0, .null, []),
  (2, .invokevirtual 109, 152, 1, .null, []),
  (5, .ifCond .eq 16, 11, 0, .null, []),
  (8, .aload_n 0, 0, 0, .null, []),
  (9, .iload_n 2, 2, 0, .null, []),
  (10, .invokevirtual 109, 152, 1, .null, []),
  (13, .ifCond .eq 8, 11, 0, .null, []),
  (16, .iload_n 1, 1, 0, .null, []),
  (17, .iload_n 2, 2, 0, .null, []),
  (18, .if_icmp .ne 6, 13, 0, .null, []),
  (21, .ldc 83, 0, 0, .int (-1000000001), []),
  (23, .ireturn, 0, 0, .null, []),
  (24, .aload_n 0, 0, 0, .null, []),
  (25, .iload_n 1, 1, 0, .null, []),
  (26, .iload_n 2, 2, 0, .null, []),
  (27, .invokevirtual 157, 180, 2, .null, []),
  (30, .ifCond .eq 7, 20, 0, .null, []),
  (33, .iconst 1, 0, 0, .int 1, []),
  (34, .goto 4, 21, 0, .null, []),
  (37, .iconst 0, 0, 0, .int 0, []),
  (38, .ireturn, 0, 0, .null, [])])
def mX8_laidOnes : pM := (⟨RX8, "laidOnes", "()I"⟩, prog_10_method_41_code, 3, (some FieldType.int), 1, 8, [(0, .iconst 0, 0, 0, .int 0, []),
  (1, .istore_n 1, 1, 0, .null, []),
  (2, .iconst 0, 0, 0, .int 0, []),
  (3, .istore_n 2, 2, 0, .null, []),
  (4, .iload_n 2, 2, 0, .null, []),
  (5, .aload_n 0, 0, 0, .null, []),
  (6, .getfield 7, 8, 0, .null, []),
  (9, .iconst 0, 0, 0, .int 0, []),
  (10, .iaload, 0, 0, .null, []),
  (11, .if_icmp .ge 30, 26, 0, .null, []),
  (14, .iload_n 1, 1, 0, .null, []),
  (15, .aload_n 0, 0, 0, .null, []),
  (16, .iload_n 2, 2, 0, .null, []),
  (17, .iconst 4, 0, 0, .int 4, []),
  (18, .invokevirtual 88, 150, 2, .null, []),
  (21, .bipush 16, 0, 0, .int 16, []),
  (23, .if_icmp .ge 9, 21, 0, .null, []),
  (26, .iconst 1, 0, 0, .int 1, []),
  (27, .iload_n 2, 2, 0, .null, []),
  (28, .ishl, 0, 0, .null, []),
  (29, .goto 4, 22, 0, .null, []),
  (32, .iconst 0, 0, 0, .int 0, []),
  (33, .ior, 0, 0, .null, []),
  (34, .istore_n 1, 1, 0, .null, []),
  (35, .iinc 2 1, 2, 0, .null, []),
  (38, .goto (-34), 4, 0, .null, []),
  (41, .iload_n 1, 1, 0, .null, []),
  (42, .ireturn, 0, 0, .null, [])])
def mX8_coveredBy : pM := (⟨RX8, "coveredBy", "(I)I"⟩, prog_10_method_42_code, 4, (some FieldType.int), 1, 8, [(0, .iconst 0, 0, 0, .int 0, []),
  (1, .istore_n 2, 2, 0, .null, []),
  (2, .iconst 0, 0, 0, .int 0, []),
  (3, .istore_n 3, 3, 0, .null, []),
  (4, .iload_n 3, 3, 0, .null, []),
  (5, .aload_n 0, 0, 0, .null, []),
  (6, .getfield 7, 8, 0, .null, []),
  (9, .iconst 0, 0, 0, .int 0, []),
  (10, .iaload, 0, 0, .null, []),
  (11, .if_icmp .ge 30, 27, 0, .null, []),
  (14, .iload_n 2, 2, 0, .null, []),
  (15, .iload_n 1, 1, 0, .null, []),
  (16, .iload_n 3, 3, 0, .null, []),
  (17, .ishr, 0, 0, .null, []),
  (18, .iconst 1, 0, 0, .int 1, []),
  (19, .iand, 0, 0, .null, []),
  (20, .iconst 1, 0, 0, .int 1, []),
  (21, .if_icmp .ne 11, 22, 0, .null, []),
  (24, .aload_n 0, 0, 0, .null, []),
  (25, .iload_n 3, 3, 0, .null, []),
  (26, .invokevirtual 113, 163, 1, .null, []),
  (29, .goto 4, 23, 0, .null, []),
  (32, .iconst 0, 0, 0, .int 0, []),
  (33, .ior, 0, 0, .null, []),
  (34, .istore_n 2, 2, 0, .null, []),
  (35, .iinc 3 1, 3, 0, .null, []),
  (38, .goto (-34), 4, 0, .null, []),
  (41, .iload_n 2, 2, 0, .null, []),
  (42, .ireturn, 0, 0, .null, [])])
def mX8_findClashing : pM := (⟨RX8, "findClashing", "()V"⟩, prog_10_method_43_code, 3, none, 1, 8, [(0, .iconst 0, 0, 0, .int 0, []),
  (1, .istore_n 1, 1, 0, .null, []),
  (2, .iload_n 1, 1, 0, .null, []),
  (3, .aload_n 0, 0, 0, .null, []),
  (4, .getfield 7, 8, 0, .null, []),
  (7, .iconst 0, 0, 0, .int 0, []),
  (8, .iaload, 0, 0, .null, []),
  (9, .if_icmp .ge 64, 45, 0, .null, []),
  (12, .aload_n 0, 0, 0, .null, []),
  (13, .getfield 43, 8, 12, .null, []),
  (16, .iload_n 1, 1, 0, .null, []),
  (17, .iconst 0, 0, 0, .int 0, []),
  (18, .iastore, 0, 0, .null, []),
  (19, .iconst 0, 0, 0, .int 0, []),
  (20, .istore_n 2, 2, 0, .null, []),
  (21, .iload_n 2, 2, 0, .null, []),
  (22, .aload_n 0, 0, 0, .null, []),
  (23, .getfield 7, 8, 0, .null, []),
  (26, .iconst 0, 0, 0, .int 0, []),
  (27, .iaload, 0, 0, .null, []),
  (28, .if_icmp .ge 39, 43, 0, .null, []),
  (31, .aload_n 0, 0, 0, .null, []),
  (32, .getfield 43, 8, 12, .null, []),
  (35, .iload_n 1, 1, 0, .null, []),
  (36, .dup2, 0, 0, .null, []),
  (37, .iaload, 0, 0, .null, []),
  (38, .iload_n 2, 2, 0, .null, []),
  (39, .iload_n 1, 1, 0, .null, []),
  (40, .if_icmp .eq 18, 38, 0, .null, []),
  (43, .aload_n 0, 0, 0, .null, []),
  (44, .iload_n 1, 1, 0, .null, []),
  (45, .iload_n 2, 2, 0, .null, []),
  (46, .invokevirtual 157, 180, 2, .null, []),
  (49, .ifCond .eq 9, 38, 0, .null, []),
  (52, .iconst 1, 0, 0, .int 1, []),
  (53, .iload_n 2, 2, 0, .null, []),
  (54, .ishl, 0, 0, .null, []),
  (55, .goto 4, 39, 0, .null, []),
  (58, .iconst 0, 0, 0, .int 0, []),
  (59, .ior, 0, 0, .null, []),
  (60, .iastore, 0, 0, .null, []),
  (61, .iinc 2 1, 2, 0, .null, []),
  (64, .goto (-43), 15, 0, .null, []),
  (67, .iinc 1 1, 1, 0, .null, []),
  (70, .goto (-68), 2, 0, .null, []),
  (73, .return_, 0, 0, .null, [])])
def mX8_areAtPeace : pM := (⟨RX8, "areAtPeace", "(I)Z"⟩, prog_10_method_44_code, 3, (some FieldType.boolean), 1, 8, [(0, .iconst 0, 0, 0, .int 0, []),
  (1, .istore_n 2, 2, 0, .null, []),
  (2, .iload_n 2, 2, 0, .null, []),
  (3, .aload_n 0, 0, 0, .null, []),
  (4, .getfield 7, 8, 0, .null, []),
  (7, .iconst 0, 0, 0, .int 0, []),
  (8, .iaload, 0, 0, .null, []),
  (9, .if_icmp .ge 31, 26, 0, .null, []),
  (12, .iload_n 1, 1, 0, .null, []),
  (13, .iload_n 2, 2, 0, .null, []),
  (14, .ishr, 0, 0, .null, []),
  (15, .iconst 1, 0, 0, .int 1, []),
  (16, .iand, 0, 0, .null, []),
  (17, .iconst 1, 0, 0, .int 1, []),
  (18, .if_icmp .ne 16, 24, 0, .null, []),
  (21, .aload_n 0, 0, 0, .null, []),
  (22, .getfield 43, 8, 12, .null, []),
  (25, .iload_n 2, 2, 0, .null, []),
  (26, .iaload, 0, 0, .null, []),
  (27, .iload_n 1, 1, 0, .null, []),
  (28, .iand, 0, 0, .null, []),
  (29, .ifCond .eq 5, 24, 0, .null, []),
  (32, .iconst 0, 0, 0, .int 0, []),
  (33, .ireturn, 0, 0, .null, []),
  (34, .iinc 2 1, 2, 0, .null, []),
  (37, .goto (-35), 2, 0, .null, []),
  (40, .iconst 1, 0, 0, .int 1, []),
  (41, .ireturn, 0, 0, .null, [])])
def mX8_undone : pM := (⟨RX8, "undone", "()I"⟩, prog_10_method_45_code, 5, (some FieldType.int), 1, 8, [(0, .aload_n 0, 0, 0, .null, []),
  (1, .invokevirtual 160, 184, 0, .null, []),
  (4, .aload_n 0, 0, 0, .null, []),
  (5, .invokevirtual 163, 182, 0, .null, []),
  (8, .istore_n 1, 1, 0, .null, []),
  (9, .iload_n 1, 1, 0, .null, []),
  (10, .istore_n 2, 2, 0, .null, []),
  (11, .iload_n 1, 1, 0, .null, []),
  (12, .istore_n 3, 3, 0, .null, []),
  (13, .iload_n 3, 3, 0, .null, []),
  (14, .ifCond .lt 58, 42, 0, .null, []),
  (17, .iload_n 3, 3, 0, .null, []),
  (18, .iload_n 1, 1, 0, .null, []),
  (19, .iconst (-1), 0, 0, .int (-1), []),
  (20, .ixor, 0, 0, .null, []),
  (21, .iand, 0, 0, .null, []),
  (22, .ifCond .ne 18, 24, 0, .null, []),
  (25, .iload_n 3, 3, 0, .null, []),
  (26, .invokestatic 166, 147, 1, .null, []),
  (29, .iload_n 2, 2, 0, .null, []),
  (30, .invokestatic 166, 147, 1, .null, []),
  (33, .if_icmp .gt 7, 24, 0, .null, []),
  (36, .iconst 1, 0, 0, .int 1, []),
  (37, .goto 4, 25, 0, .null, []),
  (40, .iconst 0, 0, 0, .int 0, []),
  (41, .istore 4, 4, 0, .null, []),
  (43, .iload 4, 4, 0, .null, []),
  (45, .ifCond .eq 19, 38, 0, .null, []),
  (48, .aload_n 0, 0, 0, .null, []),
  (49, .iload_n 1, 1, 0, .null, []),
  (50, .iload_n 3, 3, 0, .null, []),
  (51, .iconst (-1), 0, 0, .int (-1), []),
  (52, .ixor, 0, 0, .null, []),
  (53, .iand, 0, 0, .null, []),
  (54, .invokevirtual 169, 185, 1, .null, []),
  (57, .ifCond .eq 7, 38, 0, .null, []),
  (60, .iload_n 3, 3, 0, .null, []),
  (61, .goto 4, 39, 0, .null, []),
  (64, .iload_n 2, 2, 0, .null, []),
  (65, .istore_n 2, 2, 0, .null, []),
  (66, .iinc 3 (-1), 3, 0, .null, []),
  (69, .goto (-56), 9, 0, .null, []),
  (72, .iload_n 2, 2, 0, .null, []),
  (73, .ireturn, 0, 0, .null, [])])
def mX8_borne : pM := (⟨RX8, "borne", "()I"⟩, prog_10_method_46_code, 6, (some FieldType.int), 1, 8, [(0, .aload_n 0, 0, 0, .null, []),
  (1, .invokevirtual 163, 182, 0, .null, []),
  (4, .istore_n 1, 1, 0, .null, []),
  (5, .aload_n 0, 0, 0, .null, []),
  (6, .iload_n 1, 1, 0, .null, []),
  (7, .invokevirtual 172, 183, 1, .null, []),
  (10, .istore_n 2, 2, 0, .null, []),
  (11, .iload_n 1, 1, 0, .null, []),
  (12, .istore_n 3, 3, 0, .null, []),
  (13, .iload_n 1, 1, 0, .null, []),
  (14, .istore 4, 4, 0, .null, []),
  (16, .iload 4, 4, 0, .null, []),
  (18, .ifCond .lt 59, 41, 0, .null, []),
  (21, .iload 4, 4, 0, .null, []),
  (23, .iload_n 1, 1, 0, .null, []),
  (24, .iconst (-1), 0, 0, .int (-1), []),
  (25, .ixor, 0, 0, .null, []),
  (26, .iand, 0, 0, .null, []),
  (27, .ifCond .ne 19, 26, 0, .null, []),
  (30, .iload 4, 4, 0, .null, []),
  (32, .invokestatic 166, 147, 1, .null, []),
  (35, .iload_n 3, 3, 0, .null, []),
  (36, .invokestatic 166, 147, 1, .null, []),
  (39, .if_icmp .gt 7, 26, 0, .null, []),
  (42, .iconst 1, 0, 0, .int 1, []),
  (43, .goto 4, 27, 0, .null, []),
  (46, .iconst 0, 0, 0, .int 0, []),
  (47, .istore 5, 5, 0, .null, []),
  (49, .iload 5, 5, 0, .null, []),
  (51, .ifCond .eq 18, 37, 0, .null, []),
  (54, .aload_n 0, 0, 0, .null, []),
  (55, .iload 4, 4, 0, .null, []),
  (57, .invokevirtual 172, 183, 1, .null, []),
  (60, .iload_n 2, 2, 0, .null, []),
  (61, .if_icmp .ne 8, 37, 0, .null, []),
  (64, .iload 4, 4, 0, .null, []),
  (66, .goto 4, 38, 0, .null, []),
  (69, .iload_n 3, 3, 0, .null, []),
  (70, .istore_n 3, 3, 0, .null, []),
  (71, .iinc 4 (-1), 4, 0, .null, []),
  (74, .goto (-58), 11, 0, .null, []),
  (77, .iload_n 3, 3, 0, .null, []),
  (78, .ireturn, 0, 0, .null, [])])
def mX8_otherwiseAt : pM := (⟨RX8, "otherwiseAt", "(I)I"⟩, prog_10_method_47_code, 4, (some FieldType.int), 1, 8, [(0, .iconst 0, 0, 0, .int 0, []),
  (1, .istore_n 2, 2, 0, .null, []),
  (2, .iconst 0, 0, 0, .int 0, []),
  (3, .istore_n 3, 3, 0, .null, []),
  (4, .iload_n 3, 3, 0, .null, []),
  (5, .aload_n 0, 0, 0, .null, []),
  (6, .getfield 7, 8, 0, .null, []),
  (9, .iconst 0, 0, 0, .int 0, []),
  (10, .iaload, 0, 0, .null, []),
  (11, .if_icmp .ge 54, 43, 0, .null, []),
  (14, .iload_n 2, 2, 0, .null, []),
  (15, .aload_n 0, 0, 0, .null, []),
  (16, .iload_n 3, 3, 0, .null, []),
  (17, .invokevirtual 113, 163, 1, .null, []),
  (20, .iload_n 1, 1, 0, .null, []),
  (21, .ishr, 0, 0, .null, []),
  (22, .iconst 1, 0, 0, .int 1, []),
  (23, .iand, 0, 0, .null, []),
  (24, .iconst 1, 0, 0, .int 1, []),
  (25, .if_icmp .ne 31, 38, 0, .null, []),
  (28, .aload_n 0, 0, 0, .null, []),
  (29, .iload_n 3, 3, 0, .null, []),
  (30, .iload_n 1, 1, 0, .null, []),
  (31, .aload_n 0, 0, 0, .null, []),
  (32, .iload_n 3, 3, 0, .null, []),
  (33, .iconst 4, 0, 0, .int 4, []),
  (34, .invokevirtual 88, 150, 2, .null, []),
  (37, .isub, 0, 0, .null, []),
  (38, .invokevirtual 125, 158, 2, .null, []),
  (41, .aload_n 0, 0, 0, .null, []),
  (42, .getfield 7, 8, 0, .null, []),
  (45, .iconst 5, 0, 0, .int 5, []),
  (46, .iload_n 1, 1, 0, .null, []),
  (47, .iadd, 0, 0, .null, []),
  (48, .iaload, 0, 0, .null, []),
  (49, .if_icmp .eq 7, 38, 0, .null, []),
  (52, .iconst 1, 0, 0, .int 1, []),
  (53, .goto 4, 39, 0, .null, []),
  (56, .iconst 0, 0, 0, .int 0, []),
  (57, .iadd, 0, 0, .null, []),
  (58, .istore_n 2, 2, 0, .null, []),
  (59, .iinc 3 1, 3, 0, .null, []),
  (62, .goto (-58), 4, 0, .null, []),
  (65, .iload_n 2, 2, 0, .null, []),
  (66, .ireturn, 0, 0, .null, [])])
def mX8_look : pM := (⟨RX8, "look", "(I)I"⟩, prog_10_method_48_code, 4, (some FieldType.int), 1, 8, [(0, .iload_n 1, 1, 0, .null, []),
  (1, .i2l, 0, 0, .null, []),
  (2, .lconst 0, 0, 0, .long 0, []),
  (3, .lconst 1, 0, 0, .long 1, []),
  (4, .invokestatic 68, 143, 3, .null, []),
  (7, .ifCond .ne 6, 8, 0, .null, []),
  (10, .ldc 83, 0, 0, .int (-1000000001), []),
  (12, .ireturn, 0, 0, .null, []),
  (13, .iconst 0, 0, 0, .int 0, []),
  (14, .istore_n 2, 2, 0, .null, []),
  (15, .iconst 1, 0, 0, .int 1, []),
  (16, .istore_n 3, 3, 0, .null, []),
  (17, .iload_n 3, 3, 0, .null, []),
  (18, .bipush 16, 0, 0, .int 16, []),
  (20, .if_icmp .ge 28, 28, 0, .null, []),
  (23, .aload_n 0, 0, 0, .null, []),
  (24, .iload_n 3, 3, 0, .null, []),
  (25, .invokevirtual 175, 188, 1, .null, []),
  (28, .aload_n 0, 0, 0, .null, []),
  (29, .iload_n 2, 2, 0, .null, []),
  (30, .invokevirtual 175, 188, 1, .null, []),
  (33, .if_icmp .le 7, 24, 0, .null, []),
  (36, .iload_n 3, 3, 0, .null, []),
  (37, .goto 4, 25, 0, .null, []),
  (40, .iload_n 2, 2, 0, .null, []),
  (41, .istore_n 2, 2, 0, .null, []),
  (42, .iinc 3 1, 3, 0, .null, []),
  (45, .goto (-28), 12, 0, .null, []),
  (48, .iload_n 1, 1, 0, .null, []),
  (49, .ifCond .ne 7, 32, 0, .null, []),
  (52, .iload_n 2, 2, 0, .null, []),
  (53, .goto 8, 35, 0, .null, []),
  (56, .aload_n 0, 0, 0, .null, []),
  (57, .iload_n 2, 2, 0, .null, []),
  (58, .invokevirtual 175, 188, 1, .null, []),
  (61, .ireturn, 0, 0, .null, [])])
def mX8_goesOn : pM := (⟨RX8, "goesOn", "()V"⟩, prog_10_method_49_code, 5, none, 1, 8, [(0, .aload_n 0, 0, 0, .null, []),
  (1, .invokevirtual 145, 154, 0, .null, []),
  (4, .bipush 16, 0, 0, .int 16, []),
  (6, .irem, 0, 0, .null, []),
  (7, .istore_n 1, 1, 0, .null, []),
  (8, .iconst 0, 0, 0, .int 0, []),
  (9, .istore_n 2, 2, 0, .null, []),
  (10, .iload_n 2, 2, 0, .null, []),
  (11, .aload_n 0, 0, 0, .null, []),
  (12, .getfield 7, 8, 0, .null, []),
  (15, .iconst 0, 0, 0, .int 0, []),
  (16, .iaload, 0, 0, .null, []),
  (17, .if_icmp .ge 119, 84, 0, .null, []),
  (20, .aload_n 0, 0, 0, .null, []),
  (21, .iload_n 2, 2, 0, .null, []),
  (22, .invokevirtual 113, 163, 1, .null, []),
  (25, .iload_n 1, 1, 0, .null, []),
  (26, .ishr, 0, 0, .null, []),
  (27, .iconst 1, 0, 0, .int 1, []),
  (28, .iand, 0, 0, .null, []),
  (29, .iconst 1, 0, 0, .int 1, []),
  (30, .if_icmp .ne 100, 82, 0, .null, []),
  (33, .aload_n 0, 0, 0, .null, []),
  (34, .iload_n 2, 2, 0, .null, []),
  (35, .iload_n 1, 1, 0, .null, []),
  (36, .aload_n 0, 0, 0, .null, []),
  (37, .iload_n 2, 2, 0, .null, []),
  (38, .iconst 4, 0, 0, .int 4, []),
  (39, .invokevirtual 88, 150, 2, .null, []),
  (42, .isub, 0, 0, .null, []),
  (43, .invokevirtual 125, 158, 2, .null, []),
  (46, .aload_n 0, 0, 0, .null, []),
  (47, .getfield 7, 8, 0, .null, []),
  (50, .iconst 5, 0, 0, .int 5, []),
  (51, .iload_n 1, 1, 0, .null, []),
  (52, .iadd, 0, 0, .null, []),
  (53, .iaload, 0, 0, .null, []),
  (54, .if_icmp .ne 7, 40, 0, .null, []),
  (57, .iconst 1, 0, 0, .int 1, []),
  (58, .goto 4, 41, 0, .null, []),
  (61, .iconst 0, 0, 0, .int 0, []),
  (62, .istore_n 3, 3, 0, .null, []),
  (63, .aload_n 0, 0, 0, .null, []),
  (64, .iload_n 2, 2, 0, .null, []),
  (65, .iconst 5, 0, 0, .int 5, []),
  (66, .invokevirtual 88, 150, 2, .null, []),
  (69, .iload_n 3, 3, 0, .null, []),
  (70, .ifCond .eq 11, 52, 0, .null, []),
  (73, .aload_n 0, 0, 0, .null, []),
  (74, .iload_n 2, 2, 0, .null, []),
  (75, .invokevirtual 116, 159, 1, .null, []),
  (78, .goto 9, 56, 0, .null, []),
  (81, .aload_n 0, 0, 0, .null, []),
  (82, .iload_n 2, 2, 0, .null, []),
  (83, .invokevirtual 119, 160, 1, .null, []),
  (86, .ineg, 0, 0, .null, []),
  (87, .iadd, 0, 0, .null, []),
  (88, .istore 4, 4, 0, .null, []),
  (90, .aload_n 0, 0, 0, .null, []),
  (91, .iload_n 2, 2, 0, .null, []),
  (92, .iconst 5, 0, 0, .int 5, []),
  (93, .iload 4, 4, 0, .null, []),
  (95, .bipush 99, 0, 0, .int 99, []),
  (97, .invokestatic 102, 145, 2, .null, []),
  (100, .invokevirtual 73, 151, 3, .null, []),
  (103, .iload_n 3, 3, 0, .null, []),
  (104, .ifCond .ne 26, 82, 0, .null, []),
  (107, .iload 4, 4, 0, .null, []),
  (109, .ifCond .gt 21, 82, 0, .null, []),
  (112, .aload_n 0, 0, 0, .null, []),
  (113, .iload_n 2, 2, 0, .null, []),
  (114, .iconst 4, 0, 0, .int 4, []),
  (115, .bipush 16, 0, 0, .int 16, []),
  (117, .invokevirtual 73, 151, 3, .null, []),
  (120, .aload_n 0, 0, 0, .null, []),
  (121, .getfield 7, 8, 0, .null, []),
  (124, .iconst 3, 0, 0, .int 3, []),
  (125, .dup2, 0, 0, .null, []),
  (126, .iaload, 0, 0, .null, []),
  (127, .iconst 1, 0, 0, .int 1, []),
  (128, .iadd, 0, 0, .null, []),
  (129, .iastore, 0, 0, .null, []),
  (130, .iinc 2 1, 2, 0, .null, []),
  (133, .goto (-123), 7, 0, .null, []),
  (136, .aload_n 0, 0, 0, .null, []),
  (137, .getfield 7, 8, 0, .null, []),
  (140, .iconst 2, 0, 0, .int 2, []),
  (141, .dup2, 0, 0, .null, []),
  (142, .iaload, 0, 0, .null, []),
  (143, .iconst 1, 0, 0, .int 1, []),
  (144, .iadd, 0, 0, .null, []),
  (145, .iastore, 0, 0, .null, []),
  (146, .return_, 0, 0, .null, [])])
def mX8_goesOnMany : pM := (⟨RX8, "goesOnMany", "(I)V"⟩, prog_10_method_50_code, 3, none, 1, 8, [(0, .iconst 0, 0, 0, .int 0, []),
  (1, .istore_n 2, 2, 0, .null, []),
  (2, .iload_n 2, 2, 0, .null, []),
  (3, .iload_n 1, 1, 0, .null, []),
  (4, .if_icmp .ge 13, 9, 0, .null, []),
  (7, .aload_n 0, 0, 0, .null, []),
  (8, .invokevirtual 178, 190, 0, .null, []),
  (11, .iinc 2 1, 2, 0, .null, []),
  (14, .goto (-12), 2, 0, .null, []),
  (17, .return_, 0, 0, .null, [])])
def mX8_tides : pM := (⟨RX8, "tides", "(I)I"⟩, prog_10_method_51_code, 4, (some FieldType.int), 1, 8, [(0, .iload_n 1, 1, 0, .null, []),
  (1, .i2l, 0, 0, .null, []),
  (2, .lconst 1, 0, 0, .long 1, []),
  (3, .ldc2_w 181, 0, 0, .long 100, []),
  (6, .invokestatic 68, 143, 3, .null, []),
  (9, .ifCond .ne 6, 8, 0, .null, []),
  (12, .ldc 83, 0, 0, .int (-1000000001), []),
  (14, .ireturn, 0, 0, .null, []),
  (15, .aload_n 0, 0, 0, .null, []),
  (16, .getfield 7, 8, 0, .null, []),
  (19, .iconst 3, 0, 0, .int 3, []),
  (20, .iaload, 0, 0, .null, []),
  (21, .istore_n 2, 2, 0, .null, []),
  (22, .iconst 0, 0, 0, .int 0, []),
  (23, .istore_n 3, 3, 0, .null, []),
  (24, .iload_n 3, 3, 0, .null, []),
  (25, .iload_n 1, 1, 0, .null, []),
  (26, .if_icmp .ge 25, 28, 0, .null, []),
  (29, .aload_n 0, 0, 0, .null, []),
  (30, .getfield 7, 8, 0, .null, []),
  (33, .iconst 2, 0, 0, .int 2, []),
  (34, .iaload, 0, 0, .null, []),
  (35, .sipush 9999, 0, 0, .int 9999, []),
  (38, .if_icmp .ge 13, 28, 0, .null, []),
  (41, .aload_n 0, 0, 0, .null, []),
  (42, .invokevirtual 178, 190, 0, .null, []),
  (45, .iinc 3 1, 3, 0, .null, []),
  (48, .goto (-24), 15, 0, .null, []),
  (51, .aload_n 0, 0, 0, .null, []),
  (52, .getfield 7, 8, 0, .null, []),
  (55, .iconst 3, 0, 0, .int 3, []),
  (56, .iaload, 0, 0, .null, []),
  (57, .iload_n 2, 2, 0, .null, []),
  (58, .isub, 0, 0, .null, []),
  (59, .ireturn, 0, 0, .null, [])])
def mX8_allTrust : pM := (⟨RX8, "allTrust", "()I"⟩, prog_10_method_52_code, 3, (some FieldType.int), 1, 8, [(0, .iconst 0, 0, 0, .int 0, []),
  (1, .istore_n 1, 1, 0, .null, []),
  (2, .iconst 0, 0, 0, .int 0, []),
  (3, .istore_n 2, 2, 0, .null, []),
  (4, .iload_n 2, 2, 0, .null, []),
  (5, .aload_n 0, 0, 0, .null, []),
  (6, .getfield 7, 8, 0, .null, []),
  (9, .iconst 0, 0, 0, .int 0, []),
  (10, .iaload, 0, 0, .null, []),
  (11, .if_icmp .ge 18, 19, 0, .null, []),
  (14, .iload_n 1, 1, 0, .null, []),
  (15, .aload_n 0, 0, 0, .null, []),
  (16, .iload_n 2, 2, 0, .null, []),
  (17, .iconst 5, 0, 0, .int 5, []),
  (18, .invokevirtual 88, 150, 2, .null, []),
  (21, .iadd, 0, 0, .null, []),
  (22, .istore_n 1, 1, 0, .null, []),
  (23, .iinc 2 1, 2, 0, .null, []),
  (26, .goto (-22), 4, 0, .null, []),
  (29, .iload_n 1, 1, 0, .null, []),
  (30, .ireturn, 0, 0, .null, [])])
def mX8_book : pM := (⟨RX8, "book", "(I)I"⟩, prog_10_method_53_code, 2, (some FieldType.int), 1, 8, [(0, .iload_n 1, 1, 0, .null, []),
  (1, .tableswitch 62 0 3 #[31, 38, 43, 48], 22, 31, .null, [2, 7, 10, 13]),
  (32, .aload_n 0, 0, 0, .null, []),
  (33, .getfield 7, 8, 0, .null, []),
  (36, .iconst 3, 0, 0, .int 3, []),
  (37, .iaload, 0, 0, .null, []),
  (38, .ireturn, 0, 0, .null, []),
  (39, .aload_n 0, 0, 0, .null, []),
  (40, .invokevirtual 183, 193, 0, .null, []),
  (43, .ireturn, 0, 0, .null, []),
  (44, .aload_n 0, 0, 0, .null, []),
  (45, .invokevirtual 163, 182, 0, .null, []),
  (48, .ireturn, 0, 0, .null, []),
  (49, .ldc 105, 0, 0, .int 65535, []),
  (51, .aload_n 0, 0, 0, .null, []),
  (52, .aload_n 0, 0, 0, .null, []),
  (53, .invokevirtual 163, 182, 0, .null, []),
  (56, .invokevirtual 172, 183, 1, .null, []),
  (59, .iconst (-1), 0, 0, .int (-1), []),
  (60, .ixor, 0, 0, .null, []),
  (61, .iand, 0, 0, .null, []),
  (62, .ireturn, 0, 0, .null, []),
  (63, .ldc 83, 0, 0, .int (-1000000001), []),
  (65, .ireturn, 0, 0, .null, [])])
def mX8_laysBy : pM := (⟨RX8, "laysBy", "()V"⟩, prog_10_method_54_code, 2, none, 1, 8, [(0, .iconst 0, 0, 0, .int 0, []),
  (1, .istore_n 1, 1, 0, .null, []),
  (2, .iload_n 1, 1, 0, .null, []),
  (3, .bipush 75, 0, 0, .int 75, []),
  (5, .if_icmp .ge 21, 15, 0, .null, []),
  (8, .aload_n 0, 0, 0, .null, []),
  (9, .getfield 46, 8, 13, .null, []),
  (12, .iload_n 1, 1, 0, .null, []),
  (13, .aload_n 0, 0, 0, .null, []),
  (14, .getfield 7, 8, 0, .null, []),
  (17, .iload_n 1, 1, 0, .null, []),
  (18, .iaload, 0, 0, .null, []),
  (19, .iastore, 0, 0, .null, []),
  (20, .iinc 1 1, 1, 0, .null, []),
  (23, .goto (-21), 2, 0, .null, []),
  (26, .return_, 0, 0, .null, [])])
def mX8_laysBack : pM := (⟨RX8, "laysBack", "()V"⟩, prog_10_method_55_code, 2, none, 1, 8, [(0, .iconst 0, 0, 0, .int 0, []),
  (1, .istore_n 1, 1, 0, .null, []),
  (2, .iload_n 1, 1, 0, .null, []),
  (3, .bipush 75, 0, 0, .int 75, []),
  (5, .if_icmp .ge 21, 15, 0, .null, []),
  (8, .aload_n 0, 0, 0, .null, []),
  (9, .getfield 7, 8, 0, .null, []),
  (12, .iload_n 1, 1, 0, .null, []),
  (13, .aload_n 0, 0, 0, .null, []),
  (14, .getfield 46, 8, 13, .null, []),
  (17, .iload_n 1, 1, 0, .null, []),
  (18, .iaload, 0, 0, .null, []),
  (19, .iastore, 0, 0, .null, []),
  (20, .iinc 1 1, 1, 0, .null, []),
  (23, .goto (-21), 2, 0, .null, []),
  (26, .return_, 0, 0, .null, [])])
def mX8_behind : pM := (⟨RX8, "behind", "(II)I"⟩, prog_10_method_56_code, 4, (some FieldType.int), 1, 8, [(0, .iload_n 1, 1, 0, .null, []),
  (1, .i2l, 0, 0, .null, []),
  (2, .lconst 0, 0, 0, .long 0, []),
  (3, .ldc2_w 181, 0, 0, .long 100, []),
  (6, .invokestatic 68, 143, 3, .null, []),
  (9, .ifCond .eq 21, 18, 0, .null, []),
  (12, .iload_n 2, 2, 0, .null, []),
  (13, .i2l, 0, 0, .null, []),
  (14, .lconst 0, 0, 0, .long 0, []),
  (15, .iconst 2, 0, 0, .int 2, []),
  (16, .aload_n 0, 0, 0, .null, []),
  (17, .getfield 7, 8, 0, .null, []),
  (20, .iconst 0, 0, 0, .int 0, []),
  (21, .iaload, 0, 0, .null, []),
  (22, .iadd, 0, 0, .null, []),
  (23, .i2l, 0, 0, .null, []),
  (24, .invokestatic 68, 143, 3, .null, []),
  (27, .ifCond .ne 6, 20, 0, .null, []),
  (30, .ldc 83, 0, 0, .int (-1000000001), []),
  (32, .ireturn, 0, 0, .null, []),
  (33, .aload_n 0, 0, 0, .null, []),
  (34, .invokevirtual 186, 195, 0, .null, []),
  (37, .aload_n 0, 0, 0, .null, []),
  (38, .iload_n 1, 1, 0, .null, []),
  (39, .invokevirtual 189, 191, 1, .null, []),
  (42, .iload_n 2, 2, 0, .null, []),
  (43, .ifCond .ne 10, 30, 0, .null, []),
  (46, .aload_n 0, 0, 0, .null, []),
  (47, .invokevirtual 183, 193, 0, .null, []),
  (50, .goto 37, 50, 0, .null, []),
  (53, .iload_n 2, 2, 0, .null, []),
  (54, .iconst 1, 0, 0, .int 1, []),
  (55, .if_icmp .ne 10, 36, 0, .null, []),
  (58, .aload_n 0, 0, 0, .null, []),
  (59, .invokevirtual 163, 182, 0, .null, []),
  (62, .goto 25, 50, 0, .null, []),
  (65, .iload_n 2, 2, 0, .null, []),
  (66, .iconst 2, 0, 0, .int 2, []),
  (67, .if_icmp .ne 12, 44, 0, .null, []),
  (70, .aload_n 0, 0, 0, .null, []),
  (71, .getfield 7, 8, 0, .null, []),
  (74, .iconst 3, 0, 0, .int 3, []),
  (75, .iaload, 0, 0, .null, []),
  (76, .goto 11, 50, 0, .null, []),
  (79, .aload_n 0, 0, 0, .null, []),
  (80, .iload_n 2, 2, 0, .null, []),
  (81, .iconst 3, 0, 0, .int 3, []),
  (82, .isub, 0, 0, .null, []),
  (83, .iconst 5, 0, 0, .int 5, []),
  (84, .invokevirtual 88, 150, 2, .null, []),
  (87, .istore_n 3, 3, 0, .null, []),
  (88, .aload_n 0, 0, 0, .null, []),
  (89, .invokevirtual 193, 196, 0, .null, []),
  (92, .iload_n 3, 3, 0, .null, []),
  (93, .ireturn, 0, 0, .null, [])])
def mX8_lasts : pM := (⟨RX8, "lasts", "()I"⟩, prog_10_method_57_code, 3, (some FieldType.int), 1, 8, [(0, .aload_n 0, 0, 0, .null, []),
  (1, .invokevirtual 186, 195, 0, .null, []),
  (4, .iconst (-1), 0, 0, .int (-1), []),
  (5, .istore_n 1, 1, 0, .null, []),
  (6, .iconst 0, 0, 0, .int 0, []),
  (7, .istore_n 2, 2, 0, .null, []),
  (8, .iload_n 2, 2, 0, .null, []),
  (9, .sipush 300, 0, 0, .int 300, []),
  (12, .if_icmp .gt 30, 22, 0, .null, []),
  (15, .iload_n 1, 1, 0, .null, []),
  (16, .ifCond .ge 26, 22, 0, .null, []),
  (19, .aload_n 0, 0, 0, .null, []),
  (20, .invokevirtual 163, 182, 0, .null, []),
  (23, .ifCond .ne 7, 16, 0, .null, []),
  (26, .iload_n 2, 2, 0, .null, []),
  (27, .goto 4, 17, 0, .null, []),
  (30, .iconst (-1), 0, 0, .int (-1), []),
  (31, .istore_n 1, 1, 0, .null, []),
  (32, .aload_n 0, 0, 0, .null, []),
  (33, .invokevirtual 178, 190, 0, .null, []),
  (36, .iinc 2 1, 2, 0, .null, []),
  (39, .goto (-31), 6, 0, .null, []),
  (42, .aload_n 0, 0, 0, .null, []),
  (43, .invokevirtual 193, 196, 0, .null, []),
  (46, .iload_n 1, 1, 0, .null, []),
  (47, .invokestatic 196, 144, 1, .null, []),
  (50, .ireturn, 0, 0, .null, [])])
def mX8_best : pM := (⟨RX8, "best", "(III)I"⟩, prog_10_method_58_code, 8, (some FieldType.int), 1, 8, [(0, .aload_n 0, 0, 0, .null, []),
  (1, .iload_n 1, 1, 0, .null, []),
  (2, .invokevirtual 109, 152, 1, .null, []),
  (5, .ifCond .eq 25, 16, 0, .null, []),
  (8, .iload_n 2, 2, 0, .null, []),
  (9, .i2l, 0, 0, .null, []),
  (10, .lconst 1, 0, 0, .long 1, []),
  (11, .ldc2_w 199, 0, 0, .long 60, []),
  (14, .invokestatic 68, 143, 3, .null, []),
  (17, .ifCond .eq 13, 16, 0, .null, []),
  (20, .iload_n 3, 3, 0, .null, []),
  (21, .i2l, 0, 0, .null, []),
  (22, .lconst 0, 0, 0, .long 0, []),
  (23, .lconst 1, 0, 0, .long 1, []),
  (24, .invokestatic 68, 143, 3, .null, []),
  (27, .ifCond .ne 6, 18, 0, .null, []),
  (30, .ldc 83, 0, 0, .int (-1000000001), []),
  (32, .ireturn, 0, 0, .null, []),
  (33, .aload_n 0, 0, 0, .null, []),
  (34, .invokevirtual 186, 195, 0, .null, []),
  (37, .iconst 0, 0, 0, .int 0, []),
  (38, .istore 4, 4, 0, .null, []),
  (40, .iconst (-1), 0, 0, .int (-1), []),
  (41, .istore 5, 5, 0, .null, []),
  (43, .iconst 0, 0, 0, .int 0, []),
  (44, .istore 6, 6, 0, .null, []),
  (46, .iload 6, 6, 0, .null, []),
  (48, .bipush 16, 0, 0, .int 16, []),
  (50, .if_icmp .ge 66, 60, 0, .null, []),
  (53, .aload_n 0, 0, 0, .null, []),
  (54, .iload_n 1, 1, 0, .null, []),
  (55, .iconst 4, 0, 0, .int 4, []),
  (56, .iload 6, 6, 0, .null, []),
  (58, .invokevirtual 73, 151, 3, .null, []),
  (61, .aload_n 0, 0, 0, .null, []),
  (62, .iload_n 2, 2, 0, .null, []),
  (63, .invokevirtual 189, 191, 1, .null, []),
  (66, .aload_n 0, 0, 0, .null, []),
  (67, .iload_n 1, 1, 0, .null, []),
  (68, .iconst 5, 0, 0, .int 5, []),
  (69, .invokevirtual 88, 150, 2, .null, []),
  (72, .istore 7, 7, 0, .null, []),
  (74, .aload_n 0, 0, 0, .null, []),
  (75, .invokevirtual 193, 196, 0, .null, []),
  (78, .iload 7, 7, 0, .null, []),
  (80, .iload 5, 5, 0, .null, []),
  (82, .if_icmp .le 8, 49, 0, .null, []),
  (85, .iload 6, 6, 0, .null, []),
  (87, .goto 5, 50, 0, .null, []),
  (90, .iload 4, 4, 0, .null, []),
  (92, .istore 4, 4, 0, .null, []),
  (94, .iload 7, 7, 0, .null, []),
  (96, .iload 5, 5, 0, .null, []),
  (98, .if_icmp .le 8, 56, 0, .null, []),
  (101, .iload 7, 7, 0, .null, []),
  (103, .goto 5, 57, 0, .null, []),
  (106, .iload 5, 5, 0, .null, []),
  (108, .istore 5, 5, 0, .null, []),
  (110, .iinc 6 1, 6, 0, .null, []),
  (113, .goto (-67), 26, 0, .null, []),
  (116, .iload_n 3, 3, 0, .null, []),
  (117, .ifCond .ne 8, 64, 0, .null, []),
  (120, .iload 4, 4, 0, .null, []),
  (122, .goto 5, 65, 0, .null, []),
  (125, .iload 5, 5, 0, .null, []),
  (127, .ireturn, 0, 0, .null, [])])
def mX8_taught : pM := (⟨RX8, "taught", "(II)I"⟩, prog_10_method_59_code, 7, (some FieldType.int), 1, 8, [(0, .iload_n 1, 1, 0, .null, []),
  (1, .i2l, 0, 0, .null, []),
  (2, .lconst 1, 0, 0, .long 1, []),
  (3, .ldc2_w 199, 0, 0, .long 60, []),
  (6, .invokestatic 68, 143, 3, .null, []),
  (9, .ifCond .eq 13, 12, 0, .null, []),
  (12, .iload_n 2, 2, 0, .null, []),
  (13, .i2l, 0, 0, .null, []),
  (14, .lconst 0, 0, 0, .long 0, []),
  (15, .lconst 1, 0, 0, .long 1, []),
  (16, .invokestatic 68, 143, 3, .null, []),
  (19, .ifCond .ne 6, 14, 0, .null, []),
  (22, .ldc 83, 0, 0, .int (-1000000001), []),
  (24, .ireturn, 0, 0, .null, []),
  (25, .aload_n 0, 0, 0, .null, []),
  (26, .invokevirtual 186, 195, 0, .null, []),
  (29, .iconst 0, 0, 0, .int 0, []),
  (30, .istore_n 3, 3, 0, .null, []),
  (31, .iconst (-1), 0, 0, .int (-1), []),
  (32, .istore 4, 4, 0, .null, []),
  (34, .iconst 0, 0, 0, .int 0, []),
  (35, .istore 5, 5, 0, .null, []),
  (37, .iload 5, 5, 0, .null, []),
  (39, .bipush 16, 0, 0, .int 16, []),
  (41, .if_icmp .ge 76, 65, 0, .null, []),
  (44, .aload_n 0, 0, 0, .null, []),
  (45, .getfield 7, 8, 0, .null, []),
  (48, .iconst 5, 0, 0, .int 5, []),
  (49, .iload 5, 5, 0, .null, []),
  (51, .iadd, 0, 0, .null, []),
  (52, .aload_n 0, 0, 0, .null, []),
  (53, .getfield 7, 8, 0, .null, []),
  (56, .iconst 5, 0, 0, .int 5, []),
  (57, .iload 5, 5, 0, .null, []),
  (59, .iadd, 0, 0, .null, []),
  (60, .iaload, 0, 0, .null, []),
  (61, .iconst 1, 0, 0, .int 1, []),
  (62, .iadd, 0, 0, .null, []),
  (63, .iconst 4, 0, 0, .int 4, []),
  (64, .irem, 0, 0, .null, []),
  (65, .iastore, 0, 0, .null, []),
  (66, .aload_n 0, 0, 0, .null, []),
  (67, .iload_n 1, 1, 0, .null, []),
  (68, .invokevirtual 189, 191, 1, .null, []),
  (71, .aload_n 0, 0, 0, .null, []),
  (72, .invokevirtual 183, 193, 0, .null, []),
  (75, .istore 6, 6, 0, .null, []),
  (77, .aload_n 0, 0, 0, .null, []),
  (78, .invokevirtual 193, 196, 0, .null, []),
  (81, .iload 6, 6, 0, .null, []),
  (83, .iload 4, 4, 0, .null, []),
  (85, .if_icmp .le 8, 54, 0, .null, []),
  (88, .iload 5, 5, 0, .null, []),
  (90, .goto 4, 55, 0, .null, []),
  (93, .iload_n 3, 3, 0, .null, []),
  (94, .istore_n 3, 3, 0, .null, []),
  (95, .iload 6, 6, 0, .null, []),
  (97, .iload 4, 4, 0, .null, []),
  (99, .if_icmp .le 8, 61, 0, .null, []),
  (102, .iload 6, 6, 0, .null, []),
  (104, .goto 5, 62, 0, .null, []),
  (107, .iload 4, 4, 0, .null, []),
  (109, .istore 4, 4, 0, .null, []),
  (111, .iinc 5 1, 5, 0, .null, []),
  (114, .goto (-77), 22, 0, .null, []),
  (117, .iload_n 2, 2, 0, .null, []),
  (118, .ifCond .ne 7, 69, 0, .null, []),
  (121, .iload_n 3, 3, 0, .null, []),
  (122, .goto 5, 70, 0, .null, []),
  (125, .iload 4, 4, 0, .null, []),
  (127, .ireturn, 0, 0, .null, [])])
def mX8_fee : pM := (⟨RX8, "fee", "()I"⟩, prog_10_method_60_code, 2, (some FieldType.int), 1, 8, [(0, .aload_n 0, 0, 0, .null, []),
  (1, .iconst 1, 0, 0, .int 1, []),
  (2, .invokevirtual 96, 222, 1, .null, []),
  (5, .istore_n 1, 1, 0, .null, []),
  (6, .iload_n 1, 1, 0, .null, []),
  (7, .ifCond .ge 10, 11, 0, .null, []),
  (10, .aload_n 0, 0, 0, .null, []),
  (11, .getfield 7, 8, 0, .null, []),
  (14, .iconst 3, 0, 0, .int 3, []),
  (15, .iaload, 0, 0, .null, []),
  (16, .ireturn, 0, 0, .null, []),
  (17, .aload_n 0, 0, 0, .null, []),
  (18, .getfield 52, 8, 26, .null, []),
  (21, .bipush 110, 0, 0, .int 110, []),
  (23, .aload_n 0, 0, 0, .null, []),
  (24, .getfield 7, 8, 0, .null, []),
  (27, .iconst 2, 0, 0, .int 2, []),
  (28, .iaload, 0, 0, .null, []),
  (29, .iastore, 0, 0, .null, []),
  (30, .aload_n 0, 0, 0, .null, []),
  (31, .getfield 52, 8, 26, .null, []),
  (34, .bipush 102, 0, 0, .int 102, []),
  (36, .aload_n 0, 0, 0, .null, []),
  (37, .getfield 7, 8, 0, .null, []),
  (40, .iconst 3, 0, 0, .int 3, []),
  (41, .iaload, 0, 0, .null, []),
  (42, .iastore, 0, 0, .null, []),
  (43, .aload_n 0, 0, 0, .null, []),
  (44, .iload_n 1, 1, 0, .null, []),
  (45, .invokevirtual 99, 225, 1, .null, []),
  (48, .ireturn, 0, 0, .null, [])])
def mX8_fine : pM := (⟨RX8, "fine", "(I)I"⟩, prog_10_method_61_code, 3, (some FieldType.int), 1, 8, [(0, .aload_n 0, 0, 0, .null, []),
  (1, .iload_n 1, 1, 0, .null, []),
  (2, .invokevirtual 109, 152, 1, .null, []),
  (5, .ifCond .ne 6, 6, 0, .null, []),
  (8, .ldc 83, 0, 0, .int (-1000000001), []),
  (10, .ireturn, 0, 0, .null, []),
  (11, .aload_n 0, 0, 0, .null, []),
  (12, .iconst 2, 0, 0, .int 2, []),
  (13, .invokevirtual 96, 222, 1, .null, []),
  (16, .istore_n 2, 2, 0, .null, []),
  (17, .iload_n 2, 2, 0, .null, []),
  (18, .ifCond .ge 10, 17, 0, .null, []),
  (21, .aload_n 0, 0, 0, .null, []),
  (22, .iload_n 1, 1, 0, .null, []),
  (23, .iconst 5, 0, 0, .int 5, []),
  (24, .invokevirtual 88, 150, 2, .null, []),
  (27, .ireturn, 0, 0, .null, []),
  (28, .aload_n 0, 0, 0, .null, []),
  (29, .getfield 52, 8, 26, .null, []),
  (32, .bipush 116, 0, 0, .int 116, []),
  (34, .aload_n 0, 0, 0, .null, []),
  (35, .iload_n 1, 1, 0, .null, []),
  (36, .iconst 5, 0, 0, .int 5, []),
  (37, .invokevirtual 88, 150, 2, .null, []),
  (40, .iastore, 0, 0, .null, []),
  (41, .aload_n 0, 0, 0, .null, []),
  (42, .getfield 52, 8, 26, .null, []),
  (45, .bipush 115, 0, 0, .int 115, []),
  (47, .aload_n 0, 0, 0, .null, []),
  (48, .iload_n 1, 1, 0, .null, []),
  (49, .iconst 2, 0, 0, .int 2, []),
  (50, .invokevirtual 88, 150, 2, .null, []),
  (53, .iastore, 0, 0, .null, []),
  (54, .aload_n 0, 0, 0, .null, []),
  (55, .iload_n 2, 2, 0, .null, []),
  (56, .invokevirtual 99, 225, 1, .null, []),
  (59, .ireturn, 0, 0, .null, [])])
def mX8_feed : pM := (⟨RX8, "feed", "(III)I"⟩, prog_10_method_62_code, 6, (some FieldType.int), 1, 8, [(0, .aload_n 0, 0, 0, .null, []),
  (1, .getfield 201, 8, 15, .null, []),
  (4, .bipush 12, 0, 0, .int 12, []),
  (6, .iadd, 0, 0, .null, []),
  (7, .bipush 96, 0, 0, .int 96, []),
  (9, .if_icmp .le 6, 8, 0, .null, []),
  (12, .ldc 84, 0, 0, .int (-1000000003), []),
  (14, .ireturn, 0, 0, .null, []),
  (15, .iconst 0, 0, 0, .int 0, []),
  (16, .istore 4, 4, 0, .null, []),
  (18, .iload 4, 4, 0, .null, []),
  (20, .bipush 12, 0, 0, .int 12, []),
  (22, .if_icmp .ge 69, 49, 0, .null, []),
  (25, .iload 4, 4, 0, .null, []),
  (27, .iconst 4, 0, 0, .int 4, []),
  (28, .if_icmp .ge 7, 18, 0, .null, []),
  (31, .iload_n 1, 1, 0, .null, []),
  (32, .goto 15, 24, 0, .null, []),
  (35, .iload 4, 4, 0, .null, []),
  (37, .bipush 8, 0, 0, .int 8, []),
  (39, .if_icmp .ge 7, 23, 0, .null, []),
  (42, .iload_n 2, 2, 0, .null, []),
  (43, .goto 4, 24, 0, .null, []),
  (46, .iload_n 3, 3, 0, .null, []),
  (47, .istore 5, 5, 0, .null, []),
  (49, .aload_n 0, 0, 0, .null, []),
  (50, .getfield 49, 8, 14, .null, []),
  (53, .aload_n 0, 0, 0, .null, []),
  (54, .getfield 201, 8, 15, .null, []),
  (57, .iload 5, 5, 0, .null, []),
  (59, .bipush 24, 0, 0, .int 24, []),
  (61, .bipush 8, 0, 0, .int 8, []),
  (63, .iload 4, 4, 0, .null, []),
  (65, .iconst 4, 0, 0, .int 4, []),
  (66, .irem, 0, 0, .null, []),
  (67, .imul, 0, 0, .null, []),
  (68, .isub, 0, 0, .null, []),
  (69, .ishr, 0, 0, .null, []),
  (70, .sipush 255, 0, 0, .int 255, []),
  (73, .iand, 0, 0, .null, []),
  (74, .iastore, 0, 0, .null, []),
  (75, .aload_n 0, 0, 0, .null, []),
  (76, .dup, 0, 0, .null, []),
  (77, .getfield 201, 8, 15, .null, []),
  (80, .iconst 1, 0, 0, .int 1, []),
  (81, .iadd, 0, 0, .null, []),
  (82, .putfield 201, 8, 15, .null, []),
  (85, .iinc 4 1, 4, 0, .null, []),
  (88, .goto (-70), 10, 0, .null, []),
  (91, .aload_n 0, 0, 0, .null, []),
  (92, .getfield 201, 8, 15, .null, []),
  (95, .ireturn, 0, 0, .null, [])])
def mX8_trim : pM := (⟨RX8, "trim", "(I)I"⟩, prog_10_method_63_code, 2, (some FieldType.int), 1, 8, [(0, .iload_n 1, 1, 0, .null, []),
  (1, .i2l, 0, 0, .null, []),
  (2, .lconst 0, 0, 0, .long 0, []),
  (3, .aload_n 0, 0, 0, .null, []),
  (4, .getfield 201, 8, 15, .null, []),
  (7, .i2l, 0, 0, .null, []),
  (8, .invokestatic 68, 143, 3, .null, []),
  (11, .ifCond .ne 6, 10, 0, .null, []),
  (14, .ldc 83, 0, 0, .int (-1000000001), []),
  (16, .ireturn, 0, 0, .null, []),
  (17, .aload_n 0, 0, 0, .null, []),
  (18, .iload_n 1, 1, 0, .null, []),
  (19, .putfield 201, 8, 15, .null, []),
  (22, .iload_n 1, 1, 0, .null, []),
  (23, .ireturn, 0, 0, .null, [])])
def mX8_isLetter : pM := (⟨RX8, "isLetter", "(I)Z"⟩, prog_10_method_64_code, 2, (some FieldType.boolean), 1, 8, [(0, .iload_n 1, 1, 0, .null, []),
  (1, .aload_n 0, 0, 0, .null, []),
  (2, .getfield 201, 8, 15, .null, []),
  (5, .if_icmp .ge 26, 15, 0, .null, []),
  (8, .aload_n 0, 0, 0, .null, []),
  (9, .getfield 49, 8, 14, .null, []),
  (12, .iload_n 1, 1, 0, .null, []),
  (13, .iaload, 0, 0, .null, []),
  (14, .i2l, 0, 0, .null, []),
  (15, .ldc2_w 205, 0, 0, .long 97, []),
  (18, .ldc2_w 207, 0, 0, .long 122, []),
  (21, .invokestatic 68, 143, 3, .null, []),
  (24, .ifCond .eq 7, 15, 0, .null, []),
  (27, .iconst 1, 0, 0, .int 1, []),
  (28, .goto 4, 16, 0, .null, []),
  (31, .iconst 0, 0, 0, .int 0, []),
  (32, .ireturn, 0, 0, .null, [])])
def mX8_isDigit : pM := (⟨RX8, "isDigit", "(I)Z"⟩, prog_10_method_65_code, 2, (some FieldType.boolean), 1, 8, [(0, .iload_n 1, 1, 0, .null, []),
  (1, .aload_n 0, 0, 0, .null, []),
  (2, .getfield 201, 8, 15, .null, []),
  (5, .if_icmp .ge 26, 15, 0, .null, []),
  (8, .aload_n 0, 0, 0, .null, []),
  (9, .getfield 49, 8, 14, .null, []),
  (12, .iload_n 1, 1, 0, .null, []),
  (13, .iaload, 0, 0, .null, []),
  (14, .i2l, 0, 0, .null, []),
  (15, .ldc2_w 209, 0, 0, .long 48, []),
  (18, .ldc2_w 211, 0, 0, .long 57, []),
  (21, .invokestatic 68, 143, 3, .null, []),
  (24, .ifCond .eq 7, 15, 0, .null, []),
  (27, .iconst 1, 0, 0, .int 1, []),
  (28, .goto 4, 16, 0, .null, []),
  (31, .iconst 0, 0, 0, .int 0, []),
  (32, .ireturn, 0, 0, .null, [])])
def mX8_nextToken : pM := (⟨RX8, "nextToken", "()V"⟩, prog_10_method_66_code, 3, none, 1, 8, [(0, .aload_n 0, 0, 0, .null, []),
  (1, .getfield 213, 8, 17, .null, []),
  (4, .ifCond .le 23, 13, 0, .null, []),
  (7, .aload_n 0, 0, 0, .null, []),
  (8, .getfield 216, 8, 18, .null, []),
  (11, .iconst 1, 0, 0, .int 1, []),
  (12, .if_icmp .eq 11, 11, 0, .null, []),
  (15, .aload_n 0, 0, 0, .null, []),
  (16, .getfield 216, 8, 18, .null, []),
  (19, .iconst 2, 0, 0, .int 2, []),
  (20, .if_icmp .ne 7, 13, 0, .null, []),
  (23, .iconst 1, 0, 0, .int 1, []),
  (24, .goto 4, 14, 0, .null, []),
  (27, .iconst 0, 0, 0, .int 0, []),
  (28, .istore_n 1, 1, 0, .null, []),
  (29, .aload_n 0, 0, 0, .null, []),
  (30, .getfield 213, 8, 17, .null, []),
  (33, .istore_n 2, 2, 0, .null, []),
  (34, .aload_n 0, 0, 0, .null, []),
  (35, .getfield 213, 8, 17, .null, []),
  (38, .aload_n 0, 0, 0, .null, []),
  (39, .getfield 201, 8, 15, .null, []),
  (42, .if_icmp .ge 30, 37, 0, .null, []),
  (45, .aload_n 0, 0, 0, .null, []),
  (46, .getfield 49, 8, 14, .null, []),
  (49, .aload_n 0, 0, 0, .null, []),
  (50, .getfield 213, 8, 17, .null, []),
  (53, .iaload, 0, 0, .null, []),
  (54, .bipush 32, 0, 0, .int 32, []),
  (56, .if_icmp .ne 16, 37, 0, .null, []),
  (59, .aload_n 0, 0, 0, .null, []),
  (60, .dup, 0, 0, .null, []),
  (61, .getfield 213, 8, 17, .null, []),
  (64, .iconst 1, 0, 0, .int 1, []),
  (65, .iadd, 0, 0, .null, []),
  (66, .putfield 213, 8, 17, .null, []),
  (69, .goto (-35), 18, 0, .null, []),
  (72, .iload_n 1, 1, 0, .null, []),
  (73, .ifCond .eq 15, 45, 0, .null, []),
  (76, .iload_n 2, 2, 0, .null, []),
  (77, .aload_n 0, 0, 0, .null, []),
  (78, .getfield 213, 8, 17, .null, []),
  (81, .if_icmp .ne 7, 45, 0, .null, []),
  (84, .iconst 1, 0, 0, .int 1, []),
  (85, .goto 4, 46, 0, .null, []),
  (88, .iconst 0, 0, 0, .int 0, []),
  (89, .istore_n 1, 1, 0, .null, []),
  (90, .aload_n 0, 0, 0, .null, []),
  (91, .aload_n 0, 0, 0, .null, []),
  (92, .getfield 213, 8, 17, .null, []),
  (95, .putfield 219, 8, 16, .null, []),
  (98, .aload_n 0, 0, 0, .null, []),
  (99, .getfield 219, 8, 16, .null, []),
  (102, .aload_n 0, 0, 0, .null, []),
  (103, .getfield 201, 8, 15, .null, []),
  (106, .if_icmp .ne 11, 60, 0, .null, []),
  (109, .aload_n 0, 0, 0, .null, []),
  (110, .iconst 0, 0, 0, .int 0, []),
  (111, .putfield 216, 8, 18, .null, []),
  (114, .goto 225, 176, 0, .null, []),
  (117, .aload_n 0, 0, 0, .null, []),
  (118, .aload_n 0, 0, 0, .null, []),
  (119, .getfield 219, 8, 16, .null, []),
  (122, .invokevirtual 222, 205, 1, .null, []),
  (125, .ifCond .eq 73, 101, 0, .null, []),
  (128, .aload_n 0, 0, 0, .null, []),
  (129, .aload_n 0, 0, 0, .null, []),
  (130, .getfield 213, 8, 17, .null, []),
  (133, .invokevirtual 222, 205, 1, .null, []),
  (136, .ifCond .eq 16, 77, 0, .null, []),
  (139, .aload_n 0, 0, 0, .null, []),
  (140, .dup, 0, 0, .null, []),
  (141, .getfield 213, 8, 17, .null, []),
  (144, .iconst 1, 0, 0, .int 1, []),
  (145, .iadd, 0, 0, .null, []),
  (146, .putfield 213, 8, 17, .null, []),
  (149, .goto (-21), 65, 0, .null, []),
  (152, .aload_n 0, 0, 0, .null, []),
  (153, .iload_n 1, 1, 0, .null, []),
  (154, .ifCond .eq 7, 82, 0, .null, []),
  (157, .iconst 4, 0, 0, .int 4, []),
  (158, .goto 4, 83, 0, .null, []),
  (161, .iconst 1, 0, 0, .int 1, []),
  (162, .putfield 216, 8, 18, .null, []),
  (165, .aload_n 0, 0, 0, .null, []),
  (166, .aload_n 0, 0, 0, .null, []),
  (167, .getfield 213, 8, 17, .null, []),
  (170, .aload_n 0, 0, 0, .null, []),
  (171, .getfield 219, 8, 16, .null, []),
  (174, .isub, 0, 0, .null, []),
  (175, .iconst 1, 0, 0, .int 1, []),
  (176, .if_icmp .ne 15, 98, 0, .null, []),
  (179, .aload_n 0, 0, 0, .null, []),
  (180, .getfield 49, 8, 14, .null, []),
  (183, .aload_n 0, 0, 0, .null, []),
  (184, .getfield 219, 8, 16, .null, []),
  (187, .iaload, 0, 0, .null, []),
  (188, .goto 4, 99, 0, .null, []),
  (191, .iconst 0, 0, 0, .int 0, []),
  (192, .putfield 225, 8, 20, .null, []),
  (195, .goto 144, 176, 0, .null, []),
  (198, .aload_n 0, 0, 0, .null, []),
  (199, .aload_n 0, 0, 0, .null, []),
  (200, .getfield 219, 8, 16, .null, []),
  (203, .invokevirtual 228, 206, 1, .null, []),
  (206, .ifCond .eq 105, 160, 0, .null, []),
  (209, .aload_n 0, 0, 0, .null, []),
  (210, .iconst 0, 0, 0, .int 0, []),
  (211, .putfield 231, 8, 19, .null, []),
  (214, .aload_n 0, 0, 0, .null, []),
  (215, .aload_n 0, 0, 0, .null, []),
  (216, .getfield 213, 8, 17, .null, []),
  (219, .invokevirtual 228, 206, 1, .null, []),
  (222, .ifCond .eq 60, 145, 0, .null, []),
  (225, .aload_n 0, 0, 0, .null, []),
  (226, .aload_n 0, 0, 0, .null, []),
  (227, .getfield 213, 8, 17, .null, []),
  (230, .aload_n 0, 0, 0, .null, []),
  (231, .getfield 219, 8, 16, .null, []),
  (234, .isub, 0, 0, .null, []),
  (235, .iconst 4, 0, 0, .int 4, []),
  (236, .if_icmp .ge 26, 135, 0, .null, []),
  (239, .bipush 10, 0, 0, .int 10, []),
  (241, .aload_n 0, 0, 0, .null, []),
  (242, .getfield 231, 8, 19, .null, []),
  (245, .imul, 0, 0, .null, []),
  (246, .aload_n 0, 0, 0, .null, []),
  (247, .getfield 49, 8, 14, .null, []),
  (250, .aload_n 0, 0, 0, .null, []),
  (251, .getfield 213, 8, 17, .null, []),
  (254, .iaload, 0, 0, .null, []),
  (255, .iadd, 0, 0, .null, []),
  (256, .bipush 48, 0, 0, .int 48, []),
  (258, .isub, 0, 0, .null, []),
  (259, .goto 7, 137, 0, .null, []),
  (262, .aload_n 0, 0, 0, .null, []),
  (263, .getfield 231, 8, 19, .null, []),
  (266, .putfield 231, 8, 19, .null, []),
  (269, .aload_n 0, 0, 0, .null, []),
  (270, .dup, 0, 0, .null, []),
  (271, .getfield 213, 8, 17, .null, []),
  (274, .iconst 1, 0, 0, .int 1, []),
  (275, .iadd, 0, 0, .null, []),
  (276, .putfield 213, 8, 17, .null, []),
  (279, .goto (-65), 109, 0, .null, []),
  (282, .aload_n 0, 0, 0, .null, []),
  (283, .iload_n 1, 1, 0, .null, []),
  (284, .ifCond .ne 16, 155, 0, .null, []),
  (287, .aload_n 0, 0, 0, .null, []),
  (288, .getfield 213, 8, 17, .null, []),
  (291, .aload_n 0, 0, 0, .null, []),
  (292, .getfield 219, 8, 16, .null, []),
  (295, .isub, 0, 0, .null, []),
  (296, .iconst 4, 0, 0, .int 4, []),
  (297, .if_icmp .le 7, 157, 0, .null, []),
  (300, .iconst 4, 0, 0, .int 4, []),
  (301, .goto 4, 158, 0, .null, []),
  (304, .iconst 2, 0, 0, .int 2, []),
  (305, .putfield 216, 8, 18, .null, []),
  (308, .goto 31, 176, 0, .null, []),
  (311, .aload_n 0, 0, 0, .null, []),
  (312, .iconst 3, 0, 0, .int 3, []),
  (313, .putfield 216, 8, 18, .null, []),
  (316, .aload_n 0, 0, 0, .null, []),
  (317, .aload_n 0, 0, 0, .null, []),
  (318, .getfield 49, 8, 14, .null, []),
  (321, .aload_n 0, 0, 0, .null, []),
  (322, .getfield 219, 8, 16, .null, []),
  (325, .iaload, 0, 0, .null, []),
  (326, .putfield 225, 8, 20, .null, []),
  (329, .aload_n 0, 0, 0, .null, []),
  (330, .dup, 0, 0, .null, []),
  (331, .getfield 213, 8, 17, .null, []),
  (334, .iconst 1, 0, 0, .int 1, []),
  (335, .iadd, 0, 0, .null, []),
  (336, .putfield 213, 8, 17, .null, []),
  (339, .return_, 0, 0, .null, [])])
def mX8_isSign : pM := (⟨RX8, "isSign", "(I)Z"⟩, prog_10_method_67_code, 2, (some FieldType.boolean), 1, 8, [(0, .aload_n 0, 0, 0, .null, []),
  (1, .getfield 216, 8, 18, .null, []),
  (4, .iconst 3, 0, 0, .int 3, []),
  (5, .if_icmp .ne 15, 10, 0, .null, []),
  (8, .aload_n 0, 0, 0, .null, []),
  (9, .getfield 225, 8, 20, .null, []),
  (12, .iload_n 1, 1, 0, .null, []),
  (13, .if_icmp .ne 7, 10, 0, .null, []),
  (16, .iconst 1, 0, 0, .int 1, []),
  (17, .goto 4, 11, 0, .null, []),
  (20, .iconst 0, 0, 0, .int 0, []),
  (21, .ireturn, 0, 0, .null, [])])
def mX8_isWordAt : pM := (⟨RX8, "isWordAt", "(IIII)Z"⟩, prog_10_method_68_code, 6, (some FieldType.boolean), 1, 8, [(0, .iload 4, 4, 0, .null, []),
  (2, .ifCond .ne 7, 4, 0, .null, []),
  (5, .iconst 3, 0, 0, .int 3, []),
  (6, .goto 4, 5, 0, .null, []),
  (9, .iconst 4, 0, 0, .int 4, []),
  (10, .istore 5, 5, 0, .null, []),
  (12, .aload_n 0, 0, 0, .null, []),
  (13, .getfield 216, 8, 18, .null, []),
  (16, .iconst 1, 0, 0, .int 1, []),
  (17, .if_icmp .ne 85, 55, 0, .null, []),
  (20, .aload_n 0, 0, 0, .null, []),
  (21, .getfield 213, 8, 17, .null, []),
  (24, .aload_n 0, 0, 0, .null, []),
  (25, .getfield 219, 8, 16, .null, []),
  (28, .isub, 0, 0, .null, []),
  (29, .iload 5, 5, 0, .null, []),
  (31, .if_icmp .ne 71, 55, 0, .null, []),
  (34, .aload_n 0, 0, 0, .null, []),
  (35, .getfield 49, 8, 14, .null, []),
  (38, .aload_n 0, 0, 0, .null, []),
  (39, .getfield 219, 8, 16, .null, []),
  (42, .iaload, 0, 0, .null, []),
  (43, .iload_n 1, 1, 0, .null, []),
  (44, .if_icmp .ne 58, 55, 0, .null, []),
  (47, .aload_n 0, 0, 0, .null, []),
  (48, .getfield 49, 8, 14, .null, []),
  (51, .aload_n 0, 0, 0, .null, []),
  (52, .getfield 219, 8, 16, .null, []),
  (55, .iconst 1, 0, 0, .int 1, []),
  (56, .iadd, 0, 0, .null, []),
  (57, .iaload, 0, 0, .null, []),
  (58, .iload_n 2, 2, 0, .null, []),
  (59, .if_icmp .ne 43, 55, 0, .null, []),
  (62, .aload_n 0, 0, 0, .null, []),
  (63, .getfield 49, 8, 14, .null, []),
  (66, .aload_n 0, 0, 0, .null, []),
  (67, .getfield 219, 8, 16, .null, []),
  (70, .iconst 2, 0, 0, .int 2, []),
  (71, .iadd, 0, 0, .null, []),
  (72, .iaload, 0, 0, .null, []),
  (73, .iload_n 3, 3, 0, .null, []),
  (74, .if_icmp .ne 28, 55, 0, .null, []),
  (77, .iload 4, 4, 0, .null, []),
  (79, .ifCond .eq 19, 53, 0, .null, []),
  (82, .aload_n 0, 0, 0, .null, []),
  (83, .getfield 49, 8, 14, .null, []),
  (86, .aload_n 0, 0, 0, .null, []),
  (87, .getfield 219, 8, 16, .null, []),
  (90, .iconst 3, 0, 0, .int 3, []),
  (91, .iadd, 0, 0, .null, []),
  (92, .iaload, 0, 0, .null, []),
  (93, .iload 4, 4, 0, .null, []),
  (95, .if_icmp .ne 7, 55, 0, .null, []),
  (98, .iconst 1, 0, 0, .int 1, []),
  (99, .goto 4, 56, 0, .null, []),
  (102, .iconst 0, 0, 0, .int 0, []),
  (103, .ireturn, 0, 0, .null, [])])
def mX8_key : pM := (⟨RX8, "key", "()I"⟩, prog_10_method_69_code, 1, (some FieldType.int), 1, 8, [(0, .aload_n 0, 0, 0, .null, []),
  (1, .bipush 103, 0, 0, .int 103, []),
  (3, .bipush 97, 0, 0, .int 97, []),
  (5, .bipush 105, 0, 0, .int 105, []),
  (7, .bipush 110, 0, 0, .int 110, []),
  (9, .invokevirtual 234, 209, 4, .null, []),
  (12, .ifCond .eq 5, 9, 0, .null, []),
  (15, .iconst 0, 0, 0, .int 0, []),
  (16, .ireturn, 0, 0, .null, []),
  (17, .aload_n 0, 0, 0, .null, []),
  (18, .bipush 102, 0, 0, .int 102, []),
  (20, .bipush 101, 0, 0, .int 101, []),
  (22, .bipush 101, 0, 0, .int 101, []),
  (24, .iconst 0, 0, 0, .int 0, []),
  (25, .invokevirtual 234, 209, 4, .null, []),
  (28, .ifCond .eq 5, 18, 0, .null, []),
  (31, .iconst 1, 0, 0, .int 1, []),
  (32, .ireturn, 0, 0, .null, []),
  (33, .aload_n 0, 0, 0, .null, []),
  (34, .bipush 102, 0, 0, .int 102, []),
  (36, .bipush 105, 0, 0, .int 105, []),
  (38, .bipush 110, 0, 0, .int 110, []),
  (40, .bipush 101, 0, 0, .int 101, []),
  (42, .invokevirtual 234, 209, 4, .null, []),
  (45, .ifCond .eq 7, 27, 0, .null, []),
  (48, .iconst 2, 0, 0, .int 2, []),
  (49, .goto 4, 28, 0, .null, []),
  (52, .iconst (-1), 0, 0, .int (-1), []),
  (53, .ireturn, 0, 0, .null, [])])
def mX8_isName : pM := (⟨RX8, "isName", "(II)Z"⟩, prog_10_method_70_code, 2, (some FieldType.boolean), 0, 8, [(0, .iload_n 0, 0, 0, .null, []),
  (1, .lookupswitch 69 #[(0, 27), (1, 51)], 25, 27, .null, [2, 15]),
  (28, .iload_n 1, 1, 0, .null, []),
  (29, .bipush 116, 0, 0, .int 116, []),
  (31, .if_icmp .eq 15, 11, 0, .null, []),
  (34, .iload_n 1, 1, 0, .null, []),
  (35, .bipush 115, 0, 0, .int 115, []),
  (37, .if_icmp .eq 9, 11, 0, .null, []),
  (40, .iload_n 1, 1, 0, .null, []),
  (41, .bipush 108, 0, 0, .int 108, []),
  (43, .if_icmp .ne 7, 13, 0, .null, []),
  (46, .iconst 1, 0, 0, .int 1, []),
  (47, .goto 4, 14, 0, .null, []),
  (50, .iconst 0, 0, 0, .int 0, []),
  (51, .ireturn, 0, 0, .null, []),
  (52, .iload_n 1, 1, 0, .null, []),
  (53, .bipush 110, 0, 0, .int 110, []),
  (55, .if_icmp .eq 9, 21, 0, .null, []),
  (58, .iload_n 1, 1, 0, .null, []),
  (59, .bipush 102, 0, 0, .int 102, []),
  (61, .if_icmp .ne 7, 23, 0, .null, []),
  (64, .iconst 1, 0, 0, .int 1, []),
  (65, .goto 4, 24, 0, .null, []),
  (68, .iconst 0, 0, 0, .int 0, []),
  (69, .ireturn, 0, 0, .null, []),
  (70, .iload_n 1, 1, 0, .null, []),
  (71, .bipush 116, 0, 0, .int 116, []),
  (73, .if_icmp .eq 9, 31, 0, .null, []),
  (76, .iload_n 1, 1, 0, .null, []),
  (77, .bipush 115, 0, 0, .int 115, []),
  (79, .if_icmp .ne 7, 33, 0, .null, []),
  (82, .iconst 1, 0, 0, .int 1, []),
  (83, .goto 4, 34, 0, .null, []),
  (86, .iconst 0, 0, 0, .int 0, []),
  (87, .ireturn, 0, 0, .null, [])])
def mX8_step : pM := (⟨RX8, "step", "(II)V"⟩, prog_10_method_71_code, 3, none, 1, 8, [(0, .aload_n 0, 0, 0, .null, []),
  (1, .getfield 7, 8, 0, .null, []),
  (4, .aload_n 0, 0, 0, .null, []),
  (5, .getfield 238, 8, 24, .null, []),
  (8, .iconst 2, 0, 0, .int 2, []),
  (9, .aload_n 0, 0, 0, .null, []),
  (10, .getfield 241, 8, 23, .null, []),
  (13, .imul, 0, 0, .null, []),
  (14, .iadd, 0, 0, .null, []),
  (15, .iload_n 1, 1, 0, .null, []),
  (16, .iastore, 0, 0, .null, []),
  (17, .aload_n 0, 0, 0, .null, []),
  (18, .getfield 7, 8, 0, .null, []),
  (21, .aload_n 0, 0, 0, .null, []),
  (22, .getfield 238, 8, 24, .null, []),
  (25, .iconst 2, 0, 0, .int 2, []),
  (26, .aload_n 0, 0, 0, .null, []),
  (27, .getfield 241, 8, 23, .null, []),
  (30, .imul, 0, 0, .null, []),
  (31, .iadd, 0, 0, .null, []),
  (32, .iconst 1, 0, 0, .int 1, []),
  (33, .iadd, 0, 0, .null, []),
  (34, .iload_n 2, 2, 0, .null, []),
  (35, .iastore, 0, 0, .null, []),
  (36, .aload_n 0, 0, 0, .null, []),
  (37, .dup, 0, 0, .null, []),
  (38, .getfield 241, 8, 23, .null, []),
  (41, .iconst 1, 0, 0, .int 1, []),
  (42, .iadd, 0, 0, .null, []),
  (43, .putfield 241, 8, 23, .null, []),
  (46, .return_, 0, 0, .null, [])])
def mX8_either : pM := (⟨RX8, "either", "(I)Z"⟩, prog_10_method_72_code, 2, (some FieldType.boolean), 1, 8, [(0, .aload_n 0, 0, 0, .null, []),
  (1, .iload_n 1, 1, 0, .null, []),
  (2, .invokevirtual 244, 214, 1, .null, []),
  (5, .ifCond .ne 5, 6, 0, .null, []),
  (8, .iconst 0, 0, 0, .int 0, []),
  (9, .ireturn, 0, 0, .null, []),
  (10, .aload_n 0, 0, 0, .null, []),
  (11, .bipush 124, 0, 0, .int 124, []),
  (13, .invokevirtual 247, 208, 1, .null, []),
  (16, .ifCond .eq 27, 23, 0, .null, []),
  (19, .aload_n 0, 0, 0, .null, []),
  (20, .invokevirtual 250, 207, 0, .null, []),
  (23, .aload_n 0, 0, 0, .null, []),
  (24, .iload_n 1, 1, 0, .null, []),
  (25, .invokevirtual 244, 214, 1, .null, []),
  (28, .ifCond .ne 5, 18, 0, .null, []),
  (31, .iconst 0, 0, 0, .int 0, []),
  (32, .ireturn, 0, 0, .null, []),
  (33, .aload_n 0, 0, 0, .null, []),
  (34, .iconst 2, 0, 0, .int 2, []),
  (35, .bipush 124, 0, 0, .int 124, []),
  (37, .invokevirtual 253, 212, 2, .null, []),
  (40, .goto (-30), 6, 0, .null, []),
  (43, .iconst 1, 0, 0, .int 1, []),
  (44, .ireturn, 0, 0, .null, [])])
def mX8_both : pM := (⟨RX8, "both", "(I)Z"⟩, prog_10_method_73_code, 2, (some FieldType.boolean), 1, 8, [(0, .aload_n 0, 0, 0, .null, []),
  (1, .iload_n 1, 1, 0, .null, []),
  (2, .invokevirtual 257, 215, 1, .null, []),
  (5, .ifCond .ne 5, 6, 0, .null, []),
  (8, .iconst 0, 0, 0, .int 0, []),
  (9, .ireturn, 0, 0, .null, []),
  (10, .aload_n 0, 0, 0, .null, []),
  (11, .bipush 38, 0, 0, .int 38, []),
  (13, .invokevirtual 247, 208, 1, .null, []),
  (16, .ifCond .eq 27, 23, 0, .null, []),
  (19, .aload_n 0, 0, 0, .null, []),
  (20, .invokevirtual 250, 207, 0, .null, []),
  (23, .aload_n 0, 0, 0, .null, []),
  (24, .iload_n 1, 1, 0, .null, []),
  (25, .invokevirtual 257, 215, 1, .null, []),
  (28, .ifCond .ne 5, 18, 0, .null, []),
  (31, .iconst 0, 0, 0, .int 0, []),
  (32, .ireturn, 0, 0, .null, []),
  (33, .aload_n 0, 0, 0, .null, []),
  (34, .iconst 2, 0, 0, .int 2, []),
  (35, .bipush 38, 0, 0, .int 38, []),
  (37, .invokevirtual 253, 212, 2, .null, []),
  (40, .goto (-30), 6, 0, .null, []),
  (43, .iconst 1, 0, 0, .int 1, []),
  (44, .ireturn, 0, 0, .null, [])])
def mX8_test : pM := (⟨RX8, "test", "(I)Z"⟩, prog_10_method_74_code, 3, (some FieldType.boolean), 1, 8, [(0, .aload_n 0, 0, 0, .null, []),
  (1, .iload_n 1, 1, 0, .null, []),
  (2, .invokevirtual 260, 216, 1, .null, []),
  (5, .ifCond .ne 5, 6, 0, .null, []),
  (8, .iconst 0, 0, 0, .int 0, []),
  (9, .ireturn, 0, 0, .null, []),
  (10, .aload_n 0, 0, 0, .null, []),
  (11, .bipush 60, 0, 0, .int 60, []),
  (13, .invokevirtual 247, 208, 1, .null, []),
  (16, .ifCond .ne 21, 18, 0, .null, []),
  (19, .aload_n 0, 0, 0, .null, []),
  (20, .bipush 61, 0, 0, .int 61, []),
  (22, .invokevirtual 247, 208, 1, .null, []),
  (25, .ifCond .ne 12, 18, 0, .null, []),
  (28, .aload_n 0, 0, 0, .null, []),
  (29, .bipush 62, 0, 0, .int 62, []),
  (31, .invokevirtual 247, 208, 1, .null, []),
  (34, .ifCond .eq 28, 33, 0, .null, []),
  (37, .aload_n 0, 0, 0, .null, []),
  (38, .getfield 225, 8, 20, .null, []),
  (41, .istore_n 2, 2, 0, .null, []),
  (42, .aload_n 0, 0, 0, .null, []),
  (43, .invokevirtual 250, 207, 0, .null, []),
  (46, .aload_n 0, 0, 0, .null, []),
  (47, .iload_n 1, 1, 0, .null, []),
  (48, .invokevirtual 260, 216, 1, .null, []),
  (51, .ifCond .ne 5, 29, 0, .null, []),
  (54, .iconst 0, 0, 0, .int 0, []),
  (55, .ireturn, 0, 0, .null, []),
  (56, .aload_n 0, 0, 0, .null, []),
  (57, .iconst 2, 0, 0, .int 2, []),
  (58, .iload_n 2, 2, 0, .null, []),
  (59, .invokevirtual 253, 212, 2, .null, []),
  (62, .iconst 1, 0, 0, .int 1, []),
  (63, .ireturn, 0, 0, .null, [])])
def mX8_sum : pM := (⟨RX8, "sum", "(I)Z"⟩, prog_10_method_75_code, 3, (some FieldType.boolean), 1, 8, [(0, .aload_n 0, 0, 0, .null, []),
  (1, .iload_n 1, 1, 0, .null, []),
  (2, .invokevirtual 263, 217, 1, .null, []),
  (5, .ifCond .ne 5, 6, 0, .null, []),
  (8, .iconst 0, 0, 0, .int 0, []),
  (9, .ireturn, 0, 0, .null, []),
  (10, .aload_n 0, 0, 0, .null, []),
  (11, .bipush 43, 0, 0, .int 43, []),
  (13, .invokevirtual 247, 208, 1, .null, []),
  (16, .ifCond .ne 12, 14, 0, .null, []),
  (19, .aload_n 0, 0, 0, .null, []),
  (20, .bipush 45, 0, 0, .int 45, []),
  (22, .invokevirtual 247, 208, 1, .null, []),
  (25, .ifCond .eq 31, 30, 0, .null, []),
  (28, .aload_n 0, 0, 0, .null, []),
  (29, .getfield 225, 8, 20, .null, []),
  (32, .istore_n 2, 2, 0, .null, []),
  (33, .aload_n 0, 0, 0, .null, []),
  (34, .invokevirtual 250, 207, 0, .null, []),
  (37, .aload_n 0, 0, 0, .null, []),
  (38, .iload_n 1, 1, 0, .null, []),
  (39, .invokevirtual 263, 217, 1, .null, []),
  (42, .ifCond .ne 5, 25, 0, .null, []),
  (45, .iconst 0, 0, 0, .int 0, []),
  (46, .ireturn, 0, 0, .null, []),
  (47, .aload_n 0, 0, 0, .null, []),
  (48, .iconst 2, 0, 0, .int 2, []),
  (49, .iload_n 2, 2, 0, .null, []),
  (50, .invokevirtual 253, 212, 2, .null, []),
  (53, .goto (-43), 6, 0, .null, []),
  (56, .iconst 1, 0, 0, .int 1, []),
  (57, .ireturn, 0, 0, .null, [])])
def mX8_term : pM := (⟨RX8, "term", "(I)Z"⟩, prog_10_method_76_code, 3, (some FieldType.boolean), 1, 8, [(0, .aload_n 0, 0, 0, .null, []),
  (1, .iload_n 1, 1, 0, .null, []),
  (2, .invokevirtual 266, 218, 1, .null, []),
  (5, .ifCond .ne 5, 6, 0, .null, []),
  (8, .iconst 0, 0, 0, .int 0, []),
  (9, .ireturn, 0, 0, .null, []),
  (10, .aload_n 0, 0, 0, .null, []),
  (11, .bipush 42, 0, 0, .int 42, []),
  (13, .invokevirtual 247, 208, 1, .null, []),
  (16, .ifCond .ne 12, 14, 0, .null, []),
  (19, .aload_n 0, 0, 0, .null, []),
  (20, .bipush 47, 0, 0, .int 47, []),
  (22, .invokevirtual 247, 208, 1, .null, []),
  (25, .ifCond .eq 31, 30, 0, .null, []),
  (28, .aload_n 0, 0, 0, .null, []),
  (29, .getfield 225, 8, 20, .null, []),
  (32, .istore_n 2, 2, 0, .null, []),
  (33, .aload_n 0, 0, 0, .null, []),
  (34, .invokevirtual 250, 207, 0, .null, []),
  (37, .aload_n 0, 0, 0, .null, []),
  (38, .iload_n 1, 1, 0, .null, []),
  (39, .invokevirtual 266, 218, 1, .null, []),
  (42, .ifCond .ne 5, 25, 0, .null, []),
  (45, .iconst 0, 0, 0, .int 0, []),
  (46, .ireturn, 0, 0, .null, []),
  (47, .aload_n 0, 0, 0, .null, []),
  (48, .iconst 2, 0, 0, .int 2, []),
  (49, .iload_n 2, 2, 0, .null, []),
  (50, .invokevirtual 253, 212, 2, .null, []),
  (53, .goto (-43), 6, 0, .null, []),
  (56, .iconst 1, 0, 0, .int 1, []),
  (57, .ireturn, 0, 0, .null, [])])
def mX8_part0 : pM := (⟨RX8, "part0", "(I)Z"⟩, prog_10_method_77_code, 2, (some FieldType.boolean), 1, 8, [(0, .aload_n 0, 0, 0, .null, []),
  (1, .getfield 216, 8, 18, .null, []),
  (4, .iconst 2, 0, 0, .int 2, []),
  (5, .if_icmp .ne 28, 19, 0, .null, []),
  (8, .aload_n 0, 0, 0, .null, []),
  (9, .iconst 0, 0, 0, .int 0, []),
  (10, .aload_n 0, 0, 0, .null, []),
  (11, .getfield 231, 8, 19, .null, []),
  (14, .invokevirtual 253, 212, 2, .null, []),
  (17, .aload_n 0, 0, 0, .null, []),
  (18, .dup, 0, 0, .null, []),
  (19, .getfield 269, 8, 25, .null, []),
  (22, .iconst 1, 0, 0, .int 1, []),
  (23, .iadd, 0, 0, .null, []),
  (24, .putfield 269, 8, 25, .null, []),
  (27, .aload_n 0, 0, 0, .null, []),
  (28, .invokevirtual 250, 207, 0, .null, []),
  (31, .iconst 1, 0, 0, .int 1, []),
  (32, .ireturn, 0, 0, .null, []),
  (33, .aload_n 0, 0, 0, .null, []),
  (34, .getfield 216, 8, 18, .null, []),
  (37, .iconst 1, 0, 0, .int 1, []),
  (38, .if_icmp .ne 46, 46, 0, .null, []),
  (41, .aload_n 0, 0, 0, .null, []),
  (42, .getfield 225, 8, 20, .null, []),
  (45, .ifCond .eq 39, 46, 0, .null, []),
  (48, .iload_n 1, 1, 0, .null, []),
  (49, .aload_n 0, 0, 0, .null, []),
  (50, .getfield 225, 8, 20, .null, []),
  (53, .invokestatic 272, 211, 2, .null, []),
  (56, .ifCond .eq 28, 46, 0, .null, []),
  (59, .aload_n 0, 0, 0, .null, []),
  (60, .iconst 1, 0, 0, .int 1, []),
  (61, .aload_n 0, 0, 0, .null, []),
  (62, .getfield 225, 8, 20, .null, []),
  (65, .invokevirtual 253, 212, 2, .null, []),
  (68, .aload_n 0, 0, 0, .null, []),
  (69, .dup, 0, 0, .null, []),
  (70, .getfield 269, 8, 25, .null, []),
  (73, .iconst 1, 0, 0, .int 1, []),
  (74, .iadd, 0, 0, .null, []),
  (75, .putfield 269, 8, 25, .null, []),
  (78, .aload_n 0, 0, 0, .null, []),
  (79, .invokevirtual 250, 207, 0, .null, []),
  (82, .iconst 1, 0, 0, .int 1, []),
  (83, .ireturn, 0, 0, .null, []),
  (84, .aload_n 0, 0, 0, .null, []),
  (85, .bipush 33, 0, 0, .int 33, []),
  (87, .invokevirtual 247, 208, 1, .null, []),
  (90, .ifCond .eq 55, 80, 0, .null, []),
  (93, .aload_n 0, 0, 0, .null, []),
  (94, .getfield 275, 8, 22, .null, []),
  (97, .bipush 8, 0, 0, .int 8, []),
  (99, .if_icmp .ge 46, 80, 0, .null, []),
  (102, .aload_n 0, 0, 0, .null, []),
  (103, .dup, 0, 0, .null, []),
  (104, .getfield 275, 8, 22, .null, []),
  (107, .iconst 1, 0, 0, .int 1, []),
  (108, .iadd, 0, 0, .null, []),
  (109, .putfield 275, 8, 22, .null, []),
  (112, .aload_n 0, 0, 0, .null, []),
  (113, .invokevirtual 250, 207, 0, .null, []),
  (116, .aload_n 0, 0, 0, .null, []),
  (117, .iload_n 1, 1, 0, .null, []),
  (118, .invokevirtual 266, 218, 1, .null, []),
  (121, .ifCond .ne 5, 68, 0, .null, []),
  (124, .iconst 0, 0, 0, .int 0, []),
  (125, .ireturn, 0, 0, .null, []),
  (126, .aload_n 0, 0, 0, .null, []),
  (127, .dup, 0, 0, .null, []),
  (128, .getfield 275, 8, 22, .null, []),
  (131, .iconst 1, 0, 0, .int 1, []),
  (132, .isub, 0, 0, .null, []),
  (133, .putfield 275, 8, 22, .null, []),
  (136, .aload_n 0, 0, 0, .null, []),
  (137, .iconst 2, 0, 0, .int 2, []),
  (138, .bipush 33, 0, 0, .int 33, []),
  (140, .invokevirtual 253, 212, 2, .null, []),
  (143, .iconst 1, 0, 0, .int 1, []),
  (144, .ireturn, 0, 0, .null, []),
  (145, .aload_n 0, 0, 0, .null, []),
  (146, .bipush 40, 0, 0, .int 40, []),
  (148, .invokevirtual 247, 208, 1, .null, []),
  (151, .ifCond .eq 12, 88, 0, .null, []),
  (154, .aload_n 0, 0, 0, .null, []),
  (155, .getfield 278, 8, 21, .null, []),
  (158, .bipush 8, 0, 0, .int 8, []),
  (160, .if_icmp .ne 5, 90, 0, .null, []),
  (163, .iconst 0, 0, 0, .int 0, []),
  (164, .ireturn, 0, 0, .null, []),
  (165, .aload_n 0, 0, 0, .null, []),
  (166, .dup, 0, 0, .null, []),
  (167, .getfield 278, 8, 21, .null, []),
  (170, .iconst 1, 0, 0, .int 1, []),
  (171, .iadd, 0, 0, .null, []),
  (172, .putfield 278, 8, 21, .null, []),
  (175, .aload_n 0, 0, 0, .null, []),
  (176, .invokevirtual 250, 207, 0, .null, []),
  (179, .aload_n 0, 0, 0, .null, []),
  (180, .iload_n 1, 1, 0, .null, []),
  (181, .invokevirtual 281, 213, 1, .null, []),
  (184, .ifCond .eq 12, 106, 0, .null, []),
  (187, .aload_n 0, 0, 0, .null, []),
  (188, .bipush 41, 0, 0, .int 41, []),
  (190, .invokevirtual 247, 208, 1, .null, []),
  (193, .ifCond .ne 5, 108, 0, .null, []),
  (196, .iconst 0, 0, 0, .int 0, []),
  (197, .ireturn, 0, 0, .null, []),
  (198, .aload_n 0, 0, 0, .null, []),
  (199, .dup, 0, 0, .null, []),
  (200, .getfield 278, 8, 21, .null, []),
  (203, .iconst 1, 0, 0, .int 1, []),
  (204, .isub, 0, 0, .null, []),
  (205, .putfield 278, 8, 21, .null, []),
  (208, .aload_n 0, 0, 0, .null, []),
  (209, .invokevirtual 250, 207, 0, .null, []),
  (212, .iconst 1, 0, 0, .int 1, []),
  (213, .ireturn, 0, 0, .null, [])])
def mX8_parse : pM := (⟨RX8, "parse", "()I"⟩, prog_10_method_78_code, 3, (some FieldType.int), 1, 8, [(0, .aload_n 0, 0, 0, .null, []),
  (1, .iconst 0, 0, 0, .int 0, []),
  (2, .putfield 213, 8, 17, .null, []),
  (5, .aload_n 0, 0, 0, .null, []),
  (6, .iconst 3, 0, 0, .int 3, []),
  (7, .putfield 216, 8, 18, .null, []),
  (10, .aload_n 0, 0, 0, .null, []),
  (11, .iconst 0, 0, 0, .int 0, []),
  (12, .putfield 278, 8, 21, .null, []),
  (15, .aload_n 0, 0, 0, .null, []),
  (16, .iconst 0, 0, 0, .int 0, []),
  (17, .putfield 275, 8, 22, .null, []),
  (20, .aload_n 0, 0, 0, .null, []),
  (21, .iconst 0, 0, 0, .int 0, []),
  (22, .putfield 241, 8, 23, .null, []),
  (25, .aload_n 0, 0, 0, .null, []),
  (26, .iconst 0, 0, 0, .int 0, []),
  (27, .putfield 269, 8, 25, .null, []),
  (30, .aload_n 0, 0, 0, .null, []),
  (31, .aload_n 0, 0, 0, .null, []),
  (32, .getfield 7, 8, 0, .null, []),
  (35, .iconst 1, 0, 0, .int 1, []),
  (36, .iaload, 0, 0, .null, []),
  (37, .bipush 14, 0, 0, .int 14, []),
  (39, .if_icmp .ge 18, 34, 0, .null, []),
  (42, .aload_n 0, 0, 0, .null, []),
  (43, .aload_n 0, 0, 0, .null, []),
  (44, .getfield 7, 8, 0, .null, []),
  (47, .iconst 1, 0, 0, .int 1, []),
  (48, .iaload, 0, 0, .null, []),
  (49, .invokevirtual 284, 149, 1, .null, []),
  (52, .iconst 4, 0, 0, .int 4, []),
  (53, .iadd, 0, 0, .null, []),
  (54, .goto 6, 35, 0, .null, []),
  (57, .sipush 2875, 0, 0, .int 2875, []),
  (60, .putfield 238, 8, 24, .null, []),
  (63, .aload_n 0, 0, 0, .null, []),
  (64, .invokevirtual 250, 207, 0, .null, []),
  (67, .aload_n 0, 0, 0, .null, []),
  (68, .invokevirtual 287, 210, 0, .null, []),
  (71, .istore_n 1, 1, 0, .null, []),
  (72, .iload_n 1, 1, 0, .null, []),
  (73, .ifCond .lt 7, 45, 0, .null, []),
  (76, .iconst 1, 0, 0, .int 1, []),
  (77, .goto 4, 46, 0, .null, []),
  (80, .iconst 0, 0, 0, .int 0, []),
  (81, .istore_n 2, 2, 0, .null, []),
  (82, .iload_n 2, 2, 0, .null, []),
  (83, .ifCond .eq 28, 62, 0, .null, []),
  (86, .aload_n 0, 0, 0, .null, []),
  (87, .invokevirtual 250, 207, 0, .null, []),
  (90, .aload_n 0, 0, 0, .null, []),
  (91, .iload_n 1, 1, 0, .null, []),
  (92, .invokevirtual 281, 213, 1, .null, []),
  (95, .ifCond .eq 14, 60, 0, .null, []),
  (98, .aload_n 0, 0, 0, .null, []),
  (99, .getfield 216, 8, 18, .null, []),
  (102, .ifCond .ne 7, 60, 0, .null, []),
  (105, .iconst 1, 0, 0, .int 1, []),
  (106, .goto 4, 61, 0, .null, []),
  (109, .iconst 0, 0, 0, .int 0, []),
  (110, .istore_n 2, 2, 0, .null, []),
  (111, .aload_n 0, 0, 0, .null, []),
  (112, .iconst 0, 0, 0, .int 0, []),
  (113, .putfield 201, 8, 15, .null, []),
  (116, .iload_n 2, 2, 0, .null, []),
  (117, .ifCond .eq 7, 69, 0, .null, []),
  (120, .iload_n 1, 1, 0, .null, []),
  (121, .goto 4, 70, 0, .null, []),
  (124, .iconst (-1), 0, 0, .int (-1), []),
  (125, .ireturn, 0, 0, .null, [])])
def mX8_text : pM := (⟨RX8, "text", "()I"⟩, prog_10_method_79_code, 3, (some FieldType.int), 1, 8, [(0, .aload_n 0, 0, 0, .null, []),
  (1, .invokevirtual 290, 219, 0, .null, []),
  (4, .istore_n 1, 1, 0, .null, []),
  (5, .iload_n 1, 1, 0, .null, []),
  (6, .ifCond .ge 11, 10, 0, .null, []),
  (9, .bipush (-100), 0, 0, .int (-100), []),
  (11, .aload_n 0, 0, 0, .null, []),
  (12, .getfield 219, 8, 16, .null, []),
  (15, .isub, 0, 0, .null, []),
  (16, .ireturn, 0, 0, .null, []),
  (17, .aload_n 0, 0, 0, .null, []),
  (18, .getfield 7, 8, 0, .null, []),
  (21, .iconst 1, 0, 0, .int 1, []),
  (22, .iaload, 0, 0, .null, []),
  (23, .bipush 14, 0, 0, .int 14, []),
  (25, .if_icmp .ne 6, 18, 0, .null, []),
  (28, .ldc 84, 0, 0, .int (-1000000003), []),
  (30, .ireturn, 0, 0, .null, []),
  (31, .aload_n 0, 0, 0, .null, []),
  (32, .aload_n 0, 0, 0, .null, []),
  (33, .getfield 7, 8, 0, .null, []),
  (36, .iconst 1, 0, 0, .int 1, []),
  (37, .iaload, 0, 0, .null, []),
  (38, .invokevirtual 284, 149, 1, .null, []),
  (41, .istore_n 2, 2, 0, .null, []),
  (42, .aload_n 0, 0, 0, .null, []),
  (43, .getfield 7, 8, 0, .null, []),
  (46, .iload_n 2, 2, 0, .null, []),
  (47, .iconst 0, 0, 0, .int 0, []),
  (48, .iadd, 0, 0, .null, []),
  (49, .iload_n 1, 1, 0, .null, []),
  (50, .iastore, 0, 0, .null, []),
  (51, .aload_n 0, 0, 0, .null, []),
  (52, .getfield 7, 8, 0, .null, []),
  (55, .iload_n 2, 2, 0, .null, []),
  (56, .iconst 1, 0, 0, .int 1, []),
  (57, .iadd, 0, 0, .null, []),
  (58, .aload_n 0, 0, 0, .null, []),
  (59, .getfield 269, 8, 25, .null, []),
  (62, .iastore, 0, 0, .null, []),
  (63, .aload_n 0, 0, 0, .null, []),
  (64, .getfield 7, 8, 0, .null, []),
  (67, .iload_n 2, 2, 0, .null, []),
  (68, .iconst 2, 0, 0, .int 2, []),
  (69, .iadd, 0, 0, .null, []),
  (70, .aload_n 0, 0, 0, .null, []),
  (71, .getfield 241, 8, 23, .null, []),
  (74, .iastore, 0, 0, .null, []),
  (75, .aload_n 0, 0, 0, .null, []),
  (76, .getfield 7, 8, 0, .null, []),
  (79, .iconst 1, 0, 0, .int 1, []),
  (80, .dup2, 0, 0, .null, []),
  (81, .iaload, 0, 0, .null, []),
  (82, .iconst 1, 0, 0, .int 1, []),
  (83, .iadd, 0, 0, .null, []),
  (84, .iastore, 0, 0, .null, []),
  (85, .aload_n 0, 0, 0, .null, []),
  (86, .getfield 7, 8, 0, .null, []),
  (89, .iconst 1, 0, 0, .int 1, []),
  (90, .iaload, 0, 0, .null, []),
  (91, .iconst 1, 0, 0, .int 1, []),
  (92, .isub, 0, 0, .null, []),
  (93, .ireturn, 0, 0, .null, [])])
def mX8_textTold : pM := (⟨RX8, "textTold", "(II)I"⟩, prog_10_method_80_code, 3, (some FieldType.int), 1, 8, [(0, .aload_n 0, 0, 0, .null, []),
  (1, .iload_n 1, 1, 0, .null, []),
  (2, .invokevirtual 293, 153, 1, .null, []),
  (5, .ifCond .eq 13, 10, 0, .null, []),
  (8, .iload_n 2, 2, 0, .null, []),
  (9, .i2l, 0, 0, .null, []),
  (10, .lconst 0, 0, 0, .long 0, []),
  (11, .lconst 1, 0, 0, .long 1, []),
  (12, .invokestatic 68, 143, 3, .null, []),
  (15, .ifCond .ne 6, 12, 0, .null, []),
  (18, .ldc 83, 0, 0, .int (-1000000001), []),
  (20, .ireturn, 0, 0, .null, []),
  (21, .aload_n 0, 0, 0, .null, []),
  (22, .getfield 7, 8, 0, .null, []),
  (25, .aload_n 0, 0, 0, .null, []),
  (26, .iload_n 1, 1, 0, .null, []),
  (27, .invokevirtual 284, 149, 1, .null, []),
  (30, .iload_n 2, 2, 0, .null, []),
  (31, .iadd, 0, 0, .null, []),
  (32, .iaload, 0, 0, .null, []),
  (33, .ireturn, 0, 0, .null, [])])
def mX8_counts : pM := (⟨RX8, "counts", "(I)I"⟩, prog_10_method_81_code, 4, (some FieldType.int), 1, 8, [(0, .iconst (-1), 0, 0, .int (-1), []),
  (1, .istore_n 2, 2, 0, .null, []),
  (2, .iconst 0, 0, 0, .int 0, []),
  (3, .istore_n 3, 3, 0, .null, []),
  (4, .iload_n 3, 3, 0, .null, []),
  (5, .aload_n 0, 0, 0, .null, []),
  (6, .getfield 7, 8, 0, .null, []),
  (9, .iconst 1, 0, 0, .int 1, []),
  (10, .iaload, 0, 0, .null, []),
  (11, .if_icmp .ge 29, 24, 0, .null, []),
  (14, .aload_n 0, 0, 0, .null, []),
  (15, .getfield 7, 8, 0, .null, []),
  (18, .aload_n 0, 0, 0, .null, []),
  (19, .iload_n 3, 3, 0, .null, []),
  (20, .invokevirtual 284, 149, 1, .null, []),
  (23, .iaload, 0, 0, .null, []),
  (24, .iload_n 1, 1, 0, .null, []),
  (25, .if_icmp .ne 7, 20, 0, .null, []),
  (28, .iload_n 3, 3, 0, .null, []),
  (29, .goto 4, 21, 0, .null, []),
  (32, .iload_n 2, 2, 0, .null, []),
  (33, .istore_n 2, 2, 0, .null, []),
  (34, .iinc 3 1, 3, 0, .null, []),
  (37, .goto (-33), 4, 0, .null, []),
  (40, .iload_n 2, 2, 0, .null, []),
  (41, .ireturn, 0, 0, .null, [])])
def mX8_why : pM := (⟨RX8, "why", "(I)I"⟩, prog_10_method_82_code, 2, (some FieldType.int), 1, 8, [(0, .iload_n 1, 1, 0, .null, []),
  (1, .i2l, 0, 0, .null, []),
  (2, .lconst 0, 0, 0, .long 0, []),
  (3, .ldc2_w 296, 0, 0, .long 2, []),
  (6, .invokestatic 68, 143, 3, .null, []),
  (9, .ifCond .eq 14, 11, 0, .null, []),
  (12, .aload_n 0, 0, 0, .null, []),
  (13, .iload_n 1, 1, 0, .null, []),
  (14, .invokevirtual 96, 222, 1, .null, []),
  (17, .invokestatic 196, 144, 1, .null, []),
  (20, .goto 5, 12, 0, .null, []),
  (23, .ldc 83, 0, 0, .int (-1000000001), []),
  (25, .ireturn, 0, 0, .null, [])])
def mX8_joined : pM := (⟨RX8, "joined", "(III)I"⟩, prog_10_method_83_code, 3, (some FieldType.int), 0, 8, [(0, .iload_n 0, 0, 0, .null, []),
  (1, .tableswitch 196 38 62 #[182, 196, 196, 196, 123, 115, 196, 119, 196, 127, 196, 196, 196, 196, 196, 196, 196, 196, 196, 196, 196, 196, 149, 171, 160], 57, 115, .null, [49, 57, 57, 57, 10, 2, 57, 6, 57, 14, 57, 57, 57, 57, 57, 57, 57, 57, 57, 57, 57, 57, 28, 42, 35]),
  (116, .iload_n 1, 1, 0, .null, []),
  (117, .iload_n 2, 2, 0, .null, []),
  (118, .iadd, 0, 0, .null, []),
  (119, .ireturn, 0, 0, .null, []),
  (120, .iload_n 1, 1, 0, .null, []),
  (121, .iload_n 2, 2, 0, .null, []),
  (122, .isub, 0, 0, .null, []),
  (123, .ireturn, 0, 0, .null, []),
  (124, .iload_n 1, 1, 0, .null, []),
  (125, .iload_n 2, 2, 0, .null, []),
  (126, .imul, 0, 0, .null, []),
  (127, .ireturn, 0, 0, .null, []),
  (128, .iload_n 2, 2, 0, .null, []),
  (129, .ifCond .ne 7, 18, 0, .null, []),
  (132, .iconst 0, 0, 0, .int 0, []),
  (133, .goto 16, 27, 0, .null, []),
  (136, .iload_n 2, 2, 0, .null, []),
  (137, .iconst (-1), 0, 0, .int (-1), []),
  (138, .if_icmp .ne 8, 24, 0, .null, []),
  (141, .iload_n 1, 1, 0, .null, []),
  (142, .ineg, 0, 0, .null, []),
  (143, .goto 6, 27, 0, .null, []),
  (146, .iload_n 1, 1, 0, .null, []),
  (147, .iload_n 2, 2, 0, .null, []),
  (148, .idiv, 0, 0, .null, []),
  (149, .ireturn, 0, 0, .null, []),
  (150, .iload_n 1, 1, 0, .null, []),
  (151, .iload_n 2, 2, 0, .null, []),
  (152, .if_icmp .ge 7, 33, 0, .null, []),
  (155, .iconst 1, 0, 0, .int 1, []),
  (156, .goto 4, 34, 0, .null, []),
  (159, .iconst 0, 0, 0, .int 0, []),
  (160, .ireturn, 0, 0, .null, []),
  (161, .iload_n 1, 1, 0, .null, []),
  (162, .iload_n 2, 2, 0, .null, []),
  (163, .if_icmp .le 7, 40, 0, .null, []),
  (166, .iconst 1, 0, 0, .int 1, []),
  (167, .goto 4, 41, 0, .null, []),
  (170, .iconst 0, 0, 0, .int 0, []),
  (171, .ireturn, 0, 0, .null, []),
  (172, .iload_n 1, 1, 0, .null, []),
  (173, .iload_n 2, 2, 0, .null, []),
  (174, .if_icmp .ne 7, 47, 0, .null, []),
  (177, .iconst 1, 0, 0, .int 1, []),
  (178, .goto 4, 48, 0, .null, []),
  (181, .iconst 0, 0, 0, .int 0, []),
  (182, .ireturn, 0, 0, .null, []),
  (183, .iload_n 1, 1, 0, .null, []),
  (184, .ifCond .eq 11, 55, 0, .null, []),
  (187, .iload_n 2, 2, 0, .null, []),
  (188, .ifCond .eq 7, 55, 0, .null, []),
  (191, .iconst 1, 0, 0, .int 1, []),
  (192, .goto 4, 56, 0, .null, []),
  (195, .iconst 0, 0, 0, .int 0, []),
  (196, .ireturn, 0, 0, .null, []),
  (197, .iload_n 1, 1, 0, .null, []),
  (198, .ifCond .ne 7, 61, 0, .null, []),
  (201, .iload_n 2, 2, 0, .null, []),
  (202, .ifCond .eq 7, 63, 0, .null, []),
  (205, .iconst 1, 0, 0, .int 1, []),
  (206, .goto 4, 64, 0, .null, []),
  (209, .iconst 0, 0, 0, .int 0, []),
  (210, .ireturn, 0, 0, .null, [])])
def mX8_worked : pM := (⟨RX8, "worked", "(I)I"⟩, prog_10_method_84_code, 6, (some FieldType.int), 1, 8, [(0, .iconst 0, 0, 0, .int 0, []),
  (1, .istore_n 2, 2, 0, .null, []),
  (2, .iconst 0, 0, 0, .int 0, []),
  (3, .istore_n 3, 3, 0, .null, []),
  (4, .iload_n 3, 3, 0, .null, []),
  (5, .aload_n 0, 0, 0, .null, []),
  (6, .getfield 7, 8, 0, .null, []),
  (9, .aload_n 0, 0, 0, .null, []),
  (10, .iload_n 1, 1, 0, .null, []),
  (11, .invokevirtual 284, 149, 1, .null, []),
  (14, .iconst 2, 0, 0, .int 2, []),
  (15, .iadd, 0, 0, .null, []),
  (16, .iaload, 0, 0, .null, []),
  (17, .if_icmp .ge 146, 100, 0, .null, []),
  (20, .aload_n 0, 0, 0, .null, []),
  (21, .getfield 7, 8, 0, .null, []),
  (24, .aload_n 0, 0, 0, .null, []),
  (25, .iload_n 1, 1, 0, .null, []),
  (26, .invokevirtual 284, 149, 1, .null, []),
  (29, .iconst 4, 0, 0, .int 4, []),
  (30, .iadd, 0, 0, .null, []),
  (31, .iconst 2, 0, 0, .int 2, []),
  (32, .iload_n 3, 3, 0, .null, []),
  (33, .imul, 0, 0, .null, []),
  (34, .iadd, 0, 0, .null, []),
  (35, .iaload, 0, 0, .null, []),
  (36, .istore 4, 4, 0, .null, []),
  (38, .aload_n 0, 0, 0, .null, []),
  (39, .getfield 7, 8, 0, .null, []),
  (42, .aload_n 0, 0, 0, .null, []),
  (43, .iload_n 1, 1, 0, .null, []),
  (44, .invokevirtual 284, 149, 1, .null, []),
  (47, .iconst 4, 0, 0, .int 4, []),
  (48, .iadd, 0, 0, .null, []),
  (49, .iconst 2, 0, 0, .int 2, []),
  (50, .iload_n 3, 3, 0, .null, []),
  (51, .imul, 0, 0, .null, []),
  (52, .iadd, 0, 0, .null, []),
  (53, .iconst 1, 0, 0, .int 1, []),
  (54, .iadd, 0, 0, .null, []),
  (55, .iaload, 0, 0, .null, []),
  (56, .istore 5, 5, 0, .null, []),
  (58, .iload 4, 4, 0, .null, []),
  (60, .iconst 2, 0, 0, .int 2, []),
  (61, .if_icmp .eq 32, 59, 0, .null, []),
  (64, .aload_n 0, 0, 0, .null, []),
  (65, .getfield 55, 8, 27, .null, []),
  (68, .iload_n 2, 2, 0, .null, []),
  (69, .iload 4, 4, 0, .null, []),
  (71, .ifCond .ne 8, 52, 0, .null, []),
  (74, .iload 5, 5, 0, .null, []),
  (76, .goto 10, 56, 0, .null, []),
  (79, .aload_n 0, 0, 0, .null, []),
  (80, .getfield 52, 8, 26, .null, []),
  (83, .iload 5, 5, 0, .null, []),
  (85, .iaload, 0, 0, .null, []),
  (86, .iastore, 0, 0, .null, []),
  (87, .iinc 2 1, 2, 0, .null, []),
  (90, .goto 67, 98, 0, .null, []),
  (93, .iload 5, 5, 0, .null, []),
  (95, .bipush 33, 0, 0, .int 33, []),
  (97, .if_icmp .ne 30, 79, 0, .null, []),
  (100, .aload_n 0, 0, 0, .null, []),
  (101, .getfield 55, 8, 27, .null, []),
  (104, .iload_n 2, 2, 0, .null, []),
  (105, .iconst 1, 0, 0, .int 1, []),
  (106, .isub, 0, 0, .null, []),
  (107, .aload_n 0, 0, 0, .null, []),
  (108, .getfield 55, 8, 27, .null, []),
  (111, .iload_n 2, 2, 0, .null, []),
  (112, .iconst 1, 0, 0, .int 1, []),
  (113, .isub, 0, 0, .null, []),
  (114, .iaload, 0, 0, .null, []),
  (115, .ifCond .ne 7, 76, 0, .null, []),
  (118, .iconst 1, 0, 0, .int 1, []),
  (119, .goto 4, 77, 0, .null, []),
  (122, .iconst 0, 0, 0, .int 0, []),
  (123, .iastore, 0, 0, .null, []),
  (124, .goto 33, 98, 0, .null, []),
  (127, .iinc 2 (-1), 2, 0, .null, []),
  (130, .aload_n 0, 0, 0, .null, []),
  (131, .getfield 55, 8, 27, .null, []),
  (134, .iload_n 2, 2, 0, .null, []),
  (135, .iconst 1, 0, 0, .int 1, []),
  (136, .isub, 0, 0, .null, []),
  (137, .iload 5, 5, 0, .null, []),
  (139, .aload_n 0, 0, 0, .null, []),
  (140, .getfield 55, 8, 27, .null, []),
  (143, .iload_n 2, 2, 0, .null, []),
  (144, .iconst 1, 0, 0, .int 1, []),
  (145, .isub, 0, 0, .null, []),
  (146, .iaload, 0, 0, .null, []),
  (147, .aload_n 0, 0, 0, .null, []),
  (148, .getfield 55, 8, 27, .null, []),
  (151, .iload_n 2, 2, 0, .null, []),
  (152, .iaload, 0, 0, .null, []),
  (153, .invokestatic 298, 224, 3, .null, []),
  (156, .iastore, 0, 0, .null, []),
  (157, .iinc 3 1, 3, 0, .null, []),
  (160, .goto (-156), 4, 0, .null, []),
  (163, .aload_n 0, 0, 0, .null, []),
  (164, .getfield 55, 8, 27, .null, []),
  (167, .iconst 0, 0, 0, .int 0, []),
  (168, .iaload, 0, 0, .null, []),
  (169, .ireturn, 0, 0, .null, [])])
def mX8_isSheet : pM := (⟨RX8, "isSheet", "(I)Z"⟩, prog_10_method_85_code, 1, (some FieldType.boolean), 0, 8, [(0, .iload_n 0, 0, 0, .null, []),
  (1, .i2l, 0, 0, .null, []),
  (2, .lconst 0, 0, 0, .long 0, []),
  (3, .ldc2_w 141, 0, 0, .long 3, []),
  (6, .invokestatic 68, 143, 3, .null, []),
  (9, .ireturn, 0, 0, .null, [])])
def mX8_sheet : pM := (⟨RX8, "sheet", "(III)I"⟩, prog_10_method_86_code, 5, (some FieldType.int), 1, 8, [(0, .iload_n 1, 1, 0, .null, []),
  (1, .invokestatic 301, 226, 1, .null, []),
  (4, .ifCond .eq 25, 14, 0, .null, []),
  (7, .iload_n 2, 2, 0, .null, []),
  (8, .i2l, 0, 0, .null, []),
  (9, .ldc2_w 304, 0, 0, .long (-1), []),
  (12, .lconst 1, 0, 0, .long 1, []),
  (13, .invokestatic 68, 143, 3, .null, []),
  (16, .ifCond .eq 13, 14, 0, .null, []),
  (19, .iload_n 2, 2, 0, .null, []),
  (20, .ifCond .lt 12, 16, 0, .null, []),
  (23, .iload_n 3, 3, 0, .null, []),
  (24, .bipush 24, 0, 0, .int 24, []),
  (26, .if_icmp .le 6, 16, 0, .null, []),
  (29, .ldc 83, 0, 0, .int (-1000000001), []),
  (31, .ireturn, 0, 0, .null, []),
  (32, .iload_n 2, 2, 0, .null, []),
  (33, .ifCond .lt 11, 22, 0, .null, []),
  (36, .iload_n 3, 3, 0, .null, []),
  (37, .ifCond .ge 7, 22, 0, .null, []),
  (40, .ldc_w 306, 0, 0, .int (-1000000014), []),
  (43, .ireturn, 0, 0, .null, []),
  (44, .aload_n 0, 0, 0, .null, []),
  (45, .getfield 19, 8, 4, .null, []),
  (48, .iload_n 1, 1, 0, .null, []),
  (49, .iload_n 2, 2, 0, .null, []),
  (50, .iastore, 0, 0, .null, []),
  (51, .aload_n 0, 0, 0, .null, []),
  (52, .getfield 22, 8, 5, .null, []),
  (55, .iload_n 1, 1, 0, .null, []),
  (56, .iload_n 2, 2, 0, .null, []),
  (57, .ifCond .ge 7, 34, 0, .null, []),
  (60, .iconst 0, 0, 0, .int 0, []),
  (61, .goto 4, 35, 0, .null, []),
  (64, .iload_n 3, 3, 0, .null, []),
  (65, .iastore, 0, 0, .null, []),
  (66, .iconst 0, 0, 0, .int 0, []),
  (67, .istore 4, 4, 0, .null, []),
  (69, .iload 4, 4, 0, .null, []),
  (71, .bipush 24, 0, 0, .int 24, []),
  (73, .if_icmp .ge 22, 52, 0, .null, []),
  (76, .aload_n 0, 0, 0, .null, []),
  (77, .getfield 25, 8, 6, .null, []),
  (80, .bipush 24, 0, 0, .int 24, []),
  (82, .iload_n 1, 1, 0, .null, []),
  (83, .imul, 0, 0, .null, []),
  (84, .iload 4, 4, 0, .null, []),
  (86, .iadd, 0, 0, .null, []),
  (87, .iconst 0, 0, 0, .int 0, []),
  (88, .iastore, 0, 0, .null, []),
  (89, .iinc 4 1, 4, 0, .null, []),
  (92, .goto (-23), 38, 0, .null, []),
  (95, .aload_n 0, 0, 0, .null, []),
  (96, .getfield 22, 8, 5, .null, []),
  (99, .iload_n 1, 1, 0, .null, []),
  (100, .iaload, 0, 0, .null, []),
  (101, .ireturn, 0, 0, .null, [])])
def mX8_mark : pM := (⟨RX8, "mark", "(III)I"⟩, prog_10_method_87_code, 4, (some FieldType.int), 1, 8, [(0, .iload_n 1, 1, 0, .null, []),
  (1, .invokestatic 301, 226, 1, .null, []),
  (4, .ifCond .ne 6, 5, 0, .null, []),
  (7, .ldc 83, 0, 0, .int (-1000000001), []),
  (9, .ireturn, 0, 0, .null, []),
  (10, .aload_n 0, 0, 0, .null, []),
  (11, .getfield 19, 8, 4, .null, []),
  (14, .iload_n 1, 1, 0, .null, []),
  (15, .iaload, 0, 0, .null, []),
  (16, .ifCond .ge 7, 12, 0, .null, []),
  (19, .ldc_w 307, 0, 0, .int (-1000000011), []),
  (22, .ireturn, 0, 0, .null, []),
  (23, .iload_n 2, 2, 0, .null, []),
  (24, .i2l, 0, 0, .null, []),
  (25, .lconst 0, 0, 0, .long 0, []),
  (26, .aload_n 0, 0, 0, .null, []),
  (27, .getfield 22, 8, 5, .null, []),
  (30, .iload_n 1, 1, 0, .null, []),
  (31, .iaload, 0, 0, .null, []),
  (32, .iconst 1, 0, 0, .int 1, []),
  (33, .isub, 0, 0, .null, []),
  (34, .i2l, 0, 0, .null, []),
  (35, .invokestatic 68, 143, 3, .null, []),
  (38, .ifCond .ne 7, 26, 0, .null, []),
  (41, .ldc_w 308, 0, 0, .int (-1000000013), []),
  (44, .ireturn, 0, 0, .null, []),
  (45, .aload_n 0, 0, 0, .null, []),
  (46, .getfield 19, 8, 4, .null, []),
  (49, .iload_n 1, 1, 0, .null, []),
  (50, .iaload, 0, 0, .null, []),
  (51, .ifCond .ne 12, 36, 0, .null, []),
  (54, .iload_n 3, 3, 0, .null, []),
  (55, .ldc 67, 0, 0, .int (-1000000005), []),
  (57, .if_icmp .ne 6, 36, 0, .null, []),
  (60, .ldc 132, 0, 0, .int (-1000000012), []),
  (62, .ireturn, 0, 0, .null, []),
  (63, .aload_n 0, 0, 0, .null, []),
  (64, .getfield 19, 8, 4, .null, []),
  (67, .iload_n 1, 1, 0, .null, []),
  (68, .iaload, 0, 0, .null, []),
  (69, .iconst 1, 0, 0, .int 1, []),
  (70, .if_icmp .ne 26, 53, 0, .null, []),
  (73, .iload_n 3, 3, 0, .null, []),
  (74, .ldc 67, 0, 0, .int (-1000000005), []),
  (76, .if_icmp .eq 20, 53, 0, .null, []),
  (79, .iload_n 3, 3, 0, .null, []),
  (80, .i2l, 0, 0, .null, []),
  (81, .ldc2_w 309, 0, 0, .long (-99999), []),
  (84, .ldc2_w 311, 0, 0, .long 99999, []),
  (87, .invokestatic 68, 143, 3, .null, []),
  (90, .ifCond .ne 6, 53, 0, .null, []),
  (93, .ldc 83, 0, 0, .int (-1000000001), []),
  (95, .ireturn, 0, 0, .null, []),
  (96, .aload_n 0, 0, 0, .null, []),
  (97, .getfield 25, 8, 6, .null, []),
  (100, .bipush 24, 0, 0, .int 24, []),
  (102, .iload_n 1, 1, 0, .null, []),
  (103, .imul, 0, 0, .null, []),
  (104, .iload_n 2, 2, 0, .null, []),
  (105, .iadd, 0, 0, .null, []),
  (106, .aload_n 0, 0, 0, .null, []),
  (107, .getfield 19, 8, 4, .null, []),
  (110, .iload_n 1, 1, 0, .null, []),
  (111, .iaload, 0, 0, .null, []),
  (112, .ifCond .ne 13, 71, 0, .null, []),
  (115, .iload_n 3, 3, 0, .null, []),
  (116, .bipush 16, 0, 0, .int 16, []),
  (118, .ishl, 0, 0, .null, []),
  (119, .bipush 16, 0, 0, .int 16, []),
  (121, .ishr, 0, 0, .null, []),
  (122, .goto 4, 72, 0, .null, []),
  (125, .iload_n 3, 3, 0, .null, []),
  (126, .iastore, 0, 0, .null, []),
  (127, .iconst 1, 0, 0, .int 1, []),
  (128, .ireturn, 0, 0, .null, [])])
def mX8_pour : pM := (⟨RX8, "pour", "(I)I"⟩, prog_10_method_88_code, 6, (some FieldType.int), 1, 8, [(0, .iload_n 1, 1, 0, .null, []),
  (1, .invokestatic 301, 226, 1, .null, []),
  (4, .ifCond .ne 6, 5, 0, .null, []),
  (7, .ldc 83, 0, 0, .int (-1000000001), []),
  (9, .ireturn, 0, 0, .null, []),
  (10, .aload_n 0, 0, 0, .null, []),
  (11, .getfield 19, 8, 4, .null, []),
  (14, .iload_n 1, 1, 0, .null, []),
  (15, .iaload, 0, 0, .null, []),
  (16, .ifCond .ge 7, 12, 0, .null, []),
  (19, .ldc_w 307, 0, 0, .int (-1000000011), []),
  (22, .ireturn, 0, 0, .null, []),
  (23, .iconst 0, 0, 0, .int 0, []),
  (24, .istore_n 2, 2, 0, .null, []),
  (25, .iconst 0, 0, 0, .int 0, []),
  (26, .istore_n 3, 3, 0, .null, []),
  (27, .iload_n 3, 3, 0, .null, []),
  (28, .aload_n 0, 0, 0, .null, []),
  (29, .getfield 22, 8, 5, .null, []),
  (32, .iload_n 1, 1, 0, .null, []),
  (33, .iaload, 0, 0, .null, []),
  (34, .if_icmp .ge 76, 64, 0, .null, []),
  (37, .iload_n 3, 3, 0, .null, []),
  (38, .bipush 16, 0, 0, .int 16, []),
  (40, .if_icmp .ge 70, 64, 0, .null, []),
  (43, .aload_n 0, 0, 0, .null, []),
  (44, .getfield 25, 8, 6, .null, []),
  (47, .bipush 24, 0, 0, .int 24, []),
  (49, .iload_n 1, 1, 0, .null, []),
  (50, .imul, 0, 0, .null, []),
  (51, .iload_n 3, 3, 0, .null, []),
  (52, .iadd, 0, 0, .null, []),
  (53, .iaload, 0, 0, .null, []),
  (54, .istore 4, 4, 0, .null, []),
  (56, .iload 4, 4, 0, .null, []),
  (58, .ldc 67, 0, 0, .int (-1000000005), []),
  (60, .if_icmp .ne 14, 44, 0, .null, []),
  (63, .aload_n 0, 0, 0, .null, []),
  (64, .getfield 7, 8, 0, .null, []),
  (67, .iconst 5, 0, 0, .int 5, []),
  (68, .iload_n 3, 3, 0, .null, []),
  (69, .iadd, 0, 0, .null, []),
  (70, .iaload, 0, 0, .null, []),
  (71, .goto 9, 47, 0, .null, []),
  (74, .iload 4, 4, 0, .null, []),
  (76, .iconst 3, 0, 0, .int 3, []),
  (77, .invokestatic 102, 145, 2, .null, []),
  (80, .istore 5, 5, 0, .null, []),
  (82, .iload_n 2, 2, 0, .null, []),
  (83, .iload 5, 5, 0, .null, []),
  (85, .aload_n 0, 0, 0, .null, []),
  (86, .iconst 5, 0, 0, .int 5, []),
  (87, .iload_n 3, 3, 0, .null, []),
  (88, .iadd, 0, 0, .null, []),
  (89, .iload 5, 5, 0, .null, []),
  (91, .invokevirtual 133, 148, 2, .null, []),
  (94, .if_icmp .ne 7, 59, 0, .null, []),
  (97, .iconst 0, 0, 0, .int 0, []),
  (98, .goto 4, 60, 0, .null, []),
  (101, .iconst 1, 0, 0, .int 1, []),
  (102, .iadd, 0, 0, .null, []),
  (103, .istore_n 2, 2, 0, .null, []),
  (104, .iinc 3 1, 3, 0, .null, []),
  (107, .goto (-80), 16, 0, .null, []),
  (110, .iload_n 2, 2, 0, .null, []),
  (111, .ireturn, 0, 0, .null, [])])
def mX8_reads : pM := (⟨RX8, "reads", "(I)I"⟩, prog_10_method_89_code, 4, (some FieldType.int), 1, 8, [(0, .iload_n 1, 1, 0, .null, []),
  (1, .invokestatic 301, 226, 1, .null, []),
  (4, .ifCond .ne 6, 5, 0, .null, []),
  (7, .ldc 83, 0, 0, .int (-1000000001), []),
  (9, .ireturn, 0, 0, .null, []),
  (10, .aload_n 0, 0, 0, .null, []),
  (11, .getfield 19, 8, 4, .null, []),
  (14, .iload_n 1, 1, 0, .null, []),
  (15, .iaload, 0, 0, .null, []),
  (16, .ifCond .ge 7, 12, 0, .null, []),
  (19, .ldc_w 307, 0, 0, .int (-1000000011), []),
  (22, .ireturn, 0, 0, .null, []),
  (23, .iconst 0, 0, 0, .int 0, []),
  (24, .istore_n 2, 2, 0, .null, []),
  (25, .iload_n 2, 2, 0, .null, []),
  (26, .aload_n 0, 0, 0, .null, []),
  (27, .getfield 22, 8, 5, .null, []),
  (30, .iload_n 1, 1, 0, .null, []),
  (31, .iaload, 0, 0, .null, []),
  (32, .if_icmp .ge 49, 48, 0, .null, []),
  (35, .aload_n 0, 0, 0, .null, []),
  (36, .getfield 25, 8, 6, .null, []),
  (39, .bipush 24, 0, 0, .int 24, []),
  (41, .iload_n 1, 1, 0, .null, []),
  (42, .imul, 0, 0, .null, []),
  (43, .iload_n 2, 2, 0, .null, []),
  (44, .iadd, 0, 0, .null, []),
  (45, .iaload, 0, 0, .null, []),
  (46, .istore_n 3, 3, 0, .null, []),
  (47, .iload_n 3, 3, 0, .null, []),
  (48, .ldc 67, 0, 0, .int (-1000000005), []),
  (50, .if_icmp .eq 25, 46, 0, .null, []),
  (53, .iload_n 2, 2, 0, .null, []),
  (54, .aload_n 0, 0, 0, .null, []),
  (55, .getfield 7, 8, 0, .null, []),
  (58, .iconst 0, 0, 0, .int 0, []),
  (59, .iaload, 0, 0, .null, []),
  (60, .if_icmp .ge 13, 44, 0, .null, []),
  (63, .iload_n 3, 3, 0, .null, []),
  (64, .aload_n 0, 0, 0, .null, []),
  (65, .iload_n 2, 2, 0, .null, []),
  (66, .iconst 5, 0, 0, .int 5, []),
  (67, .invokevirtual 88, 150, 2, .null, []),
  (70, .if_icmp .eq 5, 46, 0, .null, []),
  (73, .iload_n 2, 2, 0, .null, []),
  (74, .ireturn, 0, 0, .null, []),
  (75, .iinc 2 1, 2, 0, .null, []),
  (78, .goto (-53), 14, 0, .null, []),
  (81, .ldc 67, 0, 0, .int (-1000000005), []),
  (83, .ireturn, 0, 0, .null, [])])
def mX8_whose : pM := (⟨RX8, "whose", "(II)I"⟩, prog_10_method_90_code, 9, (some FieldType.int), 1, 8, [(0, .iload_n 1, 1, 0, .null, []),
  (1, .invokestatic 301, 226, 1, .null, []),
  (4, .ifCond .eq 13, 9, 0, .null, []),
  (7, .iload_n 2, 2, 0, .null, []),
  (8, .i2l, 0, 0, .null, []),
  (9, .lconst 0, 0, 0, .long 0, []),
  (10, .lconst 1, 0, 0, .long 1, []),
  (11, .invokestatic 68, 143, 3, .null, []),
  (14, .ifCond .ne 6, 11, 0, .null, []),
  (17, .ldc 83, 0, 0, .int (-1000000001), []),
  (19, .ireturn, 0, 0, .null, []),
  (20, .aload_n 0, 0, 0, .null, []),
  (21, .getfield 19, 8, 4, .null, []),
  (24, .iload_n 1, 1, 0, .null, []),
  (25, .iaload, 0, 0, .null, []),
  (26, .ifCond .ge 7, 18, 0, .null, []),
  (29, .ldc_w 307, 0, 0, .int (-1000000011), []),
  (32, .ireturn, 0, 0, .null, []),
  (33, .iconst (-1), 0, 0, .int (-1), []),
  (34, .istore_n 3, 3, 0, .null, []),
  (35, .iconst 0, 0, 0, .int 0, []),
  (36, .istore 4, 4, 0, .null, []),
  (38, .iconst 0, 0, 0, .int 0, []),
  (39, .istore 5, 5, 0, .null, []),
  (41, .iload 5, 5, 0, .null, []),
  (43, .aload_n 0, 0, 0, .null, []),
  (44, .getfield 7, 8, 0, .null, []),
  (47, .iconst 0, 0, 0, .int 0, []),
  (48, .iaload, 0, 0, .null, []),
  (49, .if_icmp .ge 109, 84, 0, .null, []),
  (52, .iconst 0, 0, 0, .int 0, []),
  (53, .istore 6, 6, 0, .null, []),
  (55, .iconst 0, 0, 0, .int 0, []),
  (56, .istore 7, 7, 0, .null, []),
  (58, .iload 7, 7, 0, .null, []),
  (60, .aload_n 0, 0, 0, .null, []),
  (61, .getfield 22, 8, 5, .null, []),
  (64, .iload_n 1, 1, 0, .null, []),
  (65, .iaload, 0, 0, .null, []),
  (66, .if_icmp .ge 68, 73, 0, .null, []),
  (69, .aload_n 0, 0, 0, .null, []),
  (70, .getfield 25, 8, 6, .null, []),
  (73, .bipush 24, 0, 0, .int 24, []),
  (75, .iload_n 1, 1, 0, .null, []),
  (76, .imul, 0, 0, .null, []),
  (77, .iload 7, 7, 0, .null, []),
  (79, .iadd, 0, 0, .null, []),
  (80, .iaload, 0, 0, .null, []),
  (81, .istore 8, 8, 0, .null, []),
  (83, .iload 6, 6, 0, .null, []),
  (85, .iload 8, 8, 0, .null, []),
  (87, .ldc 67, 0, 0, .int (-1000000005), []),
  (89, .if_icmp .ne 7, 55, 0, .null, []),
  (92, .iconst 0, 0, 0, .int 0, []),
  (93, .goto 32, 69, 0, .null, []),
  (96, .iload 8, 8, 0, .null, []),
  (98, .iload 7, 7, 0, .null, []),
  (100, .aload_n 0, 0, 0, .null, []),
  (101, .iload 5, 5, 0, .null, []),
  (103, .iconst 2, 0, 0, .int 2, []),
  (104, .invokevirtual 88, 150, 2, .null, []),
  (107, .if_icmp .ge 14, 67, 0, .null, []),
  (110, .aload_n 0, 0, 0, .null, []),
  (111, .iload 5, 5, 0, .null, []),
  (113, .iload 7, 7, 0, .null, []),
  (115, .invokevirtual 125, 158, 2, .null, []),
  (118, .goto 4, 68, 0, .null, []),
  (121, .iconst 0, 0, 0, .int 0, []),
  (122, .invokestatic 313, 146, 2, .null, []),
  (125, .iadd, 0, 0, .null, []),
  (126, .istore 6, 6, 0, .null, []),
  (128, .iinc 7 1, 7, 0, .null, []),
  (131, .goto (-73), 34, 0, .null, []),
  (134, .iload_n 3, 3, 0, .null, []),
  (135, .ifCond .lt 10, 78, 0, .null, []),
  (138, .iload 6, 6, 0, .null, []),
  (140, .iload 4, 4, 0, .null, []),
  (142, .if_icmp .ge 10, 82, 0, .null, []),
  (145, .iload 5, 5, 0, .null, []),
  (147, .istore_n 3, 3, 0, .null, []),
  (148, .iload 6, 6, 0, .null, []),
  (150, .istore 4, 4, 0, .null, []),
  (152, .iinc 5 1, 5, 0, .null, []),
  (155, .goto (-114), 24, 0, .null, []),
  (158, .iload_n 3, 3, 0, .null, []),
  (159, .ifCond .ge 8, 88, 0, .null, []),
  (162, .ldc 67, 0, 0, .int (-1000000005), []),
  (164, .goto 13, 93, 0, .null, []),
  (167, .iload_n 2, 2, 0, .null, []),
  (168, .ifCond .ne 7, 92, 0, .null, []),
  (171, .iload_n 3, 3, 0, .null, []),
  (172, .goto 5, 93, 0, .null, []),
  (175, .iload 4, 4, 0, .null, []),
  (177, .ireturn, 0, 0, .null, [])])
def mX8_copy : pM := (⟨RX8, "copy", "(IIIII)I"⟩, prog_10_method_91_code, 7, (some FieldType.int), 1, 8, [(0, .iload_n 1, 1, 0, .null, []),
  (1, .invokestatic 301, 226, 1, .null, []),
  (4, .ifCond .eq 10, 6, 0, .null, []),
  (7, .iload_n 3, 3, 0, .null, []),
  (8, .invokestatic 301, 226, 1, .null, []),
  (11, .ifCond .ne 6, 8, 0, .null, []),
  (14, .ldc 83, 0, 0, .int (-1000000001), []),
  (16, .ireturn, 0, 0, .null, []),
  (17, .aload_n 0, 0, 0, .null, []),
  (18, .getfield 19, 8, 4, .null, []),
  (21, .iload_n 1, 1, 0, .null, []),
  (22, .iaload, 0, 0, .null, []),
  (23, .ifCond .lt 12, 18, 0, .null, []),
  (26, .aload_n 0, 0, 0, .null, []),
  (27, .getfield 19, 8, 4, .null, []),
  (30, .iload_n 3, 3, 0, .null, []),
  (31, .iaload, 0, 0, .null, []),
  (32, .ifCond .ge 7, 20, 0, .null, []),
  (35, .ldc_w 307, 0, 0, .int (-1000000011), []),
  (38, .ireturn, 0, 0, .null, []),
  (39, .aload_n 0, 0, 0, .null, []),
  (40, .getfield 19, 8, 4, .null, []),
  (43, .iload_n 1, 1, 0, .null, []),
  (44, .iaload, 0, 0, .null, []),
  (45, .aload_n 0, 0, 0, .null, []),
  (46, .getfield 19, 8, 4, .null, []),
  (49, .iload_n 3, 3, 0, .null, []),
  (50, .iaload, 0, 0, .null, []),
  (51, .if_icmp .eq 6, 31, 0, .null, []),
  (54, .ldc 132, 0, 0, .int (-1000000012), []),
  (56, .ireturn, 0, 0, .null, []),
  (57, .iload_n 2, 2, 0, .null, []),
  (58, .ifCond .lt 48, 61, 0, .null, []),
  (61, .iload 4, 4, 0, .null, []),
  (63, .ifCond .lt 43, 61, 0, .null, []),
  (66, .iload 5, 5, 0, .null, []),
  (68, .ifCond .lt 38, 61, 0, .null, []),
  (71, .iload_n 2, 2, 0, .null, []),
  (72, .i2l, 0, 0, .null, []),
  (73, .iload 5, 5, 0, .null, []),
  (75, .i2l, 0, 0, .null, []),
  (76, .ladd, 0, 0, .null, []),
  (77, .aload_n 0, 0, 0, .null, []),
  (78, .getfield 22, 8, 5, .null, []),
  (81, .iload_n 1, 1, 0, .null, []),
  (82, .iaload, 0, 0, .null, []),
  (83, .i2l, 0, 0, .null, []),
  (84, .lcmp, 0, 0, .null, []),
  (85, .ifCond .gt 21, 61, 0, .null, []),
  (88, .iload 4, 4, 0, .null, []),
  (90, .i2l, 0, 0, .null, []),
  (91, .iload 5, 5, 0, .null, []),
  (93, .i2l, 0, 0, .null, []),
  (94, .ladd, 0, 0, .null, []),
  (95, .aload_n 0, 0, 0, .null, []),
  (96, .getfield 22, 8, 5, .null, []),
  (99, .iload_n 3, 3, 0, .null, []),
  (100, .iaload, 0, 0, .null, []),
  (101, .i2l, 0, 0, .null, []),
  (102, .lcmp, 0, 0, .null, []),
  (103, .ifCond .le 7, 63, 0, .null, []),
  (106, .ldc_w 308, 0, 0, .int (-1000000013), []),
  (109, .ireturn, 0, 0, .null, []),
  (110, .iconst 0, 0, 0, .int 0, []),
  (111, .istore 6, 6, 0, .null, []),
  (113, .iload 6, 6, 0, .null, []),
  (115, .iload 5, 5, 0, .null, []),
  (117, .if_icmp .ge 30, 84, 0, .null, []),
  (120, .aload_n 0, 0, 0, .null, []),
  (121, .getfield 58, 8, 28, .null, []),
  (124, .iload 6, 6, 0, .null, []),
  (126, .aload_n 0, 0, 0, .null, []),
  (127, .getfield 25, 8, 6, .null, []),
  (130, .bipush 24, 0, 0, .int 24, []),
  (132, .iload_n 1, 1, 0, .null, []),
  (133, .imul, 0, 0, .null, []),
  (134, .iload_n 2, 2, 0, .null, []),
  (135, .iadd, 0, 0, .null, []),
  (136, .iload 6, 6, 0, .null, []),
  (138, .iadd, 0, 0, .null, []),
  (139, .iaload, 0, 0, .null, []),
  (140, .iastore, 0, 0, .null, []),
  (141, .iinc 6 1, 6, 0, .null, []),
  (144, .goto (-31), 65, 0, .null, []),
  (147, .iconst 0, 0, 0, .int 0, []),
  (148, .istore 6, 6, 0, .null, []),
  (150, .iload 6, 6, 0, .null, []),
  (152, .iload 5, 5, 0, .null, []),
  (154, .if_icmp .ge 31, 105, 0, .null, []),
  (157, .aload_n 0, 0, 0, .null, []),
  (158, .getfield 25, 8, 6, .null, []),
  (161, .bipush 24, 0, 0, .int 24, []),
  (163, .iload_n 3, 3, 0, .null, []),
  (164, .imul, 0, 0, .null, []),
  (165, .iload 4, 4, 0, .null, []),
  (167, .iadd, 0, 0, .null, []),
  (168, .iload 6, 6, 0, .null, []),
  (170, .iadd, 0, 0, .null, []),
  (171, .aload_n 0, 0, 0, .null, []),
  (172, .getfield 58, 8, 28, .null, []),
  (175, .iload 6, 6, 0, .null, []),
  (177, .iaload, 0, 0, .null, []),
  (178, .iastore, 0, 0, .null, []),
  (179, .iinc 6 1, 6, 0, .null, []),
  (182, .goto (-32), 86, 0, .null, []),
  (185, .iload 5, 5, 0, .null, []),
  (187, .ireturn, 0, 0, .null, [])])
def mX8_isSlot : pM := (⟨RX8, "isSlot", "(I)Z"⟩, prog_10_method_92_code, 1, (some FieldType.boolean), 0, 8, [(0, .iload_n 0, 0, 0, .null, []),
  (1, .i2l, 0, 0, .null, []),
  (2, .lconst 0, 0, 0, .long 0, []),
  (3, .ldc2_w 316, 0, 0, .long 4, []),
  (6, .invokestatic 68, 143, 3, .null, []),
  (9, .ireturn, 0, 0, .null, [])])
def mX8_lay : pM := (⟨RX8, "lay", "(III)I"⟩, prog_10_method_93_code, 7, (some FieldType.int), 1, 8, [(0, .iload_n 2, 2, 0, .null, []),
  (1, .ifCond .eq 33, 18, 0, .null, []),
  (4, .iload_n 2, 2, 0, .null, []),
  (5, .iconst 3, 0, 0, .int 3, []),
  (6, .if_icmp .eq 28, 18, 0, .null, []),
  (9, .iload_n 2, 2, 0, .null, []),
  (10, .iconst 1, 0, 0, .int 1, []),
  (11, .if_icmp .ne 11, 12, 0, .null, []),
  (14, .aload_n 0, 0, 0, .null, []),
  (15, .iload_n 3, 3, 0, .null, []),
  (16, .invokevirtual 109, 152, 1, .null, []),
  (19, .ifCond .ne 15, 18, 0, .null, []),
  (22, .iload_n 2, 2, 0, .null, []),
  (23, .iconst 2, 0, 0, .int 2, []),
  (24, .if_icmp .ne 14, 20, 0, .null, []),
  (27, .iload_n 3, 3, 0, .null, []),
  (28, .invokestatic 301, 226, 1, .null, []),
  (31, .ifCond .eq 7, 20, 0, .null, []),
  (34, .iconst 1, 0, 0, .int 1, []),
  (35, .goto 4, 21, 0, .null, []),
  (38, .iconst 0, 0, 0, .int 0, []),
  (39, .istore 4, 4, 0, .null, []),
  (41, .iload_n 1, 1, 0, .null, []),
  (42, .invokestatic 318, 233, 1, .null, []),
  (45, .ifCond .eq 8, 27, 0, .null, []),
  (48, .iload 4, 4, 0, .null, []),
  (50, .ifCond .ne 6, 29, 0, .null, []),
  (53, .ldc 83, 0, 0, .int (-1000000001), []),
  (55, .ireturn, 0, 0, .null, []),
  (56, .iload_n 2, 2, 0, .null, []),
  (57, .iconst 2, 0, 0, .int 2, []),
  (58, .if_icmp .ne 16, 39, 0, .null, []),
  (61, .aload_n 0, 0, 0, .null, []),
  (62, .getfield 19, 8, 4, .null, []),
  (65, .iload_n 3, 3, 0, .null, []),
  (66, .iaload, 0, 0, .null, []),
  (67, .ifCond .ge 7, 39, 0, .null, []),
  (70, .ldc_w 307, 0, 0, .int (-1000000011), []),
  (73, .ireturn, 0, 0, .null, []),
  (74, .aload_n 0, 0, 0, .null, []),
  (75, .getfield 28, 8, 7, .null, []),
  (78, .iload_n 1, 1, 0, .null, []),
  (79, .iaload, 0, 0, .null, []),
  (80, .istore 5, 5, 0, .null, []),
  (82, .aload_n 0, 0, 0, .null, []),
  (83, .getfield 28, 8, 7, .null, []),
  (86, .iload_n 1, 1, 0, .null, []),
  (87, .iload_n 2, 2, 0, .null, []),
  (88, .iastore, 0, 0, .null, []),
  (89, .aload_n 0, 0, 0, .null, []),
  (90, .getfield 31, 8, 8, .null, []),
  (93, .iload_n 1, 1, 0, .null, []),
  (94, .iload_n 2, 2, 0, .null, []),
  (95, .iconst 1, 0, 0, .int 1, []),
  (96, .if_icmp .ne 12, 60, 0, .null, []),
  (99, .aload_n 0, 0, 0, .null, []),
  (100, .iload_n 3, 3, 0, .null, []),
  (101, .iconst 0, 0, 0, .int 0, []),
  (102, .invokevirtual 88, 150, 2, .null, []),
  (105, .goto 4, 61, 0, .null, []),
  (108, .iload_n 3, 3, 0, .null, []),
  (109, .iastore, 0, 0, .null, []),
  (110, .aload_n 0, 0, 0, .null, []),
  (111, .getfield 34, 8, 9, .null, []),
  (114, .iload_n 1, 1, 0, .null, []),
  (115, .iload_n 2, 2, 0, .null, []),
  (116, .iconst 1, 0, 0, .int 1, []),
  (117, .if_icmp .ne 11, 72, 0, .null, []),
  (120, .aload_n 0, 0, 0, .null, []),
  (121, .iload_n 3, 3, 0, .null, []),
  (122, .invokevirtual 122, 161, 1, .null, []),
  (125, .goto 4, 73, 0, .null, []),
  (128, .iconst 0, 0, 0, .int 0, []),
  (129, .iastore, 0, 0, .null, []),
  (130, .iload_n 2, 2, 0, .null, []),
  (131, .iconst 2, 0, 0, .int 2, []),
  (132, .if_icmp .ne 55, 108, 0, .null, []),
  (135, .aload_n 0, 0, 0, .null, []),
  (136, .getfield 37, 8, 10, .null, []),
  (139, .iload_n 1, 1, 0, .null, []),
  (140, .aload_n 0, 0, 0, .null, []),
  (141, .getfield 22, 8, 5, .null, []),
  (144, .iload_n 3, 3, 0, .null, []),
  (145, .iaload, 0, 0, .null, []),
  (146, .iastore, 0, 0, .null, []),
  (147, .iconst 0, 0, 0, .int 0, []),
  (148, .istore 6, 6, 0, .null, []),
  (150, .iload 6, 6, 0, .null, []),
  (152, .bipush 24, 0, 0, .int 24, []),
  (154, .if_icmp .ge 33, 108, 0, .null, []),
  (157, .aload_n 0, 0, 0, .null, []),
  (158, .getfield 40, 8, 11, .null, []),
  (161, .bipush 24, 0, 0, .int 24, []),
  (163, .iload_n 1, 1, 0, .null, []),
  (164, .imul, 0, 0, .null, []),
  (165, .iload 6, 6, 0, .null, []),
  (167, .iadd, 0, 0, .null, []),
  (168, .aload_n 0, 0, 0, .null, []),
  (169, .getfield 25, 8, 6, .null, []),
  (172, .bipush 24, 0, 0, .int 24, []),
  (174, .iload_n 3, 3, 0, .null, []),
  (175, .imul, 0, 0, .null, []),
  (176, .iload 6, 6, 0, .null, []),
  (178, .iadd, 0, 0, .null, []),
  (179, .iaload, 0, 0, .null, []),
  (180, .iastore, 0, 0, .null, []),
  (181, .iinc 6 1, 6, 0, .null, []),
  (184, .goto (-34), 87, 0, .null, []),
  (187, .iload 5, 5, 0, .null, []),
  (189, .ireturn, 0, 0, .null, [])])
def mX8_ask : pM := (⟨RX8, "ask", "(II)I"⟩, prog_10_method_94_code, 3, (some FieldType.int), 1, 8, [(0, .iload_n 1, 1, 0, .null, []),
  (1, .invokestatic 318, 233, 1, .null, []),
  (4, .ifCond .eq 15, 9, 0, .null, []),
  (7, .iload_n 2, 2, 0, .null, []),
  (8, .i2l, 0, 0, .null, []),
  (9, .lconst 0, 0, 0, .long 0, []),
  (10, .ldc2_w 77, 0, 0, .long 5, []),
  (13, .invokestatic 68, 143, 3, .null, []),
  (16, .ifCond .ne 6, 11, 0, .null, []),
  (19, .ldc 83, 0, 0, .int (-1000000001), []),
  (21, .ireturn, 0, 0, .null, []),
  (22, .aload_n 0, 0, 0, .null, []),
  (23, .getfield 28, 8, 7, .null, []),
  (26, .iload_n 1, 1, 0, .null, []),
  (27, .iaload, 0, 0, .null, []),
  (28, .ifCond .ne 7, 18, 0, .null, []),
  (31, .ldc_w 307, 0, 0, .int (-1000000011), []),
  (34, .ireturn, 0, 0, .null, []),
  (35, .aload_n 0, 0, 0, .null, []),
  (36, .getfield 28, 8, 7, .null, []),
  (39, .iload_n 1, 1, 0, .null, []),
  (40, .iaload, 0, 0, .null, []),
  (41, .iconst 1, 0, 0, .int 1, []),
  (42, .if_icmp .ne 25, 36, 0, .null, []),
  (45, .aload_n 0, 0, 0, .null, []),
  (46, .getfield 31, 8, 8, .null, []),
  (49, .iload_n 1, 1, 0, .null, []),
  (50, .iaload, 0, 0, .null, []),
  (51, .iload_n 2, 2, 0, .null, []),
  (52, .invokestatic 128, 166, 2, .null, []),
  (55, .ifCond .eq 12, 36, 0, .null, []),
  (58, .aload_n 0, 0, 0, .null, []),
  (59, .getfield 34, 8, 9, .null, []),
  (62, .iload_n 1, 1, 0, .null, []),
  (63, .iaload, 0, 0, .null, []),
  (64, .goto 5, 37, 0, .null, []),
  (67, .ldc 132, 0, 0, .int (-1000000012), []),
  (69, .ireturn, 0, 0, .null, [])])
def mX8_item : pM := (⟨RX8, "item", "(II)I"⟩, prog_10_method_95_code, 4, (some FieldType.int), 1, 8, [(0, .iload_n 1, 1, 0, .null, []),
  (1, .invokestatic 318, 233, 1, .null, []),
  (4, .ifCond .ne 6, 5, 0, .null, []),
  (7, .ldc 83, 0, 0, .int (-1000000001), []),
  (9, .ireturn, 0, 0, .null, []),
  (10, .aload_n 0, 0, 0, .null, []),
  (11, .getfield 28, 8, 7, .null, []),
  (14, .iload_n 1, 1, 0, .null, []),
  (15, .iaload, 0, 0, .null, []),
  (16, .iconst 2, 0, 0, .int 2, []),
  (17, .if_icmp .eq 21, 20, 0, .null, []),
  (20, .aload_n 0, 0, 0, .null, []),
  (21, .getfield 28, 8, 7, .null, []),
  (24, .iload_n 1, 1, 0, .null, []),
  (25, .iaload, 0, 0, .null, []),
  (26, .ifCond .ne 9, 18, 0, .null, []),
  (29, .ldc_w 307, 0, 0, .int (-1000000011), []),
  (32, .goto 5, 19, 0, .null, []),
  (35, .ldc 132, 0, 0, .int (-1000000012), []),
  (37, .ireturn, 0, 0, .null, []),
  (38, .iload_n 2, 2, 0, .null, []),
  (39, .i2l, 0, 0, .null, []),
  (40, .lconst 0, 0, 0, .long 0, []),
  (41, .aload_n 0, 0, 0, .null, []),
  (42, .getfield 37, 8, 10, .null, []),
  (45, .iload_n 1, 1, 0, .null, []),
  (46, .iaload, 0, 0, .null, []),
  (47, .iconst 1, 0, 0, .int 1, []),
  (48, .isub, 0, 0, .null, []),
  (49, .i2l, 0, 0, .null, []),
  (50, .invokestatic 68, 143, 3, .null, []),
  (53, .ifCond .ne 7, 34, 0, .null, []),
  (56, .ldc_w 308, 0, 0, .int (-1000000013), []),
  (59, .ireturn, 0, 0, .null, []),
  (60, .aload_n 0, 0, 0, .null, []),
  (61, .getfield 40, 8, 11, .null, []),
  (64, .bipush 24, 0, 0, .int 24, []),
  (66, .iload_n 1, 1, 0, .null, []),
  (67, .imul, 0, 0, .null, []),
  (68, .iload_n 2, 2, 0, .null, []),
  (69, .iadd, 0, 0, .null, []),
  (70, .iaload, 0, 0, .null, []),
  (71, .istore_n 3, 3, 0, .null, []),
  (72, .iload_n 3, 3, 0, .null, []),
  (73, .ldc 67, 0, 0, .int (-1000000005), []),
  (75, .if_icmp .ne 8, 48, 0, .null, []),
  (78, .ldc 132, 0, 0, .int (-1000000012), []),
  (80, .goto 4, 49, 0, .null, []),
  (83, .iload_n 3, 3, 0, .null, []),
  (84, .ireturn, 0, 0, .null, [])])
def mX8_rest : pM := (⟨RX8, "rest", "(II)I"⟩, prog_10_method_96_code, 3, (some FieldType.int), 1, 8, [(0, .iload_n 1, 1, 0, .null, []),
  (1, .invokestatic 318, 233, 1, .null, []),
  (4, .ifCond .ne 6, 5, 0, .null, []),
  (7, .ldc 83, 0, 0, .int (-1000000001), []),
  (9, .ireturn, 0, 0, .null, []),
  (10, .aload_n 0, 0, 0, .null, []),
  (11, .getfield 28, 8, 7, .null, []),
  (14, .iload_n 1, 1, 0, .null, []),
  (15, .iaload, 0, 0, .null, []),
  (16, .iconst 3, 0, 0, .int 3, []),
  (17, .if_icmp .eq 21, 20, 0, .null, []),
  (20, .aload_n 0, 0, 0, .null, []),
  (21, .getfield 28, 8, 7, .null, []),
  (24, .iload_n 1, 1, 0, .null, []),
  (25, .iaload, 0, 0, .null, []),
  (26, .ifCond .ne 9, 18, 0, .null, []),
  (29, .ldc_w 307, 0, 0, .int (-1000000011), []),
  (32, .goto 5, 19, 0, .null, []),
  (35, .ldc 132, 0, 0, .int (-1000000012), []),
  (37, .ireturn, 0, 0, .null, []),
  (38, .iload_n 2, 2, 0, .null, []),
  (39, .ifCond .ne 9, 24, 0, .null, []),
  (42, .ldc_w 321, 0, 0, .int (-1000000002), []),
  (45, .goto 11, 30, 0, .null, []),
  (48, .aload_n 0, 0, 0, .null, []),
  (49, .getfield 31, 8, 8, .null, []),
  (52, .iload_n 1, 1, 0, .null, []),
  (53, .iaload, 0, 0, .null, []),
  (54, .iload_n 2, 2, 0, .null, []),
  (55, .irem, 0, 0, .null, []),
  (56, .ireturn, 0, 0, .null, [])])
def mX8_tell : pM := (⟨RX8, "tell", "(I)I"⟩, prog_10_method_97_code, 2, (some FieldType.int), 1, 8, [(0, .aload_n 0, 0, 0, .null, []),
  (1, .getfield 322, 8, 30, .null, []),
  (4, .bipush 60, 0, 0, .int 60, []),
  (6, .if_icmp .ne 6, 6, 0, .null, []),
  (9, .ldc 84, 0, 0, .int (-1000000003), []),
  (11, .ireturn, 0, 0, .null, []),
  (12, .aload_n 0, 0, 0, .null, []),
  (13, .getfield 61, 8, 29, .null, []),
  (16, .aload_n 0, 0, 0, .null, []),
  (17, .getfield 322, 8, 30, .null, []),
  (20, .iload_n 1, 1, 0, .null, []),
  (21, .iastore, 0, 0, .null, []),
  (22, .aload_n 0, 0, 0, .null, []),
  (23, .dup, 0, 0, .null, []),
  (24, .getfield 322, 8, 30, .null, []),
  (27, .iconst 1, 0, 0, .int 1, []),
  (28, .iadd, 0, 0, .null, []),
  (29, .putfield 322, 8, 30, .null, []),
  (32, .aload_n 0, 0, 0, .null, []),
  (33, .getfield 322, 8, 30, .null, []),
  (36, .ireturn, 0, 0, .null, [])])
def mX8_setAside : pM := (⟨RX8, "setAside", "([I[I)V"⟩, prog_10_method_98_code, 4, none, 1, 8, [(0, .iconst 0, 0, 0, .int 0, []),
  (1, .istore_n 3, 3, 0, .null, []),
  (2, .iload_n 3, 3, 0, .null, []),
  (3, .sipush 2875, 0, 0, .int 2875, []),
  (6, .if_icmp .ge 15, 13, 0, .null, []),
  (9, .aload_n 2, 2, 0, .null, []),
  (10, .iload_n 3, 3, 0, .null, []),
  (11, .aload_n 1, 1, 0, .null, []),
  (12, .iload_n 3, 3, 0, .null, []),
  (13, .iaload, 0, 0, .null, []),
  (14, .iastore, 0, 0, .null, []),
  (15, .iinc 3 1, 3, 0, .null, []),
  (18, .goto (-16), 2, 0, .null, []),
  (21, .return_, 0, 0, .null, [])])
def mX8_check : pM := (⟨RX8, "check", "(I)I"⟩, prog_10_method_99_code, 5, (some FieldType.int), 1, 8, [(0, .aload_n 0, 0, 0, .null, []),
  (1, .getfield 322, 8, 30, .null, []),
  (4, .istore_n 2, 2, 0, .null, []),
  (5, .aload_n 0, 0, 0, .null, []),
  (6, .iconst 0, 0, 0, .int 0, []),
  (7, .putfield 322, 8, 30, .null, []),
  (10, .iload_n 1, 1, 0, .null, []),
  (11, .i2l, 0, 0, .null, []),
  (12, .lconst 1, 0, 0, .long 1, []),
  (13, .ldc2_w 325, 0, 0, .long 30, []),
  (16, .invokestatic 68, 143, 3, .null, []),
  (19, .ifCond .ne 6, 14, 0, .null, []),
  (22, .ldc 83, 0, 0, .int (-1000000001), []),
  (24, .ireturn, 0, 0, .null, []),
  (25, .aload_n 0, 0, 0, .null, []),
  (26, .getfield 327, 8, 3, .null, []),
  (29, .ifCond .ne 7, 19, 0, .null, []),
  (32, .ldc_w 321, 0, 0, .int (-1000000002), []),
  (35, .ireturn, 0, 0, .null, []),
  (36, .aload_n 0, 0, 0, .null, []),
  (37, .aload_n 0, 0, 0, .null, []),
  (38, .getfield 7, 8, 0, .null, []),
  (41, .aload_n 0, 0, 0, .null, []),
  (42, .getfield 16, 8, 2, .null, []),
  (45, .invokevirtual 331, 239, 2, .null, []),
  (48, .aload_n 0, 0, 0, .null, []),
  (49, .aload_n 0, 0, 0, .null, []),
  (50, .getfield 13, 8, 1, .null, []),
  (53, .aload_n 0, 0, 0, .null, []),
  (54, .getfield 7, 8, 0, .null, []),
  (57, .invokevirtual 331, 239, 2, .null, []),
  (60, .iconst 0, 0, 0, .int 0, []),
  (61, .istore_n 3, 3, 0, .null, []),
  (62, .iconst 0, 0, 0, .int 0, []),
  (63, .istore 4, 4, 0, .null, []),
  (65, .iload 4, 4, 0, .null, []),
  (67, .iload_n 1, 1, 0, .null, []),
  (68, .if_icmp .ge 53, 64, 0, .null, []),
  (71, .aload_n 0, 0, 0, .null, []),
  (72, .getfield 7, 8, 0, .null, []),
  (75, .iconst 2, 0, 0, .int 2, []),
  (76, .iaload, 0, 0, .null, []),
  (77, .sipush 9999, 0, 0, .int 9999, []),
  (80, .if_icmp .ge 41, 64, 0, .null, []),
  (83, .aload_n 0, 0, 0, .null, []),
  (84, .invokevirtual 178, 190, 0, .null, []),
  (87, .aload_n 0, 0, 0, .null, []),
  (88, .getfield 64, 8, 31, .null, []),
  (91, .iload_n 3, 3, 0, .null, []),
  (92, .aload_n 0, 0, 0, .null, []),
  (93, .invokevirtual 183, 193, 0, .null, []),
  (96, .iastore, 0, 0, .null, []),
  (97, .aload_n 0, 0, 0, .null, []),
  (98, .getfield 64, 8, 31, .null, []),
  (101, .iload_n 3, 3, 0, .null, []),
  (102, .iconst 1, 0, 0, .int 1, []),
  (103, .iadd, 0, 0, .null, []),
  (104, .aload_n 0, 0, 0, .null, []),
  (105, .invokevirtual 163, 182, 0, .null, []),
  (108, .invokestatic 166, 147, 1, .null, []),
  (111, .iastore, 0, 0, .null, []),
  (112, .iinc 3 2, 3, 0, .null, []),
  (115, .iinc 4 1, 4, 0, .null, []),
  (118, .goto (-53), 35, 0, .null, []),
  (121, .aload_n 0, 0, 0, .null, []),
  (122, .aload_n 0, 0, 0, .null, []),
  (123, .getfield 16, 8, 2, .null, []),
  (126, .aload_n 0, 0, 0, .null, []),
  (127, .getfield 7, 8, 0, .null, []),
  (130, .invokevirtual 331, 239, 2, .null, []),
  (133, .iconst 0, 0, 0, .int 0, []),
  (134, .istore 4, 4, 0, .null, []),
  (136, .iload 4, 4, 0, .null, []),
  (138, .iload_n 2, 2, 0, .null, []),
  (139, .if_icmp .ge 32, 89, 0, .null, []),
  (142, .iload 4, 4, 0, .null, []),
  (144, .iload_n 3, 3, 0, .null, []),
  (145, .if_icmp .ge 26, 89, 0, .null, []),
  (148, .aload_n 0, 0, 0, .null, []),
  (149, .getfield 61, 8, 29, .null, []),
  (152, .iload 4, 4, 0, .null, []),
  (154, .iaload, 0, 0, .null, []),
  (155, .aload_n 0, 0, 0, .null, []),
  (156, .getfield 64, 8, 31, .null, []),
  (159, .iload 4, 4, 0, .null, []),
  (161, .iaload, 0, 0, .null, []),
  (162, .if_icmp .ne 9, 89, 0, .null, []),
  (165, .iinc 4 1, 4, 0, .null, []),
  (168, .goto (-32), 72, 0, .null, []),
  (171, .iload 4, 4, 0, .null, []),
  (173, .iload_n 2, 2, 0, .null, []),
  (174, .if_icmp .ne 13, 97, 0, .null, []),
  (177, .iload 4, 4, 0, .null, []),
  (179, .iload_n 3, 3, 0, .null, []),
  (180, .if_icmp .ne 7, 97, 0, .null, []),
  (183, .iconst 0, 0, 0, .int 0, []),
  (184, .goto 7, 100, 0, .null, []),
  (187, .iconst 1, 0, 0, .int 1, []),
  (188, .iload 4, 4, 0, .null, []),
  (190, .iadd, 0, 0, .null, []),
  (191, .ireturn, 0, 0, .null, [])])
def mX8_keep : pM := (⟨RX8, "keep", "()I"⟩, prog_10_method_100_code, 1, (some FieldType.int), 1, 8, [(0, .aload_n 0, 0, 0, .null, []),
  (1, .iconst 1, 0, 0, .int 1, []),
  (2, .putfield 327, 8, 3, .null, []),
  (5, .aload_n 0, 0, 0, .null, []),
  (6, .aload_n 0, 0, 0, .null, []),
  (7, .getfield 7, 8, 0, .null, []),
  (10, .aload_n 0, 0, 0, .null, []),
  (11, .getfield 13, 8, 1, .null, []),
  (14, .invokevirtual 331, 239, 2, .null, []),
  (17, .aload_n 0, 0, 0, .null, []),
  (18, .getfield 7, 8, 0, .null, []),
  (21, .iconst 0, 0, 0, .int 0, []),
  (22, .iaload, 0, 0, .null, []),
  (23, .ireturn, 0, 0, .null, [])])
def mX8_back : pM := (⟨RX8, "back", "()I"⟩, prog_10_method_101_code, 1, (some FieldType.int), 1, 8, [(0, .aload_n 0, 0, 0, .null, []),
  (1, .getfield 327, 8, 3, .null, []),
  (4, .ifCond .ne 7, 5, 0, .null, []),
  (7, .ldc_w 321, 0, 0, .int (-1000000002), []),
  (10, .ireturn, 0, 0, .null, []),
  (11, .aload_n 0, 0, 0, .null, []),
  (12, .aload_n 0, 0, 0, .null, []),
  (13, .getfield 13, 8, 1, .null, []),
  (16, .aload_n 0, 0, 0, .null, []),
  (17, .getfield 7, 8, 0, .null, []),
  (20, .invokevirtual 331, 239, 2, .null, []),
  (23, .aload_n 0, 0, 0, .null, []),
  (24, .getfield 7, 8, 0, .null, []),
  (27, .iconst 0, 0, 0, .int 0, []),
  (28, .iaload, 0, 0, .null, []),
  (29, .ireturn, 0, 0, .null, [])])
def mX8_count : pM := (⟨RX8, "count", "(I)I"⟩, prog_10_method_102_code, 2, (some FieldType.int), 1, 8, [(0, .iload_n 1, 1, 0, .null, []),
  (1, .tableswitch 89 0 6 #[43, 50, 57, 65, 72, 77, 82], 32, 43, .null, [2, 7, 12, 16, 21, 24, 27]),
  (44, .aload_n 0, 0, 0, .null, []),
  (45, .getfield 7, 8, 0, .null, []),
  (48, .iconst 0, 0, 0, .int 0, []),
  (49, .iaload, 0, 0, .null, []),
  (50, .ireturn, 0, 0, .null, []),
  (51, .aload_n 0, 0, 0, .null, []),
  (52, .getfield 7, 8, 0, .null, []),
  (55, .iconst 2, 0, 0, .int 2, []),
  (56, .iaload, 0, 0, .null, []),
  (57, .ireturn, 0, 0, .null, []),
  (58, .aload_n 0, 0, 0, .null, []),
  (59, .invokevirtual 163, 182, 0, .null, []),
  (62, .invokestatic 166, 147, 1, .null, []),
  (65, .ireturn, 0, 0, .null, []),
  (66, .aload_n 0, 0, 0, .null, []),
  (67, .getfield 7, 8, 0, .null, []),
  (70, .iconst 1, 0, 0, .int 1, []),
  (71, .iaload, 0, 0, .null, []),
  (72, .ireturn, 0, 0, .null, []),
  (73, .aload_n 0, 0, 0, .null, []),
  (74, .getfield 322, 8, 30, .null, []),
  (77, .ireturn, 0, 0, .null, []),
  (78, .aload_n 0, 0, 0, .null, []),
  (79, .getfield 201, 8, 15, .null, []),
  (82, .ireturn, 0, 0, .null, []),
  (83, .aload_n 0, 0, 0, .null, []),
  (84, .getfield 7, 8, 0, .null, []),
  (87, .iconst 4, 0, 0, .int 4, []),
  (88, .iaload, 0, 0, .null, []),
  (89, .ireturn, 0, 0, .null, []),
  (90, .ldc 83, 0, 0, .int (-1000000001), []),
  (92, .ireturn, 0, 0, .null, [])])
def mJ6_bitCount_0f7a4 : pM := (⟨RJ6, "bitCount", "(I)I"⟩, prog_12_method_49_code, 1, (some FieldType.int), 0, 99, [(0, .iload_n 0, 0, 0, .null, []),
  (1, .iload_n 0, 0, 0, .null, []),
  (2, .iconst 1, 0, 0, .int 1, []),
  (3, .iushr, 0, 0, .null, []),
  (4, .ldc_w 265, 0, 0, .int 1431655765, []),
  (7, .iand, 0, 0, .null, []),
  (8, .isub, 0, 0, .null, []),
  (9, .istore_n 0, 0, 0, .null, []),
  (10, .iload_n 0, 0, 0, .null, []),
  (11, .ldc_w 266, 0, 0, .int 858993459, []),
  (14, .iand, 0, 0, .null, []),
  (15, .iload_n 0, 0, 0, .null, []),
  (16, .iconst 2, 0, 0, .int 2, []),
  (17, .iushr, 0, 0, .null, []),
  (18, .ldc_w 266, 0, 0, .int 858993459, []),
  (21, .iand, 0, 0, .null, []),
  (22, .iadd, 0, 0, .null, []),
  (23, .istore_n 0, 0, 0, .null, []),
  (24, .iload_n 0, 0, 0, .null, []),
  (25, .iload_n 0, 0, 0, .null, []),
  (26, .iconst 4, 0, 0, .int 4, []),
  (27, .iushr, 0, 0, .null, []),
  (28, .iadd, 0, 0, .null, []),
  (29, .ldc_w 267, 0, 0, .int 252645135, []),
  (32, .iand, 0, 0, .null, []),
  (33, .istore_n 0, 0, 0, .null, []),
  (34, .iload_n 0, 0, 0, .null, []),
  (35, .iload_n 0, 0, 0, .null, []),
  (36, .bipush 8, 0, 0, .int 8, []),
  (38, .iushr, 0, 0, .null, []),
  (39, .iadd, 0, 0, .null, []),
  (40, .istore_n 0, 0, 0, .null, []),
  (41, .iload_n 0, 0, 0, .null, []),
  (42, .iload_n 0, 0, 0, .null, []),
  (43, .bipush 16, 0, 0, .int 16, []),
  (45, .iushr, 0, 0, .null, []),
  (46, .iadd, 0, 0, .null, []),
  (47, .istore_n 0, 0, 0, .null, []),
  (48, .iload_n 0, 0, 0, .null, []),
  (49, .bipush 63, 0, 0, .int 63, []),
  (51, .iand, 0, 0, .null, []),
  (52, .ireturn, 0, 0, .null, [])])
def mJ7_fill_53178 : pM := (⟨RJ7, "fill", "([II)V"⟩, prog_18_method_103_code, 4, none, 0, 99, [(0, .iconst 0, 0, 0, .int 0, []),
  (1, .istore_n 2, 2, 0, .null, []),
  (2, .aload_n 0, 0, 0, .null, []),
  (3, .arraylength, 0, 0, .null, []),
  (4, .istore_n 3, 3, 0, .null, []),
  (5, .iload_n 2, 2, 0, .null, []),
  (6, .iload_n 3, 3, 0, .null, []),
  (7, .if_icmp .ge 13, 14, 0, .null, []),
  (10, .aload_n 0, 0, 0, .null, []),
  (11, .iload_n 2, 2, 0, .null, []),
  (12, .iload_n 1, 1, 0, .null, []),
  (13, .iastore, 0, 0, .null, []),
  (14, .iinc 2 1, 2, 0, .null, []),
  (17, .goto (-12), 5, 0, .null, []),
  (20, .return_, 0, 0, .null, [])])
def prog : List pM := [mX0_init, mX0_begin, mX0_add, mX0_at, mX0_takeFrom, mX1_init, mX1_one, mX1_worked, mX1_push, mX1_pop, mX1_named, mX1_joined, mX2_init, mX2_hasRoom, mX2_takeNumber, mX2_readInto, mX2_nextWord, mX2_byteAt, mX2_sortOf, mX2_isLetter, mX2_keyRead, mX2_isWord, mX2_goesOn, mX2_takePiece, mX2_numberRead, mX2_nameRead, mX2_takeAhead, mX2_takeBehind, mX2_endPiece, mX2_unwind, mX2_rankOf, mX2_push, mX2_peek, mX3_init, mX3_become, mX3_isMissing, mX3_has, mX3_hasAll, mX3_at, mX3_put, mX3_takeFrom, mX4_init, mX4_begin, mX4_takeFrom, mX4_value, mX4_become, mX4_isOf, mX4_isLaid, mX4_covers, mX4_covered, mX4_sayAt, mX4_rubbedAt, mX4_bolder, mX4_fainter, mX4_gainOver, mX4_loss, mX4_worth, mX4_joined, mX4_clashes, mX5_init, mX6_init, mX6_takeFrom, mX6_hasRoom, mX6_add, mX6_one, mX6_trustOf, mX6_layOne, mX6_markAt, mX6_carveAt, mX6_draw, mX6_falsehood, mX6_trustOfAll, mX6_laidSet, mX6_coveredBy, mX6_open, mX6_noteClashes, mX6_anyClash, mX6_deniers, mX6_flow, mX6_seeAgain, mX6_gainOf, mX6_given, mX6_textFor, mX6_lawAt, mX6_addText, mX7_init, mX7_rubbing, mX7_told, mX7_says, mX7_as, mX7_turns, mX7_set, mX7_carve, mX7_carved, mX7_deal, mX7_seed, mX7_falseAt, mX7_fits, mX7_join, mX7_clash, mX7_undone, mX7_borne, mX7_look, mX7_tides, mX7_book, mX7_behind, mX7_lasts, mX7_best, mX7_taught, mX7_whose, mX7_fee, mX7_fine, mX7_feed, mX7_trim, mX7_text, mX7_textTold, mX7_why, mX7_sheet, mX7_mark, mX7_pour, mX7_reads, mX7_copy, mX7_lay, mX7_ask, mX7_item, mX7_rest, mX7_tell, mX7_check, mX7_keep, mX7_back, mX7_count, mX7_within, mX7_held, mX7_isPlace, mX7_isKind, mX7_isSettable, mX7_leastValue, mX7_mostValue, mX7_isFewerOf, mX7_apart, mX7_rowOf, mX7_slotOf, mX8_init, mX8_isIn, mX8_orNone, mX8_within, mX8_off, mX8_manyIn, mX8_becomes, mX8_textAt, mX8_of, mX8_sets, mX8_isRubbing, mX8_isText, mX8_drawn, mX8_comes, mX8_rubbing, mX8_bolder, mX8_saysAt, mX8_gains, mX8_loses, mX8_worth, mX8_coversFrom, mX8_covers, mX8_told, mX8_says, mX8_isOf, mX8_as, mX8_turns, mX8_mostOf, mX8_set, mX8_carve, mX8_carved, mX8_deal, mX8_seed, mX8_falseOf, mX8_falseAt, mX8_fits, mX8_joinBy, mX8_join, mX8_doClash, mX8_clash, mX8_laidOnes, mX8_coveredBy, mX8_findClashing, mX8_areAtPeace, mX8_undone, mX8_borne, mX8_otherwiseAt, mX8_look, mX8_goesOn, mX8_goesOnMany, mX8_tides, mX8_allTrust, mX8_book, mX8_laysBy, mX8_laysBack, mX8_behind, mX8_lasts, mX8_best, mX8_taught, mX8_fee, mX8_fine, mX8_feed, mX8_trim, mX8_isLetter, mX8_isDigit, mX8_nextToken, mX8_isSign, mX8_isWordAt, mX8_key, mX8_isName, mX8_step, mX8_either, mX8_both, mX8_test, mX8_sum, mX8_term, mX8_part0, mX8_parse, mX8_text, mX8_textTold, mX8_counts, mX8_why, mX8_joined, mX8_worked, mX8_isSheet, mX8_sheet, mX8_mark, mX8_pour, mX8_reads, mX8_whose, mX8_copy, mX8_isSlot, mX8_lay, mX8_ask, mX8_item, mX8_rest, mX8_tell, mX8_setAside, mX8_check, mX8_keep, mX8_back, mX8_count, mJ6_bitCount_0f7a4, mJ7_fill_53178]
end
section
/-! ===== INTERVALS: what the values of a run can be; a symbol stands for an int between two, or for an address out of a list ===== -/
abbrev AV : Type := Nat × Int × Int × Nat
abbrev aE : Type := (Int × Int) ⊕ List Nat
abbrev aG : Type := List aE
abbrev aL : Type := List AV
def mI : Int := -2147483648
def MI : Int := 2147483647
def eG (z : Int) (e : aE) : Prop := match e with
  | .inl p => p.1 ≤ z ∧ z ≤ p.2
  | .inr as => ∃ a ∈ as, z = Int.ofNat a
def gok (σ : Nat → Int) (Γ : aG) : Prop := ∀ (k : Nat) (e : aE), Γ[k]? = some e → eG (σ k) e
def agr (n : Nat) (σ σ' : Nat → Int) : Prop := ∀ k : Nat, k < n → σ' k = σ k
/-- an int (or a long) and what is known of it: tags 0, 2 between two; tags 1, 3: so many times a symbol, and so much -/
def zG (n : Nat) (σ : Nat → Int) (z : Int) (x : AV) : Prop := if x.1 % 2 = 0 then x.2.1 ≤ z ∧ z ≤ x.2.2.1 else z = x.2.1 * σ x.2.2.2 + x.2.2.1 ∧ x.2.2.2 < n
def vG (n : Nat) (σ : Nat → Int) (w : Value) (x : AV) : Prop := match w with
  | .int v => x.1 ≤ 1 ∧ zG n σ v.toInt x
  | .long v => (x.1 = 2 ∨ x.1 = 3) ∧ zG n σ v.toInt x
  | .null => x.1 = 4
  | .ref a => (x.1 = 5 ∧ a = x.2.2.2) ∨ (x.1 = 6 ∧ a = (σ x.2.2.2).toNat ∧ x.2.2.2 < n)
  | _ => False
section AIB
variable {n n' : Nat} {σ σ' : Nat → Int} {Γ Γ' : aG} {w : Value} {x y : AV} {z : Int}
theorem agr.rf (n : Nat) (σ : Nat → Int) : agr n σ σ := fun _ _ => rfl
theorem agr.le (h : agr n' σ σ') (hn : n ≤ n') : agr n σ σ' := fun k hk => h k (Nat.lt_of_lt_of_le hk hn)
theorem agr.tr {σ'' : Nat → Int} (h1 : agr n σ σ') (h2 : agr n σ' σ'') : agr n σ σ'' := fun k hk => (h2 k hk).trans (h1 k hk)
theorem zG.up (hn : n ≤ n') (ha : agr n σ σ') (h : zG n σ z x) : zG n' σ' z x := by
  unfold zG at h ⊢
  split at h
  · rename_i h0
    rw [if_pos h0]
    exact h
  · rename_i h0
    rw [if_neg h0]
    exact ⟨by rw [ha _ h.2]; exact h.1, Nat.lt_of_lt_of_le h.2 hn⟩
theorem vG.up (hn : n ≤ n') (ha : agr n σ σ') (h : vG n σ w x) : vG n' σ' w x := by
  unfold vG at h ⊢
  split at h
  · exact ⟨h.1, h.2.up hn ha⟩
  · exact ⟨h.1, h.2.up hn ha⟩
  · exact h
  · rcases h with h | h
    · exact Or.inl h
    · exact Or.inr ⟨h.1, by rw [ha _ h.2.2]; exact h.2.1, Nat.lt_of_lt_of_le h.2.2 hn⟩
  · exact h
theorem vG.int (h : vG n σ w x) (hx : x.1 ≤ 1) : ∃ v : Int32, w = .int v ∧ zG n σ v.toInt x := by
  unfold vG at h
  split at h
  · exact ⟨_, rfl, h.2⟩
  · omega
  · omega
  · omega
  · cases h
theorem vG.long (h : vG n σ w x) (hx : x.1 = 2 ∨ x.1 = 3) : ∃ v : Int64, w = .long v ∧ zG n σ v.toInt x := by
  unfold vG at h
  split at h
  · omega
  · exact ⟨_, rfl, h.2⟩
  · omega
  · omega
  · cases h
theorem vG.null (h : vG n σ w x) (hx : x.1 = 4) : w = .null := by
  unfold vG at h
  split at h
  · omega
  · omega
  · rfl
  · omega
  · cases h
theorem vG.ref (h : vG n σ w x) (hx : x.1 = 5 ∨ x.1 = 6) : ∃ a : Nat, w = .ref a ∧ ((x.1 = 5 ∧ a = x.2.2.2) ∨ (x.1 = 6 ∧ a = (σ x.2.2.2).toNat ∧ x.2.2.2 < n)) := by
  unfold vG at h
  split at h
  · omega
  · omega
  · omega
  · exact ⟨_, rfl, h⟩
  · cases h
theorem eG.at {k : Nat} {e : aE} (hg : gok σ Γ) (h : Γ[k]? = some e) : eG (σ k) e := hg k e h
/-- between which two a value is -/
def ivl (Γ : aG) (x : AV) : Option (Int × Int) := if x.1 % 2 = 0 then some (x.2.1, x.2.2.1) else (match Γ[x.2.2.2]? with
  | some (.inl p) => some (if 0 ≤ x.2.1 then (x.2.1 * p.1 + x.2.2.1, x.2.1 * p.2 + x.2.2.1) else (x.2.1 * p.2 + x.2.2.1, x.2.1 * p.1 + x.2.2.1))
  | _ => none)
theorem ivl_ok {p : Int × Int} (hg : gok σ Γ) (hz : zG n σ z x) (hp : ivl Γ x = some p) : p.1 ≤ z ∧ z ≤ p.2 := by
  unfold ivl at hp
  unfold zG at hz
  split at hp
  · rename_i h0
    rw [if_pos h0] at hz
    cases hp
    exact hz
  · rename_i h0
    rw [if_neg h0] at hz
    split at hp
    · rename_i q hq
      have he : q.1 ≤ σ x.2.2.2 ∧ σ x.2.2.2 ≤ q.2 := hg _ _ hq
      cases hp
      rw [hz.1]
      split
      · rename_i hm
        exact ⟨Int.add_le_add_right (Int.mul_le_mul_of_nonneg_left he.1 hm) _, Int.add_le_add_right (Int.mul_le_mul_of_nonneg_left he.2 hm) _⟩
      · rename_i hm
        have hm : x.2.1 ≤ 0 := by omega
        exact ⟨Int.add_le_add_right (Int.mul_le_mul_of_nonpos_left hm he.2) _, Int.add_le_add_right (Int.mul_le_mul_of_nonpos_left hm he.1) _⟩
    · cases hp
/-! a value held within two: what is known of the symbol behind it -/
def rfs (Γ : aG) (k : Nat) (lo hi : Int) : Option aG := match Γ[k]? with
  | some (.inl p) => if max p.1 lo ≤ min p.2 hi then some (Γ.set k (.inl (max p.1 lo, min p.2 hi))) else none
  | _ => some Γ
def rfn (Γ : aG) (x : AV) (lo hi : Int) : Option aG := if x.1 % 2 = 0 then (if max x.2.1 lo ≤ min x.2.2.1 hi then some Γ else none) else if x.2.1 = 1 then rfs Γ x.2.2.2 (lo - x.2.2.1) (hi - x.2.2.1) else if x.2.1 = -1 then rfs Γ x.2.2.2 (x.2.2.1 - hi) (x.2.2.1 - lo) else some Γ
theorem rfs_ok {k : Nat} {lo hi : Int} (hg : gok σ Γ) (h : lo ≤ σ k ∧ σ k ≤ hi) : ∃ Γ', rfs Γ k lo hi = some Γ' ∧ gok σ Γ' ∧ Γ'.length = Γ.length := by
  unfold rfs
  split
  · rename_i p hp
    have he : p.1 ≤ σ k ∧ σ k ≤ p.2 := hg _ _ hp
    have h1 : max p.1 lo ≤ σ k := Int.max_le.mpr ⟨he.1, h.1⟩
    have h2 : σ k ≤ min p.2 hi := Int.le_min.mpr ⟨he.2, h.2⟩
    rw [if_pos (Int.le_trans h1 h2)]
    refine ⟨_, rfl, fun j e hj => ?_, List.length_set⟩
    by_cases hjk : j = k
    · subst hjk
      rw [List.getElem?_set_self (List.getElem?_eq_some_iff.mp hp).1] at hj
      cases hj
      exact ⟨h1, h2⟩
    · rw [List.getElem?_set_ne (Ne.symm hjk)] at hj
      exact hg _ _ hj
  · exact ⟨Γ, rfl, hg, rfl⟩
theorem rfn_ok {lo hi : Int} (hg : gok σ Γ) (hz : zG n σ z x) (h1 : lo ≤ z) (h2 : z ≤ hi) : ∃ Γ', rfn Γ x lo hi = some Γ' ∧ gok σ Γ' ∧ Γ'.length = Γ.length := by
  unfold rfn
  unfold zG at hz
  by_cases h0 : x.1 % 2 = 0
  · rw [if_pos h0] at hz
    rw [if_pos h0, if_pos (Int.le_trans (Int.max_le.mpr ⟨hz.1, h1⟩) (Int.le_min.mpr ⟨hz.2, h2⟩))]
    exact ⟨Γ, rfl, hg, rfl⟩
  · rw [if_neg h0] at hz
    rw [if_neg h0]
    by_cases e1 : x.2.1 = 1
    · rw [if_pos e1]
      have hz1 := hz.1
      rw [e1] at hz1
      exact rfs_ok hg ⟨by omega, by omega⟩
    · rw [if_neg e1]
      by_cases e2 : x.2.1 = -1
      · rw [if_pos e2]
        have hz1 := hz.1
        rw [e2] at hz1
        exact rfs_ok hg ⟨by omega, by omega⟩
      · rw [if_neg e2]
        exact ⟨Γ, rfl, hg, rfl⟩
def two (Γ : aG) (x : AV) (p : Int × Int) (y : AV) (q : Int × Int) : List aG := match rfn Γ x p.1 p.2 with
  | none => []
  | some Γ1 => match rfn Γ1 y q.1 q.2 with
    | none => []
    | some Γ2 => [Γ2]
theorem two_ok {z' : Int} {p q : Int × Int} (hg : gok σ Γ) (hx : zG n σ z x) (hy : zG n σ z' y) (h1 : p.1 ≤ z ∧ z ≤ p.2) (h2 : q.1 ≤ z' ∧ z' ≤ q.2) : ∃ Γ' ∈ two Γ x p y q, gok σ Γ' ∧ Γ'.length = Γ.length := by
  obtain ⟨Γ1, e1, g1, l1⟩ := rfn_ok hg hx h1.1 h1.2
  obtain ⟨Γ2, e2, g2, l2⟩ := rfn_ok g1 hy h2.1 h2.2
  unfold two
  rw [e1]
  dsimp only
  rw [e2]
  exact ⟨Γ2, List.mem_cons_self, g2, l2.trans l1⟩
/-- 0 <, 1 ≤, 2 >, 3 ≥, 4 =, 5 ≠ -/
def rel (r : Nat) (a b : Int) : Prop := match r with
  | 0 => a < b
  | 1 => a ≤ b
  | 2 => b < a
  | 3 => b ≤ a
  | 4 => a = b
  | _ => ¬ a = b
def rfq (Γ : aG) (x y : AV) (p q : Int × Int) (r : Nat) : List aG := match r with
  | 0 => two Γ x (p.1, q.2 - 1) y (p.1 + 1, q.2)
  | 1 => two Γ x (p.1, q.2) y (p.1, q.2)
  | 2 => two Γ x (q.1 + 1, p.2) y (q.1, p.2 - 1)
  | 3 => two Γ x (q.1, p.2) y (q.1, p.2)
  | 4 => two Γ x q y p
  | _ => if q.1 = q.2 ∧ (q.1 = 0 ∨ q.1 = p.1 ∨ q.1 = p.2 ∨ p.2 - p.1 ≤ 8) then two Γ x (p.1, q.1 - 1) y q ++ two Γ x (q.1 + 1, p.2) y q else [Γ]
def rfr (Γ : aG) (r : Nat) (x y : AV) : List aG := match ivl Γ x, ivl Γ y with
  | some p, some q => rfq Γ x y p q r
  | _, _ => [Γ]
theorem rfq_ok {z' : Int} {p q : Int × Int} (hg : gok σ Γ) (hx : zG n σ z x) (hy : zG n σ z' y) (h1 : p.1 ≤ z ∧ z ≤ p.2) (h2 : q.1 ≤ z' ∧ z' ≤ q.2) : ∀ r : Nat, rel r z z' → ∃ Γ' ∈ rfq Γ x y p q r, gok σ Γ' ∧ Γ'.length = Γ.length
  | 0, hr => by
    have hr : z < z' := hr
    exact two_ok (p := (p.1, q.2 - 1)) (q := (p.1 + 1, q.2)) hg hx hy ⟨h1.1, by dsimp only; omega⟩ ⟨by dsimp only; omega, h2.2⟩
  | 1, hr => by
    have hr : z ≤ z' := hr
    exact two_ok (p := (p.1, q.2)) (q := (p.1, q.2)) hg hx hy ⟨h1.1, by dsimp only; omega⟩ ⟨by dsimp only; omega, h2.2⟩
  | 2, hr => by
    have hr : z' < z := hr
    exact two_ok (p := (q.1 + 1, p.2)) (q := (q.1, p.2 - 1)) hg hx hy ⟨by dsimp only; omega, h1.2⟩ ⟨h2.1, by dsimp only; omega⟩
  | 3, hr => by
    have hr : z' ≤ z := hr
    exact two_ok (p := (q.1, p.2)) (q := (q.1, p.2)) hg hx hy ⟨by dsimp only; omega, h1.2⟩ ⟨h2.1, by dsimp only; omega⟩
  | 4, hr => by
    have hr : z = z' := hr
    exact two_ok (p := q) (q := p) hg hx hy ⟨by omega, by omega⟩ ⟨by omega, by omega⟩
  | r + 5, hr => by
    have hr : ¬ z = z' := hr
    show ∃ Γ' ∈ (if q.1 = q.2 ∧ (q.1 = 0 ∨ q.1 = p.1 ∨ q.1 = p.2 ∨ p.2 - p.1 ≤ 8) then two Γ x (p.1, q.1 - 1) y q ++ two Γ x (q.1 + 1, p.2) y q else [Γ]), _
    split
    · rename_i hc
      by_cases hlt : z < q.1
      · obtain ⟨G, m, k⟩ := two_ok (p := (p.1, q.1 - 1)) (q := q) hg hx hy ⟨h1.1, by dsimp only; omega⟩ h2
        exact ⟨G, List.mem_append_left _ m, k⟩
      · obtain ⟨G, m, k⟩ := two_ok (p := (q.1 + 1, p.2)) (q := q) hg hx hy ⟨by dsimp only; omega, h1.2⟩ h2
        exact ⟨G, List.mem_append_right _ m, k⟩
    · exact ⟨Γ, List.mem_cons_self, hg, rfl⟩
theorem rfr_ok {z' : Int} (r : Nat) (hg : gok σ Γ) (hx : zG n σ z x) (hy : zG n σ z' y) (hr : rel r z z') : ∃ Γ' ∈ rfr Γ r x y, gok σ Γ' ∧ Γ'.length = Γ.length := by
  unfold rfr
  split
  · rename_i p q hp hq
    exact rfq_ok hg hx hy (ivl_ok hg hx hp) (ivl_ok hg hy hq) r hr
  · exact ⟨Γ, List.mem_cons_self, hg, rfl⟩
end AIB
end
section
/-! ===== arithmetic of intervals ===== -/
section AIA
variable {n : Nat} {σ : Nat → Int} {Γ : aG} {x y : AV} {z z' : Int} {v u : Int32}
def top : AV := (0, mI, MI, 0)
theorem i32_lo (v : Int32) : mI ≤ v.toInt := Int32.le_toInt v
theorem i32_hi (v : Int32) : v.toInt ≤ MI := by
  have h := Int32.toInt_lt v
  unfold MI
  omega
theorem top_ok (v : Int32) : zG n σ v.toInt top := ⟨i32_lo v, i32_hi v⟩
theorem bm32 (h1 : mI ≤ z) (h2 : z ≤ MI) : z.bmod (2 ^ 32) = z := by
  unfold mI at h1
  unfold MI at h2
  exact Int.bmod_eq_of_le (by omega) (by omega)
theorem zG.con (h : zG n σ z x) (hx : x.1 % 2 = 0) (hc : x.2.1 = x.2.2.1) : z = x.2.1 := by
  unfold zG at h
  rw [if_pos hx] at h
  omega
theorem zG.lin (h : zG n σ z x) (hx : ¬ x.1 % 2 = 0) : z = x.2.1 * σ x.2.2.2 + x.2.2.1 ∧ x.2.2.2 < n := by
  unfold zG at h
  rw [if_neg hx] at h
  exact h
theorem zG.itv {t : Nat} (ht : t % 2 = 0) {a b : Int} {k : Nat} (h1 : a ≤ z) (h2 : z ≤ b) : zG n σ z (t, a, b, k) := by
  unfold zG
  rw [if_pos ht]
  exact ⟨h1, h2⟩
theorem zG.mk {t : Nat} (ht : ¬ t % 2 = 0) {a b : Int} {k : Nat} (h1 : z = a * σ k + b) (h2 : k < n) : zG n σ z (t, a, b, k) := by
  unfold zG
  rw [if_neg ht]
  exact ⟨h1, h2⟩
/-- x + c, exactly -/
def addc (x : AV) (c lo hi : Int) : AV := if x.1 % 2 = 0 then (0, lo, hi, 0) else (1, x.2.1, x.2.2.1 + c, x.2.2.2)
theorem addc_ok {c lo hi : Int} (h : zG n σ z x) (hz : z' = z + c) (h1 : lo ≤ z') (h2 : z' ≤ hi) : zG n σ z' (addc x c lo hi) ∧ (addc x c lo hi).1 ≤ 1 := by
  unfold addc
  by_cases h0 : x.1 % 2 = 0
  · rw [if_pos h0]
    exact ⟨zG.itv rfl h1 h2, Nat.zero_le _⟩
  · rw [if_neg h0]
    obtain ⟨e, hk⟩ := h.lin h0
    exact ⟨zG.mk (by decide) (by rw [hz, e]; omega) hk, Nat.le_refl _⟩
def aadd (Γ : aG) (x y : AV) : AV := match ivl Γ x, ivl Γ y with
  | some p, some q => if mI ≤ p.1 + q.1 ∧ p.2 + q.2 ≤ MI then (if q.1 = q.2 then addc x q.1 (p.1 + q.1) (p.2 + q.2) else if p.1 = p.2 then addc y p.1 (p.1 + q.1) (p.2 + q.2) else (0, p.1 + q.1, p.2 + q.2, 0)) else top
  | _, _ => top
theorem aadd_ok (hg : gok σ Γ) (hx : zG n σ v.toInt x) (hy : zG n σ u.toInt y) : zG n σ (v + u).toInt (aadd Γ x y) ∧ (aadd Γ x y).1 ≤ 1 := by
  unfold aadd
  split
  · rename_i p q hp hq
    have h1 := ivl_ok hg hx hp
    have h2 := ivl_ok hg hy hq
    split
    · rename_i hr
      have e : (v + u).toInt = v.toInt + u.toInt := by rw [Int32.toInt_add]; exact bm32 (by omega) (by omega)
      split
      · rename_i hc
        exact addc_ok hx (by rw [e]; omega) (by rw [e]; omega) (by rw [e]; omega)
      · split
        · exact addc_ok hy (by rw [e]; omega) (by rw [e]; omega) (by rw [e]; omega)
        · rw [e]
          exact ⟨zG.itv rfl (by omega) (by omega), Nat.zero_le _⟩
    · exact ⟨top_ok _, Nat.zero_le _⟩
  · exact ⟨top_ok _, Nat.zero_le _⟩
/-- c - x, exactly -/
def subc (x : AV) (c lo hi : Int) : AV := if x.1 % 2 = 0 then (0, lo, hi, 0) else (1, -x.2.1, c - x.2.2.1, x.2.2.2)
theorem subc_ok {c lo hi : Int} (h : zG n σ z x) (hz : z' = c - z) (h1 : lo ≤ z') (h2 : z' ≤ hi) : zG n σ z' (subc x c lo hi) ∧ (subc x c lo hi).1 ≤ 1 := by
  unfold subc
  by_cases h0 : x.1 % 2 = 0
  · rw [if_pos h0]
    exact ⟨zG.itv rfl h1 h2, Nat.zero_le _⟩
  · rw [if_neg h0]
    obtain ⟨e, hk⟩ := h.lin h0
    exact ⟨zG.mk (by decide) (by rw [hz, e, Int.neg_mul]; omega) hk, Nat.le_refl _⟩
def asub (Γ : aG) (x y : AV) : AV := match ivl Γ x, ivl Γ y with
  | some p, some q => if mI ≤ p.1 - q.2 ∧ p.2 - q.1 ≤ MI then (if q.1 = q.2 then addc x (-q.1) (p.1 - q.2) (p.2 - q.1) else if p.1 = p.2 then subc y p.1 (p.1 - q.2) (p.2 - q.1) else (0, p.1 - q.2, p.2 - q.1, 0)) else top
  | _, _ => top
theorem asub_ok (hg : gok σ Γ) (hx : zG n σ v.toInt x) (hy : zG n σ u.toInt y) : zG n σ (v - u).toInt (asub Γ x y) ∧ (asub Γ x y).1 ≤ 1 := by
  unfold asub
  split
  · rename_i p q hp hq
    have h1 := ivl_ok hg hx hp
    have h2 := ivl_ok hg hy hq
    split
    · rename_i hr
      have e : (v - u).toInt = v.toInt - u.toInt := by rw [Int32.toInt_sub]; exact bm32 (by omega) (by omega)
      split
      · rename_i hc
        exact addc_ok hx (by rw [e]; omega) (by rw [e]; omega) (by rw [e]; omega)
      · split
        · exact subc_ok hy (by rw [e]; omega) (by rw [e]; omega) (by rw [e]; omega)
        · rw [e]
          exact ⟨zG.itv rfl (by omega) (by omega), Nat.zero_le _⟩
    · exact ⟨top_ok _, Nat.zero_le _⟩
  · exact ⟨top_ok _, Nat.zero_le _⟩
/-- c * x for c not below 0, exactly -/
def mulc (x : AV) (c lo hi : Int) : AV := if x.1 % 2 = 0 then (0, lo, hi, 0) else (1, c * x.2.1, c * x.2.2.1, x.2.2.2)
theorem mulc_ok {c lo hi : Int} (h : zG n σ z x) (hz : z' = c * z) (h1 : lo ≤ z') (h2 : z' ≤ hi) : zG n σ z' (mulc x c lo hi) ∧ (mulc x c lo hi).1 ≤ 1 := by
  unfold mulc
  by_cases h0 : x.1 % 2 = 0
  · rw [if_pos h0]
    exact ⟨zG.itv rfl h1 h2, Nat.zero_le _⟩
  · rw [if_neg h0]
    obtain ⟨e, hk⟩ := h.lin h0
    exact ⟨zG.mk (by decide) (by rw [hz, e, Int.mul_add, Int.mul_assoc]) hk, Nat.le_refl _⟩
def amul (Γ : aG) (x y : AV) : AV := match ivl Γ x, ivl Γ y with
  | some p, some q => if p.1 = p.2 ∧ 0 ≤ p.1 ∧ mI ≤ p.1 * q.1 ∧ p.1 * q.2 ≤ MI then mulc y p.1 (p.1 * q.1) (p.1 * q.2) else if q.1 = q.2 ∧ 0 ≤ q.1 ∧ mI ≤ q.1 * p.1 ∧ q.1 * p.2 ≤ MI then mulc x q.1 (q.1 * p.1) (q.1 * p.2) else top
  | _, _ => top
theorem amul_ok (hg : gok σ Γ) (hx : zG n σ v.toInt x) (hy : zG n σ u.toInt y) : zG n σ (v * u).toInt (amul Γ x y) ∧ (amul Γ x y).1 ≤ 1 := by
  unfold amul
  split
  · rename_i p q hp hq
    have h1 := ivl_ok hg hx hp
    have h2 := ivl_ok hg hy hq
    split
    · rename_i hr
      obtain ⟨hc, h0, r1, r2⟩ := hr
      have ev : v.toInt = p.1 := by omega
      have l1 := Int.mul_le_mul_of_nonneg_left h2.1 h0
      have l2 := Int.mul_le_mul_of_nonneg_left h2.2 h0
      have e : (v * u).toInt = p.1 * u.toInt := by rw [Int32.toInt_mul, ev]; exact bm32 (Int.le_trans r1 l1) (Int.le_trans l2 r2)
      exact mulc_ok hy e (by rw [e]; exact l1) (by rw [e]; exact l2)
    · split
      · rename_i hr
        obtain ⟨hc, h0, r1, r2⟩ := hr
        have ev : u.toInt = q.1 := by omega
        have l1 := Int.mul_le_mul_of_nonneg_left h1.1 h0
        have l2 := Int.mul_le_mul_of_nonneg_left h1.2 h0
        have e : (v * u).toInt = q.1 * v.toInt := by rw [Int32.toInt_mul, ev, Int.mul_comm]; exact bm32 (Int.le_trans r1 l1) (Int.le_trans l2 r2)
        exact mulc_ok hx e (by rw [e]; exact l1) (by rw [e]; exact l2)
      · exact ⟨top_ok _, Nat.zero_le _⟩
  · exact ⟨top_ok _, Nat.zero_le _⟩
theorem and_le_r (h : 0 ≤ u.toInt) : 0 ≤ (v &&& u).toInt ∧ (v &&& u).toInt ≤ u.toInt := by
  have hu : 2 * u.toBitVec.toNat < 2 ^ 32 := by
    have := u.toBitVec.isLt
    rw [show u.toInt = u.toBitVec.toInt from rfl, BitVec.toInt_eq_toNat_cond] at h
    split at h
    · assumption
    · omega
  have e1 : u.toInt = (u.toBitVec.toNat : Int) := BitVec.toInt_eq_toNat_of_lt hu
  have l : (v.toBitVec &&& u.toBitVec).toNat ≤ u.toBitVec.toNat := by rw [BitVec.toNat_and]; exact Nat.and_le_right
  have e2 : (v &&& u).toInt = ((v.toBitVec &&& u.toBitVec).toNat : Int) := by
    rw [show (v &&& u).toInt = (v.toBitVec &&& u.toBitVec).toInt from rfl]
    exact BitVec.toInt_eq_toNat_of_lt (by omega)
  rw [e1, e2]
  omega
theorem and_comm32 : v &&& u = u &&& v := Int32.and_comm v u
def aand (Γ : aG) (x y : AV) : AV := match ivl Γ x, ivl Γ y with
  | some p, some q => if 0 ≤ q.1 then (0, 0, q.2, 0) else if 0 ≤ p.1 then (0, 0, p.2, 0) else top
  | _, _ => top
theorem aand_ok (hg : gok σ Γ) (hx : zG n σ v.toInt x) (hy : zG n σ u.toInt y) : zG n σ (v &&& u).toInt (aand Γ x y) ∧ (aand Γ x y).1 ≤ 1 := by
  unfold aand
  split
  · rename_i p q hp hq
    have h1 := ivl_ok hg hx hp
    have h2 := ivl_ok hg hy hq
    split
    · have := and_le_r (v := v) (u := u) (by omega)
      exact ⟨zG.itv rfl this.1 (by omega), Nat.zero_le _⟩
    · split
      · have := and_le_r (v := u) (u := v) (by omega)
        rw [and_comm32]
        exact ⟨zG.itv rfl this.1 (by omega), Nat.zero_le _⟩
      · exact ⟨top_ok _, Nat.zero_le _⟩
  · exact ⟨top_ok _, Nat.zero_le _⟩
end AIA
end
section
/-! ===== division, rest, shifts, signs, conversions ===== -/
section AIR
variable {n : Nat} {σ : Nat → Int} {Γ : aG} {x y : AV} {z z' : Int} {v u : Int32}
theorem div_pos32 (h : 0 < u.toInt) : (v / u).toInt = v.toInt.tdiv u.toInt := by
  refine Int32.toInt_div_of_ne_right v u (fun e => ?_)
  rw [e] at h
  exact absurd h (by decide)
theorem rem_pos32 (h : 0 < u.toInt) : (v - v / u * u).toInt = v.toInt.tmod u.toInt := by
  have hd := div_pos32 (v := v) h
  have b1 := i32_lo v
  have b2 := i32_hi v
  have b3 := i32_hi u
  have e1 : v.toInt.tdiv u.toInt * u.toInt = v.toInt - v.toInt.tmod u.toInt := by
    have := Int.tdiv_mul_add_tmod v.toInt u.toInt
    omega
  have t1 := Int.tmod_lt_of_pos v.toInt h
  have t2 := Int.lt_tmod_of_pos v.toInt h
  have t3 : 0 ≤ v.toInt → 0 ≤ v.toInt.tmod u.toInt := fun h0 => Int.tmod_nonneg _ h0
  have t4 : v.toInt ≤ 0 → v.toInt.tmod u.toInt ≤ 0 := fun h0 => by
    have := Int.tmod_nonneg (a := -v.toInt) u.toInt (by omega)
    rw [Int.neg_tmod] at this
    omega
  unfold mI at b1
  unfold MI at b2 b3
  have e2 : (v / u * u).toInt = v.toInt - v.toInt.tmod u.toInt := by
    rw [Int32.toInt_mul, hd, e1]
    exact bm32 (by unfold mI; omega) (by unfold MI; omega)
  rw [Int32.toInt_sub, e2]
  have e3 : v.toInt - (v.toInt - v.toInt.tmod u.toInt) = v.toInt.tmod u.toInt := by omega
  rw [e3]
  exact bm32 (by unfold mI; omega) (by unfold MI; omega)
/-- a divisor that is not 0 -/
def nz (Γ : aG) (y : AV) : Bool := match ivl Γ y with
  | some q => decide (0 < q.1 ∨ q.2 < 0)
  | none => false
theorem nz_ok (hg : gok σ Γ) (hy : zG n σ u.toInt y) (h : nz Γ y = true) : ¬ u = 0 := by
  unfold nz at h
  split at h
  · rename_i q hq
    have h := of_decide_eq_true h
    have h2 := ivl_ok hg hy hq
    intro e
    rw [e, show (0 : Int32).toInt = 0 from rfl] at h2
    omega
  · cases h
def arem (Γ : aG) (x y : AV) : AV := match ivl Γ x, ivl Γ y with
  | some p, some q => if 0 < q.1 then (if 0 ≤ p.1 then (0, 0, q.2 - 1, 0) else (0, 1 - q.2, q.2 - 1, 0)) else top
  | _, _ => top
theorem arem_ok (hg : gok σ Γ) (hx : zG n σ v.toInt x) (hy : zG n σ u.toInt y) : zG n σ (v - v / u * u).toInt (arem Γ x y) ∧ (arem Γ x y).1 ≤ 1 := by
  unfold arem
  split
  · rename_i p q hp hq
    have h1 := ivl_ok hg hx hp
    have h2 := ivl_ok hg hy hq
    split
    · have hu : 0 < u.toInt := by omega
      have t1 := Int.tmod_lt_of_pos v.toInt hu
      have t2 := Int.lt_tmod_of_pos v.toInt hu
      have t3 : 0 ≤ v.toInt → 0 ≤ v.toInt.tmod u.toInt := fun h0 => Int.tmod_nonneg _ h0
      rw [rem_pos32 hu]
      split
      · exact ⟨zG.itv rfl (t3 (by omega)) (by omega), Nat.zero_le _⟩
      · exact ⟨zG.itv rfl (by omega) (by omega), Nat.zero_le _⟩
    · exact ⟨top_ok _, Nat.zero_le _⟩
  · exact ⟨top_ok _, Nat.zero_le _⟩
def adiv (Γ : aG) (x y : AV) : AV := match ivl Γ x, ivl Γ y with
  | some p, some q => if 0 < q.1 ∧ 0 ≤ p.1 then (0, 0, p.2, 0) else top
  | _, _ => top
theorem adiv_ok (hg : gok σ Γ) (hx : zG n σ v.toInt x) (hy : zG n σ u.toInt y) : zG n σ (v / u).toInt (adiv Γ x y) ∧ (adiv Γ x y).1 ≤ 1 := by
  unfold adiv
  split
  · rename_i p q hp hq
    have h1 := ivl_ok hg hx hp
    have h2 := ivl_ok hg hy hq
    split
    · rename_i hc
      have hu : 0 < u.toInt := by omega
      rw [div_pos32 hu]
      have a1 := Int.tdiv_nonneg (a := v.toInt) (b := u.toInt) (by omega) (by omega)
      have a2 := Int.tdiv_le_self (a := v.toInt) u.toInt (by omega)
      exact ⟨zG.itv rfl a1 (by omega), Nat.zero_le _⟩
    · exact ⟨top_ok _, Nat.zero_le _⟩
  · exact ⟨top_ok _, Nat.zero_le _⟩
theorem ushr8 (v : Int32) : 0 ≤ ((v.toUInt32 >>> ((8 : Int32).toUInt32 &&& Int32.toUInt32 31)).toInt32).toInt ∧ ((v.toUInt32 >>> ((8 : Int32).toUInt32 &&& Int32.toUInt32 31)).toInt32).toInt ≤ 16777215 := by
  rw [show ((8 : Int32).toUInt32 &&& Int32.toUInt32 31) = 8 by decide]
  have e : (v.toUInt32 >>> (8 : UInt32)).toNat < 16777216 := by
    rw [UInt32.toNat_shiftRight, show (8 : UInt32).toNat % 32 = 8 by decide, Nat.shiftRight_eq_div_pow]
    have := v.toUInt32.toNat_lt
    omega
  have e2 : ((v.toUInt32 >>> (8 : UInt32)).toInt32).toInt = ((v.toUInt32 >>> (8 : UInt32)).toNat : Int) := by
    show (v.toUInt32 >>> (8 : UInt32)).toBitVec.toInt = _
    exact BitVec.toInt_eq_toNat_of_lt (by
      show 2 * (v.toUInt32 >>> (8 : UInt32)).toNat < 2 ^ 32
      omega)
  rw [e2]
  omega
def aushr (Γ : aG) (y : AV) : AV := if ivl Γ y = some (8, 8) then (0, 0, 16777215, 0) else top
theorem aushr_ok (hg : gok σ Γ) (hy : zG n σ u.toInt y) : zG n σ ((v.toUInt32 >>> (u.toUInt32 &&& Int32.toUInt32 31)).toInt32).toInt (aushr Γ y) ∧ (aushr Γ y).1 ≤ 1 := by
  unfold aushr
  split
  · rename_i h8
    have h := ivl_ok hg hy h8
    dsimp only at h
    have e : u = 8 := Int32.toInt_inj.mp (show u.toInt = (8 : Int32).toInt by rw [show (8 : Int32).toInt = 8 from rfl]; omega)
    subst e
    have := ushr8 v
    exact ⟨zG.itv rfl this.1 this.2, Nat.zero_le _⟩
  · exact ⟨top_ok _, Nat.zero_le _⟩
def aneg (Γ : aG) (x : AV) : AV := match ivl Γ x with
  | some p => if mI < p.1 then subc x 0 (-p.2) (-p.1) else top
  | none => top
theorem aneg_ok (hg : gok σ Γ) (hx : zG n σ v.toInt x) : zG n σ (-v).toInt (aneg Γ x) ∧ (aneg Γ x).1 ≤ 1 := by
  unfold aneg
  split
  · rename_i p hp
    have h1 := ivl_ok hg hx hp
    have b2 := i32_hi v
    split
    · rename_i hc
      unfold mI at hc
      unfold MI at b2
      have e : (-v).toInt = -v.toInt := by rw [Int32.toInt_neg]; exact bm32 (by unfold mI; omega) (by unfold MI; omega)
      exact subc_ok hx (by rw [e]; omega) (by rw [e]; omega) (by rw [e]; omega)
    · exact ⟨top_ok _, Nat.zero_le _⟩
  · exact ⟨top_ok _, Nat.zero_le _⟩
def ai2s : AV := (0, -32768, 32767, 0)
theorem ai2s_ok (v : Int32) : zG n σ v.toInt16.toInt32.toInt ai2s ∧ ai2s.1 ≤ 1 := by
  rw [Int16.toInt_toInt32]
  have h1 := Int16.le_toInt v.toInt16
  have h2 := Int16.toInt_lt v.toInt16
  exact ⟨zG.itv rfl (by omega) (by omega), Nat.zero_le _⟩
def amax (Γ : aG) (x y : AV) : AV := match ivl Γ x, ivl Γ y with
  | some p, some q => (0, max p.1 q.1, max p.2 q.2, 0)
  | _, _ => top
theorem amax_ok (hg : gok σ Γ) (hx : zG n σ v.toInt x) (hy : zG n σ u.toInt y) : zG n σ (if v < u then u else v).toInt (amax Γ x y) ∧ (amax Γ x y).1 ≤ 1 := by
  unfold amax
  have hlt := Int32.lt_iff_toInt_lt (x := v) (y := u)
  cases hp : ivl Γ x with
  | none => exact ⟨top_ok _, Nat.zero_le _⟩
  | some p =>
    cases hq : ivl Γ y with
    | none => exact ⟨top_ok _, Nat.zero_le _⟩
    | some q =>
      have h1 := ivl_ok hg hx hp
      have h2 := ivl_ok hg hy hq
      by_cases h : v < u
      · rw [if_pos h]
        have h := hlt.mp h
        exact ⟨zG.itv rfl (by omega) (by omega), Nat.zero_le _⟩
      · rw [if_neg h]
        have h : ¬ v.toInt < u.toInt := fun q => h (hlt.mpr q)
        exact ⟨zG.itv rfl (by omega) (by omega), Nat.zero_le _⟩
def amin (Γ : aG) (x y : AV) : AV := match ivl Γ x, ivl Γ y with
  | some p, some q => (0, min p.1 q.1, min p.2 q.2, 0)
  | _, _ => top
theorem amin_ok (hg : gok σ Γ) (hx : zG n σ v.toInt x) (hy : zG n σ u.toInt y) : zG n σ (if u < v then u else v).toInt (amin Γ x y) ∧ (amin Γ x y).1 ≤ 1 := by
  unfold amin
  have hlt := Int32.lt_iff_toInt_lt (x := u) (y := v)
  cases hp : ivl Γ x with
  | none => exact ⟨top_ok _, Nat.zero_le _⟩
  | some p =>
    cases hq : ivl Γ y with
    | none => exact ⟨top_ok _, Nat.zero_le _⟩
    | some q =>
      have h1 := ivl_ok hg hx hp
      have h2 := ivl_ok hg hy hq
      by_cases h : u < v
      · rw [if_pos h]
        have h := hlt.mp h
        exact ⟨zG.itv rfl (by omega) (by omega), Nat.zero_le _⟩
      · rw [if_neg h]
        have h : ¬ u.toInt < v.toInt := fun q => h (hlt.mpr q)
        exact ⟨zG.itv rfl (by omega) (by omega), Nat.zero_le _⟩
end AIR
end
section
/-! ===== WHAT THE CELLS ARE: types of cells, contents, frames; abstract locals and stacks; naming of values ===== -/
abbrev aT : Type := (Nat × List (Nat × Nat × Int × Int)) ⊕ ((Nat × Nat × (Nat → Option Nat)) ⊕ (Nat × List AV))
abbrev aC : Type := List (AV × AV × AV)
abbrev aD : Type := List (Nat × AV × AV × AV)
abbrev aS : Type := aG × aC × aD × aL × List AV
abbrev aW : Type := List (Nat × Nat × Nat × Nat)
def any7 : AV := (7, 0, 0, 0)
def cn (a : Int) : AV := (0, a, a, 0)
def rf5 (a : Nat) : AV := (5, 0, 0, a)
section AST
variable {n n' : Nat} {σ σ' : Nat → Int} {Γ Γ' : aG} {w : Value} {x y : AV} {z : Int}
def lG (n : Nat) (σ : Nat → Int) (o : Option Value) (x : AV) : Prop := if x.1 = 7 then pcat2 o = false else ∃ w, o = some w ∧ vG n σ w x
def LG (n : Nat) (σ : Nat → Int) (L : pL) (A : aL) : Prop := L.length = A.length ∧ ∀ (k : Nat) (x : AV), A[k]? = some x → lG n σ (pget L k) x
def SG (n : Nat) (σ : Nat → Int) : List Value → List AV → Prop
  | [], [] => True
  | w :: st, x :: s => vG n σ w x ∧ SG n σ st s
  | _, _ => False
theorem lG.up (hn : n ≤ n') (ha : agr n σ σ') {o : Option Value} (h : lG n σ o x) : lG n' σ' o x := by
  unfold lG at h ⊢
  split at h
  · rename_i h7
    rw [if_pos h7]
    exact h
  · rename_i h7
    rw [if_neg h7]
    obtain ⟨w, h1, h2⟩ := h
    exact ⟨w, h1, h2.up hn ha⟩
theorem LG.up (hn : n ≤ n') (ha : agr n σ σ') {L : pL} {A : aL} (h : LG n σ L A) : LG n' σ' L A := ⟨h.1, fun k x hk => (h.2 k x hk).up hn ha⟩
theorem SG.up (hn : n ≤ n') (ha : agr n σ σ') : ∀ {st : List Value} {s : List AV}, SG n σ st s → SG n' σ' st s
  | [], [], _ => trivial
  | _ :: _, _ :: _, h => ⟨h.1.up hn ha, SG.up hn ha h.2⟩
  | [], _ :: _, h => h.elim
  | _ :: _, [], h => h.elim
theorem SG.cons_inv {st : List Value} {s : List AV} (h : SG n σ st (x :: s)) : ∃ w r, st = w :: r ∧ vG n σ w x ∧ SG n σ r s := by
  cases st with
  | nil => exact h.elim
  | cons w r => exact ⟨w, r, rfl, h.1, h.2⟩
theorem SG.nil_inv {st : List Value} (h : SG n σ st []) : st = [] := by
  cases st with
  | nil => rfl
  | cons w r => exact h.elim
theorem SG.len : ∀ {st : List Value} {s : List AV}, SG n σ st s → st.length = s.length
  | [], [], _ => rfl
  | _ :: _, _ :: _, h => by rw [List.length_cons, List.length_cons, SG.len h.2]
  | [], _ :: _, h => h.elim
  | _ :: _, [], h => h.elim
theorem SG.drop : ∀ (k : Nat) {st : List Value} {s : List AV}, SG n σ st s → SG n σ (st.drop k) (s.drop k)
  | 0, _, _, h => h
  | _ + 1, [], [], _ => trivial
  | k + 1, _ :: _, _ :: _, h => SG.drop k h.2
  | _ + 1, [], _ :: _, h => h.elim
  | _ + 1, _ :: _, [], h => h.elim
theorem SG.take : ∀ (k : Nat) {st : List Value} {s : List AV}, SG n σ st s → SG n σ (st.take k) (s.take k)
  | 0, _, _, _ => trivial
  | _ + 1, [], [], _ => trivial
  | k + 1, _ :: _, _ :: _, h => ⟨h.1, SG.take k h.2⟩
  | _ + 1, [], _ :: _, h => h.elim
  | _ + 1, _ :: _, [], h => h.elim
theorem SG.app : ∀ {st : List Value} {s : List AV} {st2 : List Value} {s2 : List AV}, SG n σ st s → SG n σ st2 s2 → SG n σ (st ++ st2) (s ++ s2)
  | [], [], _, _, _, h2 => h2
  | _ :: _, _ :: _, _, _, h, h2 => ⟨h.1, SG.app h.2 h2⟩
  | [], _ :: _, _, _, h, _ => h.elim
  | _ :: _, [], _, _, h, _ => h.elim
theorem SG.rev : ∀ {st : List Value} {s : List AV}, SG n σ st s → SG n σ st.reverse s.reverse
  | [], [], _ => trivial
  | w :: st, x :: s, h => by
    rw [List.reverse_cons, List.reverse_cons]
    exact SG.app (SG.rev h.2) ⟨h.1, trivial⟩
  | [], _ :: _, h => h.elim
  | _ :: _, [], h => h.elim
def acat (x : AV) : Nat := if x.1 = 2 ∨ x.1 = 3 then 2 else 1
theorem acat_ok (h : vG n σ w x) : w.category = acat x := by
  unfold acat
  unfold vG at h
  split at h
  · rw [if_neg (by omega)]; rfl
  · rw [if_pos h.1]; rfl
  · rw [if_neg (by omega)]; rfl
  · rw [if_neg (by omega)]; rfl
  · cases h
def acs (s : List AV) : Nat := (s.map acat).sum
theorem acs_ok : ∀ {st : List Value} {s : List AV}, SG n σ st s → pcs st = acs s
  | [], [], _ => rfl
  | w :: st, x :: s, h => by
    have h1 := acs_ok h.2
    unfold pcs acs at h1 ⊢
    rw [List.map_cons, List.map_cons, List.sum_cons, List.sum_cons, acat_ok h.1, h1]
  | [], _ :: _, h => h.elim
  | _ :: _, [], h => h.elim
theorem vG.cat2 (h : vG n σ w x) (hx : ¬ (x.1 = 2 ∨ x.1 = 3)) : pcat2 (some w) = false := by
  unfold vG at h
  split at h
  · rfl
  · exact absurd h.1 hx
  · rfl
  · rfl
  · cases h
theorem LG.at {L : pL} {A : aL} {k : Nat} (h : LG n σ L A) (hk : A[k]? = some x) (h7 : x.1 ≠ 7) : ∃ w, pget L k = some w ∧ vG n σ w x := by
  have := h.2 k x hk
  unfold lG at this
  rw [if_neg h7] at this
  exact this
theorem LG.cat2 {L : pL} {A : aL} {k : Nat} (h : LG n σ L A) (hk : A[k]? = some x) (hx : ¬ (x.1 = 2 ∨ x.1 = 3)) : pcat2 (pget L k) = false := by
  have h1 := h.2 k x hk
  unfold lG at h1
  split at h1
  · exact h1
  · obtain ⟨w, e, hv⟩ := h1
    rw [e]
    exact hv.cat2 hx
/-- a local becomes x -/
def aset (A : aL) (i : Nat) (x : AV) : Option aL := match A[i]?, A[i - 1]? with
  | some _, some y => if y.1 = 2 ∨ y.1 = 3 then none else some (A.set i x)
  | _, _ => none
theorem aset_ok {L : pL} {A A' : aL} {i : Nat} (h : LG n σ L A) (hv : vG n σ w x) (hs : aset A i x = some A') : ∃ L', pset L i w = some L' ∧ LG n σ L' A' := by
  unfold aset at hs
  split at hs
  · rename_i x0 y0 hx0 hy0
    split at hs
    · cases hs
    · rename_i hy
      cases hs
      have hi : i < L.length := by rw [h.1]; exact (List.getElem?_eq_some_iff.mp hx0).1
      have hc : pcat2 (pget L (i - 1)) = false := h.cat2 hy0 hy
      refine ⟨L.set i (some w), ?_, ?_, ?_⟩
      · unfold pset
        rw [if_pos hi, hc]
        rfl
      · rw [List.length_set, List.length_set]
        exact h.1
      · intro k y hk
        by_cases e : k = i
        · subst e
          rw [List.getElem?_set_self (by rw [← h.1]; exact hi)] at hk
          cases hk
          have hx7 : x.1 ≠ 7 := by
            unfold vG at hv
            split at hv <;> first | omega | exact hv.elim
          unfold lG
          rw [if_neg hx7]
          refine ⟨w, ?_, hv⟩
          unfold pget
          rw [List.getElem?_set_self hi]
        · rw [List.getElem?_set_ne (Ne.symm e)] at hk
          have h1 := h.2 k y hk
          have e2 : pget (L.set i (some w)) k = pget L k := by
            unfold pget
            rw [List.getElem?_set_ne (Ne.symm e)]
          rw [e2]
          exact h1
  · cases hs
/-! arguments -/
def aexp : List AV → List AV
  | [] => []
  | x :: r => if x.1 = 2 ∨ x.1 = 3 then x :: any7 :: aexp r else x :: aexp r
def aent (n : Nat) (as : List AV) : List AV := aexp as ++ List.replicate (n - (aexp as).length) any7
theorem lG.any {o : Option Value} (h : pcat2 o = false) : lG n σ o any7 := by
  unfold lG
  rw [if_pos (show any7.1 = 7 from rfl)]
  exact h
theorem lG.of {o : Option Value} (ho : o = some w) (h : vG n σ w x) : lG n σ o x := by
  have hx7 : x.1 ≠ 7 := by
    unfold vG at h
    split at h <;> first | omega | exact h.elim
  unfold lG
  rw [if_neg hx7]
  exact ⟨w, ho, h⟩
theorem pget_cons0 (o : Option Value) (L : pL) : pget (o :: L) 0 = o := rfl
theorem pget_consS (o : Option Value) (L : pL) (k : Nat) : pget (o :: L) (k + 1) = pget L k := by
  unfold pget
  rw [List.getElem?_cons_succ]
theorem aexp_ok : ∀ {as : List Value} {xs : List AV}, SG n σ as xs → LG n σ (pexp as) (aexp xs)
  | [], [], _ => ⟨rfl, fun k x hk => by simp [aexp] at hk⟩
  | w :: as, x :: xs, h => by
    have ih := aexp_ok h.2
    have hv := h.1
    by_cases hx : x.1 = 2 ∨ x.1 = 3
    · obtain ⟨u, rfl, -⟩ := hv.long hx
      have e : aexp (x :: xs) = x :: any7 :: aexp xs := by rw [aexp, if_pos hx]
      rw [e]
      refine ⟨by show (pexp as).length + 1 + 1 = _; rw [ih.1]; rfl, fun k y hk => ?_⟩
      match k, hk with
      | 0, hk => cases hk; exact lG.of rfl hv
      | 1, hk => cases hk; exact lG.any rfl
      | k + 2, hk =>
        show lG n σ (pget (some (.long u) :: none :: pexp as) (k + 2)) y
        rw [pget_consS, pget_consS]
        exact ih.2 k y hk
    · have e : aexp (x :: xs) = x :: aexp xs := by rw [aexp, if_neg hx]
      have e2 : pexp (w :: as) = some w :: pexp as := by
        unfold vG at hv
        split at hv
        · rfl
        · exact absurd hv.1 hx
        · rfl
        · rfl
        · cases hv
      rw [e, e2]
      refine ⟨by rw [List.length_cons, List.length_cons, ih.1], fun k y hk => ?_⟩
      match k, hk with
      | 0, hk => cases hk; exact lG.of rfl hv
      | k + 1, hk =>
        rw [pget_consS]
        exact ih.2 k y hk
  | [], _ :: _, h => h.elim
  | _ :: _, [], h => h.elim
theorem aent_ok {as : List Value} {xs : List AV} (m : Nat) (h : SG n σ as xs) : LG n σ (pent m as) (aent m xs) := by
  have h1 := aexp_ok h
  unfold pent aent
  refine ⟨by rw [List.length_append, List.length_append, List.length_replicate, List.length_replicate, h1.1], fun k x hk => ?_⟩
  by_cases hl : k < (aexp xs).length
  · rw [List.getElem?_append_left hl] at hk
    have e : pget (pexp as ++ List.replicate (m - (pexp as).length) none) k = pget (pexp as) k := by
      unfold pget
      rw [List.getElem?_append_left (by rw [h1.1]; exact hl)]
    rw [e]
    exact h1.2 k x hk
  · have hl : (aexp xs).length ≤ k := Nat.not_lt.mp hl
    rw [List.getElem?_append_right hl] at hk
    obtain ⟨hq, hx⟩ := List.getElem?_eq_some_iff.mp hk
    rw [List.getElem_replicate] at hx
    subst hx
    refine lG.any ?_
    have e : pget (pexp as ++ List.replicate (m - (pexp as).length) none) k = none := by
      unfold pget
      rw [List.getElem?_append_right (by rw [h1.1]; exact hl)]
      rw [List.length_replicate] at hq
      rw [List.getElem?_replicate]
      split
      · rename_i v hv
        split at hv
        · cases hv; rfl
        · cases hv
      · rfl
    rw [e]
    rfl
/-! naming -/
theorem gok.push {e : aE} (hg : gok σ Γ) (he : eG z e) : ∃ σ', agr Γ.length σ σ' ∧ gok σ' (Γ ++ [e]) ∧ σ' Γ.length = z := by
  refine ⟨fun k => if k = Γ.length then z else σ k, fun k hk => if_neg (Nat.ne_of_lt hk), fun k e' hk => ?_, if_pos rfl⟩
  by_cases hl : k < Γ.length
  · rw [List.getElem?_append_left hl] at hk
    show eG (if k = Γ.length then z else σ k) e'
    rw [if_neg (Nat.ne_of_lt hl)]
    exact hg k e' hk
  · have h1 := (List.getElem?_eq_some_iff.mp hk).1
    rw [List.length_append, List.length_singleton] at h1
    have e1 : k = Γ.length := by omega
    subst e1
    rw [List.getElem?_append_right (Nat.le_refl _), Nat.sub_self] at hk
    cases hk
    show eG (if Γ.length = Γ.length then z else σ Γ.length) e
    rw [if_pos rfl]
    exact he
theorem agr.gok0 {m : Nat} (h : agr m σ σ') (hg : gok σ Γ) (hm : Γ.length ≤ m) : gok σ' Γ := fun k e hk => by
  rw [h k (Nat.lt_of_lt_of_le (List.getElem?_eq_some_iff.mp hk).1 hm)]
  exact hg k e hk
def nm (Γ : aG) (x : AV) : aG × AV := if x.1 = 0 then (if x.2.1 < x.2.2.1 then (Γ ++ [.inl (x.2.1, x.2.2.1)], (1, 1, 0, Γ.length)) else (Γ, x)) else (Γ, x)
theorem nm_ok {v : Int32} (hg : gok σ Γ) (hz : zG Γ.length σ v.toInt x) (h1 : x.1 ≤ 1) : ∃ σ', agr Γ.length σ σ' ∧ gok σ' (nm Γ x).1 ∧ Γ.length ≤ (nm Γ x).1.length ∧ vG (nm Γ x).1.length σ' (.int v) (nm Γ x).2 := by
  unfold nm
  by_cases h0 : x.1 = 0
  · rw [if_pos h0]
    by_cases hlt : x.2.1 < x.2.2.1
    · rw [if_pos hlt]
      have hz2 := hz
      unfold zG at hz2
      rw [if_pos (by rw [h0])] at hz2
      obtain ⟨σ', a1, a2, a3⟩ := gok.push (z := v.toInt) (e := .inl (x.2.1, x.2.2.1)) hg hz2
      refine ⟨σ', a1, a2, by rw [List.length_append]; omega, ?_⟩
      refine ⟨Nat.le_refl _, zG.mk (by decide) (by rw [a3]; omega) (by rw [List.length_append]; exact Nat.lt_succ_self _)⟩
    · rw [if_neg hlt]
      exact ⟨σ, agr.rf _ _, hg, Nat.le_refl _, h1, hz⟩
  · rw [if_neg h0]
    exact ⟨σ, agr.rf _ _, hg, Nat.le_refl _, h1, hz⟩
/-- a value out of the cells -/
def wE (w : Value) (e : aE) : Prop := match e with
  | .inl p => ∃ v : Int32, w = .int v ∧ p.1 ≤ v.toInt ∧ v.toInt ≤ p.2
  | .inr as => ∃ a ∈ as, w = .ref a
def nmE (Γ : aG) (e : aE) : aG × AV := match e with
  | .inl p => nm Γ (0, p.1, p.2, 0)
  | .inr [a] => (Γ, rf5 a)
  | .inr as => (Γ ++ [.inr as], (6, 0, 0, Γ.length))
theorem nmE_ok {e : aE} (hg : gok σ Γ) (hw : wE w e) : ∃ σ', agr Γ.length σ σ' ∧ gok σ' (nmE Γ e).1 ∧ Γ.length ≤ (nmE Γ e).1.length ∧ vG (nmE Γ e).1.length σ' w (nmE Γ e).2 := by
  unfold nmE
  split
  · obtain ⟨v, rfl, h1, h2⟩ := hw
    exact nm_ok hg (zG.itv rfl h1 h2) (Nat.zero_le _)
  · obtain ⟨a, ha, rfl⟩ := hw
    obtain rfl := List.mem_singleton.mp ha
    exact ⟨σ, agr.rf _ _, hg, Nat.le_refl _, Or.inl ⟨rfl, rfl⟩⟩
  · rename_i as _
    obtain ⟨a, ha, rfl⟩ := hw
    obtain ⟨σ', a1, a2, a3⟩ := gok.push (z := Int.ofNat a) (e := .inr as) hg ⟨a, ha, rfl⟩
    exact ⟨σ', a1, a2, by rw [List.length_append]; omega, Or.inr ⟨rfl, by rw [a3]; rfl, by rw [List.length_append]; exact Nat.lt_succ_self _⟩⟩
/-! addresses -/
def adrs (Γ : aG) (x : AV) : Option (List Nat) := if x.1 = 5 then some [x.2.2.2] else if x.1 = 6 then (match Γ[x.2.2.2]? with
  | some (.inr as) => some as
  | _ => none) else none
theorem adrs_ok {as : List Nat} {m : Nat} (hg : gok σ Γ) (hv : vG m σ w x) (h : adrs Γ x = some as) : ∃ a ∈ as, w = .ref a := by
  unfold adrs at h
  split at h
  · rename_i h5
    cases h
    obtain ⟨a, rfl, h1 | h1⟩ := hv.ref (Or.inl h5)
    · exact ⟨a, by rw [h1.2]; exact List.mem_cons_self, rfl⟩
    · omega
  · split at h
    · rename_i h6
      split at h
      · rename_i as' hk
        cases h
        obtain ⟨a, rfl, h1 | h1⟩ := hv.ref (Or.inr h6)
        · omega
        · obtain ⟨b, hb, e⟩ : ∃ b ∈ as, σ x.2.2.2 = Int.ofNat b := hg _ _ hk
          refine ⟨a, ?_, rfl⟩
          rw [h1.2.1, e]
          exact hb
      · cases h
    · cases h
end AST
end
section
/-! ===== reading and writing of cells by their types ===== -/
section ACE
variable {n n' : Nat} {σ σ' : Nat → Int} {Γ Γ' : aG} {w : Value} {x y : AV} {z : Int} {T : List aT} {W : aW} {h h' h0 : List pC} {a i : Nat}
def ct (h : List pC) (a i : Nat) : Option Value := match h[a]? with
  | some (.inl x) => if i < x.1 then some (.int (x.2 i)) else none
  | some (.inr (.inl x)) => if i < x.2.1 then some (va_rf (x.2.2 i)) else none
  | some (.inr (.inr o)) => o.2[i]?
  | none => none
def knd (c : pC) : Nat := match c with
  | .inl _ => 0
  | .inr (.inl _) => 1
  | .inr (.inr o) => 2 + o.1
def FG (vs : List Value) (xs : List AV) : Prop := SG 0 (fun _ => 0) vs xs
def tyG (t : aT) (c : pC) : Prop := match t, c with
  | .inl t, .inl x => x.1 = t.1 ∧ ∀ s ∈ t.2, ∀ i : Nat, s.1 ≤ i → i ≤ s.2.1 → i < t.1 → s.2.2.1 ≤ (x.2 i).toInt ∧ (x.2 i).toInt ≤ s.2.2.2
  | .inr (.inl t), .inr (.inl x) => x.1 = t.1 ∧ x.2.1 = t.2.1 ∧ ∀ i : Nat, i < t.2.1 → x.2.2 i = t.2.2 i
  | .inr (.inr t), .inr (.inr x) => x.1 = t.1 ∧ FG x.2 t.2
  | _, _ => False
def HI (T : List aT) (h : List pC) : Prop := h.length = T.length ∧ ∀ (a : Nat) (t : aT), T[a]? = some t → ∃ c, h[a]? = some c ∧ tyG t c
def inW (W : aW) (a i : Nat) : Bool := W.any (fun b => decide (b.1 ≤ a) && decide (a ≤ b.2.1) && decide (b.2.2.1 ≤ i) && decide (i ≤ b.2.2.2))
def Fr (W : aW) (h h' : List pC) : Prop := ∀ a i : Nat, inW W a i = false → ct h' a i = ct h a i
theorem Fr.rf (W : aW) (h : List pC) : Fr W h h := fun _ _ _ => rfl
theorem Fr.tr {h1 h2 h3 : List pC} (h12 : Fr W h1 h2) (h23 : Fr W h2 h3) : Fr W h1 h3 := fun a i q => (h23 a i q).trans (h12 a i q)
def subW (W1 W2 : aW) : Bool := W1.all (fun b => W2.any (fun c => decide (c.1 ≤ b.1) && decide (b.2.1 ≤ c.2.1) && decide (c.2.2.1 ≤ b.2.2.1) && decide (b.2.2.2 ≤ c.2.2.2)))
theorem subW_ok {W1 W2 : aW} (hs : subW W1 W2 = true) (hq : inW W2 a i = false) : inW W1 a i = false := by
  cases hc : inW W1 a i with
  | false => rfl
  | true =>
    exfalso
    unfold inW at hc
    obtain ⟨b, hb, hb2⟩ := List.any_eq_true.mp hc
    obtain ⟨c, hcm, hc2⟩ := List.any_eq_true.mp (List.all_eq_true.mp hs b hb)
    simp only [Bool.and_eq_true, decide_eq_true_eq] at hb2 hc2
    have : inW W2 a i = true := List.any_eq_true.mpr ⟨c, hcm, by
      simp only [Bool.and_eq_true, decide_eq_true_eq]
      omega⟩
    rw [this] at hq
    cases hq
theorem Fr.sub {W1 W2 : aW} (hf : Fr W1 h h') (hs : subW W1 W2 = true) : Fr W2 h h' := fun a i hq => hf a i (subW_ok hs hq)
/-! what a cell's content can be -/
def segE (lo hi : Int) : List (Nat × Nat × Int × Int) → Int × Int
  | [] => (mI, MI)
  | s :: r => if (s.1 : Int) ≤ lo ∧ hi ≤ (s.2.1 : Int) then (s.2.2.1, s.2.2.2) else segE lo hi r
theorem segE_ok {m : Nat} {f : Nat → Int32} {lo hi : Int} : ∀ (sg : List (Nat × Nat × Int × Int)), (∀ s ∈ sg, ∀ i : Nat, s.1 ≤ i → i ≤ s.2.1 → i < m → s.2.2.1 ≤ (f i).toInt ∧ (f i).toInt ≤ s.2.2.2) → lo ≤ (i : Int) → (i : Int) ≤ hi → i < m → (segE lo hi sg).1 ≤ (f i).toInt ∧ (f i).toInt ≤ (segE lo hi sg).2
  | [], _, _, _, _ => ⟨i32_lo _, i32_hi _⟩
  | s :: r, hs, h1, h2, hm => by
    rw [segE]
    split
    · rename_i hc
      exact hs s List.mem_cons_self i (by omega) (by omega) hm
    · exact segE_ok r (fun s' hs' => hs s' (List.mem_cons_of_mem _ hs')) h1 h2 hm
def rfsE (f : Nat → Option Nat) : Nat → Nat → Option (List Nat)
  | 0, _ => some []
  | n + 1, i => match f i, rfsE f n (i + 1) with
    | some a, some l => some (a :: l)
    | _, _ => none
theorem rfsE_ok {f : Nat → Option Nat} : ∀ (n j : Nat) (l : List Nat), rfsE f n j = some l → j ≤ i → i < j + n → ∃ a ∈ l, f i = some a
  | 0, j, l, _, h1, h2 => by omega
  | n + 1, j, l, hl, h1, h2 => by
    rw [rfsE] at hl
    split at hl
    · rename_i b l' hb hl'
      cases hl
      by_cases e : i = j
      · subst e
        exact ⟨b, List.mem_cons_self, hb⟩
      · obtain ⟨c, hc, hf⟩ := rfsE_ok n (j + 1) l' hl' (by omega) (by omega)
        exact ⟨c, List.mem_cons_of_mem _ hc, hf⟩
    · cases hl
def fldE (x : AV) : Option aE := if x.1 = 0 then some (.inl (x.2.1, x.2.2.1)) else if x.1 = 5 then some (.inr [x.2.2.2]) else none
def elT (T : List aT) (k a : Nat) (lo hi : Int) : Option aE := match T[a]? with
  | some (.inl t) => if k = 0 ∧ 0 ≤ lo ∧ hi < (t.1 : Int) then some (.inl (segE lo hi t.2)) else none
  | some (.inr (.inl t)) => if k = 1 ∧ 0 ≤ lo ∧ hi < (t.2.1 : Int) then (match rfsE t.2.2 ((hi - lo).toNat + 1) lo.toNat with
    | some l => some (.inr l)
    | none => none) else none
  | some (.inr (.inr t)) => if k = 2 + t.1 ∧ 0 ≤ lo ∧ lo = hi then (match t.2[lo.toNat]? with
    | some x => fldE x
    | none => none) else none
  | none => none
theorem FG.at : ∀ {vs : List Value} {xs : List AV} {k : Nat} {x : AV}, FG vs xs → xs[k]? = some x → ∃ w, vs[k]? = some w ∧ vG 0 (fun _ => 0) w x
  | _ :: _, _ :: _, 0, _, h, hk => by cases hk; exact ⟨_, rfl, h.1⟩
  | _ :: vs, _ :: xs, k + 1, _, h, hk => FG.at (vs := vs) (xs := xs) (k := k) h.2 hk
  | [], [], _, _, _, hk => by simp at hk
  | [], _ :: _, _, _, h, _ => h.elim
  | _ :: _, [], _, _, h, _ => h.elim
theorem FG.set : ∀ {vs : List Value} {xs : List AV} {k : Nat} {x : AV} {w : Value}, FG vs xs → xs[k]? = some x → vG 0 (fun _ => 0) w x → FG (vs.set k w) xs
  | _ :: _, _ :: _, 0, _, _, h, hk, hw => by cases hk; exact ⟨hw, h.2⟩
  | _ :: vs, _ :: xs, k + 1, _, _, h, hk, hw => ⟨h.1, FG.set (vs := vs) (xs := xs) (k := k) h.2 hk hw⟩
  | [], [], _, _, _, _, hk, _ => by simp at hk
  | [], _ :: _, _, _, _, h, _, _ => h.elim
  | _ :: _, [], _, _, _, h, _, _ => h.elim
theorem fldE_ok {e : aE} (hv : vG 0 (fun _ => 0) w x) (he : fldE x = some e) : wE w e := by
  unfold fldE at he
  split at he
  · rename_i h0
    cases he
    obtain ⟨v, rfl, hz⟩ := hv.int (by omega)
    refine ⟨v, rfl, ?_⟩
    unfold zG at hz
    rw [if_pos (by rw [h0])] at hz
    exact hz
  · split at he
    · rename_i h5
      cases he
      obtain ⟨b, rfl, hb | hb⟩ := hv.ref (Or.inl h5)
      · exact ⟨b, by rw [hb.2]; exact List.mem_cons_self, rfl⟩
      · omega
    · cases he
theorem elT_ok {k : Nat} {lo hi : Int} {e : aE} (hh : HI T h) (he : elT T k a lo hi = some e) (h1 : lo ≤ (i : Int)) (h2 : (i : Int) ≤ hi) : ∃ c w, h[a]? = some c ∧ knd c = k ∧ ct h a i = some w ∧ wE w e := by
  unfold elT at he
  split at he
  · rename_i t ht
    obtain ⟨c, hc, hty⟩ := hh.2 a _ ht
    split at he
    · rename_i hq
      cases he
      rcases c with x | x | x
      · obtain ⟨q1, q2⟩ : x.1 = t.1 ∧ _ := hty
        have hi' : i < t.1 := by omega
        refine ⟨_, .int (x.2 i), hc, hq.1.symm, ?_, x.2 i, rfl, ?_⟩
        · unfold ct
          rw [hc]
          exact if_pos (by rw [q1]; exact hi')
        · exact segE_ok t.2 q2 h1 h2 hi'
      · exact hty.elim
      · exact hty.elim
    · cases he
  · rename_i t ht
    obtain ⟨c, hc, hty⟩ := hh.2 a _ ht
    split at he
    · rename_i hq
      split at he
      · rename_i l hl
        cases he
        rcases c with x | x | x
        · exact hty.elim
        · obtain ⟨q1, q2, q3⟩ : x.1 = t.1 ∧ x.2.1 = t.2.1 ∧ _ := hty
          have hi' : i < t.2.1 := by omega
          obtain ⟨b, hb, hf⟩ := rfsE_ok _ _ l hl (i := i) (by omega) (by omega)
          refine ⟨_, .ref b, hc, hq.1.symm, ?_, b, hb, rfl⟩
          unfold ct
          rw [hc]
          show (if i < x.2.1 then some (va_rf (x.2.2 i)) else none) = _
          rw [if_pos (by rw [q2]; exact hi'), q3 i hi', hf]
          rfl
        · exact hty.elim
      · cases he
    · cases he
  · rename_i t ht
    obtain ⟨c, hc, hty⟩ := hh.2 a _ ht
    split at he
    · rename_i hq
      split at he
      · rename_i y hy
        rcases c with x | x | x
        · exact hty.elim
        · exact hty.elim
        · obtain ⟨q1, q2⟩ : x.1 = t.1 ∧ FG x.2 t.2 := hty
          have ei : lo.toNat = i := by omega
          rw [ei] at hy
          obtain ⟨w, hw, hv⟩ := FG.at q2 hy
          refine ⟨_, w, hc, by rw [hq.1, ← q1]; rfl, ?_, fldE_ok hv he⟩
          unfold ct
          rw [hc]
          exact hw
      · cases he
    · cases he
  · cases he
def jnE (e f : aE) : Option aE := match e, f with
  | .inl p, .inl q => some (.inl (min p.1 q.1, max p.2 q.2))
  | .inr a, .inr b => some (.inr (a ++ b))
  | _, _ => none
theorem jnE_l {e f g : aE} (hj : jnE e f = some g) (hw : wE w e) : wE w g := by
  unfold jnE at hj
  split at hj
  · cases hj
    obtain ⟨v, rfl, h1, h2⟩ := hw
    exact ⟨v, rfl, Int.le_trans (Int.min_le_left _ _) h1, Int.le_trans h2 (Int.le_max_left _ _)⟩
  · cases hj
    obtain ⟨a, ha, rfl⟩ := hw
    exact ⟨a, List.mem_append_left _ ha, rfl⟩
  · cases hj
theorem jnE_r {e f g : aE} (hj : jnE e f = some g) (hw : wE w f) : wE w g := by
  unfold jnE at hj
  split at hj
  · cases hj
    obtain ⟨v, rfl, h1, h2⟩ := hw
    exact ⟨v, rfl, Int.le_trans (Int.min_le_right _ _) h1, Int.le_trans h2 (Int.le_max_right _ _)⟩
  · cases hj
    obtain ⟨a, ha, rfl⟩ := hw
    exact ⟨a, List.mem_append_right _ ha, rfl⟩
  · cases hj
def rdE (T : List aT) (k : Nat) (lo hi : Int) : List Nat → Option aE
  | [] => none
  | [a] => elT T k a lo hi
  | a :: b :: r => match elT T k a lo hi, rdE T k lo hi (b :: r) with
    | some e, some f => jnE e f
    | _, _ => none
theorem rdE_ok {k : Nat} {lo hi : Int} (hh : HI T h) (h1 : lo ≤ (i : Int)) (h2 : (i : Int) ≤ hi) : ∀ (as : List Nat) (e : aE), rdE T k lo hi as = some e → a ∈ as → ∃ c w, h[a]? = some c ∧ knd c = k ∧ ct h a i = some w ∧ wE w e
  | [], _, he, _ => by cases he
  | [b], e, he, ha => by
    obtain rfl := List.mem_singleton.mp ha
    exact elT_ok hh he h1 h2
  | b :: b' :: r, e, he, ha => by
    rw [rdE] at he
    split at he
    · rename_i e1 e2 q1 q2
      rcases List.mem_cons.mp ha with rfl | ha
      · obtain ⟨c, w, k1, k2, k3, k4⟩ := elT_ok hh q1 h1 h2
        exact ⟨c, w, k1, k2, k3, jnE_l he k4⟩
      · obtain ⟨c, w, k1, k2, k3, k4⟩ := rdE_ok hh h1 h2 (b' :: r) e2 q2 ha
        exact ⟨c, w, k1, k2, k3, jnE_r he k4⟩
    · cases he
/-! what is remembered -/
def cok (n : Nat) (σ : Nat → Int) (h : List pC) (C : aC) : Prop := ∀ e ∈ C, ∃ (a i : Nat) (w : Value), vG n σ (.ref a) e.1 ∧ zG n σ (i : Int) e.2.1 ∧ ct h a i = some w ∧ vG n σ w e.2.2
def cfind : aC → AV → AV → Option AV
  | [], _, _ => none
  | e :: r, xa, xi => if e.1 = xa ∧ e.2.1 = xi then some e.2.2 else cfind r xa xi
theorem cok.up (hn : n ≤ n') (ha : agr n σ σ') {C : aC} (hc : cok n σ h C) : cok n' σ' h C := fun e he => by
  obtain ⟨a, i, w, h1, h2, h3, h4⟩ := hc e he
  exact ⟨a, i, w, h1.up hn ha, h2.up hn ha, h3, h4.up hn ha⟩
/-- values that only one can be -/
def det (x : AV) : Bool := decide (x.1 % 2 = 1) || decide (x.2.1 = x.2.2.1)
theorem det_ok {z' : Int} (hd : det x = true) (h1 : zG n σ z x) (h2 : zG n σ z' x) : z = z' := by
  unfold zG at h1 h2
  unfold det at hd
  simp only [Bool.or_eq_true, decide_eq_true_eq] at hd
  split at h1
  · rename_i h0
    rw [if_pos h0] at h2
    omega
  · rename_i h0
    rw [if_neg h0] at h2
    rw [h1.1, h2.1]
theorem ref_one {b : Nat} (h1 : vG n σ (.ref a) x) (h2 : vG n σ (.ref b) x) : a = b := by
  have h1 : (x.1 = 5 ∧ a = x.2.2.2) ∨ (x.1 = 6 ∧ a = (σ x.2.2.2).toNat ∧ x.2.2.2 < n) := h1
  have h2 : (x.1 = 5 ∧ b = x.2.2.2) ∨ (x.1 = 6 ∧ b = (σ x.2.2.2).toNat ∧ x.2.2.2 < n) := h2
  omega
theorem cfind_ok {xa xi v : AV} (hd : det xi = true) (ha : vG n σ (.ref a) xa) (hi : zG n σ (i : Int) xi) : ∀ {C : aC}, cok n σ h C → cfind C xa xi = some v → ∃ w, ct h a i = some w ∧ vG n σ w v
  | [], _, hf => by cases hf
  | e :: r, hc, hf => by
    rw [cfind] at hf
    split at hf
    · rename_i hq
      cases hf
      obtain ⟨a', i', w, h1, h2, h3, h4⟩ := hc e List.mem_cons_self
      rw [hq.1] at h1
      rw [hq.2] at h2
      obtain rfl := ref_one h1 ha
      have : i' = i := by
        have := det_ok hd h2 hi
        omega
      subst this
      exact ⟨w, h3, h4⟩
    · exact cfind_ok hd ha hi (fun e' he' => hc e' (List.mem_cons_of_mem _ he')) hf
/-- the places that an index can be: one by one, where it goes by steps -/
def ptsG (c : Int) : Int → Nat → List (Int × Int)
  | lo, 0 => [(lo, lo)]
  | lo, n + 1 => (lo, lo) :: ptsG c (lo + c) n
def pts (x : AV) (q : Int × Int) : List (Int × Int) := if x.1 = 1 ∧ 2 ≤ x.2.1 ∧ q.2 - q.1 ≤ 16 * x.2.1 then ptsG x.2.1 q.1 ((q.2 - q.1) / x.2.1).toNat else [q]
theorem ptsG_mem {c : Int} : ∀ (n : Nat) (lo : Int) (j : Nat), j ≤ n → (lo + c * (j : Int), lo + c * (j : Int)) ∈ ptsG c lo n
  | 0, lo, j, hj => by
    obtain rfl : j = 0 := by omega
    rw [show lo + c * ((0 : Nat) : Int) = lo by simp]
    exact List.mem_cons_self
  | n + 1, lo, 0, hj => by
    rw [show lo + c * ((0 : Nat) : Int) = lo by simp]
    exact List.mem_cons_self
  | n + 1, lo, j + 1, hj => by
    refine List.mem_cons_of_mem _ ?_
    have := ptsG_mem (c := c) n (lo + c) j (by omega)
    rw [show lo + c * ((j + 1 : Nat) : Int) = lo + c + c * (j : Int) by rw [Int.natCast_add, Int.mul_add]; simp; omega]
    exact this
theorem pts_ok {q : Int × Int} (hg : gok σ Γ) (hz : zG n σ z x) (hq : ivl Γ x = some q) : ∃ p ∈ pts x q, p.1 ≤ z ∧ z ≤ p.2 := by
  unfold pts
  split
  · rename_i hc
    obtain ⟨c1, c2, c3⟩ := hc
    have hl := hz.lin (by omega)
    unfold ivl at hq
    rw [if_neg (by omega)] at hq
    split at hq
    · rename_i p hp
      have he : p.1 ≤ σ x.2.2.2 ∧ σ x.2.2.2 ≤ p.2 := hg _ _ hp
      rw [if_pos (by omega)] at hq
      cases hq
      refine ⟨_, ptsG_mem _ _ (σ x.2.2.2 - p.1).toNat ?_, ?_⟩
      · have e : (x.2.1 * p.2 + x.2.2.1 - (x.2.1 * p.1 + x.2.2.1)) / x.2.1 = p.2 - p.1 := by
          rw [show x.2.1 * p.2 + x.2.2.1 - (x.2.1 * p.1 + x.2.2.1) = x.2.1 * (p.2 - p.1) by rw [Int.mul_sub]; omega]
          exact Int.mul_ediv_cancel_left _ (by omega)
        dsimp only
        rw [e]
        omega
      · dsimp only
        rw [Int.toNat_of_nonneg (by omega), hl.1, Int.mul_sub]
        omega
    · cases hq
  · exact ⟨q, List.mem_cons_self, ivl_ok hg hz hq⟩
def rdP (T : List aT) (k : Nat) (as : List Nat) : List (Int × Int) → Option aE
  | [] => none
  | [p] => rdE T k p.1 p.2 as
  | p :: p' :: r => match rdE T k p.1 p.2 as, rdP T k as (p' :: r) with
    | some e, some f => jnE e f
    | _, _ => none
theorem rdP_ok {k : Nat} {as : List Nat} (hh : HI T h) (ha : a ∈ as) : ∀ (ps : List (Int × Int)) (e : aE), rdP T k as ps = some e → (∃ p ∈ ps, p.1 ≤ (i : Int) ∧ (i : Int) ≤ p.2) → ∃ c w, h[a]? = some c ∧ knd c = k ∧ ct h a i = some w ∧ wE w e
  | [], _, he, _ => by cases he
  | [p], e, he, hp => by
    obtain ⟨p', hp', h1⟩ := hp
    obtain rfl := List.mem_singleton.mp hp'
    exact rdE_ok hh h1.1 h1.2 as e he ha
  | p :: p' :: r, e, he, hp => by
    rw [rdP] at he
    split at he
    · rename_i e1 e2 q1 q2
      obtain ⟨z, hz, h1⟩ := hp
      rcases List.mem_cons.mp hz with rfl | hz
      · obtain ⟨c, w, k1, k2, k3, k4⟩ := rdE_ok hh h1.1 h1.2 as e1 q1 ha
        exact ⟨c, w, k1, k2, k3, jnE_l he k4⟩
      · obtain ⟨c, w, k1, k2, k3, k4⟩ := rdP_ok hh ha (p' :: r) e2 q2 ⟨z, hz, h1⟩
        exact ⟨c, w, k1, k2, k3, jnE_r he k4⟩
    · cases he
def ard (T : List aT) (Γ : aG) (C : aC) (k : Nat) (xa xi : AV) : Option (aG × aC × AV) := match adrs Γ xa, ivl Γ xi with
  | some as, some p => match rdP T k as (pts xi p) with
    | none => none
    | some e => if det xi = true then (match cfind C xa xi with
      | some v => some (Γ, C, v)
      | none => some ((nmE Γ e).1, (xa, xi, (nmE Γ e).2) :: C, (nmE Γ e).2)) else some ((nmE Γ e).1, C, (nmE Γ e).2)
  | _, _ => none
theorem ard_ok {C C' : aC} {k : Nat} {xa xi v : AV} (hg : gok σ Γ) (hc : cok Γ.length σ h C) (hh : HI T h) (ha : vG Γ.length σ (.ref a) xa) (hi : zG Γ.length σ (i : Int) xi) (hr : ard T Γ C k xa xi = some (Γ', C', v)) :
    ∃ σ' c w, agr Γ.length σ σ' ∧ gok σ' Γ' ∧ Γ.length ≤ Γ'.length ∧ cok Γ'.length σ' h C' ∧ h[a]? = some c ∧ knd c = k ∧ ct h a i = some w ∧ vG Γ'.length σ' w v := by
  unfold ard at hr
  split at hr
  · rename_i as p has hp
    obtain ⟨a', ha', e'⟩ := adrs_ok hg ha has
    cases e'
    have hip := pts_ok hg hi hp
    split at hr
    · cases hr
    · rename_i e he
      obtain ⟨c, w, k1, k2, k3, k4⟩ := rdP_ok hh ha' _ e he hip
      obtain ⟨σ', s1, s2, s3, s4⟩ := nmE_ok hg k4
      split at hr
      · rename_i hd
        split at hr
        · rename_i v' hf
          cases hr
          obtain ⟨w', q1, q2⟩ := cfind_ok hd ha hi hc hf
          exact ⟨σ, c, w', agr.rf _ _, hg, Nat.le_refl _, hc, k1, k2, q1, q2⟩
        · cases hr
          refine ⟨σ', c, w, s1, s2, s3, fun e0 he0 => ?_, k1, k2, k3, s4⟩
          rcases List.mem_cons.mp he0 with rfl | he0
          · exact ⟨a, i, w, ha.up s3 s1, hi.up s3 s1, k3, s4⟩
          · exact (hc.up s3 s1) e0 he0
      · cases hr
        exact ⟨σ', c, w, s1, s2, s3, hc.up s3 s1, k1, k2, k3, s4⟩
  · cases hr
/-! writing -/
def fitsT (T : List aT) (k a : Nat) (lo hi : Int) (p : Int × Int) : Bool := match T[a]? with
  | some (.inl t) => decide (k = 0) && decide (0 ≤ lo) && decide (hi < (t.1 : Int)) && t.2.all (fun s => decide (hi < (s.1 : Int)) || decide ((s.2.1 : Int) < lo) || (decide (s.2.2.1 ≤ p.1) && decide (p.2 ≤ s.2.2.2)))
  | some (.inr (.inr t)) => decide (k = 2 + t.1) && decide (0 ≤ lo) && decide (lo = hi) && (match t.2[lo.toNat]? with
    | some x => decide (x.1 = 0) && decide (x.2.1 ≤ p.1) && decide (p.2 ≤ x.2.2.1)
    | none => false)
  | _ => false
/-- the cells with the int v put at i of the cell a -/
def wrC (h : List pC) (a i : Nat) (v : Int32) : List pC := match h[a]? with
  | some (.inl x) => h.set a (.inl (x.1, va_up x.2 i v))
  | some (.inr (.inr o)) => h.set a (.inr (.inr (o.1, o.2.set i (.int v))))
  | _ => h
theorem wrC_len (h : List pC) (a i : Nat) (v : Int32) : (wrC h a i v).length = h.length := by
  unfold wrC
  split
  · exact List.length_set
  · exact List.length_set
  · rfl
theorem wrC_ne {b : Nat} (v : Int32) (hb : b ≠ a) : (wrC h a i v)[b]? = h[b]? := by
  unfold wrC
  split
  · exact List.getElem?_set_ne (Ne.symm hb)
  · exact List.getElem?_set_ne (Ne.symm hb)
  · rfl
theorem wrC_ct {v : Int32} {b j : Nat} (hne : ¬ (b = a ∧ j = i)) : ct (wrC h a i v) b j = ct h b j := by
  by_cases hb : b = a
  · subst hb
    have hj : j ≠ i := fun e => hne ⟨rfl, e⟩
    unfold wrC
    split
    · rename_i x hx
      have hl := (List.getElem?_eq_some_iff.mp hx).1
      unfold ct
      rw [List.getElem?_set_self hl, hx]
      show (if j < x.1 then some (Value.int (va_up x.2 i v j)) else none) = (if j < x.1 then some (Value.int (x.2 j)) else none)
      unfold va_up
      rw [if_neg hj]
    · rename_i o ho
      have hl := (List.getElem?_eq_some_iff.mp ho).1
      unfold ct
      rw [List.getElem?_set_self hl, ho]
      show (o.2.set i (.int v))[j]? = o.2[j]?
      rw [List.getElem?_set_ne (Ne.symm hj)]
    · rfl
  · unfold ct
    rw [wrC_ne v hb]
theorem wrC_self {v : Int32} {k : Nat} {lo hi : Int} {p : Int × Int} (hh : HI T h) (hf : fitsT T k a lo hi p = true) (h1 : lo ≤ (i : Int)) (h2 : (i : Int) ≤ hi) (hv : p.1 ≤ v.toInt ∧ v.toInt ≤ p.2) :
    HI T (wrC h a i v) ∧ ct (wrC h a i v) a i = some (.int v) ∧ ∃ c, h[a]? = some c ∧ knd c = k ∧ (∀ x, c = .inl x → i < x.1) ∧ (∀ o, c = .inr (.inr o) → i < o.2.length) ∧ (∀ x, c ≠ .inr (.inl x)) := by
  unfold fitsT at hf
  split at hf
  · rename_i t ht
    obtain ⟨c, hc, hty⟩ := hh.2 a _ ht
    simp only [Bool.and_eq_true, decide_eq_true_eq, List.all_eq_true, Bool.or_eq_true] at hf
    obtain ⟨⟨⟨f1, f2⟩, f3⟩, f4⟩ := hf
    have hl := (List.getElem?_eq_some_iff.mp hc).1
    rcases c with x | x | x
    · obtain ⟨q1, q2⟩ : x.1 = t.1 ∧ _ := hty
      have hw : wrC h a i v = h.set a (.inl (x.1, va_up x.2 i v)) := by unfold wrC; rw [hc]
      refine ⟨⟨by rw [wrC_len]; exact hh.1, fun b t' ht' => ?_⟩, ?_, _, hc, f1.symm, fun x' e => by cases e; omega, fun o e => by (cases e), fun x' e => by (cases e)⟩
      · by_cases hb : b = a
        · subst hb
          rw [ht] at ht'
          cases ht'
          refine ⟨.inl (x.1, va_up x.2 i v), by rw [hw, List.getElem?_set_self hl], q1, fun s hs j j1 j2 j3 => ?_⟩
          show s.2.2.1 ≤ (va_up x.2 i v j).toInt ∧ (va_up x.2 i v j).toInt ≤ s.2.2.2
          unfold va_up
          split
          · rename_i e
            have := f4 s hs
            omega
          · exact q2 s hs j j1 j2 j3
        · obtain ⟨c', hc', hty'⟩ := hh.2 b t' ht'
          exact ⟨c', by rw [wrC_ne v hb]; exact hc', hty'⟩
      · unfold ct
        rw [hw, List.getElem?_set_self hl]
        show (if i < x.1 then some (Value.int (va_up x.2 i v i)) else none) = _
        rw [if_pos (by omega)]
        unfold va_up
        rw [if_pos rfl]
    · exact hty.elim
    · exact hty.elim
  · rename_i t ht
    obtain ⟨c, hc, hty⟩ := hh.2 a _ ht
    simp only [Bool.and_eq_true, decide_eq_true_eq] at hf
    obtain ⟨⟨⟨f1, f2⟩, f3⟩, f4⟩ := hf
    have hl := (List.getElem?_eq_some_iff.mp hc).1
    split at f4
    · rename_i y hy
      simp only [Bool.and_eq_true, decide_eq_true_eq] at f4
      rcases c with x | x | x
      · exact hty.elim
      · exact hty.elim
      · obtain ⟨q1, q2⟩ : x.1 = t.1 ∧ FG x.2 t.2 := hty
        have hw : wrC h a i v = h.set a (.inr (.inr (x.1, x.2.set i (.int v)))) := by unfold wrC; rw [hc]
        have ei : lo.toNat = i := by omega
        rw [ei] at hy
        obtain ⟨w0, hw0, -⟩ := FG.at q2 hy
        have hlen := (List.getElem?_eq_some_iff.mp hw0).1
        refine ⟨⟨by rw [wrC_len]; exact hh.1, fun b t' ht' => ?_⟩, ?_, _, hc, by rw [f1, ← q1]; rfl, fun x' e => by (cases e), fun o e => by cases e; exact hlen, fun x' e => by (cases e)⟩
        · by_cases hb : b = a
          · subst hb
            rw [ht] at ht'
            cases ht'
            refine ⟨.inr (.inr (x.1, x.2.set i (.int v))), by rw [hw, List.getElem?_set_self hl], q1, FG.set q2 hy ?_⟩
            exact ⟨by omega, by
              unfold zG
              rw [if_pos (by omega)]
              omega⟩
          · obtain ⟨c', hc', hty'⟩ := hh.2 b t' ht'
            exact ⟨c', by rw [wrC_ne v hb]; exact hc', hty'⟩
        · unfold ct
          rw [hw, List.getElem?_set_self hl]
          show (x.2.set i (.int v))[i]? = _
          rw [List.getElem?_set_self hlen]
    · cases f4
  · cases hf
def inWs (W : aW) (a : Nat) (lo hi : Int) : Bool := W.any (fun b => decide (b.1 ≤ a) && decide (a ≤ b.2.1) && decide ((b.2.2.1 : Int) ≤ lo) && decide (hi ≤ (b.2.2.2 : Int)))
theorem inWs_ok {lo hi : Int} (hw : inWs W a lo hi = true) (h1 : lo ≤ (i : Int)) (h2 : (i : Int) ≤ hi) : inW W a i = true := by
  obtain ⟨b, hb, hb2⟩ := List.any_eq_true.mp hw
  refine List.any_eq_true.mpr ⟨b, hb, ?_⟩
  simp only [Bool.and_eq_true, decide_eq_true_eq] at hb2 ⊢
  omega
/-- surely other places -/
def apA (Γ : aG) (xa ya : AV) : Bool := match adrs Γ xa, adrs Γ ya with
  | some as, some bs => as.all (fun a => bs.all (fun b => decide (a ≠ b)))
  | _, _ => false
def apI (Γ : aG) (xi yi : AV) : Bool := (decide (xi.1 = 1) && decide (yi.1 = 1) && decide (xi.2.1 = yi.2.1) && decide (xi.2.2.2 = yi.2.2.2) && decide (xi.2.2.1 ≠ yi.2.2.1)) || (match ivl Γ xi, ivl Γ yi with
  | some p, some q => decide (p.2 < q.1) || decide (q.2 < p.1)
  | _, _ => false)
theorem apA_ok {b m : Nat} {xa ya : AV} (hg : gok σ Γ) (h : apA Γ xa ya = true) (h1 : vG m σ (.ref a) xa) (h2 : vG m σ (.ref b) ya) : a ≠ b := by
  unfold apA at h
  split at h
  · rename_i as bs ha hb
    obtain ⟨a', k1, e1⟩ := adrs_ok hg h1 ha
    obtain ⟨b', k2, e2⟩ := adrs_ok hg h2 hb
    cases e1
    cases e2
    have := List.all_eq_true.mp (List.all_eq_true.mp h a k1) b k2
    exact of_decide_eq_true this
  · cases h
theorem apI_ok {m : Nat} {z' : Int} {xi yi : AV} (hg : gok σ Γ) (h : apI Γ xi yi = true) (h1 : zG m σ z xi) (h2 : zG m σ z' yi) : z ≠ z' := by
  unfold apI at h
  rw [Bool.or_eq_true] at h
  rcases h with h | h
  · simp only [Bool.and_eq_true, decide_eq_true_eq] at h
    obtain ⟨⟨⟨⟨a1, a2⟩, a3⟩, a4⟩, a5⟩ := h
    have k1 := h1.lin (by omega)
    have k2 := h2.lin (by omega)
    rw [k1.1, k2.1, a3, a4]
    omega
  · split at h
    · rename_i p q hp hq
      have k1 := ivl_ok hg h1 hp
      have k2 := ivl_ok hg h2 hq
      simp only [Bool.or_eq_true, decide_eq_true_eq] at h
      omega
    · cases h
def awr (T : List aT) (W : aW) (Γ : aG) (C : aC) (k : Nat) (xa xi v : AV) : Option aC := match adrs Γ xa, ivl Γ xi, ivl Γ v with
  | some as, some q, some p => if as.all (fun a => (pts xi q).all (fun z => fitsT T k a z.1 z.2 p && inWs W a z.1 z.2)) = true then some ((xa, xi, v) :: C.filter (fun e => apA Γ e.1 xa || apI Γ e.2.1 xi)) else none
  | _, _, _ => none
theorem awr_ok {C C' : aC} {k : Nat} {xa xi xv : AV} {v : Int32} (hg : gok σ Γ) (hc : cok Γ.length σ h C) (hh : HI T h) (hf : Fr W h0 h) (ha : vG Γ.length σ (.ref a) xa) (hi : zG Γ.length σ (i : Int) xi) (hv : vG Γ.length σ (.int v) xv) (hr : awr T W Γ C k xa xi xv = some C') :
    HI T (wrC h a i v) ∧ Fr W h0 (wrC h a i v) ∧ cok Γ.length σ (wrC h a i v) C' ∧ ∃ c, h[a]? = some c ∧ knd c = k ∧ (∀ x, c = .inl x → i < x.1) ∧ (∀ o, c = .inr (.inr o) → i < o.2.length) ∧ (∀ x, c ≠ .inr (.inl x)) := by
  unfold awr at hr
  split at hr
  · rename_i as q p has hq hp
    obtain ⟨a', ha', e'⟩ := adrs_ok hg ha has
    cases e'
    obtain ⟨zq, hzq, hiq⟩ := pts_ok hg hi hq
    have hvp := ivl_ok hg hv.2 hp
    split at hr
    · rename_i hal
      cases hr
      have h1 := List.all_eq_true.mp (List.all_eq_true.mp hal a ha') zq hzq
      rw [Bool.and_eq_true] at h1
      obtain ⟨k1, k2, k3⟩ := wrC_self hh h1.1 hiq.1 hiq.2 hvp
      refine ⟨k1, fun b j hbj => ?_, fun e he => ?_, k3⟩
      · rw [wrC_ct (fun e => by
          rw [e.1, e.2, inWs_ok h1.2 hiq.1 hiq.2] at hbj
          cases hbj)]
        exact hf b j hbj
      · rcases List.mem_cons.mp he with rfl | he
        · exact ⟨a, i, _, ha, hi, k2, hv⟩
        · obtain ⟨he, hap⟩ := List.mem_filter.mp he
          obtain ⟨b, j, w, e1, e2, e3, e4⟩ := hc e he
          refine ⟨b, j, w, e1, e2, ?_, e4⟩
          rw [wrC_ct]
          · exact e3
          · intro e
            rw [Bool.or_eq_true] at hap
            rcases hap with hap | hap
            · exact apA_ok hg hap e1 ha e.1
            · exact apI_ok hg hap e2 hi (by rw [e.2])
    · cases hr
  · cases hr
end ACE
end
section
/-! ===== operations by number; facts; conditions ===== -/
def opS (c : Nat) (a b : Int32) : Int32 := match c with
  | 0 => a + b
  | 1 => a - b
  | 2 => a * b
  | 3 => a &&& b
  | 4 => a ||| b
  | 5 => a ^^^ b
  | 6 => a <<< (b &&& 31)
  | 7 => a >>> (b &&& 31)
  | 8 => (a.toUInt32 >>> (b.toUInt32 &&& Int32.toUInt32 31)).toInt32
  | 9 => a - a / b * b
  | 10 => a / b
  | 11 => if a < b then b else a
  | 12 => if b < a then b else a
  | 13 => a.toInt16.toInt32
  | _ => if 0 ≤ a then a else 0 - a
def aop (c : Nat) (Γ : aG) (x y : AV) : AV := match c with
  | 0 => aadd Γ x y
  | 1 => asub Γ x y
  | 2 => amul Γ x y
  | 3 => aand Γ x y
  | 4 => top
  | 5 => top
  | 6 => top
  | 7 => top
  | 8 => aushr Γ y
  | 9 => arem Γ x y
  | 10 => adiv Γ x y
  | 11 => amax Γ x y
  | 12 => amin Γ x y
  | 13 => ai2s
  | _ => top
def fcG (n : Nat) (σ : Nat → Int) (f : Nat × AV × AV × AV) : Prop := if f.1 < 10 then ∃ a b : Int, zG n σ a f.2.1 ∧ zG n σ b f.2.2.1 ∧ rel f.1 a b else ∃ a b : Int32, zG n σ a.toInt f.2.1 ∧ zG n σ b.toInt f.2.2.1 ∧ zG n σ (opS (f.1 - 10) a b).toInt f.2.2.2
def fok (n : Nat) (σ : Nat → Int) (Δ : aD) : Prop := ∀ f ∈ Δ, fcG n σ f
section AOP
variable {n n' : Nat} {σ σ' : Nat → Int} {Γ Γ' : aG} {w : Value} {x y : AV} {z : Int} {v u : Int32}
theorem aop_ok (c : Nat) (hg : gok σ Γ) (hx : zG n σ v.toInt x) (hy : zG n σ u.toInt y) : zG n σ (opS c v u).toInt (aop c Γ x y) ∧ (aop c Γ x y).1 ≤ 1 := by
  unfold aop
  split
  · exact aadd_ok hg hx hy
  · exact asub_ok hg hx hy
  · exact amul_ok hg hx hy
  · exact aand_ok hg hx hy
  · exact ⟨top_ok _, Nat.zero_le _⟩
  · exact ⟨top_ok _, Nat.zero_le _⟩
  · exact ⟨top_ok _, Nat.zero_le _⟩
  · exact ⟨top_ok _, Nat.zero_le _⟩
  · exact aushr_ok hg hy
  · exact arem_ok hg hx hy
  · exact adiv_ok hg hx hy
  · exact amax_ok hg hx hy
  · exact amin_ok hg hx hy
  · exact ai2s_ok v
  · exact ⟨top_ok _, Nat.zero_le _⟩
theorem fcG.up (hn : n ≤ n') (ha : agr n σ σ') {f : Nat × AV × AV × AV} (h : fcG n σ f) : fcG n' σ' f := by
  unfold fcG at h ⊢
  split at h
  · rename_i h0
    rw [if_pos h0]
    obtain ⟨a, b, h1, h2, h3⟩ := h
    exact ⟨a, b, h1.up hn ha, h2.up hn ha, h3⟩
  · rename_i h0
    rw [if_neg h0]
    obtain ⟨a, b, h1, h2, h3⟩ := h
    exact ⟨a, b, h1.up hn ha, h2.up hn ha, h3.up hn ha⟩
theorem fok.up (hn : n ≤ n') (ha : agr n σ σ') {Δ : aD} (h : fok n σ Δ) : fok n' σ' Δ := fun f hf => (h f hf).up hn ha
theorem fok.cons {Δ : aD} {f : Nat × AV × AV × AV} (h : fok n σ Δ) (hf : fcG n σ f) : fok n σ (f :: Δ) := fun g hg => by
  rcases List.mem_cons.mp hg with rfl | hg
  · exact hf
  · exact h g hg
def aopS (ff : Bool) (Γ : aG) (Δ : aD) (c : Nat) (x y : AV) : aG × aD × AV := ((nm Γ (aop c Γ x y)).1, if ff = true ∧ ¬ (nm Γ (aop c Γ x y)).1.length = Γ.length then (c + 10, x, y, (nm Γ (aop c Γ x y)).2) :: Δ else Δ, (nm Γ (aop c Γ x y)).2)
theorem aopS_ok (ff : Bool) {Δ : aD} (c : Nat) (hg : gok σ Γ) (hf : fok Γ.length σ Δ) (hx : zG Γ.length σ v.toInt x) (hy : zG Γ.length σ u.toInt y) :
    ∃ σ', agr Γ.length σ σ' ∧ gok σ' (aopS ff Γ Δ c x y).1 ∧ Γ.length ≤ (aopS ff Γ Δ c x y).1.length ∧ fok (aopS ff Γ Δ c x y).1.length σ' (aopS ff Γ Δ c x y).2.1 ∧ vG (aopS ff Γ Δ c x y).1.length σ' (.int (opS c v u)) (aopS ff Γ Δ c x y).2.2 := by
  obtain ⟨h1, h2⟩ := aop_ok c hg hx hy
  obtain ⟨σ', s1, s2, s3, s4⟩ := nm_ok hg h1 h2
  refine ⟨σ', s1, s2, s3, ?_, s4⟩
  unfold aopS
  dsimp only
  split
  · refine (hf.up s3 s1).cons ?_
    unfold fcG
    rw [if_neg (by dsimp only; omega)]
    refine ⟨v, u, hx.up s3 s1, hy.up s3 s1, ?_⟩
    rw [show c + 10 - 10 = c by omega]
    exact s4.2
  · exact hf.up s3 s1
/-! conditions -/
def ccd (k : ClassFile.Cond) : Nat × Nat := match k with
  | .eq => (4, 5)
  | .ne => (5, 4)
  | .lt => (0, 3)
  | .ge => (3, 0)
  | .gt => (2, 1)
  | .le => (1, 2)
theorem i32_eq {a b : Int32} : a = b ↔ a.toInt = b.toInt := Int32.toInt_inj.symm
theorem ccd_t {k : ClassFile.Cond} {a b : Int32} (h : pc2 k a b = true) : rel (ccd k).1 a.toInt b.toInt := by
  cases k
  · exact i32_eq.mp (of_decide_eq_true h)
  · have h : ¬ a = b := of_decide_eq_true h
    exact fun e => h (i32_eq.mpr e)
  · exact Int32.lt_iff_toInt_lt.mp (of_decide_eq_true h)
  · exact Int32.le_iff_toInt_le.mp (of_decide_eq_true h)
  · exact Int32.lt_iff_toInt_lt.mp (of_decide_eq_true h)
  · exact Int32.le_iff_toInt_le.mp (of_decide_eq_true h)
theorem ccd_f {k : ClassFile.Cond} {a b : Int32} (h : pc2 k a b = false) : rel (ccd k).2 a.toInt b.toInt := by
  cases k
  · have h : ¬ a = b := of_decide_eq_false h
    exact fun e => h (i32_eq.mpr e)
  · have h : ¬ ¬ a = b := of_decide_eq_false h
    exact i32_eq.mp (Decidable.not_not.mp h)
  · have h : ¬ a < b := of_decide_eq_false h
    exact Int.not_lt.mp (fun e => h (Int32.lt_iff_toInt_lt.mpr e))
  · have h : ¬ b ≤ a := of_decide_eq_false h
    exact Int.not_le.mp (fun e => h (Int32.le_iff_toInt_le.mpr e))
  · have h : ¬ b < a := of_decide_eq_false h
    exact Int.not_lt.mp (fun e => h (Int32.lt_iff_toInt_lt.mpr e))
  · have h : ¬ a ≤ b := of_decide_eq_false h
    exact Int.not_le.mp (fun e => h (Int32.le_iff_toInt_le.mpr e))
theorem pc1_2 (k : ClassFile.Cond) (a : Int32) : pc1 k a = pc2 k a 0 := by cases k <;> rfl
theorem ccd_lt (k : ClassFile.Cond) : (ccd k).1 < 10 ∧ (ccd k).2 < 10 := by cases k <;> exact ⟨by decide, by decide⟩
theorem cn_ok {n : Nat} {σ : Nat → Int} (a : Int32) : zG n σ a.toInt (cn a.toInt) := zG.itv rfl (Int.le_refl _) (Int.le_refl _)
theorem cnZ (a : Int) : zG n σ a (cn a) := zG.itv rfl (Int.le_refl _) (Int.le_refl _)
theorem fcG.rl {r : Nat} {z' : Int} (hr : r < 10) (hx : zG n σ z x) (hy : zG n σ z' y) (h : rel r z z') (q : AV) : fcG n σ (r, x, y, q) := by
  unfold fcG
  rw [if_pos hr]
  exact ⟨z, z', hx, hy, h⟩
def fadd (ff : Bool) (Δ : aD) (r : Nat) (x y : AV) : aD := if ff = true then (r, x, y, cn 0) :: Δ else Δ
theorem fadd_ok (ff : Bool) {Δ : aD} {r : Nat} {z' : Int} (hf : fok n σ Δ) (hr : r < 10) (hx : zG n σ z x) (hy : zG n σ z' y) (h : rel r z z') : fok n σ (fadd ff Δ r x y) := by
  unfold fadd
  split
  · exact hf.cons (fcG.rl hr hx hy h _)
  · exact hf
/-! a switch -/
def swd (x : AV) : List (Int × Nat) → aG → List aG
  | [], Γ => [Γ]
  | k :: r, Γ => (rfr Γ 5 x (cn k.1)).flatMap (swd x r)
def fsw (ff : Bool) (x : AV) : List (Int × Nat) → aD → aD
  | [], Δ => Δ
  | k :: r, Δ => fsw ff x r (fadd ff Δ 5 x (cn k.1))
theorem psw_cases (z : Int) (d : Nat) : ∀ ks : List (Int × Nat), (∃ k ∈ ks, z = k.1 ∧ psw z ks d = k.2) ∨ ((∀ k ∈ ks, ¬ z = k.1) ∧ psw z ks d = d)
  | [] => Or.inr ⟨fun _ h => absurd h List.not_mem_nil, rfl⟩
  | (a, t) :: r => by
    by_cases h : z = a
    · exact Or.inl ⟨(a, t), List.mem_cons_self, h, by rw [psw, if_pos h]⟩
    · rcases psw_cases z d r with ⟨k, hk, h1, h2⟩ | ⟨h1, h2⟩
      · exact Or.inl ⟨k, List.mem_cons_of_mem _ hk, h1, by rw [psw, if_neg h]; exact h2⟩
      · refine Or.inr ⟨fun k hk => ?_, by rw [psw, if_neg h]; exact h2⟩
        rcases List.mem_cons.mp hk with rfl | hk
        · exact h
        · exact h1 k hk
theorem swd_ok (hx : zG n σ z x) : ∀ (ks : List (Int × Nat)) {Γ : aG}, gok σ Γ → (∀ k ∈ ks, ¬ z = k.1) → ∃ Γ' ∈ swd x ks Γ, gok σ Γ' ∧ Γ'.length = Γ.length
  | [], Γ, hg, _ => ⟨Γ, List.mem_cons_self, hg, rfl⟩
  | k :: r, Γ, hg, hn => by
    obtain ⟨G1, m1, g1, l1⟩ := rfr_ok (n := n) (z' := k.1) 5 hg hx (cnZ k.1) (hn k List.mem_cons_self)
    obtain ⟨G2, m2, g2, l2⟩ := swd_ok hx r g1 (fun k' hk' => hn k' (List.mem_cons_of_mem _ hk'))
    exact ⟨G2, List.mem_flatMap.mpr ⟨G1, m1, m2⟩, g2, l2.trans l1⟩
theorem fsw_ok (ff : Bool) (hx : zG n σ z x) : ∀ (ks : List (Int × Nat)) {Δ : aD}, fok n σ Δ → (∀ k ∈ ks, ¬ z = k.1) → fok n σ (fsw ff x ks Δ)
  | [], _, hf, _ => hf
  | k :: r, _, hf, hn => fsw_ok ff hx r (fadd_ok ff hf (by decide) hx (cnZ k.1) (hn k List.mem_cons_self)) (fun k' hk' => hn k' (List.mem_cons_of_mem _ hk'))
end AOP
end
section
/-! ===== one instruction that is no call and no return ===== -/
abbrev aO : Type := List (Nat × aS)
def gS (n0 : Nat) (σ0 : Nat → Int) (T : List aT) (W : aW) (h0 : List pC) (σ : Nat → Int) (S : aS) (L : pL) (st : List Value) (h : List pC) : Prop :=
  (n0 ≤ S.1.length ∧ agr n0 σ0 σ) ∧ gok σ S.1 ∧ cok S.1.length σ h S.2.1 ∧ fok S.1.length σ S.2.2.1 ∧ LG S.1.length σ L S.2.2.2.1 ∧ SG S.1.length σ st S.2.2.2.2 ∧ HI T h ∧ Fr W h0 h
/-- some of the states behind it holds of what the machine does -/
def Nx (n0 : Nat) (σ0 : Nat → Int) (T : List aT) (W : aW) (h0 : List pC) (E : pX) (t : pE) (i : Nat) (L : pL) (st : List Value) (h : List pC) (σ : Nat → Int) (m : Nat) (outs : aO) : Prop :=
  ∃ (i' : Nat) (S' : aS) (σ' : Nat → Int) (L' : pL) (st' : List Value) (h' : List pC), (i', S') ∈ outs ∧ agr m σ σ' ∧ m ≤ S'.1.length ∧ pstep E t i L st h = some (i', L', st', h', 0, 0) ∧ gS n0 σ0 T W h0 σ' S' L' st' h'
def avV (v : Value) : Option AV := match v with
  | .int a => some (cn a.toInt)
  | .long a => some (2, a.toInt, a.toInt, 0)
  | .null => some (4, 0, 0, 0)
  | _ => none
def aps (i : Nat) (Γ : aG) (C : aC) (Δ : aD) (A : aL) (s : List AV) : Option aO := some [(i + 1, Γ, C, Δ, A, s)]
def a_k (e : pE) (i : Nat) (Γ : aG) (C : aC) (Δ : aD) (A : aL) (s : List AV) : Option aO := match avV (e_v e) with
  | some x => aps i Γ C Δ A (x :: s)
  | none => none
def a_ld (b : AV → Bool) (e : pE) (i : Nat) (Γ : aG) (C : aC) (Δ : aD) (A : aL) (s : List AV) : Option aO := match A[e_x e]? with
  | some x => if b x = true then aps i Γ C Δ A (x :: s) else none
  | none => none
def isI (x : AV) : Bool := decide (x.1 ≤ 1)
def isL (x : AV) : Bool := decide (x.1 = 2 ∨ x.1 = 3)
def isR (x : AV) : Bool := decide (x.1 = 4 ∨ x.1 = 5 ∨ x.1 = 6)
def isP (x : AV) : Bool := decide (x.1 = 5 ∨ x.1 = 6)
def a_st (b : AV → Bool) (e : pE) (i : Nat) (Γ : aG) (C : aC) (Δ : aD) (A : aL) (s : List AV) : Option aO := match s with
  | x :: r => if b x = true then (match aset A (e_x e) x with
    | some A' => aps i Γ C Δ A' r
    | none => none) else none
  | _ => none
def a_inc (ff : Bool) (k : Int) (e : pE) (i : Nat) (Γ : aG) (C : aC) (Δ : aD) (A : aL) (s : List AV) : Option aO := match A[e_x e]? with
  | some x => if isI x = true ∧ -40000 ≤ k ∧ k ≤ 40000 then (match aset A (e_x e) (aopS ff Γ Δ 0 x (cn k)).2.2 with
    | some A' => aps i (aopS ff Γ Δ 0 x (cn k)).1 C (aopS ff Γ Δ 0 x (cn k)).2.1 A' s
    | none => none) else none
  | none => none
def a_bin (ff : Bool) (c : Nat) (i : Nat) (Γ : aG) (C : aC) (Δ : aD) (A : aL) (s : List AV) : Option aO := match s with
  | y :: x :: r => if isI x = true ∧ isI y = true then aps i (aopS ff Γ Δ c x y).1 C (aopS ff Γ Δ c x y).2.1 A ((aopS ff Γ Δ c x y).2.2 :: r) else none
  | _ => none
def a_div (ff : Bool) (c : Nat) (i : Nat) (Γ : aG) (C : aC) (Δ : aD) (A : aL) (s : List AV) : Option aO := match s with
  | y :: x :: r => if isI x = true ∧ isI y = true ∧ nz Γ y = true then aps i (aopS ff Γ Δ c x y).1 C (aopS ff Γ Δ c x y).2.1 A ((aopS ff Γ Δ c x y).2.2 :: r) else none
  | _ => none
def a_neg (ff : Bool) (i : Nat) (Γ : aG) (C : aC) (Δ : aD) (A : aL) (s : List AV) : Option aO := match s with
  | x :: r => if isI x = true then aps i (aopS ff Γ Δ 1 (cn 0) x).1 C (aopS ff Γ Δ 1 (cn 0) x).2.1 A ((aopS ff Γ Δ 1 (cn 0) x).2.2 :: r) else none
  | _ => none
def a_un (ff : Bool) (c : Nat) (i : Nat) (Γ : aG) (C : aC) (Δ : aD) (A : aL) (s : List AV) : Option aO := match s with
  | x :: r => if isI x = true then aps i (aopS ff Γ Δ c x (cn 0)).1 C (aopS ff Γ Δ c x (cn 0)).2.1 A ((aopS ff Γ Δ c x (cn 0)).2.2 :: r) else none
  | _ => none
def a_i2l (i : Nat) (Γ : aG) (C : aC) (Δ : aD) (A : aL) (s : List AV) : Option aO := match s with
  | x :: r => if isI x = true then aps i Γ C Δ A ((x.1 + 2, x.2.1, x.2.2.1, x.2.2.2) :: r) else none
  | _ => none
def a_ladd (i : Nat) (Γ : aG) (C : aC) (Δ : aD) (A : aL) (s : List AV) : Option aO := match s with
  | y :: x :: r => if isL x = true ∧ isL y = true then (match ivl Γ x, ivl Γ y with
    | some p, some q => if -9000000000000 ≤ p.1 + q.1 ∧ p.2 + q.2 ≤ 9000000000000 then aps i Γ C Δ A ((2, p.1 + q.1, p.2 + q.2, 0) :: r) else none
    | _, _ => none) else none
  | _ => none
def a_lcmp (ff : Bool) (i : Nat) (Γ : aG) (C : aC) (Δ : aD) (A : aL) (s : List AV) : Option aO := match s with
  | y :: x :: r => if isL x = true ∧ isL y = true then some ((rfr Γ 0 x y).map (fun G => (i + 1, G, C, fadd ff Δ 0 x y, A, cn (-1) :: r)) ++ ((rfr Γ 4 x y).map (fun G => (i + 1, G, C, fadd ff Δ 4 x y, A, cn 0 :: r)) ++ (rfr Γ 2 x y).map (fun G => (i + 1, G, C, fadd ff Δ 2 x y, A, cn 1 :: r)))) else none
  | _ => none
def a_dup (i : Nat) (Γ : aG) (C : aC) (Δ : aD) (A : aL) (s : List AV) : Option aO := match s with
  | x :: r => if isL x = false then aps i Γ C Δ A (x :: x :: r) else none
  | _ => none
def a_dup2 (i : Nat) (Γ : aG) (C : aC) (Δ : aD) (A : aL) (s : List AV) : Option aO := match s with
  | x :: y :: r => if isL x = false ∧ isL y = false then aps i Γ C Δ A (x :: y :: x :: y :: r) else none
  | _ => none
def a_pop (i : Nat) (Γ : aG) (C : aC) (Δ : aD) (A : aL) (s : List AV) : Option aO := match s with
  | x :: r => if isL x = false then aps i Γ C Δ A r else none
  | _ => none
def inq (r1 r2 : Nat) : Bool := match r1 with
  | 0 => decide (r2 = 2 ∨ r2 = 3 ∨ r2 = 4)
  | 1 => decide (r2 = 2)
  | 2 => decide (r2 = 0 ∨ r2 = 1 ∨ r2 = 4)
  | 3 => decide (r2 = 0)
  | 4 => decide (r2 = 0 ∨ r2 = 2 ∨ r2 = 5)
  | 5 => decide (r2 = 4)
  | _ => false
def cnv (r : Nat) : Nat := match r with
  | 0 => 2
  | 1 => 3
  | 2 => 0
  | 3 => 1
  | _ => r
/-- what is known already rules it out -/
def contra (Δ : aD) (r : Nat) (x y : AV) : Bool := det x && det y && Δ.any (fun f => decide (f.1 < 6) && ((decide (f.2.1 = x) && decide (f.2.2.1 = y) && inq r f.1) || (decide (f.2.1 = y) && decide (f.2.2.1 = x) && inq (cnv r) f.1)))
theorem inq_ok {r1 r2 : Nat} {a b : Int} (hi : inq r1 r2 = true) (h1 : rel r1 a b) (h2 : rel r2 a b) : False := by
  unfold inq at hi
  split at hi
  · have hi := of_decide_eq_true hi
    have h1 : a < b := h1
    rcases hi with rfl | rfl | rfl
    · exact absurd (show b < a from h2) (by omega)
    · exact absurd (show b ≤ a from h2) (by omega)
    · exact absurd (show a = b from h2) (by omega)
  · have hi := of_decide_eq_true hi
    subst hi
    exact absurd (show b < a from h2) (by have h1 : a ≤ b := h1; omega)
  · have hi := of_decide_eq_true hi
    have h1 : b < a := h1
    rcases hi with rfl | rfl | rfl
    · exact absurd (show a < b from h2) (by omega)
    · exact absurd (show a ≤ b from h2) (by omega)
    · exact absurd (show a = b from h2) (by omega)
  · have hi := of_decide_eq_true hi
    subst hi
    exact absurd (show a < b from h2) (by have h1 : b ≤ a := h1; omega)
  · have hi := of_decide_eq_true hi
    have h1 : a = b := h1
    rcases hi with rfl | rfl | rfl
    · exact absurd (show a < b from h2) (by omega)
    · exact absurd (show b < a from h2) (by omega)
    · exact (show ¬ a = b from h2) h1
  · have hi := of_decide_eq_true hi
    subst hi
    exact (show ¬ a = b from h1) h2
  · cases hi
theorem cnv_ok {r : Nat} {a b : Int} (hr : r < 6) (h : rel r a b) : rel (cnv r) b a := by
  have : r = 0 ∨ r = 1 ∨ r = 2 ∨ r = 3 ∨ r = 4 ∨ r = 5 := by omega
  rcases this with rfl | rfl | rfl | rfl | rfl | rfl
  · exact h
  · exact h
  · exact h
  · exact h
  · exact (show a = b from h).symm
  · exact fun e => (show ¬ a = b from h) e.symm
theorem contra_ok {n : Nat} {σ : Nat → Int} {Δ : aD} {r : Nat} {x y : AV} {a b : Int} (hr6 : r < 6) (hf : fok n σ Δ) (hx : zG n σ a x) (hy : zG n σ b y) (hr : rel r a b) : contra Δ r x y = false := by
  cases hc : contra Δ r x y with
  | false => rfl
  | true =>
    exfalso
    unfold contra at hc
    rw [Bool.and_eq_true, Bool.and_eq_true] at hc
    obtain ⟨⟨d1, d2⟩, hc⟩ := hc
    obtain ⟨f, hfm, hq⟩ := List.any_eq_true.mp hc
    have hfc := hf f hfm
    rw [Bool.and_eq_true] at hq
    have h6 := of_decide_eq_true hq.1
    have hq := hq.2
    unfold fcG at hfc
    rw [if_pos (by omega)] at hfc
    obtain ⟨u, v, e1, e2, e3⟩ := hfc
    rw [Bool.or_eq_true] at hq
    rcases hq with hq | hq
    · rw [Bool.and_eq_true, Bool.and_eq_true] at hq
      obtain ⟨⟨q1, q2⟩, q3⟩ := hq
      rw [of_decide_eq_true q1] at e1
      rw [of_decide_eq_true q2] at e2
      rw [det_ok d1 e1 hx, det_ok d2 e2 hy] at e3
      exact inq_ok q3 hr e3
    · rw [Bool.and_eq_true, Bool.and_eq_true] at hq
      obtain ⟨⟨q1, q2⟩, q3⟩ := hq
      rw [of_decide_eq_true q1] at e1
      rw [of_decide_eq_true q2] at e2
      rw [det_ok d2 e1 hy, det_ok d1 e2 hx] at e3
      exact inq_ok q3 (cnv_ok hr6 hr) e3
def a_if (ff : Bool) (k : ClassFile.Cond) (t i : Nat) (x y : AV) (Γ : aG) (C : aC) (Δ : aD) (A : aL) (r : List AV) : Option aO :=
  some ((if contra Δ (ccd k).1 x y = true then [] else (rfr Γ (ccd k).1 x y).map (fun G => (t, G, C, fadd ff Δ (ccd k).1 x y, A, r))) ++ (if contra Δ (ccd k).2 x y = true then [] else (rfr Γ (ccd k).2 x y).map (fun G => (i + 1, G, C, fadd ff Δ (ccd k).2 x y, A, r))))
def a_if1 (ff : Bool) (k : ClassFile.Cond) (e : pE) (i : Nat) (Γ : aG) (C : aC) (Δ : aD) (A : aL) (s : List AV) : Option aO := match s with
  | x :: r => if isI x = true then a_if ff k (e_x e) i x (cn 0) Γ C Δ A r else none
  | _ => none
def a_if2 (ff : Bool) (k : ClassFile.Cond) (e : pE) (i : Nat) (Γ : aG) (C : aC) (Δ : aD) (A : aL) (s : List AV) : Option aO := match s with
  | y :: x :: r => if isI x = true ∧ isI y = true then a_if ff k (e_x e) i x y Γ C Δ A r else none
  | _ => none
def a_ifn (b : Bool) (e : pE) (i : Nat) (Γ : aG) (C : aC) (Δ : aD) (A : aL) (s : List AV) : Option aO := match s with
  | x :: r => if x.1 = 4 then some [(cond b (e_x e) (i + 1), Γ, C, Δ, A, r)] else if isP x = true then some [(cond b (i + 1) (e_x e), Γ, C, Δ, A, r)] else none
  | _ => none
def a_sw (ff : Bool) (e : pE) (Γ : aG) (C : aC) (Δ : aD) (A : aL) (s : List AV) : Option aO := match s with
  | x :: r => if isI x = true then some ((pkeys e).flatMap (fun k => (rfr Γ 4 x (cn k.1)).map (fun G => (k.2, G, C, fadd ff Δ 4 x (cn k.1), A, r))) ++ (swd x (pkeys e) Γ).map (fun G => (e_x e, G, C, fsw ff x (pkeys e) Δ, A, r))) else none
  | _ => none
def a_gf (T : List aT) (e : pE) (i : Nat) (Γ : aG) (C : aC) (Δ : aD) (A : aL) (s : List AV) : Option aO := match s with
  | x :: r => if isP x = true then (match ard T Γ C (2 + e_x e) x (cn (e_y e)) with
    | some q => aps i q.1 q.2.1 Δ A (q.2.2 :: r)
    | none => none) else none
  | _ => none
def afit (ty : FieldType) (Γ : aG) (x : AV) : Bool := match ty with
  | .int => true
  | .boolean => (match ivl Γ x with
    | some p => decide (0 ≤ p.1) && decide (p.2 ≤ 1)
    | none => false)
  | _ => false
def a_pf (T : List aT) (W : aW) (e : pE) (i : Nat) (Γ : aG) (C : aC) (Δ : aD) (A : aL) (s : List AV) : Option aO := match s with
  | x :: y :: r => if isI x = true ∧ isP y = true ∧ afit (ptyp (e_x e) (e_y e)) Γ x = true then (match awr T W Γ C (2 + e_x e) y (cn (e_y e)) x with
    | some C' => aps i Γ C' Δ A r
    | none => none) else none
  | _ => none
def ipos (Γ : aG) (x : AV) : Bool := match ivl Γ x with
  | some p => decide (0 ≤ p.1)
  | none => false
def a_ald (T : List aT) (k : Nat) (i : Nat) (Γ : aG) (C : aC) (Δ : aD) (A : aL) (s : List AV) : Option aO := match s with
  | x :: y :: r => if isI x = true ∧ isP y = true ∧ ipos Γ x = true then (match ard T Γ C k y x with
    | some q => aps i q.1 q.2.1 Δ A (q.2.2 :: r)
    | none => none) else none
  | _ => none
def a_ast (T : List aT) (W : aW) (i : Nat) (Γ : aG) (C : aC) (Δ : aD) (A : aL) (s : List AV) : Option aO := match s with
  | v :: x :: y :: r => if isI v = true ∧ isI x = true ∧ isP y = true ∧ ipos Γ x = true then (match awr T W Γ C 0 y x v with
    | some C' => aps i Γ C' Δ A r
    | none => none) else none
  | _ => none
def lnT (T : List aT) (a : Nat) : Option Nat := match T[a]? with
  | some (.inl t) => some t.1
  | some (.inr (.inl t)) => some t.2.1
  | _ => none
def lnTs (T : List aT) (m : Nat) (as : List Nat) : Bool := as.all (fun a => decide (lnT T a = some m))
def a_len (T : List aT) (i : Nat) (Γ : aG) (C : aC) (Δ : aD) (A : aL) (s : List AV) : Option aO := match s with
  | x :: r => if isP x = true then (match adrs Γ x with
    | some (a :: as) => (match lnT T a with
      | some m => if lnTs T m (a :: as) = true ∧ m ≤ 100000 then aps i Γ C Δ A (cn (m : Int) :: r) else none
      | none => none)
    | _ => none) else none
  | _ => none
def astep (ff : Bool) (T : List aT) (W : aW) (e : pE) (i : Nat) (Γ : aG) (C : aC) (Δ : aD) (A : aL) (s : List AV) : Option aO := match e_in e with
  | .iconst _ => a_k e i Γ C Δ A s
  | .bipush _ => a_k e i Γ C Δ A s
  | .sipush _ => a_k e i Γ C Δ A s
  | .lconst _ => a_k e i Γ C Δ A s
  | .ldc _ => a_k e i Γ C Δ A s
  | .ldc_w _ => a_k e i Γ C Δ A s
  | .ldc2_w _ => a_k e i Γ C Δ A s
  | .aconst_null => aps i Γ C Δ A ((4, 0, 0, 0) :: s)
  | .iload _ => a_ld isI e i Γ C Δ A s
  | .iload_n _ => a_ld isI e i Γ C Δ A s
  | .lload _ => a_ld isL e i Γ C Δ A s
  | .lload_n _ => a_ld isL e i Γ C Δ A s
  | .aload _ => a_ld isR e i Γ C Δ A s
  | .aload_n _ => a_ld isR e i Γ C Δ A s
  | .istore _ => a_st isI e i Γ C Δ A s
  | .istore_n _ => a_st isI e i Γ C Δ A s
  | .astore _ => a_st isR e i Γ C Δ A s
  | .astore_n _ => a_st isR e i Γ C Δ A s
  | .iinc _ n => a_inc ff n e i Γ C Δ A s
  | .iadd => a_bin ff 0 i Γ C Δ A s
  | .isub => a_bin ff 1 i Γ C Δ A s
  | .imul => a_bin ff 2 i Γ C Δ A s
  | .iand => a_bin ff 3 i Γ C Δ A s
  | .ior => a_bin ff 4 i Γ C Δ A s
  | .ixor => a_bin ff 5 i Γ C Δ A s
  | .ishl => a_bin ff 6 i Γ C Δ A s
  | .ishr => a_bin ff 7 i Γ C Δ A s
  | .iushr => a_bin ff 8 i Γ C Δ A s
  | .idiv => a_div ff 10 i Γ C Δ A s
  | .irem => a_div ff 9 i Γ C Δ A s
  | .ineg => a_neg ff i Γ C Δ A s
  | .i2l => a_i2l i Γ C Δ A s
  | .i2s => a_un ff 13 i Γ C Δ A s
  | .ladd => a_ladd i Γ C Δ A s
  | .lcmp => a_lcmp ff i Γ C Δ A s
  | .dup => a_dup i Γ C Δ A s
  | .dup2 => a_dup2 i Γ C Δ A s
  | .pop => a_pop i Γ C Δ A s
  | .goto _ => some [(e_x e, Γ, C, Δ, A, s)]
  | .ifCond k _ => a_if1 ff k e i Γ C Δ A s
  | .if_icmp k _ => a_if2 ff k e i Γ C Δ A s
  | .ifnull _ => a_ifn true e i Γ C Δ A s
  | .ifnonnull _ => a_ifn false e i Γ C Δ A s
  | .tableswitch _ _ _ _ => a_sw ff e Γ C Δ A s
  | .lookupswitch _ _ => a_sw ff e Γ C Δ A s
  | .getfield _ => a_gf T e i Γ C Δ A s
  | .putfield _ => a_pf T W e i Γ C Δ A s
  | .iaload => a_ald T 0 i Γ C Δ A s
  | .iastore => a_ast T W i Γ C Δ A s
  | .aaload => a_ald T 1 i Γ C Δ A s
  | .arraylength => a_len T i Γ C Δ A s
  | _ => none
theorem ccd_lt6 (k : ClassFile.Cond) : (ccd k).1 < 6 ∧ (ccd k).2 < 6 := by cases k <;> exact ⟨by decide, by decide⟩
section STP
variable {n0 : Nat} {σ0 : Nat → Int} {T : List aT} {W : aW} {h0 : List pC} {E : pX} {t : pE} {i : Nat} {L : pL} {st : List Value} {h : List pC} {σ : Nat → Int} {Γ : aG} {C : aC} {Δ : aD} {A : aL} {s : List AV} {outs : aO} {ff : Bool}
theorem nx1 {L' : pL} {st' : List Value} {A' : aL} {s' : List AV} {i' : Nat} (g : gS n0 σ0 T W h0 σ (Γ, C, Δ, A, s) L st h) (hp : pstep E t i L st h = some (i', L', st', h, 0, 0)) (hL : LG Γ.length σ L' A') (hs : SG Γ.length σ st' s') : Nx n0 σ0 T W h0 E t i L st h σ Γ.length [(i', Γ, C, Δ, A', s')] :=
  ⟨i', _, σ, L', st', h, List.mem_cons_self, agr.rf _ _, Nat.le_refl _, hp, g.1, g.2.1, g.2.2.1, g.2.2.2.1, hL, hs, g.2.2.2.2.2.2⟩
theorem nx2 {L' : pL} {st' : List Value} {A' : aL} {s' : List AV} {i' : Nat} {Γ' : aG} {Δ' : aD} {σ' : Nat → Int} (g : gS n0 σ0 T W h0 σ (Γ, C, Δ, A, s) L st h) (ha : agr Γ.length σ σ') (hn : Γ.length ≤ Γ'.length) (hg : gok σ' Γ') (hf : fok Γ'.length σ' Δ') (hp : pstep E t i L st h = some (i', L', st', h, 0, 0)) (hL : LG Γ'.length σ' L' A') (hs : SG Γ'.length σ' st' s') (hm : (i', Γ', C, Δ', A', s') ∈ outs) : Nx n0 σ0 T W h0 E t i L st h σ Γ.length outs :=
  ⟨i', _, σ', L', st', h, hm, ha, hn, hp, ⟨Nat.le_trans g.1.1 hn, g.1.2.tr (ha.le g.1.1)⟩, hg, g.2.2.1.up hn ha, hf, hL, hs, g.2.2.2.2.2.2⟩
theorem nx_ref {L' : pL} {st' : List Value} {s' : List AV} {i' : Nat} {Γ' : aG} {Δ' : aD} (g : gS n0 σ0 T W h0 σ (Γ, C, Δ, A, s) L st h) (hn : Γ'.length = Γ.length) (hg : gok σ Γ') (hf : fok Γ.length σ Δ') (hp : pstep E t i L st h = some (i', L', st', h, 0, 0)) (hL : LG Γ.length σ L' A) (hs : SG Γ.length σ st' s') (hm : (i', Γ', C, Δ', A, s') ∈ outs) : Nx n0 σ0 T W h0 E t i L st h σ Γ.length outs :=
  nx2 g (agr.rf _ _) (by rw [hn]; exact Nat.le_refl _) hg (by rw [hn]; exact hf) hp (by rw [hn]; exact hL) (by rw [hn]; exact hs) hm
theorem isI_t {x : AV} (hb : isI x = true) : x.1 ≤ 1 := of_decide_eq_true hb
theorem isL_t {x : AV} (hb : isL x = true) : x.1 = 2 ∨ x.1 = 3 := of_decide_eq_true hb
theorem isP_t {x : AV} (hb : isP x = true) : x.1 = 5 ∨ x.1 = 6 := of_decide_eq_true hb
theorem isL_f {x : AV} {w : Value} {n : Nat} (hb : isL x = false) (hv : vG n σ w x) : w.category = 1 := by
  rw [acat_ok hv]
  unfold acat
  exact if_neg (of_decide_eq_false hb)
theorem avV_ok {v : Value} {x : AV} {n : Nat} (ha : avV v = some x) : vG n σ v x := by
  unfold avV at ha
  split at ha
  · cases ha
    exact ⟨Nat.zero_le _, cnZ _⟩
  · cases ha
    exact ⟨Or.inl rfl, zG.itv rfl (Int.le_refl _) (Int.le_refl _)⟩
  · cases ha
    rfl
  · cases ha
theorem k_ok (g : gS n0 σ0 T W h0 σ (Γ, C, Δ, A, s) L st h) (hp : pstep E t i L st h = pnx i L (e_v t :: st) h) (ha : a_k t i Γ C Δ A s = some outs) : Nx n0 σ0 T W h0 E t i L st h σ Γ.length outs := by
  unfold a_k at ha
  split at ha
  · rename_i x hx
    cases ha
    exact nx1 g hp g.2.2.2.2.1 ⟨avV_ok hx, g.2.2.2.2.2.1⟩
  · cases ha
theorem ldi_ok (g : gS n0 σ0 T W h0 σ (Γ, C, Δ, A, s) L st h) (hp : pstep E t i L st h = pldi t i L st h) (ha : a_ld isI t i Γ C Δ A s = some outs) : Nx n0 σ0 T W h0 E t i L st h σ Γ.length outs := by
  unfold a_ld at ha
  split at ha
  · rename_i x hx
    split at ha
    · rename_i hb
      cases ha
      have hb := isI_t hb
      obtain ⟨w, hw, hv⟩ := g.2.2.2.2.1.at hx (by omega)
      obtain ⟨v, rfl, hz⟩ := hv.int hb
      refine nx1 g (L' := L) (st' := .int v :: st) ?_ g.2.2.2.2.1 ⟨hv, g.2.2.2.2.2.1⟩
      rw [hp]
      unfold pldi
      rw [hw]
      rfl
    · cases ha
  · cases ha
theorem ldl_ok (g : gS n0 σ0 T W h0 σ (Γ, C, Δ, A, s) L st h) (hp : pstep E t i L st h = pldl t i L st h) (ha : a_ld isL t i Γ C Δ A s = some outs) : Nx n0 σ0 T W h0 E t i L st h σ Γ.length outs := by
  unfold a_ld at ha
  split at ha
  · rename_i x hx
    split at ha
    · rename_i hb
      cases ha
      have hb := isL_t hb
      obtain ⟨w, hw, hv⟩ := g.2.2.2.2.1.at hx (by omega)
      obtain ⟨v, rfl, hz⟩ := hv.long hb
      refine nx1 g (L' := L) (st' := .long v :: st) ?_ g.2.2.2.2.1 ⟨hv, g.2.2.2.2.2.1⟩
      rw [hp]
      unfold pldl
      rw [hw]
      rfl
    · cases ha
  · cases ha
theorem vG.isr {n : Nat} {w : Value} {x : AV} (hb : isR x = true) (hv : vG n σ w x) : w = .null ∨ ∃ a, w = .ref a := by
  have hb : x.1 = 4 ∨ x.1 = 5 ∨ x.1 = 6 := of_decide_eq_true hb
  rcases hb with hb | hb
  · exact Or.inl (hv.null hb)
  · obtain ⟨a, ha, -⟩ := hv.ref hb
    exact Or.inr ⟨a, ha⟩
theorem lda_ok (g : gS n0 σ0 T W h0 σ (Γ, C, Δ, A, s) L st h) (hp : pstep E t i L st h = plda t i L st h) (ha : a_ld isR t i Γ C Δ A s = some outs) : Nx n0 σ0 T W h0 E t i L st h σ Γ.length outs := by
  unfold a_ld at ha
  split at ha
  · rename_i x hx
    split at ha
    · rename_i hb
      cases ha
      have hb4 : x.1 = 4 ∨ x.1 = 5 ∨ x.1 = 6 := of_decide_eq_true hb
      obtain ⟨w, hw, hv⟩ := g.2.2.2.2.1.at hx (by omega)
      rcases hv.isr hb with rfl | ⟨a, rfl⟩
      · refine nx1 g (L' := L) (st' := .null :: st) ?_ g.2.2.2.2.1 ⟨hv, g.2.2.2.2.2.1⟩
        rw [hp]
        unfold plda
        rw [hw]
        rfl
      · refine nx1 g (L' := L) (st' := .ref a :: st) ?_ g.2.2.2.2.1 ⟨hv, g.2.2.2.2.2.1⟩
        rw [hp]
        unfold plda
        rw [hw]
        rfl
    · cases ha
  · cases ha
theorem sti_ok (g : gS n0 σ0 T W h0 σ (Γ, C, Δ, A, s) L st h) (hp : pstep E t i L st h = psti t i L st h) (ha : a_st isI t i Γ C Δ A s = some outs) : Nx n0 σ0 T W h0 E t i L st h σ Γ.length outs := by
  unfold a_st at ha
  split at ha
  · rename_i x r
    obtain ⟨w, st, rfl, hv, hs1⟩ := g.2.2.2.2.2.1.cons_inv
    split at ha
    · rename_i hb
      obtain ⟨v, rfl, hz⟩ := hv.int (isI_t hb)
      split at ha
      · rename_i A' hA
        cases ha
        obtain ⟨L', hL, hG⟩ := aset_ok g.2.2.2.2.1 hv hA
        refine nx1 g (L' := L') (st' := st) ?_ hG hs1
        rw [hp]
        unfold psti
        dsimp only
        rw [hL]
        rfl
      · cases ha
    · cases ha
  · cases ha
theorem sta_ok (g : gS n0 σ0 T W h0 σ (Γ, C, Δ, A, s) L st h) (hp : pstep E t i L st h = psta t i L st h) (ha : a_st isR t i Γ C Δ A s = some outs) : Nx n0 σ0 T W h0 E t i L st h σ Γ.length outs := by
  unfold a_st at ha
  split at ha
  · rename_i x r
    obtain ⟨w, st, rfl, hv, hs1⟩ := g.2.2.2.2.2.1.cons_inv
    split at ha
    · rename_i hb
      split at ha
      · rename_i A' hA
        cases ha
        obtain ⟨L', hL, hG⟩ := aset_ok g.2.2.2.2.1 hv hA
        rcases hv.isr hb with rfl | ⟨a, rfl⟩
        · refine nx1 g (L' := L') (st' := st) ?_ hG hs1
          rw [hp]
          unfold psta
          dsimp only
          rw [hL]
          rfl
        · refine nx1 g (L' := L') (st' := st) ?_ hG hs1
          rw [hp]
          unfold psta
          dsimp only
          rw [hL]
          rfl
      · cases ha
    · cases ha
  · cases ha
theorem ofI_small {k : Int} (h1 : -40000 ≤ k) (h2 : k ≤ 40000) : (Int32.ofInt k).toInt = k := Int32.toInt_ofInt_of_le (by omega) (by omega)
theorem inc_ok {k : Int} (g : gS n0 σ0 T W h0 σ (Γ, C, Δ, A, s) L st h) (hp : pstep E t i L st h = pinc k t i L st h) (ha : a_inc ff k t i Γ C Δ A s = some outs) : Nx n0 σ0 T W h0 E t i L st h σ Γ.length outs := by
  unfold a_inc at ha
  split at ha
  · rename_i x hx
    split at ha
    · rename_i hb
      obtain ⟨hb, hk1, hk2⟩ := hb
      have hb := isI_t hb
      obtain ⟨w, hw, hv⟩ := g.2.2.2.2.1.at hx (by omega)
      obtain ⟨v, rfl, hz⟩ := hv.int hb
      obtain ⟨σ', s1, s2, s3, s4, s5⟩ := aopS_ok (u := Int32.ofInt k) (y := cn k) ff 0 g.2.1 g.2.2.2.1 hz (by rw [ofI_small hk1 hk2]; exact cnZ k)
      split at ha
      · rename_i A' hA
        cases ha
        obtain ⟨L', hL, hG⟩ := aset_ok (g.2.2.2.2.1.up s3 s1) s5 hA
        refine nx2 g s1 s3 s2 s4 (L' := L') (st' := st) ?_ hG (g.2.2.2.2.2.1.up s3 s1) List.mem_cons_self
        rw [hp]
        unfold pinc
        rw [hw]
        dsimp only
        rw [show v + Int32.ofInt k = opS 0 v (Int32.ofInt k) from rfl, hL]
        rfl
      · cases ha
    · cases ha
  · cases ha
theorem bin_ok {c : Nat} {f : Int32 → Int32 → Int32} (hfc : f = opS c) (g : gS n0 σ0 T W h0 σ (Γ, C, Δ, A, s) L st h) (hp : pstep E t i L st h = pbin f i L st h) (ha : a_bin ff c i Γ C Δ A s = some outs) : Nx n0 σ0 T W h0 E t i L st h σ Γ.length outs := by
  unfold a_bin at ha
  split at ha
  · rename_i y x r
    obtain ⟨w, st, rfl, hv, hs1⟩ := g.2.2.2.2.2.1.cons_inv
    obtain ⟨w', st, rfl, hv', hs2⟩ := hs1.cons_inv
    split at ha
    · rename_i hb
      cases ha
      obtain ⟨u, rfl, hy⟩ := hv.int (isI_t hb.2)
      obtain ⟨v, rfl, hx⟩ := hv'.int (isI_t hb.1)
      obtain ⟨σ', s1, s2, s3, s4, s5⟩ := aopS_ok ff c g.2.1 g.2.2.2.1 hx hy
      refine nx2 g s1 s3 s2 s4 (L' := L) (st' := .int (opS c v u) :: st) ?_ (g.2.2.2.2.1.up s3 s1) (by exact ⟨s5, hs2.up s3 s1⟩) List.mem_cons_self
      rw [hp, hfc]
      rfl
    · cases ha
  · cases ha
theorem div_ok {c : Nat} {f : Int32 → Int32 → Int32} (hfc : f = opS c) (g : gS n0 σ0 T W h0 σ (Γ, C, Δ, A, s) L st h) (hp : pstep E t i L st h = pdiv f i L st h) (ha : a_div ff c i Γ C Δ A s = some outs) : Nx n0 σ0 T W h0 E t i L st h σ Γ.length outs := by
  unfold a_div at ha
  split at ha
  · rename_i y x r
    obtain ⟨w, st, rfl, hv, hs1⟩ := g.2.2.2.2.2.1.cons_inv
    obtain ⟨w', st, rfl, hv', hs2⟩ := hs1.cons_inv
    split at ha
    · rename_i hb
      cases ha
      obtain ⟨u, rfl, hy⟩ := hv.int (isI_t hb.2.1)
      obtain ⟨v, rfl, hx⟩ := hv'.int (isI_t hb.1)
      obtain ⟨σ', s1, s2, s3, s4, s5⟩ := aopS_ok ff c g.2.1 g.2.2.2.1 hx hy
      refine nx2 g s1 s3 s2 s4 (L' := L) (st' := .int (opS c v u) :: st) ?_ (g.2.2.2.2.1.up s3 s1) (by exact ⟨s5, hs2.up s3 s1⟩) List.mem_cons_self
      rw [hp, hfc]
      unfold pdiv
      exact if_neg (nz_ok g.2.1 hy hb.2.2)
    · cases ha
  · cases ha
theorem neg_ok (g : gS n0 σ0 T W h0 σ (Γ, C, Δ, A, s) L st h) (hp : pstep E t i L st h = puni (fun a => .int (-a)) i L st h) (ha : a_neg ff i Γ C Δ A s = some outs) : Nx n0 σ0 T W h0 E t i L st h σ Γ.length outs := by
  unfold a_neg at ha
  split at ha
  · rename_i x r
    obtain ⟨w, st, rfl, hv, hs1⟩ := g.2.2.2.2.2.1.cons_inv
    split at ha
    · rename_i hb
      cases ha
      obtain ⟨v, rfl, hx⟩ := hv.int (isI_t hb)
      obtain ⟨σ', s1, s2, s3, s4, s5⟩ := aopS_ok (v := 0) (x := cn 0) ff 1 g.2.1 g.2.2.2.1 (cnZ 0) hx
      refine nx2 g s1 s3 s2 s4 (L' := L) (st' := .int (opS 1 0 v) :: st) ?_ (g.2.2.2.2.1.up s3 s1) (by exact ⟨s5, hs1.up s3 s1⟩) List.mem_cons_self
      rw [hp]
      show pnx i L (.int (-v) :: st) h = pnx i L (.int (0 - v) :: st) h
      rw [Int32.zero_sub]
    · cases ha
  · cases ha
theorem un_ok {c : Nat} {f : Int32 → Value} (hfc : ∀ a, f a = .int (opS c a 0)) (g : gS n0 σ0 T W h0 σ (Γ, C, Δ, A, s) L st h) (hp : pstep E t i L st h = puni f i L st h) (ha : a_un ff c i Γ C Δ A s = some outs) : Nx n0 σ0 T W h0 E t i L st h σ Γ.length outs := by
  unfold a_un at ha
  split at ha
  · rename_i x r
    obtain ⟨w, st, rfl, hv, hs1⟩ := g.2.2.2.2.2.1.cons_inv
    split at ha
    · rename_i hb
      cases ha
      obtain ⟨v, rfl, hx⟩ := hv.int (isI_t hb)
      obtain ⟨σ', s1, s2, s3, s4, s5⟩ := aopS_ok (u := 0) (y := cn 0) ff c g.2.1 g.2.2.2.1 hx (cnZ 0)
      refine nx2 g s1 s3 s2 s4 (L' := L) (st' := .int (opS c v 0) :: st) ?_ (g.2.2.2.2.1.up s3 s1) (by exact ⟨s5, hs1.up s3 s1⟩) List.mem_cons_self
      rw [hp]
      show pnx i L (f v :: st) h = _
      rw [hfc]
      rfl
    · cases ha
  · cases ha
theorem zG.lift {n : Nat} {z : Int} {x : AV} (hz : zG n σ z x) : zG n σ z (x.1 + 2, x.2.1, x.2.2.1, x.2.2.2) := by
  unfold zG at hz ⊢
  rw [show (x.1 + 2) % 2 = x.1 % 2 by omega]
  exact hz
theorem i2l_ok (g : gS n0 σ0 T W h0 σ (Γ, C, Δ, A, s) L st h) (hp : pstep E t i L st h = puni (fun a => .long a.toInt64) i L st h) (ha : a_i2l i Γ C Δ A s = some outs) : Nx n0 σ0 T W h0 E t i L st h σ Γ.length outs := by
  unfold a_i2l at ha
  split at ha
  · rename_i x r
    obtain ⟨w, st, rfl, hv, hs1⟩ := g.2.2.2.2.2.1.cons_inv
    split at ha
    · rename_i hb
      cases ha
      obtain ⟨v, rfl, hx⟩ := hv.int (isI_t hb)
      refine nx1 g (L' := L) (st' := .long v.toInt64 :: st) ?_ g.2.2.2.2.1 ⟨⟨by have := isI_t hb; dsimp only; omega, by rw [Int32.toInt_toInt64]; exact hx.lift⟩, hs1⟩
      rw [hp]
      rfl
    · cases ha
  · cases ha
theorem bm64 {z : Int} (h1 : -9000000000000 ≤ z) (h2 : z ≤ 9000000000000) : z.bmod (2 ^ 64) = z := Int.bmod_eq_of_le (by omega) (by omega)
theorem ladd_ok (g : gS n0 σ0 T W h0 σ (Γ, C, Δ, A, s) L st h) (hp : pstep E t i L st h = plbin (fun a b => .long (a + b)) i L st h) (ha : a_ladd i Γ C Δ A s = some outs) : Nx n0 σ0 T W h0 E t i L st h σ Γ.length outs := by
  unfold a_ladd at ha
  split at ha
  · rename_i y x r
    obtain ⟨w, st, rfl, hv, hs1⟩ := g.2.2.2.2.2.1.cons_inv
    obtain ⟨w', st, rfl, hv', hs2⟩ := hs1.cons_inv
    split at ha
    · rename_i hb
      obtain ⟨u, rfl, hy⟩ := hv.long (isL_t hb.2)
      obtain ⟨v, rfl, hx⟩ := hv'.long (isL_t hb.1)
      split at ha
      · rename_i p q hp1 hq1
        split at ha
        · rename_i hc
          cases ha
          have h1 := ivl_ok g.2.1 hx hp1
          have h2 := ivl_ok g.2.1 hy hq1
          have e : (v + u).toInt = v.toInt + u.toInt := by rw [Int64.toInt_add]; exact bm64 (by omega) (by omega)
          refine nx1 g (L' := L) (st' := .long (v + u) :: st) ?_ g.2.2.2.2.1 ⟨⟨Or.inl rfl, by rw [e]; exact zG.itv rfl (by omega) (by omega)⟩, hs2⟩
          rw [hp]
          rfl
        · cases ha
      · cases ha
    · cases ha
  · cases ha
theorem lcmp_ok (g : gS n0 σ0 T W h0 σ (Γ, C, Δ, A, s) L st h) (hp : pstep E t i L st h = plbin (fun a b => .int (lg_cmp a b)) i L st h) (ha : a_lcmp ff i Γ C Δ A s = some outs) : Nx n0 σ0 T W h0 E t i L st h σ Γ.length outs := by
  unfold a_lcmp at ha
  split at ha
  · rename_i y x r
    obtain ⟨w, st, rfl, hv, hs1⟩ := g.2.2.2.2.2.1.cons_inv
    obtain ⟨w', st, rfl, hv', hs2⟩ := hs1.cons_inv
    split at ha
    · rename_i hb
      cases ha
      obtain ⟨u, rfl, hy⟩ := hv.long (isL_t hb.2)
      obtain ⟨v, rfl, hx⟩ := hv'.long (isL_t hb.1)
      have hgt : v > u ↔ u.toInt < v.toInt := Int64.lt_iff_toInt_lt
      have heq : v = u ↔ v.toInt = u.toInt := Int64.toInt_inj.symm
      by_cases c1 : u.toInt < v.toInt
      · obtain ⟨G, m1, g1, l1⟩ := rfr_ok (z := v.toInt) (z' := u.toInt) 2 g.2.1 hx hy c1
        refine nx_ref g l1 g1 (fadd_ok (r := 2) ff g.2.2.2.1 (by decide) hx hy c1) (L' := L) (st' := .int 1 :: st) ?_ g.2.2.2.2.1 (by exact ⟨⟨Nat.zero_le _, cnZ 1⟩, hs2⟩) (List.mem_append_right _ (List.mem_append_right _ (List.mem_map.mpr ⟨G, m1, rfl⟩)))
        rw [hp]
        show pnx i L (.int (lg_cmp v u) :: st) h = _
        unfold lg_cmp
        rw [if_pos (hgt.mpr c1)]
        rfl
      · by_cases c2 : v.toInt = u.toInt
        · obtain ⟨G, m1, g1, l1⟩ := rfr_ok (z := v.toInt) (z' := u.toInt) 4 g.2.1 hx hy c2
          refine nx_ref g l1 g1 (fadd_ok (r := 4) ff g.2.2.2.1 (by decide) hx hy c2) (L' := L) (st' := .int 0 :: st) ?_ g.2.2.2.2.1 (by exact ⟨⟨Nat.zero_le _, cnZ 0⟩, hs2⟩) (List.mem_append_right _ (List.mem_append_left _ (List.mem_map.mpr ⟨G, m1, rfl⟩)))
          rw [hp]
          show pnx i L (.int (lg_cmp v u) :: st) h = _
          unfold lg_cmp
          rw [if_neg (fun q => c1 (hgt.mp q)), if_pos (heq.mpr c2)]
          rfl
        · have c3 : rel 0 v.toInt u.toInt := by
            show v.toInt < u.toInt
            omega
          obtain ⟨G, m1, g1, l1⟩ := rfr_ok (z := v.toInt) (z' := u.toInt) 0 g.2.1 hx hy c3
          refine nx_ref g l1 g1 (fadd_ok (r := 0) ff g.2.2.2.1 (by decide) hx hy c3) (L' := L) (st' := .int (-1) :: st) ?_ g.2.2.2.2.1 (by exact ⟨⟨Nat.zero_le _, cnZ (-1)⟩, hs2⟩) (List.mem_append_left _ (List.mem_map.mpr ⟨G, m1, rfl⟩))
          rw [hp]
          show pnx i L (.int (lg_cmp v u) :: st) h = _
          unfold lg_cmp
          rw [if_neg (fun q => c1 (hgt.mp q)), if_neg (fun q => c2 (heq.mp q))]
          rfl
    · cases ha
  · cases ha
theorem dup_ok (g : gS n0 σ0 T W h0 σ (Γ, C, Δ, A, s) L st h) (hp : pstep E t i L st h = pdup i L st h) (ha : a_dup i Γ C Δ A s = some outs) : Nx n0 σ0 T W h0 E t i L st h σ Γ.length outs := by
  unfold a_dup at ha
  split at ha
  · rename_i x r
    obtain ⟨w, st, rfl, hv, hs1⟩ := g.2.2.2.2.2.1.cons_inv
    split at ha
    · rename_i hb
      cases ha
      refine nx1 g (L' := L) (st' := w :: w :: st) ?_ g.2.2.2.2.1 ⟨hv, hv, hs1⟩
      rw [hp]
      exact if_pos (isL_f hb hv)
    · cases ha
  · cases ha
theorem dup2_ok (g : gS n0 σ0 T W h0 σ (Γ, C, Δ, A, s) L st h) (hp : pstep E t i L st h = pdup2 i L st h) (ha : a_dup2 i Γ C Δ A s = some outs) : Nx n0 σ0 T W h0 E t i L st h σ Γ.length outs := by
  unfold a_dup2 at ha
  split at ha
  · rename_i x y r
    obtain ⟨w, st, rfl, hv, hs1⟩ := g.2.2.2.2.2.1.cons_inv
    obtain ⟨w', st, rfl, hv', hs2⟩ := hs1.cons_inv
    split at ha
    · rename_i hb
      cases ha
      refine nx1 g (L' := L) (st' := w :: w' :: w :: w' :: st) ?_ g.2.2.2.2.1 ⟨hv, hv', hv, hv', hs2⟩
      rw [hp]
      exact if_pos ⟨isL_f hb.1 hv, isL_f hb.2 hv'⟩
    · cases ha
  · cases ha
theorem pop_ok (g : gS n0 σ0 T W h0 σ (Γ, C, Δ, A, s) L st h) (hp : pstep E t i L st h = ppop i L st h) (ha : a_pop i Γ C Δ A s = some outs) : Nx n0 σ0 T W h0 E t i L st h σ Γ.length outs := by
  unfold a_pop at ha
  split at ha
  · rename_i x r
    obtain ⟨w, st, rfl, hv, hs1⟩ := g.2.2.2.2.2.1.cons_inv
    split at ha
    · rename_i hb
      cases ha
      refine nx1 g (L' := L) (st' := st) ?_ g.2.2.2.2.1 hs1
      rw [hp]
      exact if_pos (isL_f hb hv)
    · cases ha
  · cases ha
theorem if_ok {k : ClassFile.Cond} {q : Nat} {x y : AV} {r : List AV} {st' : List Value} {v u : Int32} (g : gS n0 σ0 T W h0 σ (Γ, C, Δ, A, s) L st h) (hx : zG Γ.length σ v.toInt x) (hy : zG Γ.length σ u.toInt y) (hs : SG Γ.length σ st' r) (hp : pstep E t i L st h = some (cond (pc2 k v u) q (i + 1), L, st', h, 0, 0)) (ha : a_if ff k q i x y Γ C Δ A r = some outs) : Nx n0 σ0 T W h0 E t i L st h σ Γ.length outs := by
  unfold a_if at ha
  cases ha
  cases hb : pc2 k v u with
  | true =>
    have hr := ccd_t hb
    obtain ⟨G, m1, g1, l1⟩ := rfr_ok _ g.2.1 hx hy hr
    refine nx_ref g l1 g1 (fadd_ok ff g.2.2.2.1 (ccd_lt k).1 hx hy hr) (i' := q) (L' := L) (st' := st') (by rw [hp, hb]; rfl) g.2.2.2.2.1 hs (List.mem_append_left _ ?_)
    rw [if_neg (by rw [contra_ok (ccd_lt6 k).1 g.2.2.2.1 hx hy hr]; decide)]
    exact List.mem_map.mpr ⟨G, m1, rfl⟩
  | false =>
    have hr := ccd_f hb
    obtain ⟨G, m1, g1, l1⟩ := rfr_ok _ g.2.1 hx hy hr
    refine nx_ref g l1 g1 (fadd_ok ff g.2.2.2.1 (ccd_lt k).2 hx hy hr) (i' := i + 1) (L' := L) (st' := st') (by rw [hp, hb]; rfl) g.2.2.2.2.1 hs (List.mem_append_right _ ?_)
    rw [if_neg (by rw [contra_ok (ccd_lt6 k).2 g.2.2.2.1 hx hy hr]; decide)]
    exact List.mem_map.mpr ⟨G, m1, rfl⟩
theorem if1_ok {k : ClassFile.Cond} (g : gS n0 σ0 T W h0 σ (Γ, C, Δ, A, s) L st h) (hp : pstep E t i L st h = pif1 k (e_x t) i L st h) (ha : a_if1 ff k t i Γ C Δ A s = some outs) : Nx n0 σ0 T W h0 E t i L st h σ Γ.length outs := by
  unfold a_if1 at ha
  split at ha
  · rename_i x r
    obtain ⟨w, st, rfl, hv, hs1⟩ := g.2.2.2.2.2.1.cons_inv
    split at ha
    · rename_i hb
      obtain ⟨v, rfl, hx⟩ := hv.int (isI_t hb)
      exact if_ok (v := v) (u := 0) (q := e_x t) g hx (cnZ 0) hs1 (by rw [hp]; show some (cond (pc1 k v) (e_x t) (i + 1), L, st, h, 0, 0) = _; rw [pc1_2]) ha
    · cases ha
  · cases ha
theorem if2_ok {k : ClassFile.Cond} (g : gS n0 σ0 T W h0 σ (Γ, C, Δ, A, s) L st h) (hp : pstep E t i L st h = pif2 k (e_x t) i L st h) (ha : a_if2 ff k t i Γ C Δ A s = some outs) : Nx n0 σ0 T W h0 E t i L st h σ Γ.length outs := by
  unfold a_if2 at ha
  split at ha
  · rename_i y x r
    obtain ⟨w, st, rfl, hv, hs1⟩ := g.2.2.2.2.2.1.cons_inv
    obtain ⟨w', st, rfl, hv', hs2⟩ := hs1.cons_inv
    split at ha
    · rename_i hb
      obtain ⟨u, rfl, hy⟩ := hv.int (isI_t hb.2)
      obtain ⟨v, rfl, hx⟩ := hv'.int (isI_t hb.1)
      exact if_ok (v := v) (u := u) (q := e_x t) g hx hy hs2 (by rw [hp]; rfl) ha
    · cases ha
  · cases ha
theorem ifn_ok {b : Bool} (g : gS n0 σ0 T W h0 σ (Γ, C, Δ, A, s) L st h) (hp : pstep E t i L st h = cond b (pifn (e_x t) i L st h) (pifnn (e_x t) i L st h)) (ha : a_ifn b t i Γ C Δ A s = some outs) : Nx n0 σ0 T W h0 E t i L st h σ Γ.length outs := by
  unfold a_ifn at ha
  split at ha
  · rename_i x r
    obtain ⟨w, st, rfl, hv, hs1⟩ := g.2.2.2.2.2.1.cons_inv
    split at ha
    · rename_i hb
      cases ha
      obtain rfl := hv.null hb
      refine nx1 g (L' := L) (st' := st) ?_ g.2.2.2.2.1 hs1
      rw [hp]
      cases b <;> rfl
    · split at ha
      · rename_i hb
        cases ha
        obtain ⟨a, rfl, -⟩ := hv.ref (isP_t hb)
        refine nx1 g (L' := L) (st' := st) ?_ g.2.2.2.2.1 hs1
        rw [hp]
        cases b <;> rfl
      · cases ha
  · cases ha
theorem sw_ok (g : gS n0 σ0 T W h0 σ (Γ, C, Δ, A, s) L st h) (hp : pstep E t i L st h = pswi (pkeys t) (e_x t) i L st h) (ha : a_sw ff t Γ C Δ A s = some outs) : Nx n0 σ0 T W h0 E t i L st h σ Γ.length outs := by
  unfold a_sw at ha
  split at ha
  · rename_i x r
    obtain ⟨w, st, rfl, hv, hs1⟩ := g.2.2.2.2.2.1.cons_inv
    split at ha
    · rename_i hb
      cases ha
      obtain ⟨v, rfl, hx⟩ := hv.int (isI_t hb)
      rcases psw_cases v.toInt (e_x t) (pkeys t) with ⟨k, hk, h1, h2⟩ | ⟨h1, h2⟩
      · obtain ⟨G, m1, g1, l1⟩ := rfr_ok (z := v.toInt) (z' := k.1) 4 g.2.1 hx (cnZ k.1) h1
        refine nx_ref g l1 g1 (fadd_ok (r := 4) ff g.2.2.2.1 (by decide) hx (cnZ k.1) h1) (L' := L) (st' := st) (i' := k.2) ?_ g.2.2.2.2.1 hs1 (List.mem_append_left _ (List.mem_flatMap.mpr ⟨k, hk, List.mem_map.mpr ⟨G, m1, rfl⟩⟩))
        rw [hp]
        show some (psw v.toInt (pkeys t) (e_x t), L, st, h, 0, 0) = _
        rw [h2]
      · obtain ⟨G, m1, g1, l1⟩ := swd_ok hx (pkeys t) g.2.1 h1
        refine nx_ref g l1 g1 (fsw_ok ff hx (pkeys t) g.2.2.2.1 h1) (L' := L) (st' := st) (i' := e_x t) ?_ g.2.2.2.2.1 hs1 (List.mem_append_right _ (List.mem_map.mpr ⟨G, m1, rfl⟩))
        rw [hp]
        show some (psw v.toInt (pkeys t) (e_x t), L, st, h, 0, 0) = _
        rw [h2]
    · cases ha
  · cases ha
theorem nx3 {L' : pL} {st' : List Value} {A' : aL} {s' : List AV} {i' : Nat} {Γ' : aG} {C' : aC} {σ' : Nat → Int} {h' : List pC} (g : gS n0 σ0 T W h0 σ (Γ, C, Δ, A, s) L st h) (ha : agr Γ.length σ σ') (hn : Γ.length ≤ Γ'.length) (hg : gok σ' Γ') (hc : cok Γ'.length σ' h' C') (hH : HI T h' ∧ Fr W h0 h') (hp : pstep E t i L st h = some (i', L', st', h', 0, 0)) (hL : LG Γ.length σ L' A') (hs : SG Γ'.length σ' st' s') (hm : (i', Γ', C', Δ, A', s') ∈ outs) : Nx n0 σ0 T W h0 E t i L st h σ Γ.length outs :=
  ⟨i', _, σ', L', st', h', hm, ha, hn, hp, ⟨Nat.le_trans g.1.1 hn, g.1.2.tr (ha.le g.1.1)⟩, hg, hc, g.2.2.2.1.up hn ha, hL.up hn ha, hs, hH⟩
theorem gf_ok (g : gS n0 σ0 T W h0 σ (Γ, C, Δ, A, s) L st h) (hp : pstep E t i L st h = pgetf t i L st h) (ha : a_gf T t i Γ C Δ A s = some outs) : Nx n0 σ0 T W h0 E t i L st h σ Γ.length outs := by
  unfold a_gf at ha
  split at ha
  · rename_i x r
    obtain ⟨w, st, rfl, hv, hs1⟩ := g.2.2.2.2.2.1.cons_inv
    split at ha
    · rename_i hb
      split at ha
      · rename_i q hq
        cases ha
        obtain ⟨a, rfl, -⟩ := hv.ref (isP_t hb)
        obtain ⟨Γ', C', v'⟩ := q
        obtain ⟨σ', c, w, s1, s2, s3, s4, k1, k2, k3, k4⟩ := ard_ok (i := e_y t) g.2.1 g.2.2.1 g.2.2.2.2.2.2.1 hv (cnZ _) hq
        refine nx3 g s1 s3 s2 s4 g.2.2.2.2.2.2 (L' := L) (st' := w :: st) ?_ g.2.2.2.2.1 (by exact ⟨k4, hs1.up s3 s1⟩) List.mem_cons_self
        rcases c with z | z | z
        · have k2 : 0 = 2 + e_x t := k2
          omega
        · have k2 : 1 = 2 + e_x t := k2
          omega
        · have k2 : 2 + z.1 = 2 + e_x t := k2
          have e1 : z.1 = e_x t := by omega
          unfold ct at k3
          rw [k1] at k3
          have k3 : z.2[e_y t]? = some w := k3
          rw [hp]
          unfold pgetf pobj
          dsimp only
          rw [k1]
          dsimp only
          rw [if_pos e1, k3]
          rfl
      · cases ha
    · cases ha
  · cases ha
theorem afit_ok {ty : FieldType} {x : AV} {v : Int32} (hg : gok σ Γ) (hx : zG Γ.length σ v.toInt x) (hf : afit ty Γ x = true) : pfit ty (.int v) = true := by
  unfold afit at hf
  split at hf
  · rfl
  · split at hf
    · rename_i p hp
      have h1 := ivl_ok hg hx hp
      rw [Bool.and_eq_true] at hf
      have f1 := of_decide_eq_true hf.1
      have f2 := of_decide_eq_true hf.2
      refine decide_eq_true ?_
      have h2 : v.toInt = 0 ∨ v.toInt = 1 := by omega
      rcases h2 with h2 | h2
      · exact Or.inl (i32_eq.mpr h2)
      · exact Or.inr (i32_eq.mpr h2)
    · cases hf
  · cases hf
theorem pf_ok (g : gS n0 σ0 T W h0 σ (Γ, C, Δ, A, s) L st h) (hp : pstep E t i L st h = pputf t i L st h) (ha : a_pf T W t i Γ C Δ A s = some outs) : Nx n0 σ0 T W h0 E t i L st h σ Γ.length outs := by
  unfold a_pf at ha
  split at ha
  · rename_i x y r
    obtain ⟨w, st, rfl, hv, hs1⟩ := g.2.2.2.2.2.1.cons_inv
    obtain ⟨w', st, rfl, hv', hs2⟩ := hs1.cons_inv
    split at ha
    · rename_i hb
      obtain ⟨hb1, hb2, hb3⟩ := hb
      split at ha
      · rename_i C' hC
        cases ha
        obtain ⟨v, rfl, hx⟩ := hv.int (isI_t hb1)
        obtain ⟨a, rfl, -⟩ := hv'.ref (isP_t hb2)
        obtain ⟨q1, q2, q3, c, q4, q5, q6, q7, q8⟩ := awr_ok (i := e_y t) g.2.1 g.2.2.1 g.2.2.2.2.2.2.1 g.2.2.2.2.2.2.2 hv' (cnZ _) hv hC
        refine nx3 g (agr.rf _ _) (Nat.le_refl _) g.2.1 q3 ⟨q1, q2⟩ (L' := L) (st' := st) ?_ g.2.2.2.2.1 hs2 List.mem_cons_self
        rcases c with z | z | z
        · have q5 : 0 = 2 + e_x t := q5
          omega
        · exact absurd rfl (q8 z)
        · have q5 : 2 + z.1 = 2 + e_x t := q5
          have e1 : z.1 = e_x t := by omega
          rw [hp]
          unfold pputf pobj wrC
          dsimp only
          rw [q4]
          dsimp only
          rw [if_pos e1, if_pos (afit_ok g.2.1 hx hb3)]
          rfl
      · cases ha
    · cases ha
  · cases ha
theorem ipos_ok {x : AV} {v : Int32} (hg : gok σ Γ) (hx : zG Γ.length σ v.toInt x) (hf : ipos Γ x = true) : 0 ≤ v ∧ ((v.toNatClampNeg : Nat) : Int) = v.toInt := by
  unfold ipos at hf
  split at hf
  · rename_i p hp
    have h1 := ivl_ok hg hx hp
    have f1 := of_decide_eq_true hf
    have h0 : 0 ≤ v.toInt := by omega
    refine ⟨Int32.le_iff_toInt_le.mpr h0, ?_⟩
    rw [Int32.toNatClampNeg, Int.toNat_of_nonneg h0]
  · cases hf
theorem ald_ok {k : Nat} (hk : (k = 0 ∧ pstep E t i L st h = piald E i L st h) ∨ (k = 1 ∧ pstep E t i L st h = paald i L st h)) (g : gS n0 σ0 T W h0 σ (Γ, C, Δ, A, s) L st h) (ha : a_ald T k i Γ C Δ A s = some outs) : Nx n0 σ0 T W h0 E t i L st h σ Γ.length outs := by
  unfold a_ald at ha
  split at ha
  · rename_i x y r
    obtain ⟨w, st, rfl, hv, hs1⟩ := g.2.2.2.2.2.1.cons_inv
    obtain ⟨w', st, rfl, hv', hs2⟩ := hs1.cons_inv
    split at ha
    · rename_i hb
      obtain ⟨hb1, hb2, hb3⟩ := hb
      split at ha
      · rename_i q hq
        cases ha
        obtain ⟨v, rfl, hx⟩ := hv.int (isI_t hb1)
        obtain ⟨a, rfl, -⟩ := hv'.ref (isP_t hb2)
        obtain ⟨Γ', C', v'⟩ := q
        obtain ⟨p1, p2⟩ := ipos_ok g.2.1 hx hb3
        obtain ⟨σ', c, w, s1, s2, s3, s4, k1, k2, k3, k4⟩ := ard_ok (i := v.toNatClampNeg) g.2.1 g.2.2.1 g.2.2.2.2.2.2.1 hv' (by rw [p2]; exact hx) hq
        refine nx3 g s1 s3 s2 s4 g.2.2.2.2.2.2 (L' := L) (st' := w :: st) ?_ g.2.2.2.2.1 (by exact ⟨k4, hs2.up s3 s1⟩) List.mem_cons_self
        rcases hk with ⟨rfl, hp⟩ | ⟨rfl, hp⟩
        · rcases c with z | z | z
          · unfold ct at k3
            rw [k1] at k3
            have k3 : (if v.toNatClampNeg < z.1 then some (Value.int (z.2 v.toNatClampNeg)) else none) = some w := k3
            split at k3
            · rename_i hlt
              cases k3
              rw [hp]
              unfold piald pint
              dsimp only
              rw [k1]
              dsimp only
              rw [if_pos ⟨p1, hlt⟩]
              rfl
            · cases k3
          · exact absurd (show 1 = 0 from k2) (by decide)
          · exact absurd (show 2 + z.1 = 0 from k2) (by omega)
        · rcases c with z | z | z
          · exact absurd (show 0 = 1 from k2) (by decide)
          · unfold ct at k3
            rw [k1] at k3
            have k3 : (if v.toNatClampNeg < z.2.1 then some (va_rf (z.2.2 v.toNatClampNeg)) else none) = some w := k3
            split at k3
            · rename_i hlt
              cases k3
              rw [hp]
              unfold paald pref
              dsimp only
              rw [k1]
              dsimp only
              rw [if_pos ⟨p1, hlt⟩]
              rfl
            · cases k3
          · exact absurd (show 2 + z.1 = 1 from k2) (by omega)
      · cases ha
    · cases ha
  · cases ha
theorem ast_ok (g : gS n0 σ0 T W h0 σ (Γ, C, Δ, A, s) L st h) (hp : pstep E t i L st h = piast i L st h) (ha : a_ast T W i Γ C Δ A s = some outs) : Nx n0 σ0 T W h0 E t i L st h σ Γ.length outs := by
  unfold a_ast at ha
  split at ha
  · rename_i xv x y r
    obtain ⟨w0, st, rfl, hv0, hs1⟩ := g.2.2.2.2.2.1.cons_inv
    obtain ⟨w, st, rfl, hv, hs2⟩ := hs1.cons_inv
    obtain ⟨w', st, rfl, hv', hs3⟩ := hs2.cons_inv
    split at ha
    · rename_i hb
      obtain ⟨hb0, hb1, hb2, hb3⟩ := hb
      split at ha
      · rename_i C' hC
        cases ha
        obtain ⟨v, rfl, hx0⟩ := hv0.int (isI_t hb0)
        obtain ⟨j, rfl, hx⟩ := hv.int (isI_t hb1)
        obtain ⟨a, rfl, -⟩ := hv'.ref (isP_t hb2)
        obtain ⟨p1, p2⟩ := ipos_ok g.2.1 hx hb3
        obtain ⟨q1, q2, q3, c, q4, q5, q6, q7, q8⟩ := awr_ok (i := j.toNatClampNeg) g.2.1 g.2.2.1 g.2.2.2.2.2.2.1 g.2.2.2.2.2.2.2 hv' (by rw [p2]; exact hx) hv0 hC
        refine nx3 g (agr.rf _ _) (Nat.le_refl _) g.2.1 q3 ⟨q1, q2⟩ (L' := L) (st' := st) ?_ g.2.2.2.2.1 hs3 List.mem_cons_self
        rcases c with z | z | z
        · have hlt := q6 z rfl
          rw [hp]
          unfold piast pint wrC
          dsimp only
          rw [q4]
          dsimp only
          rw [if_pos ⟨p1, hlt⟩]
          rfl
        · exact absurd rfl (q8 z)
        · exact absurd (show 2 + z.1 = 0 from q5) (by omega)
      · cases ha
    · cases ha
  · cases ha
theorem lnT_ok {a m : Nat} (hh : HI T h) (hl : lnT T a = some m) : (∃ x, h[a]? = some (.inl x) ∧ x.1 = m) ∨ (∃ x, h[a]? = some (.inr (.inl x)) ∧ x.2.1 = m) := by
  unfold lnT at hl
  split at hl
  · rename_i t ht
    cases hl
    obtain ⟨c, hc, hty⟩ := hh.2 a _ ht
    rcases c with x | x | x
    · exact Or.inl ⟨x, hc, hty.1⟩
    · exact hty.elim
    · exact hty.elim
  · rename_i t ht
    cases hl
    obtain ⟨c, hc, hty⟩ := hh.2 a _ ht
    rcases c with x | x | x
    · exact hty.elim
    · exact Or.inr ⟨x, hc, hty.2.1⟩
    · exact hty.elim
  · cases hl
theorem ofN_small {m : Nat} (h : m ≤ 100000) : (Int32.ofNat m).toInt = (m : Int) := by
  rw [Int32.toInt_ofNat_of_lt]
  omega
theorem len_ok (g : gS n0 σ0 T W h0 σ (Γ, C, Δ, A, s) L st h) (hp : pstep E t i L st h = palen E i L st h) (ha : a_len T i Γ C Δ A s = some outs) : Nx n0 σ0 T W h0 E t i L st h σ Γ.length outs := by
  unfold a_len at ha
  split at ha
  · rename_i x r
    obtain ⟨w, st, rfl, hv, hs1⟩ := g.2.2.2.2.2.1.cons_inv
    split at ha
    · split at ha
      · rename_i b bs hbs
        split at ha
        · rename_i m hm
          split at ha
          · rename_i hc
            cases ha
            obtain ⟨a, ha', rfl⟩ := adrs_ok g.2.1 hv hbs
            have hl : lnT T a = some m := of_decide_eq_true (List.all_eq_true.mp hc.1 a ha')
            refine nx1 g (L' := L) (st' := .int (Int32.ofNat m) :: st) ?_ g.2.2.2.2.1 ⟨⟨Nat.zero_le _, by rw [ofN_small hc.2]; exact cnZ _⟩, hs1⟩
            rw [hp]
            unfold palen
            dsimp only
            rcases lnT_ok g.2.2.2.2.2.2.1 hl with ⟨z, h1, rfl⟩ | ⟨z, h1, rfl⟩
            · rw [h1]; rfl
            · rw [h1]; rfl
          · cases ha
        · cases ha
      · cases ha
    · cases ha
  · cases ha
theorem astep_ok (g : gS n0 σ0 T W h0 σ (Γ, C, Δ, A, s) L st h) (ha : astep ff T W t i Γ C Δ A s = some outs) : Nx n0 σ0 T W h0 E t i L st h σ Γ.length outs := by
  unfold astep at ha
  split at ha
  · rename_i hin; exact k_ok g (by unfold pstep; rw [hin]) ha
  · rename_i hin; exact k_ok g (by unfold pstep; rw [hin]) ha
  · rename_i hin; exact k_ok g (by unfold pstep; rw [hin]) ha
  · rename_i hin; exact k_ok g (by unfold pstep; rw [hin]) ha
  · rename_i hin; exact k_ok g (by unfold pstep; rw [hin]) ha
  · rename_i hin; exact k_ok g (by unfold pstep; rw [hin]) ha
  · rename_i hin; exact k_ok g (by unfold pstep; rw [hin]) ha
  · rename_i hin
    cases ha
    exact nx1 g (L' := L) (st' := .null :: st) (by unfold pstep; rw [hin]; rfl) g.2.2.2.2.1 ⟨rfl, g.2.2.2.2.2.1⟩
  · rename_i hin; exact ldi_ok g (by unfold pstep; rw [hin]) ha
  · rename_i hin; exact ldi_ok g (by unfold pstep; rw [hin]) ha
  · rename_i hin; exact ldl_ok g (by unfold pstep; rw [hin]) ha
  · rename_i hin; exact ldl_ok g (by unfold pstep; rw [hin]) ha
  · rename_i hin; exact lda_ok g (by unfold pstep; rw [hin]) ha
  · rename_i hin; exact lda_ok g (by unfold pstep; rw [hin]) ha
  · rename_i hin; exact sti_ok g (by unfold pstep; rw [hin]) ha
  · rename_i hin; exact sti_ok g (by unfold pstep; rw [hin]) ha
  · rename_i hin; exact sta_ok g (by unfold pstep; rw [hin]) ha
  · rename_i hin; exact sta_ok g (by unfold pstep; rw [hin]) ha
  · rename_i hin; exact inc_ok g (by unfold pstep; rw [hin]) ha
  · rename_i hin; exact bin_ok (c := 0) rfl g (by unfold pstep; rw [hin]; rfl) ha
  · rename_i hin; exact bin_ok (c := 1) rfl g (by unfold pstep; rw [hin]; rfl) ha
  · rename_i hin; exact bin_ok (c := 2) rfl g (by unfold pstep; rw [hin]; rfl) ha
  · rename_i hin; exact bin_ok (c := 3) rfl g (by unfold pstep; rw [hin]; rfl) ha
  · rename_i hin; exact bin_ok (c := 4) rfl g (by unfold pstep; rw [hin]; rfl) ha
  · rename_i hin; exact bin_ok (c := 5) rfl g (by unfold pstep; rw [hin]; rfl) ha
  · rename_i hin; exact bin_ok (c := 6) rfl g (by unfold pstep; rw [hin]; rfl) ha
  · rename_i hin; exact bin_ok (c := 7) rfl g (by unfold pstep; rw [hin]; rfl) ha
  · rename_i hin; exact bin_ok (c := 8) rfl g (by unfold pstep; rw [hin]; rfl) ha
  · rename_i hin; exact div_ok (c := 10) rfl g (by unfold pstep; rw [hin]; rfl) ha
  · rename_i hin; exact div_ok (c := 9) rfl g (by unfold pstep; rw [hin]; rfl) ha
  · rename_i hin; exact neg_ok g (by unfold pstep; rw [hin]) ha
  · rename_i hin; exact i2l_ok g (by unfold pstep; rw [hin]) ha
  · rename_i hin; exact un_ok (c := 13) (fun _ => rfl) g (by unfold pstep; rw [hin]; rfl) ha
  · rename_i hin; exact ladd_ok g (by unfold pstep; rw [hin]) ha
  · rename_i hin; exact lcmp_ok g (by unfold pstep; rw [hin]) ha
  · rename_i hin; exact dup_ok g (by unfold pstep; rw [hin]) ha
  · rename_i hin; exact dup2_ok g (by unfold pstep; rw [hin]) ha
  · rename_i hin; exact pop_ok g (by unfold pstep; rw [hin]) ha
  · rename_i hin
    cases ha
    exact nx1 g (L' := L) (st' := st) (by unfold pstep; rw [hin]) g.2.2.2.2.1 g.2.2.2.2.2.1
  · rename_i hin; exact if1_ok g (by unfold pstep; rw [hin]) ha
  · rename_i hin; exact if2_ok g (by unfold pstep; rw [hin]) ha
  · rename_i hin; exact ifn_ok g (by unfold pstep; rw [hin]; rfl) ha
  · rename_i hin; exact ifn_ok g (by unfold pstep; rw [hin]; rfl) ha
  · rename_i hin; exact sw_ok g (by unfold pstep; rw [hin]) ha
  · rename_i hin; exact sw_ok g (by unfold pstep; rw [hin]) ha
  · rename_i hin; exact gf_ok g (by unfold pstep; rw [hin]) ha
  · rename_i hin; exact pf_ok g (by unfold pstep; rw [hin]) ha
  · rename_i hin; exact ald_ok (Or.inl ⟨rfl, by unfold pstep; rw [hin]⟩) g ha
  · rename_i hin; exact ast_ok g (by unfold pstep; rw [hin]) ha
  · rename_i hin; exact ald_ok (Or.inr ⟨rfl, by unfold pstep; rw [hin]⟩) g ha
  · rename_i hin; exact len_ok g (by unfold pstep; rw [hin]) ha
  · cases ha
end STP
end
section
/-! ===== calls, natives, returns, contracts ===== -/
abbrev aA : Type := (Int × Int) ⊕ (Bool × List Nat)
abbrev aK : Type := List aA × Option (Int × Int) × aW × Nat
def a_m2 (ff : Bool) (c : Nat) (i : Nat) (Γ : aG) (C : aC) (Δ : aD) (A : aL) (s : List AV) : Option aO := match s with
  | y :: x :: r => if isI x = true ∧ isI y = true ∧ acs r ≤ 8 then aps i (aopS ff Γ Δ c x y).1 C (aopS ff Γ Δ c x y).2.1 A ((aopS ff Γ Δ c x y).2.2 :: r) else none
  | _ => none
def a_m1 (ff : Bool) (c : Nat) (i : Nat) (Γ : aG) (C : aC) (Δ : aD) (A : aL) (s : List AV) : Option aO := match s with
  | x :: r => if isI x = true ∧ acs r ≤ 8 then aps i (aopS ff Γ Δ c x (cn 0)).1 C (aopS ff Γ Δ c x (cn 0)).2.1 A ((aopS ff Γ Δ c x (cn 0)).2.2 :: r) else none
  | _ => none
def cpS (T : List aT) (m : Int) (a : Nat) : Bool := match T[a]? with
  | some (.inl t) => decide (m ≤ (t.1 : Int))
  | _ => false
def cpD (T : List aT) (W : aW) (m : Int) (a : Nat) : Bool := match T[a]? with
  | some (.inl t) => decide (m ≤ (t.1 : Int)) && t.2.isEmpty && inWs W a 0 ((t.1 : Int) - 1)
  | _ => false
/-- an upper bound of sp + n, where n ≤ len - sp is known -/
def ubG (Γ : aG) (sp n : AV) (f g : Nat × AV × AV × AV) : Option Int := if g.1 = 11 ∧ g.2.2.1 = sp ∧ g.2.2.2 = f.2.2.1 ∧ det n = true ∧ det sp = true ∧ det f.2.2.1 = true then (match ivl Γ g.2.1 with
  | some p => if 0 ≤ p.1 then some p.2 else none
  | none => none) else none
def ubC (Γ : aG) (Δ : aD) (sp n : AV) : Option Int := Δ.findSome? (fun f => if f.1 = 1 ∧ f.2.1 = n then Δ.findSome? (ubG Γ sp n f) else none)
def ubS (Γ : aG) (Δ : aD) (sp n : AV) (b : Int) : Int := match ubC Γ Δ sp n with
  | some c => min c b
  | none => b
theorem ubC_ok {m : Nat} {σ : Nat → Int} {Γ : aG} {Δ : aD} {sp n : AV} {c : Int} {vs vn : Int32} (hg : gok σ Γ) (hf : fok m σ Δ) (hs : zG m σ vs.toInt sp) (hn : zG m σ vn.toInt n) (h0 : 0 ≤ vs.toInt) (hu : ubC Γ Δ sp n = some c) : vs.toInt + vn.toInt ≤ c := by
  unfold ubC at hu
  obtain ⟨f, hm1, hu⟩ := List.exists_of_findSome?_eq_some hu
  split at hu
  · rename_i hp1
    obtain ⟨g, hm2, hu⟩ := List.exists_of_findSome?_eq_some hu
    unfold ubG at hu
    split at hu
    · rename_i hp2
      obtain ⟨p1, p2, p3, d1, d2, d3⟩ := hp2
      split at hu
      · rename_i p hp
        split at hu
        · rename_i hp0
          cases hu
          have f1 := hf f hm1
          have f2 := hf g hm2
          unfold fcG at f1 f2
          rw [if_pos (by omega)] at f1
          rw [if_neg (by omega)] at f2
          obtain ⟨a, b, a1, a2, a3⟩ := f1
          obtain ⟨x, y, b1, b2, b3⟩ := f2
          rw [hp1.1] at a3
          have a3 : a ≤ b := a3
          rw [hp1.2] at a1
          rw [p2] at b2
          rw [p3, p1] at b3
          have e1 := det_ok d1 a1 hn
          have e2 := det_ok d2 b2 hs
          have e3 := det_ok d3 a2 b3
          have hx := ivl_ok hg b1 hp
          have e4 : (opS (11 - 10) x y).toInt = x.toInt - y.toInt := by
            show (x - y).toInt = _
            have u1 := i32_hi x
            have u2 := i32_hi y
            unfold MI at u1 u2
            rw [Int32.toInt_sub]
            exact bm32 (by unfold mI; omega) (by unfold MI; omega)
          omega
        · cases hu
      · cases hu
    · cases hu
  · cases hu
def a_cpy (T : List aT) (W : aW) (e : pE) (i : Nat) (Γ : aG) (C : aC) (Δ : aD) (A : aL) (s : List AV) : Option aO := match s with
  | n :: dp :: b :: sp :: a :: r => if e_x e = 99999 ∧ acs r ≤ 8 ∧ isI n = true ∧ isI dp = true ∧ isI sp = true then (match ivl Γ n, ivl Γ dp, ivl Γ sp, adrs Γ a, adrs Γ b with
    | some pn, some pd, some ps, some as, some bs => if 0 ≤ pn.1 ∧ 0 ≤ pd.1 ∧ 0 ≤ ps.1 ∧ as.all (cpS T (ubS Γ Δ sp n (ps.2 + pn.2))) = true ∧ bs.all (cpD T W (ubS Γ Δ dp n (pd.2 + pn.2))) = true then aps i Γ (C.filter (fun e => apA Γ e.1 b)) Δ A r else none
    | _, _, _, _, _ => none) else none
  | _ => none
def a_nat (ff : Bool) (T : List aT) (W : aW) (e : pE) (i : Nat) (Γ : aG) (C : aC) (Δ : aD) (A : aL) (s : List AV) : Option aO :=
  if e_x e = 99990 then a_m2 ff 11 i Γ C Δ A s else if e_x e = 99991 then a_m2 ff 12 i Γ C Δ A s else if e_x e = 99992 then a_m1 ff 14 i Γ C Δ A s else a_cpy T W e i Γ C Δ A s
def astepN (ff : Bool) (P : List pM) (T : List aT) (W : aW) (e : pE) (i : Nat) (Γ : aG) (C : aC) (Δ : aD) (A : aL) (s : List AV) : Option aO := match e_in e with
  | .invokestatic _ => (match P[e_x e]? with
    | some _ => none
    | none => a_nat ff T W e i Γ C Δ A s)
  | _ => astep ff T W e i Γ C Δ A s
section CAL
variable {n0 : Nat} {σ0 : Nat → Int} {T : List aT} {W : aW} {h0 : List pC} {E : pX} {P : List pM} {V : pV} {M N : pM} {t : pE} {i : Nat} {L : pL} {st : List Value} {h : List pC} {σ : Nat → Int} {Γ : aG} {C : aC} {Δ : aD} {A : aL} {s : List AV} {outs : aO} {ff : Bool}
theorem m2_ok {c : Nat} {f : Int32 → Int32 → Int32} (hfc : f = opS c) (g : gS n0 σ0 T W h0 σ (Γ, C, Δ, A, s) L st h) (hp : pstep E t i L st h = pm2 f i L st h) (ha : a_m2 ff c i Γ C Δ A s = some outs) : Nx n0 σ0 T W h0 E t i L st h σ Γ.length outs := by
  unfold a_m2 at ha
  split at ha
  · rename_i y x r
    obtain ⟨w, st, rfl, hv, hs1⟩ := g.2.2.2.2.2.1.cons_inv
    obtain ⟨w', st, rfl, hv', hs2⟩ := hs1.cons_inv
    split at ha
    · rename_i hb
      cases ha
      obtain ⟨u, rfl, hy⟩ := hv.int (isI_t hb.2.1)
      obtain ⟨v, rfl, hx⟩ := hv'.int (isI_t hb.1)
      obtain ⟨σ', s1, s2, s3, s4, s5⟩ := aopS_ok ff c g.2.1 g.2.2.2.1 hx hy
      refine nx2 g s1 s3 s2 s4 (L' := L) (st' := .int (opS c v u) :: st) ?_ (g.2.2.2.2.1.up s3 s1) (by exact ⟨s5, hs2.up s3 s1⟩) List.mem_cons_self
      rw [hp, hfc]
      exact if_pos (by rw [acs_ok hs2]; exact hb.2.2)
    · cases ha
  · cases ha
theorem m1_ok {c : Nat} {f : Int32 → Int32} (hfc : ∀ a, f a = opS c a 0) (g : gS n0 σ0 T W h0 σ (Γ, C, Δ, A, s) L st h) (hp : pstep E t i L st h = pm1 f i L st h) (ha : a_m1 ff c i Γ C Δ A s = some outs) : Nx n0 σ0 T W h0 E t i L st h σ Γ.length outs := by
  unfold a_m1 at ha
  split at ha
  · rename_i x r
    obtain ⟨w, st, rfl, hv, hs1⟩ := g.2.2.2.2.2.1.cons_inv
    split at ha
    · rename_i hb
      cases ha
      obtain ⟨v, rfl, hx⟩ := hv.int (isI_t hb.1)
      obtain ⟨σ', s1, s2, s3, s4, s5⟩ := aopS_ok (u := 0) (y := cn 0) ff c g.2.1 g.2.2.2.1 hx (cnZ 0)
      refine nx2 g s1 s3 s2 s4 (L' := L) (st' := .int (opS c v 0) :: st) ?_ (g.2.2.2.2.1.up s3 s1) (by exact ⟨s5, hs1.up s3 s1⟩) List.mem_cons_self
      rw [hp, ← hfc]
      exact if_pos (by rw [acs_ok hs1]; exact hb.2)
    · cases ha
  · cases ha
theorem ivl_nat {v : Int32} {x : AV} {p : Int × Int} (hg : gok σ Γ) (hx : zG Γ.length σ v.toInt x) (hp : ivl Γ x = some p) (h0 : 0 ≤ p.1) : 0 ≤ v ∧ (v.toNatClampNeg : Int) ≤ p.2 := by
  have h1 := ivl_ok hg hx hp
  have h2 : 0 ≤ v.toInt := by omega
  refine ⟨Int32.le_iff_toInt_le.mpr h2, ?_⟩
  rw [Int32.toNatClampNeg, Int.toNat_of_nonneg h2]
  exact h1.2
theorem cpy_ok (g : gS n0 σ0 T W h0 σ (Γ, C, Δ, A, s) L st h) (hp : pstep E t i L st h = pocopy t i L st h) (ha : a_cpy T W t i Γ C Δ A s = some outs) : Nx n0 σ0 T W h0 E t i L st h σ Γ.length outs := by
  unfold a_cpy at ha
  split at ha
  · rename_i xn xd xb xs xa r
    obtain ⟨w1, st, rfl, hv1, hs1⟩ := g.2.2.2.2.2.1.cons_inv
    obtain ⟨w2, st, rfl, hv2, hs2⟩ := hs1.cons_inv
    obtain ⟨w3, st, rfl, hv3, hs3⟩ := hs2.cons_inv
    obtain ⟨w4, st, rfl, hv4, hs4⟩ := hs3.cons_inv
    obtain ⟨w5, st, rfl, hv5, hs5⟩ := hs4.cons_inv
    split at ha
    · rename_i hb
      obtain ⟨b1, b2, b3, b4, b5⟩ := hb
      split at ha
      · rename_i pn pd ps as bs e1 e2 e3 e4 e5
        split at ha
        · rename_i hc
          cases ha
          obtain ⟨c1, c2, c3, c4, c5⟩ := hc
          obtain ⟨vn, rfl, hn⟩ := hv1.int (isI_t b3)
          obtain ⟨vd, rfl, hd⟩ := hv2.int (isI_t b4)
          obtain ⟨vs, rfl, hs⟩ := hv4.int (isI_t b5)
          obtain ⟨b, hb, rfl⟩ := adrs_ok g.2.1 hv3 e5
          obtain ⟨a, ha, rfl⟩ := adrs_ok g.2.1 hv5 e4
          obtain ⟨n1, n2⟩ := ivl_nat g.2.1 hn e1 c1
          obtain ⟨d1, d2⟩ := ivl_nat g.2.1 hd e2 c2
          obtain ⟨s1, s2⟩ := ivl_nat g.2.1 hs e3 c3
          have k1 := List.all_eq_true.mp c4 a ha
          have k2 := List.all_eq_true.mp c5 b hb
          have z1 : ((vs.toNatClampNeg : Nat) : Int) = vs.toInt := by rw [Int32.toNatClampNeg]; exact Int.toNat_of_nonneg (Int32.le_iff_toInt_le.mp s1)
          have z2 : ((vd.toNatClampNeg : Nat) : Int) = vd.toInt := by rw [Int32.toNatClampNeg]; exact Int.toNat_of_nonneg (Int32.le_iff_toInt_le.mp d1)
          have z3 : ((vn.toNatClampNeg : Nat) : Int) = vn.toInt := by rw [Int32.toNatClampNeg]; exact Int.toNat_of_nonneg (Int32.le_iff_toInt_le.mp n1)
          have y1 : (vs.toNatClampNeg : Int) + (vn.toNatClampNeg : Int) ≤ ubS Γ Δ xs xn (ps.2 + pn.2) := by
            unfold ubS
            split
            · rename_i c hc'
              have := ubC_ok g.2.1 g.2.2.2.1 hs hn (by omega) hc'
              exact Int.le_min.mpr ⟨by omega, by omega⟩
            · omega
          have y2 : (vd.toNatClampNeg : Int) + (vn.toNatClampNeg : Int) ≤ ubS Γ Δ xd xn (pd.2 + pn.2) := by
            unfold ubS
            split
            · rename_i c hc'
              have := ubC_ok g.2.1 g.2.2.2.1 hd hn (by omega) hc'
              exact Int.le_min.mpr ⟨by omega, by omega⟩
            · omega
          have hh := g.2.2.2.2.2.2.1
          unfold cpS at k1
          unfold cpD at k2
          split at k1
          · rename_i ta hta
            split at k2
            · rename_i tb htb
              have k1 := of_decide_eq_true k1
              rw [Bool.and_eq_true, Bool.and_eq_true] at k2
              obtain ⟨⟨k2, k3⟩, k4⟩ := k2
              have k2 := of_decide_eq_true k2
              obtain ⟨ca, hca, hya⟩ := hh.2 a _ hta
              obtain ⟨cb, hcb, hyb⟩ := hh.2 b _ htb
              rcases ca with za | za | za
              · rcases cb with zb | zb | zb
                · obtain ⟨qa, -⟩ : za.1 = ta.1 ∧ _ := hya
                  obtain ⟨qb, -⟩ : zb.1 = tb.1 ∧ _ := hyb
                  have hl := (List.getElem?_eq_some_iff.mp hcb).1
                  refine nx3 g (agr.rf _ _) (Nat.le_refl _) g.2.1 (h' := h.set b (.inl (zb.1, va_cpy za.2 zb.2 vs.toNatClampNeg vd.toNatClampNeg vn.toNatClampNeg))) ?_ ⟨⟨by rw [List.length_set]; exact hh.1, fun j tj htj => ?_⟩, fun j k hjk => ?_⟩ (L' := L) (st' := st) ?_ g.2.2.2.2.1 hs5 List.mem_cons_self
                  · intro e he
                    obtain ⟨he, hap⟩ := List.mem_filter.mp he
                    obtain ⟨j, k, w, f1, f2, f3, f4⟩ := g.2.2.1 e he
                    refine ⟨j, k, w, f1, f2, ?_, f4⟩
                    have hne : j ≠ b := apA_ok g.2.1 hap f1 hv3
                    unfold ct
                    rw [List.getElem?_set_ne (Ne.symm hne)]
                    exact f3
                  · by_cases e : j = b
                    · subst e
                      rw [htb] at htj
                      cases htj
                      refine ⟨_, List.getElem?_set_self hl, qb, fun s hs => ?_⟩
                      rw [List.isEmpty_iff.mp k3] at hs
                      cases hs
                    · obtain ⟨c, hc, hy⟩ := hh.2 j tj htj
                      exact ⟨c, by rw [List.getElem?_set_ne (Ne.symm e)]; exact hc, hy⟩
                  · rw [← g.2.2.2.2.2.2.2 j k hjk]
                    by_cases e : j = b
                    · subst e
                      unfold ct
                      rw [List.getElem?_set_self hl, hcb]
                      dsimp only
                      by_cases hk : k < zb.1
                      · rw [inWs_ok (i := k) k4 (by omega) (by omega)] at hjk
                        cases hjk
                      · rw [if_neg hk, if_neg hk]
                    · unfold ct
                      rw [List.getElem?_set_ne (Ne.symm e)]
                  · rw [hp]
                    unfold pocopy pint
                    dsimp only
                    rw [if_pos ⟨b1, by rw [acs_ok hs5]; exact b2⟩, hca, hcb]
                    dsimp only
                    rw [if_pos ⟨s1, d1, n1, by omega, by omega⟩]
                    rfl
                · exact hyb.elim
                · exact hyb.elim
              · exact hya.elim
              · exact hya.elim
            · cases k2
          · cases k1
        · cases ha
      · cases ha
    · cases ha
  · cases ha
theorem nat_ok (g : gS n0 σ0 T W h0 σ (Γ, C, Δ, A, s) L st h) (hp : pstep E t i L st h = pnats t i L st h) (ha : a_nat ff T W t i Γ C Δ A s = some outs) : Nx n0 σ0 T W h0 E t i L st h σ Γ.length outs := by
  unfold a_nat at ha
  unfold pnats at hp
  by_cases e1 : e_x t = 99990
  · rw [if_pos e1] at ha hp
    exact m2_ok (c := 11) rfl g hp ha
  · rw [if_neg e1] at ha hp
    by_cases e2 : e_x t = 99991
    · rw [if_pos e2] at ha hp
      exact m2_ok (c := 12) rfl g hp ha
    · rw [if_neg e2] at ha hp
      by_cases e3 : e_x t = 99992
      · rw [if_pos e3] at ha hp
        exact m1_ok (c := 14) (fun _ => rfl) g hp ha
      · rw [if_neg e3] at ha hp
        exact cpy_ok g hp ha
theorem astep_pn (ha : astep ff T W t i Γ C Δ A s = some outs) : pret M t st = none ∧ pcall P t st h = none := by
  unfold astep at ha
  split at ha <;> first | (cases ha; done) | (rename_i hin; exact ⟨by unfold pret; rw [hin], by unfold pcall; rw [hin]⟩)
theorem astepN_ok (g : gS n0 σ0 T W h0 σ (Γ, C, Δ, A, s) L st h) (ha : astepN ff P T W t i Γ C Δ A s = some outs) : (pret M t st = none ∧ pcall P t st h = none) ∧ Nx n0 σ0 T W h0 E t i L st h σ Γ.length outs := by
  unfold astepN at ha
  split at ha
  · rename_i hin
    split at ha
    · cases ha
    · rename_i hP
      exact ⟨⟨by unfold pret; rw [hin], by unfold pcall; rw [hin]; dsimp only; rw [hP]⟩, nat_ok g (by unfold pstep; rw [hin]) ha⟩
  · exact ⟨astep_pn ha, astep_ok g ha⟩
/-! returns -/
def aret (M : pM) (e : pE) (Γ : aG) (s : List AV) : Option (Option AV) := match e_in e, s with
  | .return_, [] => match m_r M with
    | none => some none
    | _ => none
  | .ireturn, [x] => if isI x = true then (match m_r M with
    | some .int => some (some x)
    | some .boolean => if afit .boolean Γ x = true then some (some x) else none
    | _ => none) else none
  | .areturn, [x] => if isR x = true then (match m_r M with
    | some (.object _) => some (some x)
    | _ => none) else none
  | _, _ => none
def rvG (n : Nat) (σ : Nat → Int) (r : Option Value) (x : Option AV) : Prop := match r, x with
  | none, none => True
  | some w, some x => vG n σ w x
  | _, _ => False
theorem aret_ok {x : Option AV} (hg : gok σ Γ) (hs : SG Γ.length σ st s) (ha : aret M t Γ s = some x) : ∃ r, pret M t st = some r ∧ rvG Γ.length σ r x := by
  unfold aret at ha
  split at ha
  · rename_i hin
    obtain rfl := hs.nil_inv
    split at ha
    · rename_i hm
      cases ha
      refine ⟨none, ?_, trivial⟩
      unfold pret
      rw [hin]
      dsimp only
      rw [hm]
    · cases ha
  · rename_i y hin
    obtain ⟨w, st, rfl, hv, hs1⟩ := hs.cons_inv
    obtain rfl := hs1.nil_inv
    split at ha
    · rename_i hb
      obtain ⟨v, rfl, hx⟩ := hv.int (isI_t hb)
      split at ha
      · rename_i hm
        cases ha
        refine ⟨some (.int v), ?_, hv⟩
        unfold pret
        rw [hin]
        dsimp only
        rw [hm]
      · rename_i hm
        split at ha
        · rename_i hf
          cases ha
          have hb2 := afit_ok hg hx hf
          have hb2 : v = 0 ∨ v = 1 := of_decide_eq_true hb2
          refine ⟨some (.int v), ?_, hv⟩
          unfold pret
          rw [hin]
          dsimp only
          rw [hm]
          dsimp only
          rw [if_pos hb2]
        · cases ha
      · cases ha
    · cases ha
  · rename_i y hin
    obtain ⟨w, st, rfl, hv, hs1⟩ := hs.cons_inv
    obtain rfl := hs1.nil_inv
    split at ha
    · rename_i hb
      split at ha
      · rename_i cn hm
        cases ha
        rcases hv.isr hb with rfl | ⟨a, rfl⟩
        · refine ⟨some .null, ?_, hv⟩
          unfold pret
          rw [hin]
          dsimp only
          rw [hm]
        · refine ⟨some (.ref a), ?_, hv⟩
          unfold pret
          rw [hin]
          dsimp only
          rw [hm]
      · cases ha
    · cases ha
  · cases ha
/-! calls -/
def clsT (T : List aT) (c a : Nat) : Bool := match T[a]? with
  | some (.inr (.inr t)) => decide (t.1 = c)
  | _ => false
def acall (P : List pM) (T : List aT) (e : pE) (Γ : aG) (s : List AV) : Option (Nat × pM × List AV × List AV) := match e_in e with
  | .invokestatic _ => (match P[e_x e]? with
    | some N => if m_k N = 0 ∧ e_y e ≤ s.length ∧ acs (s.drop (e_y e)) ≤ 8 then some (e_x e, N, (s.take (e_y e)).reverse, s.drop (e_y e)) else none
    | none => none)
  | .invokevirtual _ => (match P[e_x e]? with
    | some N => (match s.drop (e_y e) with
      | x :: r => (match adrs Γ x with
        | some as => if m_k N = 1 ∧ acs r ≤ 8 ∧ as.all (clsT T (m_c N)) = true then some (e_x e, N, x :: (s.take (e_y e)).reverse, r) else none
        | none => none)
      | _ => none)
    | none => none)
  | _ => none
theorem acall_ok {k : Nat} {xs r : List AV} (hg : gok σ Γ) (hh : HI T h) (hs : SG Γ.length σ st s) (ha : acall P T t Γ s = some (k, N, xs, r)) : pret M t st = none ∧ P[k]? = some N ∧ ∃ as rest, pcall P t st h = some (N, as, rest) ∧ SG Γ.length σ as xs ∧ SG Γ.length σ rest r := by
  unfold acall at ha
  split at ha
  · rename_i hin
    split at ha
    · rename_i N' hN
      split at ha
      · rename_i hc
        cases ha
        refine ⟨by unfold pret; rw [hin], hN, (st.take (e_y t)).reverse, st.drop (e_y t), ?_, (hs.take _).rev, hs.drop _⟩
        unfold pcall
        rw [hin]
        dsimp only
        rw [hN]
        exact if_pos ⟨hc.1, by rw [hs.len]; exact hc.2.1, by rw [acs_ok (hs.drop _)]; exact hc.2.2⟩
      · cases ha
    · cases ha
  · rename_i hin
    split at ha
    · rename_i N' hN
      split at ha
      · rename_i x r' hx
        have hd := hs.drop (e_y t)
        rw [hx] at hd
        obtain ⟨w, rest, e1, hv, hs1⟩ := hd.cons_inv
        split at ha
        · rename_i as has
          split at ha
          · rename_i hc
            cases ha
            obtain ⟨b, hb, rfl⟩ := adrs_ok hg hv has
            have hcl := List.all_eq_true.mp hc.2.2 b hb
            unfold clsT at hcl
            split at hcl
            · rename_i tt htt
              have hcl := of_decide_eq_true hcl
              obtain ⟨c, hc1, hty⟩ := hh.2 b _ htt
              rcases c with z | z | z
              · exact hty.elim
              · exact hty.elim
              · refine ⟨by unfold pret; rw [hin], hN, .ref b :: (st.take (e_y t)).reverse, rest, ?_, ⟨hv, (hs.take _).rev⟩, hs1⟩
                unfold pcall
                rw [hin]
                dsimp only
                rw [hN]
                dsimp only
                rw [e1]
                dsimp only
                unfold pobj
                rw [hc1]
                dsimp only
                rw [if_pos ⟨hc.1, hty.1.trans hcl, by rw [acs_ok hs1]; exact hc.2.1⟩]
            · cases hcl
          · cases ha
        · cases ha
      · cases ha
    · cases ha
  · cases ha
/-! contracts -/
def argG (w : Value) (p : aA) : Prop := match p with
  | .inl q => ∃ v : Int32, w = .int v ∧ q.1 ≤ v.toInt ∧ v.toInt ≤ q.2
  | .inr q => (q.1 = true ∧ w = .null) ∨ ∃ a ∈ q.2, w = .ref a
def argsG : List Value → List aA → Prop
  | [], [] => True
  | w :: ws, p :: ps => argG w p ∧ argsG ws ps
  | _, _ => False
def argB (Γ : aG) (x : AV) (p : aA) : Bool := match p with
  | .inl q => isI x && (match ivl Γ x with
    | some r => decide (q.1 ≤ r.1) && decide (r.2 ≤ q.2)
    | none => false)
  | .inr q => (decide (x.1 = 4) && q.1) || (match adrs Γ x with
    | some as => as.all (fun a => q.2.any (fun b => decide (a = b)))
    | none => false)
def argsB (Γ : aG) : List AV → List aA → Bool
  | [], [] => true
  | x :: xs, p :: ps => argB Γ x p && argsB Γ xs ps
  | _, _ => false
theorem argB_ok {w : Value} {x : AV} {p : aA} (hg : gok σ Γ) (hv : vG Γ.length σ w x) (hb : argB Γ x p = true) : argG w p := by
  unfold argB at hb
  split at hb
  · rename_i q
    rw [Bool.and_eq_true] at hb
    obtain ⟨v, rfl, hz⟩ := hv.int (isI_t hb.1)
    have hb2 := hb.2
    split at hb2
    · rename_i r hr
      have h1 := ivl_ok hg hz hr
      rw [Bool.and_eq_true] at hb2
      have f1 := of_decide_eq_true hb2.1
      have f2 := of_decide_eq_true hb2.2
      exact ⟨v, rfl, by omega, by omega⟩
    · cases hb2
  · rename_i q
    rw [Bool.or_eq_true, Bool.and_eq_true] at hb
    rcases hb with hb | hb
    · exact Or.inl ⟨hb.2, hv.null (of_decide_eq_true hb.1)⟩
    · split at hb
      · rename_i as has
        obtain ⟨a, ha, rfl⟩ := adrs_ok hg hv has
        obtain ⟨b, hb1, hb2⟩ := List.any_eq_true.mp (List.all_eq_true.mp hb a ha)
        obtain rfl := of_decide_eq_true hb2
        exact Or.inr ⟨a, hb1, rfl⟩
      · cases hb
theorem argsB_ok (hg : gok σ Γ) : ∀ {as : List Value} {xs : List AV} {ps : List aA}, SG Γ.length σ as xs → argsB Γ xs ps = true → argsG as ps
  | [], [], [], _, _ => trivial
  | _ :: _, _ :: _, _ :: _, hs, hb => by
    rw [argsB, Bool.and_eq_true] at hb
    exact ⟨argB_ok hg hs.1 hb.1, argsB_ok hg hs.2 hb.2⟩
  | _ :: _, _ :: _, [], _, hb => by cases hb
  | [], [], _ :: _, _, hb => by cases hb
  | [], _ :: _, _, hs, _ => hs.elim
  | _ :: _, [], _, hs, _ => hs.elim
def retG (r : Option Value) (p : Option (Int × Int)) : Prop := match p with
  | none => r = none
  | some q => ∃ v : Int32, r = some (.int v) ∧ q.1 ≤ v.toInt ∧ v.toInt ≤ q.2
def CallG (P : List pM) (E : pX) (V : pV) (d : Nat) (N : pM) (as : List Value) (h : List pC) (r : Option Value) (h' : List pC) : Prop := Run P E V d N as h (r, h', 0, 0) ∨ (m_code N = [] ∧ 6 ≤ d ∧ V N as h = some r ∧ h' = h)
/-- a contract: from arguments such and such it answers a number between two (or nothing), writes only there, and the cells stay what they are -/
def KG (P : List pM) (E : pX) (V : pV) (T : List aT) (J : List pC → Prop) (N : pM) (c : aK) : Prop := ∀ d : Nat, c.2.2.2 ≤ d → ∀ (as : List Value) (h : List pC), argsG as c.1 → HI T h → J h → ∃ r h', CallG P E V d N as h r h' ∧ retG r c.2.1 ∧ HI T h' ∧ Fr c.2.2.1 h h' ∧ J h'
def rnm (Γ : aG) (p : Option (Int × Int)) : aG × List AV := match p with
  | none => (Γ, [])
  | some q => ((nm Γ (0, q.1, q.2, 0)).1, [(nm Γ (0, q.1, q.2, 0)).2])
theorem rnm_ok {r : Option Value} {p : Option (Int × Int)} (hg : gok σ Γ) (hr : retG r p) : ∃ σ', agr Γ.length σ σ' ∧ gok σ' (rnm Γ p).1 ∧ Γ.length ≤ (rnm Γ p).1.length ∧ SG (rnm Γ p).1.length σ' r.toList (rnm Γ p).2 := by
  unfold retG at hr
  unfold rnm
  split at hr
  · subst hr
    exact ⟨σ, agr.rf _ _, hg, Nat.le_refl _, trivial⟩
  · obtain ⟨v, rfl, h1, h2⟩ := hr
    obtain ⟨σ', s1, s2, s3, s4⟩ := nm_ok (v := v) hg (zG.itv (t := 0) (k := 0) rfl h1 h2) (Nat.zero_le _)
    exact ⟨σ', s1, s2, s3, s4, trivial⟩
/-- surely outside -/
def notW (W : aW) (Γ : aG) (e : AV × AV × AV) : Bool := match adrs Γ e.1, ivl Γ e.2.1 with
  | some as, some p => W.all (fun b => as.all (fun a => decide (a < b.1) || decide (b.2.1 < a)) || decide (p.2 < (b.2.2.1 : Int)) || decide ((b.2.2.2 : Int) < p.1))
  | _, _ => false
theorem notW_ok {e : AV × AV × AV} {a j m : Nat} (hg : gok σ Γ) (ha : vG m σ (.ref a) e.1) (hi : zG m σ (j : Int) e.2.1) (hn : notW W Γ e = true) : inW W a j = false := by
  unfold notW at hn
  split at hn
  · rename_i as p has hp
    obtain ⟨a', ha', e'⟩ := adrs_ok hg ha has
    cases e'
    have h1 := ivl_ok hg hi hp
    cases hq : inW W a j with
    | false => rfl
    | true =>
      exfalso
      obtain ⟨b, hb, hb2⟩ := List.any_eq_true.mp hq
      have hc := List.all_eq_true.mp hn b hb
      rw [Bool.or_eq_true, Bool.or_eq_true] at hc
      simp only [Bool.and_eq_true, decide_eq_true_eq] at hb2
      rcases hc with (hc | hc) | hc
      · have := List.all_eq_true.mp hc a ha'
        simp only [Bool.or_eq_true, decide_eq_true_eq] at this
        omega
      · have := of_decide_eq_true hc
        omega
      · have := of_decide_eq_true hc
        omega
  · cases hn
theorem cok.fr {n : Nat} {W' : aW} {h' : List pC} (hg : gok σ Γ) (hc : cok n σ h C) (hf : Fr W' h h') : cok n σ h' (C.filter (notW W' Γ)) := fun e he => by
  obtain ⟨he, hw⟩ := List.mem_filter.mp he
  obtain ⟨a, j, w, h1, h2, h3, h4⟩ := hc e he
  exact ⟨a, j, w, h1, h2, by rw [hf a j (notW_ok hg h1 h2 hw)]; exact h3, h4⟩
end CAL
end
section
/-! ===== THE WALKER: a method by its instructions, abstractly; loops by a table of what changes in them ===== -/
abbrev aFr : Type := List (Int × Int × (Nat ⊕ (AV × AV)))
abbrev aGen : Type := aFr × List (Nat × Int × Int × Nat) × List Nat × aW × Nat × Bool
abbrev aX : Type := Nat × aS × Nat × aGen
abbrev aF : Type := Nat × Nat × pM × Nat × aL × List AV × List aX
abbrev cF : Type := Nat × pM × Nat × pL × List Value
def Kr (P : List pM) (E : pX) (V : pV) (Post : Option Value → List pC → Prop) : List cF → Option Value → List pC → Prop
  | [], r, h => Post r h
  | f :: fs, r, h => ∃ r' h', RA P E V f.1 f.2.1 f.2.2.1 f.2.2.2.1 (r.toList ++ f.2.2.2.2) h (r', h', 0, 0) ∧ Kr P E V Post fs r' h'
/-- a run from here to the end of all that waits, and what is wanted there -/
def Gl (P : List pM) (E : pX) (V : pV) (Post : Option Value → List pC → Prop) (d : Nat) (M : pM) (i : Nat) (L : pL) (st : List Value) (h : List pC) (fs : List cF) : Prop := ∃ r h', RA P E V d M i L st h (r, h', 0, 0) ∧ Kr P E V Post fs r h'
section GLS
variable {P : List pM} {E : pX} {V : pV} {Post : Option Value → List pC → Prop} {d : Nat} {M N : pM} {i i' : Nat} {L L' : pL} {st st' : List Value} {h h' : List pC} {fs : List cF} {t : pE} {r : Option Value}
theorem Gl.step (he : (m_code M)[i]? = some t) (hr : pret M t st = none) (hc : pcall P t st h = none) (hs : pstep E t i L st h = some (i', L', st', h', 0, 0)) (g : Gl P E V Post (d + 1) M i' L' st' h' fs) : Gl P E V Post (d + 1) M i L st h fs := by
  obtain ⟨r, h2, k1, k2⟩ := g
  exact ⟨r, h2, RA.step0 he hr hc hs k1, k2⟩
theorem Gl.ret (he : (m_code M)[i]? = some t) (hr : pret M t st = some r) (k : Kr P E V Post fs r h) : Gl P E V Post (d + 1) M i L st h fs := ⟨r, h, RA.ret he hr, k⟩
theorem Gl.call {as rest : List Value} (he : (m_code M)[i]? = some t) (hr : pret M t st = none) (hc : pcall P t st h = some (N, as, rest)) (hl : (pexp as).length ≤ m_l N) (hn : ∃ u us, m_code N = u :: us) (g : Gl P E V Post d N 0 (pent (m_l N) as) [] h ((d + 1, M, i + 1, L, rest) :: fs)) : Gl P E V Post (d + 1) M i L st h fs := by
  obtain ⟨r, h1, k1, r2, h2, k2, k3⟩ := g
  exact ⟨r2, h2, RA.call0 he hr hc ⟨hl, hn, k1⟩ k2, k3⟩
theorem Gl.con {as rest : List Value} {r1 : Option Value} {h1 : List pC} (he : (m_code M)[i]? = some t) (hr : pret M t st = none) (hc : pcall P t st h = some (N, as, rest)) (hk : CallG P E V d N as h r1 h1) (g : Gl P E V Post (d + 1) M (i + 1) L (r1.toList ++ rest) h1 fs) : Gl P E V Post (d + 1) M i L st h fs := by
  obtain ⟨r, h2, k1, k2⟩ := g
  rcases hk with hk | ⟨q1, q2, q3, rfl⟩
  · exact ⟨r, h2, RA.call0 he hr hc hk k1, k2⟩
  · exact ⟨r, h2, RA.prim he hr hc q1 q2 q3 k1, k2⟩
end GLS
/-! loops: what holds at their heads -/
def ev (σ : Nat → Int) (y : AV) : Int := if y.1 % 2 = 1 then y.2.1 * σ y.2.2.2 + y.2.2.1 else y.2.1
def lin (c1 c0 : Int) (y : AV) : AV := if y.1 = 1 then (1, c1 * y.2.1, c1 * y.2.2.1 + c0, y.2.2.2) else cn (c1 * y.2.1 + c0)
def src1 (C : aC) (A : aL) (f : Int × Int × (Nat ⊕ (AV × AV))) : Option AV := match f.2.2 with
  | .inl k => A[k]?
  | .inr q => cfind C q.1 q.2
def insOf (Γ : aG) (C : aC) (A : aL) : aFr → Option (List AV)
  | [] => some []
  | f :: r => match src1 C A f, insOf Γ C A r with
    | some x, some l => (match ivl Γ x with
      | some p => if isI x = true ∧ det x = true ∧ f.1 ≤ p.1 ∧ p.2 ≤ f.2.1 then some (x :: l) else none
      | none => none)
    | _, _ => none
def oldS (N0 : Nat) (x : AV) : Bool := if x.1 = 1 ∨ x.1 = 3 ∨ x.1 = 6 then decide (x.2.2.2 < N0) else true
def okV (N0 : Nat) (ins : List AV) (x y : AV) : Bool := (decide (x.1 = 1) && decide (N0 ≤ x.2.2.2) && (match ins[x.2.2.2 - N0]? with
  | some y0 => decide (lin x.2.1 x.2.2.1 y0 = y)
  | none => false)) || (oldS N0 x && decide (x = y))
def okL (N0 : Nat) (ins : List AV) (x y : AV) : Bool := (decide (x.1 = 7) && !isL y) || (decide (x.1 ≠ 7) && decide (y.1 ≠ 7) && okV N0 ins x y)
def all2 (f : AV → AV → Bool) : List AV → List AV → Bool
  | [], [] => true
  | x :: xs, y :: ys => f x y && all2 f xs ys
  | _, _ => false
def ent (X : aX) (Γ : aG) (C : aC) (A : aL) (s : List AV) : Option (List AV) := match insOf Γ C A X.2.2.2.1 with
  | some ins => if all2 (okL X.2.2.1 ins) X.2.1.2.2.2.1 A = true ∧ all2 (okV X.2.2.1 ins) X.2.1.2.2.2.2 s = true ∧ X.2.1.2.1.all (fun e => oldS X.2.2.1 e.1 && oldS X.2.2.1 e.2.1 && isI e.2.1 && (match cfind C e.1 e.2.1 with
    | some v => okV X.2.2.1 ins e.2.2 v
    | none => false)) = true then some ins else none
  | none => none
def XW (n0 : Nat) (X : aX) : Prop := n0 ≤ X.2.2.1 ∧ X.2.1.1.length = X.2.2.1 + X.2.2.2.1.length ∧ ∀ (j : Nat) (f : Int × Int × (Nat ⊕ (AV × AV))), X.2.2.2.1[j]? = some f → X.2.1.1[X.2.2.1 + j]? = some (.inl (f.1, f.2.1))
section LPS
variable {n0 : Nat} {σ0 : Nat → Int} {T : List aT} {W : aW} {h0 : List pC} {L : pL} {st : List Value} {h : List pC} {σ : Nat → Int} {Γ : aG} {C : aC} {Δ : aD} {A : aL} {s : List AV}
theorem det_ev {n : Nat} {z : Int} {y : AV} (hd : det y = true) (hz : zG n σ z y) : z = ev σ y := by
  unfold zG at hz
  unfold ev
  unfold det at hd
  simp only [Bool.or_eq_true, decide_eq_true_eq] at hd
  split at hz
  · rename_i h0
    rw [if_neg (by omega)]
    omega
  · rename_i h0
    rw [if_pos (by omega)]
    exact hz.1
theorem insOf_at {n : Nat} : ∀ {F : aFr} {ins : List AV}, insOf Γ C A F = some ins → gok σ Γ → ins.length = F.length ∧ ∀ (j : Nat) (f : Int × Int × (Nat ⊕ (AV × AV))), F[j]? = some f → ∃ y, ins[j]? = some y ∧ src1 C A f = some y ∧ y.1 ≤ 1 ∧ det y = true ∧ ∀ z : Int, zG n σ z y → f.1 ≤ z ∧ z ≤ f.2.1
  | [], ins, hi, hg => by
    rw [insOf] at hi
    cases hi
    exact ⟨rfl, fun j f hj => by simp at hj⟩
  | f :: r, ins, hi, hg => by
    rw [insOf] at hi
    split at hi
    · rename_i x l hx hl
      split at hi
      · rename_i p hp
        split at hi
        · rename_i hc
          cases hi
          obtain ⟨i1, i2⟩ := insOf_at (n := n) hl hg
          refine ⟨by rw [List.length_cons, List.length_cons, i1], fun j f' hj => ?_⟩
          match j, hj with
          | 0, hj =>
            cases hj
            refine ⟨x, rfl, hx, isI_t hc.1, hc.2.1, fun z hz => ?_⟩
            have := ivl_ok hg hz hp
            omega
          | j + 1, hj => exact i2 j f' hj
        · cases hi
      · cases hi
    · cases hi
/-- the values of the symbols, as the loop's head sees them -/
def sgm (σ : Nat → Int) (N0 : Nat) (ins : List AV) : Nat → Int := fun k => if k < N0 then σ k else match ins[k - N0]? with
  | some y => ev σ y
  | none => 0
theorem sgm_agr (σ : Nat → Int) (N0 : Nat) (ins : List AV) : agr N0 σ (sgm σ N0 ins) := fun k hk => if_pos hk
theorem sgm_new {N0 j : Nat} {ins : List AV} {y : AV} (hy : ins[j]? = some y) : sgm σ N0 ins (N0 + j) = ev σ y := by
  unfold sgm
  rw [if_neg (by omega), Nat.add_sub_cancel_left, hy]
theorem oldS_v {n m N0 : Nat} {x : AV} {w : Value} {σ' : Nat → Int} (ho : oldS N0 x = true) (ha : agr N0 σ σ') (hm : N0 ≤ m) (hv : vG n σ w x) : vG m σ' w x := by
  have hz : ∀ z : Int, zG n σ z x → (x.1 ≤ 3) → zG m σ' z x := fun z hz h3 => by
    unfold zG at hz ⊢
    split at hz
    · rename_i e
      rw [if_pos e]
      exact hz
    · rename_i e
      rw [if_neg e]
      unfold oldS at ho
      rw [if_pos (by omega)] at ho
      have ho := of_decide_eq_true ho
      exact ⟨by rw [ha _ ho]; exact hz.1, by omega⟩
  unfold vG at hv ⊢
  split at hv
  · exact ⟨hv.1, hz _ hv.2 (by omega)⟩
  · exact ⟨hv.1, hz _ hv.2 (by omega)⟩
  · exact hv
  · rcases hv with hv | hv
    · exact Or.inl hv
    · unfold oldS at ho
      rw [if_pos (by omega)] at ho
      have ho := of_decide_eq_true ho
      exact Or.inr ⟨hv.1, by rw [ha _ ho]; exact hv.2.1, by omega⟩
  · exact hv
theorem oldS_z {n m N0 : Nat} {x : AV} {z : Int} {σ' : Nat → Int} (ho : oldS N0 x = true) (h1 : x.1 ≤ 1) (ha : agr N0 σ σ') (hm : N0 ≤ m) (hz : zG n σ z x) : zG m σ' z x := by
  unfold zG at hz ⊢
  split at hz
  · rename_i e
    rw [if_pos e]
    exact hz
  · rename_i e
    rw [if_neg e]
    unfold oldS at ho
    rw [if_pos (by omega)] at ho
    have ho := of_decide_eq_true ho
    exact ⟨by rw [ha _ ho]; exact hz.1, by omega⟩
theorem okV_ok {n m N0 : Nat} {ins : List AV} {x y : AV} {w : Value} (hins : ∀ (j : Nat) (y : AV), ins[j]? = some y → y.1 ≤ 1 ∧ det y = true) (hm : m = N0 + ins.length) (hk : okV N0 ins x y = true) (hv : vG n σ w y) : vG m (sgm σ N0 ins) w x := by
  unfold okV at hk
  rw [Bool.or_eq_true] at hk
  rcases hk with hk | hk
  · rw [Bool.and_eq_true, Bool.and_eq_true] at hk
    obtain ⟨⟨k1, k2⟩, k3⟩ := hk
    have k1 := of_decide_eq_true k1
    have k2 := of_decide_eq_true k2
    split at k3
    · rename_i y0 hy0
      have k3 := of_decide_eq_true k3
      obtain ⟨q1, q2⟩ := hins _ _ hy0
      have hlt := (List.getElem?_eq_some_iff.mp hy0).1
      have es : sgm σ N0 ins x.2.2.2 = ev σ y0 := by
        have := sgm_new (σ := σ) (N0 := N0) hy0
        rw [show N0 + (x.2.2.2 - N0) = x.2.2.2 by omega] at this
        exact this
      have y1 : y.1 ≤ 1 := by
        rw [← k3]
        unfold lin
        split
        · exact Nat.le_refl _
        · exact Nat.zero_le _
      obtain ⟨v, rfl, hz⟩ := hv.int y1
      refine ⟨by omega, ?_⟩
      unfold zG
      rw [if_neg (by omega)]
      refine ⟨?_, by omega⟩
      rw [es, ← Int.add_zero (v.toInt)]
      unfold lin at k3
      split at k3
      · rename_i e1
        rw [← k3] at hz
        unfold zG at hz
        rw [if_neg (show ¬ (1 : Nat) % 2 = 0 by decide)] at hz
        have hz1 := hz.1
        dsimp only at hz1
        unfold ev
        rw [if_pos (by omega), hz1, Int.mul_add, Int.mul_assoc]
        omega
      · rename_i e1
        rw [← k3] at hz
        unfold zG at hz
        rw [if_pos (by rfl)] at hz
        have hz1 := hz
        unfold cn at hz1
        dsimp only at hz1
        unfold ev
        rw [if_neg (by omega)]
        omega
    · cases k3
  · rw [Bool.and_eq_true] at hk
    obtain ⟨k1, k2⟩ := hk
    obtain rfl := of_decide_eq_true k2
    exact oldS_v k1 (sgm_agr _ _ _) (by omega) hv
theorem all2_SG {f : AV → AV → Bool} {n m : Nat} {σ' : Nat → Int} (hf : ∀ x y w, f x y = true → vG n σ w y → vG m σ' w x) : ∀ {xs ys : List AV} {st : List Value}, all2 f xs ys = true → SG n σ st ys → SG m σ' st xs
  | [], [], _, _, hs => by
    obtain rfl := hs.nil_inv
    exact trivial
  | x :: xs, y :: ys, st, ha, hs => by
    rw [all2, Bool.and_eq_true] at ha
    obtain ⟨w, r, rfl, h1, h2⟩ := hs.cons_inv
    exact ⟨hf x y w ha.1 h1, all2_SG hf ha.2 h2⟩
  | [], _ :: _, _, ha, _ => by cases ha
  | _ :: _, [], _, ha, _ => by cases ha
theorem all2_at {f : AV → AV → Bool} : ∀ {xs ys : List AV}, all2 f xs ys = true → xs.length = ys.length ∧ ∀ (k : Nat) (x : AV), xs[k]? = some x → ∃ y, ys[k]? = some y ∧ f x y = true
  | [], [], _ => ⟨rfl, fun k x hk => by simp at hk⟩
  | x :: xs, y :: ys, ha => by
    rw [all2, Bool.and_eq_true] at ha
    obtain ⟨h1, h2⟩ := all2_at ha.2
    refine ⟨by rw [List.length_cons, List.length_cons, h1], fun k z hk => ?_⟩
    match k, hk with
    | 0, hk => cases hk; exact ⟨y, rfl, ha.1⟩
    | k + 1, hk => exact h2 k z hk
  | [], _ :: _, ha => by cases ha
  | _ :: _, [], ha => by cases ha
theorem ent_ok {X : aX} {ins : List AV} (hX : XW n0 X) (hb : ∀ (k : Nat) (e : aE), k < X.2.2.1 → X.2.1.1[k]? = some e → eG (σ k) e) (hf : fok X.2.2.1 σ X.2.1.2.2.1) (hn : X.2.2.1 ≤ Γ.length) (g : gS n0 σ0 T W h0 σ (Γ, C, Δ, A, s) L st h) (he : ent X Γ C A s = some ins) :
    ins.length = X.2.2.2.1.length ∧ (∀ (j : Nat) (f : Int × Int × (Nat ⊕ (AV × AV))), X.2.2.2.1[j]? = some f → ∃ y, ins[j]? = some y) ∧ agr X.2.2.1 σ (sgm σ X.2.2.1 ins) ∧ gS n0 σ0 T W h0 (sgm σ X.2.2.1 ins) X.2.1 L st h := by
  unfold ent at he
  split at he
  · rename_i ins' hi
    split at he
    · rename_i hc
      cases he
      obtain ⟨c1, c2, c3⟩ := hc
      obtain ⟨x1, x2, x3⟩ := hX
      obtain ⟨i1, i2⟩ := insOf_at (n := Γ.length) hi g.2.1
      have hins : ∀ (j : Nat) (y : AV), ins[j]? = some y → y.1 ≤ 1 ∧ det y = true := fun j y hy => by
        have hl := (List.getElem?_eq_some_iff.mp hy).1
        rw [i1] at hl
        obtain ⟨y', q1, q2, q3, q4, q5⟩ := i2 j _ (List.getElem?_eq_getElem hl)
        rw [hy] at q1
        cases q1
        exact ⟨q3, q4⟩
      have hm : X.2.1.1.length = X.2.2.1 + ins.length := by rw [x2, i1]
      have hag := sgm_agr σ X.2.2.1 ins
      have hbr : X.2.2.1 ≤ X.2.1.1.length := by omega
      refine ⟨i1, fun j f hj => by
        obtain ⟨y, q, -⟩ := i2 j f hj
        exact ⟨y, q⟩, hag, ⟨Nat.le_trans x1 hbr, g.1.2.tr (hag.le x1)⟩, fun k e hk => ?_, fun e he => ?_, hf.up hbr hag, ?_, ?_, g.2.2.2.2.2.2⟩
      · by_cases hlt : k < X.2.2.1
        · rw [hag k hlt]
          exact hb k e hlt hk
        · have hkl := (List.getElem?_eq_some_iff.mp hk).1
          have hj : k - X.2.2.1 < X.2.2.2.1.length := by omega
          have hF := List.getElem?_eq_getElem hj
          have h3 := x3 _ _ hF
          rw [show X.2.2.1 + (k - X.2.2.1) = k by omega, hk] at h3
          cases h3
          obtain ⟨y, q1, q2, q3, q4, q5⟩ := i2 _ _ hF
          have h4 := sgm_new (σ := σ) (N0 := X.2.2.1) q1
          rw [show X.2.2.1 + (k - X.2.2.1) = k by omega] at h4
          rw [h4]
          have hz : zG Γ.length σ (ev σ y) y := by
            unfold src1 at q2
            split at q2
            · rename_i a ha
              obtain ⟨w, hw, hv⟩ := g.2.2.2.2.1.at q2 (by omega)
              obtain ⟨v, rfl, hz⟩ := hv.int q3
              rw [← det_ev q4 hz]
              exact hz
            · rename_i q hq
              have hmem : ∃ e ∈ C, e.2.2 = y := by
                have : ∀ D : aC, cfind D q.1 q.2 = some y → ∃ e ∈ D, e.2.2 = y := by
                  intro D
                  induction D with
                  | nil => intro hD; cases hD
                  | cons e D ih =>
                    intro hD
                    rw [cfind] at hD
                    split at hD
                    · cases hD
                      exact ⟨e, List.mem_cons_self, rfl⟩
                    · obtain ⟨e', he', h5⟩ := ih hD
                      exact ⟨e', List.mem_cons_of_mem _ he', h5⟩
                exact this C q2
              obtain ⟨e, he, rfl⟩ := hmem
              obtain ⟨a, j, w, -, -, -, hv⟩ := g.2.2.1 e he
              obtain ⟨v, rfl, hz⟩ := hv.int q3
              rw [← det_ev q4 hz]
              exact hz
          exact q5 _ hz
      · have hc3 := List.all_eq_true.mp c3 e he
        rw [Bool.and_eq_true, Bool.and_eq_true, Bool.and_eq_true] at hc3
        obtain ⟨⟨⟨o1, o2⟩, o3⟩, o4⟩ := hc3
        split at o4
        · rename_i v hv
          have hex : ∃ e' ∈ C, e'.1 = e.1 ∧ e'.2.1 = e.2.1 ∧ e'.2.2 = v := by
            have : ∀ D : aC, cfind D e.1 e.2.1 = some v → ∃ e' ∈ D, e'.1 = e.1 ∧ e'.2.1 = e.2.1 ∧ e'.2.2 = v := by
              intro D
              induction D with
              | nil => intro hD; cases hD
              | cons e1 D ih =>
                intro hD
                rw [cfind] at hD
                split at hD
                · rename_i hq
                  cases hD
                  exact ⟨e1, List.mem_cons_self, hq.1, hq.2, rfl⟩
                · obtain ⟨e', he', h5⟩ := ih hD
                  exact ⟨e', List.mem_cons_of_mem _ he', h5⟩
            exact this C hv
          obtain ⟨e', he', r1, r2, r3⟩ := hex
          obtain ⟨a, j, w, f1, f2, f3, f4⟩ := g.2.2.1 e' he'
          rw [r1] at f1
          rw [r2] at f2
          rw [r3] at f4
          refine ⟨a, j, w, oldS_v o1 hag hbr f1, ?_, f3, okV_ok hins hm o4 f4⟩
          exact oldS_z o2 (isI_t o3) hag hbr f2
        · cases o4
      · obtain ⟨a1, a2⟩ := all2_at c1
        refine ⟨by rw [g.2.2.2.2.1.1, a1], fun k x hk => ?_⟩
        obtain ⟨y, hy, hok⟩ := a2 k x hk
        have hl := g.2.2.2.2.1.2 k y hy
        unfold okL at hok
        rw [Bool.or_eq_true] at hok
        rcases hok with hok | hok
        · rw [Bool.and_eq_true] at hok
          have k1 := of_decide_eq_true hok.1
          have k2 : isL y = false := by simpa using hok.2
          unfold lG
          rw [if_pos k1]
          exact g.2.2.2.2.1.cat2 hy (of_decide_eq_false k2)
        · rw [Bool.and_eq_true, Bool.and_eq_true] at hok
          obtain ⟨⟨k1, k2⟩, k3⟩ := hok
          have k1 := of_decide_eq_true k1
          have k2 := of_decide_eq_true k2
          obtain ⟨w, hw, hv⟩ := g.2.2.2.2.1.at hy k2
          exact lG.of hw (okV_ok hins hm k3 hv)
      · exact all2_SG (fun x y w hok hv => okV_ok hins hm hok hv) c2 g.2.2.2.2.2.1
    · cases he
  · cases he
end LPS
end
section
/-! ===== the walker itself ===== -/
def rent (X : aX) (Γ : aG) (C : aC) (A : aL) (s : List AV) : Bool := match ent X Γ C A s with
  | some ins => (match ins[X.2.2.2.2.2.2.2.1]? with
    | some y => decide (y.1 = 1) && decide (y.2.1 = 1) && decide (y.2.2.2 = X.2.2.1 + X.2.2.2.2.2.2.2.1) && (if X.2.2.2.2.2.2.2.2 = true then decide (0 < y.2.2.1) else decide (y.2.2.1 < 0))
    | none => false)
  | none => false
def setA (N0 : Nat) : Nat → aFr → aL → aL
  | _, [], A => A
  | j, f :: r, A => setA N0 (j + 1) r (match f.2.2 with
    | .inl k => A.set k (1, 1, 0, N0 + j)
    | .inr _ => A)
def setB (N0 : Nat) : List (Nat × Int × Int × Nat) → aL → aL
  | [], A => A
  | f :: r, A => setB N0 r (A.set f.1 (1, f.2.1, f.2.2.1, N0 + f.2.2.2))
def setF : List Nat → aL → aL
  | [], A => A
  | k :: r, A => setF r (A.set k any7)
def setC (N0 : Nat) : Nat → aFr → aC
  | _, [] => []
  | j, f :: r => match f.2.2 with
    | .inl _ => setC N0 (j + 1) r
    | .inr q => (q.1, q.2, (1, 1, 0, N0 + j)) :: setC N0 (j + 1) r
def frE : aFr → aG
  | [] => []
  | f :: r => .inl (f.1, f.2.1) :: frE r
/-- the head of a loop, out of the state at which it is reached first -/
def genX (i : Nat) (Γ : aG) (C : aC) (Δ : aD) (A : aL) (s : List AV) (g : aGen) : aX := (i, (Γ ++ frE g.1, setC Γ.length 0 g.1 ++ C.filter (notW g.2.2.2.1 Γ), Δ, setF g.2.2.1 (setB Γ.length g.2.1 (setA Γ.length 0 g.1 A)), s), Γ.length, g)
/-- what a loop's fresh symbols stand for is read first, where it isn't known -/
def pre1 (T : List aT) (Γ : aG) (C : aC) (ka ki : AV) : aG × aC := match cfind C ka ki with
  | some _ => (Γ, C)
  | none => if ka.1 = 5 ∧ ki = cn ki.2.1 ∧ 0 ≤ ki.2.1 then (match ard T Γ C (match T[ka.2.2.2]? with
    | some (.inr (.inr t)) => 2 + t.1
    | _ => 0) ka ki with
    | some q => (q.1, q.2.1)
    | none => (Γ, C)) else (Γ, C)
def preF (T : List aT) : aFr → aG → aC → aG × aC
  | [], Γ, C => (Γ, C)
  | f :: r, Γ, C => match f.2.2 with
    | .inl _ => preF T r Γ C
    | .inr q => preF T r (pre1 T Γ C q.1 q.2).1 (pre1 T Γ C q.1 q.2).2
abbrev aTb : Type := Nat → Nat → Option aGen
abbrev aSt : Type := Nat → aS → Bool
abbrev aCh : Type := aG → aC → aD → Option AV → Bool
def aex (P : List pM) (T : List aT) (W : aW) (KC : List (Nat × aK)) (ff : Bool) (tbl : aTb) (stp : aSt) (chk : aCh) : Nat → Bool → Nat → Nat → pM → Nat → aG → aC → aD → aL → List AV → List aX → List aF → Bool
  | 0, _, _, _, _, _, _, _, _, _, _, _, _ => false
  | f + 1, sk, q, mi, M, i, Γ, C, Δ, A, s, X, fs =>
    if sk = false ∧ fs.isEmpty = true ∧ stp i (Γ, C, Δ, A, s) = true then true else
    match (if sk = true then none else X.find? (fun x => decide (x.1 = i))) with
    | some x => rent x Γ C A s
    | none => match (if sk = true then none else tbl mi i) with
      | some g => (ent (genX i (preF T g.1 Γ C).1 (preF T g.1 Γ C).2 Δ A s g) (preF T g.1 Γ C).1 (preF T g.1 Γ C).2 A s).isSome && decide (g.2.2.2.2.1 < g.1.length) && aex P T W KC ff tbl stp chk f true q mi M i (genX i (preF T g.1 Γ C).1 (preF T g.1 Γ C).2 Δ A s g).2.1.1 (genX i (preF T g.1 Γ C).1 (preF T g.1 Γ C).2 Δ A s g).2.1.2.1 Δ (genX i (preF T g.1 Γ C).1 (preF T g.1 Γ C).2 Δ A s g).2.1.2.2.2.1 s (genX i (preF T g.1 Γ C).1 (preF T g.1 Γ C).2 Δ A s g :: X) fs
      | none => match (m_code M)[i]? with
        | none => false
        | some t => match aret M t Γ s with
          | some r => (match fs with
            | [] => chk Γ C Δ r
            | (q2, mi2, M2, i2, A2, s2, X2) :: fs' => aex P T W KC ff tbl stp chk f false q2 mi2 M2 i2 Γ C Δ A2 (r.toList ++ s2) X2 fs')
          | none => match acall P T t Γ s with
            | some (k, N, xs, r) => (match KC.lookup k with
              | some c => argsB Γ xs c.1 && decide (c.2.2.2 < q) && subW c.2.2.1 W && aex P T W KC ff tbl stp chk f false q mi M (i + 1) (rnm Γ c.2.1).1 (C.filter (notW c.2.2.1 Γ)) Δ A ((rnm Γ c.2.1).2 ++ r) X fs
              | none => decide (2 ≤ q) && decide ((aexp xs).length ≤ m_l N) && !(m_code N).isEmpty && aex P T W KC ff tbl stp chk f false (q - 1) k N 0 Γ C Δ (aent (m_l N) xs) [] [] ((q, mi, M, i + 1, A, r, X) :: fs))
            | none => match astepN ff P T W t i Γ C Δ A s with
              | some outs => outs.all (fun o => aex P T W KC ff tbl stp chk f false q mi M o.1 o.2.1 o.2.2.1 o.2.2.2.1 o.2.2.2.2.1 o.2.2.2.2.2 X fs)
              | none => false
section AEX
variable {n0 : Nat} {σ0 : Nat → Int} {P : List pM} {E : pX} {V : pV} {T : List aT} {J : List pC → Prop} {W : aW} {KC : List (Nat × aK)} {ff : Bool} {tbl : aTb} {stp : aSt} {chk : aCh} {Post : Option Value → List pC → Prop} {h0 : List pC} {d0 : Nat} {M0 : pM}
def msr (X : aX) (σ : Nat → Int) : Nat := match X.2.2.2.1[X.2.2.2.2.2.2.2.1]? with
  | some f => if X.2.2.2.2.2.2.2.2 = true then (f.2.1 - σ (X.2.2.1 + X.2.2.2.2.2.2.2.1)).toNat else (σ (X.2.2.1 + X.2.2.2.2.2.2.2.1) - f.1).toNat
  | none => 0
def XG (n0 : Nat) (σ0 : Nat → Int) (P : List pM) (E : pX) (V : pV) (T : List aT) (W : aW) (Post : Option Value → List pC → Prop) (h0 : List pC) (σ : Nat → Int) (n d : Nat) (M : pM) (fs : List cF) (X : aX) : Prop :=
  XW n0 X ∧ X.2.2.1 + X.2.2.2.1.length ≤ n ∧ X.2.2.2.2.2.2.2.1 < X.2.2.2.1.length ∧ (∀ (k : Nat) (e : aE), k < X.2.2.1 → X.2.1.1[k]? = some e → eG (σ k) e) ∧ fok X.2.2.1 σ X.2.1.2.2.1 ∧
  ∀ (σ' : Nat → Int) (L : pL) (st : List Value) (h : List pC), agr X.2.2.1 σ σ' → gS n0 σ0 T W h0 σ' X.2.1 L st h → msr X σ' < msr X σ → Gl P E V Post d M X.1 L st h fs
theorem XG.up {σ σ' : Nat → Int} {n n' d : Nat} {M : pM} {fs : List cF} {X : aX} (hn : n ≤ n') (ha : agr n σ σ') (g : XG n0 σ0 P E V T W Post h0 σ n d M fs X) : XG n0 σ0 P E V T W Post h0 σ' n' d M fs X := by
  obtain ⟨g1, g2, g3, g4, g5, g6⟩ := g
  have hle : X.2.2.1 ≤ n := by omega
  refine ⟨g1, by omega, g3, fun k e hk he => ?_, g5.up (Nat.le_refl _) (ha.le hle), fun σ2 L st h ha2 gs hm => g6 σ2 L st h ((ha.le hle).tr ha2) gs ?_⟩
  · rw [ha k (by omega)]
    exact g4 k e hk he
  · have : msr X σ' = msr X σ := by
      unfold msr
      rw [ha (X.2.2.1 + X.2.2.2.2.2.2.2.1) (by omega)]
    rw [← this]
    exact hm
def FsG (n0 : Nat) (σ0 : Nat → Int) (P : List pM) (E : pX) (V : pV) (T : List aT) (W : aW) (Post : Option Value → List pC → Prop) (h0 : List pC) (d0 : Nat) (M0 : pM) (σ : Nat → Int) (n : Nat) : Nat → pM → List aF → List cF → Prop
  | d, M, [], [] => d = d0 ∧ M = M0
  | _, _, a :: fs, c :: cfs => c.2.1 = a.2.2.1 ∧ c.2.2.1 = a.2.2.2.1 ∧ a.1 ≤ c.1 ∧ 1 ≤ a.1 ∧ LG n σ c.2.2.2.1 a.2.2.2.2.1 ∧ SG n σ c.2.2.2.2 a.2.2.2.2.2.1 ∧ (∀ X ∈ a.2.2.2.2.2.2, XG n0 σ0 P E V T W Post h0 σ n c.1 c.2.1 cfs X) ∧ FsG n0 σ0 P E V T W Post h0 d0 M0 σ n c.1 c.2.1 fs cfs
  | _, _, _, _ => False
theorem FsG.up {σ σ' : Nat → Int} {n n' : Nat} (hn : n ≤ n') (ha : agr n σ σ') : ∀ {d : Nat} {M : pM} {fs : List aF} {cfs : List cF}, FsG n0 σ0 P E V T W Post h0 d0 M0 σ n d M fs cfs → FsG n0 σ0 P E V T W Post h0 d0 M0 σ' n' d M fs cfs
  | _, _, [], [], g => g
  | _, _, a :: fs, c :: cfs, g => ⟨g.1, g.2.1, g.2.2.1, g.2.2.2.1, g.2.2.2.2.1.up hn ha, g.2.2.2.2.2.1.up hn ha, fun X hX => (g.2.2.2.2.2.2.1 X hX).up hn ha, FsG.up hn ha g.2.2.2.2.2.2.2⟩
  | _, _, [], _ :: _, g => g.elim
  | _, _, _ :: _, [], g => g.elim
theorem frE_len : ∀ F : aFr, (frE F).length = F.length
  | [] => rfl
  | f :: r => by rw [frE, List.length_cons, List.length_cons, frE_len r]
theorem frE_at : ∀ {F : aFr} {j : Nat} {f : Int × Int × (Nat ⊕ (AV × AV))}, F[j]? = some f → (frE F)[j]? = some (.inl (f.1, f.2.1))
  | _ :: _, 0, _, hj => by cases hj; rfl
  | _ :: r, j + 1, _, hj => frE_at (F := r) (j := j) hj
  | [], _, _, hj => by simp at hj
theorem genX_W {i : Nat} {Γ : aG} {C : aC} {Δ : aD} {A : aL} {s : List AV} {g : aGen} (hn : n0 ≤ Γ.length) : XW n0 (genX i Γ C Δ A s g) := by
  refine ⟨hn, ?_, fun j f hj => ?_⟩
  · show (Γ ++ frE g.1).length = _
    rw [List.length_append, frE_len]
    rfl
  · show (Γ ++ frE g.1)[Γ.length + j]? = _
    rw [List.getElem?_append_right (Nat.le_add_right _ _), Nat.add_sub_cancel_left]
    exact frE_at hj
theorem rent_ok {X : aX} {Γ : aG} {C : aC} {Δ : aD} {A : aL} {s : List AV} {σ : Nat → Int} {L : pL} {st : List Value} {h : List pC} {d : Nat} {M : pM} {fs : List cF} (g : gS n0 σ0 T W h0 σ (Γ, C, Δ, A, s) L st h) (hx : XG n0 σ0 P E V T W Post h0 σ Γ.length d M fs X) (hr : rent X Γ C A s = true) : Gl P E V Post d M X.1 L st h fs := by
  obtain ⟨g1, g2, g3, g4, g5, g6⟩ := hx
  unfold rent at hr
  split at hr
  · rename_i ins he
    split at hr
    · rename_i y hy
      obtain ⟨e1, e2, e3, e4⟩ := ent_ok g1 g4 g5 (by omega) g he
      refine g6 _ L st h e3 e4 ?_
      rw [Bool.and_eq_true, Bool.and_eq_true, Bool.and_eq_true] at hr
      obtain ⟨⟨⟨r1, r2⟩, r3⟩, r4⟩ := hr
      have r1 := of_decide_eq_true r1
      have r2 := of_decide_eq_true r2
      have r3 := of_decide_eq_true r3
      have hF := List.getElem?_eq_getElem g3
      have hnew := sgm_new (σ := σ) (N0 := X.2.2.1) hy
      have hev : ev σ y = σ (X.2.2.1 + X.2.2.2.2.2.2.2.1) + y.2.2.1 := by
        unfold ev
        rw [if_pos (by rw [r1]), r2, r3, Int.one_mul]
      have hin : eG (sgm σ X.2.2.1 ins (X.2.2.1 + X.2.2.2.2.2.2.2.1)) (.inl _) := e4.2.1 _ _ (g1.2.2 _ _ hF)
      have hin : _ ≤ sgm σ X.2.2.1 ins (X.2.2.1 + X.2.2.2.2.2.2.2.1) ∧ sgm σ X.2.2.1 ins (X.2.2.1 + X.2.2.2.2.2.2.2.1) ≤ _ := hin
      unfold msr
      rw [hF]
      dsimp only
      split at r4
      · rename_i hu
        have r4 := of_decide_eq_true r4
        rw [if_pos hu, if_pos hu]
        omega
      · rename_i hu
        have r4 := of_decide_eq_true r4
        rw [if_neg hu, if_neg hu]
        omega
    · cases hr
  · cases hr
theorem pre1_ok {Γ : aG} {C : aC} {Δ : aD} {A : aL} {s : List AV} {σ : Nat → Int} {L : pL} {st : List Value} {h : List pC} {ka ki : AV} (g : gS n0 σ0 T W h0 σ (Γ, C, Δ, A, s) L st h) : ∃ σ', agr Γ.length σ σ' ∧ Γ.length ≤ (pre1 T Γ C ka ki).1.length ∧ gS n0 σ0 T W h0 σ' ((pre1 T Γ C ka ki).1, (pre1 T Γ C ka ki).2, Δ, A, s) L st h := by
  have same : ∃ σ', agr Γ.length σ σ' ∧ Γ.length ≤ Γ.length ∧ gS n0 σ0 T W h0 σ' (Γ, C, Δ, A, s) L st h := ⟨σ, agr.rf _ _, Nat.le_refl _, g⟩
  unfold pre1
  split
  · exact same
  · split
    · rename_i hc
      obtain ⟨c1, c2, c3⟩ := hc
      generalize hk : (match T[ka.2.2.2]? with
        | some (.inr (.inr t)) => 2 + t.1
        | _ => 0) = k
      split
      · rename_i q hq
        obtain ⟨Γ', C', v'⟩ := q
        obtain ⟨σ', c, w, s1, s2, s3, s4, k1, k2, k3, k4⟩ := ard_ok (a := ka.2.2.2) (i := ki.2.1.toNat) g.2.1 g.2.2.1 g.2.2.2.2.2.2.1 (Or.inl ⟨c1, rfl⟩) (by
          rw [Int.toNat_of_nonneg c3, c2]
          exact cnZ _) hq
        exact ⟨σ', s1, s3, ⟨Nat.le_trans g.1.1 s3, g.1.2.tr (s1.le g.1.1)⟩, s2, s4, g.2.2.2.1.up s3 s1, g.2.2.2.2.1.up s3 s1, g.2.2.2.2.2.1.up s3 s1, g.2.2.2.2.2.2⟩
      · exact same
    · exact same
theorem preF_ok {Δ : aD} {A : aL} {s : List AV} {L : pL} {st : List Value} {h : List pC} : ∀ (F : aFr) {Γ : aG} {C : aC} {σ : Nat → Int}, gS n0 σ0 T W h0 σ (Γ, C, Δ, A, s) L st h → ∃ σ', agr Γ.length σ σ' ∧ Γ.length ≤ (preF T F Γ C).1.length ∧ gS n0 σ0 T W h0 σ' ((preF T F Γ C).1, (preF T F Γ C).2, Δ, A, s) L st h
  | [], Γ, C, σ, g => ⟨σ, agr.rf _ _, Nat.le_refl _, g⟩
  | f :: r, Γ, C, σ, g => by
    unfold preF
    split
    · exact preF_ok r g
    · rename_i q _
      obtain ⟨σ1, a1, l1, g1⟩ := pre1_ok (ka := q.1) (ki := q.2) g
      obtain ⟨σ2, a2, l2, g2⟩ := preF_ok r g1
      exact ⟨σ2, a1.tr (a2.le l1), Nat.le_trans l1 l2, g2⟩
theorem aexp_len {n : Nat} {σ : Nat → Int} {as : List Value} {xs : List AV} (h : SG n σ as xs) : (pexp as).length = (aexp xs).length := (aexp_ok h).1
theorem aex_ok (hJ : ∀ h, Fr W h0 h → J h) (hK : ∀ k N c, KC.lookup k = some c → P[k]? = some N → KG P E V T J N c)
    (hchk : ∀ (σ : Nat → Int) (Γ : aG) (C : aC) (Δ : aD) (x : Option AV) (r : Option Value) (h : List pC), chk Γ C Δ x = true → (n0 ≤ Γ.length ∧ agr n0 σ0 σ) → gok σ Γ → cok Γ.length σ h C → fok Γ.length σ Δ → rvG Γ.length σ r x → HI T h → Fr W h0 h → Post r h)
    (hstp : ∀ (i : Nat) (σ : Nat → Int) (S : aS) (L : pL) (st : List Value) (h : List pC), stp i S = true → gS n0 σ0 T W h0 σ S L st h → Gl P E V Post d0 M0 i L st h []) :
    ∀ (f : Nat) (sk : Bool) (q mi : Nat) (M : pM) (i : Nat) (Γ : aG) (C : aC) (Δ : aD) (A : aL) (s : List AV) (X : List aX) (fs : List aF), aex P T W KC ff tbl stp chk f sk q mi M i Γ C Δ A s X fs = true →
    ∀ (σ : Nat → Int) (L : pL) (st : List Value) (h : List pC) (d : Nat) (cfs : List cF), gS n0 σ0 T W h0 σ (Γ, C, Δ, A, s) L st h → q ≤ d → 1 ≤ q → (∀ x ∈ X, XG n0 σ0 P E V T W Post h0 σ Γ.length d M cfs x) → FsG n0 σ0 P E V T W Post h0 d0 M0 σ Γ.length d M fs cfs → Gl P E V Post d M i L st h cfs := by
  intro f
  induction f with
  | zero => intro sk q mi M i Γ C Δ A s X fs ha; cases ha
  | succ f ih =>
    intro sk q mi M i Γ C Δ A s X fs ha σ L st h d cfs g hq hq1 hX hF
    rw [aex] at ha
    split at ha
    · rename_i hc
      obtain ⟨c1, c2, c3⟩ := hc
      rw [List.isEmpty_iff.mp c2] at hF
      cases cfs with
      | nil =>
        obtain ⟨rfl, rfl⟩ := hF
        exact hstp i σ _ L st h c3 g
      | cons c cfs => exact hF.elim
    · split at ha
      · rename_i x hx
        split at hx
        · cases hx
        · have hm := List.mem_of_find?_eq_some hx
          have hi0 : decide (x.1 = i) = true := List.find?_some (p := fun x : aX => decide (x.1 = i)) hx
          have hi : x.1 = i := of_decide_eq_true hi0
          rw [← hi]
          exact rent_ok g (hX x hm) ha
      · split at ha
        · -- the head of a loop
          rename_i gn hgn
          obtain ⟨σ9, ag9, le9, g9⟩ := preF_ok gn.1 g
          have hX9 : ∀ x ∈ X, XG n0 σ0 P E V T W Post h0 σ9 (preF T gn.1 Γ C).1.length d M cfs x := fun x hx => (hX x hx).up le9 ag9
          have hF9 : FsG n0 σ0 P E V T W Post h0 d0 M0 σ9 (preF T gn.1 Γ C).1.length d M fs cfs := hF.up le9 ag9
          revert ha g9 hX9 hF9
          generalize (preF T gn.1 Γ C).1 = Γ9
          generalize (preF T gn.1 Γ C).2 = C9
          intro ha g9 hX9 hF9
          rw [Bool.and_eq_true, Bool.and_eq_true] at ha
          obtain ⟨⟨a1, a2⟩, a3⟩ := ha
          obtain ⟨ins, he⟩ := Option.isSome_iff_exists.mp a1
          have a2 := of_decide_eq_true a2
          have hW := genX_W (n0 := n0) (i := i) (C := C9) (Δ := Δ) (A := A) (s := s) (g := gn) g9.1.1
          have hle : Γ9.length ≤ (Γ9 ++ frE gn.1).length := by rw [List.length_append]; omega
          have hb0 : ∀ (σ1 : Nat → Int), agr Γ9.length σ9 σ1 → ∀ (k : Nat) (e : aE), k < Γ9.length → (Γ9 ++ frE gn.1)[k]? = some e → eG (σ1 k) e := fun σ1 hσ1 k e hk hke => by
            rw [List.getElem?_append_left hk] at hke
            rw [hσ1 k hk]
            exact g9.2.1 k e hke
          have main : ∀ (m : Nat) (σ1 : Nat → Int) (L1 : pL) (st1 : List Value) (h1 : List pC), msr (genX i Γ9 C9 Δ A s gn) σ1 ≤ m → agr Γ9.length σ9 σ1 → gS n0 σ0 T W h0 σ1 (genX i Γ9 C9 Δ A s gn).2.1 L1 st1 h1 → Gl P E V Post d M i L1 st1 h1 cfs := by
            intro m
            induction m with
            | zero =>
              intro σ1 L1 st1 h1 hm hσ1 g1
              refine ih true q mi M i _ _ _ _ _ _ fs a3 σ1 L1 st1 h1 d cfs g1 hq hq1 (fun x hx => ?_) (hF9.up hle hσ1)
              rcases List.mem_cons.mp hx with rfl | hx
              · refine ⟨hW, by show Γ9.length + gn.1.length ≤ (Γ9 ++ frE gn.1).length; rw [List.length_append, frE_len]; exact Nat.le_refl _, a2, hb0 σ1 hσ1, g9.2.2.2.1.up (Nat.le_refl _) hσ1, fun σ2 L2 st2 h2 hag gs hlt => ?_⟩
                omega
              · exact (hX9 x hx).up hle hσ1
            | succ m ihm =>
              intro σ1 L1 st1 h1 hm hσ1 g1
              refine ih true q mi M i _ _ _ _ _ _ fs a3 σ1 L1 st1 h1 d cfs g1 hq hq1 (fun x hx => ?_) (hF9.up hle hσ1)
              rcases List.mem_cons.mp hx with rfl | hx
              · refine ⟨hW, by show Γ9.length + gn.1.length ≤ (Γ9 ++ frE gn.1).length; rw [List.length_append, frE_len]; exact Nat.le_refl _, a2, hb0 σ1 hσ1, g9.2.2.2.1.up (Nat.le_refl _) hσ1, fun σ2 L2 st2 h2 hag gs hlt => ?_⟩
                exact ihm σ2 L2 st2 h2 (by omega) (hσ1.tr hag) gs
              · exact (hX9 x hx).up hle hσ1
          obtain ⟨-, -, e3, e4⟩ := ent_ok hW (hb0 σ9 (agr.rf _ _)) g9.2.2.2.1 (Nat.le_refl _) g9 he
          exact main _ _ L st h (Nat.le_refl _) e3 e4
        · split at ha
          · cases ha
          · rename_i t ht
            obtain ⟨d, rfl⟩ : ∃ d', d = d' + 1 := ⟨d - 1, by omega⟩
            split at ha
            · -- a return
              rename_i x hx
              obtain ⟨r, hr, hv⟩ := aret_ok g.2.1 g.2.2.2.2.2.1 hx
              refine Gl.ret ht hr ?_
              split at ha
              · cases cfs with
                | nil => exact hchk σ Γ C Δ x r h ha g.1 g.2.1 g.2.2.1 g.2.2.2.1 hv g.2.2.2.2.2.2.1 g.2.2.2.2.2.2.2
                | cons c cfs => exact hF.elim
              · rename_i q2 mi2 M2 i2 A2 s2 X2 fs' _
                cases cfs with
                | nil => exact hF.elim
                | cons c cfs =>
                  obtain ⟨dc, Mc, ic, Lc, stc⟩ := c
                  obtain ⟨f1, f2, f3, f4, f5, f6, f7, f8⟩ := hF
                  cases f1
                  cases f2
                  refine ih false q2 mi2 _ _ Γ C Δ A2 _ X2 fs' ha σ Lc (r.toList ++ stc) h dc cfs ⟨g.1, g.2.1, g.2.2.1, g.2.2.2.1, f5, ?_, g.2.2.2.2.2.2⟩ f3 f4 f7 f8
                  refine SG.app ?_ f6
                  unfold rvG at hv
                  split at hv
                  · trivial
                  · exact ⟨hv, trivial⟩
                  · exact hv.elim
            · split at ha
              · -- a call
                rename_i k N xs r hcl
                obtain ⟨hr, hPk, as, rest, hpc, hsa, hsr⟩ := acall_ok (M := M) g.2.1 g.2.2.2.2.2.2.1 g.2.2.2.2.2.1 hcl
                split at ha
                · rename_i c hc
                  rw [Bool.and_eq_true, Bool.and_eq_true, Bool.and_eq_true] at ha
                  obtain ⟨⟨⟨a1, a2⟩, a3⟩, a4⟩ := ha
                  have a2 := of_decide_eq_true a2
                  obtain ⟨r1, h1, k1, k2, k3, k4, -⟩ := hK k N c hc hPk d (by omega) as h (argsB_ok g.2.1 hsa a1) g.2.2.2.2.2.2.1 (hJ h g.2.2.2.2.2.2.2)
                  obtain ⟨σ', s1, s2, s3, s4⟩ := rnm_ok g.2.1 k2
                  refine Gl.con ht hr hpc k1 ?_
                  refine ih false q mi M (i + 1) _ _ Δ A _ X fs a4 σ' L (r1.toList ++ rest) h1 (d + 1) cfs ⟨⟨Nat.le_trans g.1.1 s3, g.1.2.tr (s1.le g.1.1)⟩, s2, (g.2.2.1.fr g.2.1 k4).up s3 s1, g.2.2.2.1.up s3 s1, g.2.2.2.2.1.up s3 s1, SG.app s4 (hsr.up s3 s1), k3, g.2.2.2.2.2.2.2.tr (k4.sub a3)⟩ hq hq1 (fun x hx => (hX x hx).up s3 s1) (hF.up s3 s1)
                · rw [Bool.and_eq_true, Bool.and_eq_true, Bool.and_eq_true] at ha
                  obtain ⟨⟨⟨a1, a2⟩, a3⟩, a4⟩ := ha
                  have a1 := of_decide_eq_true a1
                  have a2 := of_decide_eq_true a2
                  have hne : ∃ u us, m_code N = u :: us := by
                    cases hco : m_code N with
                    | nil => rw [hco] at a3; cases a3
                    | cons u us => exact ⟨u, us, rfl⟩
                  refine Gl.call ht hr hpc (by rw [aexp_len hsa]; exact a2) hne ?_
                  refine ih false (q - 1) k N 0 Γ C Δ _ [] [] _ a4 σ (pent (m_l N) as) [] h d ((d + 1, M, i + 1, L, rest) :: cfs) ⟨g.1, g.2.1, g.2.2.1, g.2.2.2.1, aent_ok _ hsa, trivial, g.2.2.2.2.2.2⟩ (by omega) (by omega) (fun x hx => by cases hx) ⟨rfl, rfl, hq, hq1, g.2.2.2.2.1, hsr, hX, hF⟩
              · split at ha
                · rename_i outs ho
                  obtain ⟨⟨hr, hpc⟩, i', S', σ', L', st', h', m1, m2, m3, m4, m5⟩ := astepN_ok (M := M) g ho
                  have ha := List.all_eq_true.mp ha _ m1
                  refine Gl.step ht hr hpc m4 ?_
                  exact ih false q mi M i' _ _ _ _ _ X fs ha σ' L' st' h' (d + 1) cfs m5 hq hq1 (fun x hx => (hX x hx).up m3 m2) (hF.up m3 m2)
                · cases ha
/-! contracts out of walks -/
def argA : aA → Nat → aG × AV := fun p n => match p with
  | .inl q => if q.1 < q.2 then ([.inl q], (1, 1, 0, n)) else ([], cn q.1)
  | .inr q => match q.2 with
    | [a] => ([], rf5 a)
    | as => if q.1 = true then ([], (4, 0, 0, 0)) else ([.inr as], (6, 0, 0, n))
def argsA : List aA → aG → aG × List AV
  | [], Γ => (Γ, [])
  | p :: ps, Γ => ((argsA ps (Γ ++ (argA p Γ.length).1)).1, (argA p Γ.length).2 :: (argsA ps (Γ ++ (argA p Γ.length).1)).2)
def noNull (p : aA) : Bool := match p with
  | .inl q => decide (q.1 ≤ q.2)
  | .inr q => !q.1 || q.2.isEmpty
theorem argA_ok {σ : Nat → Int} {Γ : aG} {w : Value} {p : aA} (hg : gok σ Γ) (hn : noNull p = true) (ha : argG w p) : ∃ σ', agr Γ.length σ σ' ∧ gok σ' (Γ ++ (argA p Γ.length).1) ∧ vG (Γ ++ (argA p Γ.length).1).length σ' w (argA p Γ.length).2 := by
  cases p with
  | inl q =>
    obtain ⟨v, rfl, h1, h2⟩ := ha
    unfold argA
    dsimp only
    split
    · obtain ⟨σ', s1, s2, s3⟩ := gok.push (z := v.toInt) (e := .inl q) hg ⟨h1, h2⟩
      exact ⟨σ', s1, s2, Nat.le_refl _, zG.mk (by decide) (by rw [s3]; omega) (by rw [List.length_append]; exact Nat.lt_succ_self _)⟩
    · exact ⟨σ, agr.rf _ _, by rw [List.append_nil]; exact hg, Nat.zero_le _, zG.itv rfl (by omega) (by omega)⟩
  | inr q =>
    obtain ⟨b, as⟩ := q
    unfold noNull at hn
    dsimp only at hn
    rw [Bool.or_eq_true] at hn
    rcases ha with ha | ⟨a, ha, rfl⟩
    · have h1 : b = true := ha.1
      obtain rfl := ha.2
      subst h1
      rcases hn with hn | hn
      · cases hn
      · obtain rfl := List.isEmpty_iff.mp hn
        exact ⟨σ, agr.rf _ _, by show gok σ (Γ ++ []); rw [List.append_nil]; exact hg, rfl⟩
    · unfold argA
      dsimp only
      split
      · obtain rfl := List.mem_singleton.mp ha
        exact ⟨σ, agr.rf _ _, by rw [List.append_nil]; exact hg, Or.inl ⟨rfl, rfl⟩⟩
      · split
        · rename_i hb
          subst hb
          rcases hn with hn | hn
          · cases hn
          · obtain rfl := List.isEmpty_iff.mp hn
            cases ha
        · obtain ⟨σ', s1, s2, s3⟩ := gok.push (z := Int.ofNat a) (e := .inr as) hg ⟨a, ha, rfl⟩
          exact ⟨σ', s1, s2, Or.inr ⟨rfl, by rw [s3]; rfl, by rw [List.length_append]; exact Nat.lt_succ_self _⟩⟩
theorem argsA_le : ∀ (ps : List aA) (Γ : aG), Γ.length ≤ (argsA ps Γ).1.length
  | [], _ => Nat.le_refl _
  | p :: ps, Γ => by
    have := argsA_le ps (Γ ++ (argA p Γ.length).1)
    rw [List.length_append] at this
    rw [argsA]
    dsimp only
    omega
theorem argsA_ok : ∀ {ps : List aA} {as : List Value} {σ : Nat → Int} {Γ : aG}, gok σ Γ → ps.all noNull = true → argsG as ps → ∃ σ', agr Γ.length σ σ' ∧ gok σ' (argsA ps Γ).1 ∧ SG (argsA ps Γ).1.length σ' as (argsA ps Γ).2
  | [], [], σ, Γ, hg, _, _ => ⟨σ, agr.rf _ _, hg, trivial⟩
  | p :: ps, w :: as, σ, Γ, hg, hn, ha => by
    rw [List.all_cons, Bool.and_eq_true] at hn
    obtain ⟨σ1, s1, s2, s3⟩ := argA_ok hg hn.1 ha.1
    obtain ⟨σ2, t1, t2, t3⟩ := argsA_ok s2 hn.2 ha.2
    have hle : Γ.length ≤ (Γ ++ (argA p Γ.length).1).length := by rw [List.length_append]; omega
    rw [argsA]
    exact ⟨σ2, s1.tr (t1.le hle), t2, s3.up (argsA_le ps _) t1, t3⟩
  | [], _ :: _, _, _, _, _, ha => ha.elim
  | _ :: _, [], _, _, _, _, ha => ha.elim
def chkR (p : Option (Int × Int)) : aCh := fun Γ _ _ x => match p, x with
  | none, none => true
  | some q, some x => isI x && (match ivl Γ x with
    | some r => decide (q.1 ≤ r.1) && decide (r.2 ≤ q.2)
    | none => false)
  | _, _ => false
theorem chkR_ok {p : Option (Int × Int)} {Γ : aG} {C : aC} {Δ : aD} {x : Option AV} {r : Option Value} {σ : Nat → Int} (hk : chkR p Γ C Δ x = true) (hg : gok σ Γ) (hv : rvG Γ.length σ r x) : retG r p := by
  cases p with
  | none =>
    cases x with
    | none =>
      cases r with
      | none => rfl
      | some w => exact hv.elim
    | some y => cases hk
  | some q =>
    cases x with
    | none => cases hk
    | some y =>
      cases r with
      | none => exact hv.elim
      | some w =>
        have hv : vG Γ.length σ w y := hv
        have hk : (isI y && (match ivl Γ y with
          | some r => decide (q.1 ≤ r.1) && decide (r.2 ≤ q.2)
          | none => false)) = true := hk
        rw [Bool.and_eq_true] at hk
        obtain ⟨v, rfl, hz⟩ := hv.int (isI_t hk.1)
        have hk2 := hk.2
        split at hk2
        · rename_i r1 hr1
          have h1 := ivl_ok hg hz hr1
          rw [Bool.and_eq_true] at hk2
          have f1 := of_decide_eq_true hk2.1
          have f2 := of_decide_eq_true hk2.2
          exact ⟨v, rfl, by omega, by omega⟩
        · cases hk2
def nostp : aSt := fun _ _ => false
/-- the check of a contract -/
def kchk (P : List pM) (T : List aT) (KC : List (Nat × aK)) (tbl : aTb) (f k : Nat) (c : aK) : Bool := match P[k]? with
  | some M => c.1.all noNull && decide ((aexp (argsA c.1 []).2).length ≤ m_l M) && !(m_code M).isEmpty && decide (1 ≤ c.2.2.2) && aex P T c.2.2.1 KC true tbl nostp (chkR c.2.1) f false c.2.2.2 k M 0 (argsA c.1 []).1 [] [] (aent (m_l M) (argsA c.1 []).2) [] [] []
  | none => false
theorem kchk_ok {f k : Nat} {c : aK} {N : pM} (hJ : ∀ h h', Fr c.2.2.1 h h' → J h → J h') (hK : ∀ k N c, KC.lookup k = some c → P[k]? = some N → KG P E V T J N c) (hc : kchk P T KC tbl f k c = true) (hN : P[k]? = some N) : KG P E V T J N c := by
  intro d hd as h ha hh hj
  unfold kchk at hc
  rw [hN] at hc
  dsimp only at hc
  rw [Bool.and_eq_true, Bool.and_eq_true, Bool.and_eq_true, Bool.and_eq_true] at hc
  obtain ⟨⟨⟨⟨c1, c2⟩, c3⟩, c4⟩, c5⟩ := hc
  have c2 := of_decide_eq_true c2
  have c4 := of_decide_eq_true c4
  have hne : ∃ u us, m_code N = u :: us := by
    cases hco : m_code N with
    | nil => rw [hco] at c3; cases c3
    | cons u us => exact ⟨u, us, rfl⟩
  obtain ⟨σ, s1, s2, s3⟩ := argsA_ok (σ := fun _ => 0) (Γ := []) (fun k e hk => by simp at hk) c1 ha
  have key := aex_ok (n0 := 0) (σ0 := fun _ => 0) (E := E) (V := V) (h0 := h) (d0 := d) (M0 := N) (stp := nostp) (chk := chkR c.2.1) (W := c.2.2.1) (ff := true) (tbl := tbl) (J := J) (Post := fun r h' => retG r c.2.1 ∧ HI T h' ∧ Fr c.2.2.1 h h') (fun h' hF => hJ h h' hF hj) hK
    (fun σ Γ C Δ x r h' hk _ hg _ _ hv hH hF => ⟨chkR_ok hk hg hv, hH, hF⟩)
    (fun i σ S L st h' hs => by cases hs) f false c.2.2.2 k N 0 _ [] [] _ [] [] [] c5 σ (pent (m_l N) as) [] h d [] ⟨⟨Nat.zero_le _, fun k hk => absurd hk (Nat.not_lt_zero _)⟩, s2, (fun e he => by cases he), (fun e he => by cases he), aent_ok _ s3, trivial, hh, Fr.rf _ _⟩ hd c4 (fun x hx => by cases hx) ⟨rfl, rfl⟩
  obtain ⟨r, h', k1, k2, k3, k4⟩ := key
  exact ⟨r, h', Or.inl ⟨by rw [aexp_len s3]; exact c2, hne, k1⟩, k2, k3, k4, hJ h h' k4 hj⟩
end AEX
end
section
/-! ===== rules and leaves for runs with unknown ints ===== -/
section GRD
variable {P : List pM} {E : pX} {V : pV} {d : Nat} {M N : pM} {i i' : Nat} {L L' : pL} {st st' : List Value} {h h' h1 h2 : List pC} {t : pE} {r r1 r2 : Option Value} {k1 n1 k2 n2 : Nat} {res : pR}
theorem RA.if1T {k0 : ClassFile.Cond} {z : Int} {a : Int32} {pc x y : Nat} {v : Value} {ts : List Nat} {rest : List Value} (he : (m_code M)[i]? = some (pc, .ifCond k0 z, x, y, v, ts)) (hb : pc1 k0 a = true) (kt : RA P E V (d + 1) M x L rest h res) : RA P E V (d + 1) M i L (.int a :: rest) h res :=
  RA.step0 he rfl rfl (by show some (cond (pc1 k0 a) x (i + 1), L, rest, h, 0, 0) = _; rw [hb]; rfl) kt
theorem RA.if1F {k0 : ClassFile.Cond} {z : Int} {a : Int32} {pc x y : Nat} {v : Value} {ts : List Nat} {rest : List Value} (he : (m_code M)[i]? = some (pc, .ifCond k0 z, x, y, v, ts)) (hb : pc1 k0 a = false) (kf : RA P E V (d + 1) M (i + 1) L rest h res) : RA P E V (d + 1) M i L (.int a :: rest) h res :=
  RA.step0 he rfl rfl (by show some (cond (pc1 k0 a) x (i + 1), L, rest, h, 0, 0) = _; rw [hb]; rfl) kf
theorem RA.if2T {k0 : ClassFile.Cond} {z : Int} {a b : Int32} {pc x y : Nat} {v : Value} {ts : List Nat} {rest : List Value} (he : (m_code M)[i]? = some (pc, .if_icmp k0 z, x, y, v, ts)) (hb : pc2 k0 a b = true) (kt : RA P E V (d + 1) M x L rest h res) : RA P E V (d + 1) M i L (.int b :: .int a :: rest) h res :=
  RA.step0 he rfl rfl (by show some (cond (pc2 k0 a b) x (i + 1), L, rest, h, 0, 0) = _; rw [hb]; rfl) kt
theorem RA.if2F {k0 : ClassFile.Cond} {z : Int} {a b : Int32} {pc x y : Nat} {v : Value} {ts : List Nat} {rest : List Value} (he : (m_code M)[i]? = some (pc, .if_icmp k0 z, x, y, v, ts)) (hb : pc2 k0 a b = false) (kf : RA P E V (d + 1) M (i + 1) L rest h res) : RA P E V (d + 1) M i L (.int b :: .int a :: rest) h res :=
  RA.step0 he rfl rfl (by show some (cond (pc2 k0 a b) x (i + 1), L, rest, h, 0, 0) = _; rw [hb]; rfl) kf
theorem RA.sw {a : Int32} {x : Nat} {rest : List Value} (he : (m_code M)[i]? = some t) (hr : pret M t (.int a :: rest) = none) (hc : pcall P t (.int a :: rest) h = none) (hs : pstep E t i L (.int a :: rest) h = some (psw a.toInt (pkeys t) (e_x t), L, rest, h, 0, 0)) (hx : psw a.toInt (pkeys t) (e_x t) = x) (k : RA P E V (d + 1) M x L rest h res) : RA P E V (d + 1) M i L (.int a :: rest) h res := by
  rw [hx] at hs
  exact RA.step0 he hr hc hs k
theorem RA.getf {n a pc x y : Nat} {v w : Value} {ts : List Nat} {o : Nat × List Value} {rest : List Value} (he : (m_code M)[i]? = some (pc, .getfield n, x, y, v, ts)) (ho : pobj h a = some o) (hx : o.1 = x) (hw : o.2[y]? = some w) (k : RA P E V (d + 1) M (i + 1) L (w :: rest) h res) : RA P E V (d + 1) M i L (.ref a :: rest) h res :=
  RA.step0 he rfl rfl (by
    show (match pobj h a with
      | some o => if o.1 = x then (match o.2[y]? with
        | some v => pnx i L (v :: rest) h
        | none => none) else none
      | none => none) = _
    rw [ho]
    dsimp only
    rw [if_pos hx, hw]
    rfl) k
theorem RA.putf {n a pc x y : Nat} {v w : Value} {ts : List Nat} {o : Nat × List Value} {rest : List Value} (he : (m_code M)[i]? = some (pc, .putfield n, x, y, v, ts)) (ho : pobj h a = some o) (hx : o.1 = x) (hf : pfit (ptyp x y) w = true) (k : RA P E V (d + 1) M (i + 1) L rest (h.set a (.inr (.inr (o.1, o.2.set y w)))) res) : RA P E V (d + 1) M i L (w :: .ref a :: rest) h res :=
  RA.step0 he rfl rfl (by
    show (match pobj h a with
      | some o => if o.1 = x then (if pfit (ptyp x y) w = true then pnx i L rest (h.set a (.inr (.inr (o.1, o.2.set y w)))) else none) else none
      | none => none) = _
    rw [ho]
    dsimp only
    rw [if_pos hx, if_pos hf]
    rfl) k
theorem Run.ex {as : List Value} (f : Nat) (hl : (pexp as).length ≤ m_l N) (hn : ∃ u us, m_code N = u :: us) (hx : pexec P E V f d N 0 (pent (m_l N) as) [] h = some res) : Run P E V d N as h res := ⟨hl, hn, f, hx⟩
end GRD
section GRE
variable {E : pX} {V : pV} {d : Nat} {h : List pC}
theorem within_t {v lo hi : Int32} (H : lo ≤ v ∧ v ≤ hi) : Run prog E V (d + 1) mX7_within [.int v, .int lo, .int hi] h (some (.int 1), h, 0, 0) := by
  refine ⟨Nat.le_of_ble_eq_true rfl, ⟨_, _, rfl⟩, ?_⟩
  refine RA.steps 2 rfl ?_
  refine RA.if2F rfl (decide_eq_false (Int32.not_lt.mpr H.1)) ?_
  refine RA.steps 2 rfl ?_
  refine RA.if2F rfl (decide_eq_false (Int32.not_lt.mpr H.2)) ?_
  refine RA.steps 2 rfl ?_
  exact RA.ret rfl rfl
theorem within_f {v lo hi : Int32} (H : ¬ (lo ≤ v ∧ v ≤ hi)) : Run prog E V (d + 1) mX7_within [.int v, .int lo, .int hi] h (some (.int 0), h, 0, 0) := by
  refine ⟨Nat.le_of_ble_eq_true rfl, ⟨_, _, rfl⟩, ?_⟩
  refine RA.steps 2 rfl ?_
  by_cases h1 : v < lo
  · refine RA.if2T rfl (decide_eq_true h1) ?_
    refine RA.steps 1 rfl ?_
    exact RA.ret rfl rfl
  · refine RA.if2F rfl (decide_eq_false h1) ?_
    refine RA.steps 2 rfl ?_
    have h2 : hi < v := by
      refine Int32.not_le.mp (fun q => H ⟨Int32.not_lt.mp h1, q⟩)
    refine RA.if2T rfl (decide_eq_true h2) ?_
    refine RA.steps 1 rfl ?_
    exact RA.ret rfl rfl
theorem i64_le {a b : Int32} : a.toInt64 ≤ b.toInt64 ↔ a ≤ b := by
  rw [Int64.le_iff_toInt_le, Int32.le_iff_toInt_le, Int32.toInt_toInt64, Int32.toInt_toInt64]
theorem lgc_ge {x y : Int64} : 0 ≤ lg_cmp x y ↔ y ≤ x := lg_cmp_ge x y
theorem lgc_nlt {a b : Int32} (h : b ≤ a) : pc1 .lt (lg_cmp a.toInt64 b.toInt64) = false := decide_eq_false (Int32.not_lt.mpr (lgc_ge.mpr (i64_le.mpr h)))
theorem lgc_lt {a b : Int32} (h : ¬ b ≤ a) : pc1 .lt (lg_cmp a.toInt64 b.toInt64) = true := decide_eq_true (Int32.not_le.mp (fun q => h (i64_le.mp (lgc_ge.mp q))))
theorem lgc_le' (x y : Int64) : (lg_cmp x y ≤ 0) ↔ x ≤ y := by
  unfold lg_cmp
  by_cases h1 : x > y
  · rw [if_pos h1]
    exact ⟨fun q => absurd q (by decide), fun q => absurd h1 (Int64.not_lt.mpr q)⟩
  · rw [if_neg h1]
    have h2 : x ≤ y := Int64.not_lt.mp h1
    by_cases h3 : x = y
    · rw [if_pos h3]
      exact ⟨fun _ => h2, fun _ => by decide⟩
    · rw [if_neg h3]
      exact ⟨fun _ => h2, fun _ => by decide⟩
theorem lgc_ngt {a b : Int32} (h : a ≤ b) : pc1 .gt (lg_cmp a.toInt64 b.toInt64) = false := decide_eq_false (Int32.not_lt.mpr ((lgc_le' _ _).mpr (i64_le.mpr h)))
theorem lgc_gt {a b : Int32} (h : ¬ a ≤ b) : pc1 .gt (lg_cmp a.toInt64 b.toInt64) = true := decide_eq_true (Int32.not_le.mp (fun q => h (i64_le.mp ((lgc_le' _ _).mp q))))
theorem isIn_t {v lo hi : Int32} (H : lo ≤ v ∧ v ≤ hi) : Run prog E V (d + 1) mX8_isIn [.long v.toInt64, .long lo.toInt64, .long hi.toInt64] h (some (.int 1), h, 0, 0) := by
  refine ⟨Nat.le_of_ble_eq_true rfl, ⟨_, _, rfl⟩, ?_⟩
  refine RA.steps 3 rfl ?_
  refine RA.if1F rfl (lgc_nlt H.1) ?_
  refine RA.steps 3 rfl ?_
  refine RA.if1F rfl (lgc_ngt H.2) ?_
  refine RA.steps 2 rfl ?_
  exact RA.ret rfl rfl
theorem isIn_f {v lo hi : Int32} (H : ¬ (lo ≤ v ∧ v ≤ hi)) : Run prog E V (d + 1) mX8_isIn [.long v.toInt64, .long lo.toInt64, .long hi.toInt64] h (some (.int 0), h, 0, 0) := by
  refine ⟨Nat.le_of_ble_eq_true rfl, ⟨_, _, rfl⟩, ?_⟩
  refine RA.steps 3 rfl ?_
  by_cases h1 : lo ≤ v
  · refine RA.if1F rfl (lgc_nlt h1) ?_
    refine RA.steps 3 rfl ?_
    refine RA.if1T rfl (lgc_gt (fun q => H ⟨h1, q⟩)) ?_
    refine RA.steps 1 rfl ?_
    exact RA.ret rfl rfl
  · refine RA.if1T rfl (lgc_lt h1) ?_
    refine RA.steps 1 rfl ?_
    exact RA.ret rfl rfl
theorem in_no {v lo hi : Int32} (h : hi < lo) : ¬ (lo ≤ v ∧ v ≤ hi) := fun q => absurd (Int32.le_trans q.1 q.2) (Int32.not_le.mpr h)
/-- the wall of a new object has no rubbing -/
theorem one_no {w : Nat} {a1 a2 a3 a4 a5 a7 a8 a9 a10 : Value} (k : Int32) (hw : pobj h w = some (6, [a1, a2, a3, a4, a5, .int 0, a7, a8, a9, a10])) : Run prog E V (d + 1) mX6_one [.ref w, .int k] h (some .null, h, 0, 0) := by
  refine ⟨Nat.le_of_ble_eq_true rfl, ⟨_, _, rfl⟩, ?_⟩
  refine RA.steps 1 rfl ?_
  by_cases h1 : k < 0
  · refine RA.if1T rfl (decide_eq_true h1) ?_
    refine RA.steps 1 rfl ?_
    exact RA.ret rfl rfl
  · refine RA.if1F rfl (decide_eq_false h1) ?_
    refine RA.steps 2 rfl ?_
    refine RA.getf rfl hw rfl rfl ?_
    refine RA.if2T rfl (decide_eq_true (Int32.not_lt.mp h1)) ?_
    refine RA.steps 1 rfl ?_
    exact RA.ret rfl rfl
end GRE
/-! ===== loops that copy ===== -/
section LPS
variable {P : List pM} {E : pX} {V : pV} {d : Nat} {M N : pM} {i i' : Nat} {L L' : pL} {st st' : List Value} {h h' h1 h2 : List pC} {t : pE} {r r1 r2 : Option Value} {res : pR} {j k : Nat} {c : pC}
theorem pobj_lt {o : Nat × List Value} (ho : pobj h k = some o) : k < h.length := (List.getElem?_eq_some_iff.mp (pobj_at ho)).1
theorem pint_lt {o : Nat × (Nat → Int32)} (ho : pint h k = some o) : k < h.length := (List.getElem?_eq_some_iff.mp (pint_at ho)).1
theorem pobj_set {o : Nat × List Value} (hk : k < h.length) : pobj (h.set k (.inr (.inr o))) k = some o := by
  unfold pobj
  rw [List.getElem?_set_self hk]
theorem pint_set {o : Nat × (Nat → Int32)} (hk : k < h.length) : pint (h.set k (.inl o)) k = some o := by
  unfold pint
  rw [List.getElem?_set_self hk]
theorem pobj_ne (hjk : k ≠ j) : pobj (h.set k c) j = pobj h j := by
  unfold pobj
  rw [List.getElem?_set_ne hjk]
theorem pint_ne (hjk : k ≠ j) : pint (h.set k c) j = pint h j := by
  unfold pint
  rw [List.getElem?_set_ne hjk]
theorem set_sameO {o : Nat × List Value} (ho : pobj h k = some o) : h.set k (.inr (.inr o)) = h := by
  have h1 := pobj_at ho
  obtain ⟨hl, he⟩ := List.getElem?_eq_some_iff.mp h1
  rw [← he]
  exact List.set_getElem_self hl
theorem set_sameI {o : Nat × (Nat → Int32)} (ho : pint h k = some o) : h.set k (.inl o) = h := by
  have h1 := pint_at ho
  obtain ⟨hl, he⟩ := List.getElem?_eq_some_iff.mp h1
  rw [← he]
  exact List.set_getElem_self hl
theorem pcallV {n pc x y b : Nat} {v : Value} {ts : List Nat} {st rest : List Value} {o : Nat × List Value} (hN : P[x]? = some N) (hd : st.drop y = .ref b :: rest) (ho : pobj h b = some o) (hk : m_k N = 1) (hc : o.1 = m_c N) (h8 : pcs rest ≤ 8) : pcall P (pc, .invokevirtual n, x, y, v, ts) st h = some (N, .ref b :: (st.take y).reverse, rest) := by
  show (match P[x]? with
    | some M => match st.drop y with
      | .ref b :: r => match pobj h b with
        | some o => if m_k M = 1 ∧ o.1 = m_c M ∧ pcs r ≤ 8 then some (M, Value.ref b :: (st.take y).reverse, r) else none
        | none => none
      | _ => none
    | none => none) = _
  rw [hN]
  dsimp only
  rw [hd]
  dsimp only
  rw [ho]
  dsimp only
  rw [if_pos ⟨hk, hc, h8⟩]
theorem RA.iald {a pc x y : Nat} {v : Value} {w j : Int32} {ts : List Nat} {o : Nat × (Nat → Int32)} {rest : List Value} (he : (m_code M)[i]? = some (pc, .iaload, x, y, v, ts)) (ho : pint h a = some o) (hj : 0 ≤ j ∧ j.toNatClampNeg < o.1) (hw : o.2 j.toNatClampNeg = w) (k : RA P E V (d + 1) M (i + 1) L (.int w :: rest) h res) : RA P E V (d + 1) M i L (.int j :: .ref a :: rest) h res :=
  RA.step0 he rfl rfl (by
    show (match pint h a with
      | some x => if 0 ≤ j ∧ j.toNatClampNeg < x.1 then pnx i L (.int (x.2 j.toNatClampNeg) :: rest) h else none
      | none => none) = _
    rw [ho]
    dsimp only
    rw [if_pos hj, hw]
    rfl) k
theorem RA.iast {a pc x y : Nat} {v : Value} {w j : Int32} {ts : List Nat} {o : Nat × (Nat → Int32)} {rest : List Value} (he : (m_code M)[i]? = some (pc, .iastore, x, y, v, ts)) (ho : pint h a = some o) (hj : 0 ≤ j ∧ j.toNatClampNeg < o.1) (k : RA P E V (d + 1) M (i + 1) L rest (h.set a (.inl (o.1, va_up o.2 j.toNatClampNeg w))) res) : RA P E V (d + 1) M i L (.int w :: .int j :: .ref a :: rest) h res :=
  RA.step0 he rfl rfl (by
    show (match pint h a with
      | some x => if 0 ≤ j ∧ j.toNatClampNeg < x.1 then pnx i L rest (h.set a (.inl (x.1, va_up x.2 j.toNatClampNeg w))) else none
      | none => none) = _
    rw [ho]
    dsimp only
    rw [if_pos hj]
    rfl) k
theorem RA.iinc {n pc x y : Nat} {z : Int} {v : Value} {a b : Int32} {ts : List Nat} (he : (m_code M)[i]? = some (pc, .iinc n z, x, y, v, ts)) (hv : pget L x = some (.int a)) (hb : a + Int32.ofInt z = b) (hp : pset L x (.int b) = some L') (k : RA P E V (d + 1) M (i + 1) L' st h res) : RA P E V (d + 1) M i L st h res :=
  RA.step0 he rfl rfl (by
    show (match pget L x with
      | some (.int a) => psto (pset L x (.int (a + Int32.ofInt z))) i st h
      | _ => none) = _
    rw [hv]
    dsimp only
    rw [hb, hp]
    rfl) k
theorem RA.mmin {n pc y : Nat} {v : Value} {a b w : Int32} {ts : List Nat} {rest : List Value} (he : (m_code M)[i]? = some (pc, .invokestatic n, 99991, y, v, ts)) (hP : pcall P (pc, .invokestatic n, 99991, y, v, ts) (.int b :: .int a :: rest) h = none) (h8 : pcs rest ≤ 8) (hw : (if b < a then b else a) = w) (k : RA P E V (d + 1) M (i + 1) L (.int w :: rest) h res) : RA P E V (d + 1) M i L (.int b :: .int a :: rest) h res :=
  RA.step0 he rfl hP (by
    show (if pcs rest ≤ 8 then pnx i L (.int (if b < a then b else a) :: rest) h else none) = _
    rw [if_pos h8, hw]
    rfl) k
end LPS
def cpN {α : Type} (N : Nat) (f g : Nat → α) : Nat → α := fun j => if j < N then f j else g j
theorem cpN_0 {α : Type} (f g : Nat → α) : cpN 0 f g = g := funext fun j => if_neg (Nat.not_lt_zero j)
theorem cpN_S {α : Type} (K : Nat) (f g : Nat → α) : va_up (cpN K f g) K (f K) = cpN (K + 1) f g := by
  funext j
  unfold va_up cpN
  by_cases e : j = K
  · subst e
    rw [if_pos rfl, if_pos (Nat.lt_succ_self _)]
  · rw [if_neg e]
    by_cases h : j < K
    · rw [if_pos h, if_pos (by omega)]
    · rw [if_neg h, if_neg (by omega)]
section CPY
variable {E : pX} {V : pV} {d : Nat} {fs : List Value}
theorem nI_lt31 (K : Nat) (h : K < 100000) : 0 ≤ nI K ∧ (nI K).toNatClampNeg = K := ⟨nI_pos' (by omega), nI_clamp (show K < 2 ^ 31 by omega)⟩
theorem laysBy_l {f g : Nat → Int32} (hfA : fs[0]? = some (.ref 111)) (hfB : fs[13]? = some (.ref 123)) : ∀ (m K : Nat) (h : List pC), K + m = 75 → pobj h 110 = some (8, fs) → pint h 111 = some (3075, f) → pint h 123 = some (75, cpN K f g) → RA prog E V (d + 1) mX8_laysBy 2 [some (.ref 110), some (.int (nI K))] [] h (none, h.set 123 (.inl (75, cpN 75 f g)), 0, 0) := by
  intro m
  induction m with
  | zero =>
    intro K h hK ho h1 h2
    obtain rfl : K = 75 := by omega
    refine RA.steps 2 rfl ?_
    refine RA.if2T rfl rfl ?_
    exact RA.to (RA.ret rfl rfl) (by rw [set_sameI h2])
  | succ m ih =>
    intro K h hK ho h1 h2
    have hK2 : K < 75 := by omega
    obtain ⟨k0, kc⟩ := nI_lt31 K (by omega)
    have key := ih (K + 1) (h.set 123 (.inl (75, va_up (cpN K f g) (nI K).toNatClampNeg (f (nI K).toNatClampNeg)))) (by omega) ((pobj_ne (by decide)).trans ho) ((pint_ne (by decide)).trans h1) (by rw [kc, cpN_S]; exact pint_set (pint_lt h2))
    rw [List.set_set] at key
    refine RA.steps 2 rfl ?_
    refine RA.if2F rfl (decide_eq_false (show ¬ nI 75 ≤ nI K from nI_ge hK2 (by omega))) ?_
    refine RA.steps 1 rfl ?_
    refine RA.getf rfl ho rfl hfB ?_
    refine RA.steps 2 rfl ?_
    refine RA.getf rfl ho rfl hfA ?_
    refine RA.steps 1 rfl ?_
    refine RA.iald rfl h1 ⟨k0, by rw [kc]; omega⟩ rfl ?_
    refine RA.iast rfl h2 ⟨k0, by rw [kc]; omega⟩ ?_
    refine RA.iinc rfl rfl (nI_1 K) rfl ?_
    refine RA.steps 1 rfl ?_
    exact key
theorem laysBy_x {f g : Nat → Int32} {h : List pC} (hfA : fs[0]? = some (.ref 111)) (hfB : fs[13]? = some (.ref 123)) (ho : pobj h 110 = some (8, fs)) (h1 : pint h 111 = some (3075, f)) (h2 : pint h 123 = some (75, g)) : Run prog E V (d + 1) mX8_laysBy [.ref 110] h (none, h.set 123 (.inl (75, cpN 75 f g)), 0, 0) := by
  refine ⟨Nat.le_of_ble_eq_true rfl, ⟨_, _, rfl⟩, ?_⟩
  refine RA.steps 2 rfl ?_
  exact laysBy_l hfA hfB 75 0 h (by omega) ho h1 (by rw [cpN_0]; exact h2)
theorem laysBack_l {f g : Nat → Int32} (hfA : fs[13]? = some (.ref 123)) (hfB : fs[0]? = some (.ref 111)) : ∀ (m K : Nat) (h : List pC), K + m = 75 → pobj h 110 = some (8, fs) → pint h 123 = some (75, f) → pint h 111 = some (3075, cpN K f g) → RA prog E V (d + 1) mX8_laysBack 2 [some (.ref 110), some (.int (nI K))] [] h (none, h.set 111 (.inl (3075, cpN 75 f g)), 0, 0) := by
  intro m
  induction m with
  | zero =>
    intro K h hK ho h1 h2
    obtain rfl : K = 75 := by omega
    refine RA.steps 2 rfl ?_
    refine RA.if2T rfl rfl ?_
    exact RA.to (RA.ret rfl rfl) (by rw [set_sameI h2])
  | succ m ih =>
    intro K h hK ho h1 h2
    have hK2 : K < 75 := by omega
    obtain ⟨k0, kc⟩ := nI_lt31 K (by omega)
    have key := ih (K + 1) (h.set 111 (.inl (3075, va_up (cpN K f g) (nI K).toNatClampNeg (f (nI K).toNatClampNeg)))) (by omega) ((pobj_ne (by decide)).trans ho) ((pint_ne (by decide)).trans h1) (by rw [kc, cpN_S]; exact pint_set (pint_lt h2))
    rw [List.set_set] at key
    refine RA.steps 2 rfl ?_
    refine RA.if2F rfl (decide_eq_false (show ¬ nI 75 ≤ nI K from nI_ge hK2 (by omega))) ?_
    refine RA.steps 1 rfl ?_
    refine RA.getf rfl ho rfl hfB ?_
    refine RA.steps 2 rfl ?_
    refine RA.getf rfl ho rfl hfA ?_
    refine RA.steps 1 rfl ?_
    refine RA.iald rfl h1 ⟨k0, by rw [kc]; omega⟩ rfl ?_
    refine RA.iast rfl h2 ⟨k0, by rw [kc]; omega⟩ ?_
    refine RA.iinc rfl rfl (nI_1 K) rfl ?_
    refine RA.steps 1 rfl ?_
    exact key
theorem laysBack_x {f g : Nat → Int32} {h : List pC} (hfA : fs[13]? = some (.ref 123)) (hfB : fs[0]? = some (.ref 111)) (ho : pobj h 110 = some (8, fs)) (h1 : pint h 123 = some (75, f)) (h2 : pint h 111 = some (3075, g)) : Run prog E V (d + 1) mX8_laysBack [.ref 110] h (none, h.set 111 (.inl (3075, cpN 75 f g)), 0, 0) := by
  refine ⟨Nat.le_of_ble_eq_true rfl, ⟨_, _, rfl⟩, ?_⟩
  refine RA.steps 2 rfl ?_
  exact laysBack_l hfA hfB 75 0 h (by omega) ho h1 (by rw [cpN_0]; exact h2)
theorem sa_l {this A B nA nB : Nat} {f g : Nat → Int32} (hAB : B ≠ A) (hA : 2875 ≤ nA) (hB : 2875 ≤ nB) : ∀ (m K : Nat) (h : List pC), K + m = 2875 → pint h A = some (nA, f) → pint h B = some (nB, cpN K f g) → RA prog E V (d + 1) mX8_setAside 2 [some (.ref this), some (.ref A), some (.ref B), some (.int (nI K))] [] h (none, h.set B (.inl (nB, cpN 2875 f g)), 0, 0) := by
  intro m
  induction m with
  | zero =>
    intro K h hK h1 h2
    obtain rfl : K = 2875 := by omega
    refine RA.steps 2 rfl ?_
    refine RA.if2T rfl rfl ?_
    exact RA.to (RA.ret rfl rfl) (by rw [set_sameI h2])
  | succ m ih =>
    intro K h hK h1 h2
    have hK2 : K < 2875 := by omega
    obtain ⟨k0, kc⟩ := nI_lt31 K (by omega)
    have key := ih (K + 1) (h.set B (.inl (nB, va_up (cpN K f g) (nI K).toNatClampNeg (f (nI K).toNatClampNeg)))) (by omega) ((pint_ne hAB).trans h1) (by rw [kc, cpN_S]; exact pint_set (pint_lt h2))
    rw [List.set_set] at key
    refine RA.steps 2 rfl ?_
    refine RA.if2F rfl (decide_eq_false (show ¬ nI 2875 ≤ nI K from nI_ge hK2 (by omega))) ?_
    refine RA.steps 4 rfl ?_
    refine RA.iald rfl h1 ⟨k0, by rw [kc]; omega⟩ rfl ?_
    refine RA.iast rfl h2 ⟨k0, by rw [kc]; omega⟩ ?_
    refine RA.iinc rfl rfl (nI_1 K) rfl ?_
    refine RA.steps 1 rfl ?_
    exact key
theorem sa_x {this A B nA nB : Nat} {f g : Nat → Int32} {h : List pC} (hAB : B ≠ A) (hA : 2875 ≤ nA) (hB : 2875 ≤ nB) (h1 : pint h A = some (nA, f)) (h2 : pint h B = some (nB, g)) : Run prog E V (d + 1) mX8_setAside [.ref this, .ref A, .ref B] h (none, h.set B (.inl (nB, cpN 2875 f g)), 0, 0) := by
  refine ⟨Nat.le_of_ble_eq_true rfl, ⟨_, _, rfl⟩, ?_⟩
  refine RA.steps 2 rfl ?_
  exact sa_l hAB hA hB 2875 0 h (by omega) h1 (by rw [cpN_0]; exact h2)
end CPY
end
section
/-! ===== parts of methods: from one place to others, by types of what lies in locals and on the stack ===== -/
abbrev lTy : Type := List (Option aA)
def ltG (L : pL) (ts : lTy) : Prop := L.length = ts.length ∧ ∀ (k : Nat) (p : Option aA), ts[k]? = some p → match p with
  | some q => ∃ w, pget L k = some w ∧ argG w q
  | none => pcat2 (pget L k) = false
def ltA : lTy → aG → aG × aL
  | [], Γ => (Γ, [])
  | none :: r, Γ => ((ltA r Γ).1, any7 :: (ltA r Γ).2)
  | some p :: r, Γ => ((ltA r (Γ ++ (argA p Γ.length).1)).1, (argA p Γ.length).2 :: (ltA r (Γ ++ (argA p Γ.length).1)).2)
def ltN (p : Option aA) : Bool := match p with
  | some q => noNull q
  | none => true
def ltB1 (Γ : aG) (x : AV) (p : Option aA) : Bool := match p with
  | some q => decide (x.1 ≠ 7) && argB Γ x q
  | none => !isL x
def ltB (Γ : aG) : aL → lTy → Bool
  | [], [] => true
  | x :: xs, p :: ps => ltB1 Γ x p && ltB Γ xs ps
  | _, _ => false
section SEG
variable {n0 : Nat} {σ0 : Nat → Int} {P : List pM} {E : pX} {V : pV} {T : List aT} {J : List pC → Prop} {W : aW} {KC : List (Nat × aK)} {tbl : aTb} {Post : Option Value → List pC → Prop} {h0 : List pC}
theorem vG.notL {n : Nat} {σ : Nat → Int} {w : Value} {p : aA} (h : argG w p) : pcat2 (some w) = false := by
  cases p with
  | inl q => obtain ⟨v, rfl, -⟩ := h; rfl
  | inr q => rcases h with h | ⟨a, -, rfl⟩
             · rw [h.2]; rfl
             · rfl
theorem ltA_le : ∀ (ts : lTy) (Γ : aG), Γ.length ≤ (ltA ts Γ).1.length
  | [], _ => Nat.le_refl _
  | none :: r, Γ => ltA_le r Γ
  | some p :: r, Γ => by
    have := ltA_le r (Γ ++ (argA p Γ.length).1)
    rw [List.length_append] at this
    rw [ltA]
    dsimp only
    omega
theorem ltG.tl {o : Option Value} {L : pL} {p : Option aA} {ts : lTy} (h : ltG (o :: L) (p :: ts)) : ltG L ts := ⟨Nat.succ.inj h.1, fun k q hk => by
  have := h.2 (k + 1) q hk
  rw [pget_consS] at this
  exact this⟩
theorem LG.cons {n : Nat} {σ : Nat → Int} {o : Option Value} {L : pL} {x : AV} {A : aL} (h1 : lG n σ o x) (h2 : LG n σ L A) : LG n σ (o :: L) (x :: A) := ⟨by rw [List.length_cons, List.length_cons, h2.1], fun k y hk => by
  match k, hk with
  | 0, hk => cases hk; exact h1
  | k + 1, hk =>
    rw [pget_consS]
    exact h2.2 k y hk⟩
theorem ltA_ok : ∀ {ts : lTy} {L : pL} {σ : Nat → Int} {Γ : aG}, gok σ Γ → ts.all ltN = true → ltG L ts → ∃ σ', agr Γ.length σ σ' ∧ gok σ' (ltA ts Γ).1 ∧ LG (ltA ts Γ).1.length σ' L (ltA ts Γ).2
  | [], [], σ, Γ, hg, _, _ => ⟨σ, agr.rf _ _, hg, rfl, fun k x hk => by simp [ltA] at hk⟩
  | [], _ :: _, _, _, _, _, h => by have := h.1; simp at this
  | _ :: _, [], _, _, _, _, h => by have := h.1; simp at this
  | none :: r, o :: L, σ, Γ, hg, hn, h => by
    rw [List.all_cons, Bool.and_eq_true] at hn
    obtain ⟨σ', a1, a2, a3⟩ := ltA_ok hg hn.2 h.tl
    exact ⟨σ', a1, a2, LG.cons (lG.any (h.2 0 none rfl)) a3⟩
  | some p :: r, o :: L, σ, Γ, hg, hn, h => by
    rw [List.all_cons, Bool.and_eq_true] at hn
    obtain ⟨w, hw, ha⟩ : ∃ w, pget (o :: L) 0 = some w ∧ argG w p := h.2 0 (some p) rfl
    obtain ⟨σ1, s1, s2, s3⟩ := argA_ok hg hn.1 ha
    obtain ⟨σ2, t1, t2, t3⟩ := ltA_ok s2 hn.2 h.tl
    have hle : Γ.length ≤ (Γ ++ (argA p Γ.length).1).length := by rw [List.length_append]; omega
    exact ⟨σ2, s1.tr (t1.le hle), t2, LG.cons (lG.of hw (s3.up (ltA_le r _) t1)) t3⟩
theorem ltB_ok {σ : Nat → Int} {Γ : aG} (hg : gok σ Γ) : ∀ {ts : lTy} {A : aL} {L : pL}, LG Γ.length σ L A → ltB Γ A ts = true → ltG L ts
  | [], [], L, h, _ => ⟨h.1, fun k p hk => by simp at hk⟩
  | p :: ts, x :: A, [], h, _ => by have := h.1; simp at this
  | p :: ts, x :: A, o :: L, h, hb => by
    rw [ltB, Bool.and_eq_true] at hb
    have ht : LG Γ.length σ L A := ⟨Nat.succ.inj h.1, fun k y hk => by
      have := h.2 (k + 1) y hk
      rw [pget_consS] at this
      exact this⟩
    have ih := ltB_ok hg ht hb.2
    refine ⟨by rw [List.length_cons, List.length_cons, ih.1], fun k q hk => ?_⟩
    match k, hk with
    | 0, hk =>
      cases hk
      cases p with
      | none =>
        have h1 : isL x = false := by
          have := hb.1
          unfold ltB1 at this
          simpa using this
        exact h.cat2 (k := 0) (x := x) rfl (of_decide_eq_false h1)
      | some q =>
        have h1 := hb.1
        unfold ltB1 at h1
        dsimp only at h1
        rw [Bool.and_eq_true] at h1
        obtain ⟨w, hw, hv⟩ := h.at (k := 0) (x := x) rfl (of_decide_eq_true h1.1)
        exact ⟨w, hw, argB_ok hg hv h1.2⟩
    | k + 1, hk =>
      have := ih.2 k q hk
      rw [pget_consS]
      exact this
  | [], _ :: _, _, _, hb => by cases hb
  | _ :: _, [], _, _, hb => by cases hb
/-- where a part may end: the place, what lies in the locals, on the stack -/
abbrev aEn : Type := Nat × lTy × List aA
def enB (ens : List aEn) : aSt := fun i S => ens.any (fun z => decide (z.1 = i) && ltB S.1 S.2.2.2.1 z.2.1 && argsB S.1 S.2.2.2.2 z.2.2)
def segchk (P : List pM) (T : List aT) (W : aW) (KC : List (Nat × aK)) (tbl : aTb) (f q k i : Nat) (sk : Bool) (lt : lTy) (st : List aA) (ens : List aEn) (ro : Option (Int × Int)) : Bool := match P[k]? with
  | some M => lt.all ltN && st.all noNull && decide (1 ≤ q) && aex P T W KC true tbl (enB ens) (chkR ro) f sk q k M i (ltA lt (argsA st []).1).1 [] [] (ltA lt (argsA st []).1).2 (argsA st []).2 [] []
  | none => false
theorem seg_ok {f q k i d : Nat} {sk : Bool} {lt : lTy} {sts : List aA} {ens : List aEn} {ro : Option (Int × Int)} {N : pM} {L : pL} {st : List Value} (hc : segchk P T W KC tbl f q k i sk lt sts ens ro = true) (hN : P[k]? = some N) (hK : ∀ k N c, KC.lookup k = some c → P[k]? = some N → KG P E V T J N c) (hJ : ∀ h, Fr W h0 h → J h) (hq : q ≤ d) (hL : ltG L lt) (hst : argsG st sts) (hh : HI T h0)
    (hret : ∀ r h', retG r ro → HI T h' → Fr W h0 h' → Post r h')
    (hen : ∀ z ∈ ens, ∀ (L' : pL) (st' : List Value) (h' : List pC), ltG L' z.2.1 → argsG st' z.2.2 → HI T h' → Fr W h0 h' → Gl P E V Post d N z.1 L' st' h' []) : Gl P E V Post d N i L st h0 [] := by
  unfold segchk at hc
  rw [hN] at hc
  dsimp only at hc
  rw [Bool.and_eq_true, Bool.and_eq_true, Bool.and_eq_true] at hc
  obtain ⟨⟨⟨c1, c2⟩, c3⟩, c4⟩ := hc
  obtain ⟨σ1, s1, s2, s3⟩ := argsA_ok (σ := fun _ => 0) (Γ := []) (fun k e hk => by simp at hk) c2 hst
  obtain ⟨σ2, t1, t2, t3⟩ := ltA_ok s2 c1 hL
  exact aex_ok (n0 := 0) (σ0 := fun _ => 0) (E := E) (V := V) (h0 := h0) (d0 := d) (M0 := N) (stp := enB ens) (chk := chkR ro) (J := J) (Post := Post) hJ hK
    (fun σ Γ C Δ x r h' hk _ hg _ _ hv hH hF => hret r h' (chkR_ok hk hg hv) hH hF)
    (fun i σ S L' st' h' hs g => by
      obtain ⟨z, hz, hz2⟩ := List.any_eq_true.mp hs
      rw [Bool.and_eq_true, Bool.and_eq_true] at hz2
      obtain ⟨⟨z1, z2⟩, z3⟩ := hz2
      obtain rfl := of_decide_eq_true z1
      exact hen z hz L' st' h' (ltB_ok g.2.1 g.2.2.2.2.1 z2) (argsB_ok g.2.1 g.2.2.2.2.2.1 z3) g.2.2.2.2.2.2.1 g.2.2.2.2.2.2.2) f sk q k N i _ [] [] _ _ [] [] c4 σ2 L st h0 d [] ⟨⟨Nat.zero_le _, fun k hk => absurd hk (Nat.not_lt_zero _)⟩, t2, (fun e he => by cases he), (fun e he => by cases he), t3, s3.up (ltA_le _ _) t1, hh, Fr.rf _ _⟩ hq (of_decide_eq_true c3) (fun x hx => by cases hx) ⟨rfl, rfl⟩
end SEG
end
section
/-! ===== contracts (printed by program) ===== -/
def HT : List aT := [.inr (.inr (7, [(5, 0, 0, 1), (5, 0, 0, 34), (5, 0, 0, 48), (5, 0, 0, 62), (5, 0, 0, 76), (5, 0, 0, 79), (5, 0, 0, 80), (5, 0, 0, 81), (0, (-2147483648), 2147483647, 0), (0, 0, 1, 0)])),
  .inr (.inr (1, [(5, 0, 0, 2), (5, 0, 0, 3), (5, 0, 0, 5), (0, (-2147483648), 2147483647, 0)])),
  .inr (.inl (0, 14, fun i => ([6, 8, 10, 12, 14, 16, 18, 20, 22, 24, 26, 28, 30, 32] : List Nat)[i]?)),
  .inr (.inr (0, [(5, 0, 0, 4), (0, (-2147483648), 2147483647, 0), (0, (-2147483648), 2147483647, 0), (0, (-2147483648), 2147483647, 0)])),
  .inl (96, []),
  .inl (96, []),
  .inr (.inr (0, [(5, 0, 0, 7), (0, (-2147483648), 2147483647, 0), (0, (-2147483648), 2147483647, 0), (0, (-2147483648), 2147483647, 0)])),
  .inl (96, []),
  .inr (.inr (0, [(5, 0, 0, 9), (0, (-2147483648), 2147483647, 0), (0, (-2147483648), 2147483647, 0), (0, (-2147483648), 2147483647, 0)])),
  .inl (96, []),
  .inr (.inr (0, [(5, 0, 0, 11), (0, (-2147483648), 2147483647, 0), (0, (-2147483648), 2147483647, 0), (0, (-2147483648), 2147483647, 0)])),
  .inl (96, []),
  .inr (.inr (0, [(5, 0, 0, 13), (0, (-2147483648), 2147483647, 0), (0, (-2147483648), 2147483647, 0), (0, (-2147483648), 2147483647, 0)])),
  .inl (96, []),
  .inr (.inr (0, [(5, 0, 0, 15), (0, (-2147483648), 2147483647, 0), (0, (-2147483648), 2147483647, 0), (0, (-2147483648), 2147483647, 0)])),
  .inl (96, []),
  .inr (.inr (0, [(5, 0, 0, 17), (0, (-2147483648), 2147483647, 0), (0, (-2147483648), 2147483647, 0), (0, (-2147483648), 2147483647, 0)])),
  .inl (96, []),
  .inr (.inr (0, [(5, 0, 0, 19), (0, (-2147483648), 2147483647, 0), (0, (-2147483648), 2147483647, 0), (0, (-2147483648), 2147483647, 0)])),
  .inl (96, []),
  .inr (.inr (0, [(5, 0, 0, 21), (0, (-2147483648), 2147483647, 0), (0, (-2147483648), 2147483647, 0), (0, (-2147483648), 2147483647, 0)])),
  .inl (96, []),
  .inr (.inr (0, [(5, 0, 0, 23), (0, (-2147483648), 2147483647, 0), (0, (-2147483648), 2147483647, 0), (0, (-2147483648), 2147483647, 0)])),
  .inl (96, []),
  .inr (.inr (0, [(5, 0, 0, 25), (0, (-2147483648), 2147483647, 0), (0, (-2147483648), 2147483647, 0), (0, (-2147483648), 2147483647, 0)])),
  .inl (96, []),
  .inr (.inr (0, [(5, 0, 0, 27), (0, (-2147483648), 2147483647, 0), (0, (-2147483648), 2147483647, 0), (0, (-2147483648), 2147483647, 0)])),
  .inl (96, []),
  .inr (.inr (0, [(5, 0, 0, 29), (0, (-2147483648), 2147483647, 0), (0, (-2147483648), 2147483647, 0), (0, (-2147483648), 2147483647, 0)])),
  .inl (96, []),
  .inr (.inr (0, [(5, 0, 0, 31), (0, (-2147483648), 2147483647, 0), (0, (-2147483648), 2147483647, 0), (0, (-2147483648), 2147483647, 0)])),
  .inl (96, []),
  .inr (.inr (0, [(5, 0, 0, 33), (0, (-2147483648), 2147483647, 0), (0, (-2147483648), 2147483647, 0), (0, (-2147483648), 2147483647, 0)])),
  .inl (96, []),
  .inr (.inr (6, [(5, 0, 0, 1), (5, 0, 0, 35), (5, 0, 0, 36), (5, 0, 0, 37), (5, 0, 0, 38), (0, 0, 9, 0), (0, (-2147483648), 2147483647, 0), (0, (-2147483648), 2147483647, 0), (0, (-2147483648), 2147483647, 0), (0, (-2147483648), 2147483647, 0)])),
  .inl (16, []),
  .inr (.inl (4, 9, fun i => ([39, 40, 41, 42, 43, 44, 45, 46, 47] : List Nat)[i]?)),
  .inl (9, []),
  .inl (3, []),
  .inr (.inr (4, [(0, (-2147483648), 2147483647, 0), (0, (-2147483648), 2147483647, 0), (0, 1, 8, 0), (0, (-2147483648), 2147483647, 0), (0, (-2147483648), 2147483647, 0), (0, (-2147483648), 2147483647, 0)])),
  .inr (.inr (4, [(0, (-2147483648), 2147483647, 0), (0, (-2147483648), 2147483647, 0), (0, 1, 8, 0), (0, (-2147483648), 2147483647, 0), (0, (-2147483648), 2147483647, 0), (0, (-2147483648), 2147483647, 0)])),
  .inr (.inr (4, [(0, (-2147483648), 2147483647, 0), (0, (-2147483648), 2147483647, 0), (0, 1, 8, 0), (0, (-2147483648), 2147483647, 0), (0, (-2147483648), 2147483647, 0), (0, (-2147483648), 2147483647, 0)])),
  .inr (.inr (4, [(0, (-2147483648), 2147483647, 0), (0, (-2147483648), 2147483647, 0), (0, 1, 8, 0), (0, (-2147483648), 2147483647, 0), (0, (-2147483648), 2147483647, 0), (0, (-2147483648), 2147483647, 0)])),
  .inr (.inr (4, [(0, (-2147483648), 2147483647, 0), (0, (-2147483648), 2147483647, 0), (0, 1, 8, 0), (0, (-2147483648), 2147483647, 0), (0, (-2147483648), 2147483647, 0), (0, (-2147483648), 2147483647, 0)])),
  .inr (.inr (4, [(0, (-2147483648), 2147483647, 0), (0, (-2147483648), 2147483647, 0), (0, 1, 8, 0), (0, (-2147483648), 2147483647, 0), (0, (-2147483648), 2147483647, 0), (0, (-2147483648), 2147483647, 0)])),
  .inr (.inr (4, [(0, (-2147483648), 2147483647, 0), (0, (-2147483648), 2147483647, 0), (0, 1, 8, 0), (0, (-2147483648), 2147483647, 0), (0, (-2147483648), 2147483647, 0), (0, (-2147483648), 2147483647, 0)])),
  .inr (.inr (4, [(0, (-2147483648), 2147483647, 0), (0, (-2147483648), 2147483647, 0), (0, 1, 8, 0), (0, (-2147483648), 2147483647, 0), (0, (-2147483648), 2147483647, 0), (0, (-2147483648), 2147483647, 0)])),
  .inr (.inr (4, [(0, (-2147483648), 2147483647, 0), (0, (-2147483648), 2147483647, 0), (0, 1, 8, 0), (0, (-2147483648), 2147483647, 0), (0, (-2147483648), 2147483647, 0), (0, (-2147483648), 2147483647, 0)])),
  .inr (.inr (6, [(5, 0, 0, 1), (5, 0, 0, 49), (5, 0, 0, 50), (5, 0, 0, 51), (5, 0, 0, 52), (0, 0, 9, 0), (0, (-2147483648), 2147483647, 0), (0, (-2147483648), 2147483647, 0), (0, (-2147483648), 2147483647, 0), (0, (-2147483648), 2147483647, 0)])),
  .inl (16, []),
  .inr (.inl (4, 9, fun i => ([53, 54, 55, 56, 57, 58, 59, 60, 61] : List Nat)[i]?)),
  .inl (9, []),
  .inl (3, []),
  .inr (.inr (4, [(0, (-2147483648), 2147483647, 0), (0, (-2147483648), 2147483647, 0), (0, 1, 8, 0), (0, (-2147483648), 2147483647, 0), (0, (-2147483648), 2147483647, 0), (0, (-2147483648), 2147483647, 0)])),
  .inr (.inr (4, [(0, (-2147483648), 2147483647, 0), (0, (-2147483648), 2147483647, 0), (0, 1, 8, 0), (0, (-2147483648), 2147483647, 0), (0, (-2147483648), 2147483647, 0), (0, (-2147483648), 2147483647, 0)])),
  .inr (.inr (4, [(0, (-2147483648), 2147483647, 0), (0, (-2147483648), 2147483647, 0), (0, 1, 8, 0), (0, (-2147483648), 2147483647, 0), (0, (-2147483648), 2147483647, 0), (0, (-2147483648), 2147483647, 0)])),
  .inr (.inr (4, [(0, (-2147483648), 2147483647, 0), (0, (-2147483648), 2147483647, 0), (0, 1, 8, 0), (0, (-2147483648), 2147483647, 0), (0, (-2147483648), 2147483647, 0), (0, (-2147483648), 2147483647, 0)])),
  .inr (.inr (4, [(0, (-2147483648), 2147483647, 0), (0, (-2147483648), 2147483647, 0), (0, 1, 8, 0), (0, (-2147483648), 2147483647, 0), (0, (-2147483648), 2147483647, 0), (0, (-2147483648), 2147483647, 0)])),
  .inr (.inr (4, [(0, (-2147483648), 2147483647, 0), (0, (-2147483648), 2147483647, 0), (0, 1, 8, 0), (0, (-2147483648), 2147483647, 0), (0, (-2147483648), 2147483647, 0), (0, (-2147483648), 2147483647, 0)])),
  .inr (.inr (4, [(0, (-2147483648), 2147483647, 0), (0, (-2147483648), 2147483647, 0), (0, 1, 8, 0), (0, (-2147483648), 2147483647, 0), (0, (-2147483648), 2147483647, 0), (0, (-2147483648), 2147483647, 0)])),
  .inr (.inr (4, [(0, (-2147483648), 2147483647, 0), (0, (-2147483648), 2147483647, 0), (0, 1, 8, 0), (0, (-2147483648), 2147483647, 0), (0, (-2147483648), 2147483647, 0), (0, (-2147483648), 2147483647, 0)])),
  .inr (.inr (4, [(0, (-2147483648), 2147483647, 0), (0, (-2147483648), 2147483647, 0), (0, 1, 8, 0), (0, (-2147483648), 2147483647, 0), (0, (-2147483648), 2147483647, 0), (0, (-2147483648), 2147483647, 0)])),
  .inr (.inr (6, [(5, 0, 0, 1), (5, 0, 0, 63), (5, 0, 0, 64), (5, 0, 0, 65), (5, 0, 0, 66), (0, 0, 9, 0), (0, (-2147483648), 2147483647, 0), (0, (-2147483648), 2147483647, 0), (0, (-2147483648), 2147483647, 0), (0, (-2147483648), 2147483647, 0)])),
  .inl (16, []),
  .inr (.inl (4, 9, fun i => ([67, 68, 69, 70, 71, 72, 73, 74, 75] : List Nat)[i]?)),
  .inl (9, []),
  .inl (3, []),
  .inr (.inr (4, [(0, (-2147483648), 2147483647, 0), (0, (-2147483648), 2147483647, 0), (0, 1, 8, 0), (0, (-2147483648), 2147483647, 0), (0, (-2147483648), 2147483647, 0), (0, (-2147483648), 2147483647, 0)])),
  .inr (.inr (4, [(0, (-2147483648), 2147483647, 0), (0, (-2147483648), 2147483647, 0), (0, 1, 8, 0), (0, (-2147483648), 2147483647, 0), (0, (-2147483648), 2147483647, 0), (0, (-2147483648), 2147483647, 0)])),
  .inr (.inr (4, [(0, (-2147483648), 2147483647, 0), (0, (-2147483648), 2147483647, 0), (0, 1, 8, 0), (0, (-2147483648), 2147483647, 0), (0, (-2147483648), 2147483647, 0), (0, (-2147483648), 2147483647, 0)])),
  .inr (.inr (4, [(0, (-2147483648), 2147483647, 0), (0, (-2147483648), 2147483647, 0), (0, 1, 8, 0), (0, (-2147483648), 2147483647, 0), (0, (-2147483648), 2147483647, 0), (0, (-2147483648), 2147483647, 0)])),
  .inr (.inr (4, [(0, (-2147483648), 2147483647, 0), (0, (-2147483648), 2147483647, 0), (0, 1, 8, 0), (0, (-2147483648), 2147483647, 0), (0, (-2147483648), 2147483647, 0), (0, (-2147483648), 2147483647, 0)])),
  .inr (.inr (4, [(0, (-2147483648), 2147483647, 0), (0, (-2147483648), 2147483647, 0), (0, 1, 8, 0), (0, (-2147483648), 2147483647, 0), (0, (-2147483648), 2147483647, 0), (0, (-2147483648), 2147483647, 0)])),
  .inr (.inr (4, [(0, (-2147483648), 2147483647, 0), (0, (-2147483648), 2147483647, 0), (0, 1, 8, 0), (0, (-2147483648), 2147483647, 0), (0, (-2147483648), 2147483647, 0), (0, (-2147483648), 2147483647, 0)])),
  .inr (.inr (4, [(0, (-2147483648), 2147483647, 0), (0, (-2147483648), 2147483647, 0), (0, 1, 8, 0), (0, (-2147483648), 2147483647, 0), (0, (-2147483648), 2147483647, 0), (0, (-2147483648), 2147483647, 0)])),
  .inr (.inr (4, [(0, (-2147483648), 2147483647, 0), (0, (-2147483648), 2147483647, 0), (0, 1, 8, 0), (0, (-2147483648), 2147483647, 0), (0, (-2147483648), 2147483647, 0), (0, (-2147483648), 2147483647, 0)])),
  .inr (.inr (2, [(5, 0, 0, 77), (0, (-2147483648), 2147483647, 0), (0, (-2147483648), 2147483647, 0), (0, (-2147483648), 2147483647, 0), (0, (-2147483648), 2147483647, 0), (0, 0, 1, 0), (5, 0, 0, 78), (0, (-2147483648), 2147483647, 0), (0, (-2147483648), 2147483647, 0), (0, (-2147483648), 2147483647, 0), (0, 0, 1, 0)])),
  .inl (96, []),
  .inl (96, []),
  .inr (.inl (3, 4, fun i => ([82, 84, 86, 88] : List Nat)[i]?)),
  .inr (.inl (5, 5, fun i => ([90, 94, 98, 102, 106] : List Nat)[i]?)),
  .inl (60, []),
  .inr (.inr (3, [(5, 0, 0, 83), (0, (-2147483648), 2147483647, 0), (0, (-2147483648), 2147483647, 0)])),
  .inl (24, []),
  .inr (.inr (3, [(5, 0, 0, 85), (0, (-2147483648), 2147483647, 0), (0, (-2147483648), 2147483647, 0)])),
  .inl (24, []),
  .inr (.inr (3, [(5, 0, 0, 87), (0, (-2147483648), 2147483647, 0), (0, (-2147483648), 2147483647, 0)])),
  .inl (24, []),
  .inr (.inr (3, [(5, 0, 0, 89), (0, (-2147483648), 2147483647, 0), (0, (-2147483648), 2147483647, 0)])),
  .inl (24, []),
  .inr (.inr (5, [(5, 0, 0, 91), (5, 0, 0, 92), (0, (-2147483648), 2147483647, 0), (0, (-2147483648), 2147483647, 0)])),
  .inr (.inr (4, [(0, (-2147483648), 2147483647, 0), (0, (-2147483648), 2147483647, 0), (0, 1, 8, 0), (0, (-2147483648), 2147483647, 0), (0, (-2147483648), 2147483647, 0), (0, (-2147483648), 2147483647, 0)])),
  .inr (.inr (3, [(5, 0, 0, 93), (0, (-2147483648), 2147483647, 0), (0, (-2147483648), 2147483647, 0)])),
  .inl (24, []),
  .inr (.inr (5, [(5, 0, 0, 95), (5, 0, 0, 96), (0, (-2147483648), 2147483647, 0), (0, (-2147483648), 2147483647, 0)])),
  .inr (.inr (4, [(0, (-2147483648), 2147483647, 0), (0, (-2147483648), 2147483647, 0), (0, 1, 8, 0), (0, (-2147483648), 2147483647, 0), (0, (-2147483648), 2147483647, 0), (0, (-2147483648), 2147483647, 0)])),
  .inr (.inr (3, [(5, 0, 0, 97), (0, (-2147483648), 2147483647, 0), (0, (-2147483648), 2147483647, 0)])),
  .inl (24, []),
  .inr (.inr (5, [(5, 0, 0, 99), (5, 0, 0, 100), (0, (-2147483648), 2147483647, 0), (0, (-2147483648), 2147483647, 0)])),
  .inr (.inr (4, [(0, (-2147483648), 2147483647, 0), (0, (-2147483648), 2147483647, 0), (0, 1, 8, 0), (0, (-2147483648), 2147483647, 0), (0, (-2147483648), 2147483647, 0), (0, (-2147483648), 2147483647, 0)])),
  .inr (.inr (3, [(5, 0, 0, 101), (0, (-2147483648), 2147483647, 0), (0, (-2147483648), 2147483647, 0)])),
  .inl (24, []),
  .inr (.inr (5, [(5, 0, 0, 103), (5, 0, 0, 104), (0, (-2147483648), 2147483647, 0), (0, (-2147483648), 2147483647, 0)])),
  .inr (.inr (4, [(0, (-2147483648), 2147483647, 0), (0, (-2147483648), 2147483647, 0), (0, 1, 8, 0), (0, (-2147483648), 2147483647, 0), (0, (-2147483648), 2147483647, 0), (0, (-2147483648), 2147483647, 0)])),
  .inr (.inr (3, [(5, 0, 0, 105), (0, (-2147483648), 2147483647, 0), (0, (-2147483648), 2147483647, 0)])),
  .inl (24, []),
  .inr (.inr (5, [(5, 0, 0, 107), (5, 0, 0, 108), (0, (-2147483648), 2147483647, 0), (0, (-2147483648), 2147483647, 0)])),
  .inr (.inr (4, [(0, (-2147483648), 2147483647, 0), (0, (-2147483648), 2147483647, 0), (0, 1, 8, 0), (0, (-2147483648), 2147483647, 0), (0, (-2147483648), 2147483647, 0), (0, (-2147483648), 2147483647, 0)])),
  .inr (.inr (3, [(5, 0, 0, 109), (0, (-2147483648), 2147483647, 0), (0, (-2147483648), 2147483647, 0)])),
  .inl (24, []),
  .inr (.inr (8, [(5, 0, 0, 111), (5, 0, 0, 112), (5, 0, 0, 113), (0, 0, 1, 0), (5, 0, 0, 114), (5, 0, 0, 115), (5, 0, 0, 116), (5, 0, 0, 117), (5, 0, 0, 118), (5, 0, 0, 119), (5, 0, 0, 120), (5, 0, 0, 121), (5, 0, 0, 122), (5, 0, 0, 123), (5, 0, 0, 124), (0, 0, 96, 0), (0, 0, 96, 0), (0, 0, 96, 0), (0, 0, 4, 0), (0, (-2147483648), 2147483647, 0), (0, (-2147483648), 2147483647, 0), (0, 0, 8, 0), (0, 0, 8, 0), (0, 0, 98, 0), (0, 79, 2875, 0), (0, (-2147483648), 2147483647, 0), (5, 0, 0, 125), (5, 0, 0, 126), (5, 0, 0, 127), (5, 0, 0, 128), (0, 0, 60, 0), (5, 0, 0, 129)])),
  .inl (3075, [(0, 0, 0, 9), (1, 1, 0, 14), (5, 20, 0, 3), (21, 21, 0, 5), (22, 22, 0, 65535), (23, 23, 0, 8), (24, 24, 0, 1), (25, 25, 0, 16), (26, 26, 0, 99), (27, 27, 0, 5), (28, 28, 0, 65535), (29, 29, 0, 8), (30, 30, 0, 1), (31, 31, 0, 16), (32, 32, 0, 99), (33, 33, 0, 5), (34, 34, 0, 65535), (35, 35, 0, 8), (36, 36, 0, 1), (37, 37, 0, 16), (38, 38, 0, 99), (39, 39, 0, 5), (40, 40, 0, 65535), (41, 41, 0, 8), (42, 42, 0, 1), (43, 43, 0, 16), (44, 44, 0, 99), (45, 45, 0, 5), (46, 46, 0, 65535), (47, 47, 0, 8), (48, 48, 0, 1), (49, 49, 0, 16), (50, 50, 0, 99), (51, 51, 0, 5), (52, 52, 0, 65535), (53, 53, 0, 8), (54, 54, 0, 1), (55, 55, 0, 16), (56, 56, 0, 99), (57, 57, 0, 5), (58, 58, 0, 65535), (59, 59, 0, 8), (60, 60, 0, 1), (61, 61, 0, 16), (62, 62, 0, 99), (63, 63, 0, 5), (64, 64, 0, 65535), (65, 65, 0, 8), (66, 66, 0, 1), (67, 67, 0, 16), (68, 68, 0, 99), (69, 69, 0, 5), (70, 70, 0, 65535), (71, 71, 0, 8), (72, 72, 0, 1), (73, 73, 0, 16), (74, 74, 0, 99)]),
  .inl (3075, [(0, 0, 0, 9), (1, 1, 0, 14), (5, 20, 0, 3), (21, 21, 0, 5), (22, 22, 0, 65535), (23, 23, 0, 8), (24, 24, 0, 1), (25, 25, 0, 16), (26, 26, 0, 99), (27, 27, 0, 5), (28, 28, 0, 65535), (29, 29, 0, 8), (30, 30, 0, 1), (31, 31, 0, 16), (32, 32, 0, 99), (33, 33, 0, 5), (34, 34, 0, 65535), (35, 35, 0, 8), (36, 36, 0, 1), (37, 37, 0, 16), (38, 38, 0, 99), (39, 39, 0, 5), (40, 40, 0, 65535), (41, 41, 0, 8), (42, 42, 0, 1), (43, 43, 0, 16), (44, 44, 0, 99), (45, 45, 0, 5), (46, 46, 0, 65535), (47, 47, 0, 8), (48, 48, 0, 1), (49, 49, 0, 16), (50, 50, 0, 99), (51, 51, 0, 5), (52, 52, 0, 65535), (53, 53, 0, 8), (54, 54, 0, 1), (55, 55, 0, 16), (56, 56, 0, 99), (57, 57, 0, 5), (58, 58, 0, 65535), (59, 59, 0, 8), (60, 60, 0, 1), (61, 61, 0, 16), (62, 62, 0, 99), (63, 63, 0, 5), (64, 64, 0, 65535), (65, 65, 0, 8), (66, 66, 0, 1), (67, 67, 0, 16), (68, 68, 0, 99), (69, 69, 0, 5), (70, 70, 0, 65535), (71, 71, 0, 8), (72, 72, 0, 1), (73, 73, 0, 16), (74, 74, 0, 99)]),
  .inl (3075, [(0, 0, 0, 9), (1, 1, 0, 14), (5, 20, 0, 3), (21, 21, 0, 5), (22, 22, 0, 65535), (23, 23, 0, 8), (24, 24, 0, 1), (25, 25, 0, 16), (26, 26, 0, 99), (27, 27, 0, 5), (28, 28, 0, 65535), (29, 29, 0, 8), (30, 30, 0, 1), (31, 31, 0, 16), (32, 32, 0, 99), (33, 33, 0, 5), (34, 34, 0, 65535), (35, 35, 0, 8), (36, 36, 0, 1), (37, 37, 0, 16), (38, 38, 0, 99), (39, 39, 0, 5), (40, 40, 0, 65535), (41, 41, 0, 8), (42, 42, 0, 1), (43, 43, 0, 16), (44, 44, 0, 99), (45, 45, 0, 5), (46, 46, 0, 65535), (47, 47, 0, 8), (48, 48, 0, 1), (49, 49, 0, 16), (50, 50, 0, 99), (51, 51, 0, 5), (52, 52, 0, 65535), (53, 53, 0, 8), (54, 54, 0, 1), (55, 55, 0, 16), (56, 56, 0, 99), (57, 57, 0, 5), (58, 58, 0, 65535), (59, 59, 0, 8), (60, 60, 0, 1), (61, 61, 0, 16), (62, 62, 0, 99), (63, 63, 0, 5), (64, 64, 0, 65535), (65, 65, 0, 8), (66, 66, 0, 1), (67, 67, 0, 16), (68, 68, 0, 99), (69, 69, 0, 5), (70, 70, 0, 65535), (71, 71, 0, 8), (72, 72, 0, 1), (73, 73, 0, 16), (74, 74, 0, 99)]),
  .inl (4, [(0, 3, (-1), 1)]),
  .inl (4, [(0, 3, 0, 24)]),
  .inl (96, []),
  .inl (5, [(0, 4, 0, 3)]),
  .inl (5, []),
  .inl (5, []),
  .inl (5, [(0, 4, 0, 24)]),
  .inl (120, []),
  .inl (9, []),
  .inl (75, [(0, 0, 0, 9), (1, 1, 0, 14), (5, 20, 0, 3), (21, 21, 0, 5), (22, 22, 0, 65535), (23, 23, 0, 8), (24, 24, 0, 1), (25, 25, 0, 16), (26, 26, 0, 99), (27, 27, 0, 5), (28, 28, 0, 65535), (29, 29, 0, 8), (30, 30, 0, 1), (31, 31, 0, 16), (32, 32, 0, 99), (33, 33, 0, 5), (34, 34, 0, 65535), (35, 35, 0, 8), (36, 36, 0, 1), (37, 37, 0, 16), (38, 38, 0, 99), (39, 39, 0, 5), (40, 40, 0, 65535), (41, 41, 0, 8), (42, 42, 0, 1), (43, 43, 0, 16), (44, 44, 0, 99), (45, 45, 0, 5), (46, 46, 0, 65535), (47, 47, 0, 8), (48, 48, 0, 1), (49, 49, 0, 16), (50, 50, 0, 99), (51, 51, 0, 5), (52, 52, 0, 65535), (53, 53, 0, 8), (54, 54, 0, 1), (55, 55, 0, 16), (56, 56, 0, 99), (57, 57, 0, 5), (58, 58, 0, 65535), (59, 59, 0, 8), (60, 60, 0, 1), (61, 61, 0, 16), (62, 62, 0, 99), (63, 63, 0, 5), (64, 64, 0, 65535), (65, 65, 0, 8), (66, 66, 0, 1), (67, 67, 0, 16), (68, 68, 0, 99), (69, 69, 0, 5), (70, 70, 0, 65535), (71, 71, 0, 8), (72, 72, 0, 1), (73, 73, 0, 16), (74, 74, 0, 99)]),
  .inl (96, [(0, 95, 0, 255)]),
  .inl (128, []),
  .inl (100, []),
  .inl (24, []),
  .inl (60, []),
  .inl (60, [])]
def k_covers : aK := ([.inr (false, [39, 40, 41, 42, 43, 44, 45, 46, 47, 67, 68, 69, 70, 71, 72, 73, 74, 75, 91, 95, 99, 103, 107, 53, 54, 55, 56, 57, 58, 59, 60, 61]), .inl ((-2147483648), 2147483647)], some (0, 1), [], 8)
def tb_covers : aTb := fun mi i => none
def kc_covers : List (Nat × aK) := []
def k_sayAt : aK := ([.inr (false, [39, 40, 41, 42, 43, 44, 45, 46, 47, 67, 68, 69, 70, 71, 72, 73, 74, 75, 91, 95, 99, 103, 107, 53, 54, 55, 56, 57, 58, 59, 60, 61]), .inl ((-2147483648), 2147483647)], some ((-2147483648), 2147483647), [], 8)
def tb_sayAt : aTb := fun mi i => none
def kc_sayAt : List (Nat × aK) := []
def k_value : aK := ([.inr (false, [39, 40, 41, 42, 43, 44, 45, 46, 47, 67, 68, 69, 70, 71, 72, 73, 74, 75, 91, 95, 99, 103, 107, 53, 54, 55, 56, 57, 58, 59, 60, 61]), .inl ((-2147483648), 2147483647)], some ((-2147483648), 2147483647), [], 8)
def tb_value : aTb := fun mi i => none
def kc_value : List (Nat × aK) := []
def k_gainOver : aK := ([.inr (false, [39, 40, 41, 42, 43, 44, 45, 46, 47, 67, 68, 69, 70, 71, 72, 73, 74, 75, 91, 95, 99, 103, 107, 53, 54, 55, 56, 57, 58, 59, 60, 61]), .inl ((-2147483648), 2147483647)], some ((-2147483648), 2147483647), [], 8)
def tb_gainOver : aTb := fun mi i => none
def kc_gainOver : List (Nat × aK) := []
def k_loss : aK := ([.inr (false, [39, 40, 41, 42, 43, 44, 45, 46, 47, 67, 68, 69, 70, 71, 72, 73, 74, 75, 91, 95, 99, 103, 107, 53, 54, 55, 56, 57, 58, 59, 60, 61])], some ((-2147483648), 2147483647), [], 8)
def tb_loss : aTb := fun mi i => none
def kc_loss : List (Nat × aK) := []
def k_worth : aK := ([.inr (false, [39, 40, 41, 42, 43, 44, 45, 46, 47, 67, 68, 69, 70, 71, 72, 73, 74, 75, 91, 95, 99, 103, 107, 53, 54, 55, 56, 57, 58, 59, 60, 61])], some ((-2147483648), 2147483647), [], 8)
def tb_worth : aTb := fun mi i => none
def kc_worth : List (Nat × aK) := []
def k_covered : aK := ([.inr (false, [39, 40, 41, 42, 43, 44, 45, 46, 47, 67, 68, 69, 70, 71, 72, 73, 74, 75, 91, 95, 99, 103, 107, 53, 54, 55, 56, 57, 58, 59, 60, 61])], some ((-2147483648), 2147483647), [], 12)
def tb_covered : aTb := fun mi i => if mi = 49 ∧ i = 4 then some ([((-2147483648), 2147483647, .inl 1), (0, 2147483647, .inl 2)], [], [], [], 1, true) else none
def kc_covered : List (Nat × aK) := [(48, k_covers)]
def k_joined : aK := ([.inr (false, [39, 40, 41, 42, 43, 44, 45, 46, 47, 67, 68, 69, 70, 71, 72, 73, 74, 75, 91, 95, 99, 103, 107, 53, 54, 55, 56, 57, 58, 59, 60, 61]), .inr (false, [39, 40, 41, 42, 43, 44, 45, 46, 47, 67, 68, 69, 70, 71, 72, 73, 74, 75, 91, 95, 99, 103, 107, 53, 54, 55, 56, 57, 58, 59, 60, 61]), .inl (0, 2147483647)], some ((-2147483648), 2147483647), [], 12)
def tb_joined : aTb := fun mi i => if mi = 57 ∧ i = 4 then some ([((-2147483648), 2147483647, .inl 3), (0, 2147483647, .inl 4)], [], [], [], 1, true) else none
def kc_joined : List (Nat × aK) := [(50, k_sayAt)]
def k_clashes : aK := ([.inr (false, [39, 40, 41, 42, 43, 44, 45, 46, 47, 67, 68, 69, 70, 71, 72, 73, 74, 75, 91, 95, 99, 103, 107, 53, 54, 55, 56, 57, 58, 59, 60, 61]), .inr (false, [39, 40, 41, 42, 43, 44, 45, 46, 47, 67, 68, 69, 70, 71, 72, 73, 74, 75, 91, 95, 99, 103, 107, 53, 54, 55, 56, 57, 58, 59, 60, 61])], some (0, 1), [], 12)
def tb_clashes : aTb := fun mi i => if mi = 58 ∧ i = 2 then some ([(0, 2147483647, .inl 2)], [], [], [], 0, true) else none
def kc_clashes : List (Nat × aK) := [(48, k_covers), (50, k_sayAt)]
def k_workedR34 : aK := ([.inr (false, [1]), .inr (false, [6, 8, 10, 12, 14, 16, 18, 20, 22, 24, 26, 28, 30, 32]), .inr (false, [34]), .inr (false, [39, 40, 41, 42, 43, 44, 45, 46, 47])], some ((-2147483648), 2147483647), [(5, 5, 0, 95), (1, 1, 3, 3)], 14)
def tb_workedR34 : aTb := fun mi i => if mi = 7 ∧ i = 5 then some ([(0, 2147483647, .inl 4)], [], [5, 6], [(5, 5, 0, 95), (1, 1, 3, 3)], 0, true) else none
def kc_workedR34 : List (Nat × aK) := []
def k_workedR62 : aK := ([.inr (false, [1]), .inr (false, [6, 8, 10, 12, 14, 16, 18, 20, 22, 24, 26, 28, 30, 32]), .inr (false, [62]), .inr (false, [67, 68, 69, 70, 71, 72, 73, 74, 75])], some ((-2147483648), 2147483647), [(5, 5, 0, 95), (1, 1, 3, 3)], 14)
def tb_workedR62 : aTb := fun mi i => if mi = 7 ∧ i = 5 then some ([(0, 2147483647, .inl 4)], [], [5, 6], [(5, 5, 0, 95), (1, 1, 3, 3)], 0, true) else none
def kc_workedR62 : List (Nat × aK) := []
def k_workedN34 : aK := ([.inr (false, [1]), .inr (false, [6, 8, 10, 12, 14, 16, 18, 20, 22, 24, 26, 28, 30, 32]), .inr (false, [34]), .inr (true, [])], some ((-2147483648), 2147483647), [(5, 5, 0, 95), (1, 1, 3, 3)], 14)
def tb_workedN34 : aTb := fun mi i => if mi = 7 ∧ i = 5 then some ([(0, 2147483647, .inl 4)], [], [5, 6], [(5, 5, 0, 95), (1, 1, 3, 3)], 0, true) else none
def kc_workedN34 : List (Nat × aK) := []
def k_falsehood34 : aK := ([.inr (false, [34]), .inr (false, [39, 40, 41, 42, 43, 44, 45, 46, 47]), .inl (0, 15)], some ((-2147483648), 2147483647), [], 14)
def tb_falsehood34 : aTb := fun mi i => if mi = 70 ∧ i = 4 then some ([((-2147483648), 2147483647, .inl 3), (0, 2147483647, .inl 4)], [], [], [], 1, true) else none
def kc_falsehood34 : List (Nat × aK) := [(48, k_covers), (50, k_sayAt), (44, k_value), (54, k_gainOver), (55, k_loss), (56, k_worth), (49, k_covered), (57, k_joined), (58, k_clashes)]
def k_trustOfAll34 : aK := ([.inr (false, [34])], some ((-2147483648), 2147483647), [], 14)
def tb_trustOfAll34 : aTb := fun mi i => if mi = 71 ∧ i = 4 then some ([((-2147483648), 2147483647, .inl 1), (0, 2147483647, .inl 2)], [], [], [], 1, true) else none
def kc_trustOfAll34 : List (Nat × aK) := [(48, k_covers), (50, k_sayAt), (44, k_value), (54, k_gainOver), (55, k_loss), (56, k_worth), (49, k_covered), (57, k_joined), (58, k_clashes)]
def k_laidSet34 : aK := ([.inr (false, [34])], some ((-2147483648), 2147483647), [], 14)
def tb_laidSet34 : aTb := fun mi i => if mi = 72 ∧ i = 4 then some ([((-2147483648), 2147483647, .inl 1), (0, 2147483647, .inl 2)], [], [3], [], 1, true) else none
def kc_laidSet34 : List (Nat × aK) := [(48, k_covers), (50, k_sayAt), (44, k_value), (54, k_gainOver), (55, k_loss), (56, k_worth), (49, k_covered), (57, k_joined), (58, k_clashes)]
def k_coveredBy34 : aK := ([.inr (false, [34]), .inl ((-2147483648), 2147483647)], some ((-2147483648), 2147483647), [], 16)
def tb_coveredBy34 : aTb := fun mi i => if mi = 73 ∧ i = 4 then some ([((-2147483648), 2147483647, .inl 2), (0, 2147483647, .inl 3)], [], [4], [], 1, true) else none
def kc_coveredBy34 : List (Nat × aK) := [(48, k_covers), (50, k_sayAt), (44, k_value), (54, k_gainOver), (55, k_loss), (56, k_worth), (49, k_covered), (57, k_joined), (58, k_clashes)]
def k_deniers34 : aK := ([.inr (false, [34]), .inl ((-2147483648), 2147483647)], some ((-2147483648), 2147483647), [], 16)
def tb_deniers34 : aTb := fun mi i => if mi = 77 ∧ i = 4 then some ([((-2147483648), 2147483647, .inl 2), (0, 2147483647, .inl 3)], [], [4], [], 1, true) else none
def kc_deniers34 : List (Nat × aK) := [(48, k_covers), (50, k_sayAt), (44, k_value), (54, k_gainOver), (55, k_loss), (56, k_worth), (49, k_covered), (57, k_joined), (58, k_clashes)]
def k_gainOf34 : aK := ([.inr (false, [34]), .inr (false, [39, 40, 41, 42, 43, 44, 45, 46, 47])], some ((-2147483648), 2147483647), [(5, 5, 0, 95), (1, 1, 3, 3)], 20)
def tb_gainOf34 : aTb := fun mi i => none
def kc_gainOf34 : List (Nat × aK) := [(48, k_covers), (50, k_sayAt), (44, k_value), (54, k_gainOver), (55, k_loss), (56, k_worth), (49, k_covered), (57, k_joined), (58, k_clashes), (7, k_workedR34)]
def k_seeAgain34 : aK := ([.inr (false, [34]), .inr (false, [39, 40, 41, 42, 43, 44, 45, 46, 47]), .inl ((-2147483648), 2147483647)], none, [(5, 5, 0, 95), (1, 1, 3, 3), (34, 34, 8, 8), (39, 47, 0, 5)], 24)
def tb_seeAgain34 : aTb := fun mi i => none
def kc_seeAgain34 : List (Nat × aK) := [(48, k_covers), (50, k_sayAt), (44, k_value), (54, k_gainOver), (55, k_loss), (56, k_worth), (49, k_covered), (57, k_joined), (58, k_clashes), (80, k_gainOf34)]
def k_flow34 : aK := ([.inr (false, [34]), .inl ((-2147483648), 2147483647)], none, [(5, 5, 0, 95), (1, 1, 3, 3), (34, 34, 7, 9), (39, 47, 0, 5)], 30)
def tb_flow34 : aTb := fun mi i => if mi = 78 ∧ i = 2 then some ([(0, 2147483647, .inl 2)], [], [3, 4, 5], [(5, 5, 0, 95), (1, 1, 3, 3), (34, 34, 7, 9), (39, 47, 0, 5)], 0, true) else if mi = 78 ∧ i = 12 then some ([(0, 2147483647, .inl 4)], [], [5], [(5, 5, 0, 95), (1, 1, 3, 3), (34, 34, 7, 9), (39, 47, 0, 5)], 0, true) else none
def kc_flow34 : List (Nat × aK) := [(48, k_covers), (50, k_sayAt), (44, k_value), (54, k_gainOver), (55, k_loss), (56, k_worth), (49, k_covered), (57, k_joined), (58, k_clashes), (79, k_seeAgain34)]
def k_falsehood62 : aK := ([.inr (false, [62]), .inr (false, [67, 68, 69, 70, 71, 72, 73, 74, 75]), .inl (0, 15)], some ((-2147483648), 2147483647), [], 14)
def tb_falsehood62 : aTb := fun mi i => if mi = 70 ∧ i = 4 then some ([((-2147483648), 2147483647, .inl 3), (0, 2147483647, .inl 4)], [], [], [], 1, true) else none
def kc_falsehood62 : List (Nat × aK) := [(48, k_covers), (50, k_sayAt), (44, k_value), (54, k_gainOver), (55, k_loss), (56, k_worth), (49, k_covered), (57, k_joined), (58, k_clashes)]
def k_trustOfAll62 : aK := ([.inr (false, [62])], some ((-2147483648), 2147483647), [], 14)
def tb_trustOfAll62 : aTb := fun mi i => if mi = 71 ∧ i = 4 then some ([((-2147483648), 2147483647, .inl 1), (0, 2147483647, .inl 2)], [], [], [], 1, true) else none
def kc_trustOfAll62 : List (Nat × aK) := [(48, k_covers), (50, k_sayAt), (44, k_value), (54, k_gainOver), (55, k_loss), (56, k_worth), (49, k_covered), (57, k_joined), (58, k_clashes)]
def k_laidSet62 : aK := ([.inr (false, [62])], some ((-2147483648), 2147483647), [], 14)
def tb_laidSet62 : aTb := fun mi i => if mi = 72 ∧ i = 4 then some ([((-2147483648), 2147483647, .inl 1), (0, 2147483647, .inl 2)], [], [3], [], 1, true) else none
def kc_laidSet62 : List (Nat × aK) := [(48, k_covers), (50, k_sayAt), (44, k_value), (54, k_gainOver), (55, k_loss), (56, k_worth), (49, k_covered), (57, k_joined), (58, k_clashes)]
def k_coveredBy62 : aK := ([.inr (false, [62]), .inl ((-2147483648), 2147483647)], some ((-2147483648), 2147483647), [], 16)
def tb_coveredBy62 : aTb := fun mi i => if mi = 73 ∧ i = 4 then some ([((-2147483648), 2147483647, .inl 2), (0, 2147483647, .inl 3)], [], [4], [], 1, true) else none
def kc_coveredBy62 : List (Nat × aK) := [(48, k_covers), (50, k_sayAt), (44, k_value), (54, k_gainOver), (55, k_loss), (56, k_worth), (49, k_covered), (57, k_joined), (58, k_clashes)]
def k_deniers62 : aK := ([.inr (false, [62]), .inl ((-2147483648), 2147483647)], some ((-2147483648), 2147483647), [], 16)
def tb_deniers62 : aTb := fun mi i => if mi = 77 ∧ i = 4 then some ([((-2147483648), 2147483647, .inl 2), (0, 2147483647, .inl 3)], [], [4], [], 1, true) else none
def kc_deniers62 : List (Nat × aK) := [(48, k_covers), (50, k_sayAt), (44, k_value), (54, k_gainOver), (55, k_loss), (56, k_worth), (49, k_covered), (57, k_joined), (58, k_clashes)]
def k_gainOf62 : aK := ([.inr (false, [62]), .inr (false, [67, 68, 69, 70, 71, 72, 73, 74, 75])], some ((-2147483648), 2147483647), [(5, 5, 0, 95), (1, 1, 3, 3)], 20)
def tb_gainOf62 : aTb := fun mi i => none
def kc_gainOf62 : List (Nat × aK) := [(48, k_covers), (50, k_sayAt), (44, k_value), (54, k_gainOver), (55, k_loss), (56, k_worth), (49, k_covered), (57, k_joined), (58, k_clashes), (7, k_workedR62)]
def k_seeAgain62 : aK := ([.inr (false, [62]), .inr (false, [67, 68, 69, 70, 71, 72, 73, 74, 75]), .inl ((-2147483648), 2147483647)], none, [(5, 5, 0, 95), (1, 1, 3, 3), (62, 62, 8, 8), (67, 75, 0, 5)], 24)
def tb_seeAgain62 : aTb := fun mi i => none
def kc_seeAgain62 : List (Nat × aK) := [(48, k_covers), (50, k_sayAt), (44, k_value), (54, k_gainOver), (55, k_loss), (56, k_worth), (49, k_covered), (57, k_joined), (58, k_clashes), (80, k_gainOf62)]
def k_flow62 : aK := ([.inr (false, [62]), .inl ((-2147483648), 2147483647)], none, [(5, 5, 0, 95), (1, 1, 3, 3), (62, 62, 7, 9), (67, 75, 0, 5)], 30)
def tb_flow62 : aTb := fun mi i => if mi = 78 ∧ i = 2 then some ([(0, 2147483647, .inl 2)], [], [3, 4, 5], [(5, 5, 0, 95), (1, 1, 3, 3), (62, 62, 7, 9), (67, 75, 0, 5)], 0, true) else if mi = 78 ∧ i = 12 then some ([(0, 2147483647, .inl 4)], [], [5], [(5, 5, 0, 95), (1, 1, 3, 3), (62, 62, 7, 9), (67, 75, 0, 5)], 0, true) else none
def kc_flow62 : List (Nat × aK) := [(48, k_covers), (50, k_sayAt), (44, k_value), (54, k_gainOver), (55, k_loss), (56, k_worth), (49, k_covered), (57, k_joined), (58, k_clashes), (79, k_seeAgain62)]
def k_take62_34 : aK := ([.inr (false, [62]), .inr (false, [34])], none, [(62, 62, 5, 9), (63, 63, 0, 15), (66, 66, 0, 2), (67, 75, 0, 5)], 16)
def tb_take62_34 : aTb := fun mi i => if mi = 61 ∧ i = 38 then some ([(0, 2147483647, .inl 2)], [], [3], [(62, 62, 5, 9), (63, 63, 0, 15), (66, 66, 0, 2), (67, 75, 0, 5)], 0, true) else none
def kc_take62_34 : List (Nat × aK) := [(48, k_covers), (50, k_sayAt), (44, k_value), (54, k_gainOver), (55, k_loss), (56, k_worth), (49, k_covered), (57, k_joined), (58, k_clashes)]
def k_take62_48 : aK := ([.inr (false, [62]), .inr (false, [48])], none, [(62, 62, 5, 9), (63, 63, 0, 15), (66, 66, 0, 2), (67, 75, 0, 5)], 16)
def tb_take62_48 : aTb := fun mi i => if mi = 61 ∧ i = 38 then some ([(0, 2147483647, .inl 2)], [], [3], [(62, 62, 5, 9), (63, 63, 0, 15), (66, 66, 0, 2), (67, 75, 0, 5)], 0, true) else none
def kc_take62_48 : List (Nat × aK) := [(48, k_covers), (50, k_sayAt), (44, k_value), (54, k_gainOver), (55, k_loss), (56, k_worth), (49, k_covered), (57, k_joined), (58, k_clashes)]
def k_take48_34 : aK := ([.inr (false, [48]), .inr (false, [34])], none, [(48, 48, 5, 9), (49, 49, 0, 15), (52, 52, 0, 2), (53, 61, 0, 5)], 16)
def tb_take48_34 : aTb := fun mi i => if mi = 61 ∧ i = 38 then some ([(0, 2147483647, .inl 2)], [], [3], [(48, 48, 5, 9), (49, 49, 0, 15), (52, 52, 0, 2), (53, 61, 0, 5)], 0, true) else none
def kc_take48_34 : List (Nat × aK) := [(48, k_covers), (50, k_sayAt), (44, k_value), (54, k_gainOver), (55, k_loss), (56, k_worth), (49, k_covered), (57, k_joined), (58, k_clashes)]
def k_take34_48 : aK := ([.inr (false, [34]), .inr (false, [48])], none, [(34, 34, 5, 9), (35, 35, 0, 15), (38, 38, 0, 2), (39, 47, 0, 5)], 16)
def tb_take34_48 : aTb := fun mi i => if mi = 61 ∧ i = 38 then some ([(0, 2147483647, .inl 2)], [], [3], [(34, 34, 5, 9), (35, 35, 0, 15), (38, 38, 0, 2), (39, 47, 0, 5)], 0, true) else none
def kc_take34_48 : List (Nat × aK) := [(48, k_covers), (50, k_sayAt), (44, k_value), (54, k_gainOver), (55, k_loss), (56, k_worth), (49, k_covered), (57, k_joined), (58, k_clashes)]
def k_noteClashes : aK := ([.inr (false, [34])], none, [(37, 37, 0, 8)], 18)
def tb_noteClashes : aTb := fun mi i => if mi = 75 ∧ i = 2 then some ([(0, 2147483647, .inl 1)], [], [2, 3, 4], [(37, 37, 0, 8)], 0, true) else if mi = 75 ∧ i = 22 then some ([(0, 2147483647, .inl 3)], [], [4], [(37, 37, 0, 8)], 0, true) else none
def kc_noteClashes : List (Nat × aK) := [(48, k_covers), (50, k_sayAt), (44, k_value), (54, k_gainOver), (55, k_loss), (56, k_worth), (49, k_covered), (57, k_joined), (58, k_clashes)]
def k_anyClash : aK := ([.inr (false, [34]), .inl ((-2147483648), 2147483647)], some (0, 1), [], 18)
def tb_anyClash : aTb := fun mi i => if mi = 76 ∧ i = 2 then some ([(0, 2147483647, .inl 2)], [], [], [], 0, true) else none
def kc_anyClash : List (Nat × aK) := []
def k_c_rubbing : aK := ([.inr (false, [0]), .inl ((-2147483648), 2147483647), .inl ((-2147483648), 2147483647), .inl ((-2147483648), 2147483647)], some ((-2147483648), 2147483647), [(34, 34, 5, 9), (35, 35, 0, 15), (38, 38, 0, 2), (39, 47, 0, 5)], 50)
def tb_c_rubbing : aTb := fun mi i => none
def kc_c_rubbing : List (Nat × aK) := [(48, k_covers), (50, k_sayAt), (44, k_value), (54, k_gainOver), (55, k_loss), (56, k_worth), (49, k_covered), (57, k_joined), (58, k_clashes), (70, k_falsehood34), (71, k_trustOfAll34), (72, k_laidSet34), (73, k_coveredBy34), (77, k_deniers34), (80, k_gainOf34), (78, k_flow34), (75, k_noteClashes), (76, k_anyClash)]
def k_c_told : aK := ([.inr (false, [0]), .inl ((-2147483648), 2147483647), .inl ((-2147483648), 2147483647)], some ((-2147483648), 2147483647), [(5, 5, 0, 95), (1, 1, 3, 3)], 50)
def tb_c_told : aTb := fun mi i => none
def kc_c_told : List (Nat × aK) := [(48, k_covers), (50, k_sayAt), (44, k_value), (54, k_gainOver), (55, k_loss), (56, k_worth), (49, k_covered), (57, k_joined), (58, k_clashes), (70, k_falsehood34), (71, k_trustOfAll34), (72, k_laidSet34), (73, k_coveredBy34), (77, k_deniers34), (80, k_gainOf34), (78, k_flow34), (75, k_noteClashes), (76, k_anyClash)]
def k_c_says : aK := ([.inr (false, [0]), .inl ((-2147483648), 2147483647), .inl ((-2147483648), 2147483647)], some ((-2147483648), 2147483647), [], 50)
def tb_c_says : aTb := fun mi i => none
def kc_c_says : List (Nat × aK) := [(48, k_covers), (50, k_sayAt), (44, k_value), (54, k_gainOver), (55, k_loss), (56, k_worth), (49, k_covered), (57, k_joined), (58, k_clashes), (70, k_falsehood34), (71, k_trustOfAll34), (72, k_laidSet34), (73, k_coveredBy34), (77, k_deniers34), (80, k_gainOf34), (78, k_flow34), (75, k_noteClashes), (76, k_anyClash)]
def k_c_turns : aK := ([.inr (false, [0]), .inl ((-2147483648), 2147483647), .inl ((-2147483648), 2147483647)], some ((-2147483648), 2147483647), [(34, 34, 5, 9), (35, 35, 0, 15), (38, 38, 0, 2), (39, 47, 0, 5)], 50)
def tb_c_turns : aTb := fun mi i => none
def kc_c_turns : List (Nat × aK) := [(48, k_covers), (50, k_sayAt), (44, k_value), (54, k_gainOver), (55, k_loss), (56, k_worth), (49, k_covered), (57, k_joined), (58, k_clashes), (70, k_falsehood34), (71, k_trustOfAll34), (72, k_laidSet34), (73, k_coveredBy34), (77, k_deniers34), (80, k_gainOf34), (78, k_flow34), (75, k_noteClashes), (76, k_anyClash)]
def k_c_set : aK := ([.inr (false, [0]), .inl ((-2147483648), 2147483647), .inl ((-2147483648), 2147483647), .inl ((-2147483648), 2147483647)], some ((-2147483648), 2147483647), [(34, 34, 5, 9), (35, 35, 0, 15), (38, 38, 0, 2), (39, 47, 0, 5)], 50)
def tb_c_set : aTb := fun mi i => none
def kc_c_set : List (Nat × aK) := [(48, k_covers), (50, k_sayAt), (44, k_value), (54, k_gainOver), (55, k_loss), (56, k_worth), (49, k_covered), (57, k_joined), (58, k_clashes), (70, k_falsehood34), (71, k_trustOfAll34), (72, k_laidSet34), (73, k_coveredBy34), (77, k_deniers34), (80, k_gainOf34), (78, k_flow34), (75, k_noteClashes), (76, k_anyClash)]
def k_c_carve : aK := ([.inr (false, [0]), .inl ((-2147483648), 2147483647), .inl ((-2147483648), 2147483647)], some ((-2147483648), 2147483647), [(34, 34, 5, 9), (35, 35, 0, 15), (38, 38, 0, 2), (39, 47, 0, 5)], 50)
def tb_c_carve : aTb := fun mi i => none
def kc_c_carve : List (Nat × aK) := [(48, k_covers), (50, k_sayAt), (44, k_value), (54, k_gainOver), (55, k_loss), (56, k_worth), (49, k_covered), (57, k_joined), (58, k_clashes), (70, k_falsehood34), (71, k_trustOfAll34), (72, k_laidSet34), (73, k_coveredBy34), (77, k_deniers34), (80, k_gainOf34), (78, k_flow34), (75, k_noteClashes), (76, k_anyClash)]
def k_c_carved : aK := ([.inr (false, [0]), .inl ((-2147483648), 2147483647)], some ((-2147483648), 2147483647), [], 50)
def tb_c_carved : aTb := fun mi i => none
def kc_c_carved : List (Nat × aK) := [(48, k_covers), (50, k_sayAt), (44, k_value), (54, k_gainOver), (55, k_loss), (56, k_worth), (49, k_covered), (57, k_joined), (58, k_clashes), (70, k_falsehood34), (71, k_trustOfAll34), (72, k_laidSet34), (73, k_coveredBy34), (77, k_deniers34), (80, k_gainOf34), (78, k_flow34), (75, k_noteClashes), (76, k_anyClash)]
def k_c_deal : aK := ([.inr (false, [0]), .inl ((-2147483648), 2147483647)], some ((-2147483648), 2147483647), [(34, 34, 5, 9), (35, 35, 0, 15), (38, 38, 0, 2), (39, 47, 0, 5)], 50)
def tb_c_deal : aTb := fun mi i => if mi = 94 ∧ i = 9 then some ([(0, 2147483647, .inl 2)], [], [3, 4, 5], [(34, 34, 5, 9), (35, 35, 0, 15), (38, 38, 0, 2), (39, 47, 0, 5)], 0, true) else none
def kc_c_deal : List (Nat × aK) := [(48, k_covers), (50, k_sayAt), (44, k_value), (54, k_gainOver), (55, k_loss), (56, k_worth), (49, k_covered), (57, k_joined), (58, k_clashes), (70, k_falsehood34), (71, k_trustOfAll34), (72, k_laidSet34), (73, k_coveredBy34), (77, k_deniers34), (80, k_gainOf34), (78, k_flow34), (75, k_noteClashes), (76, k_anyClash)]
def k_c_seed : aK := ([.inr (false, [0]), .inl ((-2147483648), 2147483647)], some ((-2147483648), 2147483647), [(34, 34, 5, 9), (35, 35, 0, 15), (38, 38, 0, 2), (39, 47, 0, 5)], 50)
def tb_c_seed : aTb := fun mi i => none
def kc_c_seed : List (Nat × aK) := [(48, k_covers), (50, k_sayAt), (44, k_value), (54, k_gainOver), (55, k_loss), (56, k_worth), (49, k_covered), (57, k_joined), (58, k_clashes), (70, k_falsehood34), (71, k_trustOfAll34), (72, k_laidSet34), (73, k_coveredBy34), (77, k_deniers34), (80, k_gainOf34), (78, k_flow34), (75, k_noteClashes), (76, k_anyClash)]
def k_c_falseAt : aK := ([.inr (false, [0]), .inl ((-2147483648), 2147483647), .inl ((-2147483648), 2147483647)], some ((-2147483648), 2147483647), [], 50)
def tb_c_falseAt : aTb := fun mi i => none
def kc_c_falseAt : List (Nat × aK) := [(48, k_covers), (50, k_sayAt), (44, k_value), (54, k_gainOver), (55, k_loss), (56, k_worth), (49, k_covered), (57, k_joined), (58, k_clashes), (70, k_falsehood34), (71, k_trustOfAll34), (72, k_laidSet34), (73, k_coveredBy34), (77, k_deniers34), (80, k_gainOf34), (78, k_flow34), (75, k_noteClashes), (76, k_anyClash)]
def k_c_fits : aK := ([.inr (false, [0]), .inl ((-2147483648), 2147483647), .inl ((-2147483648), 2147483647)], some ((-2147483648), 2147483647), [], 50)
def tb_c_fits : aTb := fun mi i => if mi = 97 ∧ i = 24 then some ([((-2147483648), 2147483647, .inl 4), ((-2147483648), 2147483647, .inl 5), (0, 2147483647, .inl 6)], [], [7], [], 2, true) else none
def kc_c_fits : List (Nat × aK) := [(48, k_covers), (50, k_sayAt), (44, k_value), (54, k_gainOver), (55, k_loss), (56, k_worth), (49, k_covered), (57, k_joined), (58, k_clashes), (70, k_falsehood34), (71, k_trustOfAll34), (72, k_laidSet34), (73, k_coveredBy34), (77, k_deniers34), (80, k_gainOf34), (78, k_flow34), (75, k_noteClashes), (76, k_anyClash)]
def k_c_join : aK := ([.inr (false, [0]), .inl ((-2147483648), 2147483647), .inl ((-2147483648), 2147483647), .inl ((-2147483648), 2147483647)], some ((-2147483648), 2147483647), [], 50)
def tb_c_join : aTb := fun mi i => if mi = 98 ∧ i = 33 then some ([((-2147483648), 2147483647, .inl 6), ((-2147483648), 2147483647, .inl 7), (0, 2147483647, .inl 8)], [], [9], [], 2, true) else none
def kc_c_join : List (Nat × aK) := [(48, k_covers), (50, k_sayAt), (44, k_value), (54, k_gainOver), (55, k_loss), (56, k_worth), (49, k_covered), (57, k_joined), (58, k_clashes), (70, k_falsehood34), (71, k_trustOfAll34), (72, k_laidSet34), (73, k_coveredBy34), (77, k_deniers34), (80, k_gainOf34), (78, k_flow34), (75, k_noteClashes), (76, k_anyClash)]
def k_c_clash : aK := ([.inr (false, [0]), .inl ((-2147483648), 2147483647), .inl ((-2147483648), 2147483647)], some ((-2147483648), 2147483647), [], 50)
def tb_c_clash : aTb := fun mi i => none
def kc_c_clash : List (Nat × aK) := [(48, k_covers), (50, k_sayAt), (44, k_value), (54, k_gainOver), (55, k_loss), (56, k_worth), (49, k_covered), (57, k_joined), (58, k_clashes), (70, k_falsehood34), (71, k_trustOfAll34), (72, k_laidSet34), (73, k_coveredBy34), (77, k_deniers34), (80, k_gainOf34), (78, k_flow34), (75, k_noteClashes), (76, k_anyClash)]
def k_c_undone : aK := ([.inr (false, [0])], some ((-2147483648), 2147483647), [(37, 37, 0, 8)], 50)
def tb_c_undone : aTb := fun mi i => if mi = 100 ∧ i = 11 then some ([((-2147483648), 2147483647, .inl 2), (0, 2147483647, .inl 3)], [], [], [(37, 37, 0, 8)], 1, true) else none
def kc_c_undone : List (Nat × aK) := [(48, k_covers), (50, k_sayAt), (44, k_value), (54, k_gainOver), (55, k_loss), (56, k_worth), (49, k_covered), (57, k_joined), (58, k_clashes), (70, k_falsehood34), (71, k_trustOfAll34), (72, k_laidSet34), (73, k_coveredBy34), (77, k_deniers34), (80, k_gainOf34), (78, k_flow34), (75, k_noteClashes), (76, k_anyClash)]
def k_c_borne : aK := ([.inr (false, [0])], some ((-2147483648), 2147483647), [], 50)
def tb_c_borne : aTb := fun mi i => if mi = 101 ∧ i = 13 then some ([((-2147483648), 2147483647, .inl 3), (0, 2147483647, .inl 4)], [], [], [], 1, true) else none
def kc_c_borne : List (Nat × aK) := [(48, k_covers), (50, k_sayAt), (44, k_value), (54, k_gainOver), (55, k_loss), (56, k_worth), (49, k_covered), (57, k_joined), (58, k_clashes), (70, k_falsehood34), (71, k_trustOfAll34), (72, k_laidSet34), (73, k_coveredBy34), (77, k_deniers34), (80, k_gainOf34), (78, k_flow34), (75, k_noteClashes), (76, k_anyClash)]
def k_c_look : aK := ([.inr (false, [0]), .inl ((-2147483648), 2147483647)], some ((-2147483648), 2147483647), [], 50)
def tb_c_look : aTb := fun mi i => if mi = 102 ∧ i = 16 then some ([((-2147483648), 2147483647, .inl 2), ((-2147483648), 2147483647, .inl 3), (0, 2147483647, .inl 4)], [], [5], [], 2, true) else none
def kc_c_look : List (Nat × aK) := [(48, k_covers), (50, k_sayAt), (44, k_value), (54, k_gainOver), (55, k_loss), (56, k_worth), (49, k_covered), (57, k_joined), (58, k_clashes), (70, k_falsehood34), (71, k_trustOfAll34), (72, k_laidSet34), (73, k_coveredBy34), (77, k_deniers34), (80, k_gainOf34), (78, k_flow34), (75, k_noteClashes), (76, k_anyClash)]
def k_c_tides : aK := ([.inr (false, [0]), .inl ((-2147483648), 2147483647)], some ((-2147483648), 2147483647), [(5, 5, 0, 95), (1, 1, 3, 3), (34, 34, 5, 9), (35, 35, 0, 15), (38, 38, 0, 2), (39, 47, 0, 5)], 50)
def tb_c_tides : aTb := fun mi i => none
def kc_c_tides : List (Nat × aK) := [(48, k_covers), (50, k_sayAt), (44, k_value), (54, k_gainOver), (55, k_loss), (56, k_worth), (49, k_covered), (57, k_joined), (58, k_clashes), (70, k_falsehood34), (71, k_trustOfAll34), (72, k_laidSet34), (73, k_coveredBy34), (77, k_deniers34), (80, k_gainOf34), (78, k_flow34), (75, k_noteClashes), (76, k_anyClash)]
def k_c_book : aK := ([.inr (false, [0]), .inl ((-2147483648), 2147483647)], some ((-2147483648), 2147483647), [], 50)
def tb_c_book : aTb := fun mi i => none
def kc_c_book : List (Nat × aK) := [(48, k_covers), (50, k_sayAt), (44, k_value), (54, k_gainOver), (55, k_loss), (56, k_worth), (49, k_covered), (57, k_joined), (58, k_clashes), (70, k_falsehood34), (71, k_trustOfAll34), (72, k_laidSet34), (73, k_coveredBy34), (77, k_deniers34), (80, k_gainOf34), (78, k_flow34), (75, k_noteClashes), (76, k_anyClash)]
def k_c_behind : aK := ([.inr (false, [0]), .inl ((-2147483648), 2147483647), .inl ((-2147483648), 2147483647)], some ((-2147483648), 2147483647), [(5, 5, 0, 95), (1, 1, 3, 3), (62, 62, 5, 9), (63, 63, 0, 15), (66, 66, 0, 2), (67, 75, 0, 5)], 50)
def tb_c_behind : aTb := fun mi i => none
def kc_c_behind : List (Nat × aK) := [(48, k_covers), (50, k_sayAt), (44, k_value), (54, k_gainOver), (55, k_loss), (56, k_worth), (49, k_covered), (57, k_joined), (58, k_clashes), (71, k_trustOfAll62), (72, k_laidSet62), (78, k_flow62), (61, k_take62_34)]
def k_c_lasts : aK := ([.inr (false, [0])], some ((-2147483648), 2147483647), [(5, 5, 0, 95), (1, 1, 3, 3), (62, 62, 5, 9), (63, 63, 0, 15), (66, 66, 0, 2), (67, 75, 0, 5)], 50)
def tb_c_lasts : aTb := fun mi i => if mi = 106 ∧ i = 7 then some ([(0, 2147483647, .inl 1)], [], [], [(5, 5, 0, 95), (1, 1, 3, 3), (62, 62, 5, 9), (63, 63, 0, 15), (66, 66, 0, 2), (67, 75, 0, 5)], 0, true) else none
def kc_c_lasts : List (Nat × aK) := [(48, k_covers), (50, k_sayAt), (44, k_value), (54, k_gainOver), (55, k_loss), (56, k_worth), (49, k_covered), (57, k_joined), (58, k_clashes), (71, k_trustOfAll62), (72, k_laidSet62), (78, k_flow62), (61, k_take62_34)]
def k_c_best : aK := ([.inr (false, [0]), .inl ((-2147483648), 2147483647), .inl ((-2147483648), 2147483647), .inl ((-2147483648), 2147483647)], some ((-2147483648), 2147483647), [(5, 5, 0, 95), (1, 1, 3, 3), (62, 62, 5, 9), (63, 63, 0, 15), (66, 66, 0, 2), (67, 75, 0, 5)], 50)
def tb_c_best : aTb := fun mi i => if mi = 107 ∧ i = 23 then some ([((-2147483648), 2147483647, .inl 4), ((-2147483648), 2147483647, .inl 5), (0, 2147483647, .inl 6)], [], [7], [(5, 5, 0, 95), (1, 1, 3, 3), (62, 62, 5, 9), (63, 63, 0, 15), (66, 66, 0, 2), (67, 75, 0, 5)], 2, true) else none
def kc_c_best : List (Nat × aK) := [(48, k_covers), (50, k_sayAt), (44, k_value), (54, k_gainOver), (55, k_loss), (56, k_worth), (49, k_covered), (57, k_joined), (58, k_clashes), (71, k_trustOfAll62), (72, k_laidSet62), (78, k_flow62), (61, k_take62_34)]
def k_c_taught : aK := ([.inr (false, [0]), .inl ((-2147483648), 2147483647), .inl ((-2147483648), 2147483647)], some ((-2147483648), 2147483647), [(5, 5, 0, 95), (1, 1, 3, 3), (62, 62, 5, 9), (63, 63, 0, 15), (66, 66, 0, 2), (67, 75, 0, 5)], 50)
def tb_c_taught : aTb := fun mi i => if mi = 108 ∧ i = 18 then some ([((-2147483648), 2147483647, .inl 3), ((-2147483648), 2147483647, .inl 4), (0, 2147483647, .inl 5)], [], [6], [(5, 5, 0, 95), (1, 1, 3, 3), (62, 62, 5, 9), (63, 63, 0, 15), (66, 66, 0, 2), (67, 75, 0, 5)], 2, true) else none
def kc_c_taught : List (Nat × aK) := [(48, k_covers), (50, k_sayAt), (44, k_value), (54, k_gainOver), (55, k_loss), (56, k_worth), (49, k_covered), (57, k_joined), (58, k_clashes), (71, k_trustOfAll62), (72, k_laidSet62), (78, k_flow62), (61, k_take62_34)]
def k_apart : aK := ([.inr (false, [39, 40, 41, 42, 43, 44, 45, 46, 47]), .inr (false, [82, 84, 86, 88])], some ((-2147483648), 2147483647), [], 14)
def tb_apart : aTb := fun mi i => if mi = 139 ∧ i = 4 then some ([((-2147483648), 2147483647, .inl 2), (0, 2147483647, .inl 3)], [], [4], [], 1, true) else none
def kc_apart : List (Nat × aK) := [(48, k_covers), (50, k_sayAt), (44, k_value), (54, k_gainOver), (55, k_loss), (56, k_worth), (49, k_covered), (57, k_joined), (58, k_clashes)]
def k_c_whose : aK := ([.inr (false, [0]), .inl ((-2147483648), 2147483647), .inl ((-2147483648), 2147483647)], some ((-2147483648), 2147483647), [], 50)
def tb_c_whose : aTb := fun mi i => if mi = 109 ∧ i = 24 then some ([((-2147483648), 2147483647, .inl 4), ((-2147483648), 2147483647, .inl 5), (0, 2147483647, .inl 6)], [], [7], [], 2, true) else none
def kc_c_whose : List (Nat × aK) := [(48, k_covers), (50, k_sayAt), (44, k_value), (54, k_gainOver), (55, k_loss), (56, k_worth), (49, k_covered), (57, k_joined), (58, k_clashes), (70, k_falsehood34), (71, k_trustOfAll34), (72, k_laidSet34), (73, k_coveredBy34), (77, k_deniers34), (80, k_gainOf34), (78, k_flow34), (75, k_noteClashes), (76, k_anyClash), (139, k_apart)]
def k_c_fine : aK := ([.inr (false, [0]), .inl ((-2147483648), 2147483647)], some ((-2147483648), 2147483647), [(5, 5, 0, 95), (1, 1, 3, 3)], 50)
def tb_c_fine : aTb := fun mi i => none
def kc_c_fine : List (Nat × aK) := [(48, k_covers), (50, k_sayAt), (44, k_value), (54, k_gainOver), (55, k_loss), (56, k_worth), (49, k_covered), (57, k_joined), (58, k_clashes), (70, k_falsehood34), (71, k_trustOfAll34), (72, k_laidSet34), (73, k_coveredBy34), (77, k_deniers34), (80, k_gainOf34), (78, k_flow34), (75, k_noteClashes), (76, k_anyClash), (7, k_workedR34)]
def k_c_feed : aK := ([.inr (false, [0]), .inl ((-2147483648), 2147483647), .inl ((-2147483648), 2147483647), .inl ((-2147483648), 2147483647)], some ((-2147483648), 2147483647), [(76, 76, 1, 10), (77, 78, 0, 95)], 50)
def tb_c_feed : aTb := fun mi i => none
def kc_c_feed : List (Nat × aK) := [(48, k_covers), (50, k_sayAt), (44, k_value), (54, k_gainOver), (55, k_loss), (56, k_worth), (49, k_covered), (57, k_joined), (58, k_clashes), (70, k_falsehood34), (71, k_trustOfAll34), (72, k_laidSet34), (73, k_coveredBy34), (77, k_deniers34), (80, k_gainOf34), (78, k_flow34), (75, k_noteClashes), (76, k_anyClash)]
def k_c_trim : aK := ([.inr (false, [0]), .inl ((-2147483648), 2147483647)], some ((-2147483648), 2147483647), [(76, 76, 1, 10), (77, 78, 0, 95)], 50)
def tb_c_trim : aTb := fun mi i => none
def kc_c_trim : List (Nat × aK) := [(48, k_covers), (50, k_sayAt), (44, k_value), (54, k_gainOver), (55, k_loss), (56, k_worth), (49, k_covered), (57, k_joined), (58, k_clashes), (70, k_falsehood34), (71, k_trustOfAll34), (72, k_laidSet34), (73, k_coveredBy34), (77, k_deniers34), (80, k_gainOf34), (78, k_flow34), (75, k_noteClashes), (76, k_anyClash)]
def k_c_textTold : aK := ([.inr (false, [0]), .inl ((-2147483648), 2147483647), .inl ((-2147483648), 2147483647)], some ((-2147483648), 2147483647), [], 50)
def tb_c_textTold : aTb := fun mi i => none
def kc_c_textTold : List (Nat × aK) := [(48, k_covers), (50, k_sayAt), (44, k_value), (54, k_gainOver), (55, k_loss), (56, k_worth), (49, k_covered), (57, k_joined), (58, k_clashes), (70, k_falsehood34), (71, k_trustOfAll34), (72, k_laidSet34), (73, k_coveredBy34), (77, k_deniers34), (80, k_gainOf34), (78, k_flow34), (75, k_noteClashes), (76, k_anyClash)]
def k_c_why : aK := ([.inr (false, [0]), .inl ((-2147483648), 2147483647)], some ((-2147483648), 2147483647), [], 50)
def tb_c_why : aTb := fun mi i => none
def kc_c_why : List (Nat × aK) := [(48, k_covers), (50, k_sayAt), (44, k_value), (54, k_gainOver), (55, k_loss), (56, k_worth), (49, k_covered), (57, k_joined), (58, k_clashes), (70, k_falsehood34), (71, k_trustOfAll34), (72, k_laidSet34), (73, k_coveredBy34), (77, k_deniers34), (80, k_gainOf34), (78, k_flow34), (75, k_noteClashes), (76, k_anyClash)]
def k_c_sheet : aK := ([.inr (false, [0]), .inl ((-2147483648), 2147483647), .inl ((-2147483648), 2147483647), .inl ((-2147483648), 2147483647)], some ((-2147483648), 2147483647), [(82, 83, 0, 23), (84, 85, 0, 23), (86, 87, 0, 23), (88, 89, 0, 23)], 50)
def tb_c_sheet : aTb := fun mi i => none
def kc_c_sheet : List (Nat × aK) := [(48, k_covers), (50, k_sayAt), (44, k_value), (54, k_gainOver), (55, k_loss), (56, k_worth), (49, k_covered), (57, k_joined), (58, k_clashes), (70, k_falsehood34), (71, k_trustOfAll34), (72, k_laidSet34), (73, k_coveredBy34), (77, k_deniers34), (80, k_gainOf34), (78, k_flow34), (75, k_noteClashes), (76, k_anyClash)]
def k_c_mark : aK := ([.inr (false, [0]), .inl ((-2147483648), 2147483647), .inl ((-2147483648), 2147483647), .inl ((-2147483648), 2147483647)], some ((-2147483648), 2147483647), [(82, 83, 0, 23), (84, 85, 0, 23), (86, 87, 0, 23), (88, 89, 0, 23)], 50)
def tb_c_mark : aTb := fun mi i => none
def kc_c_mark : List (Nat × aK) := [(48, k_covers), (50, k_sayAt), (44, k_value), (54, k_gainOver), (55, k_loss), (56, k_worth), (49, k_covered), (57, k_joined), (58, k_clashes), (70, k_falsehood34), (71, k_trustOfAll34), (72, k_laidSet34), (73, k_coveredBy34), (77, k_deniers34), (80, k_gainOf34), (78, k_flow34), (75, k_noteClashes), (76, k_anyClash)]
def k_c_pour : aK := ([.inr (false, [0]), .inl ((-2147483648), 2147483647)], some ((-2147483648), 2147483647), [(34, 34, 5, 9), (35, 35, 0, 15), (38, 38, 0, 2), (39, 47, 0, 5)], 50)
def tb_c_pour : aTb := fun mi i => if mi = 119 ∧ i = 17 then some ([((-2147483648), 2147483647, .inl 3), (0, 2147483647, .inl 4)], [], [5, 6], [(34, 34, 5, 9), (35, 35, 0, 15), (38, 38, 0, 2), (39, 47, 0, 5)], 1, true) else none
def kc_c_pour : List (Nat × aK) := [(48, k_covers), (50, k_sayAt), (44, k_value), (54, k_gainOver), (55, k_loss), (56, k_worth), (49, k_covered), (57, k_joined), (58, k_clashes), (70, k_falsehood34), (71, k_trustOfAll34), (72, k_laidSet34), (73, k_coveredBy34), (77, k_deniers34), (80, k_gainOf34), (78, k_flow34), (75, k_noteClashes), (76, k_anyClash)]
def k_c_reads : aK := ([.inr (false, [0]), .inl ((-2147483648), 2147483647)], some ((-2147483648), 2147483647), [], 50)
def tb_c_reads : aTb := fun mi i => if mi = 120 ∧ i = 15 then some ([(0, 2147483647, .inl 3)], [], [4, 5], [], 0, true) else none
def kc_c_reads : List (Nat × aK) := [(48, k_covers), (50, k_sayAt), (44, k_value), (54, k_gainOver), (55, k_loss), (56, k_worth), (49, k_covered), (57, k_joined), (58, k_clashes), (70, k_falsehood34), (71, k_trustOfAll34), (72, k_laidSet34), (73, k_coveredBy34), (77, k_deniers34), (80, k_gainOf34), (78, k_flow34), (75, k_noteClashes), (76, k_anyClash)]
def k_c_copy : aK := ([.inr (false, [0]), .inl ((-2147483648), 2147483647), .inl ((-2147483648), 2147483647), .inl ((-2147483648), 2147483647), .inl ((-2147483648), 2147483647), .inl ((-2147483648), 2147483647)], some ((-2147483648), 2147483647), [(82, 83, 0, 23), (84, 85, 0, 23), (86, 87, 0, 23), (88, 89, 0, 23)], 50)
def tb_c_copy : aTb := fun mi i => none
def kc_c_copy : List (Nat × aK) := [(48, k_covers), (50, k_sayAt), (44, k_value), (54, k_gainOver), (55, k_loss), (56, k_worth), (49, k_covered), (57, k_joined), (58, k_clashes), (70, k_falsehood34), (71, k_trustOfAll34), (72, k_laidSet34), (73, k_coveredBy34), (77, k_deniers34), (80, k_gainOf34), (78, k_flow34), (75, k_noteClashes), (76, k_anyClash)]
def k_c_lay : aK := ([.inr (false, [0]), .inl ((-2147483648), 2147483647), .inl ((-2147483648), 2147483647), .inl ((-2147483648), 2147483647)], some ((-2147483648), 2147483647), [(90, 109, 0, 23)], 50)
def tb_c_lay : aTb := fun mi i => none
def kc_c_lay : List (Nat × aK) := [(48, k_covers), (50, k_sayAt), (44, k_value), (54, k_gainOver), (55, k_loss), (56, k_worth), (49, k_covered), (57, k_joined), (58, k_clashes), (70, k_falsehood34), (71, k_trustOfAll34), (72, k_laidSet34), (73, k_coveredBy34), (77, k_deniers34), (80, k_gainOf34), (78, k_flow34), (75, k_noteClashes), (76, k_anyClash)]
def k_isOf : aK := ([.inr (false, [39, 40, 41, 42, 43, 44, 45, 46, 47, 67, 68, 69, 70, 71, 72, 73, 74, 75, 91, 95, 99, 103, 107, 53, 54, 55, 56, 57, 58, 59, 60, 61]), .inl ((-2147483648), 2147483647)], some (0, 1), [], 8)
def k_c_fee : aK := ([.inr (false, [0])], some ((-2147483648), 2147483647), [(5, 5, 0, 95), (1, 1, 3, 3)], 50)
def tb_c_fee : aTb := fun mi i => none
def kc_c_fee : List (Nat × aK) := [(48, k_covers), (50, k_sayAt), (44, k_value), (54, k_gainOver), (55, k_loss), (56, k_worth), (49, k_covered), (57, k_joined), (58, k_clashes), (70, k_falsehood34), (71, k_trustOfAll34), (72, k_laidSet34), (73, k_coveredBy34), (77, k_deniers34), (80, k_gainOf34), (78, k_flow34), (75, k_noteClashes), (76, k_anyClash), (7, k_workedN34)]
def k_c_ask : aK := ([.inr (false, [0]), .inl ((-2147483648), 2147483647), .inl ((-2147483648), 2147483647)], some ((-2147483648), 2147483647), [], 50)
def tb_c_ask : aTb := fun mi i => none
def kc_c_ask : List (Nat × aK) := [(48, k_covers), (50, k_sayAt), (44, k_value), (54, k_gainOver), (55, k_loss), (56, k_worth), (49, k_covered), (57, k_joined), (58, k_clashes), (70, k_falsehood34), (71, k_trustOfAll34), (72, k_laidSet34), (73, k_coveredBy34), (77, k_deniers34), (80, k_gainOf34), (78, k_flow34), (75, k_noteClashes), (76, k_anyClash), (46, k_isOf)]
def k_c_as : aK := ([.inr (false, [0]), .inl ((-2147483648), 2147483647), .inl ((-2147483648), 2147483647)], some ((-2147483648), 2147483647), [], 50)
def tb_c_as : aTb := fun mi i => none
def kc_c_as : List (Nat × aK) := [(48, k_covers), (50, k_sayAt), (44, k_value), (54, k_gainOver), (55, k_loss), (56, k_worth), (49, k_covered), (57, k_joined), (58, k_clashes), (70, k_falsehood34), (71, k_trustOfAll34), (72, k_laidSet34), (73, k_coveredBy34), (77, k_deniers34), (80, k_gainOf34), (78, k_flow34), (75, k_noteClashes), (76, k_anyClash), (46, k_isOf)]
def k_c_item : aK := ([.inr (false, [0]), .inl ((-2147483648), 2147483647), .inl ((-2147483648), 2147483647)], some ((-2147483648), 2147483647), [], 50)
def tb_c_item : aTb := fun mi i => none
def kc_c_item : List (Nat × aK) := [(48, k_covers), (50, k_sayAt), (44, k_value), (54, k_gainOver), (55, k_loss), (56, k_worth), (49, k_covered), (57, k_joined), (58, k_clashes), (70, k_falsehood34), (71, k_trustOfAll34), (72, k_laidSet34), (73, k_coveredBy34), (77, k_deniers34), (80, k_gainOf34), (78, k_flow34), (75, k_noteClashes), (76, k_anyClash)]
def k_c_rest : aK := ([.inr (false, [0]), .inl ((-2147483648), 2147483647), .inl ((-2147483648), 2147483647)], some ((-2147483648), 2147483647), [], 50)
def tb_c_rest : aTb := fun mi i => none
def kc_c_rest : List (Nat × aK) := [(48, k_covers), (50, k_sayAt), (44, k_value), (54, k_gainOver), (55, k_loss), (56, k_worth), (49, k_covered), (57, k_joined), (58, k_clashes), (70, k_falsehood34), (71, k_trustOfAll34), (72, k_laidSet34), (73, k_coveredBy34), (77, k_deniers34), (80, k_gainOf34), (78, k_flow34), (75, k_noteClashes), (76, k_anyClash)]
def k_c_tell : aK := ([.inr (false, [0]), .inl ((-2147483648), 2147483647)], some ((-2147483648), 2147483647), [(0, 0, 8, 8), (81, 81, 0, 59)], 50)
def tb_c_tell : aTb := fun mi i => none
def kc_c_tell : List (Nat × aK) := [(48, k_covers), (50, k_sayAt), (44, k_value), (54, k_gainOver), (55, k_loss), (56, k_worth), (49, k_covered), (57, k_joined), (58, k_clashes), (70, k_falsehood34), (71, k_trustOfAll34), (72, k_laidSet34), (73, k_coveredBy34), (77, k_deniers34), (80, k_gainOf34), (78, k_flow34), (75, k_noteClashes), (76, k_anyClash)]
def k_c_check : aK := ([.inr (false, [0]), .inl ((-2147483648), 2147483647)], some ((-2147483648), 2147483647), [(5, 5, 0, 95), (1, 1, 3, 3), (62, 62, 5, 9), (63, 63, 0, 15), (66, 66, 0, 2), (67, 75, 0, 5), (0, 0, 8, 8)], 50)
def tb_c_check : aTb := fun mi i => if mi = 127 ∧ i = 35 then some ([(0, 2147483647, .inl 4)], [], [5], [(5, 5, 0, 95), (1, 1, 3, 3), (62, 62, 5, 9), (63, 63, 0, 15), (66, 66, 0, 2), (67, 75, 0, 5), (0, 0, 8, 8)], 0, true) else none
def kc_c_check : List (Nat × aK) := [(48, k_covers), (50, k_sayAt), (44, k_value), (54, k_gainOver), (55, k_loss), (56, k_worth), (49, k_covered), (57, k_joined), (58, k_clashes), (71, k_trustOfAll62), (72, k_laidSet62), (78, k_flow62), (61, k_take62_48)]
def k_c_keep : aK := ([.inr (false, [0])], some ((-2147483648), 2147483647), [(48, 48, 5, 9), (49, 49, 0, 15), (52, 52, 0, 2), (53, 61, 0, 5), (0, 0, 9, 9)], 50)
def tb_c_keep : aTb := fun mi i => none
def kc_c_keep : List (Nat × aK) := [(48, k_covers), (50, k_sayAt), (44, k_value), (54, k_gainOver), (55, k_loss), (56, k_worth), (49, k_covered), (57, k_joined), (58, k_clashes), (70, k_falsehood34), (71, k_trustOfAll34), (72, k_laidSet34), (73, k_coveredBy34), (77, k_deniers34), (80, k_gainOf34), (78, k_flow34), (75, k_noteClashes), (76, k_anyClash), (61, k_take48_34)]
def k_c_back : aK := ([.inr (false, [0])], some ((-2147483648), 2147483647), [(34, 34, 5, 9), (35, 35, 0, 15), (38, 38, 0, 2), (39, 47, 0, 5)], 50)
def tb_c_back : aTb := fun mi i => none
def kc_c_back : List (Nat × aK) := [(48, k_covers), (50, k_sayAt), (44, k_value), (54, k_gainOver), (55, k_loss), (56, k_worth), (49, k_covered), (57, k_joined), (58, k_clashes), (70, k_falsehood34), (71, k_trustOfAll34), (72, k_laidSet34), (73, k_coveredBy34), (77, k_deniers34), (80, k_gainOf34), (78, k_flow34), (75, k_noteClashes), (76, k_anyClash), (61, k_take34_48)]
def k_c_count : aK := ([.inr (false, [0]), .inl ((-2147483648), 2147483647)], some ((-2147483648), 2147483647), [], 50)
def tb_c_count : aTb := fun mi i => none
def kc_c_count : List (Nat × aK) := [(48, k_covers), (50, k_sayAt), (44, k_value), (54, k_gainOver), (55, k_loss), (56, k_worth), (49, k_covered), (57, k_joined), (58, k_clashes), (70, k_falsehood34), (71, k_trustOfAll34), (72, k_laidSet34), (73, k_coveredBy34), (77, k_deniers34), (80, k_gainOf34), (78, k_flow34), (75, k_noteClashes), (76, k_anyClash)]
def k_add : aK := ([.inr (false, [3]), .inl ((-2147483648), 2147483647)], none, [(4, 4, 0, 95), (3, 3, 1, 1)], 8)
def tb_add : aTb := fun mi i => none
def kc_add : List (Nat × aK) := []
def k_unwind : aK := ([.inr (false, [76]), .inr (false, [3]), .inl ((-2147483648), 2147483647)], none, [(4, 4, 0, 95), (3, 3, 1, 1), (76, 76, 7, 7)], 12)
def tb_unwind : aTb := fun mi i => if mi = 29 ∧ i = 0 then some ([((-2147483648), 2147483647, .inr ((5, 0, 0, 76), (0, 7, 7, 0)))], [], [], [(4, 4, 0, 95), (3, 3, 1, 1), (76, 76, 7, 7)], 0, false) else none
def kc_unwind : List (Nat × aK) := [(2, k_add)]
def k_endPiece : aK := ([.inr (false, [76]), .inr (false, [3])], none, [(4, 4, 0, 95), (3, 3, 1, 1), (76, 76, 7, 10)], 12)
def tb_endPiece : aTb := fun mi i => if mi = 28 ∧ i = 0 then some ([((-2147483648), 2147483647, .inr ((5, 0, 0, 76), (0, 7, 7, 0)))], [], [], [(4, 4, 0, 95), (3, 3, 1, 1), (76, 76, 7, 10)], 0, false) else none
def kc_endPiece : List (Nat × aK) := [(2, k_add)]
def k_nextWord : aK := ([.inr (false, [76])], none, [(76, 76, 2, 5)], 12)
def tb_nextWord : aTb := fun mi i => if mi = 16 ∧ i = 64 then some ([((-2147483648), 2147483647, .inr ((5, 0, 0, 76), (0, 4, 4, 0)))], [], [], [(76, 76, 4, 4)], 0, true) else if mi = 16 ∧ i = 15 then some ([((-2147483648), 2147483647, .inr ((5, 0, 0, 76), (0, 4, 4, 0)))], [], [], [(76, 76, 4, 4)], 0, true) else none
def kc_nextWord : List (Nat × aK) := []
def k_numberRead : aK := ([.inr (false, [76])], some ((-2147483648), 2147483647), [], 12)
def tb_numberRead : aTb := fun mi i => if mi = 24 ∧ i = 14 then some ([((-2147483648), 2147483647, .inl 1), ((-2147483648), 2147483647, .inl 2)], [], [], [], 1, true) else none
def kc_numberRead : List (Nat × aK) := []
def k_nameRead : aK := ([.inr (false, [76]), .inl ((-2147483648), 2147483647)], some ((-2147483648), 2147483647), [], 12)
def k_keyRead : aK := ([.inr (false, [76])], some ((-1), 2), [], 12)
def k_takePiece : aK := ([.inr (false, [76]), .inr (false, [3])], some (0, 1), [(4, 4, 0, 95), (3, 3, 1, 1), (3, 3, 3, 3), (76, 76, 2, 10), (78, 78, 0, 95)], 18)
def tb_takePiece : aTb := fun mi i => none
def kc_takePiece : List (Nat × aK) := [(2, k_add), (29, k_unwind), (28, k_endPiece), (16, k_nextWord), (24, k_numberRead), (25, k_nameRead), (20, k_keyRead)]
def k_takeAhead : aK := ([.inr (false, [76]), .inl ((-2147483648), 2147483647)], some (0, 1), [(4, 4, 0, 95), (3, 3, 1, 1), (3, 3, 3, 3), (76, 76, 2, 10), (78, 78, 0, 95)], 18)
def tb_takeAhead : aTb := fun mi i => none
def kc_takeAhead : List (Nat × aK) := [(2, k_add), (29, k_unwind), (28, k_endPiece), (16, k_nextWord), (24, k_numberRead), (25, k_nameRead), (20, k_keyRead)]
def k_takeBehind : aK := ([.inr (false, [76]), .inr (false, [3]), .inl ((-2147483648), 2147483647)], some (0, 1), [(4, 4, 0, 95), (3, 3, 1, 1), (3, 3, 3, 3), (76, 76, 2, 10), (78, 78, 0, 95)], 18)
def tb_takeBehind : aTb := fun mi i => none
def kc_takeBehind : List (Nat × aK) := [(2, k_add), (29, k_unwind), (28, k_endPiece), (16, k_nextWord), (24, k_numberRead), (25, k_nameRead), (20, k_keyRead)]
def k_goesOn : aK := ([.inr (false, [76]), .inr (false, [3])], some (0, 1), [(4, 4, 0, 95), (3, 3, 1, 1), (3, 3, 3, 3), (76, 76, 2, 10), (78, 78, 0, 95)], 22)
def tb_goesOn : aTb := fun mi i => none
def kc_goesOn : List (Nat × aK) := [(2, k_add), (29, k_unwind), (28, k_endPiece), (16, k_nextWord), (24, k_numberRead), (25, k_nameRead), (20, k_keyRead), (23, k_takePiece), (26, k_takeAhead), (27, k_takeBehind)]
def k_readInto : aK := ([.inr (false, [76]), .inr (false, [3])], some ((-2147483648), 2147483647), [(4, 4, 0, 95), (3, 3, 1, 1), (3, 3, 3, 3), (76, 76, 2, 10), (78, 78, 0, 95), (3, 3, 1, 3)], 26)
def tb_readInto : aTb := fun mi i => if mi = 15 ∧ i = 35 then some ([(0, 2147483647, .inl 3)], [], [], [(4, 4, 0, 95), (3, 3, 1, 1), (3, 3, 3, 3), (76, 76, 2, 10), (78, 78, 0, 95), (3, 3, 1, 3)], 0, true) else none
def kc_readInto : List (Nat × aK) := [(2, k_add), (29, k_unwind), (28, k_endPiece), (16, k_nextWord), (24, k_numberRead), (25, k_nameRead), (20, k_keyRead), (23, k_takePiece), (26, k_takeAhead), (27, k_takeBehind), (22, k_goesOn)]
def k_addText : aK := ([.inr (false, [34])], some ((-2147483648), 2147483647), [(6, 33, 0, 95), (34, 34, 6, 6), (38, 38, 0, 2)], 18)
def tb_addText : aTb := fun mi i => none
def kc_addText : List (Nat × aK) := []
def k_c_text : aK := ([.inr (false, [0])], some ((-2147483648), 2147483647), [(4, 4, 0, 95), (3, 3, 1, 1), (3, 3, 3, 3), (76, 76, 2, 10), (78, 78, 0, 95), (3, 3, 1, 3), (6, 33, 0, 95), (34, 34, 6, 6), (38, 38, 0, 2), (76, 76, 1, 1)], 50)
def tb_c_text : aTb := fun mi i => none
def kc_c_text : List (Nat × aK) := [(15, k_readInto), (84, k_addText)]
end
section
/-! ===== contracts checked, piece 0 (printed by program) ===== -/
set_option maxRecDepth 100000 in
set_option maxHeartbeats 40000000 in
theorem ck_covers : kchk prog HT kc_covers tb_covers 44 48 k_covers = true := by decide +kernel
set_option maxRecDepth 100000 in
set_option maxHeartbeats 40000000 in
theorem ck_sayAt : kchk prog HT kc_sayAt tb_sayAt 57 50 k_sayAt = true := by decide +kernel
set_option maxRecDepth 100000 in
set_option maxHeartbeats 40000000 in
theorem ck_value : kchk prog HT kc_value tb_value 8 44 k_value = true := by decide +kernel
set_option maxRecDepth 100000 in
set_option maxHeartbeats 40000000 in
theorem ck_gainOver : kchk prog HT kc_gainOver tb_gainOver 12 54 k_gainOver = true := by decide +kernel
set_option maxRecDepth 100000 in
set_option maxHeartbeats 40000000 in
theorem ck_loss : kchk prog HT kc_loss tb_loss 8 55 k_loss = true := by decide +kernel
set_option maxRecDepth 100000 in
set_option maxHeartbeats 40000000 in
theorem ck_worth : kchk prog HT kc_worth tb_worth 13 56 k_worth = true := by decide +kernel
set_option maxRecDepth 100000 in
set_option maxHeartbeats 40000000 in
theorem ck_covered : kchk prog HT kc_covered tb_covered 24 49 k_covered = true := by decide +kernel
set_option maxRecDepth 100000 in
set_option maxHeartbeats 40000000 in
theorem ck_joined : kchk prog HT kc_joined tb_joined 35 57 k_joined = true := by decide +kernel
set_option maxRecDepth 100000 in
set_option maxHeartbeats 40000000 in
theorem ck_clashes : kchk prog HT kc_clashes tb_clashes 33 58 k_clashes = true := by decide +kernel
set_option maxRecDepth 100000 in
set_option maxHeartbeats 40000000 in
theorem ck_workedR34 : kchk prog HT kc_workedR34 tb_workedR34 134 7 k_workedR34 = true := by decide +kernel
set_option maxRecDepth 100000 in
set_option maxHeartbeats 40000000 in
theorem ck_workedR62 : kchk prog HT kc_workedR62 tb_workedR62 134 7 k_workedR62 = true := by decide +kernel
set_option maxRecDepth 100000 in
set_option maxHeartbeats 40000000 in
theorem ck_workedN34 : kchk prog HT kc_workedN34 tb_workedN34 134 7 k_workedN34 = true := by decide +kernel
end
section
/-! ===== contracts checked, piece 1 (printed by program) ===== -/
set_option maxRecDepth 100000 in
set_option maxHeartbeats 40000000 in
theorem ck_falsehood34 : kchk prog HT kc_falsehood34 tb_falsehood34 43 70 k_falsehood34 = true := by decide +kernel
set_option maxRecDepth 100000 in
set_option maxHeartbeats 40000000 in
theorem ck_trustOfAll34 : kchk prog HT kc_trustOfAll34 tb_trustOfAll34 47 71 k_trustOfAll34 = true := by decide +kernel
set_option maxRecDepth 100000 in
set_option maxHeartbeats 40000000 in
theorem ck_laidSet34 : kchk prog HT kc_laidSet34 tb_laidSet34 54 72 k_laidSet34 = true := by decide +kernel
set_option maxRecDepth 100000 in
set_option maxHeartbeats 40000000 in
theorem ck_coveredBy34 : kchk prog HT kc_coveredBy34 tb_coveredBy34 50 73 k_coveredBy34 = true := by decide +kernel
set_option maxRecDepth 100000 in
set_option maxHeartbeats 40000000 in
theorem ck_deniers34 : kchk prog HT kc_deniers34 tb_deniers34 66 77 k_deniers34 = true := by decide +kernel
set_option maxRecDepth 100000 in
set_option maxHeartbeats 40000000 in
theorem ck_gainOf34 : kchk prog HT kc_gainOf34 tb_gainOf34 71 80 k_gainOf34 = true := by decide +kernel
set_option maxRecDepth 100000 in
set_option maxHeartbeats 40000000 in
theorem ck_seeAgain34 : kchk prog HT kc_seeAgain34 tb_seeAgain34 53 79 k_seeAgain34 = true := by decide +kernel
set_option maxRecDepth 100000 in
set_option maxHeartbeats 40000000 in
theorem ck_flow34 : kchk prog HT kc_flow34 tb_flow34 68 78 k_flow34 = true := by decide +kernel
set_option maxRecDepth 100000 in
set_option maxHeartbeats 40000000 in
theorem ck_falsehood62 : kchk prog HT kc_falsehood62 tb_falsehood62 43 70 k_falsehood62 = true := by decide +kernel
set_option maxRecDepth 100000 in
set_option maxHeartbeats 40000000 in
theorem ck_trustOfAll62 : kchk prog HT kc_trustOfAll62 tb_trustOfAll62 47 71 k_trustOfAll62 = true := by decide +kernel
set_option maxRecDepth 100000 in
set_option maxHeartbeats 40000000 in
theorem ck_laidSet62 : kchk prog HT kc_laidSet62 tb_laidSet62 54 72 k_laidSet62 = true := by decide +kernel
set_option maxRecDepth 100000 in
set_option maxHeartbeats 40000000 in
theorem ck_coveredBy62 : kchk prog HT kc_coveredBy62 tb_coveredBy62 50 73 k_coveredBy62 = true := by decide +kernel
set_option maxRecDepth 100000 in
set_option maxHeartbeats 40000000 in
theorem ck_deniers62 : kchk prog HT kc_deniers62 tb_deniers62 66 77 k_deniers62 = true := by decide +kernel
set_option maxRecDepth 100000 in
set_option maxHeartbeats 40000000 in
theorem ck_gainOf62 : kchk prog HT kc_gainOf62 tb_gainOf62 71 80 k_gainOf62 = true := by decide +kernel
set_option maxRecDepth 100000 in
set_option maxHeartbeats 40000000 in
theorem ck_seeAgain62 : kchk prog HT kc_seeAgain62 tb_seeAgain62 53 79 k_seeAgain62 = true := by decide +kernel
set_option maxRecDepth 100000 in
set_option maxHeartbeats 40000000 in
theorem ck_flow62 : kchk prog HT kc_flow62 tb_flow62 68 78 k_flow62 = true := by decide +kernel
set_option maxRecDepth 100000 in
set_option maxHeartbeats 40000000 in
theorem ck_take62_34 : kchk prog HT kc_take62_34 tb_take62_34 121 61 k_take62_34 = true := by decide +kernel
set_option maxRecDepth 100000 in
set_option maxHeartbeats 40000000 in
theorem ck_take62_48 : kchk prog HT kc_take62_48 tb_take62_48 121 61 k_take62_48 = true := by decide +kernel
set_option maxRecDepth 100000 in
set_option maxHeartbeats 40000000 in
theorem ck_take48_34 : kchk prog HT kc_take48_34 tb_take48_34 121 61 k_take48_34 = true := by decide +kernel
set_option maxRecDepth 100000 in
set_option maxHeartbeats 40000000 in
theorem ck_take34_48 : kchk prog HT kc_take34_48 tb_take34_48 121 61 k_take34_48 = true := by decide +kernel
set_option maxRecDepth 100000 in
set_option maxHeartbeats 40000000 in
theorem ck_noteClashes : kchk prog HT kc_noteClashes tb_noteClashes 93 75 k_noteClashes = true := by decide +kernel
set_option maxRecDepth 100000 in
set_option maxHeartbeats 40000000 in
theorem ck_anyClash : kchk prog HT kc_anyClash tb_anyClash 32 76 k_anyClash = true := by decide +kernel
set_option maxRecDepth 100000 in
set_option maxHeartbeats 40000000 in
theorem ck_c_rubbing : kchk prog HT kc_c_rubbing tb_c_rubbing 125 86 k_c_rubbing = true := by decide +kernel
set_option maxRecDepth 100000 in
set_option maxHeartbeats 40000000 in
theorem ck_c_told : kchk prog HT kc_c_told tb_c_told 51 87 k_c_told = true := by decide +kernel
set_option maxRecDepth 100000 in
set_option maxHeartbeats 40000000 in
theorem ck_c_says : kchk prog HT kc_c_says tb_c_says 49 88 k_c_says = true := by decide +kernel
set_option maxRecDepth 100000 in
set_option maxHeartbeats 40000000 in
theorem ck_c_turns : kchk prog HT kc_c_turns tb_c_turns 52 90 k_c_turns = true := by decide +kernel
set_option maxRecDepth 100000 in
set_option maxHeartbeats 40000000 in
theorem ck_c_set : kchk prog HT kc_c_set tb_c_set 87 91 k_c_set = true := by decide +kernel
set_option maxRecDepth 100000 in
set_option maxHeartbeats 40000000 in
theorem ck_c_carve : kchk prog HT kc_c_carve tb_c_carve 72 92 k_c_carve = true := by decide +kernel
set_option maxRecDepth 100000 in
set_option maxHeartbeats 40000000 in
theorem ck_c_carved : kchk prog HT kc_c_carved tb_c_carved 39 93 k_c_carved = true := by decide +kernel
set_option maxRecDepth 100000 in
set_option maxHeartbeats 40000000 in
theorem ck_c_deal : kchk prog HT kc_c_deal tb_c_deal 161 94 k_c_deal = true := by decide +kernel
set_option maxRecDepth 100000 in
set_option maxHeartbeats 40000000 in
theorem ck_c_seed : kchk prog HT kc_c_seed tb_c_seed 13 95 k_c_seed = true := by decide +kernel
set_option maxRecDepth 100000 in
set_option maxHeartbeats 40000000 in
theorem ck_c_falseAt : kchk prog HT kc_c_falseAt tb_c_falseAt 51 96 k_c_falseAt = true := by decide +kernel
set_option maxRecDepth 100000 in
set_option maxHeartbeats 40000000 in
theorem ck_c_fits : kchk prog HT kc_c_fits tb_c_fits 74 97 k_c_fits = true := by decide +kernel
set_option maxRecDepth 100000 in
set_option maxHeartbeats 40000000 in
theorem ck_c_join : kchk prog HT kc_c_join tb_c_join 97 98 k_c_join = true := by decide +kernel
set_option maxRecDepth 100000 in
set_option maxHeartbeats 40000000 in
theorem ck_c_clash : kchk prog HT kc_c_clash tb_c_clash 61 99 k_c_clash = true := by decide +kernel
set_option maxRecDepth 100000 in
set_option maxHeartbeats 40000000 in
theorem ck_c_undone : kchk prog HT kc_c_undone tb_c_undone 135 100 k_c_undone = true := by decide +kernel
set_option maxRecDepth 100000 in
set_option maxHeartbeats 40000000 in
theorem ck_c_borne : kchk prog HT kc_c_borne tb_c_borne 134 101 k_c_borne = true := by decide +kernel
set_option maxRecDepth 100000 in
set_option maxHeartbeats 40000000 in
theorem ck_c_look : kchk prog HT kc_c_look tb_c_look 45 102 k_c_look = true := by decide +kernel
set_option maxRecDepth 100000 in
set_option maxHeartbeats 40000000 in
theorem ck_c_tides : kchk prog HT kc_c_tides tb_c_tides 37 103 k_c_tides = true := by decide +kernel
end
section
/-! ===== contracts checked, piece 2 (printed by program) ===== -/
set_option maxRecDepth 100000 in
set_option maxHeartbeats 40000000 in
theorem ck_c_book : kchk prog HT kc_c_book tb_c_book 18 104 k_c_book = true := by decide +kernel
set_option maxRecDepth 100000 in
set_option maxHeartbeats 40000000 in
theorem ck_c_behind : kchk prog HT kc_c_behind tb_c_behind 79 105 k_c_behind = true := by decide +kernel
set_option maxRecDepth 100000 in
set_option maxHeartbeats 40000000 in
theorem ck_c_lasts : kchk prog HT kc_c_lasts tb_c_lasts 25 106 k_c_lasts = true := by decide +kernel
set_option maxRecDepth 100000 in
set_option maxHeartbeats 40000000 in
theorem ck_c_best : kchk prog HT kc_c_best tb_c_best 145 107 k_c_best = true := by decide +kernel
set_option maxRecDepth 100000 in
set_option maxHeartbeats 40000000 in
theorem ck_c_taught : kchk prog HT kc_c_taught tb_c_taught 102 108 k_c_taught = true := by decide +kernel
set_option maxRecDepth 100000 in
set_option maxHeartbeats 40000000 in
theorem ck_apart : kchk prog HT kc_apart tb_apart 57 139 k_apart = true := by decide +kernel
set_option maxRecDepth 100000 in
set_option maxHeartbeats 40000000 in
theorem ck_c_whose : kchk prog HT kc_c_whose tb_c_whose 93 109 k_c_whose = true := by decide +kernel
set_option maxRecDepth 100000 in
set_option maxHeartbeats 40000000 in
theorem ck_c_fine : kchk prog HT kc_c_fine tb_c_fine 86 111 k_c_fine = true := by decide +kernel
set_option maxRecDepth 100000 in
set_option maxHeartbeats 40000000 in
theorem ck_c_feed : kchk prog HT kc_c_feed tb_c_feed 396 112 k_c_feed = true := by decide +kernel
set_option maxRecDepth 100000 in
set_option maxHeartbeats 40000000 in
theorem ck_c_trim : kchk prog HT kc_c_trim tb_c_trim 25 113 k_c_trim = true := by decide +kernel
set_option maxRecDepth 100000 in
set_option maxHeartbeats 40000000 in
theorem ck_c_textTold : kchk prog HT kc_c_textTold tb_c_textTold 53 115 k_c_textTold = true := by decide +kernel
set_option maxRecDepth 100000 in
set_option maxHeartbeats 40000000 in
theorem ck_c_why : kchk prog HT kc_c_why tb_c_why 36 116 k_c_why = true := by decide +kernel
set_option maxRecDepth 100000 in
set_option maxHeartbeats 40000000 in
theorem ck_c_sheet : kchk prog HT kc_c_sheet tb_c_sheet 286 117 k_c_sheet = true := by decide +kernel
set_option maxRecDepth 100000 in
set_option maxHeartbeats 40000000 in
theorem ck_c_mark : kchk prog HT kc_c_mark tb_c_mark 94 118 k_c_mark = true := by decide +kernel
set_option maxRecDepth 100000 in
set_option maxHeartbeats 40000000 in
theorem ck_c_pour : kchk prog HT kc_c_pour tb_c_pour 122 119 k_c_pour = true := by decide +kernel
set_option maxRecDepth 100000 in
set_option maxHeartbeats 40000000 in
theorem ck_c_reads : kchk prog HT kc_c_reads tb_c_reads 100 120 k_c_reads = true := by decide +kernel
set_option maxRecDepth 100000 in
set_option maxHeartbeats 40000000 in
theorem ck_c_copy : kchk prog HT kc_c_copy tb_c_copy 130 121 k_c_copy = true := by decide +kernel
set_option maxRecDepth 100000 in
set_option maxHeartbeats 40000000 in
theorem ck_c_lay : kchk prog HT kc_c_lay tb_c_lay 135 122 k_c_lay = true := by decide +kernel
set_option maxRecDepth 100000 in
set_option maxHeartbeats 40000000 in
theorem ck_c_fee : kchk prog HT kc_c_fee tb_c_fee 63 110 k_c_fee = true := by decide +kernel
set_option maxRecDepth 100000 in
set_option maxHeartbeats 40000000 in
theorem ck_c_ask : kchk prog HT kc_c_ask tb_c_ask 56 123 k_c_ask = true := by decide +kernel
set_option maxRecDepth 100000 in
set_option maxHeartbeats 40000000 in
theorem ck_c_as : kchk prog HT kc_c_as tb_c_as 52 89 k_c_as = true := by decide +kernel
set_option maxRecDepth 100000 in
set_option maxHeartbeats 40000000 in
theorem ck_c_item : kchk prog HT kc_c_item tb_c_item 78 124 k_c_item = true := by decide +kernel
set_option maxRecDepth 100000 in
set_option maxHeartbeats 40000000 in
theorem ck_c_rest : kchk prog HT kc_c_rest tb_c_rest 36 125 k_c_rest = true := by decide +kernel
set_option maxRecDepth 100000 in
set_option maxHeartbeats 40000000 in
theorem ck_c_tell : kchk prog HT kc_c_tell tb_c_tell 27 126 k_c_tell = true := by decide +kernel
set_option maxRecDepth 100000 in
set_option maxHeartbeats 40000000 in
theorem ck_c_check : kchk prog HT kc_c_check tb_c_check 124 127 k_c_check = true := by decide +kernel
set_option maxRecDepth 100000 in
set_option maxHeartbeats 40000000 in
theorem ck_c_keep : kchk prog HT kc_c_keep tb_c_keep 15 128 k_c_keep = true := by decide +kernel
set_option maxRecDepth 100000 in
set_option maxHeartbeats 40000000 in
theorem ck_c_back : kchk prog HT kc_c_back tb_c_back 15 129 k_c_back = true := by decide +kernel
set_option maxRecDepth 100000 in
set_option maxHeartbeats 40000000 in
theorem ck_c_count : kchk prog HT kc_c_count tb_c_count 52 130 k_c_count = true := by decide +kernel
set_option maxRecDepth 100000 in
set_option maxHeartbeats 40000000 in
theorem ck_add : kchk prog HT kc_add tb_add 25 2 k_add = true := by decide +kernel
set_option maxRecDepth 100000 in
set_option maxHeartbeats 40000000 in
theorem ck_unwind : kchk prog HT kc_unwind tb_unwind 65 29 k_unwind = true := by decide +kernel
end
section
/-! ===== contracts checked, piece 3 (printed by program) ===== -/
set_option maxRecDepth 100000 in
set_option maxHeartbeats 40000000 in
theorem ck_endPiece : kchk prog HT kc_endPiece tb_endPiece 66 28 k_endPiece = true := by decide +kernel
set_option maxRecDepth 100000 in
set_option maxHeartbeats 40000000 in
theorem ck_nextWord : kchk prog HT kc_nextWord tb_nextWord 174 16 k_nextWord = true := by decide +kernel
set_option maxRecDepth 100000 in
set_option maxHeartbeats 40000000 in
theorem ck_numberRead : kchk prog HT kc_numberRead tb_numberRead 50 24 k_numberRead = true := by decide +kernel
set_option maxRecDepth 100000 in
set_option maxHeartbeats 40000000 in
theorem ck_takePiece : kchk prog HT kc_takePiece tb_takePiece 29 23 k_takePiece = true := by decide +kernel
set_option maxRecDepth 100000 in
set_option maxHeartbeats 40000000 in
theorem ck_takeAhead : kchk prog HT kc_takeAhead tb_takeAhead 46 26 k_takeAhead = true := by decide +kernel
set_option maxRecDepth 100000 in
set_option maxHeartbeats 40000000 in
theorem ck_takeBehind : kchk prog HT kc_takeBehind tb_takeBehind 85 27 k_takeBehind = true := by decide +kernel
set_option maxRecDepth 100000 in
set_option maxHeartbeats 40000000 in
theorem ck_goesOn : kchk prog HT kc_goesOn tb_goesOn 35 22 k_goesOn = true := by decide +kernel
set_option maxRecDepth 100000 in
set_option maxHeartbeats 40000000 in
theorem ck_readInto : kchk prog HT kc_readInto tb_readInto 64 15 k_readInto = true := by decide +kernel
set_option maxRecDepth 100000 in
set_option maxHeartbeats 40000000 in
theorem ck_addText : kchk prog HT kc_addText tb_addText 79 84 k_addText = true := by decide +kernel
set_option maxRecDepth 100000 in
set_option maxHeartbeats 40000000 in
theorem ck_c_text : kchk prog HT kc_c_text tb_c_text 26 114 k_c_text = true := by decide +kernel
end
section
/-! ===== contracts (printed by program) ===== -/
def k_m_manyIn : aK := ([.inl ((-2147483648), 2147483647)], some ((-2147483648), 2147483647), [], 8)
def k_m_saysAt : aK := ([.inr (false, [110]), .inl (0, 8), .inl ((-2147483648), 2147483647)], some ((-2147483648), 2147483647), [], 10)
def tb_m_saysAt : aTb := fun mi i => none
def kc_m_saysAt : List (Nat × aK) := []
def k_m_loses : aK := ([.inr (false, [110]), .inl (0, 8)], some ((-2147483648), 2147483647), [], 10)
def tb_m_loses : aTb := fun mi i => none
def kc_m_loses : List (Nat × aK) := []
def k_m_worth : aK := ([.inr (false, [110]), .inl (0, 8)], some ((-2147483648), 2147483647), [], 10)
def tb_m_worth : aTb := fun mi i => none
def kc_m_worth : List (Nat × aK) := []
def k_m_covers : aK := ([.inr (false, [110]), .inl (0, 8)], some ((-2147483648), 2147483647), [], 10)
def tb_m_covers : aTb := fun mi i => none
def kc_m_covers : List (Nat × aK) := []
def k_m_counts : aK := ([.inr (false, [110]), .inl ((-2147483648), 2147483647)], some ((-1), 13), [], 10)
def tb_m_counts : aTb := fun mi i => if mi = 222 ∧ i = 4 then some ([((-1), 13, .inl 2), (0, 2147483647, .inl 3)], [], [], [], 1, true) else none
def kc_m_counts : List (Nat × aK) := []
def k_m_worked : aK := ([.inr (false, [110]), .inl (0, 13)], some ((-2147483648), 2147483647), [(125, 125, 0, 127), (126, 126, 0, 99)], 10)
def k_m_gains : aK := ([.inr (false, [110]), .inl (0, 8)], some ((-2147483648), 2147483647), [(125, 125, 0, 127), (126, 126, 0, 99)], 14)
def tb_m_gains : aTb := fun mi i => none
def kc_m_gains : List (Nat × aK) := [(222, k_m_counts), (225, k_m_worked)]
def k_m_falseOf : aK := ([.inr (false, [110]), .inl (0, 8), .inl (0, 16)], some ((-2147483648), 2147483647), [], 14)
def tb_m_falseOf : aTb := fun mi i => if mi = 175 ∧ i = 4 then some ([((-2147483648), 2147483647, .inl 3), (0, 2147483647, .inl 4)], [], [], [], 1, true) else none
def kc_m_falseOf : List (Nat × aK) := [(158, k_m_saysAt), (160, k_m_loses), (161, k_m_worth), (163, k_m_covers), (222, k_m_counts), (159, k_m_gains), (147, k_m_manyIn), (225, k_m_worked)]
def k_m_joinBy : aK := ([.inr (false, [110]), .inl (0, 8), .inl (0, 8), .inl (0, 8)], some ((-2147483648), 2147483647), [], 14)
def tb_m_joinBy : aTb := fun mi i => if mi = 178 ∧ i = 4 then some ([((-2147483648), 2147483647, .inl 4), (0, 2147483647, .inl 5)], [], [], [], 1, true) else none
def kc_m_joinBy : List (Nat × aK) := [(158, k_m_saysAt), (160, k_m_loses), (161, k_m_worth), (163, k_m_covers), (222, k_m_counts), (159, k_m_gains), (147, k_m_manyIn), (225, k_m_worked)]
def k_m_doClash : aK := ([.inr (false, [110]), .inl (0, 8), .inl (0, 8)], some (0, 1), [], 14)
def tb_m_doClash : aTb := fun mi i => if mi = 180 ∧ i = 10 then some ([(0, 2147483647, .inl 4)], [], [], [], 0, true) else none
def kc_m_doClash : List (Nat × aK) := [(158, k_m_saysAt), (160, k_m_loses), (161, k_m_worth), (163, k_m_covers), (222, k_m_counts), (159, k_m_gains), (147, k_m_manyIn), (225, k_m_worked)]
def k_m_laidOnes : aK := ([.inr (false, [110])], some ((-2147483648), 2147483647), [], 14)
def tb_m_laidOnes : aTb := fun mi i => if mi = 182 ∧ i = 4 then some ([((-2147483648), 2147483647, .inl 1), (0, 2147483647, .inl 2)], [], [], [], 1, true) else none
def kc_m_laidOnes : List (Nat × aK) := [(158, k_m_saysAt), (160, k_m_loses), (161, k_m_worth), (163, k_m_covers), (222, k_m_counts), (159, k_m_gains), (147, k_m_manyIn), (225, k_m_worked)]
def k_m_coveredBy : aK := ([.inr (false, [110]), .inl ((-2147483648), 2147483647)], some ((-2147483648), 2147483647), [], 14)
def tb_m_coveredBy : aTb := fun mi i => if mi = 183 ∧ i = 4 then some ([((-2147483648), 2147483647, .inl 2), (0, 2147483647, .inl 3)], [], [], [], 1, true) else none
def kc_m_coveredBy : List (Nat × aK) := [(158, k_m_saysAt), (160, k_m_loses), (161, k_m_worth), (163, k_m_covers), (222, k_m_counts), (159, k_m_gains), (147, k_m_manyIn), (225, k_m_worked)]
def k_m_findClashing : aK := ([.inr (false, [110])], none, [(122, 122, 0, 8)], 18)
def tb_m_findClashing : aTb := fun mi i => if mi = 184 ∧ i = 2 then some ([(0, 2147483647, .inl 1)], [], [2], [(122, 122, 0, 8)], 0, true) else if mi = 184 ∧ i = 15 then some ([(0, 2147483647, .inl 2)], [], [], [(122, 122, 0, 8)], 0, true) else none
def kc_m_findClashing : List (Nat × aK) := [(158, k_m_saysAt), (160, k_m_loses), (161, k_m_worth), (163, k_m_covers), (222, k_m_counts), (159, k_m_gains), (147, k_m_manyIn), (225, k_m_worked), (175, k_m_falseOf), (178, k_m_joinBy), (180, k_m_doClash), (182, k_m_laidOnes), (183, k_m_coveredBy)]
def k_m_areAtPeace : aK := ([.inr (false, [110]), .inl ((-2147483648), 2147483647)], some (0, 1), [], 18)
def tb_m_areAtPeace : aTb := fun mi i => if mi = 185 ∧ i = 2 then some ([(0, 2147483647, .inl 2)], [], [], [], 0, true) else none
def kc_m_areAtPeace : List (Nat × aK) := [(158, k_m_saysAt), (160, k_m_loses), (161, k_m_worth), (163, k_m_covers), (222, k_m_counts), (159, k_m_gains), (147, k_m_manyIn), (225, k_m_worked), (175, k_m_falseOf), (178, k_m_joinBy), (180, k_m_doClash), (182, k_m_laidOnes), (183, k_m_coveredBy)]
def k_m_otherwiseAt : aK := ([.inr (false, [110]), .inl (0, 15)], some ((-2147483648), 2147483647), [], 18)
def tb_m_otherwiseAt : aTb := fun mi i => if mi = 188 ∧ i = 4 then some ([((-2147483648), 2147483647, .inl 2), (0, 2147483647, .inl 3)], [], [], [], 1, true) else none
def kc_m_otherwiseAt : List (Nat × aK) := [(158, k_m_saysAt), (160, k_m_loses), (161, k_m_worth), (163, k_m_covers), (222, k_m_counts), (159, k_m_gains), (147, k_m_manyIn), (225, k_m_worked), (175, k_m_falseOf), (178, k_m_joinBy), (180, k_m_doClash), (182, k_m_laidOnes), (183, k_m_coveredBy)]
def k_m_allTrust : aK := ([.inr (false, [110])], some ((-2147483648), 2147483647), [], 18)
def tb_m_allTrust : aTb := fun mi i => if mi = 193 ∧ i = 4 then some ([((-2147483648), 2147483647, .inl 1), (0, 2147483647, .inl 2)], [], [], [], 1, true) else none
def kc_m_allTrust : List (Nat × aK) := [(158, k_m_saysAt), (160, k_m_loses), (161, k_m_worth), (163, k_m_covers), (222, k_m_counts), (159, k_m_gains), (147, k_m_manyIn), (225, k_m_worked), (175, k_m_falseOf), (178, k_m_joinBy), (180, k_m_doClash), (182, k_m_laidOnes), (183, k_m_coveredBy)]
def k_m_goesOn : aK := ([.inr (false, [110])], none, [(125, 125, 0, 127), (126, 126, 0, 99), (111, 111, 0, 0), (111, 111, 2, 74)], 22)
def tb_m_goesOn : aTb := fun mi i => if mi = 190 ∧ i = 7 then some ([(0, 2147483647, .inl 2)], [], [3, 4], [(125, 125, 0, 127), (126, 126, 0, 99), (111, 111, 0, 0), (111, 111, 2, 74)], 0, true) else none
def kc_m_goesOn : List (Nat × aK) := [(158, k_m_saysAt), (160, k_m_loses), (161, k_m_worth), (163, k_m_covers), (222, k_m_counts), (159, k_m_gains), (147, k_m_manyIn), (225, k_m_worked), (175, k_m_falseOf), (178, k_m_joinBy), (180, k_m_doClash), (182, k_m_laidOnes), (183, k_m_coveredBy)]
def k_m_goesOnMany : aK := ([.inr (false, [110]), .inl ((-2147483648), 2147483647)], none, [(125, 125, 0, 127), (126, 126, 0, 99), (111, 111, 0, 0), (111, 111, 2, 74)], 26)
def tb_m_goesOnMany : aTb := fun mi i => if mi = 191 ∧ i = 2 then some ([(0, 2147483647, .inl 2)], [], [], [(125, 125, 0, 127), (126, 126, 0, 99), (111, 111, 0, 0), (111, 111, 2, 74)], 0, true) else none
def kc_m_goesOnMany : List (Nat × aK) := [(158, k_m_saysAt), (160, k_m_loses), (161, k_m_worth), (163, k_m_covers), (222, k_m_counts), (159, k_m_gains), (147, k_m_manyIn), (225, k_m_worked), (175, k_m_falseOf), (178, k_m_joinBy), (180, k_m_doClash), (182, k_m_laidOnes), (183, k_m_coveredBy), (184, k_m_findClashing), (185, k_m_areAtPeace), (188, k_m_otherwiseAt), (193, k_m_allTrust), (190, k_m_goesOn)]
def k_m_laysBy : aK := ([.inr (false, [110])], none, [(123, 123, 0, 74)], 10)
def k_m_laysBack : aK := ([.inr (false, [110])], none, [(111, 111, 0, 0), (111, 111, 2, 74)], 10)
def k_m_parse : aK := ([.inr (false, [110])], some ((-1), 2), [(110, 110, 15, 25), (111, 111, 75, 3074)], 100)
def k_r_rubbing : aK := ([.inr (false, [110]), .inl ((-2147483648), 2147483647), .inl ((-2147483648), 2147483647), .inl ((-2147483648), 2147483647)], some ((-2147483648), 2147483647), [(111, 111, 0, 0), (111, 111, 2, 74)], 50)
def tb_r_rubbing : aTb := fun mi i => none
def kc_r_rubbing : List (Nat × aK) := [(158, k_m_saysAt), (160, k_m_loses), (161, k_m_worth), (163, k_m_covers), (222, k_m_counts), (159, k_m_gains), (147, k_m_manyIn), (225, k_m_worked), (175, k_m_falseOf), (178, k_m_joinBy), (180, k_m_doClash), (182, k_m_laidOnes), (183, k_m_coveredBy), (184, k_m_findClashing), (185, k_m_areAtPeace), (188, k_m_otherwiseAt), (193, k_m_allTrust), (190, k_m_goesOn), (191, k_m_goesOnMany)]
def k_r_told : aK := ([.inr (false, [110]), .inl ((-2147483648), 2147483647), .inl ((-2147483648), 2147483647)], some ((-2147483648), 2147483647), [(125, 125, 0, 127), (126, 126, 0, 99)], 50)
def tb_r_told : aTb := fun mi i => none
def kc_r_told : List (Nat × aK) := [(158, k_m_saysAt), (160, k_m_loses), (161, k_m_worth), (163, k_m_covers), (222, k_m_counts), (159, k_m_gains), (147, k_m_manyIn), (225, k_m_worked), (175, k_m_falseOf), (178, k_m_joinBy), (180, k_m_doClash), (182, k_m_laidOnes), (183, k_m_coveredBy), (184, k_m_findClashing), (185, k_m_areAtPeace), (188, k_m_otherwiseAt), (193, k_m_allTrust), (190, k_m_goesOn), (191, k_m_goesOnMany)]
def k_r_says : aK := ([.inr (false, [110]), .inl ((-2147483648), 2147483647), .inl ((-2147483648), 2147483647)], some ((-2147483648), 2147483647), [], 50)
def tb_r_says : aTb := fun mi i => none
def kc_r_says : List (Nat × aK) := [(158, k_m_saysAt), (160, k_m_loses), (161, k_m_worth), (163, k_m_covers), (222, k_m_counts), (159, k_m_gains), (147, k_m_manyIn), (225, k_m_worked), (175, k_m_falseOf), (178, k_m_joinBy), (180, k_m_doClash), (182, k_m_laidOnes), (183, k_m_coveredBy), (184, k_m_findClashing), (185, k_m_areAtPeace), (188, k_m_otherwiseAt), (193, k_m_allTrust), (190, k_m_goesOn), (191, k_m_goesOnMany)]
def k_r_as : aK := ([.inr (false, [110]), .inl ((-2147483648), 2147483647), .inl ((-2147483648), 2147483647)], some ((-2147483648), 2147483647), [], 50)
def tb_r_as : aTb := fun mi i => none
def kc_r_as : List (Nat × aK) := [(158, k_m_saysAt), (160, k_m_loses), (161, k_m_worth), (163, k_m_covers), (222, k_m_counts), (159, k_m_gains), (147, k_m_manyIn), (225, k_m_worked), (175, k_m_falseOf), (178, k_m_joinBy), (180, k_m_doClash), (182, k_m_laidOnes), (183, k_m_coveredBy), (184, k_m_findClashing), (185, k_m_areAtPeace), (188, k_m_otherwiseAt), (193, k_m_allTrust), (190, k_m_goesOn), (191, k_m_goesOnMany)]
def k_r_turns : aK := ([.inr (false, [110]), .inl ((-2147483648), 2147483647), .inl ((-2147483648), 2147483647)], some ((-2147483648), 2147483647), [(111, 111, 0, 0), (111, 111, 2, 74)], 50)
def tb_r_turns : aTb := fun mi i => none
def kc_r_turns : List (Nat × aK) := [(158, k_m_saysAt), (160, k_m_loses), (161, k_m_worth), (163, k_m_covers), (222, k_m_counts), (159, k_m_gains), (147, k_m_manyIn), (225, k_m_worked), (175, k_m_falseOf), (178, k_m_joinBy), (180, k_m_doClash), (182, k_m_laidOnes), (183, k_m_coveredBy), (184, k_m_findClashing), (185, k_m_areAtPeace), (188, k_m_otherwiseAt), (193, k_m_allTrust), (190, k_m_goesOn), (191, k_m_goesOnMany)]
def k_r_set : aK := ([.inr (false, [110]), .inl ((-2147483648), 2147483647), .inl ((-2147483648), 2147483647), .inl ((-2147483648), 2147483647)], some ((-2147483648), 2147483647), [(111, 111, 0, 0), (111, 111, 2, 74)], 50)
def tb_r_set : aTb := fun mi i => none
def kc_r_set : List (Nat × aK) := [(158, k_m_saysAt), (160, k_m_loses), (161, k_m_worth), (163, k_m_covers), (222, k_m_counts), (159, k_m_gains), (147, k_m_manyIn), (225, k_m_worked), (175, k_m_falseOf), (178, k_m_joinBy), (180, k_m_doClash), (182, k_m_laidOnes), (183, k_m_coveredBy), (184, k_m_findClashing), (185, k_m_areAtPeace), (188, k_m_otherwiseAt), (193, k_m_allTrust), (190, k_m_goesOn), (191, k_m_goesOnMany)]
def k_r_carve : aK := ([.inr (false, [110]), .inl ((-2147483648), 2147483647), .inl ((-2147483648), 2147483647)], some ((-2147483648), 2147483647), [(111, 111, 0, 0), (111, 111, 2, 74)], 50)
def tb_r_carve : aTb := fun mi i => none
def kc_r_carve : List (Nat × aK) := [(158, k_m_saysAt), (160, k_m_loses), (161, k_m_worth), (163, k_m_covers), (222, k_m_counts), (159, k_m_gains), (147, k_m_manyIn), (225, k_m_worked), (175, k_m_falseOf), (178, k_m_joinBy), (180, k_m_doClash), (182, k_m_laidOnes), (183, k_m_coveredBy), (184, k_m_findClashing), (185, k_m_areAtPeace), (188, k_m_otherwiseAt), (193, k_m_allTrust), (190, k_m_goesOn), (191, k_m_goesOnMany)]
def k_r_carved : aK := ([.inr (false, [110]), .inl ((-2147483648), 2147483647)], some ((-2147483648), 2147483647), [], 50)
def tb_r_carved : aTb := fun mi i => none
def kc_r_carved : List (Nat × aK) := [(158, k_m_saysAt), (160, k_m_loses), (161, k_m_worth), (163, k_m_covers), (222, k_m_counts), (159, k_m_gains), (147, k_m_manyIn), (225, k_m_worked), (175, k_m_falseOf), (178, k_m_joinBy), (180, k_m_doClash), (182, k_m_laidOnes), (183, k_m_coveredBy), (184, k_m_findClashing), (185, k_m_areAtPeace), (188, k_m_otherwiseAt), (193, k_m_allTrust), (190, k_m_goesOn), (191, k_m_goesOnMany)]
def k_r_deal : aK := ([.inr (false, [110]), .inl ((-2147483648), 2147483647)], some ((-2147483648), 2147483647), [(111, 111, 0, 0), (111, 111, 2, 74)], 50)
def tb_r_deal : aTb := fun mi i => if mi = 173 ∧ i = 10 then some ([(0, 2147483647, .inl 2)], [], [3, 4], [(111, 111, 0, 0), (111, 111, 2, 74)], 0, true) else none
def kc_r_deal : List (Nat × aK) := [(158, k_m_saysAt), (160, k_m_loses), (161, k_m_worth), (163, k_m_covers), (222, k_m_counts), (159, k_m_gains), (147, k_m_manyIn), (225, k_m_worked), (175, k_m_falseOf), (178, k_m_joinBy), (180, k_m_doClash), (182, k_m_laidOnes), (183, k_m_coveredBy), (184, k_m_findClashing), (185, k_m_areAtPeace), (188, k_m_otherwiseAt), (193, k_m_allTrust), (190, k_m_goesOn), (191, k_m_goesOnMany)]
def k_r_seed : aK := ([.inr (false, [110]), .inl ((-2147483648), 2147483647)], some ((-2147483648), 2147483647), [(111, 111, 0, 0), (111, 111, 2, 74)], 50)
def tb_r_seed : aTb := fun mi i => none
def kc_r_seed : List (Nat × aK) := [(158, k_m_saysAt), (160, k_m_loses), (161, k_m_worth), (163, k_m_covers), (222, k_m_counts), (159, k_m_gains), (147, k_m_manyIn), (225, k_m_worked), (175, k_m_falseOf), (178, k_m_joinBy), (180, k_m_doClash), (182, k_m_laidOnes), (183, k_m_coveredBy), (184, k_m_findClashing), (185, k_m_areAtPeace), (188, k_m_otherwiseAt), (193, k_m_allTrust), (190, k_m_goesOn), (191, k_m_goesOnMany)]
def k_r_falseAt : aK := ([.inr (false, [110]), .inl ((-2147483648), 2147483647), .inl ((-2147483648), 2147483647)], some ((-2147483648), 2147483647), [], 50)
def tb_r_falseAt : aTb := fun mi i => none
def kc_r_falseAt : List (Nat × aK) := [(158, k_m_saysAt), (160, k_m_loses), (161, k_m_worth), (163, k_m_covers), (222, k_m_counts), (159, k_m_gains), (147, k_m_manyIn), (225, k_m_worked), (175, k_m_falseOf), (178, k_m_joinBy), (180, k_m_doClash), (182, k_m_laidOnes), (183, k_m_coveredBy), (184, k_m_findClashing), (185, k_m_areAtPeace), (188, k_m_otherwiseAt), (193, k_m_allTrust), (190, k_m_goesOn), (191, k_m_goesOnMany)]
def k_r_fits : aK := ([.inr (false, [110]), .inl ((-2147483648), 2147483647), .inl ((-2147483648), 2147483647)], some ((-2147483648), 2147483647), [], 50)
def tb_r_fits : aTb := fun mi i => if mi = 177 ∧ i = 16 then some ([(0, 16, .inl 3), (0, 2147483647, .inl 4)], [], [], [], 1, true) else none
def kc_r_fits : List (Nat × aK) := [(158, k_m_saysAt), (160, k_m_loses), (161, k_m_worth), (163, k_m_covers), (222, k_m_counts), (159, k_m_gains), (147, k_m_manyIn), (225, k_m_worked), (175, k_m_falseOf), (178, k_m_joinBy), (180, k_m_doClash), (182, k_m_laidOnes), (183, k_m_coveredBy), (184, k_m_findClashing), (185, k_m_areAtPeace), (188, k_m_otherwiseAt), (193, k_m_allTrust), (190, k_m_goesOn), (191, k_m_goesOnMany)]
def k_r_join : aK := ([.inr (false, [110]), .inl ((-2147483648), 2147483647), .inl ((-2147483648), 2147483647), .inl ((-2147483648), 2147483647)], some ((-2147483648), 2147483647), [], 50)
def tb_r_join : aTb := fun mi i => if mi = 179 ∧ i = 23 then some ([(0, 8, .inl 4), (0, 2147483647, .inl 5)], [], [], [], 1, true) else none
def kc_r_join : List (Nat × aK) := [(158, k_m_saysAt), (160, k_m_loses), (161, k_m_worth), (163, k_m_covers), (222, k_m_counts), (159, k_m_gains), (147, k_m_manyIn), (225, k_m_worked), (175, k_m_falseOf), (178, k_m_joinBy), (180, k_m_doClash), (182, k_m_laidOnes), (183, k_m_coveredBy), (184, k_m_findClashing), (185, k_m_areAtPeace), (188, k_m_otherwiseAt), (193, k_m_allTrust), (190, k_m_goesOn), (191, k_m_goesOnMany)]
def k_r_clash : aK := ([.inr (false, [110]), .inl ((-2147483648), 2147483647), .inl ((-2147483648), 2147483647)], some ((-2147483648), 2147483647), [], 50)
def tb_r_clash : aTb := fun mi i => none
def kc_r_clash : List (Nat × aK) := [(158, k_m_saysAt), (160, k_m_loses), (161, k_m_worth), (163, k_m_covers), (222, k_m_counts), (159, k_m_gains), (147, k_m_manyIn), (225, k_m_worked), (175, k_m_falseOf), (178, k_m_joinBy), (180, k_m_doClash), (182, k_m_laidOnes), (183, k_m_coveredBy), (184, k_m_findClashing), (185, k_m_areAtPeace), (188, k_m_otherwiseAt), (193, k_m_allTrust), (190, k_m_goesOn), (191, k_m_goesOnMany)]
def k_r_undone : aK := ([.inr (false, [110])], some ((-2147483648), 2147483647), [(122, 122, 0, 8)], 50)
def tb_r_undone : aTb := fun mi i => if mi = 186 ∧ i = 9 then some ([((-2147483648), 2147483647, .inl 2), ((-2147483648), 2147483647, .inl 3)], [], [4], [(122, 122, 0, 8)], 1, false) else none
def kc_r_undone : List (Nat × aK) := [(158, k_m_saysAt), (160, k_m_loses), (161, k_m_worth), (163, k_m_covers), (222, k_m_counts), (159, k_m_gains), (147, k_m_manyIn), (225, k_m_worked), (175, k_m_falseOf), (178, k_m_joinBy), (180, k_m_doClash), (182, k_m_laidOnes), (183, k_m_coveredBy), (184, k_m_findClashing), (185, k_m_areAtPeace), (188, k_m_otherwiseAt), (193, k_m_allTrust), (190, k_m_goesOn), (191, k_m_goesOnMany)]
def k_r_borne : aK := ([.inr (false, [110])], some ((-2147483648), 2147483647), [], 50)
def tb_r_borne : aTb := fun mi i => if mi = 187 ∧ i = 11 then some ([((-2147483648), 2147483647, .inl 3), ((-2147483648), 2147483647, .inl 4)], [], [5], [], 1, false) else none
def kc_r_borne : List (Nat × aK) := [(158, k_m_saysAt), (160, k_m_loses), (161, k_m_worth), (163, k_m_covers), (222, k_m_counts), (159, k_m_gains), (147, k_m_manyIn), (225, k_m_worked), (175, k_m_falseOf), (178, k_m_joinBy), (180, k_m_doClash), (182, k_m_laidOnes), (183, k_m_coveredBy), (184, k_m_findClashing), (185, k_m_areAtPeace), (188, k_m_otherwiseAt), (193, k_m_allTrust), (190, k_m_goesOn), (191, k_m_goesOnMany)]
def k_r_look : aK := ([.inr (false, [110]), .inl ((-2147483648), 2147483647)], some ((-2147483648), 2147483647), [], 50)
def tb_r_look : aTb := fun mi i => if mi = 189 ∧ i = 12 then some ([(0, 15, .inl 2), (0, 2147483647, .inl 3)], [], [], [], 1, true) else none
def kc_r_look : List (Nat × aK) := [(158, k_m_saysAt), (160, k_m_loses), (161, k_m_worth), (163, k_m_covers), (222, k_m_counts), (159, k_m_gains), (147, k_m_manyIn), (225, k_m_worked), (175, k_m_falseOf), (178, k_m_joinBy), (180, k_m_doClash), (182, k_m_laidOnes), (183, k_m_coveredBy), (184, k_m_findClashing), (185, k_m_areAtPeace), (188, k_m_otherwiseAt), (193, k_m_allTrust), (190, k_m_goesOn), (191, k_m_goesOnMany)]
def k_r_tides : aK := ([.inr (false, [110]), .inl ((-2147483648), 2147483647)], some ((-2147483648), 2147483647), [(125, 125, 0, 127), (126, 126, 0, 99), (111, 111, 0, 0), (111, 111, 2, 74)], 50)
def tb_r_tides : aTb := fun mi i => if mi = 192 ∧ i = 15 then some ([(0, 2147483647, .inl 3)], [], [], [(125, 125, 0, 127), (126, 126, 0, 99), (111, 111, 0, 0), (111, 111, 2, 74)], 0, true) else none
def kc_r_tides : List (Nat × aK) := [(158, k_m_saysAt), (160, k_m_loses), (161, k_m_worth), (163, k_m_covers), (222, k_m_counts), (159, k_m_gains), (147, k_m_manyIn), (225, k_m_worked), (175, k_m_falseOf), (178, k_m_joinBy), (180, k_m_doClash), (182, k_m_laidOnes), (183, k_m_coveredBy), (184, k_m_findClashing), (185, k_m_areAtPeace), (188, k_m_otherwiseAt), (193, k_m_allTrust), (190, k_m_goesOn), (191, k_m_goesOnMany)]
def k_r_book : aK := ([.inr (false, [110]), .inl ((-2147483648), 2147483647)], some ((-2147483648), 2147483647), [], 50)
def tb_r_book : aTb := fun mi i => none
def kc_r_book : List (Nat × aK) := [(158, k_m_saysAt), (160, k_m_loses), (161, k_m_worth), (163, k_m_covers), (222, k_m_counts), (159, k_m_gains), (147, k_m_manyIn), (225, k_m_worked), (175, k_m_falseOf), (178, k_m_joinBy), (180, k_m_doClash), (182, k_m_laidOnes), (183, k_m_coveredBy), (184, k_m_findClashing), (185, k_m_areAtPeace), (188, k_m_otherwiseAt), (193, k_m_allTrust), (190, k_m_goesOn), (191, k_m_goesOnMany)]
def k_r_behind : aK := ([.inr (false, [110]), .inl ((-2147483648), 2147483647), .inl ((-2147483648), 2147483647)], some ((-2147483648), 2147483647), [(125, 125, 0, 127), (126, 126, 0, 99), (123, 123, 0, 74)], 50)
def k_r_lasts : aK := ([.inr (false, [110])], some ((-2147483648), 2147483647), [(125, 125, 0, 127), (126, 126, 0, 99), (123, 123, 0, 74)], 50)
def k_r_best : aK := ([.inr (false, [110]), .inl ((-2147483648), 2147483647), .inl ((-2147483648), 2147483647), .inl ((-2147483648), 2147483647)], some ((-2147483648), 2147483647), [(125, 125, 0, 127), (126, 126, 0, 99), (123, 123, 0, 74)], 50)
def k_r_taught : aK := ([.inr (false, [110]), .inl ((-2147483648), 2147483647), .inl ((-2147483648), 2147483647)], some ((-2147483648), 2147483647), [(125, 125, 0, 127), (126, 126, 0, 99), (123, 123, 0, 74)], 50)
def k_r_whose : aK := ([.inr (false, [110]), .inl ((-2147483648), 2147483647), .inl ((-2147483648), 2147483647)], some ((-2147483648), 2147483647), [], 50)
def tb_r_whose : aTb := fun mi i => if mi = 231 ∧ i = 24 then some ([((-2147483648), 2147483647, .inl 3), ((-2147483648), 2147483647, .inl 4), (0, 2147483647, .inl 5)], [], [6, 7, 8], [], 2, true) else if mi = 231 ∧ i = 34 then some ([((-2147483648), 2147483647, .inl 6), (0, 2147483647, .inl 7)], [], [8], [], 1, true) else none
def kc_r_whose : List (Nat × aK) := [(158, k_m_saysAt), (160, k_m_loses), (161, k_m_worth), (163, k_m_covers), (222, k_m_counts), (159, k_m_gains), (147, k_m_manyIn), (225, k_m_worked), (175, k_m_falseOf), (178, k_m_joinBy), (180, k_m_doClash), (182, k_m_laidOnes), (183, k_m_coveredBy), (184, k_m_findClashing), (185, k_m_areAtPeace), (188, k_m_otherwiseAt), (193, k_m_allTrust), (190, k_m_goesOn), (191, k_m_goesOnMany)]
def k_r_fee : aK := ([.inr (false, [110])], some ((-2147483648), 2147483647), [(125, 125, 0, 127), (126, 126, 0, 99)], 50)
def tb_r_fee : aTb := fun mi i => none
def kc_r_fee : List (Nat × aK) := [(158, k_m_saysAt), (160, k_m_loses), (161, k_m_worth), (163, k_m_covers), (222, k_m_counts), (159, k_m_gains), (147, k_m_manyIn), (225, k_m_worked), (175, k_m_falseOf), (178, k_m_joinBy), (180, k_m_doClash), (182, k_m_laidOnes), (183, k_m_coveredBy), (184, k_m_findClashing), (185, k_m_areAtPeace), (188, k_m_otherwiseAt), (193, k_m_allTrust), (190, k_m_goesOn), (191, k_m_goesOnMany)]
def k_r_fine : aK := ([.inr (false, [110]), .inl ((-2147483648), 2147483647)], some ((-2147483648), 2147483647), [(125, 125, 0, 127), (126, 126, 0, 99)], 50)
def tb_r_fine : aTb := fun mi i => none
def kc_r_fine : List (Nat × aK) := [(158, k_m_saysAt), (160, k_m_loses), (161, k_m_worth), (163, k_m_covers), (222, k_m_counts), (159, k_m_gains), (147, k_m_manyIn), (225, k_m_worked), (175, k_m_falseOf), (178, k_m_joinBy), (180, k_m_doClash), (182, k_m_laidOnes), (183, k_m_coveredBy), (184, k_m_findClashing), (185, k_m_areAtPeace), (188, k_m_otherwiseAt), (193, k_m_allTrust), (190, k_m_goesOn), (191, k_m_goesOnMany)]
def k_r_feed : aK := ([.inr (false, [110]), .inl ((-2147483648), 2147483647), .inl ((-2147483648), 2147483647), .inl ((-2147483648), 2147483647)], some ((-2147483648), 2147483647), [(124, 124, 0, 95), (110, 110, 15, 15)], 50)
def tb_r_feed : aTb := fun mi i => none
def kc_r_feed : List (Nat × aK) := [(158, k_m_saysAt), (160, k_m_loses), (161, k_m_worth), (163, k_m_covers), (222, k_m_counts), (159, k_m_gains), (147, k_m_manyIn), (225, k_m_worked), (175, k_m_falseOf), (178, k_m_joinBy), (180, k_m_doClash), (182, k_m_laidOnes), (183, k_m_coveredBy), (184, k_m_findClashing), (185, k_m_areAtPeace), (188, k_m_otherwiseAt), (193, k_m_allTrust), (190, k_m_goesOn), (191, k_m_goesOnMany)]
def k_r_trim : aK := ([.inr (false, [110]), .inl ((-2147483648), 2147483647)], some ((-2147483648), 2147483647), [(110, 110, 15, 15)], 50)
def tb_r_trim : aTb := fun mi i => none
def kc_r_trim : List (Nat × aK) := [(158, k_m_saysAt), (160, k_m_loses), (161, k_m_worth), (163, k_m_covers), (222, k_m_counts), (159, k_m_gains), (147, k_m_manyIn), (225, k_m_worked), (175, k_m_falseOf), (178, k_m_joinBy), (180, k_m_doClash), (182, k_m_laidOnes), (183, k_m_coveredBy), (184, k_m_findClashing), (185, k_m_areAtPeace), (188, k_m_otherwiseAt), (193, k_m_allTrust), (190, k_m_goesOn), (191, k_m_goesOnMany)]
def k_r_textTold : aK := ([.inr (false, [110]), .inl ((-2147483648), 2147483647), .inl ((-2147483648), 2147483647)], some ((-2147483648), 2147483647), [], 50)
def tb_r_textTold : aTb := fun mi i => none
def kc_r_textTold : List (Nat × aK) := [(158, k_m_saysAt), (160, k_m_loses), (161, k_m_worth), (163, k_m_covers), (222, k_m_counts), (159, k_m_gains), (147, k_m_manyIn), (225, k_m_worked), (175, k_m_falseOf), (178, k_m_joinBy), (180, k_m_doClash), (182, k_m_laidOnes), (183, k_m_coveredBy), (184, k_m_findClashing), (185, k_m_areAtPeace), (188, k_m_otherwiseAt), (193, k_m_allTrust), (190, k_m_goesOn), (191, k_m_goesOnMany)]
def k_r_why : aK := ([.inr (false, [110]), .inl ((-2147483648), 2147483647)], some ((-2147483648), 2147483647), [], 50)
def tb_r_why : aTb := fun mi i => none
def kc_r_why : List (Nat × aK) := [(158, k_m_saysAt), (160, k_m_loses), (161, k_m_worth), (163, k_m_covers), (222, k_m_counts), (159, k_m_gains), (147, k_m_manyIn), (225, k_m_worked), (175, k_m_falseOf), (178, k_m_joinBy), (180, k_m_doClash), (182, k_m_laidOnes), (183, k_m_coveredBy), (184, k_m_findClashing), (185, k_m_areAtPeace), (188, k_m_otherwiseAt), (193, k_m_allTrust), (190, k_m_goesOn), (191, k_m_goesOnMany)]
def k_r_sheet : aK := ([.inr (false, [110]), .inl ((-2147483648), 2147483647), .inl ((-2147483648), 2147483647), .inl ((-2147483648), 2147483647)], some ((-2147483648), 2147483647), [(114, 114, 0, 3), (115, 115, 0, 3), (116, 116, 0, 95)], 50)
def tb_r_sheet : aTb := fun mi i => if mi = 227 ∧ i = 38 then some ([(0, 2147483647, .inl 4)], [], [], [(114, 114, 0, 3), (115, 115, 0, 3), (116, 116, 0, 95)], 0, true) else none
def kc_r_sheet : List (Nat × aK) := [(158, k_m_saysAt), (160, k_m_loses), (161, k_m_worth), (163, k_m_covers), (222, k_m_counts), (159, k_m_gains), (147, k_m_manyIn), (225, k_m_worked), (175, k_m_falseOf), (178, k_m_joinBy), (180, k_m_doClash), (182, k_m_laidOnes), (183, k_m_coveredBy), (184, k_m_findClashing), (185, k_m_areAtPeace), (188, k_m_otherwiseAt), (193, k_m_allTrust), (190, k_m_goesOn), (191, k_m_goesOnMany)]
def k_r_mark : aK := ([.inr (false, [110]), .inl ((-2147483648), 2147483647), .inl ((-2147483648), 2147483647), .inl ((-2147483648), 2147483647)], some ((-2147483648), 2147483647), [(114, 114, 0, 3), (115, 115, 0, 3), (116, 116, 0, 95)], 50)
def tb_r_mark : aTb := fun mi i => none
def kc_r_mark : List (Nat × aK) := [(158, k_m_saysAt), (160, k_m_loses), (161, k_m_worth), (163, k_m_covers), (222, k_m_counts), (159, k_m_gains), (147, k_m_manyIn), (225, k_m_worked), (175, k_m_falseOf), (178, k_m_joinBy), (180, k_m_doClash), (182, k_m_laidOnes), (183, k_m_coveredBy), (184, k_m_findClashing), (185, k_m_areAtPeace), (188, k_m_otherwiseAt), (193, k_m_allTrust), (190, k_m_goesOn), (191, k_m_goesOnMany)]
def k_r_pour : aK := ([.inr (false, [110]), .inl ((-2147483648), 2147483647)], some ((-2147483648), 2147483647), [(111, 111, 0, 0), (111, 111, 2, 74)], 50)
def tb_r_pour : aTb := fun mi i => if mi = 229 ∧ i = 16 then some ([((-2147483648), 2147483647, .inl 2), (0, 2147483647, .inl 3)], [], [4, 5], [(111, 111, 0, 0), (111, 111, 2, 74)], 1, true) else none
def kc_r_pour : List (Nat × aK) := [(158, k_m_saysAt), (160, k_m_loses), (161, k_m_worth), (163, k_m_covers), (222, k_m_counts), (159, k_m_gains), (147, k_m_manyIn), (225, k_m_worked), (175, k_m_falseOf), (178, k_m_joinBy), (180, k_m_doClash), (182, k_m_laidOnes), (183, k_m_coveredBy), (184, k_m_findClashing), (185, k_m_areAtPeace), (188, k_m_otherwiseAt), (193, k_m_allTrust), (190, k_m_goesOn), (191, k_m_goesOnMany)]
def k_r_reads : aK := ([.inr (false, [110]), .inl ((-2147483648), 2147483647)], some ((-2147483648), 2147483647), [], 50)
def tb_r_reads : aTb := fun mi i => if mi = 230 ∧ i = 14 then some ([(0, 2147483647, .inl 2)], [], [3], [], 0, true) else none
def kc_r_reads : List (Nat × aK) := [(158, k_m_saysAt), (160, k_m_loses), (161, k_m_worth), (163, k_m_covers), (222, k_m_counts), (159, k_m_gains), (147, k_m_manyIn), (225, k_m_worked), (175, k_m_falseOf), (178, k_m_joinBy), (180, k_m_doClash), (182, k_m_laidOnes), (183, k_m_coveredBy), (184, k_m_findClashing), (185, k_m_areAtPeace), (188, k_m_otherwiseAt), (193, k_m_allTrust), (190, k_m_goesOn), (191, k_m_goesOnMany)]
def k_r_copy : aK := ([.inr (false, [110]), .inl ((-2147483648), 2147483647), .inl ((-2147483648), 2147483647), .inl ((-2147483648), 2147483647), .inl ((-2147483648), 2147483647), .inl ((-2147483648), 2147483647)], some ((-2147483648), 2147483647), [(114, 114, 0, 3), (115, 115, 0, 3), (116, 116, 0, 95), (127, 127, 0, 23)], 50)
def k_r_lay : aK := ([.inr (false, [110]), .inl ((-2147483648), 2147483647), .inl ((-2147483648), 2147483647), .inl ((-2147483648), 2147483647)], some ((-2147483648), 2147483647), [(117, 117, 0, 4), (118, 118, 0, 4), (119, 119, 0, 4), (120, 120, 0, 4), (121, 121, 0, 119)], 50)
def tb_r_lay : aTb := fun mi i => if mi = 234 ∧ i = 87 then some ([(0, 2147483647, .inl 6)], [], [], [(117, 117, 0, 4), (118, 118, 0, 4), (119, 119, 0, 4), (120, 120, 0, 4), (121, 121, 0, 119)], 0, true) else none
def kc_r_lay : List (Nat × aK) := [(158, k_m_saysAt), (160, k_m_loses), (161, k_m_worth), (163, k_m_covers), (222, k_m_counts), (159, k_m_gains), (147, k_m_manyIn), (225, k_m_worked), (175, k_m_falseOf), (178, k_m_joinBy), (180, k_m_doClash), (182, k_m_laidOnes), (183, k_m_coveredBy), (184, k_m_findClashing), (185, k_m_areAtPeace), (188, k_m_otherwiseAt), (193, k_m_allTrust), (190, k_m_goesOn), (191, k_m_goesOnMany)]
def k_r_ask : aK := ([.inr (false, [110]), .inl ((-2147483648), 2147483647), .inl ((-2147483648), 2147483647)], some ((-2147483648), 2147483647), [], 50)
def tb_r_ask : aTb := fun mi i => none
def kc_r_ask : List (Nat × aK) := [(158, k_m_saysAt), (160, k_m_loses), (161, k_m_worth), (163, k_m_covers), (222, k_m_counts), (159, k_m_gains), (147, k_m_manyIn), (225, k_m_worked), (175, k_m_falseOf), (178, k_m_joinBy), (180, k_m_doClash), (182, k_m_laidOnes), (183, k_m_coveredBy), (184, k_m_findClashing), (185, k_m_areAtPeace), (188, k_m_otherwiseAt), (193, k_m_allTrust), (190, k_m_goesOn), (191, k_m_goesOnMany)]
def k_r_item : aK := ([.inr (false, [110]), .inl ((-2147483648), 2147483647), .inl ((-2147483648), 2147483647)], some ((-2147483648), 2147483647), [], 50)
def tb_r_item : aTb := fun mi i => none
def kc_r_item : List (Nat × aK) := [(158, k_m_saysAt), (160, k_m_loses), (161, k_m_worth), (163, k_m_covers), (222, k_m_counts), (159, k_m_gains), (147, k_m_manyIn), (225, k_m_worked), (175, k_m_falseOf), (178, k_m_joinBy), (180, k_m_doClash), (182, k_m_laidOnes), (183, k_m_coveredBy), (184, k_m_findClashing), (185, k_m_areAtPeace), (188, k_m_otherwiseAt), (193, k_m_allTrust), (190, k_m_goesOn), (191, k_m_goesOnMany)]
def k_r_rest : aK := ([.inr (false, [110]), .inl ((-2147483648), 2147483647), .inl ((-2147483648), 2147483647)], some ((-2147483648), 2147483647), [], 50)
def tb_r_rest : aTb := fun mi i => none
def kc_r_rest : List (Nat × aK) := [(158, k_m_saysAt), (160, k_m_loses), (161, k_m_worth), (163, k_m_covers), (222, k_m_counts), (159, k_m_gains), (147, k_m_manyIn), (225, k_m_worked), (175, k_m_falseOf), (178, k_m_joinBy), (180, k_m_doClash), (182, k_m_laidOnes), (183, k_m_coveredBy), (184, k_m_findClashing), (185, k_m_areAtPeace), (188, k_m_otherwiseAt), (193, k_m_allTrust), (190, k_m_goesOn), (191, k_m_goesOnMany)]
def k_r_tell : aK := ([.inr (false, [110]), .inl ((-2147483648), 2147483647)], some ((-2147483648), 2147483647), [(110, 110, 30, 30), (128, 128, 0, 59)], 50)
def tb_r_tell : aTb := fun mi i => none
def kc_r_tell : List (Nat × aK) := [(158, k_m_saysAt), (160, k_m_loses), (161, k_m_worth), (163, k_m_covers), (222, k_m_counts), (159, k_m_gains), (147, k_m_manyIn), (225, k_m_worked), (175, k_m_falseOf), (178, k_m_joinBy), (180, k_m_doClash), (182, k_m_laidOnes), (183, k_m_coveredBy), (184, k_m_findClashing), (185, k_m_areAtPeace), (188, k_m_otherwiseAt), (193, k_m_allTrust), (190, k_m_goesOn), (191, k_m_goesOnMany)]
def k_r_count : aK := ([.inr (false, [110]), .inl ((-2147483648), 2147483647)], some ((-2147483648), 2147483647), [], 50)
def tb_r_count : aTb := fun mi i => none
def kc_r_count : List (Nat × aK) := [(158, k_m_saysAt), (160, k_m_loses), (161, k_m_worth), (163, k_m_covers), (222, k_m_counts), (159, k_m_gains), (147, k_m_manyIn), (225, k_m_worked), (175, k_m_falseOf), (178, k_m_joinBy), (180, k_m_doClash), (182, k_m_laidOnes), (183, k_m_coveredBy), (184, k_m_findClashing), (185, k_m_areAtPeace), (188, k_m_otherwiseAt), (193, k_m_allTrust), (190, k_m_goesOn), (191, k_m_goesOnMany)]
def k_r_text : aK := ([.inr (false, [110])], some ((-2147483648), 2147483647), [(110, 110, 15, 25), (111, 111, 1, 1), (111, 111, 75, 3074)], 110)
def k_r_check : aK := ([.inr (false, [110]), .inl ((-2147483648), 2147483647)], some ((-2147483648), 2147483647), [(125, 125, 0, 127), (126, 126, 0, 99), (111, 111, 0, 0), (111, 111, 2, 74), (113, 113, 0, 3074), (129, 129, 0, 59), (110, 110, 30, 30)], 50)
def k_r_keep : aK := ([.inr (false, [110])], some ((-2147483648), 2147483647), [(112, 112, 0, 3074), (110, 110, 3, 3)], 50)
def k_r_back : aK := ([.inr (false, [110])], some ((-2147483648), 2147483647), [(111, 111, 0, 3074)], 50)
end
section
/-! ===== contracts checked, piece 0 (printed by program) ===== -/
set_option maxRecDepth 100000 in
set_option maxHeartbeats 40000000 in
theorem ck_m_saysAt : kchk prog HT kc_m_saysAt tb_m_saysAt 110 158 k_m_saysAt = true := by decide +kernel
set_option maxRecDepth 100000 in
set_option maxHeartbeats 40000000 in
theorem ck_m_loses : kchk prog HT kc_m_loses tb_m_loses 21 160 k_m_loses = true := by decide +kernel
set_option maxRecDepth 100000 in
set_option maxHeartbeats 40000000 in
theorem ck_m_worth : kchk prog HT kc_m_worth tb_m_worth 41 161 k_m_worth = true := by decide +kernel
set_option maxRecDepth 100000 in
set_option maxHeartbeats 40000000 in
theorem ck_m_covers : kchk prog HT kc_m_covers tb_m_covers 46 163 k_m_covers = true := by decide +kernel
set_option maxRecDepth 100000 in
set_option maxHeartbeats 40000000 in
theorem ck_m_counts : kchk prog HT kc_m_counts tb_m_counts 34 222 k_m_counts = true := by decide +kernel
set_option maxRecDepth 100000 in
set_option maxHeartbeats 40000000 in
theorem ck_m_gains : kchk prog HT kc_m_gains tb_m_gains 104 159 k_m_gains = true := by decide +kernel
set_option maxRecDepth 100000 in
set_option maxHeartbeats 40000000 in
theorem ck_m_falseOf : kchk prog HT kc_m_falseOf tb_m_falseOf 51 175 k_m_falseOf = true := by decide +kernel
set_option maxRecDepth 100000 in
set_option maxHeartbeats 40000000 in
theorem ck_m_joinBy : kchk prog HT kc_m_joinBy tb_m_joinBy 63 178 k_m_joinBy = true := by decide +kernel
set_option maxRecDepth 100000 in
set_option maxHeartbeats 40000000 in
theorem ck_m_doClash : kchk prog HT kc_m_doClash tb_m_doClash 68 180 k_m_doClash = true := by decide +kernel
set_option maxRecDepth 100000 in
set_option maxHeartbeats 40000000 in
theorem ck_m_laidOnes : kchk prog HT kc_m_laidOnes tb_m_laidOnes 41 182 k_m_laidOnes = true := by decide +kernel
set_option maxRecDepth 100000 in
set_option maxHeartbeats 40000000 in
theorem ck_m_coveredBy : kchk prog HT kc_m_coveredBy tb_m_coveredBy 31 183 k_m_coveredBy = true := by decide +kernel
set_option maxRecDepth 100000 in
set_option maxHeartbeats 40000000 in
theorem ck_m_findClashing : kchk prog HT kc_m_findClashing tb_m_findClashing 48 184 k_m_findClashing = true := by decide +kernel
set_option maxRecDepth 100000 in
set_option maxHeartbeats 40000000 in
theorem ck_m_areAtPeace : kchk prog HT kc_m_areAtPeace tb_m_areAtPeace 29 185 k_m_areAtPeace = true := by decide +kernel
set_option maxRecDepth 100000 in
set_option maxHeartbeats 40000000 in
theorem ck_m_otherwiseAt : kchk prog HT kc_m_otherwiseAt tb_m_otherwiseAt 58 188 k_m_otherwiseAt = true := by decide +kernel
set_option maxRecDepth 100000 in
set_option maxHeartbeats 40000000 in
theorem ck_m_allTrust : kchk prog HT kc_m_allTrust tb_m_allTrust 35 193 k_m_allTrust = true := by decide +kernel
set_option maxRecDepth 100000 in
set_option maxHeartbeats 40000000 in
theorem ck_m_goesOn : kchk prog HT kc_m_goesOn tb_m_goesOn 155 190 k_m_goesOn = true := by decide +kernel
set_option maxRecDepth 100000 in
set_option maxHeartbeats 40000000 in
theorem ck_m_goesOnMany : kchk prog HT kc_m_goesOnMany tb_m_goesOnMany 14 191 k_m_goesOnMany = true := by decide +kernel
set_option maxRecDepth 100000 in
set_option maxHeartbeats 40000000 in
theorem ck_r_rubbing : kchk prog HT kc_r_rubbing tb_r_rubbing 188 156 k_r_rubbing = true := by decide +kernel
set_option maxRecDepth 100000 in
set_option maxHeartbeats 40000000 in
theorem ck_r_told : kchk prog HT kc_r_told tb_r_told 48 164 k_r_told = true := by decide +kernel
set_option maxRecDepth 100000 in
set_option maxHeartbeats 40000000 in
theorem ck_r_says : kchk prog HT kc_r_says tb_r_says 70 165 k_r_says = true := by decide +kernel
set_option maxRecDepth 100000 in
set_option maxHeartbeats 40000000 in
theorem ck_r_as : kchk prog HT kc_r_as tb_r_as 99 167 k_r_as = true := by decide +kernel
end
section
/-! ===== contracts checked, piece 1 (printed by program) ===== -/
set_option maxRecDepth 100000 in
set_option maxHeartbeats 40000000 in
theorem ck_r_turns : kchk prog HT kc_r_turns tb_r_turns 69 168 k_r_turns = true := by decide +kernel
set_option maxRecDepth 100000 in
set_option maxHeartbeats 40000000 in
theorem ck_r_set : kchk prog HT kc_r_set tb_r_set 97 170 k_r_set = true := by decide +kernel
set_option maxRecDepth 100000 in
set_option maxHeartbeats 40000000 in
theorem ck_r_carve : kchk prog HT kc_r_carve tb_r_carve 57 171 k_r_carve = true := by decide +kernel
set_option maxRecDepth 100000 in
set_option maxHeartbeats 40000000 in
theorem ck_r_carved : kchk prog HT kc_r_carved tb_r_carved 28 172 k_r_carved = true := by decide +kernel
set_option maxRecDepth 100000 in
set_option maxHeartbeats 40000000 in
theorem ck_r_deal : kchk prog HT kc_r_deal tb_r_deal 228 173 k_r_deal = true := by decide +kernel
set_option maxRecDepth 100000 in
set_option maxHeartbeats 40000000 in
theorem ck_r_seed : kchk prog HT kc_r_seed tb_r_seed 20 174 k_r_seed = true := by decide +kernel
set_option maxRecDepth 100000 in
set_option maxHeartbeats 40000000 in
theorem ck_r_falseAt : kchk prog HT kc_r_falseAt tb_r_falseAt 53 176 k_r_falseAt = true := by decide +kernel
set_option maxRecDepth 100000 in
set_option maxHeartbeats 40000000 in
theorem ck_r_fits : kchk prog HT kc_r_fits tb_r_fits 86 177 k_r_fits = true := by decide +kernel
set_option maxRecDepth 100000 in
set_option maxHeartbeats 40000000 in
theorem ck_r_join : kchk prog HT kc_r_join tb_r_join 116 179 k_r_join = true := by decide +kernel
set_option maxRecDepth 100000 in
set_option maxHeartbeats 40000000 in
theorem ck_r_clash : kchk prog HT kc_r_clash tb_r_clash 68 181 k_r_clash = true := by decide +kernel
set_option maxRecDepth 100000 in
set_option maxHeartbeats 40000000 in
theorem ck_r_undone : kchk prog HT kc_r_undone tb_r_undone 45 186 k_r_undone = true := by decide +kernel
set_option maxRecDepth 100000 in
set_option maxHeartbeats 40000000 in
theorem ck_r_borne : kchk prog HT kc_r_borne tb_r_borne 44 187 k_r_borne = true := by decide +kernel
set_option maxRecDepth 100000 in
set_option maxHeartbeats 40000000 in
theorem ck_r_look : kchk prog HT kc_r_look tb_r_look 41 189 k_r_look = true := by decide +kernel
set_option maxRecDepth 100000 in
set_option maxHeartbeats 40000000 in
theorem ck_r_tides : kchk prog HT kc_r_tides tb_r_tides 44 192 k_r_tides = true := by decide +kernel
set_option maxRecDepth 100000 in
set_option maxHeartbeats 40000000 in
theorem ck_r_book : kchk prog HT kc_r_book tb_r_book 14 194 k_r_book = true := by decide +kernel
set_option maxRecDepth 100000 in
set_option maxHeartbeats 40000000 in
theorem ck_r_whose : kchk prog HT kc_r_whose tb_r_whose 119 231 k_r_whose = true := by decide +kernel
set_option maxRecDepth 100000 in
set_option maxHeartbeats 40000000 in
theorem ck_r_fee : kchk prog HT kc_r_fee tb_r_fee 29 201 k_r_fee = true := by decide +kernel
set_option maxRecDepth 100000 in
set_option maxHeartbeats 40000000 in
theorem ck_r_fine : kchk prog HT kc_r_fine tb_r_fine 78 202 k_r_fine = true := by decide +kernel
end
section
/-! ===== contracts checked, piece 2 (printed by program) ===== -/
set_option maxRecDepth 100000 in
set_option maxHeartbeats 40000000 in
theorem ck_r_feed : kchk prog HT kc_r_feed tb_r_feed 433 203 k_r_feed = true := by decide +kernel
set_option maxRecDepth 100000 in
set_option maxHeartbeats 40000000 in
theorem ck_r_trim : kchk prog HT kc_r_trim tb_r_trim 27 204 k_r_trim = true := by decide +kernel
set_option maxRecDepth 100000 in
set_option maxHeartbeats 40000000 in
theorem ck_r_textTold : kchk prog HT kc_r_textTold tb_r_textTold 62 221 k_r_textTold = true := by decide +kernel
set_option maxRecDepth 100000 in
set_option maxHeartbeats 40000000 in
theorem ck_r_why : kchk prog HT kc_r_why tb_r_why 31 223 k_r_why = true := by decide +kernel
set_option maxRecDepth 100000 in
set_option maxHeartbeats 40000000 in
theorem ck_r_sheet : kchk prog HT kc_r_sheet tb_r_sheet 79 227 k_r_sheet = true := by decide +kernel
set_option maxRecDepth 100000 in
set_option maxHeartbeats 40000000 in
theorem ck_r_mark : kchk prog HT kc_r_mark tb_r_mark 98 228 k_r_mark = true := by decide +kernel
set_option maxRecDepth 100000 in
set_option maxHeartbeats 40000000 in
theorem ck_r_pour : kchk prog HT kc_r_pour tb_r_pour 94 229 k_r_pour = true := by decide +kernel
set_option maxRecDepth 100000 in
set_option maxHeartbeats 40000000 in
theorem ck_r_reads : kchk prog HT kc_r_reads tb_r_reads 75 230 k_r_reads = true := by decide +kernel
set_option maxRecDepth 100000 in
set_option maxHeartbeats 40000000 in
theorem ck_r_lay : kchk prog HT kc_r_lay tb_r_lay 129 234 k_r_lay = true := by decide +kernel
set_option maxRecDepth 100000 in
set_option maxHeartbeats 40000000 in
theorem ck_r_ask : kchk prog HT kc_r_ask tb_r_ask 81 235 k_r_ask = true := by decide +kernel
set_option maxRecDepth 100000 in
set_option maxHeartbeats 40000000 in
theorem ck_r_item : kchk prog HT kc_r_item tb_r_item 67 236 k_r_item = true := by decide +kernel
set_option maxRecDepth 100000 in
set_option maxHeartbeats 40000000 in
theorem ck_r_rest : kchk prog HT kc_r_rest tb_r_rest 38 237 k_r_rest = true := by decide +kernel
set_option maxRecDepth 100000 in
set_option maxHeartbeats 40000000 in
theorem ck_r_tell : kchk prog HT kc_r_tell tb_r_tell 22 238 k_r_tell = true := by decide +kernel
set_option maxRecDepth 100000 in
set_option maxHeartbeats 40000000 in
theorem ck_r_count : kchk prog HT kc_r_count tb_r_count 10 243 k_r_count = true := by decide +kernel
end
section
/-! ===== contracts out of their checks (printed by program) ===== -/
def KGi (E : pX) (V : pV) (J : List pC → Prop) (k : Nat) (c : aK) : Prop := ∀ N, prog[k]? = some N → KG prog E V HT J N c
/-- outside what J speaks of -/
def jf (W : aW) : Bool := W.all (fun b => decide (b.2.1 < 111) || decide (112 < b.1) || decide (b.2.2.2 < 1) || (decide (2 ≤ b.2.2.1) && decide (b.2.2.2 ≤ 74)))
def JP (J : List pC → Prop) : Prop := ∀ (W : aW) (h h' : List pC), jf W = true → Fr W h h' → J h → J h'
theorem lookup_mem {α : Type} {k : Nat} {c : α} : ∀ {l : List (Nat × α)}, l.lookup k = some c → (k, c) ∈ l
  | [], h => by cases h
  | (a, b) :: r, h => by
    rw [List.lookup_cons] at h
    split at h
    · rename_i e
      cases h
      rw [eq_of_beq e]
      exact List.mem_cons_self
    · exact List.mem_cons_of_mem _ (lookup_mem h)
section KGS
variable {E : pX} {V : pV} {J : List pC → Prop}
theorem kgi_of {KC : List (Nat × aK)} {tb : aTb} {f k : Nat} {c : aK} (hJ : JP J) (hW : jf c.2.2.1 = true) (hck : kchk prog HT KC tb f k c = true) (hK : ∀ p ∈ KC, KGi E V J p.1 p.2) : KGi E V J k c := fun N hN => kchk_ok (fun h h' hf hj => hJ _ h h' hW hf hj) (fun k N c hk hP => hK (k, c) (lookup_mem hk) N hP) hck hN
/-- what is shown by hand, and used by others -/
def HandU (E : pX) (V : pV) (J : List pC → Prop) : Prop := KGi E V J 46 k_isOf ∧ KGi E V J 25 k_nameRead ∧ KGi E V J 20 k_keyRead ∧ KGi E V J 147 k_m_manyIn ∧ KGi E V J 225 k_m_worked
theorem kg_isOf (H : HandU E V J) : KGi E V J 46 k_isOf := H.1
theorem kg_nameRead (H : HandU E V J) : KGi E V J 25 k_nameRead := H.2.1
theorem kg_keyRead (H : HandU E V J) : KGi E V J 20 k_keyRead := H.2.2.1
theorem kg_m_manyIn (H : HandU E V J) : KGi E V J 147 k_m_manyIn := H.2.2.2.1
theorem kg_m_worked (H : HandU E V J) : KGi E V J 225 k_m_worked := H.2.2.2.2
theorem kg_covers (hJ : JP J) (H : HandU E V J) : KGi E V J 48 k_covers := kgi_of hJ (by decide) ck_covers (by unfold kc_covers; exact fun _ h => absurd h List.not_mem_nil)
theorem kg_sayAt (hJ : JP J) (H : HandU E V J) : KGi E V J 50 k_sayAt := kgi_of hJ (by decide) ck_sayAt (by unfold kc_sayAt; exact fun _ h => absurd h List.not_mem_nil)
theorem kg_value (hJ : JP J) (H : HandU E V J) : KGi E V J 44 k_value := kgi_of hJ (by decide) ck_value (by unfold kc_value; exact fun _ h => absurd h List.not_mem_nil)
theorem kg_gainOver (hJ : JP J) (H : HandU E V J) : KGi E V J 54 k_gainOver := kgi_of hJ (by decide) ck_gainOver (by unfold kc_gainOver; exact fun _ h => absurd h List.not_mem_nil)
theorem kg_loss (hJ : JP J) (H : HandU E V J) : KGi E V J 55 k_loss := kgi_of hJ (by decide) ck_loss (by unfold kc_loss; exact fun _ h => absurd h List.not_mem_nil)
theorem kg_worth (hJ : JP J) (H : HandU E V J) : KGi E V J 56 k_worth := kgi_of hJ (by decide) ck_worth (by unfold kc_worth; exact fun _ h => absurd h List.not_mem_nil)
theorem kg_covered (hJ : JP J) (H : HandU E V J) : KGi E V J 49 k_covered := kgi_of hJ (by decide) ck_covered (by unfold kc_covered; exact List.forall_mem_cons.mpr ⟨kg_covers hJ H, fun _ h => absurd h List.not_mem_nil⟩)
theorem kg_joined (hJ : JP J) (H : HandU E V J) : KGi E V J 57 k_joined := kgi_of hJ (by decide) ck_joined (by unfold kc_joined; exact List.forall_mem_cons.mpr ⟨kg_sayAt hJ H, fun _ h => absurd h List.not_mem_nil⟩)
theorem kg_clashes (hJ : JP J) (H : HandU E V J) : KGi E V J 58 k_clashes := kgi_of hJ (by decide) ck_clashes (by unfold kc_clashes; exact List.forall_mem_cons.mpr ⟨kg_covers hJ H, List.forall_mem_cons.mpr ⟨kg_sayAt hJ H, fun _ h => absurd h List.not_mem_nil⟩⟩)
theorem kg_workedR34 (hJ : JP J) (H : HandU E V J) : KGi E V J 7 k_workedR34 := kgi_of hJ (by decide) ck_workedR34 (by unfold kc_workedR34; exact fun _ h => absurd h List.not_mem_nil)
theorem kg_workedR62 (hJ : JP J) (H : HandU E V J) : KGi E V J 7 k_workedR62 := kgi_of hJ (by decide) ck_workedR62 (by unfold kc_workedR62; exact fun _ h => absurd h List.not_mem_nil)
theorem kg_workedN34 (hJ : JP J) (H : HandU E V J) : KGi E V J 7 k_workedN34 := kgi_of hJ (by decide) ck_workedN34 (by unfold kc_workedN34; exact fun _ h => absurd h List.not_mem_nil)
theorem kg_falsehood34 (hJ : JP J) (H : HandU E V J) : KGi E V J 70 k_falsehood34 := kgi_of hJ (by decide) ck_falsehood34 (by unfold kc_falsehood34; exact List.forall_mem_cons.mpr ⟨kg_covers hJ H, List.forall_mem_cons.mpr ⟨kg_sayAt hJ H, List.forall_mem_cons.mpr ⟨kg_value hJ H, List.forall_mem_cons.mpr ⟨kg_gainOver hJ H, List.forall_mem_cons.mpr ⟨kg_loss hJ H, List.forall_mem_cons.mpr ⟨kg_worth hJ H, List.forall_mem_cons.mpr ⟨kg_covered hJ H, List.forall_mem_cons.mpr ⟨kg_joined hJ H, List.forall_mem_cons.mpr ⟨kg_clashes hJ H, fun _ h => absurd h List.not_mem_nil⟩⟩⟩⟩⟩⟩⟩⟩⟩)
theorem kg_trustOfAll34 (hJ : JP J) (H : HandU E V J) : KGi E V J 71 k_trustOfAll34 := kgi_of hJ (by decide) ck_trustOfAll34 (by unfold kc_trustOfAll34; exact List.forall_mem_cons.mpr ⟨kg_covers hJ H, List.forall_mem_cons.mpr ⟨kg_sayAt hJ H, List.forall_mem_cons.mpr ⟨kg_value hJ H, List.forall_mem_cons.mpr ⟨kg_gainOver hJ H, List.forall_mem_cons.mpr ⟨kg_loss hJ H, List.forall_mem_cons.mpr ⟨kg_worth hJ H, List.forall_mem_cons.mpr ⟨kg_covered hJ H, List.forall_mem_cons.mpr ⟨kg_joined hJ H, List.forall_mem_cons.mpr ⟨kg_clashes hJ H, fun _ h => absurd h List.not_mem_nil⟩⟩⟩⟩⟩⟩⟩⟩⟩)
theorem kg_laidSet34 (hJ : JP J) (H : HandU E V J) : KGi E V J 72 k_laidSet34 := kgi_of hJ (by decide) ck_laidSet34 (by unfold kc_laidSet34; exact List.forall_mem_cons.mpr ⟨kg_covers hJ H, List.forall_mem_cons.mpr ⟨kg_sayAt hJ H, List.forall_mem_cons.mpr ⟨kg_value hJ H, List.forall_mem_cons.mpr ⟨kg_gainOver hJ H, List.forall_mem_cons.mpr ⟨kg_loss hJ H, List.forall_mem_cons.mpr ⟨kg_worth hJ H, List.forall_mem_cons.mpr ⟨kg_covered hJ H, List.forall_mem_cons.mpr ⟨kg_joined hJ H, List.forall_mem_cons.mpr ⟨kg_clashes hJ H, fun _ h => absurd h List.not_mem_nil⟩⟩⟩⟩⟩⟩⟩⟩⟩)
theorem kg_coveredBy34 (hJ : JP J) (H : HandU E V J) : KGi E V J 73 k_coveredBy34 := kgi_of hJ (by decide) ck_coveredBy34 (by unfold kc_coveredBy34; exact List.forall_mem_cons.mpr ⟨kg_covers hJ H, List.forall_mem_cons.mpr ⟨kg_sayAt hJ H, List.forall_mem_cons.mpr ⟨kg_value hJ H, List.forall_mem_cons.mpr ⟨kg_gainOver hJ H, List.forall_mem_cons.mpr ⟨kg_loss hJ H, List.forall_mem_cons.mpr ⟨kg_worth hJ H, List.forall_mem_cons.mpr ⟨kg_covered hJ H, List.forall_mem_cons.mpr ⟨kg_joined hJ H, List.forall_mem_cons.mpr ⟨kg_clashes hJ H, fun _ h => absurd h List.not_mem_nil⟩⟩⟩⟩⟩⟩⟩⟩⟩)
theorem kg_deniers34 (hJ : JP J) (H : HandU E V J) : KGi E V J 77 k_deniers34 := kgi_of hJ (by decide) ck_deniers34 (by unfold kc_deniers34; exact List.forall_mem_cons.mpr ⟨kg_covers hJ H, List.forall_mem_cons.mpr ⟨kg_sayAt hJ H, List.forall_mem_cons.mpr ⟨kg_value hJ H, List.forall_mem_cons.mpr ⟨kg_gainOver hJ H, List.forall_mem_cons.mpr ⟨kg_loss hJ H, List.forall_mem_cons.mpr ⟨kg_worth hJ H, List.forall_mem_cons.mpr ⟨kg_covered hJ H, List.forall_mem_cons.mpr ⟨kg_joined hJ H, List.forall_mem_cons.mpr ⟨kg_clashes hJ H, fun _ h => absurd h List.not_mem_nil⟩⟩⟩⟩⟩⟩⟩⟩⟩)
theorem kg_gainOf34 (hJ : JP J) (H : HandU E V J) : KGi E V J 80 k_gainOf34 := kgi_of hJ (by decide) ck_gainOf34 (by unfold kc_gainOf34; exact List.forall_mem_cons.mpr ⟨kg_covers hJ H, List.forall_mem_cons.mpr ⟨kg_sayAt hJ H, List.forall_mem_cons.mpr ⟨kg_value hJ H, List.forall_mem_cons.mpr ⟨kg_gainOver hJ H, List.forall_mem_cons.mpr ⟨kg_loss hJ H, List.forall_mem_cons.mpr ⟨kg_worth hJ H, List.forall_mem_cons.mpr ⟨kg_covered hJ H, List.forall_mem_cons.mpr ⟨kg_joined hJ H, List.forall_mem_cons.mpr ⟨kg_clashes hJ H, List.forall_mem_cons.mpr ⟨kg_workedR34 hJ H, fun _ h => absurd h List.not_mem_nil⟩⟩⟩⟩⟩⟩⟩⟩⟩⟩)
theorem kg_seeAgain34 (hJ : JP J) (H : HandU E V J) : KGi E V J 79 k_seeAgain34 := kgi_of hJ (by decide) ck_seeAgain34 (by unfold kc_seeAgain34; exact List.forall_mem_cons.mpr ⟨kg_covers hJ H, List.forall_mem_cons.mpr ⟨kg_sayAt hJ H, List.forall_mem_cons.mpr ⟨kg_value hJ H, List.forall_mem_cons.mpr ⟨kg_gainOver hJ H, List.forall_mem_cons.mpr ⟨kg_loss hJ H, List.forall_mem_cons.mpr ⟨kg_worth hJ H, List.forall_mem_cons.mpr ⟨kg_covered hJ H, List.forall_mem_cons.mpr ⟨kg_joined hJ H, List.forall_mem_cons.mpr ⟨kg_clashes hJ H, List.forall_mem_cons.mpr ⟨kg_gainOf34 hJ H, fun _ h => absurd h List.not_mem_nil⟩⟩⟩⟩⟩⟩⟩⟩⟩⟩)
theorem kg_flow34 (hJ : JP J) (H : HandU E V J) : KGi E V J 78 k_flow34 := kgi_of hJ (by decide) ck_flow34 (by unfold kc_flow34; exact List.forall_mem_cons.mpr ⟨kg_covers hJ H, List.forall_mem_cons.mpr ⟨kg_sayAt hJ H, List.forall_mem_cons.mpr ⟨kg_value hJ H, List.forall_mem_cons.mpr ⟨kg_gainOver hJ H, List.forall_mem_cons.mpr ⟨kg_loss hJ H, List.forall_mem_cons.mpr ⟨kg_worth hJ H, List.forall_mem_cons.mpr ⟨kg_covered hJ H, List.forall_mem_cons.mpr ⟨kg_joined hJ H, List.forall_mem_cons.mpr ⟨kg_clashes hJ H, List.forall_mem_cons.mpr ⟨kg_seeAgain34 hJ H, fun _ h => absurd h List.not_mem_nil⟩⟩⟩⟩⟩⟩⟩⟩⟩⟩)
theorem kg_falsehood62 (hJ : JP J) (H : HandU E V J) : KGi E V J 70 k_falsehood62 := kgi_of hJ (by decide) ck_falsehood62 (by unfold kc_falsehood62; exact List.forall_mem_cons.mpr ⟨kg_covers hJ H, List.forall_mem_cons.mpr ⟨kg_sayAt hJ H, List.forall_mem_cons.mpr ⟨kg_value hJ H, List.forall_mem_cons.mpr ⟨kg_gainOver hJ H, List.forall_mem_cons.mpr ⟨kg_loss hJ H, List.forall_mem_cons.mpr ⟨kg_worth hJ H, List.forall_mem_cons.mpr ⟨kg_covered hJ H, List.forall_mem_cons.mpr ⟨kg_joined hJ H, List.forall_mem_cons.mpr ⟨kg_clashes hJ H, fun _ h => absurd h List.not_mem_nil⟩⟩⟩⟩⟩⟩⟩⟩⟩)
theorem kg_trustOfAll62 (hJ : JP J) (H : HandU E V J) : KGi E V J 71 k_trustOfAll62 := kgi_of hJ (by decide) ck_trustOfAll62 (by unfold kc_trustOfAll62; exact List.forall_mem_cons.mpr ⟨kg_covers hJ H, List.forall_mem_cons.mpr ⟨kg_sayAt hJ H, List.forall_mem_cons.mpr ⟨kg_value hJ H, List.forall_mem_cons.mpr ⟨kg_gainOver hJ H, List.forall_mem_cons.mpr ⟨kg_loss hJ H, List.forall_mem_cons.mpr ⟨kg_worth hJ H, List.forall_mem_cons.mpr ⟨kg_covered hJ H, List.forall_mem_cons.mpr ⟨kg_joined hJ H, List.forall_mem_cons.mpr ⟨kg_clashes hJ H, fun _ h => absurd h List.not_mem_nil⟩⟩⟩⟩⟩⟩⟩⟩⟩)
theorem kg_laidSet62 (hJ : JP J) (H : HandU E V J) : KGi E V J 72 k_laidSet62 := kgi_of hJ (by decide) ck_laidSet62 (by unfold kc_laidSet62; exact List.forall_mem_cons.mpr ⟨kg_covers hJ H, List.forall_mem_cons.mpr ⟨kg_sayAt hJ H, List.forall_mem_cons.mpr ⟨kg_value hJ H, List.forall_mem_cons.mpr ⟨kg_gainOver hJ H, List.forall_mem_cons.mpr ⟨kg_loss hJ H, List.forall_mem_cons.mpr ⟨kg_worth hJ H, List.forall_mem_cons.mpr ⟨kg_covered hJ H, List.forall_mem_cons.mpr ⟨kg_joined hJ H, List.forall_mem_cons.mpr ⟨kg_clashes hJ H, fun _ h => absurd h List.not_mem_nil⟩⟩⟩⟩⟩⟩⟩⟩⟩)
theorem kg_coveredBy62 (hJ : JP J) (H : HandU E V J) : KGi E V J 73 k_coveredBy62 := kgi_of hJ (by decide) ck_coveredBy62 (by unfold kc_coveredBy62; exact List.forall_mem_cons.mpr ⟨kg_covers hJ H, List.forall_mem_cons.mpr ⟨kg_sayAt hJ H, List.forall_mem_cons.mpr ⟨kg_value hJ H, List.forall_mem_cons.mpr ⟨kg_gainOver hJ H, List.forall_mem_cons.mpr ⟨kg_loss hJ H, List.forall_mem_cons.mpr ⟨kg_worth hJ H, List.forall_mem_cons.mpr ⟨kg_covered hJ H, List.forall_mem_cons.mpr ⟨kg_joined hJ H, List.forall_mem_cons.mpr ⟨kg_clashes hJ H, fun _ h => absurd h List.not_mem_nil⟩⟩⟩⟩⟩⟩⟩⟩⟩)
theorem kg_deniers62 (hJ : JP J) (H : HandU E V J) : KGi E V J 77 k_deniers62 := kgi_of hJ (by decide) ck_deniers62 (by unfold kc_deniers62; exact List.forall_mem_cons.mpr ⟨kg_covers hJ H, List.forall_mem_cons.mpr ⟨kg_sayAt hJ H, List.forall_mem_cons.mpr ⟨kg_value hJ H, List.forall_mem_cons.mpr ⟨kg_gainOver hJ H, List.forall_mem_cons.mpr ⟨kg_loss hJ H, List.forall_mem_cons.mpr ⟨kg_worth hJ H, List.forall_mem_cons.mpr ⟨kg_covered hJ H, List.forall_mem_cons.mpr ⟨kg_joined hJ H, List.forall_mem_cons.mpr ⟨kg_clashes hJ H, fun _ h => absurd h List.not_mem_nil⟩⟩⟩⟩⟩⟩⟩⟩⟩)
theorem kg_gainOf62 (hJ : JP J) (H : HandU E V J) : KGi E V J 80 k_gainOf62 := kgi_of hJ (by decide) ck_gainOf62 (by unfold kc_gainOf62; exact List.forall_mem_cons.mpr ⟨kg_covers hJ H, List.forall_mem_cons.mpr ⟨kg_sayAt hJ H, List.forall_mem_cons.mpr ⟨kg_value hJ H, List.forall_mem_cons.mpr ⟨kg_gainOver hJ H, List.forall_mem_cons.mpr ⟨kg_loss hJ H, List.forall_mem_cons.mpr ⟨kg_worth hJ H, List.forall_mem_cons.mpr ⟨kg_covered hJ H, List.forall_mem_cons.mpr ⟨kg_joined hJ H, List.forall_mem_cons.mpr ⟨kg_clashes hJ H, List.forall_mem_cons.mpr ⟨kg_workedR62 hJ H, fun _ h => absurd h List.not_mem_nil⟩⟩⟩⟩⟩⟩⟩⟩⟩⟩)
theorem kg_seeAgain62 (hJ : JP J) (H : HandU E V J) : KGi E V J 79 k_seeAgain62 := kgi_of hJ (by decide) ck_seeAgain62 (by unfold kc_seeAgain62; exact List.forall_mem_cons.mpr ⟨kg_covers hJ H, List.forall_mem_cons.mpr ⟨kg_sayAt hJ H, List.forall_mem_cons.mpr ⟨kg_value hJ H, List.forall_mem_cons.mpr ⟨kg_gainOver hJ H, List.forall_mem_cons.mpr ⟨kg_loss hJ H, List.forall_mem_cons.mpr ⟨kg_worth hJ H, List.forall_mem_cons.mpr ⟨kg_covered hJ H, List.forall_mem_cons.mpr ⟨kg_joined hJ H, List.forall_mem_cons.mpr ⟨kg_clashes hJ H, List.forall_mem_cons.mpr ⟨kg_gainOf62 hJ H, fun _ h => absurd h List.not_mem_nil⟩⟩⟩⟩⟩⟩⟩⟩⟩⟩)
theorem kg_flow62 (hJ : JP J) (H : HandU E V J) : KGi E V J 78 k_flow62 := kgi_of hJ (by decide) ck_flow62 (by unfold kc_flow62; exact List.forall_mem_cons.mpr ⟨kg_covers hJ H, List.forall_mem_cons.mpr ⟨kg_sayAt hJ H, List.forall_mem_cons.mpr ⟨kg_value hJ H, List.forall_mem_cons.mpr ⟨kg_gainOver hJ H, List.forall_mem_cons.mpr ⟨kg_loss hJ H, List.forall_mem_cons.mpr ⟨kg_worth hJ H, List.forall_mem_cons.mpr ⟨kg_covered hJ H, List.forall_mem_cons.mpr ⟨kg_joined hJ H, List.forall_mem_cons.mpr ⟨kg_clashes hJ H, List.forall_mem_cons.mpr ⟨kg_seeAgain62 hJ H, fun _ h => absurd h List.not_mem_nil⟩⟩⟩⟩⟩⟩⟩⟩⟩⟩)
theorem kg_take62_34 (hJ : JP J) (H : HandU E V J) : KGi E V J 61 k_take62_34 := kgi_of hJ (by decide) ck_take62_34 (by unfold kc_take62_34; exact List.forall_mem_cons.mpr ⟨kg_covers hJ H, List.forall_mem_cons.mpr ⟨kg_sayAt hJ H, List.forall_mem_cons.mpr ⟨kg_value hJ H, List.forall_mem_cons.mpr ⟨kg_gainOver hJ H, List.forall_mem_cons.mpr ⟨kg_loss hJ H, List.forall_mem_cons.mpr ⟨kg_worth hJ H, List.forall_mem_cons.mpr ⟨kg_covered hJ H, List.forall_mem_cons.mpr ⟨kg_joined hJ H, List.forall_mem_cons.mpr ⟨kg_clashes hJ H, fun _ h => absurd h List.not_mem_nil⟩⟩⟩⟩⟩⟩⟩⟩⟩)
theorem kg_take62_48 (hJ : JP J) (H : HandU E V J) : KGi E V J 61 k_take62_48 := kgi_of hJ (by decide) ck_take62_48 (by unfold kc_take62_48; exact List.forall_mem_cons.mpr ⟨kg_covers hJ H, List.forall_mem_cons.mpr ⟨kg_sayAt hJ H, List.forall_mem_cons.mpr ⟨kg_value hJ H, List.forall_mem_cons.mpr ⟨kg_gainOver hJ H, List.forall_mem_cons.mpr ⟨kg_loss hJ H, List.forall_mem_cons.mpr ⟨kg_worth hJ H, List.forall_mem_cons.mpr ⟨kg_covered hJ H, List.forall_mem_cons.mpr ⟨kg_joined hJ H, List.forall_mem_cons.mpr ⟨kg_clashes hJ H, fun _ h => absurd h List.not_mem_nil⟩⟩⟩⟩⟩⟩⟩⟩⟩)
theorem kg_take48_34 (hJ : JP J) (H : HandU E V J) : KGi E V J 61 k_take48_34 := kgi_of hJ (by decide) ck_take48_34 (by unfold kc_take48_34; exact List.forall_mem_cons.mpr ⟨kg_covers hJ H, List.forall_mem_cons.mpr ⟨kg_sayAt hJ H, List.forall_mem_cons.mpr ⟨kg_value hJ H, List.forall_mem_cons.mpr ⟨kg_gainOver hJ H, List.forall_mem_cons.mpr ⟨kg_loss hJ H, List.forall_mem_cons.mpr ⟨kg_worth hJ H, List.forall_mem_cons.mpr ⟨kg_covered hJ H, List.forall_mem_cons.mpr ⟨kg_joined hJ H, List.forall_mem_cons.mpr ⟨kg_clashes hJ H, fun _ h => absurd h List.not_mem_nil⟩⟩⟩⟩⟩⟩⟩⟩⟩)
theorem kg_take34_48 (hJ : JP J) (H : HandU E V J) : KGi E V J 61 k_take34_48 := kgi_of hJ (by decide) ck_take34_48 (by unfold kc_take34_48; exact List.forall_mem_cons.mpr ⟨kg_covers hJ H, List.forall_mem_cons.mpr ⟨kg_sayAt hJ H, List.forall_mem_cons.mpr ⟨kg_value hJ H, List.forall_mem_cons.mpr ⟨kg_gainOver hJ H, List.forall_mem_cons.mpr ⟨kg_loss hJ H, List.forall_mem_cons.mpr ⟨kg_worth hJ H, List.forall_mem_cons.mpr ⟨kg_covered hJ H, List.forall_mem_cons.mpr ⟨kg_joined hJ H, List.forall_mem_cons.mpr ⟨kg_clashes hJ H, fun _ h => absurd h List.not_mem_nil⟩⟩⟩⟩⟩⟩⟩⟩⟩)
theorem kg_noteClashes (hJ : JP J) (H : HandU E V J) : KGi E V J 75 k_noteClashes := kgi_of hJ (by decide) ck_noteClashes (by unfold kc_noteClashes; exact List.forall_mem_cons.mpr ⟨kg_covers hJ H, List.forall_mem_cons.mpr ⟨kg_sayAt hJ H, List.forall_mem_cons.mpr ⟨kg_value hJ H, List.forall_mem_cons.mpr ⟨kg_gainOver hJ H, List.forall_mem_cons.mpr ⟨kg_loss hJ H, List.forall_mem_cons.mpr ⟨kg_worth hJ H, List.forall_mem_cons.mpr ⟨kg_covered hJ H, List.forall_mem_cons.mpr ⟨kg_joined hJ H, List.forall_mem_cons.mpr ⟨kg_clashes hJ H, fun _ h => absurd h List.not_mem_nil⟩⟩⟩⟩⟩⟩⟩⟩⟩)
theorem kg_anyClash (hJ : JP J) (H : HandU E V J) : KGi E V J 76 k_anyClash := kgi_of hJ (by decide) ck_anyClash (by unfold kc_anyClash; exact fun _ h => absurd h List.not_mem_nil)
theorem kg_c_rubbing (hJ : JP J) (H : HandU E V J) : KGi E V J 86 k_c_rubbing := kgi_of hJ (by decide) ck_c_rubbing (by unfold kc_c_rubbing; exact List.forall_mem_cons.mpr ⟨kg_covers hJ H, List.forall_mem_cons.mpr ⟨kg_sayAt hJ H, List.forall_mem_cons.mpr ⟨kg_value hJ H, List.forall_mem_cons.mpr ⟨kg_gainOver hJ H, List.forall_mem_cons.mpr ⟨kg_loss hJ H, List.forall_mem_cons.mpr ⟨kg_worth hJ H, List.forall_mem_cons.mpr ⟨kg_covered hJ H, List.forall_mem_cons.mpr ⟨kg_joined hJ H, List.forall_mem_cons.mpr ⟨kg_clashes hJ H, List.forall_mem_cons.mpr ⟨kg_falsehood34 hJ H, List.forall_mem_cons.mpr ⟨kg_trustOfAll34 hJ H, List.forall_mem_cons.mpr ⟨kg_laidSet34 hJ H, List.forall_mem_cons.mpr ⟨kg_coveredBy34 hJ H, List.forall_mem_cons.mpr ⟨kg_deniers34 hJ H, List.forall_mem_cons.mpr ⟨kg_gainOf34 hJ H, List.forall_mem_cons.mpr ⟨kg_flow34 hJ H, List.forall_mem_cons.mpr ⟨kg_noteClashes hJ H, List.forall_mem_cons.mpr ⟨kg_anyClash hJ H, fun _ h => absurd h List.not_mem_nil⟩⟩⟩⟩⟩⟩⟩⟩⟩⟩⟩⟩⟩⟩⟩⟩⟩⟩)
theorem kg_c_told (hJ : JP J) (H : HandU E V J) : KGi E V J 87 k_c_told := kgi_of hJ (by decide) ck_c_told (by unfold kc_c_told; exact List.forall_mem_cons.mpr ⟨kg_covers hJ H, List.forall_mem_cons.mpr ⟨kg_sayAt hJ H, List.forall_mem_cons.mpr ⟨kg_value hJ H, List.forall_mem_cons.mpr ⟨kg_gainOver hJ H, List.forall_mem_cons.mpr ⟨kg_loss hJ H, List.forall_mem_cons.mpr ⟨kg_worth hJ H, List.forall_mem_cons.mpr ⟨kg_covered hJ H, List.forall_mem_cons.mpr ⟨kg_joined hJ H, List.forall_mem_cons.mpr ⟨kg_clashes hJ H, List.forall_mem_cons.mpr ⟨kg_falsehood34 hJ H, List.forall_mem_cons.mpr ⟨kg_trustOfAll34 hJ H, List.forall_mem_cons.mpr ⟨kg_laidSet34 hJ H, List.forall_mem_cons.mpr ⟨kg_coveredBy34 hJ H, List.forall_mem_cons.mpr ⟨kg_deniers34 hJ H, List.forall_mem_cons.mpr ⟨kg_gainOf34 hJ H, List.forall_mem_cons.mpr ⟨kg_flow34 hJ H, List.forall_mem_cons.mpr ⟨kg_noteClashes hJ H, List.forall_mem_cons.mpr ⟨kg_anyClash hJ H, fun _ h => absurd h List.not_mem_nil⟩⟩⟩⟩⟩⟩⟩⟩⟩⟩⟩⟩⟩⟩⟩⟩⟩⟩)
theorem kg_c_says (hJ : JP J) (H : HandU E V J) : KGi E V J 88 k_c_says := kgi_of hJ (by decide) ck_c_says (by unfold kc_c_says; exact List.forall_mem_cons.mpr ⟨kg_covers hJ H, List.forall_mem_cons.mpr ⟨kg_sayAt hJ H, List.forall_mem_cons.mpr ⟨kg_value hJ H, List.forall_mem_cons.mpr ⟨kg_gainOver hJ H, List.forall_mem_cons.mpr ⟨kg_loss hJ H, List.forall_mem_cons.mpr ⟨kg_worth hJ H, List.forall_mem_cons.mpr ⟨kg_covered hJ H, List.forall_mem_cons.mpr ⟨kg_joined hJ H, List.forall_mem_cons.mpr ⟨kg_clashes hJ H, List.forall_mem_cons.mpr ⟨kg_falsehood34 hJ H, List.forall_mem_cons.mpr ⟨kg_trustOfAll34 hJ H, List.forall_mem_cons.mpr ⟨kg_laidSet34 hJ H, List.forall_mem_cons.mpr ⟨kg_coveredBy34 hJ H, List.forall_mem_cons.mpr ⟨kg_deniers34 hJ H, List.forall_mem_cons.mpr ⟨kg_gainOf34 hJ H, List.forall_mem_cons.mpr ⟨kg_flow34 hJ H, List.forall_mem_cons.mpr ⟨kg_noteClashes hJ H, List.forall_mem_cons.mpr ⟨kg_anyClash hJ H, fun _ h => absurd h List.not_mem_nil⟩⟩⟩⟩⟩⟩⟩⟩⟩⟩⟩⟩⟩⟩⟩⟩⟩⟩)
theorem kg_c_turns (hJ : JP J) (H : HandU E V J) : KGi E V J 90 k_c_turns := kgi_of hJ (by decide) ck_c_turns (by unfold kc_c_turns; exact List.forall_mem_cons.mpr ⟨kg_covers hJ H, List.forall_mem_cons.mpr ⟨kg_sayAt hJ H, List.forall_mem_cons.mpr ⟨kg_value hJ H, List.forall_mem_cons.mpr ⟨kg_gainOver hJ H, List.forall_mem_cons.mpr ⟨kg_loss hJ H, List.forall_mem_cons.mpr ⟨kg_worth hJ H, List.forall_mem_cons.mpr ⟨kg_covered hJ H, List.forall_mem_cons.mpr ⟨kg_joined hJ H, List.forall_mem_cons.mpr ⟨kg_clashes hJ H, List.forall_mem_cons.mpr ⟨kg_falsehood34 hJ H, List.forall_mem_cons.mpr ⟨kg_trustOfAll34 hJ H, List.forall_mem_cons.mpr ⟨kg_laidSet34 hJ H, List.forall_mem_cons.mpr ⟨kg_coveredBy34 hJ H, List.forall_mem_cons.mpr ⟨kg_deniers34 hJ H, List.forall_mem_cons.mpr ⟨kg_gainOf34 hJ H, List.forall_mem_cons.mpr ⟨kg_flow34 hJ H, List.forall_mem_cons.mpr ⟨kg_noteClashes hJ H, List.forall_mem_cons.mpr ⟨kg_anyClash hJ H, fun _ h => absurd h List.not_mem_nil⟩⟩⟩⟩⟩⟩⟩⟩⟩⟩⟩⟩⟩⟩⟩⟩⟩⟩)
theorem kg_c_set (hJ : JP J) (H : HandU E V J) : KGi E V J 91 k_c_set := kgi_of hJ (by decide) ck_c_set (by unfold kc_c_set; exact List.forall_mem_cons.mpr ⟨kg_covers hJ H, List.forall_mem_cons.mpr ⟨kg_sayAt hJ H, List.forall_mem_cons.mpr ⟨kg_value hJ H, List.forall_mem_cons.mpr ⟨kg_gainOver hJ H, List.forall_mem_cons.mpr ⟨kg_loss hJ H, List.forall_mem_cons.mpr ⟨kg_worth hJ H, List.forall_mem_cons.mpr ⟨kg_covered hJ H, List.forall_mem_cons.mpr ⟨kg_joined hJ H, List.forall_mem_cons.mpr ⟨kg_clashes hJ H, List.forall_mem_cons.mpr ⟨kg_falsehood34 hJ H, List.forall_mem_cons.mpr ⟨kg_trustOfAll34 hJ H, List.forall_mem_cons.mpr ⟨kg_laidSet34 hJ H, List.forall_mem_cons.mpr ⟨kg_coveredBy34 hJ H, List.forall_mem_cons.mpr ⟨kg_deniers34 hJ H, List.forall_mem_cons.mpr ⟨kg_gainOf34 hJ H, List.forall_mem_cons.mpr ⟨kg_flow34 hJ H, List.forall_mem_cons.mpr ⟨kg_noteClashes hJ H, List.forall_mem_cons.mpr ⟨kg_anyClash hJ H, fun _ h => absurd h List.not_mem_nil⟩⟩⟩⟩⟩⟩⟩⟩⟩⟩⟩⟩⟩⟩⟩⟩⟩⟩)
theorem kg_c_carve (hJ : JP J) (H : HandU E V J) : KGi E V J 92 k_c_carve := kgi_of hJ (by decide) ck_c_carve (by unfold kc_c_carve; exact List.forall_mem_cons.mpr ⟨kg_covers hJ H, List.forall_mem_cons.mpr ⟨kg_sayAt hJ H, List.forall_mem_cons.mpr ⟨kg_value hJ H, List.forall_mem_cons.mpr ⟨kg_gainOver hJ H, List.forall_mem_cons.mpr ⟨kg_loss hJ H, List.forall_mem_cons.mpr ⟨kg_worth hJ H, List.forall_mem_cons.mpr ⟨kg_covered hJ H, List.forall_mem_cons.mpr ⟨kg_joined hJ H, List.forall_mem_cons.mpr ⟨kg_clashes hJ H, List.forall_mem_cons.mpr ⟨kg_falsehood34 hJ H, List.forall_mem_cons.mpr ⟨kg_trustOfAll34 hJ H, List.forall_mem_cons.mpr ⟨kg_laidSet34 hJ H, List.forall_mem_cons.mpr ⟨kg_coveredBy34 hJ H, List.forall_mem_cons.mpr ⟨kg_deniers34 hJ H, List.forall_mem_cons.mpr ⟨kg_gainOf34 hJ H, List.forall_mem_cons.mpr ⟨kg_flow34 hJ H, List.forall_mem_cons.mpr ⟨kg_noteClashes hJ H, List.forall_mem_cons.mpr ⟨kg_anyClash hJ H, fun _ h => absurd h List.not_mem_nil⟩⟩⟩⟩⟩⟩⟩⟩⟩⟩⟩⟩⟩⟩⟩⟩⟩⟩)
theorem kg_c_carved (hJ : JP J) (H : HandU E V J) : KGi E V J 93 k_c_carved := kgi_of hJ (by decide) ck_c_carved (by unfold kc_c_carved; exact List.forall_mem_cons.mpr ⟨kg_covers hJ H, List.forall_mem_cons.mpr ⟨kg_sayAt hJ H, List.forall_mem_cons.mpr ⟨kg_value hJ H, List.forall_mem_cons.mpr ⟨kg_gainOver hJ H, List.forall_mem_cons.mpr ⟨kg_loss hJ H, List.forall_mem_cons.mpr ⟨kg_worth hJ H, List.forall_mem_cons.mpr ⟨kg_covered hJ H, List.forall_mem_cons.mpr ⟨kg_joined hJ H, List.forall_mem_cons.mpr ⟨kg_clashes hJ H, List.forall_mem_cons.mpr ⟨kg_falsehood34 hJ H, List.forall_mem_cons.mpr ⟨kg_trustOfAll34 hJ H, List.forall_mem_cons.mpr ⟨kg_laidSet34 hJ H, List.forall_mem_cons.mpr ⟨kg_coveredBy34 hJ H, List.forall_mem_cons.mpr ⟨kg_deniers34 hJ H, List.forall_mem_cons.mpr ⟨kg_gainOf34 hJ H, List.forall_mem_cons.mpr ⟨kg_flow34 hJ H, List.forall_mem_cons.mpr ⟨kg_noteClashes hJ H, List.forall_mem_cons.mpr ⟨kg_anyClash hJ H, fun _ h => absurd h List.not_mem_nil⟩⟩⟩⟩⟩⟩⟩⟩⟩⟩⟩⟩⟩⟩⟩⟩⟩⟩)
theorem kg_c_deal (hJ : JP J) (H : HandU E V J) : KGi E V J 94 k_c_deal := kgi_of hJ (by decide) ck_c_deal (by unfold kc_c_deal; exact List.forall_mem_cons.mpr ⟨kg_covers hJ H, List.forall_mem_cons.mpr ⟨kg_sayAt hJ H, List.forall_mem_cons.mpr ⟨kg_value hJ H, List.forall_mem_cons.mpr ⟨kg_gainOver hJ H, List.forall_mem_cons.mpr ⟨kg_loss hJ H, List.forall_mem_cons.mpr ⟨kg_worth hJ H, List.forall_mem_cons.mpr ⟨kg_covered hJ H, List.forall_mem_cons.mpr ⟨kg_joined hJ H, List.forall_mem_cons.mpr ⟨kg_clashes hJ H, List.forall_mem_cons.mpr ⟨kg_falsehood34 hJ H, List.forall_mem_cons.mpr ⟨kg_trustOfAll34 hJ H, List.forall_mem_cons.mpr ⟨kg_laidSet34 hJ H, List.forall_mem_cons.mpr ⟨kg_coveredBy34 hJ H, List.forall_mem_cons.mpr ⟨kg_deniers34 hJ H, List.forall_mem_cons.mpr ⟨kg_gainOf34 hJ H, List.forall_mem_cons.mpr ⟨kg_flow34 hJ H, List.forall_mem_cons.mpr ⟨kg_noteClashes hJ H, List.forall_mem_cons.mpr ⟨kg_anyClash hJ H, fun _ h => absurd h List.not_mem_nil⟩⟩⟩⟩⟩⟩⟩⟩⟩⟩⟩⟩⟩⟩⟩⟩⟩⟩)
theorem kg_c_seed (hJ : JP J) (H : HandU E V J) : KGi E V J 95 k_c_seed := kgi_of hJ (by decide) ck_c_seed (by unfold kc_c_seed; exact List.forall_mem_cons.mpr ⟨kg_covers hJ H, List.forall_mem_cons.mpr ⟨kg_sayAt hJ H, List.forall_mem_cons.mpr ⟨kg_value hJ H, List.forall_mem_cons.mpr ⟨kg_gainOver hJ H, List.forall_mem_cons.mpr ⟨kg_loss hJ H, List.forall_mem_cons.mpr ⟨kg_worth hJ H, List.forall_mem_cons.mpr ⟨kg_covered hJ H, List.forall_mem_cons.mpr ⟨kg_joined hJ H, List.forall_mem_cons.mpr ⟨kg_clashes hJ H, List.forall_mem_cons.mpr ⟨kg_falsehood34 hJ H, List.forall_mem_cons.mpr ⟨kg_trustOfAll34 hJ H, List.forall_mem_cons.mpr ⟨kg_laidSet34 hJ H, List.forall_mem_cons.mpr ⟨kg_coveredBy34 hJ H, List.forall_mem_cons.mpr ⟨kg_deniers34 hJ H, List.forall_mem_cons.mpr ⟨kg_gainOf34 hJ H, List.forall_mem_cons.mpr ⟨kg_flow34 hJ H, List.forall_mem_cons.mpr ⟨kg_noteClashes hJ H, List.forall_mem_cons.mpr ⟨kg_anyClash hJ H, fun _ h => absurd h List.not_mem_nil⟩⟩⟩⟩⟩⟩⟩⟩⟩⟩⟩⟩⟩⟩⟩⟩⟩⟩)
theorem kg_c_falseAt (hJ : JP J) (H : HandU E V J) : KGi E V J 96 k_c_falseAt := kgi_of hJ (by decide) ck_c_falseAt (by unfold kc_c_falseAt; exact List.forall_mem_cons.mpr ⟨kg_covers hJ H, List.forall_mem_cons.mpr ⟨kg_sayAt hJ H, List.forall_mem_cons.mpr ⟨kg_value hJ H, List.forall_mem_cons.mpr ⟨kg_gainOver hJ H, List.forall_mem_cons.mpr ⟨kg_loss hJ H, List.forall_mem_cons.mpr ⟨kg_worth hJ H, List.forall_mem_cons.mpr ⟨kg_covered hJ H, List.forall_mem_cons.mpr ⟨kg_joined hJ H, List.forall_mem_cons.mpr ⟨kg_clashes hJ H, List.forall_mem_cons.mpr ⟨kg_falsehood34 hJ H, List.forall_mem_cons.mpr ⟨kg_trustOfAll34 hJ H, List.forall_mem_cons.mpr ⟨kg_laidSet34 hJ H, List.forall_mem_cons.mpr ⟨kg_coveredBy34 hJ H, List.forall_mem_cons.mpr ⟨kg_deniers34 hJ H, List.forall_mem_cons.mpr ⟨kg_gainOf34 hJ H, List.forall_mem_cons.mpr ⟨kg_flow34 hJ H, List.forall_mem_cons.mpr ⟨kg_noteClashes hJ H, List.forall_mem_cons.mpr ⟨kg_anyClash hJ H, fun _ h => absurd h List.not_mem_nil⟩⟩⟩⟩⟩⟩⟩⟩⟩⟩⟩⟩⟩⟩⟩⟩⟩⟩)
theorem kg_c_fits (hJ : JP J) (H : HandU E V J) : KGi E V J 97 k_c_fits := kgi_of hJ (by decide) ck_c_fits (by unfold kc_c_fits; exact List.forall_mem_cons.mpr ⟨kg_covers hJ H, List.forall_mem_cons.mpr ⟨kg_sayAt hJ H, List.forall_mem_cons.mpr ⟨kg_value hJ H, List.forall_mem_cons.mpr ⟨kg_gainOver hJ H, List.forall_mem_cons.mpr ⟨kg_loss hJ H, List.forall_mem_cons.mpr ⟨kg_worth hJ H, List.forall_mem_cons.mpr ⟨kg_covered hJ H, List.forall_mem_cons.mpr ⟨kg_joined hJ H, List.forall_mem_cons.mpr ⟨kg_clashes hJ H, List.forall_mem_cons.mpr ⟨kg_falsehood34 hJ H, List.forall_mem_cons.mpr ⟨kg_trustOfAll34 hJ H, List.forall_mem_cons.mpr ⟨kg_laidSet34 hJ H, List.forall_mem_cons.mpr ⟨kg_coveredBy34 hJ H, List.forall_mem_cons.mpr ⟨kg_deniers34 hJ H, List.forall_mem_cons.mpr ⟨kg_gainOf34 hJ H, List.forall_mem_cons.mpr ⟨kg_flow34 hJ H, List.forall_mem_cons.mpr ⟨kg_noteClashes hJ H, List.forall_mem_cons.mpr ⟨kg_anyClash hJ H, fun _ h => absurd h List.not_mem_nil⟩⟩⟩⟩⟩⟩⟩⟩⟩⟩⟩⟩⟩⟩⟩⟩⟩⟩)
theorem kg_c_join (hJ : JP J) (H : HandU E V J) : KGi E V J 98 k_c_join := kgi_of hJ (by decide) ck_c_join (by unfold kc_c_join; exact List.forall_mem_cons.mpr ⟨kg_covers hJ H, List.forall_mem_cons.mpr ⟨kg_sayAt hJ H, List.forall_mem_cons.mpr ⟨kg_value hJ H, List.forall_mem_cons.mpr ⟨kg_gainOver hJ H, List.forall_mem_cons.mpr ⟨kg_loss hJ H, List.forall_mem_cons.mpr ⟨kg_worth hJ H, List.forall_mem_cons.mpr ⟨kg_covered hJ H, List.forall_mem_cons.mpr ⟨kg_joined hJ H, List.forall_mem_cons.mpr ⟨kg_clashes hJ H, List.forall_mem_cons.mpr ⟨kg_falsehood34 hJ H, List.forall_mem_cons.mpr ⟨kg_trustOfAll34 hJ H, List.forall_mem_cons.mpr ⟨kg_laidSet34 hJ H, List.forall_mem_cons.mpr ⟨kg_coveredBy34 hJ H, List.forall_mem_cons.mpr ⟨kg_deniers34 hJ H, List.forall_mem_cons.mpr ⟨kg_gainOf34 hJ H, List.forall_mem_cons.mpr ⟨kg_flow34 hJ H, List.forall_mem_cons.mpr ⟨kg_noteClashes hJ H, List.forall_mem_cons.mpr ⟨kg_anyClash hJ H, fun _ h => absurd h List.not_mem_nil⟩⟩⟩⟩⟩⟩⟩⟩⟩⟩⟩⟩⟩⟩⟩⟩⟩⟩)
theorem kg_c_clash (hJ : JP J) (H : HandU E V J) : KGi E V J 99 k_c_clash := kgi_of hJ (by decide) ck_c_clash (by unfold kc_c_clash; exact List.forall_mem_cons.mpr ⟨kg_covers hJ H, List.forall_mem_cons.mpr ⟨kg_sayAt hJ H, List.forall_mem_cons.mpr ⟨kg_value hJ H, List.forall_mem_cons.mpr ⟨kg_gainOver hJ H, List.forall_mem_cons.mpr ⟨kg_loss hJ H, List.forall_mem_cons.mpr ⟨kg_worth hJ H, List.forall_mem_cons.mpr ⟨kg_covered hJ H, List.forall_mem_cons.mpr ⟨kg_joined hJ H, List.forall_mem_cons.mpr ⟨kg_clashes hJ H, List.forall_mem_cons.mpr ⟨kg_falsehood34 hJ H, List.forall_mem_cons.mpr ⟨kg_trustOfAll34 hJ H, List.forall_mem_cons.mpr ⟨kg_laidSet34 hJ H, List.forall_mem_cons.mpr ⟨kg_coveredBy34 hJ H, List.forall_mem_cons.mpr ⟨kg_deniers34 hJ H, List.forall_mem_cons.mpr ⟨kg_gainOf34 hJ H, List.forall_mem_cons.mpr ⟨kg_flow34 hJ H, List.forall_mem_cons.mpr ⟨kg_noteClashes hJ H, List.forall_mem_cons.mpr ⟨kg_anyClash hJ H, fun _ h => absurd h List.not_mem_nil⟩⟩⟩⟩⟩⟩⟩⟩⟩⟩⟩⟩⟩⟩⟩⟩⟩⟩)
theorem kg_c_undone (hJ : JP J) (H : HandU E V J) : KGi E V J 100 k_c_undone := kgi_of hJ (by decide) ck_c_undone (by unfold kc_c_undone; exact List.forall_mem_cons.mpr ⟨kg_covers hJ H, List.forall_mem_cons.mpr ⟨kg_sayAt hJ H, List.forall_mem_cons.mpr ⟨kg_value hJ H, List.forall_mem_cons.mpr ⟨kg_gainOver hJ H, List.forall_mem_cons.mpr ⟨kg_loss hJ H, List.forall_mem_cons.mpr ⟨kg_worth hJ H, List.forall_mem_cons.mpr ⟨kg_covered hJ H, List.forall_mem_cons.mpr ⟨kg_joined hJ H, List.forall_mem_cons.mpr ⟨kg_clashes hJ H, List.forall_mem_cons.mpr ⟨kg_falsehood34 hJ H, List.forall_mem_cons.mpr ⟨kg_trustOfAll34 hJ H, List.forall_mem_cons.mpr ⟨kg_laidSet34 hJ H, List.forall_mem_cons.mpr ⟨kg_coveredBy34 hJ H, List.forall_mem_cons.mpr ⟨kg_deniers34 hJ H, List.forall_mem_cons.mpr ⟨kg_gainOf34 hJ H, List.forall_mem_cons.mpr ⟨kg_flow34 hJ H, List.forall_mem_cons.mpr ⟨kg_noteClashes hJ H, List.forall_mem_cons.mpr ⟨kg_anyClash hJ H, fun _ h => absurd h List.not_mem_nil⟩⟩⟩⟩⟩⟩⟩⟩⟩⟩⟩⟩⟩⟩⟩⟩⟩⟩)
theorem kg_c_borne (hJ : JP J) (H : HandU E V J) : KGi E V J 101 k_c_borne := kgi_of hJ (by decide) ck_c_borne (by unfold kc_c_borne; exact List.forall_mem_cons.mpr ⟨kg_covers hJ H, List.forall_mem_cons.mpr ⟨kg_sayAt hJ H, List.forall_mem_cons.mpr ⟨kg_value hJ H, List.forall_mem_cons.mpr ⟨kg_gainOver hJ H, List.forall_mem_cons.mpr ⟨kg_loss hJ H, List.forall_mem_cons.mpr ⟨kg_worth hJ H, List.forall_mem_cons.mpr ⟨kg_covered hJ H, List.forall_mem_cons.mpr ⟨kg_joined hJ H, List.forall_mem_cons.mpr ⟨kg_clashes hJ H, List.forall_mem_cons.mpr ⟨kg_falsehood34 hJ H, List.forall_mem_cons.mpr ⟨kg_trustOfAll34 hJ H, List.forall_mem_cons.mpr ⟨kg_laidSet34 hJ H, List.forall_mem_cons.mpr ⟨kg_coveredBy34 hJ H, List.forall_mem_cons.mpr ⟨kg_deniers34 hJ H, List.forall_mem_cons.mpr ⟨kg_gainOf34 hJ H, List.forall_mem_cons.mpr ⟨kg_flow34 hJ H, List.forall_mem_cons.mpr ⟨kg_noteClashes hJ H, List.forall_mem_cons.mpr ⟨kg_anyClash hJ H, fun _ h => absurd h List.not_mem_nil⟩⟩⟩⟩⟩⟩⟩⟩⟩⟩⟩⟩⟩⟩⟩⟩⟩⟩)
theorem kg_c_look (hJ : JP J) (H : HandU E V J) : KGi E V J 102 k_c_look := kgi_of hJ (by decide) ck_c_look (by unfold kc_c_look; exact List.forall_mem_cons.mpr ⟨kg_covers hJ H, List.forall_mem_cons.mpr ⟨kg_sayAt hJ H, List.forall_mem_cons.mpr ⟨kg_value hJ H, List.forall_mem_cons.mpr ⟨kg_gainOver hJ H, List.forall_mem_cons.mpr ⟨kg_loss hJ H, List.forall_mem_cons.mpr ⟨kg_worth hJ H, List.forall_mem_cons.mpr ⟨kg_covered hJ H, List.forall_mem_cons.mpr ⟨kg_joined hJ H, List.forall_mem_cons.mpr ⟨kg_clashes hJ H, List.forall_mem_cons.mpr ⟨kg_falsehood34 hJ H, List.forall_mem_cons.mpr ⟨kg_trustOfAll34 hJ H, List.forall_mem_cons.mpr ⟨kg_laidSet34 hJ H, List.forall_mem_cons.mpr ⟨kg_coveredBy34 hJ H, List.forall_mem_cons.mpr ⟨kg_deniers34 hJ H, List.forall_mem_cons.mpr ⟨kg_gainOf34 hJ H, List.forall_mem_cons.mpr ⟨kg_flow34 hJ H, List.forall_mem_cons.mpr ⟨kg_noteClashes hJ H, List.forall_mem_cons.mpr ⟨kg_anyClash hJ H, fun _ h => absurd h List.not_mem_nil⟩⟩⟩⟩⟩⟩⟩⟩⟩⟩⟩⟩⟩⟩⟩⟩⟩⟩)
theorem kg_c_tides (hJ : JP J) (H : HandU E V J) : KGi E V J 103 k_c_tides := kgi_of hJ (by decide) ck_c_tides (by unfold kc_c_tides; exact List.forall_mem_cons.mpr ⟨kg_covers hJ H, List.forall_mem_cons.mpr ⟨kg_sayAt hJ H, List.forall_mem_cons.mpr ⟨kg_value hJ H, List.forall_mem_cons.mpr ⟨kg_gainOver hJ H, List.forall_mem_cons.mpr ⟨kg_loss hJ H, List.forall_mem_cons.mpr ⟨kg_worth hJ H, List.forall_mem_cons.mpr ⟨kg_covered hJ H, List.forall_mem_cons.mpr ⟨kg_joined hJ H, List.forall_mem_cons.mpr ⟨kg_clashes hJ H, List.forall_mem_cons.mpr ⟨kg_falsehood34 hJ H, List.forall_mem_cons.mpr ⟨kg_trustOfAll34 hJ H, List.forall_mem_cons.mpr ⟨kg_laidSet34 hJ H, List.forall_mem_cons.mpr ⟨kg_coveredBy34 hJ H, List.forall_mem_cons.mpr ⟨kg_deniers34 hJ H, List.forall_mem_cons.mpr ⟨kg_gainOf34 hJ H, List.forall_mem_cons.mpr ⟨kg_flow34 hJ H, List.forall_mem_cons.mpr ⟨kg_noteClashes hJ H, List.forall_mem_cons.mpr ⟨kg_anyClash hJ H, fun _ h => absurd h List.not_mem_nil⟩⟩⟩⟩⟩⟩⟩⟩⟩⟩⟩⟩⟩⟩⟩⟩⟩⟩)
theorem kg_c_book (hJ : JP J) (H : HandU E V J) : KGi E V J 104 k_c_book := kgi_of hJ (by decide) ck_c_book (by unfold kc_c_book; exact List.forall_mem_cons.mpr ⟨kg_covers hJ H, List.forall_mem_cons.mpr ⟨kg_sayAt hJ H, List.forall_mem_cons.mpr ⟨kg_value hJ H, List.forall_mem_cons.mpr ⟨kg_gainOver hJ H, List.forall_mem_cons.mpr ⟨kg_loss hJ H, List.forall_mem_cons.mpr ⟨kg_worth hJ H, List.forall_mem_cons.mpr ⟨kg_covered hJ H, List.forall_mem_cons.mpr ⟨kg_joined hJ H, List.forall_mem_cons.mpr ⟨kg_clashes hJ H, List.forall_mem_cons.mpr ⟨kg_falsehood34 hJ H, List.forall_mem_cons.mpr ⟨kg_trustOfAll34 hJ H, List.forall_mem_cons.mpr ⟨kg_laidSet34 hJ H, List.forall_mem_cons.mpr ⟨kg_coveredBy34 hJ H, List.forall_mem_cons.mpr ⟨kg_deniers34 hJ H, List.forall_mem_cons.mpr ⟨kg_gainOf34 hJ H, List.forall_mem_cons.mpr ⟨kg_flow34 hJ H, List.forall_mem_cons.mpr ⟨kg_noteClashes hJ H, List.forall_mem_cons.mpr ⟨kg_anyClash hJ H, fun _ h => absurd h List.not_mem_nil⟩⟩⟩⟩⟩⟩⟩⟩⟩⟩⟩⟩⟩⟩⟩⟩⟩⟩)
theorem kg_c_behind (hJ : JP J) (H : HandU E V J) : KGi E V J 105 k_c_behind := kgi_of hJ (by decide) ck_c_behind (by unfold kc_c_behind; exact List.forall_mem_cons.mpr ⟨kg_covers hJ H, List.forall_mem_cons.mpr ⟨kg_sayAt hJ H, List.forall_mem_cons.mpr ⟨kg_value hJ H, List.forall_mem_cons.mpr ⟨kg_gainOver hJ H, List.forall_mem_cons.mpr ⟨kg_loss hJ H, List.forall_mem_cons.mpr ⟨kg_worth hJ H, List.forall_mem_cons.mpr ⟨kg_covered hJ H, List.forall_mem_cons.mpr ⟨kg_joined hJ H, List.forall_mem_cons.mpr ⟨kg_clashes hJ H, List.forall_mem_cons.mpr ⟨kg_trustOfAll62 hJ H, List.forall_mem_cons.mpr ⟨kg_laidSet62 hJ H, List.forall_mem_cons.mpr ⟨kg_flow62 hJ H, List.forall_mem_cons.mpr ⟨kg_take62_34 hJ H, fun _ h => absurd h List.not_mem_nil⟩⟩⟩⟩⟩⟩⟩⟩⟩⟩⟩⟩⟩)
theorem kg_c_lasts (hJ : JP J) (H : HandU E V J) : KGi E V J 106 k_c_lasts := kgi_of hJ (by decide) ck_c_lasts (by unfold kc_c_lasts; exact List.forall_mem_cons.mpr ⟨kg_covers hJ H, List.forall_mem_cons.mpr ⟨kg_sayAt hJ H, List.forall_mem_cons.mpr ⟨kg_value hJ H, List.forall_mem_cons.mpr ⟨kg_gainOver hJ H, List.forall_mem_cons.mpr ⟨kg_loss hJ H, List.forall_mem_cons.mpr ⟨kg_worth hJ H, List.forall_mem_cons.mpr ⟨kg_covered hJ H, List.forall_mem_cons.mpr ⟨kg_joined hJ H, List.forall_mem_cons.mpr ⟨kg_clashes hJ H, List.forall_mem_cons.mpr ⟨kg_trustOfAll62 hJ H, List.forall_mem_cons.mpr ⟨kg_laidSet62 hJ H, List.forall_mem_cons.mpr ⟨kg_flow62 hJ H, List.forall_mem_cons.mpr ⟨kg_take62_34 hJ H, fun _ h => absurd h List.not_mem_nil⟩⟩⟩⟩⟩⟩⟩⟩⟩⟩⟩⟩⟩)
theorem kg_c_best (hJ : JP J) (H : HandU E V J) : KGi E V J 107 k_c_best := kgi_of hJ (by decide) ck_c_best (by unfold kc_c_best; exact List.forall_mem_cons.mpr ⟨kg_covers hJ H, List.forall_mem_cons.mpr ⟨kg_sayAt hJ H, List.forall_mem_cons.mpr ⟨kg_value hJ H, List.forall_mem_cons.mpr ⟨kg_gainOver hJ H, List.forall_mem_cons.mpr ⟨kg_loss hJ H, List.forall_mem_cons.mpr ⟨kg_worth hJ H, List.forall_mem_cons.mpr ⟨kg_covered hJ H, List.forall_mem_cons.mpr ⟨kg_joined hJ H, List.forall_mem_cons.mpr ⟨kg_clashes hJ H, List.forall_mem_cons.mpr ⟨kg_trustOfAll62 hJ H, List.forall_mem_cons.mpr ⟨kg_laidSet62 hJ H, List.forall_mem_cons.mpr ⟨kg_flow62 hJ H, List.forall_mem_cons.mpr ⟨kg_take62_34 hJ H, fun _ h => absurd h List.not_mem_nil⟩⟩⟩⟩⟩⟩⟩⟩⟩⟩⟩⟩⟩)
theorem kg_c_taught (hJ : JP J) (H : HandU E V J) : KGi E V J 108 k_c_taught := kgi_of hJ (by decide) ck_c_taught (by unfold kc_c_taught; exact List.forall_mem_cons.mpr ⟨kg_covers hJ H, List.forall_mem_cons.mpr ⟨kg_sayAt hJ H, List.forall_mem_cons.mpr ⟨kg_value hJ H, List.forall_mem_cons.mpr ⟨kg_gainOver hJ H, List.forall_mem_cons.mpr ⟨kg_loss hJ H, List.forall_mem_cons.mpr ⟨kg_worth hJ H, List.forall_mem_cons.mpr ⟨kg_covered hJ H, List.forall_mem_cons.mpr ⟨kg_joined hJ H, List.forall_mem_cons.mpr ⟨kg_clashes hJ H, List.forall_mem_cons.mpr ⟨kg_trustOfAll62 hJ H, List.forall_mem_cons.mpr ⟨kg_laidSet62 hJ H, List.forall_mem_cons.mpr ⟨kg_flow62 hJ H, List.forall_mem_cons.mpr ⟨kg_take62_34 hJ H, fun _ h => absurd h List.not_mem_nil⟩⟩⟩⟩⟩⟩⟩⟩⟩⟩⟩⟩⟩)
theorem kg_apart (hJ : JP J) (H : HandU E V J) : KGi E V J 139 k_apart := kgi_of hJ (by decide) ck_apart (by unfold kc_apart; exact List.forall_mem_cons.mpr ⟨kg_covers hJ H, List.forall_mem_cons.mpr ⟨kg_sayAt hJ H, List.forall_mem_cons.mpr ⟨kg_value hJ H, List.forall_mem_cons.mpr ⟨kg_gainOver hJ H, List.forall_mem_cons.mpr ⟨kg_loss hJ H, List.forall_mem_cons.mpr ⟨kg_worth hJ H, List.forall_mem_cons.mpr ⟨kg_covered hJ H, List.forall_mem_cons.mpr ⟨kg_joined hJ H, List.forall_mem_cons.mpr ⟨kg_clashes hJ H, fun _ h => absurd h List.not_mem_nil⟩⟩⟩⟩⟩⟩⟩⟩⟩)
theorem kg_c_whose (hJ : JP J) (H : HandU E V J) : KGi E V J 109 k_c_whose := kgi_of hJ (by decide) ck_c_whose (by unfold kc_c_whose; exact List.forall_mem_cons.mpr ⟨kg_covers hJ H, List.forall_mem_cons.mpr ⟨kg_sayAt hJ H, List.forall_mem_cons.mpr ⟨kg_value hJ H, List.forall_mem_cons.mpr ⟨kg_gainOver hJ H, List.forall_mem_cons.mpr ⟨kg_loss hJ H, List.forall_mem_cons.mpr ⟨kg_worth hJ H, List.forall_mem_cons.mpr ⟨kg_covered hJ H, List.forall_mem_cons.mpr ⟨kg_joined hJ H, List.forall_mem_cons.mpr ⟨kg_clashes hJ H, List.forall_mem_cons.mpr ⟨kg_falsehood34 hJ H, List.forall_mem_cons.mpr ⟨kg_trustOfAll34 hJ H, List.forall_mem_cons.mpr ⟨kg_laidSet34 hJ H, List.forall_mem_cons.mpr ⟨kg_coveredBy34 hJ H, List.forall_mem_cons.mpr ⟨kg_deniers34 hJ H, List.forall_mem_cons.mpr ⟨kg_gainOf34 hJ H, List.forall_mem_cons.mpr ⟨kg_flow34 hJ H, List.forall_mem_cons.mpr ⟨kg_noteClashes hJ H, List.forall_mem_cons.mpr ⟨kg_anyClash hJ H, List.forall_mem_cons.mpr ⟨kg_apart hJ H, fun _ h => absurd h List.not_mem_nil⟩⟩⟩⟩⟩⟩⟩⟩⟩⟩⟩⟩⟩⟩⟩⟩⟩⟩⟩)
theorem kg_c_fine (hJ : JP J) (H : HandU E V J) : KGi E V J 111 k_c_fine := kgi_of hJ (by decide) ck_c_fine (by unfold kc_c_fine; exact List.forall_mem_cons.mpr ⟨kg_covers hJ H, List.forall_mem_cons.mpr ⟨kg_sayAt hJ H, List.forall_mem_cons.mpr ⟨kg_value hJ H, List.forall_mem_cons.mpr ⟨kg_gainOver hJ H, List.forall_mem_cons.mpr ⟨kg_loss hJ H, List.forall_mem_cons.mpr ⟨kg_worth hJ H, List.forall_mem_cons.mpr ⟨kg_covered hJ H, List.forall_mem_cons.mpr ⟨kg_joined hJ H, List.forall_mem_cons.mpr ⟨kg_clashes hJ H, List.forall_mem_cons.mpr ⟨kg_falsehood34 hJ H, List.forall_mem_cons.mpr ⟨kg_trustOfAll34 hJ H, List.forall_mem_cons.mpr ⟨kg_laidSet34 hJ H, List.forall_mem_cons.mpr ⟨kg_coveredBy34 hJ H, List.forall_mem_cons.mpr ⟨kg_deniers34 hJ H, List.forall_mem_cons.mpr ⟨kg_gainOf34 hJ H, List.forall_mem_cons.mpr ⟨kg_flow34 hJ H, List.forall_mem_cons.mpr ⟨kg_noteClashes hJ H, List.forall_mem_cons.mpr ⟨kg_anyClash hJ H, List.forall_mem_cons.mpr ⟨kg_workedR34 hJ H, fun _ h => absurd h List.not_mem_nil⟩⟩⟩⟩⟩⟩⟩⟩⟩⟩⟩⟩⟩⟩⟩⟩⟩⟩⟩)
theorem kg_c_feed (hJ : JP J) (H : HandU E V J) : KGi E V J 112 k_c_feed := kgi_of hJ (by decide) ck_c_feed (by unfold kc_c_feed; exact List.forall_mem_cons.mpr ⟨kg_covers hJ H, List.forall_mem_cons.mpr ⟨kg_sayAt hJ H, List.forall_mem_cons.mpr ⟨kg_value hJ H, List.forall_mem_cons.mpr ⟨kg_gainOver hJ H, List.forall_mem_cons.mpr ⟨kg_loss hJ H, List.forall_mem_cons.mpr ⟨kg_worth hJ H, List.forall_mem_cons.mpr ⟨kg_covered hJ H, List.forall_mem_cons.mpr ⟨kg_joined hJ H, List.forall_mem_cons.mpr ⟨kg_clashes hJ H, List.forall_mem_cons.mpr ⟨kg_falsehood34 hJ H, List.forall_mem_cons.mpr ⟨kg_trustOfAll34 hJ H, List.forall_mem_cons.mpr ⟨kg_laidSet34 hJ H, List.forall_mem_cons.mpr ⟨kg_coveredBy34 hJ H, List.forall_mem_cons.mpr ⟨kg_deniers34 hJ H, List.forall_mem_cons.mpr ⟨kg_gainOf34 hJ H, List.forall_mem_cons.mpr ⟨kg_flow34 hJ H, List.forall_mem_cons.mpr ⟨kg_noteClashes hJ H, List.forall_mem_cons.mpr ⟨kg_anyClash hJ H, fun _ h => absurd h List.not_mem_nil⟩⟩⟩⟩⟩⟩⟩⟩⟩⟩⟩⟩⟩⟩⟩⟩⟩⟩)
theorem kg_c_trim (hJ : JP J) (H : HandU E V J) : KGi E V J 113 k_c_trim := kgi_of hJ (by decide) ck_c_trim (by unfold kc_c_trim; exact List.forall_mem_cons.mpr ⟨kg_covers hJ H, List.forall_mem_cons.mpr ⟨kg_sayAt hJ H, List.forall_mem_cons.mpr ⟨kg_value hJ H, List.forall_mem_cons.mpr ⟨kg_gainOver hJ H, List.forall_mem_cons.mpr ⟨kg_loss hJ H, List.forall_mem_cons.mpr ⟨kg_worth hJ H, List.forall_mem_cons.mpr ⟨kg_covered hJ H, List.forall_mem_cons.mpr ⟨kg_joined hJ H, List.forall_mem_cons.mpr ⟨kg_clashes hJ H, List.forall_mem_cons.mpr ⟨kg_falsehood34 hJ H, List.forall_mem_cons.mpr ⟨kg_trustOfAll34 hJ H, List.forall_mem_cons.mpr ⟨kg_laidSet34 hJ H, List.forall_mem_cons.mpr ⟨kg_coveredBy34 hJ H, List.forall_mem_cons.mpr ⟨kg_deniers34 hJ H, List.forall_mem_cons.mpr ⟨kg_gainOf34 hJ H, List.forall_mem_cons.mpr ⟨kg_flow34 hJ H, List.forall_mem_cons.mpr ⟨kg_noteClashes hJ H, List.forall_mem_cons.mpr ⟨kg_anyClash hJ H, fun _ h => absurd h List.not_mem_nil⟩⟩⟩⟩⟩⟩⟩⟩⟩⟩⟩⟩⟩⟩⟩⟩⟩⟩)
theorem kg_c_textTold (hJ : JP J) (H : HandU E V J) : KGi E V J 115 k_c_textTold := kgi_of hJ (by decide) ck_c_textTold (by unfold kc_c_textTold; exact List.forall_mem_cons.mpr ⟨kg_covers hJ H, List.forall_mem_cons.mpr ⟨kg_sayAt hJ H, List.forall_mem_cons.mpr ⟨kg_value hJ H, List.forall_mem_cons.mpr ⟨kg_gainOver hJ H, List.forall_mem_cons.mpr ⟨kg_loss hJ H, List.forall_mem_cons.mpr ⟨kg_worth hJ H, List.forall_mem_cons.mpr ⟨kg_covered hJ H, List.forall_mem_cons.mpr ⟨kg_joined hJ H, List.forall_mem_cons.mpr ⟨kg_clashes hJ H, List.forall_mem_cons.mpr ⟨kg_falsehood34 hJ H, List.forall_mem_cons.mpr ⟨kg_trustOfAll34 hJ H, List.forall_mem_cons.mpr ⟨kg_laidSet34 hJ H, List.forall_mem_cons.mpr ⟨kg_coveredBy34 hJ H, List.forall_mem_cons.mpr ⟨kg_deniers34 hJ H, List.forall_mem_cons.mpr ⟨kg_gainOf34 hJ H, List.forall_mem_cons.mpr ⟨kg_flow34 hJ H, List.forall_mem_cons.mpr ⟨kg_noteClashes hJ H, List.forall_mem_cons.mpr ⟨kg_anyClash hJ H, fun _ h => absurd h List.not_mem_nil⟩⟩⟩⟩⟩⟩⟩⟩⟩⟩⟩⟩⟩⟩⟩⟩⟩⟩)
theorem kg_c_why (hJ : JP J) (H : HandU E V J) : KGi E V J 116 k_c_why := kgi_of hJ (by decide) ck_c_why (by unfold kc_c_why; exact List.forall_mem_cons.mpr ⟨kg_covers hJ H, List.forall_mem_cons.mpr ⟨kg_sayAt hJ H, List.forall_mem_cons.mpr ⟨kg_value hJ H, List.forall_mem_cons.mpr ⟨kg_gainOver hJ H, List.forall_mem_cons.mpr ⟨kg_loss hJ H, List.forall_mem_cons.mpr ⟨kg_worth hJ H, List.forall_mem_cons.mpr ⟨kg_covered hJ H, List.forall_mem_cons.mpr ⟨kg_joined hJ H, List.forall_mem_cons.mpr ⟨kg_clashes hJ H, List.forall_mem_cons.mpr ⟨kg_falsehood34 hJ H, List.forall_mem_cons.mpr ⟨kg_trustOfAll34 hJ H, List.forall_mem_cons.mpr ⟨kg_laidSet34 hJ H, List.forall_mem_cons.mpr ⟨kg_coveredBy34 hJ H, List.forall_mem_cons.mpr ⟨kg_deniers34 hJ H, List.forall_mem_cons.mpr ⟨kg_gainOf34 hJ H, List.forall_mem_cons.mpr ⟨kg_flow34 hJ H, List.forall_mem_cons.mpr ⟨kg_noteClashes hJ H, List.forall_mem_cons.mpr ⟨kg_anyClash hJ H, fun _ h => absurd h List.not_mem_nil⟩⟩⟩⟩⟩⟩⟩⟩⟩⟩⟩⟩⟩⟩⟩⟩⟩⟩)
theorem kg_c_sheet (hJ : JP J) (H : HandU E V J) : KGi E V J 117 k_c_sheet := kgi_of hJ (by decide) ck_c_sheet (by unfold kc_c_sheet; exact List.forall_mem_cons.mpr ⟨kg_covers hJ H, List.forall_mem_cons.mpr ⟨kg_sayAt hJ H, List.forall_mem_cons.mpr ⟨kg_value hJ H, List.forall_mem_cons.mpr ⟨kg_gainOver hJ H, List.forall_mem_cons.mpr ⟨kg_loss hJ H, List.forall_mem_cons.mpr ⟨kg_worth hJ H, List.forall_mem_cons.mpr ⟨kg_covered hJ H, List.forall_mem_cons.mpr ⟨kg_joined hJ H, List.forall_mem_cons.mpr ⟨kg_clashes hJ H, List.forall_mem_cons.mpr ⟨kg_falsehood34 hJ H, List.forall_mem_cons.mpr ⟨kg_trustOfAll34 hJ H, List.forall_mem_cons.mpr ⟨kg_laidSet34 hJ H, List.forall_mem_cons.mpr ⟨kg_coveredBy34 hJ H, List.forall_mem_cons.mpr ⟨kg_deniers34 hJ H, List.forall_mem_cons.mpr ⟨kg_gainOf34 hJ H, List.forall_mem_cons.mpr ⟨kg_flow34 hJ H, List.forall_mem_cons.mpr ⟨kg_noteClashes hJ H, List.forall_mem_cons.mpr ⟨kg_anyClash hJ H, fun _ h => absurd h List.not_mem_nil⟩⟩⟩⟩⟩⟩⟩⟩⟩⟩⟩⟩⟩⟩⟩⟩⟩⟩)
theorem kg_c_mark (hJ : JP J) (H : HandU E V J) : KGi E V J 118 k_c_mark := kgi_of hJ (by decide) ck_c_mark (by unfold kc_c_mark; exact List.forall_mem_cons.mpr ⟨kg_covers hJ H, List.forall_mem_cons.mpr ⟨kg_sayAt hJ H, List.forall_mem_cons.mpr ⟨kg_value hJ H, List.forall_mem_cons.mpr ⟨kg_gainOver hJ H, List.forall_mem_cons.mpr ⟨kg_loss hJ H, List.forall_mem_cons.mpr ⟨kg_worth hJ H, List.forall_mem_cons.mpr ⟨kg_covered hJ H, List.forall_mem_cons.mpr ⟨kg_joined hJ H, List.forall_mem_cons.mpr ⟨kg_clashes hJ H, List.forall_mem_cons.mpr ⟨kg_falsehood34 hJ H, List.forall_mem_cons.mpr ⟨kg_trustOfAll34 hJ H, List.forall_mem_cons.mpr ⟨kg_laidSet34 hJ H, List.forall_mem_cons.mpr ⟨kg_coveredBy34 hJ H, List.forall_mem_cons.mpr ⟨kg_deniers34 hJ H, List.forall_mem_cons.mpr ⟨kg_gainOf34 hJ H, List.forall_mem_cons.mpr ⟨kg_flow34 hJ H, List.forall_mem_cons.mpr ⟨kg_noteClashes hJ H, List.forall_mem_cons.mpr ⟨kg_anyClash hJ H, fun _ h => absurd h List.not_mem_nil⟩⟩⟩⟩⟩⟩⟩⟩⟩⟩⟩⟩⟩⟩⟩⟩⟩⟩)
theorem kg_c_pour (hJ : JP J) (H : HandU E V J) : KGi E V J 119 k_c_pour := kgi_of hJ (by decide) ck_c_pour (by unfold kc_c_pour; exact List.forall_mem_cons.mpr ⟨kg_covers hJ H, List.forall_mem_cons.mpr ⟨kg_sayAt hJ H, List.forall_mem_cons.mpr ⟨kg_value hJ H, List.forall_mem_cons.mpr ⟨kg_gainOver hJ H, List.forall_mem_cons.mpr ⟨kg_loss hJ H, List.forall_mem_cons.mpr ⟨kg_worth hJ H, List.forall_mem_cons.mpr ⟨kg_covered hJ H, List.forall_mem_cons.mpr ⟨kg_joined hJ H, List.forall_mem_cons.mpr ⟨kg_clashes hJ H, List.forall_mem_cons.mpr ⟨kg_falsehood34 hJ H, List.forall_mem_cons.mpr ⟨kg_trustOfAll34 hJ H, List.forall_mem_cons.mpr ⟨kg_laidSet34 hJ H, List.forall_mem_cons.mpr ⟨kg_coveredBy34 hJ H, List.forall_mem_cons.mpr ⟨kg_deniers34 hJ H, List.forall_mem_cons.mpr ⟨kg_gainOf34 hJ H, List.forall_mem_cons.mpr ⟨kg_flow34 hJ H, List.forall_mem_cons.mpr ⟨kg_noteClashes hJ H, List.forall_mem_cons.mpr ⟨kg_anyClash hJ H, fun _ h => absurd h List.not_mem_nil⟩⟩⟩⟩⟩⟩⟩⟩⟩⟩⟩⟩⟩⟩⟩⟩⟩⟩)
theorem kg_c_reads (hJ : JP J) (H : HandU E V J) : KGi E V J 120 k_c_reads := kgi_of hJ (by decide) ck_c_reads (by unfold kc_c_reads; exact List.forall_mem_cons.mpr ⟨kg_covers hJ H, List.forall_mem_cons.mpr ⟨kg_sayAt hJ H, List.forall_mem_cons.mpr ⟨kg_value hJ H, List.forall_mem_cons.mpr ⟨kg_gainOver hJ H, List.forall_mem_cons.mpr ⟨kg_loss hJ H, List.forall_mem_cons.mpr ⟨kg_worth hJ H, List.forall_mem_cons.mpr ⟨kg_covered hJ H, List.forall_mem_cons.mpr ⟨kg_joined hJ H, List.forall_mem_cons.mpr ⟨kg_clashes hJ H, List.forall_mem_cons.mpr ⟨kg_falsehood34 hJ H, List.forall_mem_cons.mpr ⟨kg_trustOfAll34 hJ H, List.forall_mem_cons.mpr ⟨kg_laidSet34 hJ H, List.forall_mem_cons.mpr ⟨kg_coveredBy34 hJ H, List.forall_mem_cons.mpr ⟨kg_deniers34 hJ H, List.forall_mem_cons.mpr ⟨kg_gainOf34 hJ H, List.forall_mem_cons.mpr ⟨kg_flow34 hJ H, List.forall_mem_cons.mpr ⟨kg_noteClashes hJ H, List.forall_mem_cons.mpr ⟨kg_anyClash hJ H, fun _ h => absurd h List.not_mem_nil⟩⟩⟩⟩⟩⟩⟩⟩⟩⟩⟩⟩⟩⟩⟩⟩⟩⟩)
theorem kg_c_copy (hJ : JP J) (H : HandU E V J) : KGi E V J 121 k_c_copy := kgi_of hJ (by decide) ck_c_copy (by unfold kc_c_copy; exact List.forall_mem_cons.mpr ⟨kg_covers hJ H, List.forall_mem_cons.mpr ⟨kg_sayAt hJ H, List.forall_mem_cons.mpr ⟨kg_value hJ H, List.forall_mem_cons.mpr ⟨kg_gainOver hJ H, List.forall_mem_cons.mpr ⟨kg_loss hJ H, List.forall_mem_cons.mpr ⟨kg_worth hJ H, List.forall_mem_cons.mpr ⟨kg_covered hJ H, List.forall_mem_cons.mpr ⟨kg_joined hJ H, List.forall_mem_cons.mpr ⟨kg_clashes hJ H, List.forall_mem_cons.mpr ⟨kg_falsehood34 hJ H, List.forall_mem_cons.mpr ⟨kg_trustOfAll34 hJ H, List.forall_mem_cons.mpr ⟨kg_laidSet34 hJ H, List.forall_mem_cons.mpr ⟨kg_coveredBy34 hJ H, List.forall_mem_cons.mpr ⟨kg_deniers34 hJ H, List.forall_mem_cons.mpr ⟨kg_gainOf34 hJ H, List.forall_mem_cons.mpr ⟨kg_flow34 hJ H, List.forall_mem_cons.mpr ⟨kg_noteClashes hJ H, List.forall_mem_cons.mpr ⟨kg_anyClash hJ H, fun _ h => absurd h List.not_mem_nil⟩⟩⟩⟩⟩⟩⟩⟩⟩⟩⟩⟩⟩⟩⟩⟩⟩⟩)
theorem kg_c_lay (hJ : JP J) (H : HandU E V J) : KGi E V J 122 k_c_lay := kgi_of hJ (by decide) ck_c_lay (by unfold kc_c_lay; exact List.forall_mem_cons.mpr ⟨kg_covers hJ H, List.forall_mem_cons.mpr ⟨kg_sayAt hJ H, List.forall_mem_cons.mpr ⟨kg_value hJ H, List.forall_mem_cons.mpr ⟨kg_gainOver hJ H, List.forall_mem_cons.mpr ⟨kg_loss hJ H, List.forall_mem_cons.mpr ⟨kg_worth hJ H, List.forall_mem_cons.mpr ⟨kg_covered hJ H, List.forall_mem_cons.mpr ⟨kg_joined hJ H, List.forall_mem_cons.mpr ⟨kg_clashes hJ H, List.forall_mem_cons.mpr ⟨kg_falsehood34 hJ H, List.forall_mem_cons.mpr ⟨kg_trustOfAll34 hJ H, List.forall_mem_cons.mpr ⟨kg_laidSet34 hJ H, List.forall_mem_cons.mpr ⟨kg_coveredBy34 hJ H, List.forall_mem_cons.mpr ⟨kg_deniers34 hJ H, List.forall_mem_cons.mpr ⟨kg_gainOf34 hJ H, List.forall_mem_cons.mpr ⟨kg_flow34 hJ H, List.forall_mem_cons.mpr ⟨kg_noteClashes hJ H, List.forall_mem_cons.mpr ⟨kg_anyClash hJ H, fun _ h => absurd h List.not_mem_nil⟩⟩⟩⟩⟩⟩⟩⟩⟩⟩⟩⟩⟩⟩⟩⟩⟩⟩)
theorem kg_c_fee (hJ : JP J) (H : HandU E V J) : KGi E V J 110 k_c_fee := kgi_of hJ (by decide) ck_c_fee (by unfold kc_c_fee; exact List.forall_mem_cons.mpr ⟨kg_covers hJ H, List.forall_mem_cons.mpr ⟨kg_sayAt hJ H, List.forall_mem_cons.mpr ⟨kg_value hJ H, List.forall_mem_cons.mpr ⟨kg_gainOver hJ H, List.forall_mem_cons.mpr ⟨kg_loss hJ H, List.forall_mem_cons.mpr ⟨kg_worth hJ H, List.forall_mem_cons.mpr ⟨kg_covered hJ H, List.forall_mem_cons.mpr ⟨kg_joined hJ H, List.forall_mem_cons.mpr ⟨kg_clashes hJ H, List.forall_mem_cons.mpr ⟨kg_falsehood34 hJ H, List.forall_mem_cons.mpr ⟨kg_trustOfAll34 hJ H, List.forall_mem_cons.mpr ⟨kg_laidSet34 hJ H, List.forall_mem_cons.mpr ⟨kg_coveredBy34 hJ H, List.forall_mem_cons.mpr ⟨kg_deniers34 hJ H, List.forall_mem_cons.mpr ⟨kg_gainOf34 hJ H, List.forall_mem_cons.mpr ⟨kg_flow34 hJ H, List.forall_mem_cons.mpr ⟨kg_noteClashes hJ H, List.forall_mem_cons.mpr ⟨kg_anyClash hJ H, List.forall_mem_cons.mpr ⟨kg_workedN34 hJ H, fun _ h => absurd h List.not_mem_nil⟩⟩⟩⟩⟩⟩⟩⟩⟩⟩⟩⟩⟩⟩⟩⟩⟩⟩⟩)
theorem kg_c_ask (hJ : JP J) (H : HandU E V J) : KGi E V J 123 k_c_ask := kgi_of hJ (by decide) ck_c_ask (by unfold kc_c_ask; exact List.forall_mem_cons.mpr ⟨kg_covers hJ H, List.forall_mem_cons.mpr ⟨kg_sayAt hJ H, List.forall_mem_cons.mpr ⟨kg_value hJ H, List.forall_mem_cons.mpr ⟨kg_gainOver hJ H, List.forall_mem_cons.mpr ⟨kg_loss hJ H, List.forall_mem_cons.mpr ⟨kg_worth hJ H, List.forall_mem_cons.mpr ⟨kg_covered hJ H, List.forall_mem_cons.mpr ⟨kg_joined hJ H, List.forall_mem_cons.mpr ⟨kg_clashes hJ H, List.forall_mem_cons.mpr ⟨kg_falsehood34 hJ H, List.forall_mem_cons.mpr ⟨kg_trustOfAll34 hJ H, List.forall_mem_cons.mpr ⟨kg_laidSet34 hJ H, List.forall_mem_cons.mpr ⟨kg_coveredBy34 hJ H, List.forall_mem_cons.mpr ⟨kg_deniers34 hJ H, List.forall_mem_cons.mpr ⟨kg_gainOf34 hJ H, List.forall_mem_cons.mpr ⟨kg_flow34 hJ H, List.forall_mem_cons.mpr ⟨kg_noteClashes hJ H, List.forall_mem_cons.mpr ⟨kg_anyClash hJ H, List.forall_mem_cons.mpr ⟨kg_isOf H, fun _ h => absurd h List.not_mem_nil⟩⟩⟩⟩⟩⟩⟩⟩⟩⟩⟩⟩⟩⟩⟩⟩⟩⟩⟩)
theorem kg_c_as (hJ : JP J) (H : HandU E V J) : KGi E V J 89 k_c_as := kgi_of hJ (by decide) ck_c_as (by unfold kc_c_as; exact List.forall_mem_cons.mpr ⟨kg_covers hJ H, List.forall_mem_cons.mpr ⟨kg_sayAt hJ H, List.forall_mem_cons.mpr ⟨kg_value hJ H, List.forall_mem_cons.mpr ⟨kg_gainOver hJ H, List.forall_mem_cons.mpr ⟨kg_loss hJ H, List.forall_mem_cons.mpr ⟨kg_worth hJ H, List.forall_mem_cons.mpr ⟨kg_covered hJ H, List.forall_mem_cons.mpr ⟨kg_joined hJ H, List.forall_mem_cons.mpr ⟨kg_clashes hJ H, List.forall_mem_cons.mpr ⟨kg_falsehood34 hJ H, List.forall_mem_cons.mpr ⟨kg_trustOfAll34 hJ H, List.forall_mem_cons.mpr ⟨kg_laidSet34 hJ H, List.forall_mem_cons.mpr ⟨kg_coveredBy34 hJ H, List.forall_mem_cons.mpr ⟨kg_deniers34 hJ H, List.forall_mem_cons.mpr ⟨kg_gainOf34 hJ H, List.forall_mem_cons.mpr ⟨kg_flow34 hJ H, List.forall_mem_cons.mpr ⟨kg_noteClashes hJ H, List.forall_mem_cons.mpr ⟨kg_anyClash hJ H, List.forall_mem_cons.mpr ⟨kg_isOf H, fun _ h => absurd h List.not_mem_nil⟩⟩⟩⟩⟩⟩⟩⟩⟩⟩⟩⟩⟩⟩⟩⟩⟩⟩⟩)
theorem kg_c_item (hJ : JP J) (H : HandU E V J) : KGi E V J 124 k_c_item := kgi_of hJ (by decide) ck_c_item (by unfold kc_c_item; exact List.forall_mem_cons.mpr ⟨kg_covers hJ H, List.forall_mem_cons.mpr ⟨kg_sayAt hJ H, List.forall_mem_cons.mpr ⟨kg_value hJ H, List.forall_mem_cons.mpr ⟨kg_gainOver hJ H, List.forall_mem_cons.mpr ⟨kg_loss hJ H, List.forall_mem_cons.mpr ⟨kg_worth hJ H, List.forall_mem_cons.mpr ⟨kg_covered hJ H, List.forall_mem_cons.mpr ⟨kg_joined hJ H, List.forall_mem_cons.mpr ⟨kg_clashes hJ H, List.forall_mem_cons.mpr ⟨kg_falsehood34 hJ H, List.forall_mem_cons.mpr ⟨kg_trustOfAll34 hJ H, List.forall_mem_cons.mpr ⟨kg_laidSet34 hJ H, List.forall_mem_cons.mpr ⟨kg_coveredBy34 hJ H, List.forall_mem_cons.mpr ⟨kg_deniers34 hJ H, List.forall_mem_cons.mpr ⟨kg_gainOf34 hJ H, List.forall_mem_cons.mpr ⟨kg_flow34 hJ H, List.forall_mem_cons.mpr ⟨kg_noteClashes hJ H, List.forall_mem_cons.mpr ⟨kg_anyClash hJ H, fun _ h => absurd h List.not_mem_nil⟩⟩⟩⟩⟩⟩⟩⟩⟩⟩⟩⟩⟩⟩⟩⟩⟩⟩)
theorem kg_c_rest (hJ : JP J) (H : HandU E V J) : KGi E V J 125 k_c_rest := kgi_of hJ (by decide) ck_c_rest (by unfold kc_c_rest; exact List.forall_mem_cons.mpr ⟨kg_covers hJ H, List.forall_mem_cons.mpr ⟨kg_sayAt hJ H, List.forall_mem_cons.mpr ⟨kg_value hJ H, List.forall_mem_cons.mpr ⟨kg_gainOver hJ H, List.forall_mem_cons.mpr ⟨kg_loss hJ H, List.forall_mem_cons.mpr ⟨kg_worth hJ H, List.forall_mem_cons.mpr ⟨kg_covered hJ H, List.forall_mem_cons.mpr ⟨kg_joined hJ H, List.forall_mem_cons.mpr ⟨kg_clashes hJ H, List.forall_mem_cons.mpr ⟨kg_falsehood34 hJ H, List.forall_mem_cons.mpr ⟨kg_trustOfAll34 hJ H, List.forall_mem_cons.mpr ⟨kg_laidSet34 hJ H, List.forall_mem_cons.mpr ⟨kg_coveredBy34 hJ H, List.forall_mem_cons.mpr ⟨kg_deniers34 hJ H, List.forall_mem_cons.mpr ⟨kg_gainOf34 hJ H, List.forall_mem_cons.mpr ⟨kg_flow34 hJ H, List.forall_mem_cons.mpr ⟨kg_noteClashes hJ H, List.forall_mem_cons.mpr ⟨kg_anyClash hJ H, fun _ h => absurd h List.not_mem_nil⟩⟩⟩⟩⟩⟩⟩⟩⟩⟩⟩⟩⟩⟩⟩⟩⟩⟩)
theorem kg_c_tell (hJ : JP J) (H : HandU E V J) : KGi E V J 126 k_c_tell := kgi_of hJ (by decide) ck_c_tell (by unfold kc_c_tell; exact List.forall_mem_cons.mpr ⟨kg_covers hJ H, List.forall_mem_cons.mpr ⟨kg_sayAt hJ H, List.forall_mem_cons.mpr ⟨kg_value hJ H, List.forall_mem_cons.mpr ⟨kg_gainOver hJ H, List.forall_mem_cons.mpr ⟨kg_loss hJ H, List.forall_mem_cons.mpr ⟨kg_worth hJ H, List.forall_mem_cons.mpr ⟨kg_covered hJ H, List.forall_mem_cons.mpr ⟨kg_joined hJ H, List.forall_mem_cons.mpr ⟨kg_clashes hJ H, List.forall_mem_cons.mpr ⟨kg_falsehood34 hJ H, List.forall_mem_cons.mpr ⟨kg_trustOfAll34 hJ H, List.forall_mem_cons.mpr ⟨kg_laidSet34 hJ H, List.forall_mem_cons.mpr ⟨kg_coveredBy34 hJ H, List.forall_mem_cons.mpr ⟨kg_deniers34 hJ H, List.forall_mem_cons.mpr ⟨kg_gainOf34 hJ H, List.forall_mem_cons.mpr ⟨kg_flow34 hJ H, List.forall_mem_cons.mpr ⟨kg_noteClashes hJ H, List.forall_mem_cons.mpr ⟨kg_anyClash hJ H, fun _ h => absurd h List.not_mem_nil⟩⟩⟩⟩⟩⟩⟩⟩⟩⟩⟩⟩⟩⟩⟩⟩⟩⟩)
theorem kg_c_check (hJ : JP J) (H : HandU E V J) : KGi E V J 127 k_c_check := kgi_of hJ (by decide) ck_c_check (by unfold kc_c_check; exact List.forall_mem_cons.mpr ⟨kg_covers hJ H, List.forall_mem_cons.mpr ⟨kg_sayAt hJ H, List.forall_mem_cons.mpr ⟨kg_value hJ H, List.forall_mem_cons.mpr ⟨kg_gainOver hJ H, List.forall_mem_cons.mpr ⟨kg_loss hJ H, List.forall_mem_cons.mpr ⟨kg_worth hJ H, List.forall_mem_cons.mpr ⟨kg_covered hJ H, List.forall_mem_cons.mpr ⟨kg_joined hJ H, List.forall_mem_cons.mpr ⟨kg_clashes hJ H, List.forall_mem_cons.mpr ⟨kg_trustOfAll62 hJ H, List.forall_mem_cons.mpr ⟨kg_laidSet62 hJ H, List.forall_mem_cons.mpr ⟨kg_flow62 hJ H, List.forall_mem_cons.mpr ⟨kg_take62_48 hJ H, fun _ h => absurd h List.not_mem_nil⟩⟩⟩⟩⟩⟩⟩⟩⟩⟩⟩⟩⟩)
theorem kg_c_keep (hJ : JP J) (H : HandU E V J) : KGi E V J 128 k_c_keep := kgi_of hJ (by decide) ck_c_keep (by unfold kc_c_keep; exact List.forall_mem_cons.mpr ⟨kg_covers hJ H, List.forall_mem_cons.mpr ⟨kg_sayAt hJ H, List.forall_mem_cons.mpr ⟨kg_value hJ H, List.forall_mem_cons.mpr ⟨kg_gainOver hJ H, List.forall_mem_cons.mpr ⟨kg_loss hJ H, List.forall_mem_cons.mpr ⟨kg_worth hJ H, List.forall_mem_cons.mpr ⟨kg_covered hJ H, List.forall_mem_cons.mpr ⟨kg_joined hJ H, List.forall_mem_cons.mpr ⟨kg_clashes hJ H, List.forall_mem_cons.mpr ⟨kg_falsehood34 hJ H, List.forall_mem_cons.mpr ⟨kg_trustOfAll34 hJ H, List.forall_mem_cons.mpr ⟨kg_laidSet34 hJ H, List.forall_mem_cons.mpr ⟨kg_coveredBy34 hJ H, List.forall_mem_cons.mpr ⟨kg_deniers34 hJ H, List.forall_mem_cons.mpr ⟨kg_gainOf34 hJ H, List.forall_mem_cons.mpr ⟨kg_flow34 hJ H, List.forall_mem_cons.mpr ⟨kg_noteClashes hJ H, List.forall_mem_cons.mpr ⟨kg_anyClash hJ H, List.forall_mem_cons.mpr ⟨kg_take48_34 hJ H, fun _ h => absurd h List.not_mem_nil⟩⟩⟩⟩⟩⟩⟩⟩⟩⟩⟩⟩⟩⟩⟩⟩⟩⟩⟩)
theorem kg_c_back (hJ : JP J) (H : HandU E V J) : KGi E V J 129 k_c_back := kgi_of hJ (by decide) ck_c_back (by unfold kc_c_back; exact List.forall_mem_cons.mpr ⟨kg_covers hJ H, List.forall_mem_cons.mpr ⟨kg_sayAt hJ H, List.forall_mem_cons.mpr ⟨kg_value hJ H, List.forall_mem_cons.mpr ⟨kg_gainOver hJ H, List.forall_mem_cons.mpr ⟨kg_loss hJ H, List.forall_mem_cons.mpr ⟨kg_worth hJ H, List.forall_mem_cons.mpr ⟨kg_covered hJ H, List.forall_mem_cons.mpr ⟨kg_joined hJ H, List.forall_mem_cons.mpr ⟨kg_clashes hJ H, List.forall_mem_cons.mpr ⟨kg_falsehood34 hJ H, List.forall_mem_cons.mpr ⟨kg_trustOfAll34 hJ H, List.forall_mem_cons.mpr ⟨kg_laidSet34 hJ H, List.forall_mem_cons.mpr ⟨kg_coveredBy34 hJ H, List.forall_mem_cons.mpr ⟨kg_deniers34 hJ H, List.forall_mem_cons.mpr ⟨kg_gainOf34 hJ H, List.forall_mem_cons.mpr ⟨kg_flow34 hJ H, List.forall_mem_cons.mpr ⟨kg_noteClashes hJ H, List.forall_mem_cons.mpr ⟨kg_anyClash hJ H, List.forall_mem_cons.mpr ⟨kg_take34_48 hJ H, fun _ h => absurd h List.not_mem_nil⟩⟩⟩⟩⟩⟩⟩⟩⟩⟩⟩⟩⟩⟩⟩⟩⟩⟩⟩)
theorem kg_c_count (hJ : JP J) (H : HandU E V J) : KGi E V J 130 k_c_count := kgi_of hJ (by decide) ck_c_count (by unfold kc_c_count; exact List.forall_mem_cons.mpr ⟨kg_covers hJ H, List.forall_mem_cons.mpr ⟨kg_sayAt hJ H, List.forall_mem_cons.mpr ⟨kg_value hJ H, List.forall_mem_cons.mpr ⟨kg_gainOver hJ H, List.forall_mem_cons.mpr ⟨kg_loss hJ H, List.forall_mem_cons.mpr ⟨kg_worth hJ H, List.forall_mem_cons.mpr ⟨kg_covered hJ H, List.forall_mem_cons.mpr ⟨kg_joined hJ H, List.forall_mem_cons.mpr ⟨kg_clashes hJ H, List.forall_mem_cons.mpr ⟨kg_falsehood34 hJ H, List.forall_mem_cons.mpr ⟨kg_trustOfAll34 hJ H, List.forall_mem_cons.mpr ⟨kg_laidSet34 hJ H, List.forall_mem_cons.mpr ⟨kg_coveredBy34 hJ H, List.forall_mem_cons.mpr ⟨kg_deniers34 hJ H, List.forall_mem_cons.mpr ⟨kg_gainOf34 hJ H, List.forall_mem_cons.mpr ⟨kg_flow34 hJ H, List.forall_mem_cons.mpr ⟨kg_noteClashes hJ H, List.forall_mem_cons.mpr ⟨kg_anyClash hJ H, fun _ h => absurd h List.not_mem_nil⟩⟩⟩⟩⟩⟩⟩⟩⟩⟩⟩⟩⟩⟩⟩⟩⟩⟩)
theorem kg_add (hJ : JP J) (H : HandU E V J) : KGi E V J 2 k_add := kgi_of hJ (by decide) ck_add (by unfold kc_add; exact fun _ h => absurd h List.not_mem_nil)
theorem kg_unwind (hJ : JP J) (H : HandU E V J) : KGi E V J 29 k_unwind := kgi_of hJ (by decide) ck_unwind (by unfold kc_unwind; exact List.forall_mem_cons.mpr ⟨kg_add hJ H, fun _ h => absurd h List.not_mem_nil⟩)
theorem kg_endPiece (hJ : JP J) (H : HandU E V J) : KGi E V J 28 k_endPiece := kgi_of hJ (by decide) ck_endPiece (by unfold kc_endPiece; exact List.forall_mem_cons.mpr ⟨kg_add hJ H, fun _ h => absurd h List.not_mem_nil⟩)
theorem kg_nextWord (hJ : JP J) (H : HandU E V J) : KGi E V J 16 k_nextWord := kgi_of hJ (by decide) ck_nextWord (by unfold kc_nextWord; exact fun _ h => absurd h List.not_mem_nil)
theorem kg_numberRead (hJ : JP J) (H : HandU E V J) : KGi E V J 24 k_numberRead := kgi_of hJ (by decide) ck_numberRead (by unfold kc_numberRead; exact fun _ h => absurd h List.not_mem_nil)
theorem kg_takePiece (hJ : JP J) (H : HandU E V J) : KGi E V J 23 k_takePiece := kgi_of hJ (by decide) ck_takePiece (by unfold kc_takePiece; exact List.forall_mem_cons.mpr ⟨kg_add hJ H, List.forall_mem_cons.mpr ⟨kg_unwind hJ H, List.forall_mem_cons.mpr ⟨kg_endPiece hJ H, List.forall_mem_cons.mpr ⟨kg_nextWord hJ H, List.forall_mem_cons.mpr ⟨kg_numberRead hJ H, List.forall_mem_cons.mpr ⟨kg_nameRead H, List.forall_mem_cons.mpr ⟨kg_keyRead H, fun _ h => absurd h List.not_mem_nil⟩⟩⟩⟩⟩⟩⟩)
theorem kg_takeAhead (hJ : JP J) (H : HandU E V J) : KGi E V J 26 k_takeAhead := kgi_of hJ (by decide) ck_takeAhead (by unfold kc_takeAhead; exact List.forall_mem_cons.mpr ⟨kg_add hJ H, List.forall_mem_cons.mpr ⟨kg_unwind hJ H, List.forall_mem_cons.mpr ⟨kg_endPiece hJ H, List.forall_mem_cons.mpr ⟨kg_nextWord hJ H, List.forall_mem_cons.mpr ⟨kg_numberRead hJ H, List.forall_mem_cons.mpr ⟨kg_nameRead H, List.forall_mem_cons.mpr ⟨kg_keyRead H, fun _ h => absurd h List.not_mem_nil⟩⟩⟩⟩⟩⟩⟩)
theorem kg_takeBehind (hJ : JP J) (H : HandU E V J) : KGi E V J 27 k_takeBehind := kgi_of hJ (by decide) ck_takeBehind (by unfold kc_takeBehind; exact List.forall_mem_cons.mpr ⟨kg_add hJ H, List.forall_mem_cons.mpr ⟨kg_unwind hJ H, List.forall_mem_cons.mpr ⟨kg_endPiece hJ H, List.forall_mem_cons.mpr ⟨kg_nextWord hJ H, List.forall_mem_cons.mpr ⟨kg_numberRead hJ H, List.forall_mem_cons.mpr ⟨kg_nameRead H, List.forall_mem_cons.mpr ⟨kg_keyRead H, fun _ h => absurd h List.not_mem_nil⟩⟩⟩⟩⟩⟩⟩)
theorem kg_goesOn (hJ : JP J) (H : HandU E V J) : KGi E V J 22 k_goesOn := kgi_of hJ (by decide) ck_goesOn (by unfold kc_goesOn; exact List.forall_mem_cons.mpr ⟨kg_add hJ H, List.forall_mem_cons.mpr ⟨kg_unwind hJ H, List.forall_mem_cons.mpr ⟨kg_endPiece hJ H, List.forall_mem_cons.mpr ⟨kg_nextWord hJ H, List.forall_mem_cons.mpr ⟨kg_numberRead hJ H, List.forall_mem_cons.mpr ⟨kg_nameRead H, List.forall_mem_cons.mpr ⟨kg_keyRead H, List.forall_mem_cons.mpr ⟨kg_takePiece hJ H, List.forall_mem_cons.mpr ⟨kg_takeAhead hJ H, List.forall_mem_cons.mpr ⟨kg_takeBehind hJ H, fun _ h => absurd h List.not_mem_nil⟩⟩⟩⟩⟩⟩⟩⟩⟩⟩)
theorem kg_readInto (hJ : JP J) (H : HandU E V J) : KGi E V J 15 k_readInto := kgi_of hJ (by decide) ck_readInto (by unfold kc_readInto; exact List.forall_mem_cons.mpr ⟨kg_add hJ H, List.forall_mem_cons.mpr ⟨kg_unwind hJ H, List.forall_mem_cons.mpr ⟨kg_endPiece hJ H, List.forall_mem_cons.mpr ⟨kg_nextWord hJ H, List.forall_mem_cons.mpr ⟨kg_numberRead hJ H, List.forall_mem_cons.mpr ⟨kg_nameRead H, List.forall_mem_cons.mpr ⟨kg_keyRead H, List.forall_mem_cons.mpr ⟨kg_takePiece hJ H, List.forall_mem_cons.mpr ⟨kg_takeAhead hJ H, List.forall_mem_cons.mpr ⟨kg_takeBehind hJ H, List.forall_mem_cons.mpr ⟨kg_goesOn hJ H, fun _ h => absurd h List.not_mem_nil⟩⟩⟩⟩⟩⟩⟩⟩⟩⟩⟩)
theorem kg_addText (hJ : JP J) (H : HandU E V J) : KGi E V J 84 k_addText := kgi_of hJ (by decide) ck_addText (by unfold kc_addText; exact fun _ h => absurd h List.not_mem_nil)
theorem kg_c_text (hJ : JP J) (H : HandU E V J) : KGi E V J 114 k_c_text := kgi_of hJ (by decide) ck_c_text (by unfold kc_c_text; exact List.forall_mem_cons.mpr ⟨kg_readInto hJ H, List.forall_mem_cons.mpr ⟨kg_addText hJ H, fun _ h => absurd h List.not_mem_nil⟩⟩)
theorem kg_m_saysAt (hJ : JP J) (H : HandU E V J) : KGi E V J 158 k_m_saysAt := kgi_of hJ (by decide) ck_m_saysAt (by unfold kc_m_saysAt; exact fun _ h => absurd h List.not_mem_nil)
theorem kg_m_loses (hJ : JP J) (H : HandU E V J) : KGi E V J 160 k_m_loses := kgi_of hJ (by decide) ck_m_loses (by unfold kc_m_loses; exact fun _ h => absurd h List.not_mem_nil)
theorem kg_m_worth (hJ : JP J) (H : HandU E V J) : KGi E V J 161 k_m_worth := kgi_of hJ (by decide) ck_m_worth (by unfold kc_m_worth; exact fun _ h => absurd h List.not_mem_nil)
theorem kg_m_covers (hJ : JP J) (H : HandU E V J) : KGi E V J 163 k_m_covers := kgi_of hJ (by decide) ck_m_covers (by unfold kc_m_covers; exact fun _ h => absurd h List.not_mem_nil)
theorem kg_m_counts (hJ : JP J) (H : HandU E V J) : KGi E V J 222 k_m_counts := kgi_of hJ (by decide) ck_m_counts (by unfold kc_m_counts; exact fun _ h => absurd h List.not_mem_nil)
theorem kg_m_gains (hJ : JP J) (H : HandU E V J) : KGi E V J 159 k_m_gains := kgi_of hJ (by decide) ck_m_gains (by unfold kc_m_gains; exact List.forall_mem_cons.mpr ⟨kg_m_counts hJ H, List.forall_mem_cons.mpr ⟨kg_m_worked H, fun _ h => absurd h List.not_mem_nil⟩⟩)
theorem kg_m_falseOf (hJ : JP J) (H : HandU E V J) : KGi E V J 175 k_m_falseOf := kgi_of hJ (by decide) ck_m_falseOf (by unfold kc_m_falseOf; exact List.forall_mem_cons.mpr ⟨kg_m_saysAt hJ H, List.forall_mem_cons.mpr ⟨kg_m_loses hJ H, List.forall_mem_cons.mpr ⟨kg_m_worth hJ H, List.forall_mem_cons.mpr ⟨kg_m_covers hJ H, List.forall_mem_cons.mpr ⟨kg_m_counts hJ H, List.forall_mem_cons.mpr ⟨kg_m_gains hJ H, List.forall_mem_cons.mpr ⟨kg_m_manyIn H, List.forall_mem_cons.mpr ⟨kg_m_worked H, fun _ h => absurd h List.not_mem_nil⟩⟩⟩⟩⟩⟩⟩⟩)
theorem kg_m_joinBy (hJ : JP J) (H : HandU E V J) : KGi E V J 178 k_m_joinBy := kgi_of hJ (by decide) ck_m_joinBy (by unfold kc_m_joinBy; exact List.forall_mem_cons.mpr ⟨kg_m_saysAt hJ H, List.forall_mem_cons.mpr ⟨kg_m_loses hJ H, List.forall_mem_cons.mpr ⟨kg_m_worth hJ H, List.forall_mem_cons.mpr ⟨kg_m_covers hJ H, List.forall_mem_cons.mpr ⟨kg_m_counts hJ H, List.forall_mem_cons.mpr ⟨kg_m_gains hJ H, List.forall_mem_cons.mpr ⟨kg_m_manyIn H, List.forall_mem_cons.mpr ⟨kg_m_worked H, fun _ h => absurd h List.not_mem_nil⟩⟩⟩⟩⟩⟩⟩⟩)
theorem kg_m_doClash (hJ : JP J) (H : HandU E V J) : KGi E V J 180 k_m_doClash := kgi_of hJ (by decide) ck_m_doClash (by unfold kc_m_doClash; exact List.forall_mem_cons.mpr ⟨kg_m_saysAt hJ H, List.forall_mem_cons.mpr ⟨kg_m_loses hJ H, List.forall_mem_cons.mpr ⟨kg_m_worth hJ H, List.forall_mem_cons.mpr ⟨kg_m_covers hJ H, List.forall_mem_cons.mpr ⟨kg_m_counts hJ H, List.forall_mem_cons.mpr ⟨kg_m_gains hJ H, List.forall_mem_cons.mpr ⟨kg_m_manyIn H, List.forall_mem_cons.mpr ⟨kg_m_worked H, fun _ h => absurd h List.not_mem_nil⟩⟩⟩⟩⟩⟩⟩⟩)
theorem kg_m_laidOnes (hJ : JP J) (H : HandU E V J) : KGi E V J 182 k_m_laidOnes := kgi_of hJ (by decide) ck_m_laidOnes (by unfold kc_m_laidOnes; exact List.forall_mem_cons.mpr ⟨kg_m_saysAt hJ H, List.forall_mem_cons.mpr ⟨kg_m_loses hJ H, List.forall_mem_cons.mpr ⟨kg_m_worth hJ H, List.forall_mem_cons.mpr ⟨kg_m_covers hJ H, List.forall_mem_cons.mpr ⟨kg_m_counts hJ H, List.forall_mem_cons.mpr ⟨kg_m_gains hJ H, List.forall_mem_cons.mpr ⟨kg_m_manyIn H, List.forall_mem_cons.mpr ⟨kg_m_worked H, fun _ h => absurd h List.not_mem_nil⟩⟩⟩⟩⟩⟩⟩⟩)
theorem kg_m_coveredBy (hJ : JP J) (H : HandU E V J) : KGi E V J 183 k_m_coveredBy := kgi_of hJ (by decide) ck_m_coveredBy (by unfold kc_m_coveredBy; exact List.forall_mem_cons.mpr ⟨kg_m_saysAt hJ H, List.forall_mem_cons.mpr ⟨kg_m_loses hJ H, List.forall_mem_cons.mpr ⟨kg_m_worth hJ H, List.forall_mem_cons.mpr ⟨kg_m_covers hJ H, List.forall_mem_cons.mpr ⟨kg_m_counts hJ H, List.forall_mem_cons.mpr ⟨kg_m_gains hJ H, List.forall_mem_cons.mpr ⟨kg_m_manyIn H, List.forall_mem_cons.mpr ⟨kg_m_worked H, fun _ h => absurd h List.not_mem_nil⟩⟩⟩⟩⟩⟩⟩⟩)
theorem kg_m_findClashing (hJ : JP J) (H : HandU E V J) : KGi E V J 184 k_m_findClashing := kgi_of hJ (by decide) ck_m_findClashing (by unfold kc_m_findClashing; exact List.forall_mem_cons.mpr ⟨kg_m_saysAt hJ H, List.forall_mem_cons.mpr ⟨kg_m_loses hJ H, List.forall_mem_cons.mpr ⟨kg_m_worth hJ H, List.forall_mem_cons.mpr ⟨kg_m_covers hJ H, List.forall_mem_cons.mpr ⟨kg_m_counts hJ H, List.forall_mem_cons.mpr ⟨kg_m_gains hJ H, List.forall_mem_cons.mpr ⟨kg_m_manyIn H, List.forall_mem_cons.mpr ⟨kg_m_worked H, List.forall_mem_cons.mpr ⟨kg_m_falseOf hJ H, List.forall_mem_cons.mpr ⟨kg_m_joinBy hJ H, List.forall_mem_cons.mpr ⟨kg_m_doClash hJ H, List.forall_mem_cons.mpr ⟨kg_m_laidOnes hJ H, List.forall_mem_cons.mpr ⟨kg_m_coveredBy hJ H, fun _ h => absurd h List.not_mem_nil⟩⟩⟩⟩⟩⟩⟩⟩⟩⟩⟩⟩⟩)
theorem kg_m_areAtPeace (hJ : JP J) (H : HandU E V J) : KGi E V J 185 k_m_areAtPeace := kgi_of hJ (by decide) ck_m_areAtPeace (by unfold kc_m_areAtPeace; exact List.forall_mem_cons.mpr ⟨kg_m_saysAt hJ H, List.forall_mem_cons.mpr ⟨kg_m_loses hJ H, List.forall_mem_cons.mpr ⟨kg_m_worth hJ H, List.forall_mem_cons.mpr ⟨kg_m_covers hJ H, List.forall_mem_cons.mpr ⟨kg_m_counts hJ H, List.forall_mem_cons.mpr ⟨kg_m_gains hJ H, List.forall_mem_cons.mpr ⟨kg_m_manyIn H, List.forall_mem_cons.mpr ⟨kg_m_worked H, List.forall_mem_cons.mpr ⟨kg_m_falseOf hJ H, List.forall_mem_cons.mpr ⟨kg_m_joinBy hJ H, List.forall_mem_cons.mpr ⟨kg_m_doClash hJ H, List.forall_mem_cons.mpr ⟨kg_m_laidOnes hJ H, List.forall_mem_cons.mpr ⟨kg_m_coveredBy hJ H, fun _ h => absurd h List.not_mem_nil⟩⟩⟩⟩⟩⟩⟩⟩⟩⟩⟩⟩⟩)
theorem kg_m_otherwiseAt (hJ : JP J) (H : HandU E V J) : KGi E V J 188 k_m_otherwiseAt := kgi_of hJ (by decide) ck_m_otherwiseAt (by unfold kc_m_otherwiseAt; exact List.forall_mem_cons.mpr ⟨kg_m_saysAt hJ H, List.forall_mem_cons.mpr ⟨kg_m_loses hJ H, List.forall_mem_cons.mpr ⟨kg_m_worth hJ H, List.forall_mem_cons.mpr ⟨kg_m_covers hJ H, List.forall_mem_cons.mpr ⟨kg_m_counts hJ H, List.forall_mem_cons.mpr ⟨kg_m_gains hJ H, List.forall_mem_cons.mpr ⟨kg_m_manyIn H, List.forall_mem_cons.mpr ⟨kg_m_worked H, List.forall_mem_cons.mpr ⟨kg_m_falseOf hJ H, List.forall_mem_cons.mpr ⟨kg_m_joinBy hJ H, List.forall_mem_cons.mpr ⟨kg_m_doClash hJ H, List.forall_mem_cons.mpr ⟨kg_m_laidOnes hJ H, List.forall_mem_cons.mpr ⟨kg_m_coveredBy hJ H, fun _ h => absurd h List.not_mem_nil⟩⟩⟩⟩⟩⟩⟩⟩⟩⟩⟩⟩⟩)
theorem kg_m_allTrust (hJ : JP J) (H : HandU E V J) : KGi E V J 193 k_m_allTrust := kgi_of hJ (by decide) ck_m_allTrust (by unfold kc_m_allTrust; exact List.forall_mem_cons.mpr ⟨kg_m_saysAt hJ H, List.forall_mem_cons.mpr ⟨kg_m_loses hJ H, List.forall_mem_cons.mpr ⟨kg_m_worth hJ H, List.forall_mem_cons.mpr ⟨kg_m_covers hJ H, List.forall_mem_cons.mpr ⟨kg_m_counts hJ H, List.forall_mem_cons.mpr ⟨kg_m_gains hJ H, List.forall_mem_cons.mpr ⟨kg_m_manyIn H, List.forall_mem_cons.mpr ⟨kg_m_worked H, List.forall_mem_cons.mpr ⟨kg_m_falseOf hJ H, List.forall_mem_cons.mpr ⟨kg_m_joinBy hJ H, List.forall_mem_cons.mpr ⟨kg_m_doClash hJ H, List.forall_mem_cons.mpr ⟨kg_m_laidOnes hJ H, List.forall_mem_cons.mpr ⟨kg_m_coveredBy hJ H, fun _ h => absurd h List.not_mem_nil⟩⟩⟩⟩⟩⟩⟩⟩⟩⟩⟩⟩⟩)
theorem kg_m_goesOn (hJ : JP J) (H : HandU E V J) : KGi E V J 190 k_m_goesOn := kgi_of hJ (by decide) ck_m_goesOn (by unfold kc_m_goesOn; exact List.forall_mem_cons.mpr ⟨kg_m_saysAt hJ H, List.forall_mem_cons.mpr ⟨kg_m_loses hJ H, List.forall_mem_cons.mpr ⟨kg_m_worth hJ H, List.forall_mem_cons.mpr ⟨kg_m_covers hJ H, List.forall_mem_cons.mpr ⟨kg_m_counts hJ H, List.forall_mem_cons.mpr ⟨kg_m_gains hJ H, List.forall_mem_cons.mpr ⟨kg_m_manyIn H, List.forall_mem_cons.mpr ⟨kg_m_worked H, List.forall_mem_cons.mpr ⟨kg_m_falseOf hJ H, List.forall_mem_cons.mpr ⟨kg_m_joinBy hJ H, List.forall_mem_cons.mpr ⟨kg_m_doClash hJ H, List.forall_mem_cons.mpr ⟨kg_m_laidOnes hJ H, List.forall_mem_cons.mpr ⟨kg_m_coveredBy hJ H, fun _ h => absurd h List.not_mem_nil⟩⟩⟩⟩⟩⟩⟩⟩⟩⟩⟩⟩⟩)
theorem kg_m_goesOnMany (hJ : JP J) (H : HandU E V J) : KGi E V J 191 k_m_goesOnMany := kgi_of hJ (by decide) ck_m_goesOnMany (by unfold kc_m_goesOnMany; exact List.forall_mem_cons.mpr ⟨kg_m_saysAt hJ H, List.forall_mem_cons.mpr ⟨kg_m_loses hJ H, List.forall_mem_cons.mpr ⟨kg_m_worth hJ H, List.forall_mem_cons.mpr ⟨kg_m_covers hJ H, List.forall_mem_cons.mpr ⟨kg_m_counts hJ H, List.forall_mem_cons.mpr ⟨kg_m_gains hJ H, List.forall_mem_cons.mpr ⟨kg_m_manyIn H, List.forall_mem_cons.mpr ⟨kg_m_worked H, List.forall_mem_cons.mpr ⟨kg_m_falseOf hJ H, List.forall_mem_cons.mpr ⟨kg_m_joinBy hJ H, List.forall_mem_cons.mpr ⟨kg_m_doClash hJ H, List.forall_mem_cons.mpr ⟨kg_m_laidOnes hJ H, List.forall_mem_cons.mpr ⟨kg_m_coveredBy hJ H, List.forall_mem_cons.mpr ⟨kg_m_findClashing hJ H, List.forall_mem_cons.mpr ⟨kg_m_areAtPeace hJ H, List.forall_mem_cons.mpr ⟨kg_m_otherwiseAt hJ H, List.forall_mem_cons.mpr ⟨kg_m_allTrust hJ H, List.forall_mem_cons.mpr ⟨kg_m_goesOn hJ H, fun _ h => absurd h List.not_mem_nil⟩⟩⟩⟩⟩⟩⟩⟩⟩⟩⟩⟩⟩⟩⟩⟩⟩⟩)
theorem kg_r_rubbing (hJ : JP J) (H : HandU E V J) : KGi E V J 156 k_r_rubbing := kgi_of hJ (by decide) ck_r_rubbing (by unfold kc_r_rubbing; exact List.forall_mem_cons.mpr ⟨kg_m_saysAt hJ H, List.forall_mem_cons.mpr ⟨kg_m_loses hJ H, List.forall_mem_cons.mpr ⟨kg_m_worth hJ H, List.forall_mem_cons.mpr ⟨kg_m_covers hJ H, List.forall_mem_cons.mpr ⟨kg_m_counts hJ H, List.forall_mem_cons.mpr ⟨kg_m_gains hJ H, List.forall_mem_cons.mpr ⟨kg_m_manyIn H, List.forall_mem_cons.mpr ⟨kg_m_worked H, List.forall_mem_cons.mpr ⟨kg_m_falseOf hJ H, List.forall_mem_cons.mpr ⟨kg_m_joinBy hJ H, List.forall_mem_cons.mpr ⟨kg_m_doClash hJ H, List.forall_mem_cons.mpr ⟨kg_m_laidOnes hJ H, List.forall_mem_cons.mpr ⟨kg_m_coveredBy hJ H, List.forall_mem_cons.mpr ⟨kg_m_findClashing hJ H, List.forall_mem_cons.mpr ⟨kg_m_areAtPeace hJ H, List.forall_mem_cons.mpr ⟨kg_m_otherwiseAt hJ H, List.forall_mem_cons.mpr ⟨kg_m_allTrust hJ H, List.forall_mem_cons.mpr ⟨kg_m_goesOn hJ H, List.forall_mem_cons.mpr ⟨kg_m_goesOnMany hJ H, fun _ h => absurd h List.not_mem_nil⟩⟩⟩⟩⟩⟩⟩⟩⟩⟩⟩⟩⟩⟩⟩⟩⟩⟩⟩)
theorem kg_r_told (hJ : JP J) (H : HandU E V J) : KGi E V J 164 k_r_told := kgi_of hJ (by decide) ck_r_told (by unfold kc_r_told; exact List.forall_mem_cons.mpr ⟨kg_m_saysAt hJ H, List.forall_mem_cons.mpr ⟨kg_m_loses hJ H, List.forall_mem_cons.mpr ⟨kg_m_worth hJ H, List.forall_mem_cons.mpr ⟨kg_m_covers hJ H, List.forall_mem_cons.mpr ⟨kg_m_counts hJ H, List.forall_mem_cons.mpr ⟨kg_m_gains hJ H, List.forall_mem_cons.mpr ⟨kg_m_manyIn H, List.forall_mem_cons.mpr ⟨kg_m_worked H, List.forall_mem_cons.mpr ⟨kg_m_falseOf hJ H, List.forall_mem_cons.mpr ⟨kg_m_joinBy hJ H, List.forall_mem_cons.mpr ⟨kg_m_doClash hJ H, List.forall_mem_cons.mpr ⟨kg_m_laidOnes hJ H, List.forall_mem_cons.mpr ⟨kg_m_coveredBy hJ H, List.forall_mem_cons.mpr ⟨kg_m_findClashing hJ H, List.forall_mem_cons.mpr ⟨kg_m_areAtPeace hJ H, List.forall_mem_cons.mpr ⟨kg_m_otherwiseAt hJ H, List.forall_mem_cons.mpr ⟨kg_m_allTrust hJ H, List.forall_mem_cons.mpr ⟨kg_m_goesOn hJ H, List.forall_mem_cons.mpr ⟨kg_m_goesOnMany hJ H, fun _ h => absurd h List.not_mem_nil⟩⟩⟩⟩⟩⟩⟩⟩⟩⟩⟩⟩⟩⟩⟩⟩⟩⟩⟩)
theorem kg_r_says (hJ : JP J) (H : HandU E V J) : KGi E V J 165 k_r_says := kgi_of hJ (by decide) ck_r_says (by unfold kc_r_says; exact List.forall_mem_cons.mpr ⟨kg_m_saysAt hJ H, List.forall_mem_cons.mpr ⟨kg_m_loses hJ H, List.forall_mem_cons.mpr ⟨kg_m_worth hJ H, List.forall_mem_cons.mpr ⟨kg_m_covers hJ H, List.forall_mem_cons.mpr ⟨kg_m_counts hJ H, List.forall_mem_cons.mpr ⟨kg_m_gains hJ H, List.forall_mem_cons.mpr ⟨kg_m_manyIn H, List.forall_mem_cons.mpr ⟨kg_m_worked H, List.forall_mem_cons.mpr ⟨kg_m_falseOf hJ H, List.forall_mem_cons.mpr ⟨kg_m_joinBy hJ H, List.forall_mem_cons.mpr ⟨kg_m_doClash hJ H, List.forall_mem_cons.mpr ⟨kg_m_laidOnes hJ H, List.forall_mem_cons.mpr ⟨kg_m_coveredBy hJ H, List.forall_mem_cons.mpr ⟨kg_m_findClashing hJ H, List.forall_mem_cons.mpr ⟨kg_m_areAtPeace hJ H, List.forall_mem_cons.mpr ⟨kg_m_otherwiseAt hJ H, List.forall_mem_cons.mpr ⟨kg_m_allTrust hJ H, List.forall_mem_cons.mpr ⟨kg_m_goesOn hJ H, List.forall_mem_cons.mpr ⟨kg_m_goesOnMany hJ H, fun _ h => absurd h List.not_mem_nil⟩⟩⟩⟩⟩⟩⟩⟩⟩⟩⟩⟩⟩⟩⟩⟩⟩⟩⟩)
theorem kg_r_as (hJ : JP J) (H : HandU E V J) : KGi E V J 167 k_r_as := kgi_of hJ (by decide) ck_r_as (by unfold kc_r_as; exact List.forall_mem_cons.mpr ⟨kg_m_saysAt hJ H, List.forall_mem_cons.mpr ⟨kg_m_loses hJ H, List.forall_mem_cons.mpr ⟨kg_m_worth hJ H, List.forall_mem_cons.mpr ⟨kg_m_covers hJ H, List.forall_mem_cons.mpr ⟨kg_m_counts hJ H, List.forall_mem_cons.mpr ⟨kg_m_gains hJ H, List.forall_mem_cons.mpr ⟨kg_m_manyIn H, List.forall_mem_cons.mpr ⟨kg_m_worked H, List.forall_mem_cons.mpr ⟨kg_m_falseOf hJ H, List.forall_mem_cons.mpr ⟨kg_m_joinBy hJ H, List.forall_mem_cons.mpr ⟨kg_m_doClash hJ H, List.forall_mem_cons.mpr ⟨kg_m_laidOnes hJ H, List.forall_mem_cons.mpr ⟨kg_m_coveredBy hJ H, List.forall_mem_cons.mpr ⟨kg_m_findClashing hJ H, List.forall_mem_cons.mpr ⟨kg_m_areAtPeace hJ H, List.forall_mem_cons.mpr ⟨kg_m_otherwiseAt hJ H, List.forall_mem_cons.mpr ⟨kg_m_allTrust hJ H, List.forall_mem_cons.mpr ⟨kg_m_goesOn hJ H, List.forall_mem_cons.mpr ⟨kg_m_goesOnMany hJ H, fun _ h => absurd h List.not_mem_nil⟩⟩⟩⟩⟩⟩⟩⟩⟩⟩⟩⟩⟩⟩⟩⟩⟩⟩⟩)
theorem kg_r_turns (hJ : JP J) (H : HandU E V J) : KGi E V J 168 k_r_turns := kgi_of hJ (by decide) ck_r_turns (by unfold kc_r_turns; exact List.forall_mem_cons.mpr ⟨kg_m_saysAt hJ H, List.forall_mem_cons.mpr ⟨kg_m_loses hJ H, List.forall_mem_cons.mpr ⟨kg_m_worth hJ H, List.forall_mem_cons.mpr ⟨kg_m_covers hJ H, List.forall_mem_cons.mpr ⟨kg_m_counts hJ H, List.forall_mem_cons.mpr ⟨kg_m_gains hJ H, List.forall_mem_cons.mpr ⟨kg_m_manyIn H, List.forall_mem_cons.mpr ⟨kg_m_worked H, List.forall_mem_cons.mpr ⟨kg_m_falseOf hJ H, List.forall_mem_cons.mpr ⟨kg_m_joinBy hJ H, List.forall_mem_cons.mpr ⟨kg_m_doClash hJ H, List.forall_mem_cons.mpr ⟨kg_m_laidOnes hJ H, List.forall_mem_cons.mpr ⟨kg_m_coveredBy hJ H, List.forall_mem_cons.mpr ⟨kg_m_findClashing hJ H, List.forall_mem_cons.mpr ⟨kg_m_areAtPeace hJ H, List.forall_mem_cons.mpr ⟨kg_m_otherwiseAt hJ H, List.forall_mem_cons.mpr ⟨kg_m_allTrust hJ H, List.forall_mem_cons.mpr ⟨kg_m_goesOn hJ H, List.forall_mem_cons.mpr ⟨kg_m_goesOnMany hJ H, fun _ h => absurd h List.not_mem_nil⟩⟩⟩⟩⟩⟩⟩⟩⟩⟩⟩⟩⟩⟩⟩⟩⟩⟩⟩)
theorem kg_r_set (hJ : JP J) (H : HandU E V J) : KGi E V J 170 k_r_set := kgi_of hJ (by decide) ck_r_set (by unfold kc_r_set; exact List.forall_mem_cons.mpr ⟨kg_m_saysAt hJ H, List.forall_mem_cons.mpr ⟨kg_m_loses hJ H, List.forall_mem_cons.mpr ⟨kg_m_worth hJ H, List.forall_mem_cons.mpr ⟨kg_m_covers hJ H, List.forall_mem_cons.mpr ⟨kg_m_counts hJ H, List.forall_mem_cons.mpr ⟨kg_m_gains hJ H, List.forall_mem_cons.mpr ⟨kg_m_manyIn H, List.forall_mem_cons.mpr ⟨kg_m_worked H, List.forall_mem_cons.mpr ⟨kg_m_falseOf hJ H, List.forall_mem_cons.mpr ⟨kg_m_joinBy hJ H, List.forall_mem_cons.mpr ⟨kg_m_doClash hJ H, List.forall_mem_cons.mpr ⟨kg_m_laidOnes hJ H, List.forall_mem_cons.mpr ⟨kg_m_coveredBy hJ H, List.forall_mem_cons.mpr ⟨kg_m_findClashing hJ H, List.forall_mem_cons.mpr ⟨kg_m_areAtPeace hJ H, List.forall_mem_cons.mpr ⟨kg_m_otherwiseAt hJ H, List.forall_mem_cons.mpr ⟨kg_m_allTrust hJ H, List.forall_mem_cons.mpr ⟨kg_m_goesOn hJ H, List.forall_mem_cons.mpr ⟨kg_m_goesOnMany hJ H, fun _ h => absurd h List.not_mem_nil⟩⟩⟩⟩⟩⟩⟩⟩⟩⟩⟩⟩⟩⟩⟩⟩⟩⟩⟩)
theorem kg_r_carve (hJ : JP J) (H : HandU E V J) : KGi E V J 171 k_r_carve := kgi_of hJ (by decide) ck_r_carve (by unfold kc_r_carve; exact List.forall_mem_cons.mpr ⟨kg_m_saysAt hJ H, List.forall_mem_cons.mpr ⟨kg_m_loses hJ H, List.forall_mem_cons.mpr ⟨kg_m_worth hJ H, List.forall_mem_cons.mpr ⟨kg_m_covers hJ H, List.forall_mem_cons.mpr ⟨kg_m_counts hJ H, List.forall_mem_cons.mpr ⟨kg_m_gains hJ H, List.forall_mem_cons.mpr ⟨kg_m_manyIn H, List.forall_mem_cons.mpr ⟨kg_m_worked H, List.forall_mem_cons.mpr ⟨kg_m_falseOf hJ H, List.forall_mem_cons.mpr ⟨kg_m_joinBy hJ H, List.forall_mem_cons.mpr ⟨kg_m_doClash hJ H, List.forall_mem_cons.mpr ⟨kg_m_laidOnes hJ H, List.forall_mem_cons.mpr ⟨kg_m_coveredBy hJ H, List.forall_mem_cons.mpr ⟨kg_m_findClashing hJ H, List.forall_mem_cons.mpr ⟨kg_m_areAtPeace hJ H, List.forall_mem_cons.mpr ⟨kg_m_otherwiseAt hJ H, List.forall_mem_cons.mpr ⟨kg_m_allTrust hJ H, List.forall_mem_cons.mpr ⟨kg_m_goesOn hJ H, List.forall_mem_cons.mpr ⟨kg_m_goesOnMany hJ H, fun _ h => absurd h List.not_mem_nil⟩⟩⟩⟩⟩⟩⟩⟩⟩⟩⟩⟩⟩⟩⟩⟩⟩⟩⟩)
theorem kg_r_carved (hJ : JP J) (H : HandU E V J) : KGi E V J 172 k_r_carved := kgi_of hJ (by decide) ck_r_carved (by unfold kc_r_carved; exact List.forall_mem_cons.mpr ⟨kg_m_saysAt hJ H, List.forall_mem_cons.mpr ⟨kg_m_loses hJ H, List.forall_mem_cons.mpr ⟨kg_m_worth hJ H, List.forall_mem_cons.mpr ⟨kg_m_covers hJ H, List.forall_mem_cons.mpr ⟨kg_m_counts hJ H, List.forall_mem_cons.mpr ⟨kg_m_gains hJ H, List.forall_mem_cons.mpr ⟨kg_m_manyIn H, List.forall_mem_cons.mpr ⟨kg_m_worked H, List.forall_mem_cons.mpr ⟨kg_m_falseOf hJ H, List.forall_mem_cons.mpr ⟨kg_m_joinBy hJ H, List.forall_mem_cons.mpr ⟨kg_m_doClash hJ H, List.forall_mem_cons.mpr ⟨kg_m_laidOnes hJ H, List.forall_mem_cons.mpr ⟨kg_m_coveredBy hJ H, List.forall_mem_cons.mpr ⟨kg_m_findClashing hJ H, List.forall_mem_cons.mpr ⟨kg_m_areAtPeace hJ H, List.forall_mem_cons.mpr ⟨kg_m_otherwiseAt hJ H, List.forall_mem_cons.mpr ⟨kg_m_allTrust hJ H, List.forall_mem_cons.mpr ⟨kg_m_goesOn hJ H, List.forall_mem_cons.mpr ⟨kg_m_goesOnMany hJ H, fun _ h => absurd h List.not_mem_nil⟩⟩⟩⟩⟩⟩⟩⟩⟩⟩⟩⟩⟩⟩⟩⟩⟩⟩⟩)
theorem kg_r_deal (hJ : JP J) (H : HandU E V J) : KGi E V J 173 k_r_deal := kgi_of hJ (by decide) ck_r_deal (by unfold kc_r_deal; exact List.forall_mem_cons.mpr ⟨kg_m_saysAt hJ H, List.forall_mem_cons.mpr ⟨kg_m_loses hJ H, List.forall_mem_cons.mpr ⟨kg_m_worth hJ H, List.forall_mem_cons.mpr ⟨kg_m_covers hJ H, List.forall_mem_cons.mpr ⟨kg_m_counts hJ H, List.forall_mem_cons.mpr ⟨kg_m_gains hJ H, List.forall_mem_cons.mpr ⟨kg_m_manyIn H, List.forall_mem_cons.mpr ⟨kg_m_worked H, List.forall_mem_cons.mpr ⟨kg_m_falseOf hJ H, List.forall_mem_cons.mpr ⟨kg_m_joinBy hJ H, List.forall_mem_cons.mpr ⟨kg_m_doClash hJ H, List.forall_mem_cons.mpr ⟨kg_m_laidOnes hJ H, List.forall_mem_cons.mpr ⟨kg_m_coveredBy hJ H, List.forall_mem_cons.mpr ⟨kg_m_findClashing hJ H, List.forall_mem_cons.mpr ⟨kg_m_areAtPeace hJ H, List.forall_mem_cons.mpr ⟨kg_m_otherwiseAt hJ H, List.forall_mem_cons.mpr ⟨kg_m_allTrust hJ H, List.forall_mem_cons.mpr ⟨kg_m_goesOn hJ H, List.forall_mem_cons.mpr ⟨kg_m_goesOnMany hJ H, fun _ h => absurd h List.not_mem_nil⟩⟩⟩⟩⟩⟩⟩⟩⟩⟩⟩⟩⟩⟩⟩⟩⟩⟩⟩)
theorem kg_r_seed (hJ : JP J) (H : HandU E V J) : KGi E V J 174 k_r_seed := kgi_of hJ (by decide) ck_r_seed (by unfold kc_r_seed; exact List.forall_mem_cons.mpr ⟨kg_m_saysAt hJ H, List.forall_mem_cons.mpr ⟨kg_m_loses hJ H, List.forall_mem_cons.mpr ⟨kg_m_worth hJ H, List.forall_mem_cons.mpr ⟨kg_m_covers hJ H, List.forall_mem_cons.mpr ⟨kg_m_counts hJ H, List.forall_mem_cons.mpr ⟨kg_m_gains hJ H, List.forall_mem_cons.mpr ⟨kg_m_manyIn H, List.forall_mem_cons.mpr ⟨kg_m_worked H, List.forall_mem_cons.mpr ⟨kg_m_falseOf hJ H, List.forall_mem_cons.mpr ⟨kg_m_joinBy hJ H, List.forall_mem_cons.mpr ⟨kg_m_doClash hJ H, List.forall_mem_cons.mpr ⟨kg_m_laidOnes hJ H, List.forall_mem_cons.mpr ⟨kg_m_coveredBy hJ H, List.forall_mem_cons.mpr ⟨kg_m_findClashing hJ H, List.forall_mem_cons.mpr ⟨kg_m_areAtPeace hJ H, List.forall_mem_cons.mpr ⟨kg_m_otherwiseAt hJ H, List.forall_mem_cons.mpr ⟨kg_m_allTrust hJ H, List.forall_mem_cons.mpr ⟨kg_m_goesOn hJ H, List.forall_mem_cons.mpr ⟨kg_m_goesOnMany hJ H, fun _ h => absurd h List.not_mem_nil⟩⟩⟩⟩⟩⟩⟩⟩⟩⟩⟩⟩⟩⟩⟩⟩⟩⟩⟩)
theorem kg_r_falseAt (hJ : JP J) (H : HandU E V J) : KGi E V J 176 k_r_falseAt := kgi_of hJ (by decide) ck_r_falseAt (by unfold kc_r_falseAt; exact List.forall_mem_cons.mpr ⟨kg_m_saysAt hJ H, List.forall_mem_cons.mpr ⟨kg_m_loses hJ H, List.forall_mem_cons.mpr ⟨kg_m_worth hJ H, List.forall_mem_cons.mpr ⟨kg_m_covers hJ H, List.forall_mem_cons.mpr ⟨kg_m_counts hJ H, List.forall_mem_cons.mpr ⟨kg_m_gains hJ H, List.forall_mem_cons.mpr ⟨kg_m_manyIn H, List.forall_mem_cons.mpr ⟨kg_m_worked H, List.forall_mem_cons.mpr ⟨kg_m_falseOf hJ H, List.forall_mem_cons.mpr ⟨kg_m_joinBy hJ H, List.forall_mem_cons.mpr ⟨kg_m_doClash hJ H, List.forall_mem_cons.mpr ⟨kg_m_laidOnes hJ H, List.forall_mem_cons.mpr ⟨kg_m_coveredBy hJ H, List.forall_mem_cons.mpr ⟨kg_m_findClashing hJ H, List.forall_mem_cons.mpr ⟨kg_m_areAtPeace hJ H, List.forall_mem_cons.mpr ⟨kg_m_otherwiseAt hJ H, List.forall_mem_cons.mpr ⟨kg_m_allTrust hJ H, List.forall_mem_cons.mpr ⟨kg_m_goesOn hJ H, List.forall_mem_cons.mpr ⟨kg_m_goesOnMany hJ H, fun _ h => absurd h List.not_mem_nil⟩⟩⟩⟩⟩⟩⟩⟩⟩⟩⟩⟩⟩⟩⟩⟩⟩⟩⟩)
theorem kg_r_fits (hJ : JP J) (H : HandU E V J) : KGi E V J 177 k_r_fits := kgi_of hJ (by decide) ck_r_fits (by unfold kc_r_fits; exact List.forall_mem_cons.mpr ⟨kg_m_saysAt hJ H, List.forall_mem_cons.mpr ⟨kg_m_loses hJ H, List.forall_mem_cons.mpr ⟨kg_m_worth hJ H, List.forall_mem_cons.mpr ⟨kg_m_covers hJ H, List.forall_mem_cons.mpr ⟨kg_m_counts hJ H, List.forall_mem_cons.mpr ⟨kg_m_gains hJ H, List.forall_mem_cons.mpr ⟨kg_m_manyIn H, List.forall_mem_cons.mpr ⟨kg_m_worked H, List.forall_mem_cons.mpr ⟨kg_m_falseOf hJ H, List.forall_mem_cons.mpr ⟨kg_m_joinBy hJ H, List.forall_mem_cons.mpr ⟨kg_m_doClash hJ H, List.forall_mem_cons.mpr ⟨kg_m_laidOnes hJ H, List.forall_mem_cons.mpr ⟨kg_m_coveredBy hJ H, List.forall_mem_cons.mpr ⟨kg_m_findClashing hJ H, List.forall_mem_cons.mpr ⟨kg_m_areAtPeace hJ H, List.forall_mem_cons.mpr ⟨kg_m_otherwiseAt hJ H, List.forall_mem_cons.mpr ⟨kg_m_allTrust hJ H, List.forall_mem_cons.mpr ⟨kg_m_goesOn hJ H, List.forall_mem_cons.mpr ⟨kg_m_goesOnMany hJ H, fun _ h => absurd h List.not_mem_nil⟩⟩⟩⟩⟩⟩⟩⟩⟩⟩⟩⟩⟩⟩⟩⟩⟩⟩⟩)
theorem kg_r_join (hJ : JP J) (H : HandU E V J) : KGi E V J 179 k_r_join := kgi_of hJ (by decide) ck_r_join (by unfold kc_r_join; exact List.forall_mem_cons.mpr ⟨kg_m_saysAt hJ H, List.forall_mem_cons.mpr ⟨kg_m_loses hJ H, List.forall_mem_cons.mpr ⟨kg_m_worth hJ H, List.forall_mem_cons.mpr ⟨kg_m_covers hJ H, List.forall_mem_cons.mpr ⟨kg_m_counts hJ H, List.forall_mem_cons.mpr ⟨kg_m_gains hJ H, List.forall_mem_cons.mpr ⟨kg_m_manyIn H, List.forall_mem_cons.mpr ⟨kg_m_worked H, List.forall_mem_cons.mpr ⟨kg_m_falseOf hJ H, List.forall_mem_cons.mpr ⟨kg_m_joinBy hJ H, List.forall_mem_cons.mpr ⟨kg_m_doClash hJ H, List.forall_mem_cons.mpr ⟨kg_m_laidOnes hJ H, List.forall_mem_cons.mpr ⟨kg_m_coveredBy hJ H, List.forall_mem_cons.mpr ⟨kg_m_findClashing hJ H, List.forall_mem_cons.mpr ⟨kg_m_areAtPeace hJ H, List.forall_mem_cons.mpr ⟨kg_m_otherwiseAt hJ H, List.forall_mem_cons.mpr ⟨kg_m_allTrust hJ H, List.forall_mem_cons.mpr ⟨kg_m_goesOn hJ H, List.forall_mem_cons.mpr ⟨kg_m_goesOnMany hJ H, fun _ h => absurd h List.not_mem_nil⟩⟩⟩⟩⟩⟩⟩⟩⟩⟩⟩⟩⟩⟩⟩⟩⟩⟩⟩)
theorem kg_r_clash (hJ : JP J) (H : HandU E V J) : KGi E V J 181 k_r_clash := kgi_of hJ (by decide) ck_r_clash (by unfold kc_r_clash; exact List.forall_mem_cons.mpr ⟨kg_m_saysAt hJ H, List.forall_mem_cons.mpr ⟨kg_m_loses hJ H, List.forall_mem_cons.mpr ⟨kg_m_worth hJ H, List.forall_mem_cons.mpr ⟨kg_m_covers hJ H, List.forall_mem_cons.mpr ⟨kg_m_counts hJ H, List.forall_mem_cons.mpr ⟨kg_m_gains hJ H, List.forall_mem_cons.mpr ⟨kg_m_manyIn H, List.forall_mem_cons.mpr ⟨kg_m_worked H, List.forall_mem_cons.mpr ⟨kg_m_falseOf hJ H, List.forall_mem_cons.mpr ⟨kg_m_joinBy hJ H, List.forall_mem_cons.mpr ⟨kg_m_doClash hJ H, List.forall_mem_cons.mpr ⟨kg_m_laidOnes hJ H, List.forall_mem_cons.mpr ⟨kg_m_coveredBy hJ H, List.forall_mem_cons.mpr ⟨kg_m_findClashing hJ H, List.forall_mem_cons.mpr ⟨kg_m_areAtPeace hJ H, List.forall_mem_cons.mpr ⟨kg_m_otherwiseAt hJ H, List.forall_mem_cons.mpr ⟨kg_m_allTrust hJ H, List.forall_mem_cons.mpr ⟨kg_m_goesOn hJ H, List.forall_mem_cons.mpr ⟨kg_m_goesOnMany hJ H, fun _ h => absurd h List.not_mem_nil⟩⟩⟩⟩⟩⟩⟩⟩⟩⟩⟩⟩⟩⟩⟩⟩⟩⟩⟩)
theorem kg_r_undone (hJ : JP J) (H : HandU E V J) : KGi E V J 186 k_r_undone := kgi_of hJ (by decide) ck_r_undone (by unfold kc_r_undone; exact List.forall_mem_cons.mpr ⟨kg_m_saysAt hJ H, List.forall_mem_cons.mpr ⟨kg_m_loses hJ H, List.forall_mem_cons.mpr ⟨kg_m_worth hJ H, List.forall_mem_cons.mpr ⟨kg_m_covers hJ H, List.forall_mem_cons.mpr ⟨kg_m_counts hJ H, List.forall_mem_cons.mpr ⟨kg_m_gains hJ H, List.forall_mem_cons.mpr ⟨kg_m_manyIn H, List.forall_mem_cons.mpr ⟨kg_m_worked H, List.forall_mem_cons.mpr ⟨kg_m_falseOf hJ H, List.forall_mem_cons.mpr ⟨kg_m_joinBy hJ H, List.forall_mem_cons.mpr ⟨kg_m_doClash hJ H, List.forall_mem_cons.mpr ⟨kg_m_laidOnes hJ H, List.forall_mem_cons.mpr ⟨kg_m_coveredBy hJ H, List.forall_mem_cons.mpr ⟨kg_m_findClashing hJ H, List.forall_mem_cons.mpr ⟨kg_m_areAtPeace hJ H, List.forall_mem_cons.mpr ⟨kg_m_otherwiseAt hJ H, List.forall_mem_cons.mpr ⟨kg_m_allTrust hJ H, List.forall_mem_cons.mpr ⟨kg_m_goesOn hJ H, List.forall_mem_cons.mpr ⟨kg_m_goesOnMany hJ H, fun _ h => absurd h List.not_mem_nil⟩⟩⟩⟩⟩⟩⟩⟩⟩⟩⟩⟩⟩⟩⟩⟩⟩⟩⟩)
theorem kg_r_borne (hJ : JP J) (H : HandU E V J) : KGi E V J 187 k_r_borne := kgi_of hJ (by decide) ck_r_borne (by unfold kc_r_borne; exact List.forall_mem_cons.mpr ⟨kg_m_saysAt hJ H, List.forall_mem_cons.mpr ⟨kg_m_loses hJ H, List.forall_mem_cons.mpr ⟨kg_m_worth hJ H, List.forall_mem_cons.mpr ⟨kg_m_covers hJ H, List.forall_mem_cons.mpr ⟨kg_m_counts hJ H, List.forall_mem_cons.mpr ⟨kg_m_gains hJ H, List.forall_mem_cons.mpr ⟨kg_m_manyIn H, List.forall_mem_cons.mpr ⟨kg_m_worked H, List.forall_mem_cons.mpr ⟨kg_m_falseOf hJ H, List.forall_mem_cons.mpr ⟨kg_m_joinBy hJ H, List.forall_mem_cons.mpr ⟨kg_m_doClash hJ H, List.forall_mem_cons.mpr ⟨kg_m_laidOnes hJ H, List.forall_mem_cons.mpr ⟨kg_m_coveredBy hJ H, List.forall_mem_cons.mpr ⟨kg_m_findClashing hJ H, List.forall_mem_cons.mpr ⟨kg_m_areAtPeace hJ H, List.forall_mem_cons.mpr ⟨kg_m_otherwiseAt hJ H, List.forall_mem_cons.mpr ⟨kg_m_allTrust hJ H, List.forall_mem_cons.mpr ⟨kg_m_goesOn hJ H, List.forall_mem_cons.mpr ⟨kg_m_goesOnMany hJ H, fun _ h => absurd h List.not_mem_nil⟩⟩⟩⟩⟩⟩⟩⟩⟩⟩⟩⟩⟩⟩⟩⟩⟩⟩⟩)
theorem kg_r_look (hJ : JP J) (H : HandU E V J) : KGi E V J 189 k_r_look := kgi_of hJ (by decide) ck_r_look (by unfold kc_r_look; exact List.forall_mem_cons.mpr ⟨kg_m_saysAt hJ H, List.forall_mem_cons.mpr ⟨kg_m_loses hJ H, List.forall_mem_cons.mpr ⟨kg_m_worth hJ H, List.forall_mem_cons.mpr ⟨kg_m_covers hJ H, List.forall_mem_cons.mpr ⟨kg_m_counts hJ H, List.forall_mem_cons.mpr ⟨kg_m_gains hJ H, List.forall_mem_cons.mpr ⟨kg_m_manyIn H, List.forall_mem_cons.mpr ⟨kg_m_worked H, List.forall_mem_cons.mpr ⟨kg_m_falseOf hJ H, List.forall_mem_cons.mpr ⟨kg_m_joinBy hJ H, List.forall_mem_cons.mpr ⟨kg_m_doClash hJ H, List.forall_mem_cons.mpr ⟨kg_m_laidOnes hJ H, List.forall_mem_cons.mpr ⟨kg_m_coveredBy hJ H, List.forall_mem_cons.mpr ⟨kg_m_findClashing hJ H, List.forall_mem_cons.mpr ⟨kg_m_areAtPeace hJ H, List.forall_mem_cons.mpr ⟨kg_m_otherwiseAt hJ H, List.forall_mem_cons.mpr ⟨kg_m_allTrust hJ H, List.forall_mem_cons.mpr ⟨kg_m_goesOn hJ H, List.forall_mem_cons.mpr ⟨kg_m_goesOnMany hJ H, fun _ h => absurd h List.not_mem_nil⟩⟩⟩⟩⟩⟩⟩⟩⟩⟩⟩⟩⟩⟩⟩⟩⟩⟩⟩)
theorem kg_r_tides (hJ : JP J) (H : HandU E V J) : KGi E V J 192 k_r_tides := kgi_of hJ (by decide) ck_r_tides (by unfold kc_r_tides; exact List.forall_mem_cons.mpr ⟨kg_m_saysAt hJ H, List.forall_mem_cons.mpr ⟨kg_m_loses hJ H, List.forall_mem_cons.mpr ⟨kg_m_worth hJ H, List.forall_mem_cons.mpr ⟨kg_m_covers hJ H, List.forall_mem_cons.mpr ⟨kg_m_counts hJ H, List.forall_mem_cons.mpr ⟨kg_m_gains hJ H, List.forall_mem_cons.mpr ⟨kg_m_manyIn H, List.forall_mem_cons.mpr ⟨kg_m_worked H, List.forall_mem_cons.mpr ⟨kg_m_falseOf hJ H, List.forall_mem_cons.mpr ⟨kg_m_joinBy hJ H, List.forall_mem_cons.mpr ⟨kg_m_doClash hJ H, List.forall_mem_cons.mpr ⟨kg_m_laidOnes hJ H, List.forall_mem_cons.mpr ⟨kg_m_coveredBy hJ H, List.forall_mem_cons.mpr ⟨kg_m_findClashing hJ H, List.forall_mem_cons.mpr ⟨kg_m_areAtPeace hJ H, List.forall_mem_cons.mpr ⟨kg_m_otherwiseAt hJ H, List.forall_mem_cons.mpr ⟨kg_m_allTrust hJ H, List.forall_mem_cons.mpr ⟨kg_m_goesOn hJ H, List.forall_mem_cons.mpr ⟨kg_m_goesOnMany hJ H, fun _ h => absurd h List.not_mem_nil⟩⟩⟩⟩⟩⟩⟩⟩⟩⟩⟩⟩⟩⟩⟩⟩⟩⟩⟩)
theorem kg_r_book (hJ : JP J) (H : HandU E V J) : KGi E V J 194 k_r_book := kgi_of hJ (by decide) ck_r_book (by unfold kc_r_book; exact List.forall_mem_cons.mpr ⟨kg_m_saysAt hJ H, List.forall_mem_cons.mpr ⟨kg_m_loses hJ H, List.forall_mem_cons.mpr ⟨kg_m_worth hJ H, List.forall_mem_cons.mpr ⟨kg_m_covers hJ H, List.forall_mem_cons.mpr ⟨kg_m_counts hJ H, List.forall_mem_cons.mpr ⟨kg_m_gains hJ H, List.forall_mem_cons.mpr ⟨kg_m_manyIn H, List.forall_mem_cons.mpr ⟨kg_m_worked H, List.forall_mem_cons.mpr ⟨kg_m_falseOf hJ H, List.forall_mem_cons.mpr ⟨kg_m_joinBy hJ H, List.forall_mem_cons.mpr ⟨kg_m_doClash hJ H, List.forall_mem_cons.mpr ⟨kg_m_laidOnes hJ H, List.forall_mem_cons.mpr ⟨kg_m_coveredBy hJ H, List.forall_mem_cons.mpr ⟨kg_m_findClashing hJ H, List.forall_mem_cons.mpr ⟨kg_m_areAtPeace hJ H, List.forall_mem_cons.mpr ⟨kg_m_otherwiseAt hJ H, List.forall_mem_cons.mpr ⟨kg_m_allTrust hJ H, List.forall_mem_cons.mpr ⟨kg_m_goesOn hJ H, List.forall_mem_cons.mpr ⟨kg_m_goesOnMany hJ H, fun _ h => absurd h List.not_mem_nil⟩⟩⟩⟩⟩⟩⟩⟩⟩⟩⟩⟩⟩⟩⟩⟩⟩⟩⟩)
theorem kg_r_whose (hJ : JP J) (H : HandU E V J) : KGi E V J 231 k_r_whose := kgi_of hJ (by decide) ck_r_whose (by unfold kc_r_whose; exact List.forall_mem_cons.mpr ⟨kg_m_saysAt hJ H, List.forall_mem_cons.mpr ⟨kg_m_loses hJ H, List.forall_mem_cons.mpr ⟨kg_m_worth hJ H, List.forall_mem_cons.mpr ⟨kg_m_covers hJ H, List.forall_mem_cons.mpr ⟨kg_m_counts hJ H, List.forall_mem_cons.mpr ⟨kg_m_gains hJ H, List.forall_mem_cons.mpr ⟨kg_m_manyIn H, List.forall_mem_cons.mpr ⟨kg_m_worked H, List.forall_mem_cons.mpr ⟨kg_m_falseOf hJ H, List.forall_mem_cons.mpr ⟨kg_m_joinBy hJ H, List.forall_mem_cons.mpr ⟨kg_m_doClash hJ H, List.forall_mem_cons.mpr ⟨kg_m_laidOnes hJ H, List.forall_mem_cons.mpr ⟨kg_m_coveredBy hJ H, List.forall_mem_cons.mpr ⟨kg_m_findClashing hJ H, List.forall_mem_cons.mpr ⟨kg_m_areAtPeace hJ H, List.forall_mem_cons.mpr ⟨kg_m_otherwiseAt hJ H, List.forall_mem_cons.mpr ⟨kg_m_allTrust hJ H, List.forall_mem_cons.mpr ⟨kg_m_goesOn hJ H, List.forall_mem_cons.mpr ⟨kg_m_goesOnMany hJ H, fun _ h => absurd h List.not_mem_nil⟩⟩⟩⟩⟩⟩⟩⟩⟩⟩⟩⟩⟩⟩⟩⟩⟩⟩⟩)
theorem kg_r_fee (hJ : JP J) (H : HandU E V J) : KGi E V J 201 k_r_fee := kgi_of hJ (by decide) ck_r_fee (by unfold kc_r_fee; exact List.forall_mem_cons.mpr ⟨kg_m_saysAt hJ H, List.forall_mem_cons.mpr ⟨kg_m_loses hJ H, List.forall_mem_cons.mpr ⟨kg_m_worth hJ H, List.forall_mem_cons.mpr ⟨kg_m_covers hJ H, List.forall_mem_cons.mpr ⟨kg_m_counts hJ H, List.forall_mem_cons.mpr ⟨kg_m_gains hJ H, List.forall_mem_cons.mpr ⟨kg_m_manyIn H, List.forall_mem_cons.mpr ⟨kg_m_worked H, List.forall_mem_cons.mpr ⟨kg_m_falseOf hJ H, List.forall_mem_cons.mpr ⟨kg_m_joinBy hJ H, List.forall_mem_cons.mpr ⟨kg_m_doClash hJ H, List.forall_mem_cons.mpr ⟨kg_m_laidOnes hJ H, List.forall_mem_cons.mpr ⟨kg_m_coveredBy hJ H, List.forall_mem_cons.mpr ⟨kg_m_findClashing hJ H, List.forall_mem_cons.mpr ⟨kg_m_areAtPeace hJ H, List.forall_mem_cons.mpr ⟨kg_m_otherwiseAt hJ H, List.forall_mem_cons.mpr ⟨kg_m_allTrust hJ H, List.forall_mem_cons.mpr ⟨kg_m_goesOn hJ H, List.forall_mem_cons.mpr ⟨kg_m_goesOnMany hJ H, fun _ h => absurd h List.not_mem_nil⟩⟩⟩⟩⟩⟩⟩⟩⟩⟩⟩⟩⟩⟩⟩⟩⟩⟩⟩)
theorem kg_r_fine (hJ : JP J) (H : HandU E V J) : KGi E V J 202 k_r_fine := kgi_of hJ (by decide) ck_r_fine (by unfold kc_r_fine; exact List.forall_mem_cons.mpr ⟨kg_m_saysAt hJ H, List.forall_mem_cons.mpr ⟨kg_m_loses hJ H, List.forall_mem_cons.mpr ⟨kg_m_worth hJ H, List.forall_mem_cons.mpr ⟨kg_m_covers hJ H, List.forall_mem_cons.mpr ⟨kg_m_counts hJ H, List.forall_mem_cons.mpr ⟨kg_m_gains hJ H, List.forall_mem_cons.mpr ⟨kg_m_manyIn H, List.forall_mem_cons.mpr ⟨kg_m_worked H, List.forall_mem_cons.mpr ⟨kg_m_falseOf hJ H, List.forall_mem_cons.mpr ⟨kg_m_joinBy hJ H, List.forall_mem_cons.mpr ⟨kg_m_doClash hJ H, List.forall_mem_cons.mpr ⟨kg_m_laidOnes hJ H, List.forall_mem_cons.mpr ⟨kg_m_coveredBy hJ H, List.forall_mem_cons.mpr ⟨kg_m_findClashing hJ H, List.forall_mem_cons.mpr ⟨kg_m_areAtPeace hJ H, List.forall_mem_cons.mpr ⟨kg_m_otherwiseAt hJ H, List.forall_mem_cons.mpr ⟨kg_m_allTrust hJ H, List.forall_mem_cons.mpr ⟨kg_m_goesOn hJ H, List.forall_mem_cons.mpr ⟨kg_m_goesOnMany hJ H, fun _ h => absurd h List.not_mem_nil⟩⟩⟩⟩⟩⟩⟩⟩⟩⟩⟩⟩⟩⟩⟩⟩⟩⟩⟩)
theorem kg_r_feed (hJ : JP J) (H : HandU E V J) : KGi E V J 203 k_r_feed := kgi_of hJ (by decide) ck_r_feed (by unfold kc_r_feed; exact List.forall_mem_cons.mpr ⟨kg_m_saysAt hJ H, List.forall_mem_cons.mpr ⟨kg_m_loses hJ H, List.forall_mem_cons.mpr ⟨kg_m_worth hJ H, List.forall_mem_cons.mpr ⟨kg_m_covers hJ H, List.forall_mem_cons.mpr ⟨kg_m_counts hJ H, List.forall_mem_cons.mpr ⟨kg_m_gains hJ H, List.forall_mem_cons.mpr ⟨kg_m_manyIn H, List.forall_mem_cons.mpr ⟨kg_m_worked H, List.forall_mem_cons.mpr ⟨kg_m_falseOf hJ H, List.forall_mem_cons.mpr ⟨kg_m_joinBy hJ H, List.forall_mem_cons.mpr ⟨kg_m_doClash hJ H, List.forall_mem_cons.mpr ⟨kg_m_laidOnes hJ H, List.forall_mem_cons.mpr ⟨kg_m_coveredBy hJ H, List.forall_mem_cons.mpr ⟨kg_m_findClashing hJ H, List.forall_mem_cons.mpr ⟨kg_m_areAtPeace hJ H, List.forall_mem_cons.mpr ⟨kg_m_otherwiseAt hJ H, List.forall_mem_cons.mpr ⟨kg_m_allTrust hJ H, List.forall_mem_cons.mpr ⟨kg_m_goesOn hJ H, List.forall_mem_cons.mpr ⟨kg_m_goesOnMany hJ H, fun _ h => absurd h List.not_mem_nil⟩⟩⟩⟩⟩⟩⟩⟩⟩⟩⟩⟩⟩⟩⟩⟩⟩⟩⟩)
theorem kg_r_trim (hJ : JP J) (H : HandU E V J) : KGi E V J 204 k_r_trim := kgi_of hJ (by decide) ck_r_trim (by unfold kc_r_trim; exact List.forall_mem_cons.mpr ⟨kg_m_saysAt hJ H, List.forall_mem_cons.mpr ⟨kg_m_loses hJ H, List.forall_mem_cons.mpr ⟨kg_m_worth hJ H, List.forall_mem_cons.mpr ⟨kg_m_covers hJ H, List.forall_mem_cons.mpr ⟨kg_m_counts hJ H, List.forall_mem_cons.mpr ⟨kg_m_gains hJ H, List.forall_mem_cons.mpr ⟨kg_m_manyIn H, List.forall_mem_cons.mpr ⟨kg_m_worked H, List.forall_mem_cons.mpr ⟨kg_m_falseOf hJ H, List.forall_mem_cons.mpr ⟨kg_m_joinBy hJ H, List.forall_mem_cons.mpr ⟨kg_m_doClash hJ H, List.forall_mem_cons.mpr ⟨kg_m_laidOnes hJ H, List.forall_mem_cons.mpr ⟨kg_m_coveredBy hJ H, List.forall_mem_cons.mpr ⟨kg_m_findClashing hJ H, List.forall_mem_cons.mpr ⟨kg_m_areAtPeace hJ H, List.forall_mem_cons.mpr ⟨kg_m_otherwiseAt hJ H, List.forall_mem_cons.mpr ⟨kg_m_allTrust hJ H, List.forall_mem_cons.mpr ⟨kg_m_goesOn hJ H, List.forall_mem_cons.mpr ⟨kg_m_goesOnMany hJ H, fun _ h => absurd h List.not_mem_nil⟩⟩⟩⟩⟩⟩⟩⟩⟩⟩⟩⟩⟩⟩⟩⟩⟩⟩⟩)
theorem kg_r_textTold (hJ : JP J) (H : HandU E V J) : KGi E V J 221 k_r_textTold := kgi_of hJ (by decide) ck_r_textTold (by unfold kc_r_textTold; exact List.forall_mem_cons.mpr ⟨kg_m_saysAt hJ H, List.forall_mem_cons.mpr ⟨kg_m_loses hJ H, List.forall_mem_cons.mpr ⟨kg_m_worth hJ H, List.forall_mem_cons.mpr ⟨kg_m_covers hJ H, List.forall_mem_cons.mpr ⟨kg_m_counts hJ H, List.forall_mem_cons.mpr ⟨kg_m_gains hJ H, List.forall_mem_cons.mpr ⟨kg_m_manyIn H, List.forall_mem_cons.mpr ⟨kg_m_worked H, List.forall_mem_cons.mpr ⟨kg_m_falseOf hJ H, List.forall_mem_cons.mpr ⟨kg_m_joinBy hJ H, List.forall_mem_cons.mpr ⟨kg_m_doClash hJ H, List.forall_mem_cons.mpr ⟨kg_m_laidOnes hJ H, List.forall_mem_cons.mpr ⟨kg_m_coveredBy hJ H, List.forall_mem_cons.mpr ⟨kg_m_findClashing hJ H, List.forall_mem_cons.mpr ⟨kg_m_areAtPeace hJ H, List.forall_mem_cons.mpr ⟨kg_m_otherwiseAt hJ H, List.forall_mem_cons.mpr ⟨kg_m_allTrust hJ H, List.forall_mem_cons.mpr ⟨kg_m_goesOn hJ H, List.forall_mem_cons.mpr ⟨kg_m_goesOnMany hJ H, fun _ h => absurd h List.not_mem_nil⟩⟩⟩⟩⟩⟩⟩⟩⟩⟩⟩⟩⟩⟩⟩⟩⟩⟩⟩)
theorem kg_r_why (hJ : JP J) (H : HandU E V J) : KGi E V J 223 k_r_why := kgi_of hJ (by decide) ck_r_why (by unfold kc_r_why; exact List.forall_mem_cons.mpr ⟨kg_m_saysAt hJ H, List.forall_mem_cons.mpr ⟨kg_m_loses hJ H, List.forall_mem_cons.mpr ⟨kg_m_worth hJ H, List.forall_mem_cons.mpr ⟨kg_m_covers hJ H, List.forall_mem_cons.mpr ⟨kg_m_counts hJ H, List.forall_mem_cons.mpr ⟨kg_m_gains hJ H, List.forall_mem_cons.mpr ⟨kg_m_manyIn H, List.forall_mem_cons.mpr ⟨kg_m_worked H, List.forall_mem_cons.mpr ⟨kg_m_falseOf hJ H, List.forall_mem_cons.mpr ⟨kg_m_joinBy hJ H, List.forall_mem_cons.mpr ⟨kg_m_doClash hJ H, List.forall_mem_cons.mpr ⟨kg_m_laidOnes hJ H, List.forall_mem_cons.mpr ⟨kg_m_coveredBy hJ H, List.forall_mem_cons.mpr ⟨kg_m_findClashing hJ H, List.forall_mem_cons.mpr ⟨kg_m_areAtPeace hJ H, List.forall_mem_cons.mpr ⟨kg_m_otherwiseAt hJ H, List.forall_mem_cons.mpr ⟨kg_m_allTrust hJ H, List.forall_mem_cons.mpr ⟨kg_m_goesOn hJ H, List.forall_mem_cons.mpr ⟨kg_m_goesOnMany hJ H, fun _ h => absurd h List.not_mem_nil⟩⟩⟩⟩⟩⟩⟩⟩⟩⟩⟩⟩⟩⟩⟩⟩⟩⟩⟩)
theorem kg_r_sheet (hJ : JP J) (H : HandU E V J) : KGi E V J 227 k_r_sheet := kgi_of hJ (by decide) ck_r_sheet (by unfold kc_r_sheet; exact List.forall_mem_cons.mpr ⟨kg_m_saysAt hJ H, List.forall_mem_cons.mpr ⟨kg_m_loses hJ H, List.forall_mem_cons.mpr ⟨kg_m_worth hJ H, List.forall_mem_cons.mpr ⟨kg_m_covers hJ H, List.forall_mem_cons.mpr ⟨kg_m_counts hJ H, List.forall_mem_cons.mpr ⟨kg_m_gains hJ H, List.forall_mem_cons.mpr ⟨kg_m_manyIn H, List.forall_mem_cons.mpr ⟨kg_m_worked H, List.forall_mem_cons.mpr ⟨kg_m_falseOf hJ H, List.forall_mem_cons.mpr ⟨kg_m_joinBy hJ H, List.forall_mem_cons.mpr ⟨kg_m_doClash hJ H, List.forall_mem_cons.mpr ⟨kg_m_laidOnes hJ H, List.forall_mem_cons.mpr ⟨kg_m_coveredBy hJ H, List.forall_mem_cons.mpr ⟨kg_m_findClashing hJ H, List.forall_mem_cons.mpr ⟨kg_m_areAtPeace hJ H, List.forall_mem_cons.mpr ⟨kg_m_otherwiseAt hJ H, List.forall_mem_cons.mpr ⟨kg_m_allTrust hJ H, List.forall_mem_cons.mpr ⟨kg_m_goesOn hJ H, List.forall_mem_cons.mpr ⟨kg_m_goesOnMany hJ H, fun _ h => absurd h List.not_mem_nil⟩⟩⟩⟩⟩⟩⟩⟩⟩⟩⟩⟩⟩⟩⟩⟩⟩⟩⟩)
theorem kg_r_mark (hJ : JP J) (H : HandU E V J) : KGi E V J 228 k_r_mark := kgi_of hJ (by decide) ck_r_mark (by unfold kc_r_mark; exact List.forall_mem_cons.mpr ⟨kg_m_saysAt hJ H, List.forall_mem_cons.mpr ⟨kg_m_loses hJ H, List.forall_mem_cons.mpr ⟨kg_m_worth hJ H, List.forall_mem_cons.mpr ⟨kg_m_covers hJ H, List.forall_mem_cons.mpr ⟨kg_m_counts hJ H, List.forall_mem_cons.mpr ⟨kg_m_gains hJ H, List.forall_mem_cons.mpr ⟨kg_m_manyIn H, List.forall_mem_cons.mpr ⟨kg_m_worked H, List.forall_mem_cons.mpr ⟨kg_m_falseOf hJ H, List.forall_mem_cons.mpr ⟨kg_m_joinBy hJ H, List.forall_mem_cons.mpr ⟨kg_m_doClash hJ H, List.forall_mem_cons.mpr ⟨kg_m_laidOnes hJ H, List.forall_mem_cons.mpr ⟨kg_m_coveredBy hJ H, List.forall_mem_cons.mpr ⟨kg_m_findClashing hJ H, List.forall_mem_cons.mpr ⟨kg_m_areAtPeace hJ H, List.forall_mem_cons.mpr ⟨kg_m_otherwiseAt hJ H, List.forall_mem_cons.mpr ⟨kg_m_allTrust hJ H, List.forall_mem_cons.mpr ⟨kg_m_goesOn hJ H, List.forall_mem_cons.mpr ⟨kg_m_goesOnMany hJ H, fun _ h => absurd h List.not_mem_nil⟩⟩⟩⟩⟩⟩⟩⟩⟩⟩⟩⟩⟩⟩⟩⟩⟩⟩⟩)
theorem kg_r_pour (hJ : JP J) (H : HandU E V J) : KGi E V J 229 k_r_pour := kgi_of hJ (by decide) ck_r_pour (by unfold kc_r_pour; exact List.forall_mem_cons.mpr ⟨kg_m_saysAt hJ H, List.forall_mem_cons.mpr ⟨kg_m_loses hJ H, List.forall_mem_cons.mpr ⟨kg_m_worth hJ H, List.forall_mem_cons.mpr ⟨kg_m_covers hJ H, List.forall_mem_cons.mpr ⟨kg_m_counts hJ H, List.forall_mem_cons.mpr ⟨kg_m_gains hJ H, List.forall_mem_cons.mpr ⟨kg_m_manyIn H, List.forall_mem_cons.mpr ⟨kg_m_worked H, List.forall_mem_cons.mpr ⟨kg_m_falseOf hJ H, List.forall_mem_cons.mpr ⟨kg_m_joinBy hJ H, List.forall_mem_cons.mpr ⟨kg_m_doClash hJ H, List.forall_mem_cons.mpr ⟨kg_m_laidOnes hJ H, List.forall_mem_cons.mpr ⟨kg_m_coveredBy hJ H, List.forall_mem_cons.mpr ⟨kg_m_findClashing hJ H, List.forall_mem_cons.mpr ⟨kg_m_areAtPeace hJ H, List.forall_mem_cons.mpr ⟨kg_m_otherwiseAt hJ H, List.forall_mem_cons.mpr ⟨kg_m_allTrust hJ H, List.forall_mem_cons.mpr ⟨kg_m_goesOn hJ H, List.forall_mem_cons.mpr ⟨kg_m_goesOnMany hJ H, fun _ h => absurd h List.not_mem_nil⟩⟩⟩⟩⟩⟩⟩⟩⟩⟩⟩⟩⟩⟩⟩⟩⟩⟩⟩)
theorem kg_r_reads (hJ : JP J) (H : HandU E V J) : KGi E V J 230 k_r_reads := kgi_of hJ (by decide) ck_r_reads (by unfold kc_r_reads; exact List.forall_mem_cons.mpr ⟨kg_m_saysAt hJ H, List.forall_mem_cons.mpr ⟨kg_m_loses hJ H, List.forall_mem_cons.mpr ⟨kg_m_worth hJ H, List.forall_mem_cons.mpr ⟨kg_m_covers hJ H, List.forall_mem_cons.mpr ⟨kg_m_counts hJ H, List.forall_mem_cons.mpr ⟨kg_m_gains hJ H, List.forall_mem_cons.mpr ⟨kg_m_manyIn H, List.forall_mem_cons.mpr ⟨kg_m_worked H, List.forall_mem_cons.mpr ⟨kg_m_falseOf hJ H, List.forall_mem_cons.mpr ⟨kg_m_joinBy hJ H, List.forall_mem_cons.mpr ⟨kg_m_doClash hJ H, List.forall_mem_cons.mpr ⟨kg_m_laidOnes hJ H, List.forall_mem_cons.mpr ⟨kg_m_coveredBy hJ H, List.forall_mem_cons.mpr ⟨kg_m_findClashing hJ H, List.forall_mem_cons.mpr ⟨kg_m_areAtPeace hJ H, List.forall_mem_cons.mpr ⟨kg_m_otherwiseAt hJ H, List.forall_mem_cons.mpr ⟨kg_m_allTrust hJ H, List.forall_mem_cons.mpr ⟨kg_m_goesOn hJ H, List.forall_mem_cons.mpr ⟨kg_m_goesOnMany hJ H, fun _ h => absurd h List.not_mem_nil⟩⟩⟩⟩⟩⟩⟩⟩⟩⟩⟩⟩⟩⟩⟩⟩⟩⟩⟩)
theorem kg_r_lay (hJ : JP J) (H : HandU E V J) : KGi E V J 234 k_r_lay := kgi_of hJ (by decide) ck_r_lay (by unfold kc_r_lay; exact List.forall_mem_cons.mpr ⟨kg_m_saysAt hJ H, List.forall_mem_cons.mpr ⟨kg_m_loses hJ H, List.forall_mem_cons.mpr ⟨kg_m_worth hJ H, List.forall_mem_cons.mpr ⟨kg_m_covers hJ H, List.forall_mem_cons.mpr ⟨kg_m_counts hJ H, List.forall_mem_cons.mpr ⟨kg_m_gains hJ H, List.forall_mem_cons.mpr ⟨kg_m_manyIn H, List.forall_mem_cons.mpr ⟨kg_m_worked H, List.forall_mem_cons.mpr ⟨kg_m_falseOf hJ H, List.forall_mem_cons.mpr ⟨kg_m_joinBy hJ H, List.forall_mem_cons.mpr ⟨kg_m_doClash hJ H, List.forall_mem_cons.mpr ⟨kg_m_laidOnes hJ H, List.forall_mem_cons.mpr ⟨kg_m_coveredBy hJ H, List.forall_mem_cons.mpr ⟨kg_m_findClashing hJ H, List.forall_mem_cons.mpr ⟨kg_m_areAtPeace hJ H, List.forall_mem_cons.mpr ⟨kg_m_otherwiseAt hJ H, List.forall_mem_cons.mpr ⟨kg_m_allTrust hJ H, List.forall_mem_cons.mpr ⟨kg_m_goesOn hJ H, List.forall_mem_cons.mpr ⟨kg_m_goesOnMany hJ H, fun _ h => absurd h List.not_mem_nil⟩⟩⟩⟩⟩⟩⟩⟩⟩⟩⟩⟩⟩⟩⟩⟩⟩⟩⟩)
theorem kg_r_ask (hJ : JP J) (H : HandU E V J) : KGi E V J 235 k_r_ask := kgi_of hJ (by decide) ck_r_ask (by unfold kc_r_ask; exact List.forall_mem_cons.mpr ⟨kg_m_saysAt hJ H, List.forall_mem_cons.mpr ⟨kg_m_loses hJ H, List.forall_mem_cons.mpr ⟨kg_m_worth hJ H, List.forall_mem_cons.mpr ⟨kg_m_covers hJ H, List.forall_mem_cons.mpr ⟨kg_m_counts hJ H, List.forall_mem_cons.mpr ⟨kg_m_gains hJ H, List.forall_mem_cons.mpr ⟨kg_m_manyIn H, List.forall_mem_cons.mpr ⟨kg_m_worked H, List.forall_mem_cons.mpr ⟨kg_m_falseOf hJ H, List.forall_mem_cons.mpr ⟨kg_m_joinBy hJ H, List.forall_mem_cons.mpr ⟨kg_m_doClash hJ H, List.forall_mem_cons.mpr ⟨kg_m_laidOnes hJ H, List.forall_mem_cons.mpr ⟨kg_m_coveredBy hJ H, List.forall_mem_cons.mpr ⟨kg_m_findClashing hJ H, List.forall_mem_cons.mpr ⟨kg_m_areAtPeace hJ H, List.forall_mem_cons.mpr ⟨kg_m_otherwiseAt hJ H, List.forall_mem_cons.mpr ⟨kg_m_allTrust hJ H, List.forall_mem_cons.mpr ⟨kg_m_goesOn hJ H, List.forall_mem_cons.mpr ⟨kg_m_goesOnMany hJ H, fun _ h => absurd h List.not_mem_nil⟩⟩⟩⟩⟩⟩⟩⟩⟩⟩⟩⟩⟩⟩⟩⟩⟩⟩⟩)
theorem kg_r_item (hJ : JP J) (H : HandU E V J) : KGi E V J 236 k_r_item := kgi_of hJ (by decide) ck_r_item (by unfold kc_r_item; exact List.forall_mem_cons.mpr ⟨kg_m_saysAt hJ H, List.forall_mem_cons.mpr ⟨kg_m_loses hJ H, List.forall_mem_cons.mpr ⟨kg_m_worth hJ H, List.forall_mem_cons.mpr ⟨kg_m_covers hJ H, List.forall_mem_cons.mpr ⟨kg_m_counts hJ H, List.forall_mem_cons.mpr ⟨kg_m_gains hJ H, List.forall_mem_cons.mpr ⟨kg_m_manyIn H, List.forall_mem_cons.mpr ⟨kg_m_worked H, List.forall_mem_cons.mpr ⟨kg_m_falseOf hJ H, List.forall_mem_cons.mpr ⟨kg_m_joinBy hJ H, List.forall_mem_cons.mpr ⟨kg_m_doClash hJ H, List.forall_mem_cons.mpr ⟨kg_m_laidOnes hJ H, List.forall_mem_cons.mpr ⟨kg_m_coveredBy hJ H, List.forall_mem_cons.mpr ⟨kg_m_findClashing hJ H, List.forall_mem_cons.mpr ⟨kg_m_areAtPeace hJ H, List.forall_mem_cons.mpr ⟨kg_m_otherwiseAt hJ H, List.forall_mem_cons.mpr ⟨kg_m_allTrust hJ H, List.forall_mem_cons.mpr ⟨kg_m_goesOn hJ H, List.forall_mem_cons.mpr ⟨kg_m_goesOnMany hJ H, fun _ h => absurd h List.not_mem_nil⟩⟩⟩⟩⟩⟩⟩⟩⟩⟩⟩⟩⟩⟩⟩⟩⟩⟩⟩)
theorem kg_r_rest (hJ : JP J) (H : HandU E V J) : KGi E V J 237 k_r_rest := kgi_of hJ (by decide) ck_r_rest (by unfold kc_r_rest; exact List.forall_mem_cons.mpr ⟨kg_m_saysAt hJ H, List.forall_mem_cons.mpr ⟨kg_m_loses hJ H, List.forall_mem_cons.mpr ⟨kg_m_worth hJ H, List.forall_mem_cons.mpr ⟨kg_m_covers hJ H, List.forall_mem_cons.mpr ⟨kg_m_counts hJ H, List.forall_mem_cons.mpr ⟨kg_m_gains hJ H, List.forall_mem_cons.mpr ⟨kg_m_manyIn H, List.forall_mem_cons.mpr ⟨kg_m_worked H, List.forall_mem_cons.mpr ⟨kg_m_falseOf hJ H, List.forall_mem_cons.mpr ⟨kg_m_joinBy hJ H, List.forall_mem_cons.mpr ⟨kg_m_doClash hJ H, List.forall_mem_cons.mpr ⟨kg_m_laidOnes hJ H, List.forall_mem_cons.mpr ⟨kg_m_coveredBy hJ H, List.forall_mem_cons.mpr ⟨kg_m_findClashing hJ H, List.forall_mem_cons.mpr ⟨kg_m_areAtPeace hJ H, List.forall_mem_cons.mpr ⟨kg_m_otherwiseAt hJ H, List.forall_mem_cons.mpr ⟨kg_m_allTrust hJ H, List.forall_mem_cons.mpr ⟨kg_m_goesOn hJ H, List.forall_mem_cons.mpr ⟨kg_m_goesOnMany hJ H, fun _ h => absurd h List.not_mem_nil⟩⟩⟩⟩⟩⟩⟩⟩⟩⟩⟩⟩⟩⟩⟩⟩⟩⟩⟩)
theorem kg_r_tell (hJ : JP J) (H : HandU E V J) : KGi E V J 238 k_r_tell := kgi_of hJ (by decide) ck_r_tell (by unfold kc_r_tell; exact List.forall_mem_cons.mpr ⟨kg_m_saysAt hJ H, List.forall_mem_cons.mpr ⟨kg_m_loses hJ H, List.forall_mem_cons.mpr ⟨kg_m_worth hJ H, List.forall_mem_cons.mpr ⟨kg_m_covers hJ H, List.forall_mem_cons.mpr ⟨kg_m_counts hJ H, List.forall_mem_cons.mpr ⟨kg_m_gains hJ H, List.forall_mem_cons.mpr ⟨kg_m_manyIn H, List.forall_mem_cons.mpr ⟨kg_m_worked H, List.forall_mem_cons.mpr ⟨kg_m_falseOf hJ H, List.forall_mem_cons.mpr ⟨kg_m_joinBy hJ H, List.forall_mem_cons.mpr ⟨kg_m_doClash hJ H, List.forall_mem_cons.mpr ⟨kg_m_laidOnes hJ H, List.forall_mem_cons.mpr ⟨kg_m_coveredBy hJ H, List.forall_mem_cons.mpr ⟨kg_m_findClashing hJ H, List.forall_mem_cons.mpr ⟨kg_m_areAtPeace hJ H, List.forall_mem_cons.mpr ⟨kg_m_otherwiseAt hJ H, List.forall_mem_cons.mpr ⟨kg_m_allTrust hJ H, List.forall_mem_cons.mpr ⟨kg_m_goesOn hJ H, List.forall_mem_cons.mpr ⟨kg_m_goesOnMany hJ H, fun _ h => absurd h List.not_mem_nil⟩⟩⟩⟩⟩⟩⟩⟩⟩⟩⟩⟩⟩⟩⟩⟩⟩⟩⟩)
theorem kg_r_count (hJ : JP J) (H : HandU E V J) : KGi E V J 243 k_r_count := kgi_of hJ (by decide) ck_r_count (by unfold kc_r_count; exact List.forall_mem_cons.mpr ⟨kg_m_saysAt hJ H, List.forall_mem_cons.mpr ⟨kg_m_loses hJ H, List.forall_mem_cons.mpr ⟨kg_m_worth hJ H, List.forall_mem_cons.mpr ⟨kg_m_covers hJ H, List.forall_mem_cons.mpr ⟨kg_m_counts hJ H, List.forall_mem_cons.mpr ⟨kg_m_gains hJ H, List.forall_mem_cons.mpr ⟨kg_m_manyIn H, List.forall_mem_cons.mpr ⟨kg_m_worked H, List.forall_mem_cons.mpr ⟨kg_m_falseOf hJ H, List.forall_mem_cons.mpr ⟨kg_m_joinBy hJ H, List.forall_mem_cons.mpr ⟨kg_m_doClash hJ H, List.forall_mem_cons.mpr ⟨kg_m_laidOnes hJ H, List.forall_mem_cons.mpr ⟨kg_m_coveredBy hJ H, List.forall_mem_cons.mpr ⟨kg_m_findClashing hJ H, List.forall_mem_cons.mpr ⟨kg_m_areAtPeace hJ H, List.forall_mem_cons.mpr ⟨kg_m_otherwiseAt hJ H, List.forall_mem_cons.mpr ⟨kg_m_allTrust hJ H, List.forall_mem_cons.mpr ⟨kg_m_goesOn hJ H, List.forall_mem_cons.mpr ⟨kg_m_goesOnMany hJ H, fun _ h => absurd h List.not_mem_nil⟩⟩⟩⟩⟩⟩⟩⟩⟩⟩⟩⟩⟩⟩⟩⟩⟩⟩⟩)
end KGS
end
