section
-- ===== PART A: goes FIRST, ahead of the names: the tables' words, and 'selects' of the private methods out of them =====
/-- a private method of a class that the tables say can be made, by its rows of tables_1 -/
def lw_okq (q : MethodName × Nat) : Prop := (q.1.cls ≠ "java/lang/invoke/MethodHandle" ∧ q.1.cls ≠ "java/lang/invoke/VarHandle") ∧ Cond.instantiable q.1.cls q.2 ∈ tables_1 ∧ Cond.privateMethod q.1 ∈ tables_1 ∧ Cond.instanceMethod q.1 ∈ tables_1
theorem lw_p0 : lw_okq (⟨"CreasedPaper$Paper", "isTornAlong", "(I)Z"⟩, 8) := ⟨⟨by decide +kernel, by decide +kernel⟩, List.mem_of_getElem? (i := 34) (by decide +kernel), List.mem_of_getElem? (i := 435) (by decide +kernel), List.mem_of_getElem? (i := 436) (by decide +kernel)⟩
theorem lw_p1 : lw_okq (⟨"CreasedPaper$Paper", "creaseAlong", "(I)I"⟩, 8) := ⟨⟨by decide +kernel, by decide +kernel⟩, List.mem_of_getElem? (i := 34) (by decide +kernel), List.mem_of_getElem? (i := 444) (by decide +kernel), List.mem_of_getElem? (i := 445) (by decide +kernel)⟩
theorem lw_p2 : lw_okq (⟨"CreasedPaper$Paper", "endAct", "(I)V"⟩, 8) := ⟨⟨by decide +kernel, by decide +kernel⟩, List.mem_of_getElem? (i := 34) (by decide +kernel), List.mem_of_getElem? (i := 459) (by decide +kernel), List.mem_of_getElem? (i := 460) (by decide +kernel)⟩
theorem lw_p3 : lw_okq (⟨"CreasedPaper$Tape", "readWord", "()V"⟩, 6) := ⟨⟨by decide +kernel, by decide +kernel⟩, List.mem_of_getElem? (i := 195) (by decide +kernel), List.mem_of_getElem? (i := 555) (by decide +kernel), List.mem_of_getElem? (i := 556) (by decide +kernel)⟩
theorem lw_p4 : lw_okq (⟨"CreasedPaper$Tape", "readNumber", "()V"⟩, 6) := ⟨⟨by decide +kernel, by decide +kernel⟩, List.mem_of_getElem? (i := 195) (by decide +kernel), List.mem_of_getElem? (i := 562) (by decide +kernel), List.mem_of_getElem? (i := 563) (by decide +kernel)⟩
theorem lw_p5 : lw_okq (⟨"CreasedPaper$Text", "closeAgain", "()V"⟩, 13) := ⟨⟨by decide +kernel, by decide +kernel⟩, List.mem_of_getElem? (i := 224) (by decide +kernel), List.mem_of_getElem? (i := 574) (by decide +kernel), List.mem_of_getElem? (i := 575) (by decide +kernel)⟩
theorem lw_p6 : lw_okq (⟨"CreasedPaper$Text", "readDo", "(LCreasedPaper$Tape;)Z"⟩, 13) := ⟨⟨by decide +kernel, by decide +kernel⟩, List.mem_of_getElem? (i := 224) (by decide +kernel), List.mem_of_getElem? (i := 578) (by decide +kernel), List.mem_of_getElem? (i := 579) (by decide +kernel)⟩
theorem lw_p7 : lw_okq (⟨"CreasedPaper$Text", "faultAt", "(LCreasedPaper$Tape;I)Z"⟩, 13) := ⟨⟨by decide +kernel, by decide +kernel⟩, List.mem_of_getElem? (i := 224) (by decide +kernel), List.mem_of_getElem? (i := 641) (by decide +kernel), List.mem_of_getElem? (i := 642) (by decide +kernel)⟩
theorem lw_p8 : lw_okq (⟨"CreasedPaper$Text", "readNumber", "(LCreasedPaper$Tape;II)Z"⟩, 13) := ⟨⟨by decide +kernel, by decide +kernel⟩, List.mem_of_getElem? (i := 224) (by decide +kernel), List.mem_of_getElem? (i := 645) (by decide +kernel), List.mem_of_getElem? (i := 646) (by decide +kernel)⟩
theorem lw_p9 : lw_okq (⟨"CreasedPaper$Text", "readSide", "(LCreasedPaper$Tape;)Z"⟩, 13) := ⟨⟨by decide +kernel, by decide +kernel⟩, List.mem_of_getElem? (i := 224) (by decide +kernel), List.mem_of_getElem? (i := 649) (by decide +kernel), List.mem_of_getElem? (i := 650) (by decide +kernel)⟩
theorem lw_p10 : lw_okq (⟨"CreasedPaper$Text", "readStop", "(LCreasedPaper$Tape;)Z"⟩, 13) := ⟨⟨by decide +kernel, by decide +kernel⟩, List.mem_of_getElem? (i := 224) (by decide +kernel), List.mem_of_getElem? (i := 655) (by decide +kernel), List.mem_of_getElem? (i := 656) (by decide +kernel)⟩
theorem lw_p11 : lw_okq (⟨"CreasedPaper$Text", "readOpening", "(LCreasedPaper$Tape;)Z"⟩, 13) := ⟨⟨by decide +kernel, by decide +kernel⟩, List.mem_of_getElem? (i := 224) (by decide +kernel), List.mem_of_getElem? (i := 659) (by decide +kernel), List.mem_of_getElem? (i := 660) (by decide +kernel)⟩
theorem lw_p12 : lw_okq (⟨"CreasedPaper$Text", "doRange", "(LCreasedPaper$Paper;III)Z"⟩, 13) := ⟨⟨by decide +kernel, by decide +kernel⟩, List.mem_of_getElem? (i := 224) (by decide +kernel), List.mem_of_getElem? (i := 667) (by decide +kernel), List.mem_of_getElem? (i := 668) (by decide +kernel)⟩
theorem lw_p13 : lw_okq (⟨"CreasedPaper$Text", "doAct", "(LCreasedPaper$Paper;I)Z"⟩, 13) := ⟨⟨by decide +kernel, by decide +kernel⟩, List.mem_of_getElem? (i := 224) (by decide +kernel), List.mem_of_getElem? (i := 671) (by decide +kernel), List.mem_of_getElem? (i := 672) (by decide +kernel)⟩
theorem lw_p14 : lw_okq (⟨"CreasedPaper$Text", "doAgain", "(LCreasedPaper$Paper;II)Z"⟩, 13) := ⟨⟨by decide +kernel, by decide +kernel⟩, List.mem_of_getElem? (i := 224) (by decide +kernel), List.mem_of_getElem? (i := 678) (by decide +kernel), List.mem_of_getElem? (i := 679) (by decide +kernel)⟩
theorem lw_p15 : lw_okq (⟨"CreasedPaper$Text", "hasAct", "(II)Z"⟩, 13) := ⟨⟨by decide +kernel, by decide +kernel⟩, List.mem_of_getElem? (i := 224) (by decide +kernel), List.mem_of_getElem? (i := 682) (by decide +kernel), List.mem_of_getElem? (i := 683) (by decide +kernel)⟩
def lw_privs_1 : List (MethodName × Nat) := [(⟨"CreasedPaper$Paper", "isTornAlong", "(I)Z"⟩, 8), (⟨"CreasedPaper$Paper", "creaseAlong", "(I)I"⟩, 8), (⟨"CreasedPaper$Paper", "endAct", "(I)V"⟩, 8), (⟨"CreasedPaper$Tape", "readWord", "()V"⟩, 6), (⟨"CreasedPaper$Tape", "readNumber", "()V"⟩, 6), (⟨"CreasedPaper$Text", "closeAgain", "()V"⟩, 13), (⟨"CreasedPaper$Text", "readDo", "(LCreasedPaper$Tape;)Z"⟩, 13), (⟨"CreasedPaper$Text", "faultAt", "(LCreasedPaper$Tape;I)Z"⟩, 13), (⟨"CreasedPaper$Text", "readNumber", "(LCreasedPaper$Tape;II)Z"⟩, 13), (⟨"CreasedPaper$Text", "readSide", "(LCreasedPaper$Tape;)Z"⟩, 13), (⟨"CreasedPaper$Text", "readStop", "(LCreasedPaper$Tape;)Z"⟩, 13), (⟨"CreasedPaper$Text", "readOpening", "(LCreasedPaper$Tape;)Z"⟩, 13), (⟨"CreasedPaper$Text", "doRange", "(LCreasedPaper$Paper;III)Z"⟩, 13), (⟨"CreasedPaper$Text", "doAct", "(LCreasedPaper$Paper;I)Z"⟩, 13), (⟨"CreasedPaper$Text", "doAgain", "(LCreasedPaper$Paper;II)Z"⟩, 13), (⟨"CreasedPaper$Text", "hasAct", "(II)Z"⟩, 13)]
theorem lw_r1 : ∀ q ∈ lw_privs_1, lw_okq q := List.forall_mem_cons.mpr ⟨lw_p0, List.forall_mem_cons.mpr ⟨lw_p1, List.forall_mem_cons.mpr ⟨lw_p2, List.forall_mem_cons.mpr ⟨lw_p3, List.forall_mem_cons.mpr ⟨lw_p4, List.forall_mem_cons.mpr ⟨lw_p5, List.forall_mem_cons.mpr ⟨lw_p6, List.forall_mem_cons.mpr ⟨lw_p7, List.forall_mem_cons.mpr ⟨lw_p8, List.forall_mem_cons.mpr ⟨lw_p9, List.forall_mem_cons.mpr ⟨lw_p10, List.forall_mem_cons.mpr ⟨lw_p11, List.forall_mem_cons.mpr ⟨lw_p12, List.forall_mem_cons.mpr ⟨lw_p13, List.forall_mem_cons.mpr ⟨lw_p14, List.forall_mem_cons.mpr ⟨lw_p15, fun _ h => absurd h List.not_mem_nil⟩⟩⟩⟩⟩⟩⟩⟩⟩⟩⟩⟩⟩⟩⟩⟩
theorem lw_p16 : lw_okq (⟨"CreasedPaper$Shapes", "isResting", "(II)Z"⟩, 4) := ⟨⟨by decide +kernel, by decide +kernel⟩, List.mem_of_getElem? (i := 274) (by decide +kernel), List.mem_of_getElem? (i := 735) (by decide +kernel), List.mem_of_getElem? (i := 736) (by decide +kernel)⟩
theorem lw_p17 : lw_okq (⟨"CreasedPaper$Shapes", "followTo", "(I)V"⟩, 4) := ⟨⟨by decide +kernel, by decide +kernel⟩, List.mem_of_getElem? (i := 274) (by decide +kernel), List.mem_of_getElem? (i := 765) (by decide +kernel), List.mem_of_getElem? (i := 766) (by decide +kernel)⟩
theorem lw_p18 : lw_okq (⟨"CreasedPaper$Shapes", "nearestThatStays", "(I)I"⟩, 4) := ⟨⟨by decide +kernel, by decide +kernel⟩, List.mem_of_getElem? (i := 274) (by decide +kernel), List.mem_of_getElem? (i := 770) (by decide +kernel), List.mem_of_getElem? (i := 771) (by decide +kernel)⟩
theorem lw_p19 : lw_okq (⟨"CreasedPaper$Panels", "pileFrom", "(I)Z"⟩, 6) := ⟨⟨by decide +kernel, by decide +kernel⟩, List.mem_of_getElem? (i := 296) (by decide +kernel), List.mem_of_getElem? (i := 786) (by decide +kernel), List.mem_of_getElem? (i := 787) (by decide +kernel)⟩
theorem lw_p20 : lw_okq (⟨"CreasedPaper$Panels", "canLie", "(II)Z"⟩, 6) := ⟨⟨by decide +kernel, by decide +kernel⟩, List.mem_of_getElem? (i := 296) (by decide +kernel), List.mem_of_getElem? (i := 790) (by decide +kernel), List.mem_of_getElem? (i := 791) (by decide +kernel)⟩
theorem lw_p21 : lw_okq (⟨"CreasedPaper$Panels", "fits", "(IIII)Z"⟩, 6) := ⟨⟨by decide +kernel, by decide +kernel⟩, List.mem_of_getElem? (i := 296) (by decide +kernel), List.mem_of_getElem? (i := 794) (by decide +kernel), List.mem_of_getElem? (i := 795) (by decide +kernel)⟩
theorem lw_p22 : lw_okq (⟨"CreasedPaper$Panels", "isCrossed", "(III)Z"⟩, 6) := ⟨⟨by decide +kernel, by decide +kernel⟩, List.mem_of_getElem? (i := 296) (by decide +kernel), List.mem_of_getElem? (i := 798) (by decide +kernel), List.mem_of_getElem? (i := 799) (by decide +kernel)⟩
theorem lw_p23 : lw_okq (⟨"CreasedPaper$Search", "goOn", "(I)Z"⟩, 9) := ⟨⟨by decide +kernel, by decide +kernel⟩, List.mem_of_getElem? (i := 322) (by decide +kernel), List.mem_of_getElem? (i := 839) (by decide +kernel), List.mem_of_getElem? (i := 840) (by decide +kernel)⟩
theorem lw_p24 : lw_okq (⟨"CreasedPaper$Search", "countIfFitting", "()Z"⟩, 9) := ⟨⟨by decide +kernel, by decide +kernel⟩, List.mem_of_getElem? (i := 322) (by decide +kernel), List.mem_of_getElem? (i := 843) (by decide +kernel), List.mem_of_getElem? (i := 844) (by decide +kernel)⟩
theorem lw_p25 : lw_okq (⟨"CreasedPaper$Search", "goOnBy", "(IIZ)Z"⟩, 9) := ⟨⟨by decide +kernel, by decide +kernel⟩, List.mem_of_getElem? (i := 322) (by decide +kernel), List.mem_of_getElem? (i := 851) (by decide +kernel), List.mem_of_getElem? (i := 852) (by decide +kernel)⟩
theorem lw_p26 : lw_okq (⟨"CreasedPaperModel", "flatten", "()V"⟩, 29) := ⟨⟨by decide +kernel, by decide +kernel⟩, List.mem_of_getElem? (i := 924) (by decide +kernel), List.mem_of_getElem? (i := 930) (by decide +kernel), List.mem_of_getElem? (i := 931) (by decide +kernel)⟩
theorem lw_p27 : lw_okq (⟨"CreasedPaperModel", "against", "(IZ)I"⟩, 29) := ⟨⟨by decide +kernel, by decide +kernel⟩, List.mem_of_getElem? (i := 924) (by decide +kernel), List.mem_of_getElem? (i := 1044) (by decide +kernel), List.mem_of_getElem? (i := 1045) (by decide +kernel)⟩
theorem lw_p28 : lw_okq (⟨"CreasedPaperModel", "creases", "(II)Z"⟩, 29) := ⟨⟨by decide +kernel, by decide +kernel⟩, List.mem_of_getElem? (i := 924) (by decide +kernel), List.mem_of_getElem? (i := 1051) (by decide +kernel), List.mem_of_getElem? (i := 1052) (by decide +kernel)⟩
theorem lw_p29 : lw_okq (⟨"CreasedPaperModel", "staying", "(IIZ)I"⟩, 29) := ⟨⟨by decide +kernel, by decide +kernel⟩, List.mem_of_getElem? (i := 924) (by decide +kernel), List.mem_of_getElem? (i := 1057) (by decide +kernel), List.mem_of_getElem? (i := 1058) (by decide +kernel)⟩
theorem lw_p30 : lw_okq (⟨"CreasedPaperModel", "pass", "(I)V"⟩, 29) := ⟨⟨by decide +kernel, by decide +kernel⟩, List.mem_of_getElem? (i := 924) (by decide +kernel), List.mem_of_getElem? (i := 1061) (by decide +kernel), List.mem_of_getElem? (i := 1062) (by decide +kernel)⟩
theorem lw_p31 : lw_okq (⟨"CreasedPaperModel", "isFolded", "(I)Z"⟩, 29) := ⟨⟨by decide +kernel, by decide +kernel⟩, List.mem_of_getElem? (i := 924) (by decide +kernel), List.mem_of_getElem? (i := 1065) (by decide +kernel), List.mem_of_getElem? (i := 1066) (by decide +kernel)⟩
def lw_privs_2 : List (MethodName × Nat) := [(⟨"CreasedPaper$Shapes", "isResting", "(II)Z"⟩, 4), (⟨"CreasedPaper$Shapes", "followTo", "(I)V"⟩, 4), (⟨"CreasedPaper$Shapes", "nearestThatStays", "(I)I"⟩, 4), (⟨"CreasedPaper$Panels", "pileFrom", "(I)Z"⟩, 6), (⟨"CreasedPaper$Panels", "canLie", "(II)Z"⟩, 6), (⟨"CreasedPaper$Panels", "fits", "(IIII)Z"⟩, 6), (⟨"CreasedPaper$Panels", "isCrossed", "(III)Z"⟩, 6), (⟨"CreasedPaper$Search", "goOn", "(I)Z"⟩, 9), (⟨"CreasedPaper$Search", "countIfFitting", "()Z"⟩, 9), (⟨"CreasedPaper$Search", "goOnBy", "(IIZ)Z"⟩, 9), (⟨"CreasedPaperModel", "flatten", "()V"⟩, 29), (⟨"CreasedPaperModel", "against", "(IZ)I"⟩, 29), (⟨"CreasedPaperModel", "creases", "(II)Z"⟩, 29), (⟨"CreasedPaperModel", "staying", "(IIZ)I"⟩, 29), (⟨"CreasedPaperModel", "pass", "(I)V"⟩, 29), (⟨"CreasedPaperModel", "isFolded", "(I)Z"⟩, 29)]
theorem lw_r2 : ∀ q ∈ lw_privs_2, lw_okq q := List.forall_mem_cons.mpr ⟨lw_p16, List.forall_mem_cons.mpr ⟨lw_p17, List.forall_mem_cons.mpr ⟨lw_p18, List.forall_mem_cons.mpr ⟨lw_p19, List.forall_mem_cons.mpr ⟨lw_p20, List.forall_mem_cons.mpr ⟨lw_p21, List.forall_mem_cons.mpr ⟨lw_p22, List.forall_mem_cons.mpr ⟨lw_p23, List.forall_mem_cons.mpr ⟨lw_p24, List.forall_mem_cons.mpr ⟨lw_p25, List.forall_mem_cons.mpr ⟨lw_p26, List.forall_mem_cons.mpr ⟨lw_p27, List.forall_mem_cons.mpr ⟨lw_p28, List.forall_mem_cons.mpr ⟨lw_p29, List.forall_mem_cons.mpr ⟨lw_p30, List.forall_mem_cons.mpr ⟨lw_p31, fun _ h => absurd h List.not_mem_nil⟩⟩⟩⟩⟩⟩⟩⟩⟩⟩⟩⟩⟩⟩⟩⟩
theorem lw_p32 : lw_okq (⟨"CreasedPaperModel", "four", "(I)V"⟩, 29) := ⟨⟨by decide +kernel, by decide +kernel⟩, List.mem_of_getElem? (i := 924) (by decide +kernel), List.mem_of_getElem? (i := 1089) (by decide +kernel), List.mem_of_getElem? (i := 1090) (by decide +kernel)⟩
theorem lw_p33 : lw_okq (⟨"CreasedPaperModel", "readText", "()I"⟩, 29) := ⟨⟨by decide +kernel, by decide +kernel⟩, List.mem_of_getElem? (i := 924) (by decide +kernel), List.mem_of_getElem? (i := 1101) (by decide +kernel), List.mem_of_getElem? (i := 1102) (by decide +kernel)⟩
theorem lw_p34 : lw_okq (⟨"CreasedPaperModel", "nextToken", "()V"⟩, 29) := ⟨⟨by decide +kernel, by decide +kernel⟩, List.mem_of_getElem? (i := 924) (by decide +kernel), List.mem_of_getElem? (i := 1105) (by decide +kernel), List.mem_of_getElem? (i := 1106) (by decide +kernel)⟩
theorem lw_p35 : lw_okq (⟨"CreasedPaperModel", "byteAt", "(I)I"⟩, 29) := ⟨⟨by decide +kernel, by decide +kernel⟩, List.mem_of_getElem? (i := 924) (by decide +kernel), List.mem_of_getElem? (i := 1109) (by decide +kernel), List.mem_of_getElem? (i := 1110) (by decide +kernel)⟩
theorem lw_p36 : lw_okq (⟨"CreasedPaperModel", "act", "()I"⟩, 29) := ⟨⟨by decide +kernel, by decide +kernel⟩, List.mem_of_getElem? (i := 924) (by decide +kernel), List.mem_of_getElem? (i := 1119) (by decide +kernel), List.mem_of_getElem? (i := 1120) (by decide +kernel)⟩
theorem lw_p37 : lw_okq (⟨"CreasedPaperModel", "isWord", "(J)Z"⟩, 29) := ⟨⟨by decide +kernel, by decide +kernel⟩, List.mem_of_getElem? (i := 924) (by decide +kernel), List.mem_of_getElem? (i := 1126) (by decide +kernel), List.mem_of_getElem? (i := 1127) (by decide +kernel)⟩
theorem lw_p38 : lw_okq (⟨"CreasedPaperModel", "foldAct", "()I"⟩, 29) := ⟨⟨by decide +kernel, by decide +kernel⟩, List.mem_of_getElem? (i := 924) (by decide +kernel), List.mem_of_getElem? (i := 1133) (by decide +kernel), List.mem_of_getElem? (i := 1134) (by decide +kernel)⟩
theorem lw_p39 : lw_okq (⟨"CreasedPaperModel", "take", "(II)I"⟩, 29) := ⟨⟨by decide +kernel, by decide +kernel⟩, List.mem_of_getElem? (i := 924) (by decide +kernel), List.mem_of_getElem? (i := 1137) (by decide +kernel), List.mem_of_getElem? (i := 1138) (by decide +kernel)⟩
theorem lw_p40 : lw_okq (⟨"CreasedPaperModel", "close", "()I"⟩, 29) := ⟨⟨by decide +kernel, by decide +kernel⟩, List.mem_of_getElem? (i := 924) (by decide +kernel), List.mem_of_getElem? (i := 1141) (by decide +kernel), List.mem_of_getElem? (i := 1142) (by decide +kernel)⟩
theorem lw_p41 : lw_okq (⟨"CreasedPaperModel", "again", "()I"⟩, 29) := ⟨⟨by decide +kernel, by decide +kernel⟩, List.mem_of_getElem? (i := 924) (by decide +kernel), List.mem_of_getElem? (i := 1145) (by decide +kernel), List.mem_of_getElem? (i := 1146) (by decide +kernel)⟩
theorem lw_p42 : lw_okq (⟨"CreasedPaperModel", "doAll", "()I"⟩, 29) := ⟨⟨by decide +kernel, by decide +kernel⟩, List.mem_of_getElem? (i := 924) (by decide +kernel), List.mem_of_getElem? (i := 1149) (by decide +kernel), List.mem_of_getElem? (i := 1150) (by decide +kernel)⟩
theorem lw_p43 : lw_okq (⟨"CreasedPaperModel", "hasActs", "(I)Z"⟩, 29) := ⟨⟨by decide +kernel, by decide +kernel⟩, List.mem_of_getElem? (i := 924) (by decide +kernel), List.mem_of_getElem? (i := 1153) (by decide +kernel), List.mem_of_getElem? (i := 1154) (by decide +kernel)⟩
theorem lw_p44 : lw_okq (⟨"CreasedPaperModel", "does", "(I)Z"⟩, 29) := ⟨⟨by decide +kernel, by decide +kernel⟩, List.mem_of_getElem? (i := 924) (by decide +kernel), List.mem_of_getElem? (i := 1157) (by decide +kernel), List.mem_of_getElem? (i := 1158) (by decide +kernel)⟩
theorem lw_p45 : lw_okq (⟨"CreasedPaperModel", "isSheet", "(I)Z"⟩, 29) := ⟨⟨by decide +kernel, by decide +kernel⟩, List.mem_of_getElem? (i := 924) (by decide +kernel), List.mem_of_getElem? (i := 1176) (by decide +kernel), List.mem_of_getElem? (i := 1177) (by decide +kernel)⟩
theorem lw_p46 : lw_okq (⟨"CreasedPaperModel", "torqueAt", "(II)I"⟩, 29) := ⟨⟨by decide +kernel, by decide +kernel⟩, List.mem_of_getElem? (i := 924) (by decide +kernel), List.mem_of_getElem? (i := 1180) (by decide +kernel), List.mem_of_getElem? (i := 1181) (by decide +kernel)⟩
theorem lw_p47 : lw_okq (⟨"CreasedPaperModel", "restsAt", "(IIIZ)Z"⟩, 29) := ⟨⟨by decide +kernel, by decide +kernel⟩, List.mem_of_getElem? (i := 924) (by decide +kernel), List.mem_of_getElem? (i := 1195) (by decide +kernel), List.mem_of_getElem? (i := 1196) (by decide +kernel)⟩
def lw_privs_3 : List (MethodName × Nat) := [(⟨"CreasedPaperModel", "four", "(I)V"⟩, 29), (⟨"CreasedPaperModel", "readText", "()I"⟩, 29), (⟨"CreasedPaperModel", "nextToken", "()V"⟩, 29), (⟨"CreasedPaperModel", "byteAt", "(I)I"⟩, 29), (⟨"CreasedPaperModel", "act", "()I"⟩, 29), (⟨"CreasedPaperModel", "isWord", "(J)Z"⟩, 29), (⟨"CreasedPaperModel", "foldAct", "()I"⟩, 29), (⟨"CreasedPaperModel", "take", "(II)I"⟩, 29), (⟨"CreasedPaperModel", "close", "()I"⟩, 29), (⟨"CreasedPaperModel", "again", "()I"⟩, 29), (⟨"CreasedPaperModel", "doAll", "()I"⟩, 29), (⟨"CreasedPaperModel", "hasActs", "(I)Z"⟩, 29), (⟨"CreasedPaperModel", "does", "(I)Z"⟩, 29), (⟨"CreasedPaperModel", "isSheet", "(I)Z"⟩, 29), (⟨"CreasedPaperModel", "torqueAt", "(II)I"⟩, 29), (⟨"CreasedPaperModel", "restsAt", "(IIIZ)Z"⟩, 29)]
theorem lw_r3 : ∀ q ∈ lw_privs_3, lw_okq q := List.forall_mem_cons.mpr ⟨lw_p32, List.forall_mem_cons.mpr ⟨lw_p33, List.forall_mem_cons.mpr ⟨lw_p34, List.forall_mem_cons.mpr ⟨lw_p35, List.forall_mem_cons.mpr ⟨lw_p36, List.forall_mem_cons.mpr ⟨lw_p37, List.forall_mem_cons.mpr ⟨lw_p38, List.forall_mem_cons.mpr ⟨lw_p39, List.forall_mem_cons.mpr ⟨lw_p40, List.forall_mem_cons.mpr ⟨lw_p41, List.forall_mem_cons.mpr ⟨lw_p42, List.forall_mem_cons.mpr ⟨lw_p43, List.forall_mem_cons.mpr ⟨lw_p44, List.forall_mem_cons.mpr ⟨lw_p45, List.forall_mem_cons.mpr ⟨lw_p46, List.forall_mem_cons.mpr ⟨lw_p47, fun _ h => absurd h List.not_mem_nil⟩⟩⟩⟩⟩⟩⟩⟩⟩⟩⟩⟩⟩⟩⟩⟩
theorem lw_p48 : lw_okq (⟨"CreasedPaperModel", "nearest", "(IIIII)I"⟩, 29) := ⟨⟨by decide +kernel, by decide +kernel⟩, List.mem_of_getElem? (i := 924) (by decide +kernel), List.mem_of_getElem? (i := 1210) (by decide +kernel), List.mem_of_getElem? (i := 1211) (by decide +kernel)⟩
theorem lw_p49 : lw_okq (⟨"CreasedPaperModel", "isWay", "(II)Z"⟩, 29) := ⟨⟨by decide +kernel, by decide +kernel⟩, List.mem_of_getElem? (i := 924) (by decide +kernel), List.mem_of_getElem? (i := 1218) (by decide +kernel), List.mem_of_getElem? (i := 1219) (by decide +kernel)⟩
theorem lw_p50 : lw_okq (⟨"CreasedPaperModel", "nextOrder", "(I)Z"⟩, 29) := ⟨⟨by decide +kernel, by decide +kernel⟩, List.mem_of_getElem? (i := 924) (by decide +kernel), List.mem_of_getElem? (i := 1222) (by decide +kernel), List.mem_of_getElem? (i := 1223) (by decide +kernel)⟩
theorem lw_p51 : lw_okq (⟨"CreasedPaperModel", "lookAll", "()V"⟩, 29) := ⟨⟨by decide +kernel, by decide +kernel⟩, List.mem_of_getElem? (i := 924) (by decide +kernel), List.mem_of_getElem? (i := 1238) (by decide +kernel), List.mem_of_getElem? (i := 1239) (by decide +kernel)⟩
theorem lw_p52 : lw_okq (⟨"CreasedPaperModel", "fits", "(IIII)Z"⟩, 29) := ⟨⟨by decide +kernel, by decide +kernel⟩, List.mem_of_getElem? (i := 924) (by decide +kernel), List.mem_of_getElem? (i := 1245) (by decide +kernel), List.mem_of_getElem? (i := 1246) (by decide +kernel)⟩
theorem lw_p53 : lw_okq (⟨"CreasedPaperModel", "folds", "(IIZ)Z"⟩, 29) := ⟨⟨by decide +kernel, by decide +kernel⟩, List.mem_of_getElem? (i := 924) (by decide +kernel), List.mem_of_getElem? (i := 1249) (by decide +kernel), List.mem_of_getElem? (i := 1250) (by decide +kernel)⟩
theorem lw_p54 : lw_okq (⟨"CreasedPaperModel", "manyPoints", "(I)I"⟩, 29) := ⟨⟨by decide +kernel, by decide +kernel⟩, List.mem_of_getElem? (i := 924) (by decide +kernel), List.mem_of_getElem? (i := 1269) (by decide +kernel), List.mem_of_getElem? (i := 1270) (by decide +kernel)⟩
theorem lw_p55 : lw_okq (⟨"CreasedPaperModel", "outmost", "(Z)I"⟩, 29) := ⟨⟨by decide +kernel, by decide +kernel⟩, List.mem_of_getElem? (i := 924) (by decide +kernel), List.mem_of_getElem? (i := 1273) (by decide +kernel), List.mem_of_getElem? (i := 1274) (by decide +kernel)⟩
def lw_privs_4 : List (MethodName × Nat) := [(⟨"CreasedPaperModel", "nearest", "(IIIII)I"⟩, 29), (⟨"CreasedPaperModel", "isWay", "(II)Z"⟩, 29), (⟨"CreasedPaperModel", "nextOrder", "(I)Z"⟩, 29), (⟨"CreasedPaperModel", "lookAll", "()V"⟩, 29), (⟨"CreasedPaperModel", "fits", "(IIII)Z"⟩, 29), (⟨"CreasedPaperModel", "folds", "(IIZ)Z"⟩, 29), (⟨"CreasedPaperModel", "manyPoints", "(I)I"⟩, 29), (⟨"CreasedPaperModel", "outmost", "(Z)I"⟩, 29)]
theorem lw_r4 : ∀ q ∈ lw_privs_4, lw_okq q := List.forall_mem_cons.mpr ⟨lw_p48, List.forall_mem_cons.mpr ⟨lw_p49, List.forall_mem_cons.mpr ⟨lw_p50, List.forall_mem_cons.mpr ⟨lw_p51, List.forall_mem_cons.mpr ⟨lw_p52, List.forall_mem_cons.mpr ⟨lw_p53, List.forall_mem_cons.mpr ⟨lw_p54, List.forall_mem_cons.mpr ⟨lw_p55, fun _ h => absurd h List.not_mem_nil⟩⟩⟩⟩⟩⟩⟩⟩
def lw_privs : List (MethodName × Nat) := lw_privs_1 ++ (lw_privs_2 ++ (lw_privs_3 ++ (lw_privs_4)))
def lw_tbl : List Cond := k2_sels lw_privs ++ tables_1
theorem lw_privs_ok : ∀ q ∈ lw_privs, lw_okq q := by
  show ∀ q ∈ lw_privs_1 ++ (lw_privs_2 ++ (lw_privs_3 ++ (lw_privs_4))), lw_okq q
  exact List.forall_mem_append.mpr ⟨lw_r1, List.forall_mem_append.mpr ⟨lw_r2, List.forall_mem_append.mpr ⟨lw_r3, lw_r4⟩⟩⟩
end
section
/-! names: classes, fields, methods; what the tables say of each, by its place in lw_tbl -/
def kT0 : u_T := fun k => match k with
  | 0 => ("CreasedPaper$Creases", "sign", "[I", true)
  | 1 => ("CreasedPaper$Creases", "rest", "[I", true)
  | 2 => ("CreasedPaper$Creases", "wear", "[I", true)
  | 3 => ("CreasedPaper$Creases", "tick", "[I", true)
  | 4 => ("CreasedPaper$Creases", "act", "[I", true)
  | _ => ("CreasedPaper$Creases", "torn", "[Z", true)
def kt0 : Nat → FieldType := fun k => match k with
  | 0 => (.array .int)
  | 1 => (.array .int)
  | 2 => (.array .int)
  | 3 => (.array .int)
  | 4 => (.array .int)
  | _ => (.array .boolean)
theorem kn0 : ∀ a, a < 6 → ∀ b, b < 6 → a ≠ b → (kT0 a).2.1 ≠ (kT0 b).2.1 := by decide +kernel
theorem kp0 : ∀ k, k < 6 → parseFieldDescriptor (kT0 k).2.2.1 = some (kt0 k) := by decide +kernel
def kT1 : u_T := fun k => match k with
  | 0 => ("CreasedPaper$Panels", "panelIn", "[I", true)
  | 1 => ("CreasedPaper$Panels", "layerOf", "[I", true)
  | 2 => ("CreasedPaper$Panels", "signs", "[I", true)
  | 3 => ("CreasedPaper$Panels", "count", "I", false)
  | 4 => ("CreasedPaper$Panels", "wanted", "I", false)
  | _ => ("CreasedPaper$Panels", "found", "I", false)
def kt1 : Nat → FieldType := fun k => match k with
  | 0 => (.array .int)
  | 1 => (.array .int)
  | 2 => (.array .int)
  | 3 => .int
  | 4 => .int
  | _ => .int
theorem kn1 : ∀ a, a < 6 → ∀ b, b < 6 → a ≠ b → (kT1 a).2.1 ≠ (kT1 b).2.1 := by decide +kernel
theorem kp1 : ∀ k, k < 6 → parseFieldDescriptor (kT1 k).2.2.1 = some (kt1 k) := by decide +kernel
def kT2 : u_T := fun k => match k with
  | 0 => ("CreasedPaper$Paper", "strip", "LCreasedPaper$Strip;", true)
  | 1 => ("CreasedPaper$Paper", "creases", "LCreasedPaper$Creases;", true)
  | 2 => ("CreasedPaper$Paper", "creep", "I", false)
  | 3 => ("CreasedPaper$Paper", "ease", "I", false)
  | 4 => ("CreasedPaper$Paper", "strong", "I", false)
  | 5 => ("CreasedPaper$Paper", "thick", "I", false)
  | 6 => ("CreasedPaper$Paper", "clock", "I", false)
  | _ => ("CreasedPaper$Paper", "acts", "I", false)
def kt2 : Nat → FieldType := fun k => match k with
  | 0 => (.object "CreasedPaper$Strip")
  | 1 => (.object "CreasedPaper$Creases")
  | 2 => .int
  | 3 => .int
  | 4 => .int
  | 5 => .int
  | 6 => .int
  | _ => .int
theorem kn2 : ∀ a, a < 8 → ∀ b, b < 8 → a ≠ b → (kT2 a).2.1 ≠ (kT2 b).2.1 := by decide +kernel
theorem kp2 : ∀ k, k < 8 → parseFieldDescriptor (kT2 k).2.2.1 = some (kt2 k) := by decide +kernel
def kT3 : u_T := fun k => match k with
  | 0 => ("CreasedPaper$Search", "lines", "[I", true)
  | 1 => ("CreasedPaper$Search", "strips", "[LCreasedPaper$Strip;", true)
  | 2 => ("CreasedPaper$Search", "signs", "[[I", true)
  | 3 => ("CreasedPaper$Search", "told", "[I", true)
  | 4 => ("CreasedPaper$Search", "tallies", "[[I", true)
  | 5 => ("CreasedPaper$Search", "cells", "I", false)
  | 6 => ("CreasedPaper$Search", "folds", "I", false)
  | 7 => ("CreasedPaper$Search", "wanted", "I", false)
  | _ => ("CreasedPaper$Search", "found", "I", false)
def kt3 : Nat → FieldType := fun k => match k with
  | 0 => (.array .int)
  | 1 => (.array (.object "CreasedPaper$Strip"))
  | 2 => (.array (.array .int))
  | 3 => (.array .int)
  | 4 => (.array (.array .int))
  | 5 => .int
  | 6 => .int
  | 7 => .int
  | _ => .int
theorem kn3 : ∀ a, a < 9 → ∀ b, b < 9 → a ≠ b → (kT3 a).2.1 ≠ (kT3 b).2.1 := by decide +kernel
theorem kp3 : ∀ k, k < 9 → parseFieldDescriptor (kT3 k).2.2.1 = some (kt3 k) := by decide +kernel
def kT4 : u_T := fun k => match k with
  | 0 => ("CreasedPaper$Seen", "time", "I", false)
  | 1 => ("CreasedPaper$Seen", "lookTime", "I", false)
  | 2 => ("CreasedPaper$Seen", "points", "[I", true)
  | _ => ("CreasedPaper$Seen", "signs", "[I", true)
def kt4 : Nat → FieldType := fun k => match k with
  | 0 => .int
  | 1 => .int
  | 2 => (.array .int)
  | _ => (.array .int)
theorem kn4 : ∀ a, a < 4 → ∀ b, b < 4 → a ≠ b → (kT4 a).2.1 ≠ (kT4 b).2.1 := by decide +kernel
theorem kp4 : ∀ k, k < 4 → parseFieldDescriptor (kT4 k).2.2.1 = some (kt4 k) := by decide +kernel
def kT5 : u_T := fun k => match k with
  | 0 => ("CreasedPaper$Shapes", "angle", "I", false)
  | 1 => ("CreasedPaper$Shapes", "snaps", "I", false)
  | 2 => ("CreasedPaper$Shapes", "firstPush", "I", false)
  | _ => ("CreasedPaper$Shapes", "torques", "[I", true)
def kt5 : Nat → FieldType := fun k => match k with
  | 0 => .int
  | 1 => .int
  | 2 => .int
  | _ => (.array .int)
theorem kn5 : ∀ a, a < 4 → ∀ b, b < 4 → a ≠ b → (kT5 a).2.1 ≠ (kT5 b).2.1 := by decide +kernel
theorem kp5 : ∀ k, k < 4 → parseFieldDescriptor (kT5 k).2.2.1 = some (kt5 k) := by decide +kernel
def kT6 : u_T := fun k => match k with
  | 0 => ("CreasedPaper$Sheets", "count", "I", false)
  | 1 => ("CreasedPaper$Sheets", "stiffness", "[I", true)
  | 2 => ("CreasedPaper$Sheets", "restAngle", "[I", true)
  | 3 => ("CreasedPaper$Sheets", "bending", "[I", true)
  | 4 => ("CreasedPaper$Sheets", "firstZero", "[I", true)
  | _ => ("CreasedPaper$Sheets", "secondZero", "[I", true)
def kt6 : Nat → FieldType := fun k => match k with
  | 0 => .int
  | 1 => (.array .int)
  | 2 => (.array .int)
  | 3 => (.array .int)
  | 4 => (.array .int)
  | _ => (.array .int)
theorem kn6 : ∀ a, a < 6 → ∀ b, b < 6 → a ≠ b → (kT6 a).2.1 ≠ (kT6 b).2.1 := by decide +kernel
theorem kp6 : ∀ k, k < 6 → parseFieldDescriptor (kT6 k).2.2.1 = some (kt6 k) := by decide +kernel
def kT7 : u_T := fun k => match k with
  | 0 => ("CreasedPaper$Strip", "place", "[I", true)
  | 1 => ("CreasedPaper$Strip", "layer", "[I", true)
  | 2 => ("CreasedPaper$Strip", "up", "[Z", true)
  | 3 => ("CreasedPaper$Strip", "size", "I", false)
  | 4 => ("CreasedPaper$Strip", "heights", "[I", true)
  | _ => ("CreasedPaper$Strip", "tallied", "I", false)
def kt7 : Nat → FieldType := fun k => match k with
  | 0 => (.array .int)
  | 1 => (.array .int)
  | 2 => (.array .boolean)
  | 3 => .int
  | 4 => (.array .int)
  | _ => .int
theorem kn7 : ∀ a, a < 6 → ∀ b, b < 6 → a ≠ b → (kT7 a).2.1 ≠ (kT7 b).2.1 := by decide +kernel
theorem kp7 : ∀ k, k < 6 → parseFieldDescriptor (kT7 k).2.2.1 = some (kt7 k) := by decide +kernel
def kT8 : u_T := fun k => match k with
  | 0 => ("CreasedPaper$Tape", "bytes", "[I", true)
  | 1 => ("CreasedPaper$Tape", "length", "I", false)
  | 2 => ("CreasedPaper$Tape", "kind", "I", false)
  | 3 => ("CreasedPaper$Tape", "start", "I", false)
  | 4 => ("CreasedPaper$Tape", "behind", "I", false)
  | _ => ("CreasedPaper$Tape", "value", "I", false)
def kt8 : Nat → FieldType := fun k => match k with
  | 0 => (.array .int)
  | 1 => .int
  | 2 => .int
  | 3 => .int
  | 4 => .int
  | _ => .int
theorem kn8 : ∀ a, a < 6 → ∀ b, b < 6 → a ≠ b → (kT8 a).2.1 ≠ (kT8 b).2.1 := by decide +kernel
theorem kp8 : ∀ k, k < 6 → parseFieldDescriptor (kT8 k).2.2.1 = some (kt8 k) := by decide +kernel
def kT9 : u_T := fun k => match k with
  | 0 => ("CreasedPaper$Text", "wasRead", "Z", false)
  | 1 => ("CreasedPaper$Text", "faultKind", "I", false)
  | 2 => ("CreasedPaper$Text", "faultPlace", "I", false)
  | 3 => ("CreasedPaper$Text", "stoppedAt", "I", false)
  | 4 => ("CreasedPaper$Text", "verb", "[I", true)
  | 5 => ("CreasedPaper$Text", "number", "[I", true)
  | 6 => ("CreasedPaper$Text", "toRight", "[Z", true)
  | 7 => ("CreasedPaper$Text", "firstByte", "[I", true)
  | 8 => ("CreasedPaper$Text", "behind", "[I", true)
  | 9 => ("CreasedPaper$Text", "openAgains", "[I", true)
  | 10 => ("CreasedPaper$Text", "dos", "I", false)
  | 11 => ("CreasedPaper$Text", "depth", "I", false)
  | _ => ("CreasedPaper$Text", "actsDone", "I", false)
def kt9 : Nat → FieldType := fun k => match k with
  | 0 => .boolean
  | 1 => .int
  | 2 => .int
  | 3 => .int
  | 4 => (.array .int)
  | 5 => (.array .int)
  | 6 => (.array .boolean)
  | 7 => (.array .int)
  | 8 => (.array .int)
  | 9 => (.array .int)
  | 10 => .int
  | 11 => .int
  | _ => .int
theorem kn9 : ∀ a, a < 13 → ∀ b, b < 13 → a ≠ b → (kT9 a).2.1 ≠ (kT9 b).2.1 := by decide +kernel
theorem kp9 : ∀ k, k < 13 → parseFieldDescriptor (kT9 k).2.2.1 = some (kt9 k) := by decide +kernel
def kT10 : u_T := fun k => match k with
  | 0 => ("CreasedPaper", "paper", "LCreasedPaper$Paper;", true)
  | 1 => ("CreasedPaper", "oldPaper", "LCreasedPaper$Paper;", true)
  | 2 => ("CreasedPaper", "sheets", "LCreasedPaper$Sheets;", true)
  | 3 => ("CreasedPaper", "oldSheets", "LCreasedPaper$Sheets;", true)
  | 4 => ("CreasedPaper", "seen", "LCreasedPaper$Seen;", true)
  | 5 => ("CreasedPaper", "oldSeen", "LCreasedPaper$Seen;", true)
  | 6 => ("CreasedPaper", "tape", "LCreasedPaper$Tape;", true)
  | 7 => ("CreasedPaper", "text", "LCreasedPaper$Text;", true)
  | 8 => ("CreasedPaper", "shapes", "LCreasedPaper$Shapes;", true)
  | 9 => ("CreasedPaper", "panels", "LCreasedPaper$Panels;", true)
  | _ => ("CreasedPaper", "search", "LCreasedPaper$Search;", true)
def kt10 : Nat → FieldType := fun k => match k with
  | 0 => (.object "CreasedPaper$Paper")
  | 1 => (.object "CreasedPaper$Paper")
  | 2 => (.object "CreasedPaper$Sheets")
  | 3 => (.object "CreasedPaper$Sheets")
  | 4 => (.object "CreasedPaper$Seen")
  | 5 => (.object "CreasedPaper$Seen")
  | 6 => (.object "CreasedPaper$Tape")
  | 7 => (.object "CreasedPaper$Text")
  | 8 => (.object "CreasedPaper$Shapes")
  | 9 => (.object "CreasedPaper$Panels")
  | _ => (.object "CreasedPaper$Search")
theorem kn10 : ∀ a, a < 11 → ∀ b, b < 11 → a ≠ b → (kT10 a).2.1 ≠ (kT10 b).2.1 := by decide +kernel
theorem kp10 : ∀ k, k < 11 → parseFieldDescriptor (kT10 k).2.2.1 = some (kt10 k) := by decide +kernel
def kT11 : u_T := fun k => match k with
  | 0 => ("CreasedPaperModel", "length", "I", true)
  | 1 => ("CreasedPaperModel", "a", "[I", true)
  | 2 => ("CreasedPaperModel", "image", "[I", true)
  | 3 => ("CreasedPaperModel", "layered", "[I", true)
  | 4 => ("CreasedPaperModel", "tape", "[I", true)
  | 5 => ("CreasedPaperModel", "taped", "I", false)
  | 6 => ("CreasedPaperModel", "fault", "I", false)
  | 7 => ("CreasedPaperModel", "faultPlace", "I", false)
  | 8 => ("CreasedPaperModel", "faultDo", "I", false)
  | 9 => ("CreasedPaperModel", "at", "I", false)
  | 10 => ("CreasedPaperModel", "place", "I", false)
  | 11 => ("CreasedPaperModel", "token", "I", false)
  | 12 => ("CreasedPaperModel", "number", "I", false)
  | 13 => ("CreasedPaperModel", "word", "J", false)
  | 14 => ("CreasedPaperModel", "sort", "[I", true)
  | 15 => ("CreasedPaperModel", "much", "[I", true)
  | 16 => ("CreasedPaperModel", "from", "[I", true)
  | 17 => ("CreasedPaperModel", "until", "[I", true)
  | 18 => ("CreasedPaperModel", "many", "I", false)
  | 19 => ("CreasedPaperModel", "opened", "I", false)
  | 20 => ("CreasedPaperModel", "open", "[I", true)
  | 21 => ("CreasedPaperModel", "turns", "[I", true)
  | 22 => ("CreasedPaperModel", "order", "[I", true)
  | 23 => ("CreasedPaperModel", "lies", "[I", true)
  | 24 => ("CreasedPaperModel", "spot", "[I", true)
  | 25 => ("CreasedPaperModel", "up", "[I", true)
  | 26 => ("CreasedPaperModel", "signs", "[I", true)
  | 27 => ("CreasedPaperModel", "wanted", "[I", true)
  | _ => ("CreasedPaperModel", "counts", "[I", true)
def kt11 : Nat → FieldType := fun k => match k with
  | 0 => .int
  | 1 => (.array .int)
  | 2 => (.array .int)
  | 3 => (.array .int)
  | 4 => (.array .int)
  | 5 => .int
  | 6 => .int
  | 7 => .int
  | 8 => .int
  | 9 => .int
  | 10 => .int
  | 11 => .int
  | 12 => .int
  | 13 => .long
  | 14 => (.array .int)
  | 15 => (.array .int)
  | 16 => (.array .int)
  | 17 => (.array .int)
  | 18 => .int
  | 19 => .int
  | 20 => (.array .int)
  | 21 => (.array .int)
  | 22 => (.array .int)
  | 23 => (.array .int)
  | 24 => (.array .int)
  | 25 => (.array .int)
  | 26 => (.array .int)
  | 27 => (.array .int)
  | _ => (.array .int)
theorem kn11 : ∀ a, a < 29 → ∀ b, b < 29 → a ≠ b → (kT11 a).2.1 ≠ (kT11 b).2.1 := by decide +kernel
theorem kp11 : ∀ k, k < 29 → parseFieldDescriptor (kT11 k).2.2.1 = some (kt11 k) := by decide +kernel
abbrev CL : List vw_C := [("CreasedPaper$Creases", kT0, 6), ("CreasedPaper$Panels", kT1, 6), ("CreasedPaper$Paper", kT2, 8), ("CreasedPaper$Search", kT3, 9), ("CreasedPaper$Seen", kT4, 4), ("CreasedPaper$Shapes", kT5, 4), ("CreasedPaper$Sheets", kT6, 6), ("CreasedPaper$Strip", kT7, 6), ("CreasedPaper$Tape", kT8, 6), ("CreasedPaper$Text", kT9, 13), ("CreasedPaper", kT10, 11), ("CreasedPaperModel", kT11, 29)]
def TB : List Cond := lw_tbl.filter goodWord
theorem tb_at {w : Cond} (i : Nat) (h : lw_tbl[i]? = some w) (g : goodWord w = true) : w ∈ TB := List.mem_filter.mpr ⟨List.mem_of_getElem? h, g⟩
theorem tb_good : ∀ w ∈ TB, (w.onTables && w.keeps) = true ∨ ∃ ty, w = .arrayClass ty := fun w h => good_of_word (List.mem_filter.mp h).2
theorem tb_in : ∀ w ∈ TB, w ∈ lw_tbl := fun w h => (List.mem_filter.mp h).1
theorem kw0 : ∀ w ∈ u_ws "CreasedPaper$Creases" kT0 6, w ∈ TB := by decide +kernel
theorem kw1 : ∀ w ∈ u_ws "CreasedPaper$Panels" kT1 6, w ∈ TB := by decide +kernel
theorem kw2 : ∀ w ∈ u_ws "CreasedPaper$Paper" kT2 8, w ∈ TB := by decide +kernel
theorem kw3 : ∀ w ∈ u_ws "CreasedPaper$Search" kT3 9, w ∈ TB := by decide +kernel
theorem kw4 : ∀ w ∈ u_ws "CreasedPaper$Seen" kT4 4, w ∈ TB := by decide +kernel
theorem kw5 : ∀ w ∈ u_ws "CreasedPaper$Shapes" kT5 4, w ∈ TB := by decide +kernel
theorem kw6 : ∀ w ∈ u_ws "CreasedPaper$Sheets" kT6 6, w ∈ TB := by decide +kernel
theorem kw7 : ∀ w ∈ u_ws "CreasedPaper$Strip" kT7 6, w ∈ TB := by decide +kernel
theorem kw8 : ∀ w ∈ u_ws "CreasedPaper$Tape" kT8 6, w ∈ TB := by decide +kernel
theorem kw9 : ∀ w ∈ u_ws "CreasedPaper$Text" kT9 13, w ∈ TB := by decide +kernel
theorem kw10 : ∀ w ∈ u_ws "CreasedPaper" kT10 11, w ∈ TB := by decide +kernel
theorem kw11 : ∀ w ∈ u_ws "CreasedPaperModel" kT11 29, w ∈ TB := by decide +kernel
abbrev mD : Type := MethodName × ByteArray × Nat × Option FieldType
def m_L_cell : mD := (⟨"CreasedPaperLaw", "cell", "([II)I"⟩, method_2_code, 2, (some .int))
def m_X0_copyFrom : mD := (⟨"CreasedPaper$Creases", "copyFrom", "(LCreasedPaper$Creases;)V"⟩, prog_2_method_2_code, 3, none)
def m_X0_countCreased : mD := (⟨"CreasedPaper$Creases", "countCreased", "()I"⟩, prog_2_method_6_code, 3, (some .int))
def m_X0_countTorn : mD := (⟨"CreasedPaper$Creases", "countTorn", "()I"⟩, prog_2_method_7_code, 3, (some .int))
def m_X0_creep : mD := (⟨"CreasedPaper$Creases", "creep", "(III)V"⟩, prog_2_method_4_code, 6, none)
def m_X0_ease : mD := (⟨"CreasedPaper$Creases", "ease", "(III)V"⟩, prog_2_method_5_code, 6, none)
def m_X0_init : mD := (⟨"CreasedPaper$Creases", "<init>", "(I)V"⟩, prog_2_method_1_code, 3, none)
def m_X0_press : mD := (⟨"CreasedPaper$Creases", "press", "(IIII)V"⟩, prog_2_method_3_code, 5, none)
def m_X10_about : mD := (⟨"CreasedPaper", "about", "(I)I"⟩, prog_1_method_26_code, 2, (some .int))
def m_X10_at : mD := (⟨"CreasedPaper", "at", "(II)I"⟩, prog_1_method_8_code, 3, (some .int))
def m_X10_back : mD := (⟨"CreasedPaper", "back", "()I"⟩, prog_1_method_25_code, 1, (some .int))
def m_X10_cell : mD := (⟨"CreasedPaper", "cell", "(II)I"⟩, prog_1_method_6_code, 4, (some .int))
def m_X10_crease : mD := (⟨"CreasedPaper", "crease", "(II)I"⟩, prog_1_method_9_code, 4, (some .int))
def m_X10_end : mD := (⟨"CreasedPaper", "end", "(I)I"⟩, prog_1_method_11_code, 2, (some .int))
def m_X10_fault : mD := (⟨"CreasedPaper", "fault", "(I)I"⟩, prog_1_method_13_code, 2, (some .int))
def m_X10_feed : mD := (⟨"CreasedPaper", "feed", "(IIIII)I"⟩, prog_1_method_10_code, 6, (some .int))
def m_X10_fold : mD := (⟨"CreasedPaper", "fold", "(IZ)I"⟩, prog_1_method_3_code, 3, (some .int))
def m_X10_hands : mD := (⟨"CreasedPaper", "hands", "()I"⟩, prog_1_method_12_code, 2, (some .int))
def m_X10_hold : mD := (⟨"CreasedPaper", "hold", "(I)I"⟩, prog_1_method_4_code, 2, (some .int))
def m_X10_image : mD := (⟨"CreasedPaper", "image", "()I"⟩, prog_1_method_24_code, 1, (some .int))
def m_X10_init : mD := (⟨"CreasedPaper", "<init>", "(I)V"⟩, prog_1_method_1_code, 3, none)
def m_X10_isAngle : mD := (⟨"CreasedPaper", "isAngle", "(I)Z"⟩, prog_1_method_28_code, 1, (some .boolean))
def m_X10_isPush : mD := (⟨"CreasedPaper", "isPush", "(I)Z"⟩, prog_1_method_29_code, 1, (some .boolean))
def m_X10_isSearch : mD := (⟨"CreasedPaper", "isSearch", "(II)Z"⟩, prog_1_method_30_code, 2, (some .boolean))
def m_X10_isWithin : mD := (⟨"CreasedPaper", "isWithin", "(III)Z"⟩, prog_1_method_27_code, 3, (some .boolean))
def m_X10_layers : mD := (⟨"CreasedPaper", "layers", "(I)I"⟩, prog_1_method_7_code, 2, (some .int))
def m_X10_look : mD := (⟨"CreasedPaper", "look", "(I)Z"⟩, prog_1_method_21_code, 3, (some .boolean))
def m_X10_next : mD := (⟨"CreasedPaper", "next", "(II)I"⟩, prog_1_method_23_code, 3, (some .int))
def m_X10_open : mD := (⟨"CreasedPaper", "open", "()I"⟩, prog_1_method_5_code, 1, (some .int))
def m_X10_orders : mD := (⟨"CreasedPaper", "orders", "(IIII)I"⟩, prog_1_method_22_code, 5, (some .int))
def m_X10_rests : mD := (⟨"CreasedPaper", "rests", "(III)I"⟩, prog_1_method_16_code, 4, (some .int))
def m_X10_rules : mD := (⟨"CreasedPaper", "rules", "(IIII)Z"⟩, prog_1_method_2_code, 6, (some .boolean))
def m_X10_see : mD := (⟨"CreasedPaper", "see", "(II)I"⟩, prog_1_method_20_code, 3, (some .int))
def m_X10_sheet : mD := (⟨"CreasedPaper", "sheet", "(IIIII)I"⟩, prog_1_method_14_code, 7, (some .int))
def m_X10_snap : mD := (⟨"CreasedPaper", "snap", "(IIIII)I"⟩, prog_1_method_18_code, 7, (some .int))
def m_X10_stays : mD := (⟨"CreasedPaper", "stays", "(III)I"⟩, prog_1_method_17_code, 4, (some .int))
def m_X10_torque : mD := (⟨"CreasedPaper", "torque", "(II)I"⟩, prog_1_method_15_code, 3, (some .int))
def m_X10_ways : mD := (⟨"CreasedPaper", "ways", "(IIII)I"⟩, prog_1_method_19_code, 6, (some .int))
def m_X11_about : mD := (⟨"CreasedPaperModel", "about", "(I)I"⟩, prog_13_method_66_code, 2, (some .int))
def m_X11_abs : mD := (⟨"CreasedPaperModel", "abs", "(I)I"⟩, prog_13_method_4_code, 1, (some .int))
def m_X11_act : mD := (⟨"CreasedPaperModel", "act", "()I"⟩, prog_13_method_34_code, 5, (some .int))
def m_X11_again : mD := (⟨"CreasedPaperModel", "again", "()I"⟩, prog_13_method_32_code, 2, (some .int))
def m_X11_against : mD := (⟨"CreasedPaperModel", "against", "(IZ)I"⟩, prog_13_method_13_code, 9, (some .int))
def m_X11_at : mD := (⟨"CreasedPaperModel", "at", "(II)I"⟩, prog_13_method_8_code, 4, (some .int))
def m_X11_back : mD := (⟨"CreasedPaperModel", "back", "()I"⟩, prog_13_method_63_code, 1, (some .int))
def m_X11_byteAt : mD := (⟨"CreasedPaperModel", "byteAt", "(I)I"⟩, prog_13_method_23_code, 2, (some .int))
def m_X11_cell : mD := (⟨"CreasedPaperModel", "cell", "(II)I"⟩, prog_13_method_18_code, 3, (some .int))
def m_X11_close : mD := (⟨"CreasedPaperModel", "close", "()I"⟩, prog_13_method_31_code, 1, (some .int))
def m_X11_copy : mD := (⟨"CreasedPaperModel", "copy", "([I[I)V"⟩, prog_13_method_2_code, 3, none)
def m_X11_crease : mD := (⟨"CreasedPaperModel", "crease", "(II)I"⟩, prog_13_method_19_code, 3, (some .int))
def m_X11_creases : mD := (⟨"CreasedPaperModel", "creases", "(II)Z"⟩, prog_13_method_10_code, 5, (some .boolean))
def m_X11_doAll : mD := (⟨"CreasedPaperModel", "doAll", "()I"⟩, prog_13_method_38_code, 4, (some .int))
def m_X11_does : mD := (⟨"CreasedPaperModel", "does", "(I)Z"⟩, prog_13_method_37_code, 2, (some .boolean))
def m_X11_end : mD := (⟨"CreasedPaperModel", "end", "(I)I"⟩, prog_13_method_22_code, 2, (some .int))
def m_X11_fault : mD := (⟨"CreasedPaperModel", "fault", "(I)I"⟩, prog_13_method_40_code, 2, (some .int))
def m_X11_feed : mD := (⟨"CreasedPaperModel", "feed", "(IIIII)I"⟩, prog_13_method_21_code, 6, (some .int))
def m_X11_fits : mD := (⟨"CreasedPaperModel", "fits", "(IIII)Z"⟩, prog_13_method_58_code, 9, (some .boolean))
def m_X11_flatten : mD := (⟨"CreasedPaperModel", "flatten", "()V"⟩, prog_13_method_5_code, 2, none)
def m_X11_fold : mD := (⟨"CreasedPaperModel", "fold", "(IZ)I"⟩, prog_13_method_14_code, 10, (some .int))
def m_X11_foldAct : mD := (⟨"CreasedPaperModel", "foldAct", "()I"⟩, prog_13_method_33_code, 3, (some .int))
def m_X11_folds : mD := (⟨"CreasedPaperModel", "folds", "(IIZ)Z"⟩, prog_13_method_57_code, 7, (some .boolean))
def m_X11_four : mD := (⟨"CreasedPaperModel", "four", "(I)V"⟩, prog_13_method_20_code, 3, none)
def m_X11_hands : mD := (⟨"CreasedPaperModel", "hands", "()I"⟩, prog_13_method_39_code, 1, (some .int))
def m_X11_hasActs : mD := (⟨"CreasedPaperModel", "hasActs", "(I)Z"⟩, prog_13_method_36_code, 3, (some .boolean))
def m_X11_hold : mD := (⟨"CreasedPaperModel", "hold", "(I)I"⟩, prog_13_method_16_code, 2, (some .int))
def m_X11_image : mD := (⟨"CreasedPaperModel", "image", "()I"⟩, prog_13_method_62_code, 1, (some .int))
def m_X11_init : mD := (⟨"CreasedPaperModel", "<init>", "(I)V"⟩, prog_13_method_1_code, 3, none)
def m_X11_isDigit : mD := (⟨"CreasedPaperModel", "isDigit", "(I)Z"⟩, prog_13_method_25_code, 1, (some .boolean))
def m_X11_isFolded : mD := (⟨"CreasedPaperModel", "isFolded", "(I)Z"⟩, prog_13_method_11_code, 2, (some .boolean))
def m_X11_isIn : mD := (⟨"CreasedPaperModel", "isIn", "(III)Z"⟩, prog_13_method_3_code, 3, (some .boolean))
def m_X11_isLetter : mD := (⟨"CreasedPaperModel", "isLetter", "(I)Z"⟩, prog_13_method_24_code, 1, (some .boolean))
def m_X11_isPush : mD := (⟨"CreasedPaperModel", "isPush", "(I)Z"⟩, prog_13_method_46_code, 1, (some .boolean))
def m_X11_isSheet : mD := (⟨"CreasedPaperModel", "isSheet", "(I)Z"⟩, prog_13_method_42_code, 2, (some .boolean))
def m_X11_isWay : mD := (⟨"CreasedPaperModel", "isWay", "(II)Z"⟩, prog_13_method_51_code, 10, (some .boolean))
def m_X11_isWord : mD := (⟨"CreasedPaperModel", "isWord", "(J)Z"⟩, prog_13_method_29_code, 3, (some .boolean))
def m_X11_layers : mD := (⟨"CreasedPaperModel", "layers", "(I)I"⟩, prog_13_method_7_code, 4, (some .int))
def m_X11_look : mD := (⟨"CreasedPaperModel", "look", "(I)Z"⟩, prog_13_method_55_code, 2, (some .boolean))
def m_X11_lookAll : mD := (⟨"CreasedPaperModel", "lookAll", "()V"⟩, prog_13_method_56_code, 2, none)
def m_X11_manyPoints : mD := (⟨"CreasedPaperModel", "manyPoints", "(I)I"⟩, prog_13_method_64_code, 4, (some .int))
def m_X11_moves : mD := (⟨"CreasedPaperModel", "moves", "(IIZ)Z"⟩, prog_13_method_9_code, 3, (some .boolean))
def m_X11_nearest : mD := (⟨"CreasedPaperModel", "nearest", "(IIIII)I"⟩, prog_13_method_49_code, 7, (some .int))
def m_X11_next : mD := (⟨"CreasedPaperModel", "next", "(II)I"⟩, prog_13_method_61_code, 10, (some .int))
def m_X11_nextOrder : mD := (⟨"CreasedPaperModel", "nextOrder", "(I)Z"⟩, prog_13_method_52_code, 7, (some .boolean))
def m_X11_nextToken : mD := (⟨"CreasedPaperModel", "nextToken", "()V"⟩, prog_13_method_26_code, 2, none)
def m_X11_open : mD := (⟨"CreasedPaperModel", "open", "()I"⟩, prog_13_method_17_code, 1, (some .int))
def m_X11_orders : mD := (⟨"CreasedPaperModel", "orders", "(IIII)I"⟩, prog_13_method_60_code, 10, (some .int))
def m_X11_outmost : mD := (⟨"CreasedPaperModel", "outmost", "(Z)I"⟩, prog_13_method_65_code, 4, (some .int))
def m_X11_pass : mD := (⟨"CreasedPaperModel", "pass", "(I)V"⟩, prog_13_method_12_code, 5, none)
def m_X11_readText : mD := (⟨"CreasedPaperModel", "readText", "()I"⟩, prog_13_method_35_code, 2, (some .int))
def m_X11_rests : mD := (⟨"CreasedPaperModel", "rests", "(III)I"⟩, prog_13_method_47_code, 6, (some .int))
def m_X11_restsAt : mD := (⟨"CreasedPaperModel", "restsAt", "(IIIZ)Z"⟩, prog_13_method_45_code, 8, (some .boolean))
def m_X11_rowsOf : mD := (⟨"CreasedPaperModel", "rowsOf", "(II)I"⟩, prog_13_method_59_code, 4, (some .int))
def m_X11_rules : mD := (⟨"CreasedPaperModel", "rules", "(IIII)Z"⟩, prog_13_method_6_code, 5, (some .boolean))
def m_X11_see : mD := (⟨"CreasedPaperModel", "see", "(II)I"⟩, prog_13_method_54_code, 3, (some .int))
def m_X11_sheet : mD := (⟨"CreasedPaperModel", "sheet", "(IIIII)I"⟩, prog_13_method_41_code, 7, (some .int))
def m_X11_snap : mD := (⟨"CreasedPaperModel", "snap", "(IIIII)I"⟩, prog_13_method_50_code, 11, (some .int))
def m_X11_staying : mD := (⟨"CreasedPaperModel", "staying", "(IIZ)I"⟩, prog_13_method_15_code, 4, (some .int))
def m_X11_stays : mD := (⟨"CreasedPaperModel", "stays", "(III)I"⟩, prog_13_method_48_code, 4, (some .int))
def m_X11_take : mD := (⟨"CreasedPaperModel", "take", "(II)I"⟩, prog_13_method_30_code, 3, (some .int))
def m_X11_torque : mD := (⟨"CreasedPaperModel", "torque", "(II)I"⟩, prog_13_method_44_code, 3, (some .int))
def m_X11_torqueAt : mD := (⟨"CreasedPaperModel", "torqueAt", "(II)I"⟩, prog_13_method_43_code, 6, (some .int))
def m_X11_w4 : mD := (⟨"CreasedPaperModel", "w4", "(IIII)J"⟩, prog_13_method_27_code, 4, (some .long))
def m_X11_w5 : mD := (⟨"CreasedPaperModel", "w5", "(IIIII)J"⟩, prog_13_method_28_code, 5, (some .long))
def m_X11_ways : mD := (⟨"CreasedPaperModel", "ways", "(IIII)I"⟩, prog_13_method_53_code, 8, (some .int))
def m_X1_canLie : mD := (⟨"CreasedPaper$Panels", "canLie", "(II)Z"⟩, prog_3_method_6_code, 3, (some .boolean))
def m_X1_countWays : mD := (⟨"CreasedPaper$Panels", "countWays", "()I"⟩, prog_3_method_3_code, 1, (some .int))
def m_X1_findWay : mD := (⟨"CreasedPaper$Panels", "findWay", "(I)Z"⟩, prog_3_method_4_code, 2, (some .boolean))
def m_X1_fits : mD := (⟨"CreasedPaper$Panels", "fits", "(IIII)Z"⟩, prog_3_method_7_code, 8, (some .boolean))
def m_X1_init : mD := (⟨"CreasedPaper$Panels", "<init>", "()V"⟩, prog_3_method_1_code, 1, none)
def m_X1_isCrossed : mD := (⟨"CreasedPaper$Panels", "isCrossed", "(III)Z"⟩, prog_3_method_8_code, 7, (some .boolean))
def m_X1_pileFrom : mD := (⟨"CreasedPaper$Panels", "pileFrom", "(I)Z"⟩, prog_3_method_5_code, 3, (some .boolean))
def m_X1_take : mD := (⟨"CreasedPaper$Panels", "take", "(II)Z"⟩, prog_3_method_2_code, 5, (some .boolean))
def m_X2_copyFrom : mD := (⟨"CreasedPaper$Paper", "copyFrom", "(LCreasedPaper$Paper;)V"⟩, prog_4_method_2_code, 2, none)
def m_X2_creaseAlong : mD := (⟨"CreasedPaper$Paper", "creaseAlong", "(I)I"⟩, prog_4_method_7_code, 6, (some .int))
def m_X2_endAct : mD := (⟨"CreasedPaper$Paper", "endAct", "(I)V"⟩, prog_4_method_8_code, 3, none)
def m_X2_foldAt : mD := (⟨"CreasedPaper$Paper", "foldAt", "(IZ)I"⟩, prog_4_method_3_code, 4, (some .int))
def m_X2_holdFor : mD := (⟨"CreasedPaper$Paper", "holdFor", "(I)Z"⟩, prog_4_method_4_code, 2, (some .boolean))
def m_X2_init : mD := (⟨"CreasedPaper$Paper", "<init>", "(I)V"⟩, prog_4_method_1_code, 2, none)
def m_X2_isTornAlong : mD := (⟨"CreasedPaper$Paper", "isTornAlong", "(I)Z"⟩, prog_4_method_6_code, 3, (some .boolean))
def m_X2_openUp : mD := (⟨"CreasedPaper$Paper", "openUp", "()Z"⟩, prog_4_method_5_code, 1, (some .boolean))
def m_X3_bestPoint : mD := (⟨"CreasedPaper$Search", "bestPoint", "()I"⟩, prog_5_method_5_code, 6, (some .int))
def m_X3_countFitting : mD := (⟨"CreasedPaper$Search", "countFitting", "()I"⟩, prog_5_method_3_code, 1, (some .int))
def m_X3_countIfFitting : mD := (⟨"CreasedPaper$Search", "countIfFitting", "()Z"⟩, prog_5_method_8_code, 3, (some .boolean))
def m_X3_findFitting : mD := (⟨"CreasedPaper$Search", "findFitting", "(I)Z"⟩, prog_5_method_4_code, 2, (some .boolean))
def m_X3_goOn : mD := (⟨"CreasedPaper$Search", "goOn", "(I)Z"⟩, prog_5_method_6_code, 5, (some .boolean))
def m_X3_goOnBy : mD := (⟨"CreasedPaper$Search", "goOnBy", "(IIZ)Z"⟩, prog_5_method_7_code, 7, (some .boolean))
def m_X3_init : mD := (⟨"CreasedPaper$Search", "<init>", "()V"⟩, prog_5_method_1_code, 2, none)
def m_X3_take : mD := (⟨"CreasedPaper$Search", "take", "(IILCreasedPaper$Seen;)V"⟩, prog_5_method_2_code, 6, none)
def m_X4_copyFrom : mD := (⟨"CreasedPaper$Seen", "copyFrom", "(LCreasedPaper$Seen;)V"⟩, prog_6_method_2_code, 2, none)
def m_X4_init : mD := (⟨"CreasedPaper$Seen", "<init>", "()V"⟩, prog_6_method_1_code, 1, none)
def m_X4_signOf : mD := (⟨"CreasedPaper$Seen", "signOf", "(I)I"⟩, prog_6_method_4_code, 3, (some .int))
def m_X4_tell : mD := (⟨"CreasedPaper$Seen", "tell", "(II)I"⟩, prog_6_method_3_code, 3, (some .int))
def m_X5_countResting : mD := (⟨"CreasedPaper$Shapes", "countResting", "(I)I"⟩, prog_7_method_3_code, 4, (some .int))
def m_X5_followTo : mD := (⟨"CreasedPaper$Shapes", "followTo", "(I)V"⟩, prog_7_method_8_code, 3, none)
def m_X5_init : mD := (⟨"CreasedPaper$Shapes", "<init>", "()V"⟩, prog_7_method_1_code, 1, none)
def m_X5_isResting : mD := (⟨"CreasedPaper$Shapes", "isResting", "(II)Z"⟩, prog_7_method_7_code, 5, (some .boolean))
def m_X5_nearestThatStays : mD := (⟨"CreasedPaper$Shapes", "nearestThatStays", "(I)I"⟩, prog_7_method_9_code, 5, (some .int))
def m_X5_pushOn : mD := (⟨"CreasedPaper$Shapes", "pushOn", "(III)V"⟩, prog_7_method_6_code, 7, none)
def m_X5_restingAngle : mD := (⟨"CreasedPaper$Shapes", "restingAngle", "(II)I"⟩, prog_7_method_4_code, 5, (some .int))
def m_X5_restsAndStays : mD := (⟨"CreasedPaper$Shapes", "restsAndStays", "(II)Z"⟩, prog_7_method_5_code, 3, (some .boolean))
def m_X5_take : mD := (⟨"CreasedPaper$Shapes", "take", "(LCreasedPaper$Sheets;I)V"⟩, prog_7_method_2_code, 4, none)
def m_X6_addOne : mD := (⟨"CreasedPaper$Sheets", "addOne", "(IIIII)I"⟩, prog_8_method_4_code, 6, (some .int))
def m_X6_copyFrom : mD := (⟨"CreasedPaper$Sheets", "copyFrom", "(LCreasedPaper$Sheets;)V"⟩, prog_8_method_2_code, 2, none)
def m_X6_has : mD := (⟨"CreasedPaper$Sheets", "has", "(I)Z"⟩, prog_8_method_3_code, 2, (some .boolean))
def m_X6_init : mD := (⟨"CreasedPaper$Sheets", "<init>", "()V"⟩, prog_8_method_1_code, 1, none)
def m_X6_torqueOf : mD := (⟨"CreasedPaper$Sheets", "torqueOf", "(II)I"⟩, prog_8_method_5_code, 7, (some .int))
def m_X7_cellAt : mD := (⟨"CreasedPaper$Strip", "cellAt", "(II)I"⟩, prog_9_method_7_code, 4, (some .int))
def m_X7_copyFrom : mD := (⟨"CreasedPaper$Strip", "copyFrom", "(LCreasedPaper$Strip;)V"⟩, prog_9_method_3_code, 2, none)
def m_X7_countIn : mD := (⟨"CreasedPaper$Strip", "countIn", "(I)I"⟩, prog_9_method_6_code, 4, (some .int))
def m_X7_crosses : mD := (⟨"CreasedPaper$Strip", "crosses", "(II)Z"⟩, prog_9_method_10_code, 5, (some .boolean))
def m_X7_hasBothSides : mD := (⟨"CreasedPaper$Strip", "hasBothSides", "(I)Z"⟩, prog_9_method_9_code, 2, (some .boolean))
def m_X7_heightOf : mD := (⟨"CreasedPaper$Strip", "heightOf", "(I)I"⟩, prog_9_method_12_code, 3, (some .int))
def m_X7_highestPlace : mD := (⟨"CreasedPaper$Strip", "highestPlace", "()I"⟩, prog_9_method_5_code, 3, (some .int))
def m_X7_init : mD := (⟨"CreasedPaper$Strip", "<init>", "(I)V"⟩, prog_9_method_1_code, 2, none)
def m_X7_isFolded : mD := (⟨"CreasedPaper$Strip", "isFolded", "(I)Z"⟩, prog_9_method_8_code, 2, (some .boolean))
def m_X7_layFlat : mD := (⟨"CreasedPaper$Strip", "layFlat", "(I)V"⟩, prog_9_method_2_code, 3, none)
def m_X7_lowestPlace : mD := (⟨"CreasedPaper$Strip", "lowestPlace", "()I"⟩, prog_9_method_4_code, 3, (some .int))
def m_X7_tallestFolded : mD := (⟨"CreasedPaper$Strip", "tallestFolded", "(I)I"⟩, prog_9_method_13_code, 5, (some .int))
def m_X7_tally : mD := (⟨"CreasedPaper$Strip", "tally", "()V"⟩, prog_9_method_11_code, 3, none)
def m_X7_turnOver : mD := (⟨"CreasedPaper$Strip", "turnOver", "(IZ)V"⟩, prog_9_method_14_code, 6, none)
def m_X8_addWord : mD := (⟨"CreasedPaper$Tape", "addWord", "(I)V"⟩, prog_10_method_3_code, 3, none)
def m_X8_hasRoom : mD := (⟨"CreasedPaper$Tape", "hasRoom", "(I)Z"⟩, prog_10_method_2_code, 2, (some .boolean))
def m_X8_init : mD := (⟨"CreasedPaper$Tape", "<init>", "()V"⟩, prog_10_method_1_code, 1, none)
def m_X8_isBlank : mD := (⟨"CreasedPaper$Tape", "isBlank", "(I)Z"⟩, prog_10_method_10_code, 1, (some .boolean))
def m_X8_isDigit : mD := (⟨"CreasedPaper$Tape", "isDigit", "(I)Z"⟩, prog_10_method_12_code, 1, (some .boolean))
def m_X8_isLetter : mD := (⟨"CreasedPaper$Tape", "isLetter", "(I)Z"⟩, prog_10_method_11_code, 1, (some .boolean))
def m_X8_isSign : mD := (⟨"CreasedPaper$Tape", "isSign", "(C)Z"⟩, prog_10_method_6_code, 2, (some .boolean))
def m_X8_isSignByte : mD := (⟨"CreasedPaper$Tape", "isSignByte", "(I)Z"⟩, prog_10_method_13_code, 1, (some .boolean))
def m_X8_isWord : mD := (⟨"CreasedPaper$Tape", "isWord", "(Ljava/lang/String;)Z"⟩, prog_10_method_7_code, 3, (some .boolean))
def m_X8_readNumber : mD := (⟨"CreasedPaper$Tape", "readNumber", "()V"⟩, prog_10_method_9_code, 1, none)
def m_X8_readToken : mD := (⟨"CreasedPaper$Tape", "readToken", "()V"⟩, prog_10_method_5_code, 1, none)
def m_X8_readWord : mD := (⟨"CreasedPaper$Tape", "readWord", "()V"⟩, prog_10_method_8_code, 1, none)
def m_X8_rewind : mD := (⟨"CreasedPaper$Tape", "rewind", "()V"⟩, prog_10_method_4_code, 1, none)
def m_X9_closeAgain : mD := (⟨"CreasedPaper$Text", "closeAgain", "()V"⟩, prog_11_method_9_code, 1, none)
def m_X9_doAct : mD := (⟨"CreasedPaper$Text", "doAct", "(LCreasedPaper$Paper;I)Z"⟩, prog_11_method_15_code, 4, (some .boolean))
def m_X9_doAgain : mD := (⟨"CreasedPaper$Text", "doAgain", "(LCreasedPaper$Paper;II)Z"⟩, prog_11_method_13_code, 5, (some .boolean))
def m_X9_doRange : mD := (⟨"CreasedPaper$Text", "doRange", "(LCreasedPaper$Paper;III)Z"⟩, prog_11_method_12_code, 6, (some .boolean))
def m_X9_doneTo : mD := (⟨"CreasedPaper$Text", "doneTo", "(LCreasedPaper$Paper;)I"⟩, prog_11_method_11_code, 2, (some .int))
def m_X9_faultAt : mD := (⟨"CreasedPaper$Text", "faultAt", "(LCreasedPaper$Tape;I)Z"⟩, prog_11_method_10_code, 3, (some .boolean))
def m_X9_hasAct : mD := (⟨"CreasedPaper$Text", "hasAct", "(II)Z"⟩, prog_11_method_14_code, 4, (some .boolean))
def m_X9_init : mD := (⟨"CreasedPaper$Text", "<init>", "()V"⟩, prog_11_method_1_code, 1, none)
def m_X9_readDo : mD := (⟨"CreasedPaper$Text", "readDo", "(LCreasedPaper$Tape;)Z"⟩, prog_11_method_3_code, 3, (some .boolean))
def m_X9_readFrom : mD := (⟨"CreasedPaper$Text", "readFrom", "(LCreasedPaper$Tape;)Z"⟩, prog_11_method_2_code, 3, (some .boolean))
def m_X9_readNumber : mD := (⟨"CreasedPaper$Text", "readNumber", "(LCreasedPaper$Tape;II)Z"⟩, prog_11_method_5_code, 4, (some .boolean))
def m_X9_readOpening : mD := (⟨"CreasedPaper$Text", "readOpening", "(LCreasedPaper$Tape;)Z"⟩, prog_11_method_8_code, 2, (some .boolean))
def m_X9_readSide : mD := (⟨"CreasedPaper$Text", "readSide", "(LCreasedPaper$Tape;)Z"⟩, prog_11_method_6_code, 3, (some .boolean))
def m_X9_readStop : mD := (⟨"CreasedPaper$Text", "readStop", "(LCreasedPaper$Tape;)Z"⟩, prog_11_method_7_code, 2, (some .boolean))
def m_X9_verbOf : mD := (⟨"CreasedPaper$Text", "verbOf", "(LCreasedPaper$Tape;)I"⟩, prog_11_method_4_code, 1, (some .int))
def fL (own : String) (idx ci k : Nat) : Prop := ∃ (C : String) (T : u_T) (N : Nat) (ty : Nat → FieldType), CL[ci]? = some (C, T, N) ∧ (∀ w ∈ u_ws C T N, w ∈ TB) ∧ (∀ k, k < N → parseFieldDescriptor (T k).2.2.1 = some (ty k)) ∧ (∀ a, a < N → ∀ b, b < N → a ≠ b → (T a).2.1 ≠ (T b).2.1) ∧ k < N ∧ Cond.fieldLink own idx (T k).1 (T k).2.1 (T k).2.2.1 ∈ TB
theorem fl_X7_9 : fL "CreasedPaper$Strip" 9 7 0 := ⟨_, _, _, _, rfl, kw7, kp7, kn7, by decide, tb_at (w := .fieldLink "CreasedPaper$Strip" 9 "CreasedPaper$Strip" "place" "[I") 107 (by decide +kernel) (by decide +kernel)⟩
theorem fl_X10_126 : fL "CreasedPaper" 126 7 0 := ⟨_, _, _, _, rfl, kw7, kp7, kn7, by decide, tb_at (w := .fieldLink "CreasedPaper" 126 "CreasedPaper$Strip" "place" "[I") 108 (by decide +kernel) (by decide +kernel)⟩
theorem fl_X7_15 : fL "CreasedPaper$Strip" 15 7 1 := ⟨_, _, _, _, rfl, kw7, kp7, kn7, by decide, tb_at (w := .fieldLink "CreasedPaper$Strip" 15 "CreasedPaper$Strip" "layer" "[I") 109 (by decide +kernel) (by decide +kernel)⟩
theorem fl_X10_130 : fL "CreasedPaper" 130 7 1 := ⟨_, _, _, _, rfl, kw7, kp7, kn7, by decide, tb_at (w := .fieldLink "CreasedPaper" 130 "CreasedPaper$Strip" "layer" "[I") 110 (by decide +kernel) (by decide +kernel)⟩
theorem fl_X7_18 : fL "CreasedPaper$Strip" 18 7 2 := ⟨_, _, _, _, rfl, kw7, kp7, kn7, by decide, tb_at (w := .fieldLink "CreasedPaper$Strip" 18 "CreasedPaper$Strip" "up" "[Z") 111 (by decide +kernel) (by decide +kernel)⟩
theorem fl_X10_133 : fL "CreasedPaper" 133 7 2 := ⟨_, _, _, _, rfl, kw7, kp7, kn7, by decide, tb_at (w := .fieldLink "CreasedPaper" 133 "CreasedPaper$Strip" "up" "[Z") 112 (by decide +kernel) (by decide +kernel)⟩
theorem fl_X3_92 : fL "CreasedPaper$Search" 92 7 2 := ⟨_, _, _, _, rfl, kw7, kp7, kn7, by decide, tb_at (w := .fieldLink "CreasedPaper$Search" 92 "CreasedPaper$Strip" "up" "[Z") 113 (by decide +kernel) (by decide +kernel)⟩
theorem fl_X2_101 : fL "CreasedPaper$Paper" 101 7 2 := ⟨_, _, _, _, rfl, kw7, kp7, kn7, by decide, tb_at (w := .fieldLink "CreasedPaper$Paper" 101 "CreasedPaper$Strip" "up" "[Z") 114 (by decide +kernel) (by decide +kernel)⟩
theorem fl_X7_38 : fL "CreasedPaper$Strip" 38 7 3 := ⟨_, _, _, _, rfl, kw7, kp7, kn7, by decide, tb_at (w := .fieldLink "CreasedPaper$Strip" 38 "CreasedPaper$Strip" "size" "I") 115 (by decide +kernel) (by decide +kernel)⟩
theorem fl_X2_78 : fL "CreasedPaper$Paper" 78 7 3 := ⟨_, _, _, _, rfl, kw7, kp7, kn7, by decide, tb_at (w := .fieldLink "CreasedPaper$Paper" 78 "CreasedPaper$Strip" "size" "I") 116 (by decide +kernel) (by decide +kernel)⟩
theorem fl_X10_121 : fL "CreasedPaper" 121 7 3 := ⟨_, _, _, _, rfl, kw7, kp7, kn7, by decide, tb_at (w := .fieldLink "CreasedPaper" 121 "CreasedPaper$Strip" "size" "I") 117 (by decide +kernel) (by decide +kernel)⟩
theorem fl_X7_22 : fL "CreasedPaper$Strip" 22 7 4 := ⟨_, _, _, _, rfl, kw7, kp7, kn7, by decide, tb_at (w := .fieldLink "CreasedPaper$Strip" 22 "CreasedPaper$Strip" "heights" "[I") 118 (by decide +kernel) (by decide +kernel)⟩
theorem fl_X7_55 : fL "CreasedPaper$Strip" 55 7 5 := ⟨_, _, _, _, rfl, kw7, kp7, kn7, by decide, tb_at (w := .fieldLink "CreasedPaper$Strip" 55 "CreasedPaper$Strip" "tallied" "I") 119 (by decide +kernel) (by decide +kernel)⟩
theorem fl_X0_9 : fL "CreasedPaper$Creases" 9 0 0 := ⟨_, _, _, _, rfl, kw0, kp0, kn0, by decide, tb_at (w := .fieldLink "CreasedPaper$Creases" 9 "CreasedPaper$Creases" "sign" "[I") 141 (by decide +kernel) (by decide +kernel)⟩
theorem fl_X2_115 : fL "CreasedPaper$Paper" 115 0 0 := ⟨_, _, _, _, rfl, kw0, kp0, kn0, by decide, tb_at (w := .fieldLink "CreasedPaper$Paper" 115 "CreasedPaper$Creases" "sign" "[I") 142 (by decide +kernel) (by decide +kernel)⟩
theorem fl_X10_148 : fL "CreasedPaper" 148 0 0 := ⟨_, _, _, _, rfl, kw0, kp0, kn0, by decide, tb_at (w := .fieldLink "CreasedPaper" 148 "CreasedPaper$Creases" "sign" "[I") 143 (by decide +kernel) (by decide +kernel)⟩
theorem fl_X0_15 : fL "CreasedPaper$Creases" 15 0 1 := ⟨_, _, _, _, rfl, kw0, kp0, kn0, by decide, tb_at (w := .fieldLink "CreasedPaper$Creases" 15 "CreasedPaper$Creases" "rest" "[I") 144 (by decide +kernel) (by decide +kernel)⟩
theorem fl_X10_153 : fL "CreasedPaper" 153 0 1 := ⟨_, _, _, _, rfl, kw0, kp0, kn0, by decide, tb_at (w := .fieldLink "CreasedPaper" 153 "CreasedPaper$Creases" "rest" "[I") 145 (by decide +kernel) (by decide +kernel)⟩
theorem fl_X0_18 : fL "CreasedPaper$Creases" 18 0 2 := ⟨_, _, _, _, rfl, kw0, kp0, kn0, by decide, tb_at (w := .fieldLink "CreasedPaper$Creases" 18 "CreasedPaper$Creases" "wear" "[I") 146 (by decide +kernel) (by decide +kernel)⟩
theorem fl_X10_156 : fL "CreasedPaper" 156 0 2 := ⟨_, _, _, _, rfl, kw0, kp0, kn0, by decide, tb_at (w := .fieldLink "CreasedPaper" 156 "CreasedPaper$Creases" "wear" "[I") 147 (by decide +kernel) (by decide +kernel)⟩
theorem fl_X0_21 : fL "CreasedPaper$Creases" 21 0 3 := ⟨_, _, _, _, rfl, kw0, kp0, kn0, by decide, tb_at (w := .fieldLink "CreasedPaper$Creases" 21 "CreasedPaper$Creases" "tick" "[I") 148 (by decide +kernel) (by decide +kernel)⟩
theorem fl_X2_108 : fL "CreasedPaper$Paper" 108 0 3 := ⟨_, _, _, _, rfl, kw0, kp0, kn0, by decide, tb_at (w := .fieldLink "CreasedPaper$Paper" 108 "CreasedPaper$Creases" "tick" "[I") 149 (by decide +kernel) (by decide +kernel)⟩
theorem fl_X10_159 : fL "CreasedPaper" 159 0 3 := ⟨_, _, _, _, rfl, kw0, kp0, kn0, by decide, tb_at (w := .fieldLink "CreasedPaper" 159 "CreasedPaper$Creases" "tick" "[I") 150 (by decide +kernel) (by decide +kernel)⟩
theorem fl_X0_24 : fL "CreasedPaper$Creases" 24 0 4 := ⟨_, _, _, _, rfl, kw0, kp0, kn0, by decide, tb_at (w := .fieldLink "CreasedPaper$Creases" 24 "CreasedPaper$Creases" "act" "[I") 151 (by decide +kernel) (by decide +kernel)⟩
theorem fl_X2_112 : fL "CreasedPaper$Paper" 112 0 4 := ⟨_, _, _, _, rfl, kw0, kp0, kn0, by decide, tb_at (w := .fieldLink "CreasedPaper$Paper" 112 "CreasedPaper$Creases" "act" "[I") 152 (by decide +kernel) (by decide +kernel)⟩
theorem fl_X10_162 : fL "CreasedPaper" 162 0 4 := ⟨_, _, _, _, rfl, kw0, kp0, kn0, by decide, tb_at (w := .fieldLink "CreasedPaper" 162 "CreasedPaper$Creases" "act" "[I") 153 (by decide +kernel) (by decide +kernel)⟩
theorem fl_X0_27 : fL "CreasedPaper$Creases" 27 0 5 := ⟨_, _, _, _, rfl, kw0, kp0, kn0, by decide, tb_at (w := .fieldLink "CreasedPaper$Creases" 27 "CreasedPaper$Creases" "torn" "[Z") 154 (by decide +kernel) (by decide +kernel)⟩
theorem fl_X2_84 : fL "CreasedPaper$Paper" 84 0 5 := ⟨_, _, _, _, rfl, kw0, kp0, kn0, by decide, tb_at (w := .fieldLink "CreasedPaper$Paper" 84 "CreasedPaper$Creases" "torn" "[Z") 155 (by decide +kernel) (by decide +kernel)⟩
theorem fl_X10_165 : fL "CreasedPaper" 165 0 5 := ⟨_, _, _, _, rfl, kw0, kp0, kn0, by decide, tb_at (w := .fieldLink "CreasedPaper" 165 "CreasedPaper$Creases" "torn" "[Z") 156 (by decide +kernel) (by decide +kernel)⟩
theorem fl_X2_29 : fL "CreasedPaper$Paper" 29 2 0 := ⟨_, _, _, _, rfl, kw2, kp2, kn2, by decide, tb_at (w := .fieldLink "CreasedPaper$Paper" 29 "CreasedPaper$Paper" "strip" "LCreasedPaper$Strip;") 170 (by decide +kernel) (by decide +kernel)⟩
theorem fl_X10_117 : fL "CreasedPaper" 117 2 0 := ⟨_, _, _, _, rfl, kw2, kp2, kn2, by decide, tb_at (w := .fieldLink "CreasedPaper" 117 "CreasedPaper$Paper" "strip" "LCreasedPaper$Strip;") 171 (by decide +kernel) (by decide +kernel)⟩
theorem fl_X2_36 : fL "CreasedPaper$Paper" 36 2 1 := ⟨_, _, _, _, rfl, kw2, kp2, kn2, by decide, tb_at (w := .fieldLink "CreasedPaper$Paper" 36 "CreasedPaper$Paper" "creases" "LCreasedPaper$Creases;") 172 (by decide +kernel) (by decide +kernel)⟩
theorem fl_X10_144 : fL "CreasedPaper" 144 2 1 := ⟨_, _, _, _, rfl, kw2, kp2, kn2, by decide, tb_at (w := .fieldLink "CreasedPaper" 144 "CreasedPaper$Paper" "creases" "LCreasedPaper$Creases;") 173 (by decide +kernel) (by decide +kernel)⟩
theorem fl_X2_9 : fL "CreasedPaper$Paper" 9 2 2 := ⟨_, _, _, _, rfl, kw2, kp2, kn2, by decide, tb_at (w := .fieldLink "CreasedPaper$Paper" 9 "CreasedPaper$Paper" "creep" "I") 174 (by decide +kernel) (by decide +kernel)⟩
theorem fl_X10_89 : fL "CreasedPaper" 89 2 2 := ⟨_, _, _, _, rfl, kw2, kp2, kn2, by decide, tb_at (w := .fieldLink "CreasedPaper" 89 "CreasedPaper$Paper" "creep" "I") 175 (by decide +kernel) (by decide +kernel)⟩
theorem fl_X2_15 : fL "CreasedPaper$Paper" 15 2 3 := ⟨_, _, _, _, rfl, kw2, kp2, kn2, by decide, tb_at (w := .fieldLink "CreasedPaper$Paper" 15 "CreasedPaper$Paper" "ease" "I") 176 (by decide +kernel) (by decide +kernel)⟩
theorem fl_X10_93 : fL "CreasedPaper" 93 2 3 := ⟨_, _, _, _, rfl, kw2, kp2, kn2, by decide, tb_at (w := .fieldLink "CreasedPaper" 93 "CreasedPaper$Paper" "ease" "I") 177 (by decide +kernel) (by decide +kernel)⟩
theorem fl_X2_18 : fL "CreasedPaper$Paper" 18 2 4 := ⟨_, _, _, _, rfl, kw2, kp2, kn2, by decide, tb_at (w := .fieldLink "CreasedPaper$Paper" 18 "CreasedPaper$Paper" "strong" "I") 178 (by decide +kernel) (by decide +kernel)⟩
theorem fl_X10_96 : fL "CreasedPaper" 96 2 4 := ⟨_, _, _, _, rfl, kw2, kp2, kn2, by decide, tb_at (w := .fieldLink "CreasedPaper" 96 "CreasedPaper$Paper" "strong" "I") 179 (by decide +kernel) (by decide +kernel)⟩
theorem fl_X2_21 : fL "CreasedPaper$Paper" 21 2 5 := ⟨_, _, _, _, rfl, kw2, kp2, kn2, by decide, tb_at (w := .fieldLink "CreasedPaper$Paper" 21 "CreasedPaper$Paper" "thick" "I") 180 (by decide +kernel) (by decide +kernel)⟩
theorem fl_X10_99 : fL "CreasedPaper" 99 2 5 := ⟨_, _, _, _, rfl, kw2, kp2, kn2, by decide, tb_at (w := .fieldLink "CreasedPaper" 99 "CreasedPaper$Paper" "thick" "I") 181 (by decide +kernel) (by decide +kernel)⟩
theorem fl_X2_47 : fL "CreasedPaper$Paper" 47 2 6 := ⟨_, _, _, _, rfl, kw2, kp2, kn2, by decide, tb_at (w := .fieldLink "CreasedPaper$Paper" 47 "CreasedPaper$Paper" "clock" "I") 182 (by decide +kernel) (by decide +kernel)⟩
theorem fl_X10_110 : fL "CreasedPaper" 110 2 6 := ⟨_, _, _, _, rfl, kw2, kp2, kn2, by decide, tb_at (w := .fieldLink "CreasedPaper" 110 "CreasedPaper$Paper" "clock" "I") 183 (by decide +kernel) (by decide +kernel)⟩
theorem fl_X2_50 : fL "CreasedPaper$Paper" 50 2 7 := ⟨_, _, _, _, rfl, kw2, kp2, kn2, by decide, tb_at (w := .fieldLink "CreasedPaper$Paper" 50 "CreasedPaper$Paper" "acts" "I") 184 (by decide +kernel) (by decide +kernel)⟩
theorem fl_X10_297 : fL "CreasedPaper" 297 2 7 := ⟨_, _, _, _, rfl, kw2, kp2, kn2, by decide, tb_at (w := .fieldLink "CreasedPaper" 297 "CreasedPaper$Paper" "acts" "I") 185 (by decide +kernel) (by decide +kernel)⟩
theorem fl_X6_27 : fL "CreasedPaper$Sheets" 27 6 0 := ⟨_, _, _, _, rfl, kw6, kp6, kn6, by decide, tb_at (w := .fieldLink "CreasedPaper$Sheets" 27 "CreasedPaper$Sheets" "count" "I") 209 (by decide +kernel) (by decide +kernel)⟩
theorem fl_X10_306 : fL "CreasedPaper" 306 6 0 := ⟨_, _, _, _, rfl, kw6, kp6, kn6, by decide, tb_at (w := .fieldLink "CreasedPaper" 306 "CreasedPaper$Sheets" "count" "I") 210 (by decide +kernel) (by decide +kernel)⟩
theorem fl_X6_11 : fL "CreasedPaper$Sheets" 11 6 1 := ⟨_, _, _, _, rfl, kw6, kp6, kn6, by decide, tb_at (w := .fieldLink "CreasedPaper$Sheets" 11 "CreasedPaper$Sheets" "stiffness" "[I") 211 (by decide +kernel) (by decide +kernel)⟩
theorem fl_X6_15 : fL "CreasedPaper$Sheets" 15 6 2 := ⟨_, _, _, _, rfl, kw6, kp6, kn6, by decide, tb_at (w := .fieldLink "CreasedPaper$Sheets" 15 "CreasedPaper$Sheets" "restAngle" "[I") 212 (by decide +kernel) (by decide +kernel)⟩
theorem fl_X6_18 : fL "CreasedPaper$Sheets" 18 6 3 := ⟨_, _, _, _, rfl, kw6, kp6, kn6, by decide, tb_at (w := .fieldLink "CreasedPaper$Sheets" 18 "CreasedPaper$Sheets" "bending" "[I") 213 (by decide +kernel) (by decide +kernel)⟩
theorem fl_X6_21 : fL "CreasedPaper$Sheets" 21 6 4 := ⟨_, _, _, _, rfl, kw6, kp6, kn6, by decide, tb_at (w := .fieldLink "CreasedPaper$Sheets" 21 "CreasedPaper$Sheets" "firstZero" "[I") 214 (by decide +kernel) (by decide +kernel)⟩
theorem fl_X6_24 : fL "CreasedPaper$Sheets" 24 6 5 := ⟨_, _, _, _, rfl, kw6, kp6, kn6, by decide, tb_at (w := .fieldLink "CreasedPaper$Sheets" 24 "CreasedPaper$Sheets" "secondZero" "[I") 215 (by decide +kernel) (by decide +kernel)⟩
theorem fl_X4_18 : fL "CreasedPaper$Seen" 18 4 0 := ⟨_, _, _, _, rfl, kw4, kp4, kn4, by decide, tb_at (w := .fieldLink "CreasedPaper$Seen" 18 "CreasedPaper$Seen" "time" "I") 235 (by decide +kernel) (by decide +kernel)⟩
theorem fl_X10_263 : fL "CreasedPaper" 263 4 0 := ⟨_, _, _, _, rfl, kw4, kp4, kn4, by decide, tb_at (w := .fieldLink "CreasedPaper" 263 "CreasedPaper$Seen" "time" "I") 236 (by decide +kernel) (by decide +kernel)⟩
theorem fl_X4_22 : fL "CreasedPaper$Seen" 22 4 1 := ⟨_, _, _, _, rfl, kw4, kp4, kn4, by decide, tb_at (w := .fieldLink "CreasedPaper$Seen" 22 "CreasedPaper$Seen" "lookTime" "I") 237 (by decide +kernel) (by decide +kernel)⟩
theorem fl_X10_266 : fL "CreasedPaper" 266 4 1 := ⟨_, _, _, _, rfl, kw4, kp4, kn4, by decide, tb_at (w := .fieldLink "CreasedPaper" 266 "CreasedPaper$Seen" "lookTime" "I") 238 (by decide +kernel) (by decide +kernel)⟩
theorem fl_X4_11 : fL "CreasedPaper$Seen" 11 4 2 := ⟨_, _, _, _, rfl, kw4, kp4, kn4, by decide, tb_at (w := .fieldLink "CreasedPaper$Seen" 11 "CreasedPaper$Seen" "points" "[I") 239 (by decide +kernel) (by decide +kernel)⟩
theorem fl_X4_15 : fL "CreasedPaper$Seen" 15 4 3 := ⟨_, _, _, _, rfl, kw4, kp4, kn4, by decide, tb_at (w := .fieldLink "CreasedPaper$Seen" 15 "CreasedPaper$Seen" "signs" "[I") 240 (by decide +kernel) (by decide +kernel)⟩
theorem fl_X8_9 : fL "CreasedPaper$Tape" 9 8 0 := ⟨_, _, _, _, rfl, kw8, kp8, kn8, by decide, tb_at (w := .fieldLink "CreasedPaper$Tape" 9 "CreasedPaper$Tape" "bytes" "[I") 256 (by decide +kernel) (by decide +kernel)⟩
theorem fl_X8_13 : fL "CreasedPaper$Tape" 13 8 1 := ⟨_, _, _, _, rfl, kw8, kp8, kn8, by decide, tb_at (w := .fieldLink "CreasedPaper$Tape" 13 "CreasedPaper$Tape" "length" "I") 257 (by decide +kernel) (by decide +kernel)⟩
theorem fl_X10_177 : fL "CreasedPaper" 177 8 1 := ⟨_, _, _, _, rfl, kw8, kp8, kn8, by decide, tb_at (w := .fieldLink "CreasedPaper" 177 "CreasedPaper$Tape" "length" "I") 258 (by decide +kernel) (by decide +kernel)⟩
theorem fl_X9_59 : fL "CreasedPaper$Text" 59 8 2 := ⟨_, _, _, _, rfl, kw8, kp8, kn8, by decide, tb_at (w := .fieldLink "CreasedPaper$Text" 59 "CreasedPaper$Tape" "kind" "I") 259 (by decide +kernel) (by decide +kernel)⟩
theorem fl_X8_23 : fL "CreasedPaper$Tape" 23 8 2 := ⟨_, _, _, _, rfl, kw8, kp8, kn8, by decide, tb_at (w := .fieldLink "CreasedPaper$Tape" 23 "CreasedPaper$Tape" "kind" "I") 260 (by decide +kernel) (by decide +kernel)⟩
theorem fl_X9_81 : fL "CreasedPaper$Text" 81 8 3 := ⟨_, _, _, _, rfl, kw8, kp8, kn8, by decide, tb_at (w := .fieldLink "CreasedPaper$Text" 81 "CreasedPaper$Tape" "start" "I") 261 (by decide +kernel) (by decide +kernel)⟩
theorem fl_X8_17 : fL "CreasedPaper$Tape" 17 8 3 := ⟨_, _, _, _, rfl, kw8, kp8, kn8, by decide, tb_at (w := .fieldLink "CreasedPaper$Tape" 17 "CreasedPaper$Tape" "start" "I") 262 (by decide +kernel) (by decide +kernel)⟩
theorem fl_X8_20 : fL "CreasedPaper$Tape" 20 8 4 := ⟨_, _, _, _, rfl, kw8, kp8, kn8, by decide, tb_at (w := .fieldLink "CreasedPaper$Tape" 20 "CreasedPaper$Tape" "behind" "I") 263 (by decide +kernel) (by decide +kernel)⟩
theorem fl_X9_109 : fL "CreasedPaper$Text" 109 8 5 := ⟨_, _, _, _, rfl, kw8, kp8, kn8, by decide, tb_at (w := .fieldLink "CreasedPaper$Text" 109 "CreasedPaper$Tape" "value" "I") 264 (by decide +kernel) (by decide +kernel)⟩
theorem fl_X8_54 : fL "CreasedPaper$Tape" 54 8 5 := ⟨_, _, _, _, rfl, kw8, kp8, kn8, by decide, tb_at (w := .fieldLink "CreasedPaper$Tape" 54 "CreasedPaper$Tape" "value" "I") 265 (by decide +kernel) (by decide +kernel)⟩
theorem fl_X9_38 : fL "CreasedPaper$Text" 38 9 0 := ⟨_, _, _, _, rfl, kw9, kp9, kn9, by decide, tb_at (w := .fieldLink "CreasedPaper$Text" 38 "CreasedPaper$Text" "wasRead" "Z") 285 (by decide +kernel) (by decide +kernel)⟩
theorem fl_X10_188 : fL "CreasedPaper" 188 9 0 := ⟨_, _, _, _, rfl, kw9, kp9, kn9, by decide, tb_at (w := .fieldLink "CreasedPaper" 188 "CreasedPaper$Text" "wasRead" "Z") 286 (by decide +kernel) (by decide +kernel)⟩
theorem fl_X9_42 : fL "CreasedPaper$Text" 42 9 1 := ⟨_, _, _, _, rfl, kw9, kp9, kn9, by decide, tb_at (w := .fieldLink "CreasedPaper$Text" 42 "CreasedPaper$Text" "faultKind" "I") 287 (by decide +kernel) (by decide +kernel)⟩
theorem fl_X10_192 : fL "CreasedPaper" 192 9 1 := ⟨_, _, _, _, rfl, kw9, kp9, kn9, by decide, tb_at (w := .fieldLink "CreasedPaper" 192 "CreasedPaper$Text" "faultKind" "I") 288 (by decide +kernel) (by decide +kernel)⟩
theorem fl_X9_9 : fL "CreasedPaper$Text" 9 9 2 := ⟨_, _, _, _, rfl, kw9, kp9, kn9, by decide, tb_at (w := .fieldLink "CreasedPaper$Text" 9 "CreasedPaper$Text" "faultPlace" "I") 289 (by decide +kernel) (by decide +kernel)⟩
theorem fl_X10_195 : fL "CreasedPaper" 195 9 2 := ⟨_, _, _, _, rfl, kw9, kp9, kn9, by decide, tb_at (w := .fieldLink "CreasedPaper" 195 "CreasedPaper$Text" "faultPlace" "I") 290 (by decide +kernel) (by decide +kernel)⟩
theorem fl_X9_15 : fL "CreasedPaper$Text" 15 9 3 := ⟨_, _, _, _, rfl, kw9, kp9, kn9, by decide, tb_at (w := .fieldLink "CreasedPaper$Text" 15 "CreasedPaper$Text" "stoppedAt" "I") 291 (by decide +kernel) (by decide +kernel)⟩
theorem fl_X10_198 : fL "CreasedPaper" 198 9 3 := ⟨_, _, _, _, rfl, kw9, kp9, kn9, by decide, tb_at (w := .fieldLink "CreasedPaper" 198 "CreasedPaper$Text" "stoppedAt" "I") 292 (by decide +kernel) (by decide +kernel)⟩
theorem fl_X9_18 : fL "CreasedPaper$Text" 18 9 4 := ⟨_, _, _, _, rfl, kw9, kp9, kn9, by decide, tb_at (w := .fieldLink "CreasedPaper$Text" 18 "CreasedPaper$Text" "verb" "[I") 293 (by decide +kernel) (by decide +kernel)⟩
theorem fl_X9_22 : fL "CreasedPaper$Text" 22 9 5 := ⟨_, _, _, _, rfl, kw9, kp9, kn9, by decide, tb_at (w := .fieldLink "CreasedPaper$Text" 22 "CreasedPaper$Text" "number" "[I") 294 (by decide +kernel) (by decide +kernel)⟩
theorem fl_X9_25 : fL "CreasedPaper$Text" 25 9 6 := ⟨_, _, _, _, rfl, kw9, kp9, kn9, by decide, tb_at (w := .fieldLink "CreasedPaper$Text" 25 "CreasedPaper$Text" "toRight" "[Z") 295 (by decide +kernel) (by decide +kernel)⟩
theorem fl_X9_29 : fL "CreasedPaper$Text" 29 9 7 := ⟨_, _, _, _, rfl, kw9, kp9, kn9, by decide, tb_at (w := .fieldLink "CreasedPaper$Text" 29 "CreasedPaper$Text" "firstByte" "[I") 296 (by decide +kernel) (by decide +kernel)⟩
theorem fl_X9_32 : fL "CreasedPaper$Text" 32 9 8 := ⟨_, _, _, _, rfl, kw9, kp9, kn9, by decide, tb_at (w := .fieldLink "CreasedPaper$Text" 32 "CreasedPaper$Text" "behind" "[I") 297 (by decide +kernel) (by decide +kernel)⟩
theorem fl_X9_35 : fL "CreasedPaper$Text" 35 9 9 := ⟨_, _, _, _, rfl, kw9, kp9, kn9, by decide, tb_at (w := .fieldLink "CreasedPaper$Text" 35 "CreasedPaper$Text" "openAgains" "[I") 298 (by decide +kernel) (by decide +kernel)⟩
theorem fl_X9_45 : fL "CreasedPaper$Text" 45 9 10 := ⟨_, _, _, _, rfl, kw9, kp9, kn9, by decide, tb_at (w := .fieldLink "CreasedPaper$Text" 45 "CreasedPaper$Text" "dos" "I") 299 (by decide +kernel) (by decide +kernel)⟩
theorem fl_X9_48 : fL "CreasedPaper$Text" 48 9 11 := ⟨_, _, _, _, rfl, kw9, kp9, kn9, by decide, tb_at (w := .fieldLink "CreasedPaper$Text" 48 "CreasedPaper$Text" "depth" "I") 300 (by decide +kernel) (by decide +kernel)⟩
theorem fl_X9_116 : fL "CreasedPaper$Text" 116 9 12 := ⟨_, _, _, _, rfl, kw9, kp9, kn9, by decide, tb_at (w := .fieldLink "CreasedPaper$Text" 116 "CreasedPaper$Text" "actsDone" "I") 301 (by decide +kernel) (by decide +kernel)⟩
theorem fl_X5_25 : fL "CreasedPaper$Shapes" 25 5 0 := ⟨_, _, _, _, rfl, kw5, kp5, kn5, by decide, tb_at (w := .fieldLink "CreasedPaper$Shapes" 25 "CreasedPaper$Shapes" "angle" "I") 335 (by decide +kernel) (by decide +kernel)⟩
theorem fl_X10_239 : fL "CreasedPaper" 239 5 0 := ⟨_, _, _, _, rfl, kw5, kp5, kn5, by decide, tb_at (w := .fieldLink "CreasedPaper" 239 "CreasedPaper$Shapes" "angle" "I") 336 (by decide +kernel) (by decide +kernel)⟩
theorem fl_X5_29 : fL "CreasedPaper$Shapes" 29 5 1 := ⟨_, _, _, _, rfl, kw5, kp5, kn5, by decide, tb_at (w := .fieldLink "CreasedPaper$Shapes" 29 "CreasedPaper$Shapes" "snaps" "I") 337 (by decide +kernel) (by decide +kernel)⟩
theorem fl_X10_242 : fL "CreasedPaper" 242 5 1 := ⟨_, _, _, _, rfl, kw5, kp5, kn5, by decide, tb_at (w := .fieldLink "CreasedPaper" 242 "CreasedPaper$Shapes" "snaps" "I") 338 (by decide +kernel) (by decide +kernel)⟩
theorem fl_X5_33 : fL "CreasedPaper$Shapes" 33 5 2 := ⟨_, _, _, _, rfl, kw5, kp5, kn5, by decide, tb_at (w := .fieldLink "CreasedPaper$Shapes" 33 "CreasedPaper$Shapes" "firstPush" "I") 339 (by decide +kernel) (by decide +kernel)⟩
theorem fl_X10_245 : fL "CreasedPaper" 245 5 2 := ⟨_, _, _, _, rfl, kw5, kp5, kn5, by decide, tb_at (w := .fieldLink "CreasedPaper" 245 "CreasedPaper$Shapes" "firstPush" "I") 340 (by decide +kernel) (by decide +kernel)⟩
theorem fl_X5_11 : fL "CreasedPaper$Shapes" 11 5 3 := ⟨_, _, _, _, rfl, kw5, kp5, kn5, by decide, tb_at (w := .fieldLink "CreasedPaper$Shapes" 11 "CreasedPaper$Shapes" "torques" "[I") 341 (by decide +kernel) (by decide +kernel)⟩
theorem fl_X1_11 : fL "CreasedPaper$Panels" 11 1 0 := ⟨_, _, _, _, rfl, kw1, kp1, kn1, by decide, tb_at (w := .fieldLink "CreasedPaper$Panels" 11 "CreasedPaper$Panels" "panelIn" "[I") 357 (by decide +kernel) (by decide +kernel)⟩
theorem fl_X10_257 : fL "CreasedPaper" 257 1 0 := ⟨_, _, _, _, rfl, kw1, kp1, kn1, by decide, tb_at (w := .fieldLink "CreasedPaper" 257 "CreasedPaper$Panels" "panelIn" "[I") 358 (by decide +kernel) (by decide +kernel)⟩
theorem fl_X1_15 : fL "CreasedPaper$Panels" 15 1 1 := ⟨_, _, _, _, rfl, kw1, kp1, kn1, by decide, tb_at (w := .fieldLink "CreasedPaper$Panels" 15 "CreasedPaper$Panels" "layerOf" "[I") 359 (by decide +kernel) (by decide +kernel)⟩
theorem fl_X1_18 : fL "CreasedPaper$Panels" 18 1 2 := ⟨_, _, _, _, rfl, kw1, kp1, kn1, by decide, tb_at (w := .fieldLink "CreasedPaper$Panels" 18 "CreasedPaper$Panels" "signs" "[I") 360 (by decide +kernel) (by decide +kernel)⟩
theorem fl_X1_21 : fL "CreasedPaper$Panels" 21 1 3 := ⟨_, _, _, _, rfl, kw1, kp1, kn1, by decide, tb_at (w := .fieldLink "CreasedPaper$Panels" 21 "CreasedPaper$Panels" "count" "I") 361 (by decide +kernel) (by decide +kernel)⟩
theorem fl_X1_25 : fL "CreasedPaper$Panels" 25 1 4 := ⟨_, _, _, _, rfl, kw1, kp1, kn1, by decide, tb_at (w := .fieldLink "CreasedPaper$Panels" 25 "CreasedPaper$Panels" "wanted" "I") 362 (by decide +kernel) (by decide +kernel)⟩
theorem fl_X1_28 : fL "CreasedPaper$Panels" 28 1 5 := ⟨_, _, _, _, rfl, kw1, kp1, kn1, by decide, tb_at (w := .fieldLink "CreasedPaper$Panels" 28 "CreasedPaper$Panels" "found" "I") 363 (by decide +kernel) (by decide +kernel)⟩
theorem fl_X3_11 : fL "CreasedPaper$Search" 11 3 0 := ⟨_, _, _, _, rfl, kw3, kp3, kn3, by decide, tb_at (w := .fieldLink "CreasedPaper$Search" 11 "CreasedPaper$Search" "lines" "[I") 388 (by decide +kernel) (by decide +kernel)⟩
theorem fl_X10_281 : fL "CreasedPaper" 281 3 0 := ⟨_, _, _, _, rfl, kw3, kp3, kn3, by decide, tb_at (w := .fieldLink "CreasedPaper" 281 "CreasedPaper$Search" "lines" "[I") 389 (by decide +kernel) (by decide +kernel)⟩
theorem fl_X3_17 : fL "CreasedPaper$Search" 17 3 1 := ⟨_, _, _, _, rfl, kw3, kp3, kn3, by decide, tb_at (w := .fieldLink "CreasedPaper$Search" 17 "CreasedPaper$Search" "strips" "[LCreasedPaper$Strip;") 390 (by decide +kernel) (by decide +kernel)⟩
theorem fl_X3_23 : fL "CreasedPaper$Search" 23 3 2 := ⟨_, _, _, _, rfl, kw3, kp3, kn3, by decide, tb_at (w := .fieldLink "CreasedPaper$Search" 23 "CreasedPaper$Search" "signs" "[[I") 391 (by decide +kernel) (by decide +kernel)⟩
theorem fl_X3_26 : fL "CreasedPaper$Search" 26 3 3 := ⟨_, _, _, _, rfl, kw3, kp3, kn3, by decide, tb_at (w := .fieldLink "CreasedPaper$Search" 26 "CreasedPaper$Search" "told" "[I") 392 (by decide +kernel) (by decide +kernel)⟩
theorem fl_X3_29 : fL "CreasedPaper$Search" 29 3 4 := ⟨_, _, _, _, rfl, kw3, kp3, kn3, by decide, tb_at (w := .fieldLink "CreasedPaper$Search" 29 "CreasedPaper$Search" "tallies" "[[I") 393 (by decide +kernel) (by decide +kernel)⟩
theorem fl_X3_35 : fL "CreasedPaper$Search" 35 3 5 := ⟨_, _, _, _, rfl, kw3, kp3, kn3, by decide, tb_at (w := .fieldLink "CreasedPaper$Search" 35 "CreasedPaper$Search" "cells" "I") 394 (by decide +kernel) (by decide +kernel)⟩
theorem fl_X3_39 : fL "CreasedPaper$Search" 39 3 6 := ⟨_, _, _, _, rfl, kw3, kp3, kn3, by decide, tb_at (w := .fieldLink "CreasedPaper$Search" 39 "CreasedPaper$Search" "folds" "I") 395 (by decide +kernel) (by decide +kernel)⟩
theorem fl_X3_54 : fL "CreasedPaper$Search" 54 3 7 := ⟨_, _, _, _, rfl, kw3, kp3, kn3, by decide, tb_at (w := .fieldLink "CreasedPaper$Search" 54 "CreasedPaper$Search" "wanted" "I") 396 (by decide +kernel) (by decide +kernel)⟩
theorem fl_X3_42 : fL "CreasedPaper$Search" 42 3 8 := ⟨_, _, _, _, rfl, kw3, kp3, kn3, by decide, tb_at (w := .fieldLink "CreasedPaper$Search" 42 "CreasedPaper$Search" "found" "I") 397 (by decide +kernel) (by decide +kernel)⟩
theorem fl_X10_23 : fL "CreasedPaper" 23 10 0 := ⟨_, _, _, _, rfl, kw10, kp10, kn10, by decide, tb_at (w := .fieldLink "CreasedPaper" 23 "CreasedPaper" "paper" "LCreasedPaper$Paper;") 417 (by decide +kernel) (by decide +kernel)⟩
theorem fl_X10_27 : fL "CreasedPaper" 27 10 1 := ⟨_, _, _, _, rfl, kw10, kp10, kn10, by decide, tb_at (w := .fieldLink "CreasedPaper" 27 "CreasedPaper" "oldPaper" "LCreasedPaper$Paper;") 418 (by decide +kernel) (by decide +kernel)⟩
theorem fl_X10_33 : fL "CreasedPaper" 33 10 2 := ⟨_, _, _, _, rfl, kw10, kp10, kn10, by decide, tb_at (w := .fieldLink "CreasedPaper" 33 "CreasedPaper" "sheets" "LCreasedPaper$Sheets;") 419 (by decide +kernel) (by decide +kernel)⟩
theorem fl_X10_37 : fL "CreasedPaper" 37 10 3 := ⟨_, _, _, _, rfl, kw10, kp10, kn10, by decide, tb_at (w := .fieldLink "CreasedPaper" 37 "CreasedPaper" "oldSheets" "LCreasedPaper$Sheets;") 420 (by decide +kernel) (by decide +kernel)⟩
theorem fl_X10_43 : fL "CreasedPaper" 43 10 4 := ⟨_, _, _, _, rfl, kw10, kp10, kn10, by decide, tb_at (w := .fieldLink "CreasedPaper" 43 "CreasedPaper" "seen" "LCreasedPaper$Seen;") 421 (by decide +kernel) (by decide +kernel)⟩
theorem fl_X10_47 : fL "CreasedPaper" 47 10 5 := ⟨_, _, _, _, rfl, kw10, kp10, kn10, by decide, tb_at (w := .fieldLink "CreasedPaper" 47 "CreasedPaper" "oldSeen" "LCreasedPaper$Seen;") 422 (by decide +kernel) (by decide +kernel)⟩
theorem fl_X10_53 : fL "CreasedPaper" 53 10 6 := ⟨_, _, _, _, rfl, kw10, kp10, kn10, by decide, tb_at (w := .fieldLink "CreasedPaper" 53 "CreasedPaper" "tape" "LCreasedPaper$Tape;") 423 (by decide +kernel) (by decide +kernel)⟩
theorem fl_X10_60 : fL "CreasedPaper" 60 10 7 := ⟨_, _, _, _, rfl, kw10, kp10, kn10, by decide, tb_at (w := .fieldLink "CreasedPaper" 60 "CreasedPaper" "text" "LCreasedPaper$Text;") 424 (by decide +kernel) (by decide +kernel)⟩
theorem fl_X10_67 : fL "CreasedPaper" 67 10 8 := ⟨_, _, _, _, rfl, kw10, kp10, kn10, by decide, tb_at (w := .fieldLink "CreasedPaper" 67 "CreasedPaper" "shapes" "LCreasedPaper$Shapes;") 425 (by decide +kernel) (by decide +kernel)⟩
theorem fl_X10_74 : fL "CreasedPaper" 74 10 9 := ⟨_, _, _, _, rfl, kw10, kp10, kn10, by decide, tb_at (w := .fieldLink "CreasedPaper" 74 "CreasedPaper" "panels" "LCreasedPaper$Panels;") 426 (by decide +kernel) (by decide +kernel)⟩
theorem fl_X10_81 : fL "CreasedPaper" 81 10 10 := ⟨_, _, _, _, rfl, kw10, kp10, kn10, by decide, tb_at (w := .fieldLink "CreasedPaper" 81 "CreasedPaper" "search" "LCreasedPaper$Search;") 427 (by decide +kernel) (by decide +kernel)⟩
theorem fl_X11_71 : fL "CreasedPaperModel" 71 11 0 := ⟨_, _, _, _, rfl, kw11, kp11, kn11, by decide, tb_at (w := .fieldLink "CreasedPaperModel" 71 "CreasedPaperModel" "length" "I") 992 (by decide +kernel) (by decide +kernel)⟩
theorem fl_X11_7 : fL "CreasedPaperModel" 7 11 1 := ⟨_, _, _, _, rfl, kw11, kp11, kn11, by decide, tb_at (w := .fieldLink "CreasedPaperModel" 7 "CreasedPaperModel" "a" "[I") 993 (by decide +kernel) (by decide +kernel)⟩
theorem fl_X11_13 : fL "CreasedPaperModel" 13 11 2 := ⟨_, _, _, _, rfl, kw11, kp11, kn11, by decide, tb_at (w := .fieldLink "CreasedPaperModel" 13 "CreasedPaperModel" "image" "[I") 994 (by decide +kernel) (by decide +kernel)⟩
theorem fl_X11_16 : fL "CreasedPaperModel" 16 11 3 := ⟨_, _, _, _, rfl, kw11, kp11, kn11, by decide, tb_at (w := .fieldLink "CreasedPaperModel" 16 "CreasedPaperModel" "layered" "[I") 995 (by decide +kernel) (by decide +kernel)⟩
theorem fl_X11_19 : fL "CreasedPaperModel" 19 11 4 := ⟨_, _, _, _, rfl, kw11, kp11, kn11, by decide, tb_at (w := .fieldLink "CreasedPaperModel" 19 "CreasedPaperModel" "tape" "[I") 996 (by decide +kernel) (by decide +kernel)⟩
theorem fl_X11_114 : fL "CreasedPaperModel" 114 11 5 := ⟨_, _, _, _, rfl, kw11, kp11, kn11, by decide, tb_at (w := .fieldLink "CreasedPaperModel" 114 "CreasedPaperModel" "taped" "I") 997 (by decide +kernel) (by decide +kernel)⟩
theorem fl_X11_22 : fL "CreasedPaperModel" 22 11 6 := ⟨_, _, _, _, rfl, kw11, kp11, kn11, by decide, tb_at (w := .fieldLink "CreasedPaperModel" 22 "CreasedPaperModel" "fault" "I") 998 (by decide +kernel) (by decide +kernel)⟩
theorem fl_X11_26 : fL "CreasedPaperModel" 26 11 7 := ⟨_, _, _, _, rfl, kw11, kp11, kn11, by decide, tb_at (w := .fieldLink "CreasedPaperModel" 26 "CreasedPaperModel" "faultPlace" "I") 999 (by decide +kernel) (by decide +kernel)⟩
theorem fl_X11_29 : fL "CreasedPaperModel" 29 11 8 := ⟨_, _, _, _, rfl, kw11, kp11, kn11, by decide, tb_at (w := .fieldLink "CreasedPaperModel" 29 "CreasedPaperModel" "faultDo" "I") 1000 (by decide +kernel) (by decide +kernel)⟩
theorem fl_X11_120 : fL "CreasedPaperModel" 120 11 9 := ⟨_, _, _, _, rfl, kw11, kp11, kn11, by decide, tb_at (w := .fieldLink "CreasedPaperModel" 120 "CreasedPaperModel" "at" "I") 1001 (by decide +kernel) (by decide +kernel)⟩
theorem fl_X11_126 : fL "CreasedPaperModel" 126 11 10 := ⟨_, _, _, _, rfl, kw11, kp11, kn11, by decide, tb_at (w := .fieldLink "CreasedPaperModel" 126 "CreasedPaperModel" "place" "I") 1002 (by decide +kernel) (by decide +kernel)⟩
theorem fl_X11_129 : fL "CreasedPaperModel" 129 11 11 := ⟨_, _, _, _, rfl, kw11, kp11, kn11, by decide, tb_at (w := .fieldLink "CreasedPaperModel" 129 "CreasedPaperModel" "token" "I") 1003 (by decide +kernel) (by decide +kernel)⟩
theorem fl_X11_135 : fL "CreasedPaperModel" 135 11 12 := ⟨_, _, _, _, rfl, kw11, kp11, kn11, by decide, tb_at (w := .fieldLink "CreasedPaperModel" 135 "CreasedPaperModel" "number" "I") 1004 (by decide +kernel) (by decide +kernel)⟩
theorem fl_X11_141 : fL "CreasedPaperModel" 141 11 13 := ⟨_, _, _, _, rfl, kw11, kp11, kn11, by decide, tb_at (w := .fieldLink "CreasedPaperModel" 141 "CreasedPaperModel" "word" "J") 1005 (by decide +kernel) (by decide +kernel)⟩
theorem fl_X11_32 : fL "CreasedPaperModel" 32 11 14 := ⟨_, _, _, _, rfl, kw11, kp11, kn11, by decide, tb_at (w := .fieldLink "CreasedPaperModel" 32 "CreasedPaperModel" "sort" "[I") 1006 (by decide +kernel) (by decide +kernel)⟩
theorem fl_X11_35 : fL "CreasedPaperModel" 35 11 15 := ⟨_, _, _, _, rfl, kw11, kp11, kn11, by decide, tb_at (w := .fieldLink "CreasedPaperModel" 35 "CreasedPaperModel" "much" "[I") 1007 (by decide +kernel) (by decide +kernel)⟩
theorem fl_X11_38 : fL "CreasedPaperModel" 38 11 16 := ⟨_, _, _, _, rfl, kw11, kp11, kn11, by decide, tb_at (w := .fieldLink "CreasedPaperModel" 38 "CreasedPaperModel" "from" "[I") 1008 (by decide +kernel) (by decide +kernel)⟩
theorem fl_X11_41 : fL "CreasedPaperModel" 41 11 17 := ⟨_, _, _, _, rfl, kw11, kp11, kn11, by decide, tb_at (w := .fieldLink "CreasedPaperModel" 41 "CreasedPaperModel" "until" "[I") 1009 (by decide +kernel) (by decide +kernel)⟩
theorem fl_X11_152 : fL "CreasedPaperModel" 152 11 18 := ⟨_, _, _, _, rfl, kw11, kp11, kn11, by decide, tb_at (w := .fieldLink "CreasedPaperModel" 152 "CreasedPaperModel" "many" "I") 1010 (by decide +kernel) (by decide +kernel)⟩
theorem fl_X11_159 : fL "CreasedPaperModel" 159 11 19 := ⟨_, _, _, _, rfl, kw11, kp11, kn11, by decide, tb_at (w := .fieldLink "CreasedPaperModel" 159 "CreasedPaperModel" "opened" "I") 1011 (by decide +kernel) (by decide +kernel)⟩
theorem fl_X11_44 : fL "CreasedPaperModel" 44 11 20 := ⟨_, _, _, _, rfl, kw11, kp11, kn11, by decide, tb_at (w := .fieldLink "CreasedPaperModel" 44 "CreasedPaperModel" "open" "[I") 1012 (by decide +kernel) (by decide +kernel)⟩
theorem fl_X11_47 : fL "CreasedPaperModel" 47 11 21 := ⟨_, _, _, _, rfl, kw11, kp11, kn11, by decide, tb_at (w := .fieldLink "CreasedPaperModel" 47 "CreasedPaperModel" "turns" "[I") 1013 (by decide +kernel) (by decide +kernel)⟩
theorem fl_X11_50 : fL "CreasedPaperModel" 50 11 22 := ⟨_, _, _, _, rfl, kw11, kp11, kn11, by decide, tb_at (w := .fieldLink "CreasedPaperModel" 50 "CreasedPaperModel" "order" "[I") 1014 (by decide +kernel) (by decide +kernel)⟩
theorem fl_X11_53 : fL "CreasedPaperModel" 53 11 23 := ⟨_, _, _, _, rfl, kw11, kp11, kn11, by decide, tb_at (w := .fieldLink "CreasedPaperModel" 53 "CreasedPaperModel" "lies" "[I") 1015 (by decide +kernel) (by decide +kernel)⟩
theorem fl_X11_56 : fL "CreasedPaperModel" 56 11 24 := ⟨_, _, _, _, rfl, kw11, kp11, kn11, by decide, tb_at (w := .fieldLink "CreasedPaperModel" 56 "CreasedPaperModel" "spot" "[I") 1016 (by decide +kernel) (by decide +kernel)⟩
theorem fl_X11_59 : fL "CreasedPaperModel" 59 11 25 := ⟨_, _, _, _, rfl, kw11, kp11, kn11, by decide, tb_at (w := .fieldLink "CreasedPaperModel" 59 "CreasedPaperModel" "up" "[I") 1017 (by decide +kernel) (by decide +kernel)⟩
theorem fl_X11_62 : fL "CreasedPaperModel" 62 11 26 := ⟨_, _, _, _, rfl, kw11, kp11, kn11, by decide, tb_at (w := .fieldLink "CreasedPaperModel" 62 "CreasedPaperModel" "signs" "[I") 1018 (by decide +kernel) (by decide +kernel)⟩
theorem fl_X11_65 : fL "CreasedPaperModel" 65 11 27 := ⟨_, _, _, _, rfl, kw11, kp11, kn11, by decide, tb_at (w := .fieldLink "CreasedPaperModel" 65 "CreasedPaperModel" "wanted" "[I") 1019 (by decide +kernel) (by decide +kernel)⟩
theorem fl_X11_68 : fL "CreasedPaperModel" 68 11 28 := ⟨_, _, _, _, rfl, kw11, kp11, kn11, by decide, tb_at (w := .fieldLink "CreasedPaperModel" 68 "CreasedPaperModel" "counts" "[I") 1020 (by decide +kernel) (by decide +kernel)⟩
def cC (M : mD) (np : Nat) : Prop := Cond.code M.1 M.2.1 M.2.2.1 M.2.2.2 ∈ TB ∧ Cond.initialized M.1.cls ∈ TB ∧ (M.1.cls ≠ "java/lang/invoke/MethodHandle" ∧ M.1.cls ≠ "java/lang/invoke/VarHandle" ∧ (parseMethodDescriptor M.1.desc).map (fun d => d.parameters.length) = some np) ∧ M.2.2.1 ≤ 21
def cV (own : String) (idx : Nat) (M : mD) (np : Nat) : Prop := cC M np ∧ Cond.methodLink own idx M.1 ∈ TB ∧ Cond.instanceMethod M.1 ∈ TB ∧ Cond.selects M.1.cls M.1 M.1 ∈ TB
def cS (own : String) (idx : Nat) (M : mD) (np : Nat) : Prop := cC M np ∧ Cond.methodLink own idx M.1 ∈ TB ∧ Cond.static M.1 ∈ TB
def cI (own : String) (idx : Nat) (M : mD) (np : Nat) : Prop := cC M np ∧ Cond.methodLink own idx M.1 ∈ TB ∧ Cond.instanceMethod M.1 ∈ TB
def cN (own : String) (idx : Nat) (M : mD) (np : Nat) (host : String) : Prop := cC M np ∧ Cond.methodLinkNest own idx M.1 host ∈ lw_tbl ∧ Cond.instanceMethod M.1 ∈ TB
theorem cc_X10_init : cC m_X10_init 1 := ⟨tb_at (w := .code ⟨"CreasedPaper", "<init>", "(I)V"⟩ prog_1_method_1_code 3 none) 79 (by decide +kernel) (by decide +kernel), tb_at (w := .initialized "CreasedPaper") 57 (by decide +kernel) (by decide +kernel), by decide +kernel, by decide⟩
theorem ci_X10_init : Cond.instanceMethod m_X10_init.1 ∈ TB := tb_at (w := .instanceMethod ⟨"CreasedPaper", "<init>", "(I)V"⟩) 78 (by decide +kernel) (by decide +kernel)
theorem ml_L_15 : cI "CreasedPaperLaw" 15 m_X10_init 1 := ⟨cc_X10_init, tb_at (w := .methodLink "CreasedPaperLaw" 15 ⟨"CreasedPaper", "<init>", "(I)V"⟩) 77 (by decide +kernel) (by decide +kernel), ci_X10_init⟩
theorem cc_X2_init : cC m_X2_init 1 := ⟨tb_at (w := .code ⟨"CreasedPaper$Paper", "<init>", "(I)V"⟩ prog_4_method_1_code 2 none) 93 (by decide +kernel) (by decide +kernel), tb_at (w := .initialized "CreasedPaper$Paper") 59 (by decide +kernel) (by decide +kernel), by decide +kernel, by decide⟩
theorem ci_X2_init : Cond.instanceMethod m_X2_init.1 ∈ TB := tb_at (w := .instanceMethod ⟨"CreasedPaper$Paper", "<init>", "(I)V"⟩) 92 (by decide +kernel) (by decide +kernel)
theorem ml_X10_20 : cI "CreasedPaper" 20 m_X2_init 1 := ⟨cc_X2_init, tb_at (w := .methodLink "CreasedPaper" 20 ⟨"CreasedPaper$Paper", "<init>", "(I)V"⟩) 91 (by decide +kernel) (by decide +kernel), ci_X2_init⟩
theorem cc_X7_init : cC m_X7_init 1 := ⟨tb_at (w := .code ⟨"CreasedPaper$Strip", "<init>", "(I)V"⟩ prog_9_method_1_code 2 none) 99 (by decide +kernel) (by decide +kernel), tb_at (w := .initialized "CreasedPaper$Strip") 60 (by decide +kernel) (by decide +kernel), by decide +kernel, by decide⟩
theorem ci_X7_init : Cond.instanceMethod m_X7_init.1 ∈ TB := tb_at (w := .instanceMethod ⟨"CreasedPaper$Strip", "<init>", "(I)V"⟩) 98 (by decide +kernel) (by decide +kernel)
theorem ml_X2_26 : cI "CreasedPaper$Paper" 26 m_X7_init 1 := ⟨cc_X7_init, tb_at (w := .methodLink "CreasedPaper$Paper" 26 ⟨"CreasedPaper$Strip", "<init>", "(I)V"⟩) 97 (by decide +kernel) (by decide +kernel), ci_X7_init⟩
theorem cc_X7_layFlat : cC m_X7_layFlat 1 := ⟨tb_at (w := .code ⟨"CreasedPaper$Strip", "layFlat", "(I)V"⟩ prog_9_method_2_code 3 none) 104 (by decide +kernel) (by decide +kernel), tb_at (w := .initialized "CreasedPaper$Strip") 60 (by decide +kernel) (by decide +kernel), by decide +kernel, by decide⟩
theorem ci_X7_layFlat : Cond.instanceMethod m_X7_layFlat.1 ∈ TB := tb_at (w := .instanceMethod ⟨"CreasedPaper$Strip", "layFlat", "(I)V"⟩) 102 (by decide +kernel) (by decide +kernel)
theorem cs_X7_layFlat : Cond.selects m_X7_layFlat.1.cls m_X7_layFlat.1 m_X7_layFlat.1 ∈ TB := tb_at (w := .selects "CreasedPaper$Strip" ⟨"CreasedPaper$Strip", "layFlat", "(I)V"⟩ ⟨"CreasedPaper$Strip", "layFlat", "(I)V"⟩) 103 (by decide +kernel) (by decide +kernel)
theorem ml_X7_25 : cV "CreasedPaper$Strip" 25 m_X7_layFlat 1 := ⟨cc_X7_layFlat, tb_at (w := .methodLink "CreasedPaper$Strip" 25 ⟨"CreasedPaper$Strip", "layFlat", "(I)V"⟩) 101 (by decide +kernel) (by decide +kernel), ci_X7_layFlat, cs_X7_layFlat⟩
theorem cc_X0_init : cC m_X0_init 1 := ⟨tb_at (w := .code ⟨"CreasedPaper$Creases", "<init>", "(I)V"⟩ prog_2_method_1_code 3 none) 139 (by decide +kernel) (by decide +kernel), tb_at (w := .initialized "CreasedPaper$Creases") 61 (by decide +kernel) (by decide +kernel), by decide +kernel, by decide⟩
theorem ci_X0_init : Cond.instanceMethod m_X0_init.1 ∈ TB := tb_at (w := .instanceMethod ⟨"CreasedPaper$Creases", "<init>", "(I)V"⟩) 138 (by decide +kernel) (by decide +kernel)
theorem ml_X2_35 : cI "CreasedPaper$Paper" 35 m_X0_init 1 := ⟨cc_X0_init, tb_at (w := .methodLink "CreasedPaper$Paper" 35 ⟨"CreasedPaper$Creases", "<init>", "(I)V"⟩) 137 (by decide +kernel) (by decide +kernel), ci_X0_init⟩
theorem cc_X6_init : cC m_X6_init 0 := ⟨tb_at (w := .code ⟨"CreasedPaper$Sheets", "<init>", "()V"⟩ prog_8_method_1_code 1 none) 207 (by decide +kernel) (by decide +kernel), tb_at (w := .initialized "CreasedPaper$Sheets") 62 (by decide +kernel) (by decide +kernel), by decide +kernel, by decide⟩
theorem ci_X6_init : Cond.instanceMethod m_X6_init.1 ∈ TB := tb_at (w := .instanceMethod ⟨"CreasedPaper$Sheets", "<init>", "()V"⟩) 206 (by decide +kernel) (by decide +kernel)
theorem ml_X10_32 : cN "CreasedPaper" 32 m_X6_init 0 "CreasedPaper" := ⟨cc_X6_init, List.mem_of_getElem? (i := 205) (by decide +kernel), ci_X6_init⟩
theorem cc_X4_init : cC m_X4_init 0 := ⟨tb_at (w := .code ⟨"CreasedPaper$Seen", "<init>", "()V"⟩ prog_6_method_1_code 1 none) 233 (by decide +kernel) (by decide +kernel), tb_at (w := .initialized "CreasedPaper$Seen") 63 (by decide +kernel) (by decide +kernel), by decide +kernel, by decide⟩
theorem ci_X4_init : Cond.instanceMethod m_X4_init.1 ∈ TB := tb_at (w := .instanceMethod ⟨"CreasedPaper$Seen", "<init>", "()V"⟩) 232 (by decide +kernel) (by decide +kernel)
theorem ml_X10_42 : cN "CreasedPaper" 42 m_X4_init 0 "CreasedPaper" := ⟨cc_X4_init, List.mem_of_getElem? (i := 231) (by decide +kernel), ci_X4_init⟩
theorem cc_X8_init : cC m_X8_init 0 := ⟨tb_at (w := .code ⟨"CreasedPaper$Tape", "<init>", "()V"⟩ prog_10_method_1_code 1 none) 254 (by decide +kernel) (by decide +kernel), tb_at (w := .initialized "CreasedPaper$Tape") 64 (by decide +kernel) (by decide +kernel), by decide +kernel, by decide⟩
theorem ci_X8_init : Cond.instanceMethod m_X8_init.1 ∈ TB := tb_at (w := .instanceMethod ⟨"CreasedPaper$Tape", "<init>", "()V"⟩) 253 (by decide +kernel) (by decide +kernel)
theorem ml_X10_52 : cN "CreasedPaper" 52 m_X8_init 0 "CreasedPaper" := ⟨cc_X8_init, List.mem_of_getElem? (i := 252) (by decide +kernel), ci_X8_init⟩
theorem cc_X9_init : cC m_X9_init 0 := ⟨tb_at (w := .code ⟨"CreasedPaper$Text", "<init>", "()V"⟩ prog_11_method_1_code 1 none) 283 (by decide +kernel) (by decide +kernel), tb_at (w := .initialized "CreasedPaper$Text") 65 (by decide +kernel) (by decide +kernel), by decide +kernel, by decide⟩
theorem ci_X9_init : Cond.instanceMethod m_X9_init.1 ∈ TB := tb_at (w := .instanceMethod ⟨"CreasedPaper$Text", "<init>", "()V"⟩) 282 (by decide +kernel) (by decide +kernel)
theorem ml_X10_59 : cN "CreasedPaper" 59 m_X9_init 0 "CreasedPaper" := ⟨cc_X9_init, List.mem_of_getElem? (i := 281) (by decide +kernel), ci_X9_init⟩
theorem cc_X5_init : cC m_X5_init 0 := ⟨tb_at (w := .code ⟨"CreasedPaper$Shapes", "<init>", "()V"⟩ prog_7_method_1_code 1 none) 333 (by decide +kernel) (by decide +kernel), tb_at (w := .initialized "CreasedPaper$Shapes") 66 (by decide +kernel) (by decide +kernel), by decide +kernel, by decide⟩
theorem ci_X5_init : Cond.instanceMethod m_X5_init.1 ∈ TB := tb_at (w := .instanceMethod ⟨"CreasedPaper$Shapes", "<init>", "()V"⟩) 332 (by decide +kernel) (by decide +kernel)
theorem ml_X10_66 : cN "CreasedPaper" 66 m_X5_init 0 "CreasedPaper" := ⟨cc_X5_init, List.mem_of_getElem? (i := 331) (by decide +kernel), ci_X5_init⟩
theorem cc_X1_init : cC m_X1_init 0 := ⟨tb_at (w := .code ⟨"CreasedPaper$Panels", "<init>", "()V"⟩ prog_3_method_1_code 1 none) 355 (by decide +kernel) (by decide +kernel), tb_at (w := .initialized "CreasedPaper$Panels") 67 (by decide +kernel) (by decide +kernel), by decide +kernel, by decide⟩
theorem ci_X1_init : Cond.instanceMethod m_X1_init.1 ∈ TB := tb_at (w := .instanceMethod ⟨"CreasedPaper$Panels", "<init>", "()V"⟩) 354 (by decide +kernel) (by decide +kernel)
theorem ml_X10_73 : cN "CreasedPaper" 73 m_X1_init 0 "CreasedPaper" := ⟨cc_X1_init, List.mem_of_getElem? (i := 353) (by decide +kernel), ci_X1_init⟩
theorem cc_X3_init : cC m_X3_init 0 := ⟨tb_at (w := .code ⟨"CreasedPaper$Search", "<init>", "()V"⟩ prog_5_method_1_code 2 none) 381 (by decide +kernel) (by decide +kernel), tb_at (w := .initialized "CreasedPaper$Search") 68 (by decide +kernel) (by decide +kernel), by decide +kernel, by decide⟩
theorem ci_X3_init : Cond.instanceMethod m_X3_init.1 ∈ TB := tb_at (w := .instanceMethod ⟨"CreasedPaper$Search", "<init>", "()V"⟩) 380 (by decide +kernel) (by decide +kernel)
theorem ml_X10_80 : cI "CreasedPaper" 80 m_X3_init 0 := ⟨cc_X3_init, tb_at (w := .methodLink "CreasedPaper" 80 ⟨"CreasedPaper$Search", "<init>", "()V"⟩) 379 (by decide +kernel) (by decide +kernel), ci_X3_init⟩
theorem ml_X3_32 : cI "CreasedPaper$Search" 32 m_X7_init 1 := ⟨cc_X7_init, tb_at (w := .methodLink "CreasedPaper$Search" 32 ⟨"CreasedPaper$Strip", "<init>", "(I)V"⟩) 387 (by decide +kernel) (by decide +kernel), ci_X7_init⟩
theorem cc_X10_rules : cC m_X10_rules 4 := ⟨tb_at (w := .code ⟨"CreasedPaper", "rules", "(IIII)Z"⟩ prog_1_method_2_code 6 (some .boolean)) 454 (by decide +kernel) (by decide +kernel), tb_at (w := .initialized "CreasedPaper") 57 (by decide +kernel) (by decide +kernel), by decide +kernel, by decide⟩
theorem ci_X10_rules : Cond.instanceMethod m_X10_rules.1 ∈ TB := tb_at (w := .instanceMethod ⟨"CreasedPaper", "rules", "(IIII)Z"⟩) 452 (by decide +kernel) (by decide +kernel)
theorem cs_X10_rules : Cond.selects m_X10_rules.1.cls m_X10_rules.1 m_X10_rules.1 ∈ TB := tb_at (w := .selects "CreasedPaper" ⟨"CreasedPaper", "rules", "(IIII)Z"⟩ ⟨"CreasedPaper", "rules", "(IIII)Z"⟩) 453 (by decide +kernel) (by decide +kernel)
theorem ml_L_21 : cV "CreasedPaperLaw" 21 m_X10_rules 4 := ⟨cc_X10_rules, tb_at (w := .methodLink "CreasedPaperLaw" 21 ⟨"CreasedPaper", "rules", "(IIII)Z"⟩) 451 (by decide +kernel) (by decide +kernel), ci_X10_rules, cs_X10_rules⟩
theorem cc_X10_isWithin : cC m_X10_isWithin 3 := ⟨tb_at (w := .code ⟨"CreasedPaper", "isWithin", "(III)Z"⟩ prog_1_method_27_code 3 (some .boolean)) 457 (by decide +kernel) (by decide +kernel), tb_at (w := .initialized "CreasedPaper") 57 (by decide +kernel) (by decide +kernel), by decide +kernel, by decide⟩
theorem ci_X10_isWithin : Cond.static m_X10_isWithin.1 ∈ TB := tb_at (w := .static ⟨"CreasedPaper", "isWithin", "(III)Z"⟩) 456 (by decide +kernel) (by decide +kernel)
theorem ml_X10_85 : cS "CreasedPaper" 85 m_X10_isWithin 3 := ⟨cc_X10_isWithin, tb_at (w := .methodLink "CreasedPaper" 85 ⟨"CreasedPaper", "isWithin", "(III)Z"⟩) 455 (by decide +kernel) (by decide +kernel), ci_X10_isWithin⟩
theorem cc_X10_fold : cC m_X10_fold 2 := ⟨tb_at (w := .code ⟨"CreasedPaper", "fold", "(IZ)I"⟩ prog_1_method_3_code 3 (some .int)) 461 (by decide +kernel) (by decide +kernel), tb_at (w := .initialized "CreasedPaper") 57 (by decide +kernel) (by decide +kernel), by decide +kernel, by decide⟩
theorem ci_X10_fold : Cond.instanceMethod m_X10_fold.1 ∈ TB := tb_at (w := .instanceMethod ⟨"CreasedPaper", "fold", "(IZ)I"⟩) 459 (by decide +kernel) (by decide +kernel)
theorem cs_X10_fold : Cond.selects m_X10_fold.1.cls m_X10_fold.1 m_X10_fold.1 ∈ TB := tb_at (w := .selects "CreasedPaper" ⟨"CreasedPaper", "fold", "(IZ)I"⟩ ⟨"CreasedPaper", "fold", "(IZ)I"⟩) 460 (by decide +kernel) (by decide +kernel)
theorem ml_L_26 : cV "CreasedPaperLaw" 26 m_X10_fold 2 := ⟨cc_X10_fold, tb_at (w := .methodLink "CreasedPaperLaw" 26 ⟨"CreasedPaper", "fold", "(IZ)I"⟩) 458 (by decide +kernel) (by decide +kernel), ci_X10_fold, cs_X10_fold⟩
theorem cc_X2_foldAt : cC m_X2_foldAt 2 := ⟨tb_at (w := .code ⟨"CreasedPaper$Paper", "foldAt", "(IZ)I"⟩ prog_4_method_3_code 4 (some .int)) 465 (by decide +kernel) (by decide +kernel), tb_at (w := .initialized "CreasedPaper$Paper") 59 (by decide +kernel) (by decide +kernel), by decide +kernel, by decide⟩
theorem ci_X2_foldAt : Cond.instanceMethod m_X2_foldAt.1 ∈ TB := tb_at (w := .instanceMethod ⟨"CreasedPaper$Paper", "foldAt", "(IZ)I"⟩) 463 (by decide +kernel) (by decide +kernel)
theorem cs_X2_foldAt : Cond.selects m_X2_foldAt.1.cls m_X2_foldAt.1 m_X2_foldAt.1 ∈ TB := tb_at (w := .selects "CreasedPaper$Paper" ⟨"CreasedPaper$Paper", "foldAt", "(IZ)I"⟩ ⟨"CreasedPaper$Paper", "foldAt", "(IZ)I"⟩) 464 (by decide +kernel) (by decide +kernel)
theorem ml_X10_102 : cV "CreasedPaper" 102 m_X2_foldAt 2 := ⟨cc_X2_foldAt, tb_at (w := .methodLink "CreasedPaper" 102 ⟨"CreasedPaper$Paper", "foldAt", "(IZ)I"⟩) 462 (by decide +kernel) (by decide +kernel), ci_X2_foldAt, cs_X2_foldAt⟩
theorem cc_X7_hasBothSides : cC m_X7_hasBothSides 1 := ⟨tb_at (w := .code ⟨"CreasedPaper$Strip", "hasBothSides", "(I)Z"⟩ prog_9_method_9_code 2 (some .boolean)) 469 (by decide +kernel) (by decide +kernel), tb_at (w := .initialized "CreasedPaper$Strip") 60 (by decide +kernel) (by decide +kernel), by decide +kernel, by decide⟩
theorem ci_X7_hasBothSides : Cond.instanceMethod m_X7_hasBothSides.1 ∈ TB := tb_at (w := .instanceMethod ⟨"CreasedPaper$Strip", "hasBothSides", "(I)Z"⟩) 467 (by decide +kernel) (by decide +kernel)
theorem cs_X7_hasBothSides : Cond.selects m_X7_hasBothSides.1.cls m_X7_hasBothSides.1 m_X7_hasBothSides.1 ∈ TB := tb_at (w := .selects "CreasedPaper$Strip" ⟨"CreasedPaper$Strip", "hasBothSides", "(I)Z"⟩ ⟨"CreasedPaper$Strip", "hasBothSides", "(I)Z"⟩) 468 (by decide +kernel) (by decide +kernel)
theorem ml_X2_53 : cV "CreasedPaper$Paper" 53 m_X7_hasBothSides 1 := ⟨cc_X7_hasBothSides, tb_at (w := .methodLink "CreasedPaper$Paper" 53 ⟨"CreasedPaper$Strip", "hasBothSides", "(I)Z"⟩) 466 (by decide +kernel) (by decide +kernel), ci_X7_hasBothSides, cs_X7_hasBothSides⟩
theorem cc_X7_lowestPlace : cC m_X7_lowestPlace 0 := ⟨tb_at (w := .code ⟨"CreasedPaper$Strip", "lowestPlace", "()I"⟩ prog_9_method_4_code 3 (some .int)) 473 (by decide +kernel) (by decide +kernel), tb_at (w := .initialized "CreasedPaper$Strip") 60 (by decide +kernel) (by decide +kernel), by decide +kernel, by decide⟩
theorem ci_X7_lowestPlace : Cond.instanceMethod m_X7_lowestPlace.1 ∈ TB := tb_at (w := .instanceMethod ⟨"CreasedPaper$Strip", "lowestPlace", "()I"⟩) 471 (by decide +kernel) (by decide +kernel)
theorem cs_X7_lowestPlace : Cond.selects m_X7_lowestPlace.1.cls m_X7_lowestPlace.1 m_X7_lowestPlace.1 ∈ TB := tb_at (w := .selects "CreasedPaper$Strip" ⟨"CreasedPaper$Strip", "lowestPlace", "()I"⟩ ⟨"CreasedPaper$Strip", "lowestPlace", "()I"⟩) 472 (by decide +kernel) (by decide +kernel)
theorem ml_X7_48 : cV "CreasedPaper$Strip" 48 m_X7_lowestPlace 0 := ⟨cc_X7_lowestPlace, tb_at (w := .methodLink "CreasedPaper$Strip" 48 ⟨"CreasedPaper$Strip", "lowestPlace", "()I"⟩) 470 (by decide +kernel) (by decide +kernel), ci_X7_lowestPlace, cs_X7_lowestPlace⟩
theorem cc_X7_highestPlace : cC m_X7_highestPlace 0 := ⟨tb_at (w := .code ⟨"CreasedPaper$Strip", "highestPlace", "()I"⟩ prog_9_method_5_code 3 (some .int)) 477 (by decide +kernel) (by decide +kernel), tb_at (w := .initialized "CreasedPaper$Strip") 60 (by decide +kernel) (by decide +kernel), by decide +kernel, by decide⟩
theorem ci_X7_highestPlace : Cond.instanceMethod m_X7_highestPlace.1 ∈ TB := tb_at (w := .instanceMethod ⟨"CreasedPaper$Strip", "highestPlace", "()I"⟩) 475 (by decide +kernel) (by decide +kernel)
theorem cs_X7_highestPlace : Cond.selects m_X7_highestPlace.1.cls m_X7_highestPlace.1 m_X7_highestPlace.1 ∈ TB := tb_at (w := .selects "CreasedPaper$Strip" ⟨"CreasedPaper$Strip", "highestPlace", "()I"⟩ ⟨"CreasedPaper$Strip", "highestPlace", "()I"⟩) 476 (by decide +kernel) (by decide +kernel)
theorem ml_X7_52 : cV "CreasedPaper$Strip" 52 m_X7_highestPlace 0 := ⟨cc_X7_highestPlace, tb_at (w := .methodLink "CreasedPaper$Strip" 52 ⟨"CreasedPaper$Strip", "highestPlace", "()I"⟩) 474 (by decide +kernel) (by decide +kernel), ci_X7_highestPlace, cs_X7_highestPlace⟩
theorem cc_X7_tally : cC m_X7_tally 0 := ⟨tb_at (w := .code ⟨"CreasedPaper$Strip", "tally", "()V"⟩ prog_9_method_11_code 3 none) 481 (by decide +kernel) (by decide +kernel), tb_at (w := .initialized "CreasedPaper$Strip") 60 (by decide +kernel) (by decide +kernel), by decide +kernel, by decide⟩
theorem ci_X7_tally : Cond.instanceMethod m_X7_tally.1 ∈ TB := tb_at (w := .instanceMethod ⟨"CreasedPaper$Strip", "tally", "()V"⟩) 479 (by decide +kernel) (by decide +kernel)
theorem cs_X7_tally : Cond.selects m_X7_tally.1.cls m_X7_tally.1 m_X7_tally.1 ∈ TB := tb_at (w := .selects "CreasedPaper$Strip" ⟨"CreasedPaper$Strip", "tally", "()V"⟩ ⟨"CreasedPaper$Strip", "tally", "()V"⟩) 480 (by decide +kernel) (by decide +kernel)
theorem ml_X2_57 : cV "CreasedPaper$Paper" 57 m_X7_tally 0 := ⟨cc_X7_tally, tb_at (w := .methodLink "CreasedPaper$Paper" 57 ⟨"CreasedPaper$Strip", "tally", "()V"⟩) 478 (by decide +kernel) (by decide +kernel), ci_X7_tally, cs_X7_tally⟩
theorem cc_X7_tallestFolded : cC m_X7_tallestFolded 1 := ⟨tb_at (w := .code ⟨"CreasedPaper$Strip", "tallestFolded", "(I)I"⟩ prog_9_method_13_code 5 (some .int)) 485 (by decide +kernel) (by decide +kernel), tb_at (w := .initialized "CreasedPaper$Strip") 60 (by decide +kernel) (by decide +kernel), by decide +kernel, by decide⟩
theorem ci_X7_tallestFolded : Cond.instanceMethod m_X7_tallestFolded.1 ∈ TB := tb_at (w := .instanceMethod ⟨"CreasedPaper$Strip", "tallestFolded", "(I)I"⟩) 483 (by decide +kernel) (by decide +kernel)
theorem cs_X7_tallestFolded : Cond.selects m_X7_tallestFolded.1.cls m_X7_tallestFolded.1 m_X7_tallestFolded.1 ∈ TB := tb_at (w := .selects "CreasedPaper$Strip" ⟨"CreasedPaper$Strip", "tallestFolded", "(I)I"⟩ ⟨"CreasedPaper$Strip", "tallestFolded", "(I)I"⟩) 484 (by decide +kernel) (by decide +kernel)
theorem ml_X2_60 : cV "CreasedPaper$Paper" 60 m_X7_tallestFolded 1 := ⟨cc_X7_tallestFolded, tb_at (w := .methodLink "CreasedPaper$Paper" 60 ⟨"CreasedPaper$Strip", "tallestFolded", "(I)I"⟩) 482 (by decide +kernel) (by decide +kernel), ci_X7_tallestFolded, cs_X7_tallestFolded⟩
theorem cc_X7_heightOf : cC m_X7_heightOf 1 := ⟨tb_at (w := .code ⟨"CreasedPaper$Strip", "heightOf", "(I)I"⟩ prog_9_method_12_code 3 (some .int)) 489 (by decide +kernel) (by decide +kernel), tb_at (w := .initialized "CreasedPaper$Strip") 60 (by decide +kernel) (by decide +kernel), by decide +kernel, by decide⟩
theorem ci_X7_heightOf : Cond.instanceMethod m_X7_heightOf.1 ∈ TB := tb_at (w := .instanceMethod ⟨"CreasedPaper$Strip", "heightOf", "(I)I"⟩) 487 (by decide +kernel) (by decide +kernel)
theorem cs_X7_heightOf : Cond.selects m_X7_heightOf.1.cls m_X7_heightOf.1 m_X7_heightOf.1 ∈ TB := tb_at (w := .selects "CreasedPaper$Strip" ⟨"CreasedPaper$Strip", "heightOf", "(I)I"⟩ ⟨"CreasedPaper$Strip", "heightOf", "(I)I"⟩) 488 (by decide +kernel) (by decide +kernel)
theorem ml_X7_58 : cV "CreasedPaper$Strip" 58 m_X7_heightOf 1 := ⟨cc_X7_heightOf, tb_at (w := .methodLink "CreasedPaper$Strip" 58 ⟨"CreasedPaper$Strip", "heightOf", "(I)I"⟩) 486 (by decide +kernel) (by decide +kernel), ci_X7_heightOf, cs_X7_heightOf⟩
theorem cc_X2_isTornAlong : cC m_X2_isTornAlong 1 := ⟨tb_at (w := .code ⟨"CreasedPaper$Paper", "isTornAlong", "(I)Z"⟩ prog_4_method_6_code 3 (some .boolean)) 493 (by decide +kernel) (by decide +kernel), tb_at (w := .initialized "CreasedPaper$Paper") 59 (by decide +kernel) (by decide +kernel), by decide +kernel, by decide⟩
theorem ci_X2_isTornAlong : Cond.instanceMethod m_X2_isTornAlong.1 ∈ TB := tb_at (w := .instanceMethod ⟨"CreasedPaper$Paper", "isTornAlong", "(I)Z"⟩) 492 (by decide +kernel) (by decide +kernel)
theorem cs_X2_isTornAlong : Cond.selects m_X2_isTornAlong.1.cls m_X2_isTornAlong.1 m_X2_isTornAlong.1 ∈ TB := tb_at (w := .selects "CreasedPaper$Paper" ⟨"CreasedPaper$Paper", "isTornAlong", "(I)Z"⟩ ⟨"CreasedPaper$Paper", "isTornAlong", "(I)Z"⟩) 0 (by decide +kernel) (by decide +kernel)
theorem ml_X2_64 : cV "CreasedPaper$Paper" 64 m_X2_isTornAlong 1 := ⟨cc_X2_isTornAlong, tb_at (w := .methodLink "CreasedPaper$Paper" 64 ⟨"CreasedPaper$Paper", "isTornAlong", "(I)Z"⟩) 490 (by decide +kernel) (by decide +kernel), ci_X2_isTornAlong, cs_X2_isTornAlong⟩
theorem cc_X7_crosses : cC m_X7_crosses 2 := ⟨tb_at (w := .code ⟨"CreasedPaper$Strip", "crosses", "(II)Z"⟩ prog_9_method_10_code 5 (some .boolean)) 497 (by decide +kernel) (by decide +kernel), tb_at (w := .initialized "CreasedPaper$Strip") 60 (by decide +kernel) (by decide +kernel), by decide +kernel, by decide⟩
theorem ci_X7_crosses : Cond.instanceMethod m_X7_crosses.1 ∈ TB := tb_at (w := .instanceMethod ⟨"CreasedPaper$Strip", "crosses", "(II)Z"⟩) 495 (by decide +kernel) (by decide +kernel)
theorem cs_X7_crosses : Cond.selects m_X7_crosses.1.cls m_X7_crosses.1 m_X7_crosses.1 ∈ TB := tb_at (w := .selects "CreasedPaper$Strip" ⟨"CreasedPaper$Strip", "crosses", "(II)Z"⟩ ⟨"CreasedPaper$Strip", "crosses", "(II)Z"⟩) 496 (by decide +kernel) (by decide +kernel)
theorem ml_X2_88 : cV "CreasedPaper$Paper" 88 m_X7_crosses 2 := ⟨cc_X7_crosses, tb_at (w := .methodLink "CreasedPaper$Paper" 88 ⟨"CreasedPaper$Strip", "crosses", "(II)Z"⟩) 494 (by decide +kernel) (by decide +kernel), ci_X7_crosses, cs_X7_crosses⟩
theorem cc_X2_creaseAlong : cC m_X2_creaseAlong 1 := ⟨tb_at (w := .code ⟨"CreasedPaper$Paper", "creaseAlong", "(I)I"⟩ prog_4_method_7_code 6 (some .int)) 502 (by decide +kernel) (by decide +kernel), tb_at (w := .initialized "CreasedPaper$Paper") 59 (by decide +kernel) (by decide +kernel), by decide +kernel, by decide⟩
theorem ci_X2_creaseAlong : Cond.instanceMethod m_X2_creaseAlong.1 ∈ TB := tb_at (w := .instanceMethod ⟨"CreasedPaper$Paper", "creaseAlong", "(I)I"⟩) 501 (by decide +kernel) (by decide +kernel)
theorem cs_X2_creaseAlong : Cond.selects m_X2_creaseAlong.1.cls m_X2_creaseAlong.1 m_X2_creaseAlong.1 ∈ TB := tb_at (w := .selects "CreasedPaper$Paper" ⟨"CreasedPaper$Paper", "creaseAlong", "(I)I"⟩ ⟨"CreasedPaper$Paper", "creaseAlong", "(I)I"⟩) 1 (by decide +kernel) (by decide +kernel)
theorem ml_X2_68 : cV "CreasedPaper$Paper" 68 m_X2_creaseAlong 1 := ⟨cc_X2_creaseAlong, tb_at (w := .methodLink "CreasedPaper$Paper" 68 ⟨"CreasedPaper$Paper", "creaseAlong", "(I)I"⟩) 499 (by decide +kernel) (by decide +kernel), ci_X2_creaseAlong, cs_X2_creaseAlong⟩
theorem ml_X2_92 : cV "CreasedPaper$Paper" 92 m_X7_heightOf 1 := ⟨cc_X7_heightOf, tb_at (w := .methodLink "CreasedPaper$Paper" 92 ⟨"CreasedPaper$Strip", "heightOf", "(I)I"⟩) 503 (by decide +kernel) (by decide +kernel), ci_X7_heightOf, cs_X7_heightOf⟩
theorem cc_X0_press : cC m_X0_press 4 := ⟨tb_at (w := .code ⟨"CreasedPaper$Creases", "press", "(IIII)V"⟩ prog_2_method_3_code 5 none) 508 (by decide +kernel) (by decide +kernel), tb_at (w := .initialized "CreasedPaper$Creases") 61 (by decide +kernel) (by decide +kernel), by decide +kernel, by decide⟩
theorem ci_X0_press : Cond.instanceMethod m_X0_press.1 ∈ TB := tb_at (w := .instanceMethod ⟨"CreasedPaper$Creases", "press", "(IIII)V"⟩) 506 (by decide +kernel) (by decide +kernel)
theorem cs_X0_press : Cond.selects m_X0_press.1.cls m_X0_press.1 m_X0_press.1 ∈ TB := tb_at (w := .selects "CreasedPaper$Creases" ⟨"CreasedPaper$Creases", "press", "(IIII)V"⟩ ⟨"CreasedPaper$Creases", "press", "(IIII)V"⟩) 507 (by decide +kernel) (by decide +kernel)
theorem ml_X2_104 : cV "CreasedPaper$Paper" 104 m_X0_press 4 := ⟨cc_X0_press, tb_at (w := .methodLink "CreasedPaper$Paper" 104 ⟨"CreasedPaper$Creases", "press", "(IIII)V"⟩) 505 (by decide +kernel) (by decide +kernel), ci_X0_press, cs_X0_press⟩
theorem cc_X7_turnOver : cC m_X7_turnOver 2 := ⟨tb_at (w := .code ⟨"CreasedPaper$Strip", "turnOver", "(IZ)V"⟩ prog_9_method_14_code 6 none) 513 (by decide +kernel) (by decide +kernel), tb_at (w := .initialized "CreasedPaper$Strip") 60 (by decide +kernel) (by decide +kernel), by decide +kernel, by decide⟩
theorem ci_X7_turnOver : Cond.instanceMethod m_X7_turnOver.1 ∈ TB := tb_at (w := .instanceMethod ⟨"CreasedPaper$Strip", "turnOver", "(IZ)V"⟩) 511 (by decide +kernel) (by decide +kernel)
theorem cs_X7_turnOver : Cond.selects m_X7_turnOver.1.cls m_X7_turnOver.1 m_X7_turnOver.1 ∈ TB := tb_at (w := .selects "CreasedPaper$Strip" ⟨"CreasedPaper$Strip", "turnOver", "(IZ)V"⟩ ⟨"CreasedPaper$Strip", "turnOver", "(IZ)V"⟩) 512 (by decide +kernel) (by decide +kernel)
theorem ml_X2_71 : cV "CreasedPaper$Paper" 71 m_X7_turnOver 2 := ⟨cc_X7_turnOver, tb_at (w := .methodLink "CreasedPaper$Paper" 71 ⟨"CreasedPaper$Strip", "turnOver", "(IZ)V"⟩) 510 (by decide +kernel) (by decide +kernel), ci_X7_turnOver, cs_X7_turnOver⟩
theorem cc_X2_endAct : cC m_X2_endAct 1 := ⟨tb_at (w := .code ⟨"CreasedPaper$Paper", "endAct", "(I)V"⟩ prog_4_method_8_code 3 none) 517 (by decide +kernel) (by decide +kernel), tb_at (w := .initialized "CreasedPaper$Paper") 59 (by decide +kernel) (by decide +kernel), by decide +kernel, by decide⟩
theorem ci_X2_endAct : Cond.instanceMethod m_X2_endAct.1 ∈ TB := tb_at (w := .instanceMethod ⟨"CreasedPaper$Paper", "endAct", "(I)V"⟩) 516 (by decide +kernel) (by decide +kernel)
theorem cs_X2_endAct : Cond.selects m_X2_endAct.1.cls m_X2_endAct.1 m_X2_endAct.1 ∈ TB := tb_at (w := .selects "CreasedPaper$Paper" ⟨"CreasedPaper$Paper", "endAct", "(I)V"⟩ ⟨"CreasedPaper$Paper", "endAct", "(I)V"⟩) 2 (by decide +kernel) (by decide +kernel)
theorem ml_X2_75 : cV "CreasedPaper$Paper" 75 m_X2_endAct 1 := ⟨cc_X2_endAct, tb_at (w := .methodLink "CreasedPaper$Paper" 75 ⟨"CreasedPaper$Paper", "endAct", "(I)V"⟩) 514 (by decide +kernel) (by decide +kernel), ci_X2_endAct, cs_X2_endAct⟩
theorem cc_X7_isFolded : cC m_X7_isFolded 1 := ⟨tb_at (w := .code ⟨"CreasedPaper$Strip", "isFolded", "(I)Z"⟩ prog_9_method_8_code 2 (some .boolean)) 521 (by decide +kernel) (by decide +kernel), tb_at (w := .initialized "CreasedPaper$Strip") 60 (by decide +kernel) (by decide +kernel), by decide +kernel, by decide⟩
theorem ci_X7_isFolded : Cond.instanceMethod m_X7_isFolded.1 ∈ TB := tb_at (w := .instanceMethod ⟨"CreasedPaper$Strip", "isFolded", "(I)Z"⟩) 519 (by decide +kernel) (by decide +kernel)
theorem cs_X7_isFolded : Cond.selects m_X7_isFolded.1.cls m_X7_isFolded.1 m_X7_isFolded.1 ∈ TB := tb_at (w := .selects "CreasedPaper$Strip" ⟨"CreasedPaper$Strip", "isFolded", "(I)Z"⟩ ⟨"CreasedPaper$Strip", "isFolded", "(I)Z"⟩) 520 (by decide +kernel) (by decide +kernel)
theorem ml_X2_118 : cV "CreasedPaper$Paper" 118 m_X7_isFolded 1 := ⟨cc_X7_isFolded, tb_at (w := .methodLink "CreasedPaper$Paper" 118 ⟨"CreasedPaper$Strip", "isFolded", "(I)Z"⟩) 518 (by decide +kernel) (by decide +kernel), ci_X7_isFolded, cs_X7_isFolded⟩
theorem cc_X0_creep : cC m_X0_creep 3 := ⟨tb_at (w := .code ⟨"CreasedPaper$Creases", "creep", "(III)V"⟩ prog_2_method_4_code 6 none) 525 (by decide +kernel) (by decide +kernel), tb_at (w := .initialized "CreasedPaper$Creases") 61 (by decide +kernel) (by decide +kernel), by decide +kernel, by decide⟩
theorem ci_X0_creep : Cond.instanceMethod m_X0_creep.1 ∈ TB := tb_at (w := .instanceMethod ⟨"CreasedPaper$Creases", "creep", "(III)V"⟩) 523 (by decide +kernel) (by decide +kernel)
theorem cs_X0_creep : Cond.selects m_X0_creep.1.cls m_X0_creep.1 m_X0_creep.1 ∈ TB := tb_at (w := .selects "CreasedPaper$Creases" ⟨"CreasedPaper$Creases", "creep", "(III)V"⟩ ⟨"CreasedPaper$Creases", "creep", "(III)V"⟩) 524 (by decide +kernel) (by decide +kernel)
theorem ml_X2_121 : cV "CreasedPaper$Paper" 121 m_X0_creep 3 := ⟨cc_X0_creep, tb_at (w := .methodLink "CreasedPaper$Paper" 121 ⟨"CreasedPaper$Creases", "creep", "(III)V"⟩) 522 (by decide +kernel) (by decide +kernel), ci_X0_creep, cs_X0_creep⟩
theorem cc_X0_ease : cC m_X0_ease 3 := ⟨tb_at (w := .code ⟨"CreasedPaper$Creases", "ease", "(III)V"⟩ prog_2_method_5_code 6 none) 529 (by decide +kernel) (by decide +kernel), tb_at (w := .initialized "CreasedPaper$Creases") 61 (by decide +kernel) (by decide +kernel), by decide +kernel, by decide⟩
theorem ci_X0_ease : Cond.instanceMethod m_X0_ease.1 ∈ TB := tb_at (w := .instanceMethod ⟨"CreasedPaper$Creases", "ease", "(III)V"⟩) 527 (by decide +kernel) (by decide +kernel)
theorem cs_X0_ease : Cond.selects m_X0_ease.1.cls m_X0_ease.1 m_X0_ease.1 ∈ TB := tb_at (w := .selects "CreasedPaper$Creases" ⟨"CreasedPaper$Creases", "ease", "(III)V"⟩ ⟨"CreasedPaper$Creases", "ease", "(III)V"⟩) 528 (by decide +kernel) (by decide +kernel)
theorem ml_X2_124 : cV "CreasedPaper$Paper" 124 m_X0_ease 3 := ⟨cc_X0_ease, tb_at (w := .methodLink "CreasedPaper$Paper" 124 ⟨"CreasedPaper$Creases", "ease", "(III)V"⟩) 526 (by decide +kernel) (by decide +kernel), ci_X0_ease, cs_X0_ease⟩
theorem cc_X10_hold : cC m_X10_hold 1 := ⟨tb_at (w := .code ⟨"CreasedPaper", "hold", "(I)I"⟩ prog_1_method_4_code 2 (some .int)) 533 (by decide +kernel) (by decide +kernel), tb_at (w := .initialized "CreasedPaper") 57 (by decide +kernel) (by decide +kernel), by decide +kernel, by decide⟩
theorem ci_X10_hold : Cond.instanceMethod m_X10_hold.1 ∈ TB := tb_at (w := .instanceMethod ⟨"CreasedPaper", "hold", "(I)I"⟩) 531 (by decide +kernel) (by decide +kernel)
theorem cs_X10_hold : Cond.selects m_X10_hold.1.cls m_X10_hold.1 m_X10_hold.1 ∈ TB := tb_at (w := .selects "CreasedPaper" ⟨"CreasedPaper", "hold", "(I)I"⟩ ⟨"CreasedPaper", "hold", "(I)I"⟩) 532 (by decide +kernel) (by decide +kernel)
theorem ml_L_31 : cV "CreasedPaperLaw" 31 m_X10_hold 1 := ⟨cc_X10_hold, tb_at (w := .methodLink "CreasedPaperLaw" 31 ⟨"CreasedPaper", "hold", "(I)I"⟩) 530 (by decide +kernel) (by decide +kernel), ci_X10_hold, cs_X10_hold⟩
theorem cc_X2_holdFor : cC m_X2_holdFor 1 := ⟨tb_at (w := .code ⟨"CreasedPaper$Paper", "holdFor", "(I)Z"⟩ prog_4_method_4_code 2 (some .boolean)) 537 (by decide +kernel) (by decide +kernel), tb_at (w := .initialized "CreasedPaper$Paper") 59 (by decide +kernel) (by decide +kernel), by decide +kernel, by decide⟩
theorem ci_X2_holdFor : Cond.instanceMethod m_X2_holdFor.1 ∈ TB := tb_at (w := .instanceMethod ⟨"CreasedPaper$Paper", "holdFor", "(I)Z"⟩) 535 (by decide +kernel) (by decide +kernel)
theorem cs_X2_holdFor : Cond.selects m_X2_holdFor.1.cls m_X2_holdFor.1 m_X2_holdFor.1 ∈ TB := tb_at (w := .selects "CreasedPaper$Paper" ⟨"CreasedPaper$Paper", "holdFor", "(I)Z"⟩ ⟨"CreasedPaper$Paper", "holdFor", "(I)Z"⟩) 536 (by decide +kernel) (by decide +kernel)
theorem ml_X10_106 : cV "CreasedPaper" 106 m_X2_holdFor 1 := ⟨cc_X2_holdFor, tb_at (w := .methodLink "CreasedPaper" 106 ⟨"CreasedPaper$Paper", "holdFor", "(I)Z"⟩) 534 (by decide +kernel) (by decide +kernel), ci_X2_holdFor, cs_X2_holdFor⟩
theorem cc_X10_open : cC m_X10_open 0 := ⟨tb_at (w := .code ⟨"CreasedPaper", "open", "()I"⟩ prog_1_method_5_code 1 (some .int)) 541 (by decide +kernel) (by decide +kernel), tb_at (w := .initialized "CreasedPaper") 57 (by decide +kernel) (by decide +kernel), by decide +kernel, by decide⟩
theorem ci_X10_open : Cond.instanceMethod m_X10_open.1 ∈ TB := tb_at (w := .instanceMethod ⟨"CreasedPaper", "open", "()I"⟩) 539 (by decide +kernel) (by decide +kernel)
theorem cs_X10_open : Cond.selects m_X10_open.1.cls m_X10_open.1 m_X10_open.1 ∈ TB := tb_at (w := .selects "CreasedPaper" ⟨"CreasedPaper", "open", "()I"⟩ ⟨"CreasedPaper", "open", "()I"⟩) 540 (by decide +kernel) (by decide +kernel)
theorem ml_L_36 : cV "CreasedPaperLaw" 36 m_X10_open 0 := ⟨cc_X10_open, tb_at (w := .methodLink "CreasedPaperLaw" 36 ⟨"CreasedPaper", "open", "()I"⟩) 538 (by decide +kernel) (by decide +kernel), ci_X10_open, cs_X10_open⟩
theorem cc_X2_openUp : cC m_X2_openUp 0 := ⟨tb_at (w := .code ⟨"CreasedPaper$Paper", "openUp", "()Z"⟩ prog_4_method_5_code 1 (some .boolean)) 545 (by decide +kernel) (by decide +kernel), tb_at (w := .initialized "CreasedPaper$Paper") 59 (by decide +kernel) (by decide +kernel), by decide +kernel, by decide⟩
theorem ci_X2_openUp : Cond.instanceMethod m_X2_openUp.1 ∈ TB := tb_at (w := .instanceMethod ⟨"CreasedPaper$Paper", "openUp", "()Z"⟩) 543 (by decide +kernel) (by decide +kernel)
theorem cs_X2_openUp : Cond.selects m_X2_openUp.1.cls m_X2_openUp.1 m_X2_openUp.1 ∈ TB := tb_at (w := .selects "CreasedPaper$Paper" ⟨"CreasedPaper$Paper", "openUp", "()Z"⟩ ⟨"CreasedPaper$Paper", "openUp", "()Z"⟩) 544 (by decide +kernel) (by decide +kernel)
theorem ml_X10_113 : cV "CreasedPaper" 113 m_X2_openUp 0 := ⟨cc_X2_openUp, tb_at (w := .methodLink "CreasedPaper" 113 ⟨"CreasedPaper$Paper", "openUp", "()Z"⟩) 542 (by decide +kernel) (by decide +kernel), ci_X2_openUp, cs_X2_openUp⟩
theorem ml_X2_81 : cV "CreasedPaper$Paper" 81 m_X7_layFlat 1 := ⟨cc_X7_layFlat, tb_at (w := .methodLink "CreasedPaper$Paper" 81 ⟨"CreasedPaper$Strip", "layFlat", "(I)V"⟩) 546 (by decide +kernel) (by decide +kernel), ci_X7_layFlat, cs_X7_layFlat⟩
theorem cc_X10_cell : cC m_X10_cell 2 := ⟨tb_at (w := .code ⟨"CreasedPaper", "cell", "(II)I"⟩ prog_1_method_6_code 4 (some .int)) 550 (by decide +kernel) (by decide +kernel), tb_at (w := .initialized "CreasedPaper") 57 (by decide +kernel) (by decide +kernel), by decide +kernel, by decide⟩
theorem ci_X10_cell : Cond.instanceMethod m_X10_cell.1 ∈ TB := tb_at (w := .instanceMethod ⟨"CreasedPaper", "cell", "(II)I"⟩) 548 (by decide +kernel) (by decide +kernel)
theorem cs_X10_cell : Cond.selects m_X10_cell.1.cls m_X10_cell.1 m_X10_cell.1 ∈ TB := tb_at (w := .selects "CreasedPaper" ⟨"CreasedPaper", "cell", "(II)I"⟩ ⟨"CreasedPaper", "cell", "(II)I"⟩) 549 (by decide +kernel) (by decide +kernel)
theorem ml_L_41 : cV "CreasedPaperLaw" 41 m_X10_cell 2 := ⟨cc_X10_cell, tb_at (w := .methodLink "CreasedPaperLaw" 41 ⟨"CreasedPaper", "cell", "(II)I"⟩) 547 (by decide +kernel) (by decide +kernel), ci_X10_cell, cs_X10_cell⟩
theorem cc_X10_layers : cC m_X10_layers 1 := ⟨tb_at (w := .code ⟨"CreasedPaper", "layers", "(I)I"⟩ prog_1_method_7_code 2 (some .int)) 554 (by decide +kernel) (by decide +kernel), tb_at (w := .initialized "CreasedPaper") 57 (by decide +kernel) (by decide +kernel), by decide +kernel, by decide⟩
theorem ci_X10_layers : Cond.instanceMethod m_X10_layers.1 ∈ TB := tb_at (w := .instanceMethod ⟨"CreasedPaper", "layers", "(I)I"⟩) 552 (by decide +kernel) (by decide +kernel)
theorem cs_X10_layers : Cond.selects m_X10_layers.1.cls m_X10_layers.1 m_X10_layers.1 ∈ TB := tb_at (w := .selects "CreasedPaper" ⟨"CreasedPaper", "layers", "(I)I"⟩ ⟨"CreasedPaper", "layers", "(I)I"⟩) 553 (by decide +kernel) (by decide +kernel)
theorem ml_L_45 : cV "CreasedPaperLaw" 45 m_X10_layers 1 := ⟨cc_X10_layers, tb_at (w := .methodLink "CreasedPaperLaw" 45 ⟨"CreasedPaper", "layers", "(I)I"⟩) 551 (by decide +kernel) (by decide +kernel), ci_X10_layers, cs_X10_layers⟩
theorem cc_X7_countIn : cC m_X7_countIn 1 := ⟨tb_at (w := .code ⟨"CreasedPaper$Strip", "countIn", "(I)I"⟩ prog_9_method_6_code 4 (some .int)) 558 (by decide +kernel) (by decide +kernel), tb_at (w := .initialized "CreasedPaper$Strip") 60 (by decide +kernel) (by decide +kernel), by decide +kernel, by decide⟩
theorem ci_X7_countIn : Cond.instanceMethod m_X7_countIn.1 ∈ TB := tb_at (w := .instanceMethod ⟨"CreasedPaper$Strip", "countIn", "(I)I"⟩) 556 (by decide +kernel) (by decide +kernel)
theorem cs_X7_countIn : Cond.selects m_X7_countIn.1.cls m_X7_countIn.1 m_X7_countIn.1 ∈ TB := tb_at (w := .selects "CreasedPaper$Strip" ⟨"CreasedPaper$Strip", "countIn", "(I)I"⟩ ⟨"CreasedPaper$Strip", "countIn", "(I)I"⟩) 557 (by decide +kernel) (by decide +kernel)
theorem ml_X10_137 : cV "CreasedPaper" 137 m_X7_countIn 1 := ⟨cc_X7_countIn, tb_at (w := .methodLink "CreasedPaper" 137 ⟨"CreasedPaper$Strip", "countIn", "(I)I"⟩) 555 (by decide +kernel) (by decide +kernel), ci_X7_countIn, cs_X7_countIn⟩
theorem cc_X10_at : cC m_X10_at 2 := ⟨tb_at (w := .code ⟨"CreasedPaper", "at", "(II)I"⟩ prog_1_method_8_code 3 (some .int)) 562 (by decide +kernel) (by decide +kernel), tb_at (w := .initialized "CreasedPaper") 57 (by decide +kernel) (by decide +kernel), by decide +kernel, by decide⟩
theorem ci_X10_at : Cond.instanceMethod m_X10_at.1 ∈ TB := tb_at (w := .instanceMethod ⟨"CreasedPaper", "at", "(II)I"⟩) 560 (by decide +kernel) (by decide +kernel)
theorem cs_X10_at : Cond.selects m_X10_at.1.cls m_X10_at.1 m_X10_at.1 ∈ TB := tb_at (w := .selects "CreasedPaper" ⟨"CreasedPaper", "at", "(II)I"⟩ ⟨"CreasedPaper", "at", "(II)I"⟩) 561 (by decide +kernel) (by decide +kernel)
theorem ml_L_49 : cV "CreasedPaperLaw" 49 m_X10_at 2 := ⟨cc_X10_at, tb_at (w := .methodLink "CreasedPaperLaw" 49 ⟨"CreasedPaper", "at", "(II)I"⟩) 559 (by decide +kernel) (by decide +kernel), ci_X10_at, cs_X10_at⟩
theorem cc_X7_cellAt : cC m_X7_cellAt 2 := ⟨tb_at (w := .code ⟨"CreasedPaper$Strip", "cellAt", "(II)I"⟩ prog_9_method_7_code 4 (some .int)) 566 (by decide +kernel) (by decide +kernel), tb_at (w := .initialized "CreasedPaper$Strip") 60 (by decide +kernel) (by decide +kernel), by decide +kernel, by decide⟩
theorem ci_X7_cellAt : Cond.instanceMethod m_X7_cellAt.1 ∈ TB := tb_at (w := .instanceMethod ⟨"CreasedPaper$Strip", "cellAt", "(II)I"⟩) 564 (by decide +kernel) (by decide +kernel)
theorem cs_X7_cellAt : Cond.selects m_X7_cellAt.1.cls m_X7_cellAt.1 m_X7_cellAt.1 ∈ TB := tb_at (w := .selects "CreasedPaper$Strip" ⟨"CreasedPaper$Strip", "cellAt", "(II)I"⟩ ⟨"CreasedPaper$Strip", "cellAt", "(II)I"⟩) 565 (by decide +kernel) (by decide +kernel)
theorem ml_X10_141 : cV "CreasedPaper" 141 m_X7_cellAt 2 := ⟨cc_X7_cellAt, tb_at (w := .methodLink "CreasedPaper" 141 ⟨"CreasedPaper$Strip", "cellAt", "(II)I"⟩) 563 (by decide +kernel) (by decide +kernel), ci_X7_cellAt, cs_X7_cellAt⟩
theorem cc_X10_crease : cC m_X10_crease 2 := ⟨tb_at (w := .code ⟨"CreasedPaper", "crease", "(II)I"⟩ prog_1_method_9_code 4 (some .int)) 570 (by decide +kernel) (by decide +kernel), tb_at (w := .initialized "CreasedPaper") 57 (by decide +kernel) (by decide +kernel), by decide +kernel, by decide⟩
theorem ci_X10_crease : Cond.instanceMethod m_X10_crease.1 ∈ TB := tb_at (w := .instanceMethod ⟨"CreasedPaper", "crease", "(II)I"⟩) 568 (by decide +kernel) (by decide +kernel)
theorem cs_X10_crease : Cond.selects m_X10_crease.1.cls m_X10_crease.1 m_X10_crease.1 ∈ TB := tb_at (w := .selects "CreasedPaper" ⟨"CreasedPaper", "crease", "(II)I"⟩ ⟨"CreasedPaper", "crease", "(II)I"⟩) 569 (by decide +kernel) (by decide +kernel)
theorem ml_L_53 : cV "CreasedPaperLaw" 53 m_X10_crease 2 := ⟨cc_X10_crease, tb_at (w := .methodLink "CreasedPaperLaw" 53 ⟨"CreasedPaper", "crease", "(II)I"⟩) 567 (by decide +kernel) (by decide +kernel), ci_X10_crease, cs_X10_crease⟩
theorem ml_X10_168 : cV "CreasedPaper" 168 m_X7_isFolded 1 := ⟨cc_X7_isFolded, tb_at (w := .methodLink "CreasedPaper" 168 ⟨"CreasedPaper$Strip", "isFolded", "(I)Z"⟩) 571 (by decide +kernel) (by decide +kernel), ci_X7_isFolded, cs_X7_isFolded⟩
theorem cc_X10_feed : cC m_X10_feed 5 := ⟨tb_at (w := .code ⟨"CreasedPaper", "feed", "(IIIII)I"⟩ prog_1_method_10_code 6 (some .int)) 575 (by decide +kernel) (by decide +kernel), tb_at (w := .initialized "CreasedPaper") 57 (by decide +kernel) (by decide +kernel), by decide +kernel, by decide⟩
theorem ci_X10_feed : Cond.instanceMethod m_X10_feed.1 ∈ TB := tb_at (w := .instanceMethod ⟨"CreasedPaper", "feed", "(IIIII)I"⟩) 573 (by decide +kernel) (by decide +kernel)
theorem cs_X10_feed : Cond.selects m_X10_feed.1.cls m_X10_feed.1 m_X10_feed.1 ∈ TB := tb_at (w := .selects "CreasedPaper" ⟨"CreasedPaper", "feed", "(IIIII)I"⟩ ⟨"CreasedPaper", "feed", "(IIIII)I"⟩) 574 (by decide +kernel) (by decide +kernel)
theorem ml_L_57 : cV "CreasedPaperLaw" 57 m_X10_feed 5 := ⟨cc_X10_feed, tb_at (w := .methodLink "CreasedPaperLaw" 57 ⟨"CreasedPaper", "feed", "(IIIII)I"⟩) 572 (by decide +kernel) (by decide +kernel), ci_X10_feed, cs_X10_feed⟩
theorem cc_X8_hasRoom : cC m_X8_hasRoom 1 := ⟨tb_at (w := .code ⟨"CreasedPaper$Tape", "hasRoom", "(I)Z"⟩ prog_10_method_2_code 2 (some .boolean)) 579 (by decide +kernel) (by decide +kernel), tb_at (w := .initialized "CreasedPaper$Tape") 64 (by decide +kernel) (by decide +kernel), by decide +kernel, by decide⟩
theorem ci_X8_hasRoom : Cond.instanceMethod m_X8_hasRoom.1 ∈ TB := tb_at (w := .instanceMethod ⟨"CreasedPaper$Tape", "hasRoom", "(I)Z"⟩) 577 (by decide +kernel) (by decide +kernel)
theorem cs_X8_hasRoom : Cond.selects m_X8_hasRoom.1.cls m_X8_hasRoom.1 m_X8_hasRoom.1 ∈ TB := tb_at (w := .selects "CreasedPaper$Tape" ⟨"CreasedPaper$Tape", "hasRoom", "(I)Z"⟩ ⟨"CreasedPaper$Tape", "hasRoom", "(I)Z"⟩) 578 (by decide +kernel) (by decide +kernel)
theorem ml_X10_171 : cV "CreasedPaper" 171 m_X8_hasRoom 1 := ⟨cc_X8_hasRoom, tb_at (w := .methodLink "CreasedPaper" 171 ⟨"CreasedPaper$Tape", "hasRoom", "(I)Z"⟩) 576 (by decide +kernel) (by decide +kernel), ci_X8_hasRoom, cs_X8_hasRoom⟩
theorem cc_X8_addWord : cC m_X8_addWord 1 := ⟨tb_at (w := .code ⟨"CreasedPaper$Tape", "addWord", "(I)V"⟩ prog_10_method_3_code 3 none) 583 (by decide +kernel) (by decide +kernel), tb_at (w := .initialized "CreasedPaper$Tape") 64 (by decide +kernel) (by decide +kernel), by decide +kernel, by decide⟩
theorem ci_X8_addWord : Cond.instanceMethod m_X8_addWord.1 ∈ TB := tb_at (w := .instanceMethod ⟨"CreasedPaper$Tape", "addWord", "(I)V"⟩) 581 (by decide +kernel) (by decide +kernel)
theorem cs_X8_addWord : Cond.selects m_X8_addWord.1.cls m_X8_addWord.1 m_X8_addWord.1 ∈ TB := tb_at (w := .selects "CreasedPaper$Tape" ⟨"CreasedPaper$Tape", "addWord", "(I)V"⟩ ⟨"CreasedPaper$Tape", "addWord", "(I)V"⟩) 582 (by decide +kernel) (by decide +kernel)
theorem ml_X10_174 : cV "CreasedPaper" 174 m_X8_addWord 1 := ⟨cc_X8_addWord, tb_at (w := .methodLink "CreasedPaper" 174 ⟨"CreasedPaper$Tape", "addWord", "(I)V"⟩) 580 (by decide +kernel) (by decide +kernel), ci_X8_addWord, cs_X8_addWord⟩
theorem cc_X10_end : cC m_X10_end 1 := ⟨tb_at (w := .code ⟨"CreasedPaper", "end", "(I)I"⟩ prog_1_method_11_code 2 (some .int)) 587 (by decide +kernel) (by decide +kernel), tb_at (w := .initialized "CreasedPaper") 57 (by decide +kernel) (by decide +kernel), by decide +kernel, by decide⟩
theorem ci_X10_end : Cond.instanceMethod m_X10_end.1 ∈ TB := tb_at (w := .instanceMethod ⟨"CreasedPaper", "end", "(I)I"⟩) 585 (by decide +kernel) (by decide +kernel)
theorem cs_X10_end : Cond.selects m_X10_end.1.cls m_X10_end.1 m_X10_end.1 ∈ TB := tb_at (w := .selects "CreasedPaper" ⟨"CreasedPaper", "end", "(I)I"⟩ ⟨"CreasedPaper", "end", "(I)I"⟩) 586 (by decide +kernel) (by decide +kernel)
theorem ml_L_62 : cV "CreasedPaperLaw" 62 m_X10_end 1 := ⟨cc_X10_end, tb_at (w := .methodLink "CreasedPaperLaw" 62 ⟨"CreasedPaper", "end", "(I)I"⟩) 584 (by decide +kernel) (by decide +kernel), ci_X10_end, cs_X10_end⟩
theorem cc_X10_hands : cC m_X10_hands 0 := ⟨tb_at (w := .code ⟨"CreasedPaper", "hands", "()I"⟩ prog_1_method_12_code 2 (some .int)) 591 (by decide +kernel) (by decide +kernel), tb_at (w := .initialized "CreasedPaper") 57 (by decide +kernel) (by decide +kernel), by decide +kernel, by decide⟩
theorem ci_X10_hands : Cond.instanceMethod m_X10_hands.1 ∈ TB := tb_at (w := .instanceMethod ⟨"CreasedPaper", "hands", "()I"⟩) 589 (by decide +kernel) (by decide +kernel)
theorem cs_X10_hands : Cond.selects m_X10_hands.1.cls m_X10_hands.1 m_X10_hands.1 ∈ TB := tb_at (w := .selects "CreasedPaper" ⟨"CreasedPaper", "hands", "()I"⟩ ⟨"CreasedPaper", "hands", "()I"⟩) 590 (by decide +kernel) (by decide +kernel)
theorem ml_L_66 : cV "CreasedPaperLaw" 66 m_X10_hands 0 := ⟨cc_X10_hands, tb_at (w := .methodLink "CreasedPaperLaw" 66 ⟨"CreasedPaper", "hands", "()I"⟩) 588 (by decide +kernel) (by decide +kernel), ci_X10_hands, cs_X10_hands⟩
theorem cc_X9_readFrom : cC m_X9_readFrom 1 := ⟨tb_at (w := .code ⟨"CreasedPaper$Text", "readFrom", "(LCreasedPaper$Tape;)Z"⟩ prog_11_method_2_code 3 (some .boolean)) 595 (by decide +kernel) (by decide +kernel), tb_at (w := .initialized "CreasedPaper$Text") 65 (by decide +kernel) (by decide +kernel), by decide +kernel, by decide⟩
theorem ci_X9_readFrom : Cond.instanceMethod m_X9_readFrom.1 ∈ TB := tb_at (w := .instanceMethod ⟨"CreasedPaper$Text", "readFrom", "(LCreasedPaper$Tape;)Z"⟩) 593 (by decide +kernel) (by decide +kernel)
theorem cs_X9_readFrom : Cond.selects m_X9_readFrom.1.cls m_X9_readFrom.1 m_X9_readFrom.1 ∈ TB := tb_at (w := .selects "CreasedPaper$Text" ⟨"CreasedPaper$Text", "readFrom", "(LCreasedPaper$Tape;)Z"⟩ ⟨"CreasedPaper$Text", "readFrom", "(LCreasedPaper$Tape;)Z"⟩) 594 (by decide +kernel) (by decide +kernel)
theorem ml_X10_180 : cV "CreasedPaper" 180 m_X9_readFrom 1 := ⟨cc_X9_readFrom, tb_at (w := .methodLink "CreasedPaper" 180 ⟨"CreasedPaper$Text", "readFrom", "(LCreasedPaper$Tape;)Z"⟩) 592 (by decide +kernel) (by decide +kernel), ci_X9_readFrom, cs_X9_readFrom⟩
theorem cc_X8_rewind : cC m_X8_rewind 0 := ⟨tb_at (w := .code ⟨"CreasedPaper$Tape", "rewind", "()V"⟩ prog_10_method_4_code 1 none) 599 (by decide +kernel) (by decide +kernel), tb_at (w := .initialized "CreasedPaper$Tape") 64 (by decide +kernel) (by decide +kernel), by decide +kernel, by decide⟩
theorem ci_X8_rewind : Cond.instanceMethod m_X8_rewind.1 ∈ TB := tb_at (w := .instanceMethod ⟨"CreasedPaper$Tape", "rewind", "()V"⟩) 597 (by decide +kernel) (by decide +kernel)
theorem cs_X8_rewind : Cond.selects m_X8_rewind.1.cls m_X8_rewind.1 m_X8_rewind.1 ∈ TB := tb_at (w := .selects "CreasedPaper$Tape" ⟨"CreasedPaper$Tape", "rewind", "()V"⟩ ⟨"CreasedPaper$Tape", "rewind", "()V"⟩) 598 (by decide +kernel) (by decide +kernel)
theorem ml_X9_51 : cV "CreasedPaper$Text" 51 m_X8_rewind 0 := ⟨cc_X8_rewind, tb_at (w := .methodLink "CreasedPaper$Text" 51 ⟨"CreasedPaper$Tape", "rewind", "()V"⟩) 596 (by decide +kernel) (by decide +kernel), ci_X8_rewind, cs_X8_rewind⟩
theorem cc_X8_readToken : cC m_X8_readToken 0 := ⟨tb_at (w := .code ⟨"CreasedPaper$Tape", "readToken", "()V"⟩ prog_10_method_5_code 1 none) 603 (by decide +kernel) (by decide +kernel), tb_at (w := .initialized "CreasedPaper$Tape") 64 (by decide +kernel) (by decide +kernel), by decide +kernel, by decide⟩
theorem ci_X8_readToken : Cond.instanceMethod m_X8_readToken.1 ∈ TB := tb_at (w := .instanceMethod ⟨"CreasedPaper$Tape", "readToken", "()V"⟩) 601 (by decide +kernel) (by decide +kernel)
theorem cs_X8_readToken : Cond.selects m_X8_readToken.1.cls m_X8_readToken.1 m_X8_readToken.1 ∈ TB := tb_at (w := .selects "CreasedPaper$Tape" ⟨"CreasedPaper$Tape", "readToken", "()V"⟩ ⟨"CreasedPaper$Tape", "readToken", "()V"⟩) 602 (by decide +kernel) (by decide +kernel)
theorem ml_X9_56 : cV "CreasedPaper$Text" 56 m_X8_readToken 0 := ⟨cc_X8_readToken, tb_at (w := .methodLink "CreasedPaper$Text" 56 ⟨"CreasedPaper$Tape", "readToken", "()V"⟩) 600 (by decide +kernel) (by decide +kernel), ci_X8_readToken, cs_X8_readToken⟩
theorem cc_X8_isBlank : cC m_X8_isBlank 1 := ⟨tb_at (w := .code ⟨"CreasedPaper$Tape", "isBlank", "(I)Z"⟩ prog_10_method_10_code 1 (some .boolean)) 606 (by decide +kernel) (by decide +kernel), tb_at (w := .initialized "CreasedPaper$Tape") 64 (by decide +kernel) (by decide +kernel), by decide +kernel, by decide⟩
theorem ci_X8_isBlank : Cond.static m_X8_isBlank.1 ∈ TB := tb_at (w := .static ⟨"CreasedPaper$Tape", "isBlank", "(I)Z"⟩) 605 (by decide +kernel) (by decide +kernel)
theorem ml_X8_26 : cS "CreasedPaper$Tape" 26 m_X8_isBlank 1 := ⟨cc_X8_isBlank, tb_at (w := .methodLink "CreasedPaper$Tape" 26 ⟨"CreasedPaper$Tape", "isBlank", "(I)Z"⟩) 604 (by decide +kernel) (by decide +kernel), ci_X8_isBlank⟩
theorem cc_X8_isLetter : cC m_X8_isLetter 1 := ⟨tb_at (w := .code ⟨"CreasedPaper$Tape", "isLetter", "(I)Z"⟩ prog_10_method_11_code 1 (some .boolean)) 609 (by decide +kernel) (by decide +kernel), tb_at (w := .initialized "CreasedPaper$Tape") 64 (by decide +kernel) (by decide +kernel), by decide +kernel, by decide⟩
theorem ci_X8_isLetter : Cond.static m_X8_isLetter.1 ∈ TB := tb_at (w := .static ⟨"CreasedPaper$Tape", "isLetter", "(I)Z"⟩) 608 (by decide +kernel) (by decide +kernel)
theorem ml_X8_30 : cS "CreasedPaper$Tape" 30 m_X8_isLetter 1 := ⟨cc_X8_isLetter, tb_at (w := .methodLink "CreasedPaper$Tape" 30 ⟨"CreasedPaper$Tape", "isLetter", "(I)Z"⟩) 607 (by decide +kernel) (by decide +kernel), ci_X8_isLetter⟩
theorem cc_X8_readWord : cC m_X8_readWord 0 := ⟨tb_at (w := .code ⟨"CreasedPaper$Tape", "readWord", "()V"⟩ prog_10_method_8_code 1 none) 613 (by decide +kernel) (by decide +kernel), tb_at (w := .initialized "CreasedPaper$Tape") 64 (by decide +kernel) (by decide +kernel), by decide +kernel, by decide⟩
theorem ci_X8_readWord : Cond.instanceMethod m_X8_readWord.1 ∈ TB := tb_at (w := .instanceMethod ⟨"CreasedPaper$Tape", "readWord", "()V"⟩) 612 (by decide +kernel) (by decide +kernel)
theorem cs_X8_readWord : Cond.selects m_X8_readWord.1.cls m_X8_readWord.1 m_X8_readWord.1 ∈ TB := tb_at (w := .selects "CreasedPaper$Tape" ⟨"CreasedPaper$Tape", "readWord", "()V"⟩ ⟨"CreasedPaper$Tape", "readWord", "()V"⟩) 3 (by decide +kernel) (by decide +kernel)
theorem ml_X8_33 : cV "CreasedPaper$Tape" 33 m_X8_readWord 0 := ⟨cc_X8_readWord, tb_at (w := .methodLink "CreasedPaper$Tape" 33 ⟨"CreasedPaper$Tape", "readWord", "()V"⟩) 610 (by decide +kernel) (by decide +kernel), ci_X8_readWord, cs_X8_readWord⟩
theorem cc_X8_isDigit : cC m_X8_isDigit 1 := ⟨tb_at (w := .code ⟨"CreasedPaper$Tape", "isDigit", "(I)Z"⟩ prog_10_method_12_code 1 (some .boolean)) 616 (by decide +kernel) (by decide +kernel), tb_at (w := .initialized "CreasedPaper$Tape") 64 (by decide +kernel) (by decide +kernel), by decide +kernel, by decide⟩
theorem ci_X8_isDigit : Cond.static m_X8_isDigit.1 ∈ TB := tb_at (w := .static ⟨"CreasedPaper$Tape", "isDigit", "(I)Z"⟩) 615 (by decide +kernel) (by decide +kernel)
theorem ml_X8_36 : cS "CreasedPaper$Tape" 36 m_X8_isDigit 1 := ⟨cc_X8_isDigit, tb_at (w := .methodLink "CreasedPaper$Tape" 36 ⟨"CreasedPaper$Tape", "isDigit", "(I)Z"⟩) 614 (by decide +kernel) (by decide +kernel), ci_X8_isDigit⟩
theorem cc_X8_readNumber : cC m_X8_readNumber 0 := ⟨tb_at (w := .code ⟨"CreasedPaper$Tape", "readNumber", "()V"⟩ prog_10_method_9_code 1 none) 620 (by decide +kernel) (by decide +kernel), tb_at (w := .initialized "CreasedPaper$Tape") 64 (by decide +kernel) (by decide +kernel), by decide +kernel, by decide⟩
theorem ci_X8_readNumber : Cond.instanceMethod m_X8_readNumber.1 ∈ TB := tb_at (w := .instanceMethod ⟨"CreasedPaper$Tape", "readNumber", "()V"⟩) 619 (by decide +kernel) (by decide +kernel)
theorem cs_X8_readNumber : Cond.selects m_X8_readNumber.1.cls m_X8_readNumber.1 m_X8_readNumber.1 ∈ TB := tb_at (w := .selects "CreasedPaper$Tape" ⟨"CreasedPaper$Tape", "readNumber", "()V"⟩ ⟨"CreasedPaper$Tape", "readNumber", "()V"⟩) 4 (by decide +kernel) (by decide +kernel)
theorem ml_X8_39 : cV "CreasedPaper$Tape" 39 m_X8_readNumber 0 := ⟨cc_X8_readNumber, tb_at (w := .methodLink "CreasedPaper$Tape" 39 ⟨"CreasedPaper$Tape", "readNumber", "()V"⟩) 617 (by decide +kernel) (by decide +kernel), ci_X8_readNumber, cs_X8_readNumber⟩
theorem cc_X8_isSignByte : cC m_X8_isSignByte 1 := ⟨tb_at (w := .code ⟨"CreasedPaper$Tape", "isSignByte", "(I)Z"⟩ prog_10_method_13_code 1 (some .boolean)) 624 (by decide +kernel) (by decide +kernel), tb_at (w := .initialized "CreasedPaper$Tape") 64 (by decide +kernel) (by decide +kernel), by decide +kernel, by decide⟩
theorem ci_X8_isSignByte : Cond.static m_X8_isSignByte.1 ∈ TB := tb_at (w := .static ⟨"CreasedPaper$Tape", "isSignByte", "(I)Z"⟩) 623 (by decide +kernel) (by decide +kernel)
theorem ml_X8_42 : cS "CreasedPaper$Tape" 42 m_X8_isSignByte 1 := ⟨cc_X8_isSignByte, tb_at (w := .methodLink "CreasedPaper$Tape" 42 ⟨"CreasedPaper$Tape", "isSignByte", "(I)Z"⟩) 622 (by decide +kernel) (by decide +kernel), ci_X8_isSignByte⟩
theorem cc_X8_isSign : cC m_X8_isSign 1 := ⟨tb_at (w := .code ⟨"CreasedPaper$Tape", "isSign", "(C)Z"⟩ prog_10_method_6_code 2 (some .boolean)) 628 (by decide +kernel) (by decide +kernel), tb_at (w := .initialized "CreasedPaper$Tape") 64 (by decide +kernel) (by decide +kernel), by decide +kernel, by decide⟩
theorem ci_X8_isSign : Cond.instanceMethod m_X8_isSign.1 ∈ TB := tb_at (w := .instanceMethod ⟨"CreasedPaper$Tape", "isSign", "(C)Z"⟩) 626 (by decide +kernel) (by decide +kernel)
theorem cs_X8_isSign : Cond.selects m_X8_isSign.1.cls m_X8_isSign.1 m_X8_isSign.1 ∈ TB := tb_at (w := .selects "CreasedPaper$Tape" ⟨"CreasedPaper$Tape", "isSign", "(C)Z"⟩ ⟨"CreasedPaper$Tape", "isSign", "(C)Z"⟩) 627 (by decide +kernel) (by decide +kernel)
theorem ml_X9_62 : cV "CreasedPaper$Text" 62 m_X8_isSign 1 := ⟨cc_X8_isSign, tb_at (w := .methodLink "CreasedPaper$Text" 62 ⟨"CreasedPaper$Tape", "isSign", "(C)Z"⟩) 625 (by decide +kernel) (by decide +kernel), ci_X8_isSign, cs_X8_isSign⟩
theorem cc_X9_closeAgain : cC m_X9_closeAgain 0 := ⟨tb_at (w := .code ⟨"CreasedPaper$Text", "closeAgain", "()V"⟩ prog_11_method_9_code 1 none) 632 (by decide +kernel) (by decide +kernel), tb_at (w := .initialized "CreasedPaper$Text") 65 (by decide +kernel) (by decide +kernel), by decide +kernel, by decide⟩
theorem ci_X9_closeAgain : Cond.instanceMethod m_X9_closeAgain.1 ∈ TB := tb_at (w := .instanceMethod ⟨"CreasedPaper$Text", "closeAgain", "()V"⟩) 631 (by decide +kernel) (by decide +kernel)
theorem cs_X9_closeAgain : Cond.selects m_X9_closeAgain.1.cls m_X9_closeAgain.1 m_X9_closeAgain.1 ∈ TB := tb_at (w := .selects "CreasedPaper$Text" ⟨"CreasedPaper$Text", "closeAgain", "()V"⟩ ⟨"CreasedPaper$Text", "closeAgain", "()V"⟩) 5 (by decide +kernel) (by decide +kernel)
theorem ml_X9_66 : cV "CreasedPaper$Text" 66 m_X9_closeAgain 0 := ⟨cc_X9_closeAgain, tb_at (w := .methodLink "CreasedPaper$Text" 66 ⟨"CreasedPaper$Text", "closeAgain", "()V"⟩) 629 (by decide +kernel) (by decide +kernel), ci_X9_closeAgain, cs_X9_closeAgain⟩
theorem cc_X9_readDo : cC m_X9_readDo 1 := ⟨tb_at (w := .code ⟨"CreasedPaper$Text", "readDo", "(LCreasedPaper$Tape;)Z"⟩ prog_11_method_3_code 3 (some .boolean)) 636 (by decide +kernel) (by decide +kernel), tb_at (w := .initialized "CreasedPaper$Text") 65 (by decide +kernel) (by decide +kernel), by decide +kernel, by decide⟩
theorem ci_X9_readDo : Cond.instanceMethod m_X9_readDo.1 ∈ TB := tb_at (w := .instanceMethod ⟨"CreasedPaper$Text", "readDo", "(LCreasedPaper$Tape;)Z"⟩) 635 (by decide +kernel) (by decide +kernel)
theorem cs_X9_readDo : Cond.selects m_X9_readDo.1.cls m_X9_readDo.1 m_X9_readDo.1 ∈ TB := tb_at (w := .selects "CreasedPaper$Text" ⟨"CreasedPaper$Text", "readDo", "(LCreasedPaper$Tape;)Z"⟩ ⟨"CreasedPaper$Text", "readDo", "(LCreasedPaper$Tape;)Z"⟩) 6 (by decide +kernel) (by decide +kernel)
theorem ml_X9_69 : cV "CreasedPaper$Text" 69 m_X9_readDo 1 := ⟨cc_X9_readDo, tb_at (w := .methodLink "CreasedPaper$Text" 69 ⟨"CreasedPaper$Text", "readDo", "(LCreasedPaper$Tape;)Z"⟩) 633 (by decide +kernel) (by decide +kernel), ci_X9_readDo, cs_X9_readDo⟩
theorem cc_X9_verbOf : cC m_X9_verbOf 1 := ⟨tb_at (w := .code ⟨"CreasedPaper$Text", "verbOf", "(LCreasedPaper$Tape;)I"⟩ prog_11_method_4_code 1 (some .int)) 639 (by decide +kernel) (by decide +kernel), tb_at (w := .initialized "CreasedPaper$Text") 65 (by decide +kernel) (by decide +kernel), by decide +kernel, by decide⟩
theorem ci_X9_verbOf : Cond.static m_X9_verbOf.1 ∈ TB := tb_at (w := .static ⟨"CreasedPaper$Text", "verbOf", "(LCreasedPaper$Tape;)I"⟩) 638 (by decide +kernel) (by decide +kernel)
theorem ml_X9_73 : cS "CreasedPaper$Text" 73 m_X9_verbOf 1 := ⟨cc_X9_verbOf, tb_at (w := .methodLink "CreasedPaper$Text" 73 ⟨"CreasedPaper$Text", "verbOf", "(LCreasedPaper$Tape;)I"⟩) 637 (by decide +kernel) (by decide +kernel), ci_X9_verbOf⟩
theorem cc_X8_isWord : cC m_X8_isWord 1 := ⟨tb_at (w := .code ⟨"CreasedPaper$Tape", "isWord", "(Ljava/lang/String;)Z"⟩ prog_10_method_7_code 3 (some .boolean)) 644 (by decide +kernel) (by decide +kernel), tb_at (w := .initialized "CreasedPaper$Tape") 64 (by decide +kernel) (by decide +kernel), by decide +kernel, by decide⟩
theorem ci_X8_isWord : Cond.instanceMethod m_X8_isWord.1 ∈ TB := tb_at (w := .instanceMethod ⟨"CreasedPaper$Tape", "isWord", "(Ljava/lang/String;)Z"⟩) 642 (by decide +kernel) (by decide +kernel)
theorem cs_X8_isWord : Cond.selects m_X8_isWord.1.cls m_X8_isWord.1 m_X8_isWord.1 ∈ TB := tb_at (w := .selects "CreasedPaper$Tape" ⟨"CreasedPaper$Tape", "isWord", "(Ljava/lang/String;)Z"⟩ ⟨"CreasedPaper$Tape", "isWord", "(Ljava/lang/String;)Z"⟩) 643 (by decide +kernel) (by decide +kernel)
theorem ml_X9_99 : cV "CreasedPaper$Text" 99 m_X8_isWord 1 := ⟨cc_X8_isWord, tb_at (w := .methodLink "CreasedPaper$Text" 99 ⟨"CreasedPaper$Tape", "isWord", "(Ljava/lang/String;)Z"⟩) 641 (by decide +kernel) (by decide +kernel), ci_X8_isWord, cs_X8_isWord⟩
theorem cc_X9_faultAt : cC m_X9_faultAt 2 := ⟨tb_at (w := .code ⟨"CreasedPaper$Text", "faultAt", "(LCreasedPaper$Tape;I)Z"⟩ prog_11_method_10_code 3 (some .boolean)) 699 (by decide +kernel) (by decide +kernel), tb_at (w := .initialized "CreasedPaper$Text") 65 (by decide +kernel) (by decide +kernel), by decide +kernel, by decide⟩
theorem ci_X9_faultAt : Cond.instanceMethod m_X9_faultAt.1 ∈ TB := tb_at (w := .instanceMethod ⟨"CreasedPaper$Text", "faultAt", "(LCreasedPaper$Tape;I)Z"⟩) 698 (by decide +kernel) (by decide +kernel)
theorem cs_X9_faultAt : Cond.selects m_X9_faultAt.1.cls m_X9_faultAt.1 m_X9_faultAt.1 ∈ TB := tb_at (w := .selects "CreasedPaper$Text" ⟨"CreasedPaper$Text", "faultAt", "(LCreasedPaper$Tape;I)Z"⟩ ⟨"CreasedPaper$Text", "faultAt", "(LCreasedPaper$Tape;I)Z"⟩) 7 (by decide +kernel) (by decide +kernel)
theorem ml_X9_77 : cV "CreasedPaper$Text" 77 m_X9_faultAt 2 := ⟨cc_X9_faultAt, tb_at (w := .methodLink "CreasedPaper$Text" 77 ⟨"CreasedPaper$Text", "faultAt", "(LCreasedPaper$Tape;I)Z"⟩) 696 (by decide +kernel) (by decide +kernel), ci_X9_faultAt, cs_X9_faultAt⟩
theorem cc_X9_readNumber : cC m_X9_readNumber 3 := ⟨tb_at (w := .code ⟨"CreasedPaper$Text", "readNumber", "(LCreasedPaper$Tape;II)Z"⟩ prog_11_method_5_code 4 (some .boolean)) 703 (by decide +kernel) (by decide +kernel), tb_at (w := .initialized "CreasedPaper$Text") 65 (by decide +kernel) (by decide +kernel), by decide +kernel, by decide⟩
theorem ci_X9_readNumber : Cond.instanceMethod m_X9_readNumber.1 ∈ TB := tb_at (w := .instanceMethod ⟨"CreasedPaper$Text", "readNumber", "(LCreasedPaper$Tape;II)Z"⟩) 702 (by decide +kernel) (by decide +kernel)
theorem cs_X9_readNumber : Cond.selects m_X9_readNumber.1.cls m_X9_readNumber.1 m_X9_readNumber.1 ∈ TB := tb_at (w := .selects "CreasedPaper$Text" ⟨"CreasedPaper$Text", "readNumber", "(LCreasedPaper$Tape;II)Z"⟩ ⟨"CreasedPaper$Text", "readNumber", "(LCreasedPaper$Tape;II)Z"⟩) 8 (by decide +kernel) (by decide +kernel)
theorem ml_X9_84 : cV "CreasedPaper$Text" 84 m_X9_readNumber 3 := ⟨cc_X9_readNumber, tb_at (w := .methodLink "CreasedPaper$Text" 84 ⟨"CreasedPaper$Text", "readNumber", "(LCreasedPaper$Tape;II)Z"⟩) 700 (by decide +kernel) (by decide +kernel), ci_X9_readNumber, cs_X9_readNumber⟩
theorem cc_X9_readSide : cC m_X9_readSide 1 := ⟨tb_at (w := .code ⟨"CreasedPaper$Text", "readSide", "(LCreasedPaper$Tape;)Z"⟩ prog_11_method_6_code 3 (some .boolean)) 707 (by decide +kernel) (by decide +kernel), tb_at (w := .initialized "CreasedPaper$Text") 65 (by decide +kernel) (by decide +kernel), by decide +kernel, by decide⟩
theorem ci_X9_readSide : Cond.instanceMethod m_X9_readSide.1 ∈ TB := tb_at (w := .instanceMethod ⟨"CreasedPaper$Text", "readSide", "(LCreasedPaper$Tape;)Z"⟩) 706 (by decide +kernel) (by decide +kernel)
theorem cs_X9_readSide : Cond.selects m_X9_readSide.1.cls m_X9_readSide.1 m_X9_readSide.1 ∈ TB := tb_at (w := .selects "CreasedPaper$Text" ⟨"CreasedPaper$Text", "readSide", "(LCreasedPaper$Tape;)Z"⟩ ⟨"CreasedPaper$Text", "readSide", "(LCreasedPaper$Tape;)Z"⟩) 9 (by decide +kernel) (by decide +kernel)
theorem ml_X9_88 : cV "CreasedPaper$Text" 88 m_X9_readSide 1 := ⟨cc_X9_readSide, tb_at (w := .methodLink "CreasedPaper$Text" 88 ⟨"CreasedPaper$Text", "readSide", "(LCreasedPaper$Tape;)Z"⟩) 704 (by decide +kernel) (by decide +kernel), ci_X9_readSide, cs_X9_readSide⟩
theorem cc_X9_readStop : cC m_X9_readStop 1 := ⟨tb_at (w := .code ⟨"CreasedPaper$Text", "readStop", "(LCreasedPaper$Tape;)Z"⟩ prog_11_method_7_code 2 (some .boolean)) 713 (by decide +kernel) (by decide +kernel), tb_at (w := .initialized "CreasedPaper$Text") 65 (by decide +kernel) (by decide +kernel), by decide +kernel, by decide⟩
theorem ci_X9_readStop : Cond.instanceMethod m_X9_readStop.1 ∈ TB := tb_at (w := .instanceMethod ⟨"CreasedPaper$Text", "readStop", "(LCreasedPaper$Tape;)Z"⟩) 712 (by decide +kernel) (by decide +kernel)
theorem cs_X9_readStop : Cond.selects m_X9_readStop.1.cls m_X9_readStop.1 m_X9_readStop.1 ∈ TB := tb_at (w := .selects "CreasedPaper$Text" ⟨"CreasedPaper$Text", "readStop", "(LCreasedPaper$Tape;)Z"⟩ ⟨"CreasedPaper$Text", "readStop", "(LCreasedPaper$Tape;)Z"⟩) 10 (by decide +kernel) (by decide +kernel)
theorem ml_X9_91 : cV "CreasedPaper$Text" 91 m_X9_readStop 1 := ⟨cc_X9_readStop, tb_at (w := .methodLink "CreasedPaper$Text" 91 ⟨"CreasedPaper$Text", "readStop", "(LCreasedPaper$Tape;)Z"⟩) 710 (by decide +kernel) (by decide +kernel), ci_X9_readStop, cs_X9_readStop⟩
theorem cc_X9_readOpening : cC m_X9_readOpening 1 := ⟨tb_at (w := .code ⟨"CreasedPaper$Text", "readOpening", "(LCreasedPaper$Tape;)Z"⟩ prog_11_method_8_code 2 (some .boolean)) 717 (by decide +kernel) (by decide +kernel), tb_at (w := .initialized "CreasedPaper$Text") 65 (by decide +kernel) (by decide +kernel), by decide +kernel, by decide⟩
theorem ci_X9_readOpening : Cond.instanceMethod m_X9_readOpening.1 ∈ TB := tb_at (w := .instanceMethod ⟨"CreasedPaper$Text", "readOpening", "(LCreasedPaper$Tape;)Z"⟩) 716 (by decide +kernel) (by decide +kernel)
theorem cs_X9_readOpening : Cond.selects m_X9_readOpening.1.cls m_X9_readOpening.1 m_X9_readOpening.1 ∈ TB := tb_at (w := .selects "CreasedPaper$Text" ⟨"CreasedPaper$Text", "readOpening", "(LCreasedPaper$Tape;)Z"⟩ ⟨"CreasedPaper$Text", "readOpening", "(LCreasedPaper$Tape;)Z"⟩) 11 (by decide +kernel) (by decide +kernel)
theorem ml_X9_94 : cV "CreasedPaper$Text" 94 m_X9_readOpening 1 := ⟨cc_X9_readOpening, tb_at (w := .methodLink "CreasedPaper$Text" 94 ⟨"CreasedPaper$Text", "readOpening", "(LCreasedPaper$Tape;)Z"⟩) 714 (by decide +kernel) (by decide +kernel), ci_X9_readOpening, cs_X9_readOpening⟩
theorem cc_X9_doneTo : cC m_X9_doneTo 1 := ⟨tb_at (w := .code ⟨"CreasedPaper$Text", "doneTo", "(LCreasedPaper$Paper;)I"⟩ prog_11_method_11_code 2 (some .int)) 721 (by decide +kernel) (by decide +kernel), tb_at (w := .initialized "CreasedPaper$Text") 65 (by decide +kernel) (by decide +kernel), by decide +kernel, by decide⟩
theorem ci_X9_doneTo : Cond.instanceMethod m_X9_doneTo.1 ∈ TB := tb_at (w := .instanceMethod ⟨"CreasedPaper$Text", "doneTo", "(LCreasedPaper$Paper;)I"⟩) 719 (by decide +kernel) (by decide +kernel)
theorem cs_X9_doneTo : Cond.selects m_X9_doneTo.1.cls m_X9_doneTo.1 m_X9_doneTo.1 ∈ TB := tb_at (w := .selects "CreasedPaper$Text" ⟨"CreasedPaper$Text", "doneTo", "(LCreasedPaper$Paper;)I"⟩ ⟨"CreasedPaper$Text", "doneTo", "(LCreasedPaper$Paper;)I"⟩) 720 (by decide +kernel) (by decide +kernel)
theorem ml_X10_184 : cV "CreasedPaper" 184 m_X9_doneTo 1 := ⟨cc_X9_doneTo, tb_at (w := .methodLink "CreasedPaper" 184 ⟨"CreasedPaper$Text", "doneTo", "(LCreasedPaper$Paper;)I"⟩) 718 (by decide +kernel) (by decide +kernel), ci_X9_doneTo, cs_X9_doneTo⟩
theorem cc_X9_doRange : cC m_X9_doRange 4 := ⟨tb_at (w := .code ⟨"CreasedPaper$Text", "doRange", "(LCreasedPaper$Paper;III)Z"⟩ prog_11_method_12_code 6 (some .boolean)) 725 (by decide +kernel) (by decide +kernel), tb_at (w := .initialized "CreasedPaper$Text") 65 (by decide +kernel) (by decide +kernel), by decide +kernel, by decide⟩
theorem ci_X9_doRange : Cond.instanceMethod m_X9_doRange.1 ∈ TB := tb_at (w := .instanceMethod ⟨"CreasedPaper$Text", "doRange", "(LCreasedPaper$Paper;III)Z"⟩) 724 (by decide +kernel) (by decide +kernel)
theorem cs_X9_doRange : Cond.selects m_X9_doRange.1.cls m_X9_doRange.1 m_X9_doRange.1 ∈ TB := tb_at (w := .selects "CreasedPaper$Text" ⟨"CreasedPaper$Text", "doRange", "(LCreasedPaper$Paper;III)Z"⟩ ⟨"CreasedPaper$Text", "doRange", "(LCreasedPaper$Paper;III)Z"⟩) 12 (by decide +kernel) (by decide +kernel)
theorem ml_X9_119 : cV "CreasedPaper$Text" 119 m_X9_doRange 4 := ⟨cc_X9_doRange, tb_at (w := .methodLink "CreasedPaper$Text" 119 ⟨"CreasedPaper$Text", "doRange", "(LCreasedPaper$Paper;III)Z"⟩) 722 (by decide +kernel) (by decide +kernel), ci_X9_doRange, cs_X9_doRange⟩
theorem cc_X9_doAct : cC m_X9_doAct 2 := ⟨tb_at (w := .code ⟨"CreasedPaper$Text", "doAct", "(LCreasedPaper$Paper;I)Z"⟩ prog_11_method_15_code 4 (some .boolean)) 729 (by decide +kernel) (by decide +kernel), tb_at (w := .initialized "CreasedPaper$Text") 65 (by decide +kernel) (by decide +kernel), by decide +kernel, by decide⟩
theorem ci_X9_doAct : Cond.instanceMethod m_X9_doAct.1 ∈ TB := tb_at (w := .instanceMethod ⟨"CreasedPaper$Text", "doAct", "(LCreasedPaper$Paper;I)Z"⟩) 728 (by decide +kernel) (by decide +kernel)
theorem cs_X9_doAct : Cond.selects m_X9_doAct.1.cls m_X9_doAct.1 m_X9_doAct.1 ∈ TB := tb_at (w := .selects "CreasedPaper$Text" ⟨"CreasedPaper$Text", "doAct", "(LCreasedPaper$Paper;I)Z"⟩ ⟨"CreasedPaper$Text", "doAct", "(LCreasedPaper$Paper;I)Z"⟩) 13 (by decide +kernel) (by decide +kernel)
theorem ml_X9_123 : cV "CreasedPaper$Text" 123 m_X9_doAct 2 := ⟨cc_X9_doAct, tb_at (w := .methodLink "CreasedPaper$Text" 123 ⟨"CreasedPaper$Text", "doAct", "(LCreasedPaper$Paper;I)Z"⟩) 726 (by decide +kernel) (by decide +kernel), ci_X9_doAct, cs_X9_doAct⟩
theorem ml_X9_141 : cV "CreasedPaper$Text" 141 m_X2_foldAt 2 := ⟨cc_X2_foldAt, tb_at (w := .methodLink "CreasedPaper$Text" 141 ⟨"CreasedPaper$Paper", "foldAt", "(IZ)I"⟩) 730 (by decide +kernel) (by decide +kernel), ci_X2_foldAt, cs_X2_foldAt⟩
theorem ml_X9_147 : cV "CreasedPaper$Text" 147 m_X2_holdFor 1 := ⟨cc_X2_holdFor, tb_at (w := .methodLink "CreasedPaper$Text" 147 ⟨"CreasedPaper$Paper", "holdFor", "(I)Z"⟩) 731 (by decide +kernel) (by decide +kernel), ci_X2_holdFor, cs_X2_holdFor⟩
theorem ml_X9_151 : cV "CreasedPaper$Text" 151 m_X2_openUp 0 := ⟨cc_X2_openUp, tb_at (w := .methodLink "CreasedPaper$Text" 151 ⟨"CreasedPaper$Paper", "openUp", "()Z"⟩) 732 (by decide +kernel) (by decide +kernel), ci_X2_openUp, cs_X2_openUp⟩
theorem cc_X9_doAgain : cC m_X9_doAgain 3 := ⟨tb_at (w := .code ⟨"CreasedPaper$Text", "doAgain", "(LCreasedPaper$Paper;II)Z"⟩ prog_11_method_13_code 5 (some .boolean)) 736 (by decide +kernel) (by decide +kernel), tb_at (w := .initialized "CreasedPaper$Text") 65 (by decide +kernel) (by decide +kernel), by decide +kernel, by decide⟩
theorem ci_X9_doAgain : Cond.instanceMethod m_X9_doAgain.1 ∈ TB := tb_at (w := .instanceMethod ⟨"CreasedPaper$Text", "doAgain", "(LCreasedPaper$Paper;II)Z"⟩) 735 (by decide +kernel) (by decide +kernel)
theorem cs_X9_doAgain : Cond.selects m_X9_doAgain.1.cls m_X9_doAgain.1 m_X9_doAgain.1 ∈ TB := tb_at (w := .selects "CreasedPaper$Text" ⟨"CreasedPaper$Text", "doAgain", "(LCreasedPaper$Paper;II)Z"⟩ ⟨"CreasedPaper$Text", "doAgain", "(LCreasedPaper$Paper;II)Z"⟩) 14 (by decide +kernel) (by decide +kernel)
theorem ml_X9_127 : cV "CreasedPaper$Text" 127 m_X9_doAgain 3 := ⟨cc_X9_doAgain, tb_at (w := .methodLink "CreasedPaper$Text" 127 ⟨"CreasedPaper$Text", "doAgain", "(LCreasedPaper$Paper;II)Z"⟩) 733 (by decide +kernel) (by decide +kernel), ci_X9_doAgain, cs_X9_doAgain⟩
theorem cc_X9_hasAct : cC m_X9_hasAct 2 := ⟨tb_at (w := .code ⟨"CreasedPaper$Text", "hasAct", "(II)Z"⟩ prog_11_method_14_code 4 (some .boolean)) 740 (by decide +kernel) (by decide +kernel), tb_at (w := .initialized "CreasedPaper$Text") 65 (by decide +kernel) (by decide +kernel), by decide +kernel, by decide⟩
theorem ci_X9_hasAct : Cond.instanceMethod m_X9_hasAct.1 ∈ TB := tb_at (w := .instanceMethod ⟨"CreasedPaper$Text", "hasAct", "(II)Z"⟩) 739 (by decide +kernel) (by decide +kernel)
theorem cs_X9_hasAct : Cond.selects m_X9_hasAct.1.cls m_X9_hasAct.1 m_X9_hasAct.1 ∈ TB := tb_at (w := .selects "CreasedPaper$Text" ⟨"CreasedPaper$Text", "hasAct", "(II)Z"⟩ ⟨"CreasedPaper$Text", "hasAct", "(II)Z"⟩) 15 (by decide +kernel) (by decide +kernel)
theorem ml_X9_137 : cV "CreasedPaper$Text" 137 m_X9_hasAct 2 := ⟨cc_X9_hasAct, tb_at (w := .methodLink "CreasedPaper$Text" 137 ⟨"CreasedPaper$Text", "hasAct", "(II)Z"⟩) 737 (by decide +kernel) (by decide +kernel), ci_X9_hasAct, cs_X9_hasAct⟩
theorem cc_X10_fault : cC m_X10_fault 1 := ⟨tb_at (w := .code ⟨"CreasedPaper", "fault", "(I)I"⟩ prog_1_method_13_code 2 (some .int)) 746 (by decide +kernel) (by decide +kernel), tb_at (w := .initialized "CreasedPaper") 57 (by decide +kernel) (by decide +kernel), by decide +kernel, by decide⟩
theorem ci_X10_fault : Cond.instanceMethod m_X10_fault.1 ∈ TB := tb_at (w := .instanceMethod ⟨"CreasedPaper", "fault", "(I)I"⟩) 744 (by decide +kernel) (by decide +kernel)
theorem cs_X10_fault : Cond.selects m_X10_fault.1.cls m_X10_fault.1 m_X10_fault.1 ∈ TB := tb_at (w := .selects "CreasedPaper" ⟨"CreasedPaper", "fault", "(I)I"⟩ ⟨"CreasedPaper", "fault", "(I)I"⟩) 745 (by decide +kernel) (by decide +kernel)
theorem ml_L_70 : cV "CreasedPaperLaw" 70 m_X10_fault 1 := ⟨cc_X10_fault, tb_at (w := .methodLink "CreasedPaperLaw" 70 ⟨"CreasedPaper", "fault", "(I)I"⟩) 743 (by decide +kernel) (by decide +kernel), ci_X10_fault, cs_X10_fault⟩
theorem cc_X10_sheet : cC m_X10_sheet 5 := ⟨tb_at (w := .code ⟨"CreasedPaper", "sheet", "(IIIII)I"⟩ prog_1_method_14_code 7 (some .int)) 750 (by decide +kernel) (by decide +kernel), tb_at (w := .initialized "CreasedPaper") 57 (by decide +kernel) (by decide +kernel), by decide +kernel, by decide⟩
theorem ci_X10_sheet : Cond.instanceMethod m_X10_sheet.1 ∈ TB := tb_at (w := .instanceMethod ⟨"CreasedPaper", "sheet", "(IIIII)I"⟩) 748 (by decide +kernel) (by decide +kernel)
theorem cs_X10_sheet : Cond.selects m_X10_sheet.1.cls m_X10_sheet.1 m_X10_sheet.1 ∈ TB := tb_at (w := .selects "CreasedPaper" ⟨"CreasedPaper", "sheet", "(IIIII)I"⟩ ⟨"CreasedPaper", "sheet", "(IIIII)I"⟩) 749 (by decide +kernel) (by decide +kernel)
theorem ml_L_74 : cV "CreasedPaperLaw" 74 m_X10_sheet 5 := ⟨cc_X10_sheet, tb_at (w := .methodLink "CreasedPaperLaw" 74 ⟨"CreasedPaper", "sheet", "(IIIII)I"⟩) 747 (by decide +kernel) (by decide +kernel), ci_X10_sheet, cs_X10_sheet⟩
theorem cc_X10_isAngle : cC m_X10_isAngle 1 := ⟨tb_at (w := .code ⟨"CreasedPaper", "isAngle", "(I)Z"⟩ prog_1_method_28_code 1 (some .boolean)) 753 (by decide +kernel) (by decide +kernel), tb_at (w := .initialized "CreasedPaper") 57 (by decide +kernel) (by decide +kernel), by decide +kernel, by decide⟩
theorem ci_X10_isAngle : Cond.static m_X10_isAngle.1 ∈ TB := tb_at (w := .static ⟨"CreasedPaper", "isAngle", "(I)Z"⟩) 752 (by decide +kernel) (by decide +kernel)
theorem ml_X10_201 : cS "CreasedPaper" 201 m_X10_isAngle 1 := ⟨cc_X10_isAngle, tb_at (w := .methodLink "CreasedPaper" 201 ⟨"CreasedPaper", "isAngle", "(I)Z"⟩) 751 (by decide +kernel) (by decide +kernel), ci_X10_isAngle⟩
theorem cc_X6_addOne : cC m_X6_addOne 5 := ⟨tb_at (w := .code ⟨"CreasedPaper$Sheets", "addOne", "(IIIII)I"⟩ prog_8_method_4_code 6 (some .int)) 757 (by decide +kernel) (by decide +kernel), tb_at (w := .initialized "CreasedPaper$Sheets") 62 (by decide +kernel) (by decide +kernel), by decide +kernel, by decide⟩
theorem ci_X6_addOne : Cond.instanceMethod m_X6_addOne.1 ∈ TB := tb_at (w := .instanceMethod ⟨"CreasedPaper$Sheets", "addOne", "(IIIII)I"⟩) 755 (by decide +kernel) (by decide +kernel)
theorem cs_X6_addOne : Cond.selects m_X6_addOne.1.cls m_X6_addOne.1 m_X6_addOne.1 ∈ TB := tb_at (w := .selects "CreasedPaper$Sheets" ⟨"CreasedPaper$Sheets", "addOne", "(IIIII)I"⟩ ⟨"CreasedPaper$Sheets", "addOne", "(IIIII)I"⟩) 756 (by decide +kernel) (by decide +kernel)
theorem ml_X10_204 : cV "CreasedPaper" 204 m_X6_addOne 5 := ⟨cc_X6_addOne, tb_at (w := .methodLink "CreasedPaper" 204 ⟨"CreasedPaper$Sheets", "addOne", "(IIIII)I"⟩) 754 (by decide +kernel) (by decide +kernel), ci_X6_addOne, cs_X6_addOne⟩
theorem cc_X10_torque : cC m_X10_torque 2 := ⟨tb_at (w := .code ⟨"CreasedPaper", "torque", "(II)I"⟩ prog_1_method_15_code 3 (some .int)) 761 (by decide +kernel) (by decide +kernel), tb_at (w := .initialized "CreasedPaper") 57 (by decide +kernel) (by decide +kernel), by decide +kernel, by decide⟩
theorem ci_X10_torque : Cond.instanceMethod m_X10_torque.1 ∈ TB := tb_at (w := .instanceMethod ⟨"CreasedPaper", "torque", "(II)I"⟩) 759 (by decide +kernel) (by decide +kernel)
theorem cs_X10_torque : Cond.selects m_X10_torque.1.cls m_X10_torque.1 m_X10_torque.1 ∈ TB := tb_at (w := .selects "CreasedPaper" ⟨"CreasedPaper", "torque", "(II)I"⟩ ⟨"CreasedPaper", "torque", "(II)I"⟩) 760 (by decide +kernel) (by decide +kernel)
theorem ml_L_78 : cV "CreasedPaperLaw" 78 m_X10_torque 2 := ⟨cc_X10_torque, tb_at (w := .methodLink "CreasedPaperLaw" 78 ⟨"CreasedPaper", "torque", "(II)I"⟩) 758 (by decide +kernel) (by decide +kernel), ci_X10_torque, cs_X10_torque⟩
theorem cc_X6_has : cC m_X6_has 1 := ⟨tb_at (w := .code ⟨"CreasedPaper$Sheets", "has", "(I)Z"⟩ prog_8_method_3_code 2 (some .boolean)) 765 (by decide +kernel) (by decide +kernel), tb_at (w := .initialized "CreasedPaper$Sheets") 62 (by decide +kernel) (by decide +kernel), by decide +kernel, by decide⟩
theorem ci_X6_has : Cond.instanceMethod m_X6_has.1 ∈ TB := tb_at (w := .instanceMethod ⟨"CreasedPaper$Sheets", "has", "(I)Z"⟩) 763 (by decide +kernel) (by decide +kernel)
theorem cs_X6_has : Cond.selects m_X6_has.1.cls m_X6_has.1 m_X6_has.1 ∈ TB := tb_at (w := .selects "CreasedPaper$Sheets" ⟨"CreasedPaper$Sheets", "has", "(I)Z"⟩ ⟨"CreasedPaper$Sheets", "has", "(I)Z"⟩) 764 (by decide +kernel) (by decide +kernel)
theorem ml_X10_208 : cV "CreasedPaper" 208 m_X6_has 1 := ⟨cc_X6_has, tb_at (w := .methodLink "CreasedPaper" 208 ⟨"CreasedPaper$Sheets", "has", "(I)Z"⟩) 762 (by decide +kernel) (by decide +kernel), ci_X6_has, cs_X6_has⟩
theorem cc_X6_torqueOf : cC m_X6_torqueOf 2 := ⟨tb_at (w := .code ⟨"CreasedPaper$Sheets", "torqueOf", "(II)I"⟩ prog_8_method_5_code 7 (some .int)) 769 (by decide +kernel) (by decide +kernel), tb_at (w := .initialized "CreasedPaper$Sheets") 62 (by decide +kernel) (by decide +kernel), by decide +kernel, by decide⟩
theorem ci_X6_torqueOf : Cond.instanceMethod m_X6_torqueOf.1 ∈ TB := tb_at (w := .instanceMethod ⟨"CreasedPaper$Sheets", "torqueOf", "(II)I"⟩) 767 (by decide +kernel) (by decide +kernel)
theorem cs_X6_torqueOf : Cond.selects m_X6_torqueOf.1.cls m_X6_torqueOf.1 m_X6_torqueOf.1 ∈ TB := tb_at (w := .selects "CreasedPaper$Sheets" ⟨"CreasedPaper$Sheets", "torqueOf", "(II)I"⟩ ⟨"CreasedPaper$Sheets", "torqueOf", "(II)I"⟩) 768 (by decide +kernel) (by decide +kernel)
theorem ml_X10_211 : cV "CreasedPaper" 211 m_X6_torqueOf 2 := ⟨cc_X6_torqueOf, tb_at (w := .methodLink "CreasedPaper" 211 ⟨"CreasedPaper$Sheets", "torqueOf", "(II)I"⟩) 766 (by decide +kernel) (by decide +kernel), ci_X6_torqueOf, cs_X6_torqueOf⟩
theorem cc_X10_rests : cC m_X10_rests 3 := ⟨tb_at (w := .code ⟨"CreasedPaper", "rests", "(III)I"⟩ prog_1_method_16_code 4 (some .int)) 775 (by decide +kernel) (by decide +kernel), tb_at (w := .initialized "CreasedPaper") 57 (by decide +kernel) (by decide +kernel), by decide +kernel, by decide⟩
theorem ci_X10_rests : Cond.instanceMethod m_X10_rests.1 ∈ TB := tb_at (w := .instanceMethod ⟨"CreasedPaper", "rests", "(III)I"⟩) 773 (by decide +kernel) (by decide +kernel)
theorem cs_X10_rests : Cond.selects m_X10_rests.1.cls m_X10_rests.1 m_X10_rests.1 ∈ TB := tb_at (w := .selects "CreasedPaper" ⟨"CreasedPaper", "rests", "(III)I"⟩ ⟨"CreasedPaper", "rests", "(III)I"⟩) 774 (by decide +kernel) (by decide +kernel)
theorem ml_L_82 : cV "CreasedPaperLaw" 82 m_X10_rests 3 := ⟨cc_X10_rests, tb_at (w := .methodLink "CreasedPaperLaw" 82 ⟨"CreasedPaper", "rests", "(III)I"⟩) 772 (by decide +kernel) (by decide +kernel), ci_X10_rests, cs_X10_rests⟩
theorem cc_X10_isPush : cC m_X10_isPush 1 := ⟨tb_at (w := .code ⟨"CreasedPaper", "isPush", "(I)Z"⟩ prog_1_method_29_code 1 (some .boolean)) 778 (by decide +kernel) (by decide +kernel), tb_at (w := .initialized "CreasedPaper") 57 (by decide +kernel) (by decide +kernel), by decide +kernel, by decide⟩
theorem ci_X10_isPush : Cond.static m_X10_isPush.1 ∈ TB := tb_at (w := .static ⟨"CreasedPaper", "isPush", "(I)Z"⟩) 777 (by decide +kernel) (by decide +kernel)
theorem ml_X10_215 : cS "CreasedPaper" 215 m_X10_isPush 1 := ⟨cc_X10_isPush, tb_at (w := .methodLink "CreasedPaper" 215 ⟨"CreasedPaper", "isPush", "(I)Z"⟩) 776 (by decide +kernel) (by decide +kernel), ci_X10_isPush⟩
theorem cc_X5_take : cC m_X5_take 2 := ⟨tb_at (w := .code ⟨"CreasedPaper$Shapes", "take", "(LCreasedPaper$Sheets;I)V"⟩ prog_7_method_2_code 4 none) 784 (by decide +kernel) (by decide +kernel), tb_at (w := .initialized "CreasedPaper$Shapes") 66 (by decide +kernel) (by decide +kernel), by decide +kernel, by decide⟩
theorem ci_X5_take : Cond.instanceMethod m_X5_take.1 ∈ TB := tb_at (w := .instanceMethod ⟨"CreasedPaper$Shapes", "take", "(LCreasedPaper$Sheets;I)V"⟩) 782 (by decide +kernel) (by decide +kernel)
theorem cs_X5_take : Cond.selects m_X5_take.1.cls m_X5_take.1 m_X5_take.1 ∈ TB := tb_at (w := .selects "CreasedPaper$Shapes" ⟨"CreasedPaper$Shapes", "take", "(LCreasedPaper$Sheets;I)V"⟩ ⟨"CreasedPaper$Shapes", "take", "(LCreasedPaper$Sheets;I)V"⟩) 783 (by decide +kernel) (by decide +kernel)
theorem ml_X10_218 : cV "CreasedPaper" 218 m_X5_take 2 := ⟨cc_X5_take, tb_at (w := .methodLink "CreasedPaper" 218 ⟨"CreasedPaper$Shapes", "take", "(LCreasedPaper$Sheets;I)V"⟩) 781 (by decide +kernel) (by decide +kernel), ci_X5_take, cs_X5_take⟩
theorem ml_X5_15 : cV "CreasedPaper$Shapes" 15 m_X6_torqueOf 2 := ⟨cc_X6_torqueOf, tb_at (w := .methodLink "CreasedPaper$Shapes" 15 ⟨"CreasedPaper$Sheets", "torqueOf", "(II)I"⟩) 785 (by decide +kernel) (by decide +kernel), ci_X6_torqueOf, cs_X6_torqueOf⟩
theorem cc_X5_countResting : cC m_X5_countResting 1 := ⟨tb_at (w := .code ⟨"CreasedPaper$Shapes", "countResting", "(I)I"⟩ prog_7_method_3_code 4 (some .int)) 789 (by decide +kernel) (by decide +kernel), tb_at (w := .initialized "CreasedPaper$Shapes") 66 (by decide +kernel) (by decide +kernel), by decide +kernel, by decide⟩
theorem ci_X5_countResting : Cond.instanceMethod m_X5_countResting.1 ∈ TB := tb_at (w := .instanceMethod ⟨"CreasedPaper$Shapes", "countResting", "(I)I"⟩) 787 (by decide +kernel) (by decide +kernel)
theorem cs_X5_countResting : Cond.selects m_X5_countResting.1.cls m_X5_countResting.1 m_X5_countResting.1 ∈ TB := tb_at (w := .selects "CreasedPaper$Shapes" ⟨"CreasedPaper$Shapes", "countResting", "(I)I"⟩ ⟨"CreasedPaper$Shapes", "countResting", "(I)I"⟩) 788 (by decide +kernel) (by decide +kernel)
theorem ml_X10_222 : cV "CreasedPaper" 222 m_X5_countResting 1 := ⟨cc_X5_countResting, tb_at (w := .methodLink "CreasedPaper" 222 ⟨"CreasedPaper$Shapes", "countResting", "(I)I"⟩) 786 (by decide +kernel) (by decide +kernel), ci_X5_countResting, cs_X5_countResting⟩
theorem cc_X5_isResting : cC m_X5_isResting 2 := ⟨tb_at (w := .code ⟨"CreasedPaper$Shapes", "isResting", "(II)Z"⟩ prog_7_method_7_code 5 (some .boolean)) 793 (by decide +kernel) (by decide +kernel), tb_at (w := .initialized "CreasedPaper$Shapes") 66 (by decide +kernel) (by decide +kernel), by decide +kernel, by decide⟩
theorem ci_X5_isResting : Cond.instanceMethod m_X5_isResting.1 ∈ TB := tb_at (w := .instanceMethod ⟨"CreasedPaper$Shapes", "isResting", "(II)Z"⟩) 792 (by decide +kernel) (by decide +kernel)
theorem cs_X5_isResting : Cond.selects m_X5_isResting.1.cls m_X5_isResting.1 m_X5_isResting.1 ∈ TB := tb_at (w := .selects "CreasedPaper$Shapes" ⟨"CreasedPaper$Shapes", "isResting", "(II)Z"⟩ ⟨"CreasedPaper$Shapes", "isResting", "(II)Z"⟩) 16 (by decide +kernel) (by decide +kernel)
theorem ml_X5_21 : cV "CreasedPaper$Shapes" 21 m_X5_isResting 2 := ⟨cc_X5_isResting, tb_at (w := .methodLink "CreasedPaper$Shapes" 21 ⟨"CreasedPaper$Shapes", "isResting", "(II)Z"⟩) 790 (by decide +kernel) (by decide +kernel), ci_X5_isResting, cs_X5_isResting⟩
theorem cc_X5_restingAngle : cC m_X5_restingAngle 2 := ⟨tb_at (w := .code ⟨"CreasedPaper$Shapes", "restingAngle", "(II)I"⟩ prog_7_method_4_code 5 (some .int)) 797 (by decide +kernel) (by decide +kernel), tb_at (w := .initialized "CreasedPaper$Shapes") 66 (by decide +kernel) (by decide +kernel), by decide +kernel, by decide⟩
theorem ci_X5_restingAngle : Cond.instanceMethod m_X5_restingAngle.1 ∈ TB := tb_at (w := .instanceMethod ⟨"CreasedPaper$Shapes", "restingAngle", "(II)I"⟩) 795 (by decide +kernel) (by decide +kernel)
theorem cs_X5_restingAngle : Cond.selects m_X5_restingAngle.1.cls m_X5_restingAngle.1 m_X5_restingAngle.1 ∈ TB := tb_at (w := .selects "CreasedPaper$Shapes" ⟨"CreasedPaper$Shapes", "restingAngle", "(II)I"⟩ ⟨"CreasedPaper$Shapes", "restingAngle", "(II)I"⟩) 796 (by decide +kernel) (by decide +kernel)
theorem ml_X10_225 : cV "CreasedPaper" 225 m_X5_restingAngle 2 := ⟨cc_X5_restingAngle, tb_at (w := .methodLink "CreasedPaper" 225 ⟨"CreasedPaper$Shapes", "restingAngle", "(II)I"⟩) 794 (by decide +kernel) (by decide +kernel), ci_X5_restingAngle, cs_X5_restingAngle⟩
theorem cc_X10_stays : cC m_X10_stays 3 := ⟨tb_at (w := .code ⟨"CreasedPaper", "stays", "(III)I"⟩ prog_1_method_17_code 4 (some .int)) 801 (by decide +kernel) (by decide +kernel), tb_at (w := .initialized "CreasedPaper") 57 (by decide +kernel) (by decide +kernel), by decide +kernel, by decide⟩
theorem ci_X10_stays : Cond.instanceMethod m_X10_stays.1 ∈ TB := tb_at (w := .instanceMethod ⟨"CreasedPaper", "stays", "(III)I"⟩) 799 (by decide +kernel) (by decide +kernel)
theorem cs_X10_stays : Cond.selects m_X10_stays.1.cls m_X10_stays.1 m_X10_stays.1 ∈ TB := tb_at (w := .selects "CreasedPaper" ⟨"CreasedPaper", "stays", "(III)I"⟩ ⟨"CreasedPaper", "stays", "(III)I"⟩) 800 (by decide +kernel) (by decide +kernel)
theorem ml_L_87 : cV "CreasedPaperLaw" 87 m_X10_stays 3 := ⟨cc_X10_stays, tb_at (w := .methodLink "CreasedPaperLaw" 87 ⟨"CreasedPaper", "stays", "(III)I"⟩) 798 (by decide +kernel) (by decide +kernel), ci_X10_stays, cs_X10_stays⟩
theorem cc_X5_restsAndStays : cC m_X5_restsAndStays 2 := ⟨tb_at (w := .code ⟨"CreasedPaper$Shapes", "restsAndStays", "(II)Z"⟩ prog_7_method_5_code 3 (some .boolean)) 805 (by decide +kernel) (by decide +kernel), tb_at (w := .initialized "CreasedPaper$Shapes") 66 (by decide +kernel) (by decide +kernel), by decide +kernel, by decide⟩
theorem ci_X5_restsAndStays : Cond.instanceMethod m_X5_restsAndStays.1 ∈ TB := tb_at (w := .instanceMethod ⟨"CreasedPaper$Shapes", "restsAndStays", "(II)Z"⟩) 803 (by decide +kernel) (by decide +kernel)
theorem cs_X5_restsAndStays : Cond.selects m_X5_restsAndStays.1.cls m_X5_restsAndStays.1 m_X5_restsAndStays.1 ∈ TB := tb_at (w := .selects "CreasedPaper$Shapes" ⟨"CreasedPaper$Shapes", "restsAndStays", "(II)Z"⟩ ⟨"CreasedPaper$Shapes", "restsAndStays", "(II)Z"⟩) 804 (by decide +kernel) (by decide +kernel)
theorem ml_X10_228 : cV "CreasedPaper" 228 m_X5_restsAndStays 2 := ⟨cc_X5_restsAndStays, tb_at (w := .methodLink "CreasedPaper" 228 ⟨"CreasedPaper$Shapes", "restsAndStays", "(II)Z"⟩) 802 (by decide +kernel) (by decide +kernel), ci_X5_restsAndStays, cs_X5_restsAndStays⟩
theorem cc_X10_snap : cC m_X10_snap 5 := ⟨tb_at (w := .code ⟨"CreasedPaper", "snap", "(IIIII)I"⟩ prog_1_method_18_code 7 (some .int)) 809 (by decide +kernel) (by decide +kernel), tb_at (w := .initialized "CreasedPaper") 57 (by decide +kernel) (by decide +kernel), by decide +kernel, by decide⟩
theorem ci_X10_snap : Cond.instanceMethod m_X10_snap.1 ∈ TB := tb_at (w := .instanceMethod ⟨"CreasedPaper", "snap", "(IIIII)I"⟩) 807 (by decide +kernel) (by decide +kernel)
theorem cs_X10_snap : Cond.selects m_X10_snap.1.cls m_X10_snap.1 m_X10_snap.1 ∈ TB := tb_at (w := .selects "CreasedPaper" ⟨"CreasedPaper", "snap", "(IIIII)I"⟩ ⟨"CreasedPaper", "snap", "(IIIII)I"⟩) 808 (by decide +kernel) (by decide +kernel)
theorem ml_L_91 : cV "CreasedPaperLaw" 91 m_X10_snap 5 := ⟨cc_X10_snap, tb_at (w := .methodLink "CreasedPaperLaw" 91 ⟨"CreasedPaper", "snap", "(IIIII)I"⟩) 806 (by decide +kernel) (by decide +kernel), ci_X10_snap, cs_X10_snap⟩
theorem cc_X5_pushOn : cC m_X5_pushOn 3 := ⟨tb_at (w := .code ⟨"CreasedPaper$Shapes", "pushOn", "(III)V"⟩ prog_7_method_6_code 7 none) 816 (by decide +kernel) (by decide +kernel), tb_at (w := .initialized "CreasedPaper$Shapes") 66 (by decide +kernel) (by decide +kernel), by decide +kernel, by decide⟩
theorem ci_X5_pushOn : Cond.instanceMethod m_X5_pushOn.1 ∈ TB := tb_at (w := .instanceMethod ⟨"CreasedPaper$Shapes", "pushOn", "(III)V"⟩) 814 (by decide +kernel) (by decide +kernel)
theorem cs_X5_pushOn : Cond.selects m_X5_pushOn.1.cls m_X5_pushOn.1 m_X5_pushOn.1 ∈ TB := tb_at (w := .selects "CreasedPaper$Shapes" ⟨"CreasedPaper$Shapes", "pushOn", "(III)V"⟩ ⟨"CreasedPaper$Shapes", "pushOn", "(III)V"⟩) 815 (by decide +kernel) (by decide +kernel)
theorem ml_X10_235 : cV "CreasedPaper" 235 m_X5_pushOn 3 := ⟨cc_X5_pushOn, tb_at (w := .methodLink "CreasedPaper" 235 ⟨"CreasedPaper$Shapes", "pushOn", "(III)V"⟩) 813 (by decide +kernel) (by decide +kernel), ci_X5_pushOn, cs_X5_pushOn⟩
theorem cc_X5_followTo : cC m_X5_followTo 1 := ⟨tb_at (w := .code ⟨"CreasedPaper$Shapes", "followTo", "(I)V"⟩ prog_7_method_8_code 3 none) 823 (by decide +kernel) (by decide +kernel), tb_at (w := .initialized "CreasedPaper$Shapes") 66 (by decide +kernel) (by decide +kernel), by decide +kernel, by decide⟩
theorem ci_X5_followTo : Cond.instanceMethod m_X5_followTo.1 ∈ TB := tb_at (w := .instanceMethod ⟨"CreasedPaper$Shapes", "followTo", "(I)V"⟩) 822 (by decide +kernel) (by decide +kernel)
theorem cs_X5_followTo : Cond.selects m_X5_followTo.1.cls m_X5_followTo.1 m_X5_followTo.1 ∈ TB := tb_at (w := .selects "CreasedPaper$Shapes" ⟨"CreasedPaper$Shapes", "followTo", "(I)V"⟩ ⟨"CreasedPaper$Shapes", "followTo", "(I)V"⟩) 17 (by decide +kernel) (by decide +kernel)
theorem ml_X5_45 : cV "CreasedPaper$Shapes" 45 m_X5_followTo 1 := ⟨cc_X5_followTo, tb_at (w := .methodLink "CreasedPaper$Shapes" 45 ⟨"CreasedPaper$Shapes", "followTo", "(I)V"⟩) 820 (by decide +kernel) (by decide +kernel), ci_X5_followTo, cs_X5_followTo⟩
theorem ml_X5_49 : cV "CreasedPaper$Shapes" 49 m_X5_restsAndStays 2 := ⟨cc_X5_restsAndStays, tb_at (w := .methodLink "CreasedPaper$Shapes" 49 ⟨"CreasedPaper$Shapes", "restsAndStays", "(II)Z"⟩) 824 (by decide +kernel) (by decide +kernel), ci_X5_restsAndStays, cs_X5_restsAndStays⟩
theorem cc_X5_nearestThatStays : cC m_X5_nearestThatStays 1 := ⟨tb_at (w := .code ⟨"CreasedPaper$Shapes", "nearestThatStays", "(I)I"⟩ prog_7_method_9_code 5 (some .int)) 828 (by decide +kernel) (by decide +kernel), tb_at (w := .initialized "CreasedPaper$Shapes") 66 (by decide +kernel) (by decide +kernel), by decide +kernel, by decide⟩
theorem ci_X5_nearestThatStays : Cond.instanceMethod m_X5_nearestThatStays.1 ∈ TB := tb_at (w := .instanceMethod ⟨"CreasedPaper$Shapes", "nearestThatStays", "(I)I"⟩) 827 (by decide +kernel) (by decide +kernel)
theorem cs_X5_nearestThatStays : Cond.selects m_X5_nearestThatStays.1.cls m_X5_nearestThatStays.1 m_X5_nearestThatStays.1 ∈ TB := tb_at (w := .selects "CreasedPaper$Shapes" ⟨"CreasedPaper$Shapes", "nearestThatStays", "(I)I"⟩ ⟨"CreasedPaper$Shapes", "nearestThatStays", "(I)I"⟩) 18 (by decide +kernel) (by decide +kernel)
theorem ml_X5_52 : cV "CreasedPaper$Shapes" 52 m_X5_nearestThatStays 1 := ⟨cc_X5_nearestThatStays, tb_at (w := .methodLink "CreasedPaper$Shapes" 52 ⟨"CreasedPaper$Shapes", "nearestThatStays", "(I)I"⟩) 825 (by decide +kernel) (by decide +kernel), ci_X5_nearestThatStays, cs_X5_nearestThatStays⟩
theorem cc_X10_ways : cC m_X10_ways 4 := ⟨tb_at (w := .code ⟨"CreasedPaper", "ways", "(IIII)I"⟩ prog_1_method_19_code 6 (some .int)) 832 (by decide +kernel) (by decide +kernel), tb_at (w := .initialized "CreasedPaper") 57 (by decide +kernel) (by decide +kernel), by decide +kernel, by decide⟩
theorem ci_X10_ways : Cond.instanceMethod m_X10_ways.1 ∈ TB := tb_at (w := .instanceMethod ⟨"CreasedPaper", "ways", "(IIII)I"⟩) 830 (by decide +kernel) (by decide +kernel)
theorem cs_X10_ways : Cond.selects m_X10_ways.1.cls m_X10_ways.1 m_X10_ways.1 ∈ TB := tb_at (w := .selects "CreasedPaper" ⟨"CreasedPaper", "ways", "(IIII)I"⟩ ⟨"CreasedPaper", "ways", "(IIII)I"⟩) 831 (by decide +kernel) (by decide +kernel)
theorem ml_L_95 : cV "CreasedPaperLaw" 95 m_X10_ways 4 := ⟨cc_X10_ways, tb_at (w := .methodLink "CreasedPaperLaw" 95 ⟨"CreasedPaper", "ways", "(IIII)I"⟩) 829 (by decide +kernel) (by decide +kernel), ci_X10_ways, cs_X10_ways⟩
theorem cc_X1_take : cC m_X1_take 2 := ⟨tb_at (w := .code ⟨"CreasedPaper$Panels", "take", "(II)Z"⟩ prog_3_method_2_code 5 (some .boolean)) 836 (by decide +kernel) (by decide +kernel), tb_at (w := .initialized "CreasedPaper$Panels") 67 (by decide +kernel) (by decide +kernel), by decide +kernel, by decide⟩
theorem ci_X1_take : Cond.instanceMethod m_X1_take.1 ∈ TB := tb_at (w := .instanceMethod ⟨"CreasedPaper$Panels", "take", "(II)Z"⟩) 834 (by decide +kernel) (by decide +kernel)
theorem cs_X1_take : Cond.selects m_X1_take.1.cls m_X1_take.1 m_X1_take.1 ∈ TB := tb_at (w := .selects "CreasedPaper$Panels" ⟨"CreasedPaper$Panels", "take", "(II)Z"⟩ ⟨"CreasedPaper$Panels", "take", "(II)Z"⟩) 835 (by decide +kernel) (by decide +kernel)
theorem ml_X10_248 : cV "CreasedPaper" 248 m_X1_take 2 := ⟨cc_X1_take, tb_at (w := .methodLink "CreasedPaper" 248 ⟨"CreasedPaper$Panels", "take", "(II)Z"⟩) 833 (by decide +kernel) (by decide +kernel), ci_X1_take, cs_X1_take⟩
theorem cc_X1_countWays : cC m_X1_countWays 0 := ⟨tb_at (w := .code ⟨"CreasedPaper$Panels", "countWays", "()I"⟩ prog_3_method_3_code 1 (some .int)) 840 (by decide +kernel) (by decide +kernel), tb_at (w := .initialized "CreasedPaper$Panels") 67 (by decide +kernel) (by decide +kernel), by decide +kernel, by decide⟩
theorem ci_X1_countWays : Cond.instanceMethod m_X1_countWays.1 ∈ TB := tb_at (w := .instanceMethod ⟨"CreasedPaper$Panels", "countWays", "()I"⟩) 838 (by decide +kernel) (by decide +kernel)
theorem cs_X1_countWays : Cond.selects m_X1_countWays.1.cls m_X1_countWays.1 m_X1_countWays.1 ∈ TB := tb_at (w := .selects "CreasedPaper$Panels" ⟨"CreasedPaper$Panels", "countWays", "()I"⟩ ⟨"CreasedPaper$Panels", "countWays", "()I"⟩) 839 (by decide +kernel) (by decide +kernel)
theorem ml_X10_250 : cV "CreasedPaper" 250 m_X1_countWays 0 := ⟨cc_X1_countWays, tb_at (w := .methodLink "CreasedPaper" 250 ⟨"CreasedPaper$Panels", "countWays", "()I"⟩) 837 (by decide +kernel) (by decide +kernel), ci_X1_countWays, cs_X1_countWays⟩
theorem cc_X1_pileFrom : cC m_X1_pileFrom 1 := ⟨tb_at (w := .code ⟨"CreasedPaper$Panels", "pileFrom", "(I)Z"⟩ prog_3_method_5_code 3 (some .boolean)) 844 (by decide +kernel) (by decide +kernel), tb_at (w := .initialized "CreasedPaper$Panels") 67 (by decide +kernel) (by decide +kernel), by decide +kernel, by decide⟩
theorem ci_X1_pileFrom : Cond.instanceMethod m_X1_pileFrom.1 ∈ TB := tb_at (w := .instanceMethod ⟨"CreasedPaper$Panels", "pileFrom", "(I)Z"⟩) 843 (by decide +kernel) (by decide +kernel)
theorem cs_X1_pileFrom : Cond.selects m_X1_pileFrom.1.cls m_X1_pileFrom.1 m_X1_pileFrom.1 ∈ TB := tb_at (w := .selects "CreasedPaper$Panels" ⟨"CreasedPaper$Panels", "pileFrom", "(I)Z"⟩ ⟨"CreasedPaper$Panels", "pileFrom", "(I)Z"⟩) 19 (by decide +kernel) (by decide +kernel)
theorem ml_X1_31 : cV "CreasedPaper$Panels" 31 m_X1_pileFrom 1 := ⟨cc_X1_pileFrom, tb_at (w := .methodLink "CreasedPaper$Panels" 31 ⟨"CreasedPaper$Panels", "pileFrom", "(I)Z"⟩) 841 (by decide +kernel) (by decide +kernel), ci_X1_pileFrom, cs_X1_pileFrom⟩
theorem cc_X1_canLie : cC m_X1_canLie 2 := ⟨tb_at (w := .code ⟨"CreasedPaper$Panels", "canLie", "(II)Z"⟩ prog_3_method_6_code 3 (some .boolean)) 848 (by decide +kernel) (by decide +kernel), tb_at (w := .initialized "CreasedPaper$Panels") 67 (by decide +kernel) (by decide +kernel), by decide +kernel, by decide⟩
theorem ci_X1_canLie : Cond.instanceMethod m_X1_canLie.1 ∈ TB := tb_at (w := .instanceMethod ⟨"CreasedPaper$Panels", "canLie", "(II)Z"⟩) 847 (by decide +kernel) (by decide +kernel)
theorem cs_X1_canLie : Cond.selects m_X1_canLie.1.cls m_X1_canLie.1 m_X1_canLie.1 ∈ TB := tb_at (w := .selects "CreasedPaper$Panels" ⟨"CreasedPaper$Panels", "canLie", "(II)Z"⟩ ⟨"CreasedPaper$Panels", "canLie", "(II)Z"⟩) 20 (by decide +kernel) (by decide +kernel)
theorem ml_X1_35 : cV "CreasedPaper$Panels" 35 m_X1_canLie 2 := ⟨cc_X1_canLie, tb_at (w := .methodLink "CreasedPaper$Panels" 35 ⟨"CreasedPaper$Panels", "canLie", "(II)Z"⟩) 845 (by decide +kernel) (by decide +kernel), ci_X1_canLie, cs_X1_canLie⟩
theorem cc_X1_fits : cC m_X1_fits 4 := ⟨tb_at (w := .code ⟨"CreasedPaper$Panels", "fits", "(IIII)Z"⟩ prog_3_method_7_code 8 (some .boolean)) 852 (by decide +kernel) (by decide +kernel), tb_at (w := .initialized "CreasedPaper$Panels") 67 (by decide +kernel) (by decide +kernel), by decide +kernel, by decide⟩
theorem ci_X1_fits : Cond.instanceMethod m_X1_fits.1 ∈ TB := tb_at (w := .instanceMethod ⟨"CreasedPaper$Panels", "fits", "(IIII)Z"⟩) 851 (by decide +kernel) (by decide +kernel)
theorem cs_X1_fits : Cond.selects m_X1_fits.1.cls m_X1_fits.1 m_X1_fits.1 ∈ TB := tb_at (w := .selects "CreasedPaper$Panels" ⟨"CreasedPaper$Panels", "fits", "(IIII)Z"⟩ ⟨"CreasedPaper$Panels", "fits", "(IIII)Z"⟩) 21 (by decide +kernel) (by decide +kernel)
theorem ml_X1_39 : cV "CreasedPaper$Panels" 39 m_X1_fits 4 := ⟨cc_X1_fits, tb_at (w := .methodLink "CreasedPaper$Panels" 39 ⟨"CreasedPaper$Panels", "fits", "(IIII)Z"⟩) 849 (by decide +kernel) (by decide +kernel), ci_X1_fits, cs_X1_fits⟩
theorem cc_X1_isCrossed : cC m_X1_isCrossed 3 := ⟨tb_at (w := .code ⟨"CreasedPaper$Panels", "isCrossed", "(III)Z"⟩ prog_3_method_8_code 7 (some .boolean)) 856 (by decide +kernel) (by decide +kernel), tb_at (w := .initialized "CreasedPaper$Panels") 67 (by decide +kernel) (by decide +kernel), by decide +kernel, by decide⟩
theorem ci_X1_isCrossed : Cond.instanceMethod m_X1_isCrossed.1 ∈ TB := tb_at (w := .instanceMethod ⟨"CreasedPaper$Panels", "isCrossed", "(III)Z"⟩) 855 (by decide +kernel) (by decide +kernel)
theorem cs_X1_isCrossed : Cond.selects m_X1_isCrossed.1.cls m_X1_isCrossed.1 m_X1_isCrossed.1 ∈ TB := tb_at (w := .selects "CreasedPaper$Panels" ⟨"CreasedPaper$Panels", "isCrossed", "(III)Z"⟩ ⟨"CreasedPaper$Panels", "isCrossed", "(III)Z"⟩) 22 (by decide +kernel) (by decide +kernel)
theorem ml_X1_43 : cV "CreasedPaper$Panels" 43 m_X1_isCrossed 3 := ⟨cc_X1_isCrossed, tb_at (w := .methodLink "CreasedPaper$Panels" 43 ⟨"CreasedPaper$Panels", "isCrossed", "(III)Z"⟩) 853 (by decide +kernel) (by decide +kernel), ci_X1_isCrossed, cs_X1_isCrossed⟩
theorem cc_X1_findWay : cC m_X1_findWay 1 := ⟨tb_at (w := .code ⟨"CreasedPaper$Panels", "findWay", "(I)Z"⟩ prog_3_method_4_code 2 (some .boolean)) 860 (by decide +kernel) (by decide +kernel), tb_at (w := .initialized "CreasedPaper$Panels") 67 (by decide +kernel) (by decide +kernel), by decide +kernel, by decide⟩
theorem ci_X1_findWay : Cond.instanceMethod m_X1_findWay.1 ∈ TB := tb_at (w := .instanceMethod ⟨"CreasedPaper$Panels", "findWay", "(I)Z"⟩) 858 (by decide +kernel) (by decide +kernel)
theorem cs_X1_findWay : Cond.selects m_X1_findWay.1.cls m_X1_findWay.1 m_X1_findWay.1 ∈ TB := tb_at (w := .selects "CreasedPaper$Panels" ⟨"CreasedPaper$Panels", "findWay", "(I)Z"⟩ ⟨"CreasedPaper$Panels", "findWay", "(I)Z"⟩) 859 (by decide +kernel) (by decide +kernel)
theorem ml_X10_254 : cV "CreasedPaper" 254 m_X1_findWay 1 := ⟨cc_X1_findWay, tb_at (w := .methodLink "CreasedPaper" 254 ⟨"CreasedPaper$Panels", "findWay", "(I)Z"⟩) 857 (by decide +kernel) (by decide +kernel), ci_X1_findWay, cs_X1_findWay⟩
theorem cc_X10_see : cC m_X10_see 2 := ⟨tb_at (w := .code ⟨"CreasedPaper", "see", "(II)I"⟩ prog_1_method_20_code 3 (some .int)) 864 (by decide +kernel) (by decide +kernel), tb_at (w := .initialized "CreasedPaper") 57 (by decide +kernel) (by decide +kernel), by decide +kernel, by decide⟩
theorem ci_X10_see : Cond.instanceMethod m_X10_see.1 ∈ TB := tb_at (w := .instanceMethod ⟨"CreasedPaper", "see", "(II)I"⟩) 862 (by decide +kernel) (by decide +kernel)
theorem cs_X10_see : Cond.selects m_X10_see.1.cls m_X10_see.1 m_X10_see.1 ∈ TB := tb_at (w := .selects "CreasedPaper" ⟨"CreasedPaper", "see", "(II)I"⟩ ⟨"CreasedPaper", "see", "(II)I"⟩) 863 (by decide +kernel) (by decide +kernel)
theorem ml_L_100 : cV "CreasedPaperLaw" 100 m_X10_see 2 := ⟨cc_X10_see, tb_at (w := .methodLink "CreasedPaperLaw" 100 ⟨"CreasedPaper", "see", "(II)I"⟩) 861 (by decide +kernel) (by decide +kernel), ci_X10_see, cs_X10_see⟩
theorem cc_X4_tell : cC m_X4_tell 2 := ⟨tb_at (w := .code ⟨"CreasedPaper$Seen", "tell", "(II)I"⟩ prog_6_method_3_code 3 (some .int)) 868 (by decide +kernel) (by decide +kernel), tb_at (w := .initialized "CreasedPaper$Seen") 63 (by decide +kernel) (by decide +kernel), by decide +kernel, by decide⟩
theorem ci_X4_tell : Cond.instanceMethod m_X4_tell.1 ∈ TB := tb_at (w := .instanceMethod ⟨"CreasedPaper$Seen", "tell", "(II)I"⟩) 866 (by decide +kernel) (by decide +kernel)
theorem cs_X4_tell : Cond.selects m_X4_tell.1.cls m_X4_tell.1 m_X4_tell.1 ∈ TB := tb_at (w := .selects "CreasedPaper$Seen" ⟨"CreasedPaper$Seen", "tell", "(II)I"⟩ ⟨"CreasedPaper$Seen", "tell", "(II)I"⟩) 867 (by decide +kernel) (by decide +kernel)
theorem ml_X10_260 : cV "CreasedPaper" 260 m_X4_tell 2 := ⟨cc_X4_tell, tb_at (w := .methodLink "CreasedPaper" 260 ⟨"CreasedPaper$Seen", "tell", "(II)I"⟩) 865 (by decide +kernel) (by decide +kernel), ci_X4_tell, cs_X4_tell⟩
theorem cc_X10_look : cC m_X10_look 1 := ⟨tb_at (w := .code ⟨"CreasedPaper", "look", "(I)Z"⟩ prog_1_method_21_code 3 (some .boolean)) 872 (by decide +kernel) (by decide +kernel), tb_at (w := .initialized "CreasedPaper") 57 (by decide +kernel) (by decide +kernel), by decide +kernel, by decide⟩
theorem ci_X10_look : Cond.instanceMethod m_X10_look.1 ∈ TB := tb_at (w := .instanceMethod ⟨"CreasedPaper", "look", "(I)Z"⟩) 870 (by decide +kernel) (by decide +kernel)
theorem cs_X10_look : Cond.selects m_X10_look.1.cls m_X10_look.1 m_X10_look.1 ∈ TB := tb_at (w := .selects "CreasedPaper" ⟨"CreasedPaper", "look", "(I)Z"⟩ ⟨"CreasedPaper", "look", "(I)Z"⟩) 871 (by decide +kernel) (by decide +kernel)
theorem ml_L_104 : cV "CreasedPaperLaw" 104 m_X10_look 1 := ⟨cc_X10_look, tb_at (w := .methodLink "CreasedPaperLaw" 104 ⟨"CreasedPaper", "look", "(I)Z"⟩) 869 (by decide +kernel) (by decide +kernel), ci_X10_look, cs_X10_look⟩
theorem cc_X10_orders : cC m_X10_orders 4 := ⟨tb_at (w := .code ⟨"CreasedPaper", "orders", "(IIII)I"⟩ prog_1_method_22_code 5 (some .int)) 876 (by decide +kernel) (by decide +kernel), tb_at (w := .initialized "CreasedPaper") 57 (by decide +kernel) (by decide +kernel), by decide +kernel, by decide⟩
theorem ci_X10_orders : Cond.instanceMethod m_X10_orders.1 ∈ TB := tb_at (w := .instanceMethod ⟨"CreasedPaper", "orders", "(IIII)I"⟩) 874 (by decide +kernel) (by decide +kernel)
theorem cs_X10_orders : Cond.selects m_X10_orders.1.cls m_X10_orders.1 m_X10_orders.1 ∈ TB := tb_at (w := .selects "CreasedPaper" ⟨"CreasedPaper", "orders", "(IIII)I"⟩ ⟨"CreasedPaper", "orders", "(IIII)I"⟩) 875 (by decide +kernel) (by decide +kernel)
theorem ml_L_109 : cV "CreasedPaperLaw" 109 m_X10_orders 4 := ⟨cc_X10_orders, tb_at (w := .methodLink "CreasedPaperLaw" 109 ⟨"CreasedPaper", "orders", "(IIII)I"⟩) 873 (by decide +kernel) (by decide +kernel), ci_X10_orders, cs_X10_orders⟩
theorem cc_X10_isSearch : cC m_X10_isSearch 2 := ⟨tb_at (w := .code ⟨"CreasedPaper", "isSearch", "(II)Z"⟩ prog_1_method_30_code 2 (some .boolean)) 879 (by decide +kernel) (by decide +kernel), tb_at (w := .initialized "CreasedPaper") 57 (by decide +kernel) (by decide +kernel), by decide +kernel, by decide⟩
theorem ci_X10_isSearch : Cond.static m_X10_isSearch.1 ∈ TB := tb_at (w := .static ⟨"CreasedPaper", "isSearch", "(II)Z"⟩) 878 (by decide +kernel) (by decide +kernel)
theorem ml_X10_269 : cS "CreasedPaper" 269 m_X10_isSearch 2 := ⟨cc_X10_isSearch, tb_at (w := .methodLink "CreasedPaper" 269 ⟨"CreasedPaper", "isSearch", "(II)Z"⟩) 877 (by decide +kernel) (by decide +kernel), ci_X10_isSearch⟩
theorem cc_X3_take : cC m_X3_take 3 := ⟨tb_at (w := .code ⟨"CreasedPaper$Search", "take", "(IILCreasedPaper$Seen;)V"⟩ prog_5_method_2_code 6 none) 883 (by decide +kernel) (by decide +kernel), tb_at (w := .initialized "CreasedPaper$Search") 68 (by decide +kernel) (by decide +kernel), by decide +kernel, by decide⟩
theorem ci_X3_take : Cond.instanceMethod m_X3_take.1 ∈ TB := tb_at (w := .instanceMethod ⟨"CreasedPaper$Search", "take", "(IILCreasedPaper$Seen;)V"⟩) 881 (by decide +kernel) (by decide +kernel)
theorem cs_X3_take : Cond.selects m_X3_take.1.cls m_X3_take.1 m_X3_take.1 ∈ TB := tb_at (w := .selects "CreasedPaper$Search" ⟨"CreasedPaper$Search", "take", "(IILCreasedPaper$Seen;)V"⟩ ⟨"CreasedPaper$Search", "take", "(IILCreasedPaper$Seen;)V"⟩) 882 (by decide +kernel) (by decide +kernel)
theorem ml_X10_272 : cV "CreasedPaper" 272 m_X3_take 3 := ⟨cc_X3_take, tb_at (w := .methodLink "CreasedPaper" 272 ⟨"CreasedPaper$Search", "take", "(IILCreasedPaper$Seen;)V"⟩) 880 (by decide +kernel) (by decide +kernel), ci_X3_take, cs_X3_take⟩
theorem ml_X3_45 : cV "CreasedPaper$Search" 45 m_X7_layFlat 1 := ⟨cc_X7_layFlat, tb_at (w := .methodLink "CreasedPaper$Search" 45 ⟨"CreasedPaper$Strip", "layFlat", "(I)V"⟩) 884 (by decide +kernel) (by decide +kernel), ci_X7_layFlat, cs_X7_layFlat⟩
theorem cc_X4_signOf : cC m_X4_signOf 1 := ⟨tb_at (w := .code ⟨"CreasedPaper$Seen", "signOf", "(I)I"⟩ prog_6_method_4_code 3 (some .int)) 888 (by decide +kernel) (by decide +kernel), tb_at (w := .initialized "CreasedPaper$Seen") 63 (by decide +kernel) (by decide +kernel), by decide +kernel, by decide⟩
theorem ci_X4_signOf : Cond.instanceMethod m_X4_signOf.1 ∈ TB := tb_at (w := .instanceMethod ⟨"CreasedPaper$Seen", "signOf", "(I)I"⟩) 886 (by decide +kernel) (by decide +kernel)
theorem cs_X4_signOf : Cond.selects m_X4_signOf.1.cls m_X4_signOf.1 m_X4_signOf.1 ∈ TB := tb_at (w := .selects "CreasedPaper$Seen" ⟨"CreasedPaper$Seen", "signOf", "(I)I"⟩ ⟨"CreasedPaper$Seen", "signOf", "(I)I"⟩) 887 (by decide +kernel) (by decide +kernel)
theorem ml_X3_48 : cV "CreasedPaper$Search" 48 m_X4_signOf 1 := ⟨cc_X4_signOf, tb_at (w := .methodLink "CreasedPaper$Search" 48 ⟨"CreasedPaper$Seen", "signOf", "(I)I"⟩) 885 (by decide +kernel) (by decide +kernel), ci_X4_signOf, cs_X4_signOf⟩
theorem cc_X3_countFitting : cC m_X3_countFitting 0 := ⟨tb_at (w := .code ⟨"CreasedPaper$Search", "countFitting", "()I"⟩ prog_5_method_3_code 1 (some .int)) 893 (by decide +kernel) (by decide +kernel), tb_at (w := .initialized "CreasedPaper$Search") 68 (by decide +kernel) (by decide +kernel), by decide +kernel, by decide⟩
theorem ci_X3_countFitting : Cond.instanceMethod m_X3_countFitting.1 ∈ TB := tb_at (w := .instanceMethod ⟨"CreasedPaper$Search", "countFitting", "()I"⟩) 891 (by decide +kernel) (by decide +kernel)
theorem cs_X3_countFitting : Cond.selects m_X3_countFitting.1.cls m_X3_countFitting.1 m_X3_countFitting.1 ∈ TB := tb_at (w := .selects "CreasedPaper$Search" ⟨"CreasedPaper$Search", "countFitting", "()I"⟩ ⟨"CreasedPaper$Search", "countFitting", "()I"⟩) 892 (by decide +kernel) (by decide +kernel)
theorem ml_X10_275 : cV "CreasedPaper" 275 m_X3_countFitting 0 := ⟨cc_X3_countFitting, tb_at (w := .methodLink "CreasedPaper" 275 ⟨"CreasedPaper$Search", "countFitting", "()I"⟩) 890 (by decide +kernel) (by decide +kernel), ci_X3_countFitting, cs_X3_countFitting⟩
theorem cc_X3_goOn : cC m_X3_goOn 1 := ⟨tb_at (w := .code ⟨"CreasedPaper$Search", "goOn", "(I)Z"⟩ prog_5_method_6_code 5 (some .boolean)) 897 (by decide +kernel) (by decide +kernel), tb_at (w := .initialized "CreasedPaper$Search") 68 (by decide +kernel) (by decide +kernel), by decide +kernel, by decide⟩
theorem ci_X3_goOn : Cond.instanceMethod m_X3_goOn.1 ∈ TB := tb_at (w := .instanceMethod ⟨"CreasedPaper$Search", "goOn", "(I)Z"⟩) 896 (by decide +kernel) (by decide +kernel)
theorem cs_X3_goOn : Cond.selects m_X3_goOn.1.cls m_X3_goOn.1 m_X3_goOn.1 ∈ TB := tb_at (w := .selects "CreasedPaper$Search" ⟨"CreasedPaper$Search", "goOn", "(I)Z"⟩ ⟨"CreasedPaper$Search", "goOn", "(I)Z"⟩) 23 (by decide +kernel) (by decide +kernel)
theorem ml_X3_57 : cV "CreasedPaper$Search" 57 m_X3_goOn 1 := ⟨cc_X3_goOn, tb_at (w := .methodLink "CreasedPaper$Search" 57 ⟨"CreasedPaper$Search", "goOn", "(I)Z"⟩) 894 (by decide +kernel) (by decide +kernel), ci_X3_goOn, cs_X3_goOn⟩
theorem cc_X3_countIfFitting : cC m_X3_countIfFitting 0 := ⟨tb_at (w := .code ⟨"CreasedPaper$Search", "countIfFitting", "()Z"⟩ prog_5_method_8_code 3 (some .boolean)) 901 (by decide +kernel) (by decide +kernel), tb_at (w := .initialized "CreasedPaper$Search") 68 (by decide +kernel) (by decide +kernel), by decide +kernel, by decide⟩
theorem ci_X3_countIfFitting : Cond.instanceMethod m_X3_countIfFitting.1 ∈ TB := tb_at (w := .instanceMethod ⟨"CreasedPaper$Search", "countIfFitting", "()Z"⟩) 900 (by decide +kernel) (by decide +kernel)
theorem cs_X3_countIfFitting : Cond.selects m_X3_countIfFitting.1.cls m_X3_countIfFitting.1 m_X3_countIfFitting.1 ∈ TB := tb_at (w := .selects "CreasedPaper$Search" ⟨"CreasedPaper$Search", "countIfFitting", "()Z"⟩ ⟨"CreasedPaper$Search", "countIfFitting", "()Z"⟩) 24 (by decide +kernel) (by decide +kernel)
theorem ml_X3_71 : cV "CreasedPaper$Search" 71 m_X3_countIfFitting 0 := ⟨cc_X3_countIfFitting, tb_at (w := .methodLink "CreasedPaper$Search" 71 ⟨"CreasedPaper$Search", "countIfFitting", "()Z"⟩) 898 (by decide +kernel) (by decide +kernel), ci_X3_countIfFitting, cs_X3_countIfFitting⟩
theorem ml_X3_75 : cV "CreasedPaper$Search" 75 m_X7_lowestPlace 0 := ⟨cc_X7_lowestPlace, tb_at (w := .methodLink "CreasedPaper$Search" 75 ⟨"CreasedPaper$Strip", "lowestPlace", "()I"⟩) 902 (by decide +kernel) (by decide +kernel), ci_X7_lowestPlace, cs_X7_lowestPlace⟩
theorem ml_X3_78 : cV "CreasedPaper$Search" 78 m_X7_highestPlace 0 := ⟨cc_X7_highestPlace, tb_at (w := .methodLink "CreasedPaper$Search" 78 ⟨"CreasedPaper$Strip", "highestPlace", "()I"⟩) 904 (by decide +kernel) (by decide +kernel), ci_X7_highestPlace, cs_X7_highestPlace⟩
theorem cc_X3_goOnBy : cC m_X3_goOnBy 3 := ⟨tb_at (w := .code ⟨"CreasedPaper$Search", "goOnBy", "(IIZ)Z"⟩ prog_5_method_7_code 7 (some .boolean)) 909 (by decide +kernel) (by decide +kernel), tb_at (w := .initialized "CreasedPaper$Search") 68 (by decide +kernel) (by decide +kernel), by decide +kernel, by decide⟩
theorem ci_X3_goOnBy : Cond.instanceMethod m_X3_goOnBy.1 ∈ TB := tb_at (w := .instanceMethod ⟨"CreasedPaper$Search", "goOnBy", "(IIZ)Z"⟩) 908 (by decide +kernel) (by decide +kernel)
theorem cs_X3_goOnBy : Cond.selects m_X3_goOnBy.1.cls m_X3_goOnBy.1 m_X3_goOnBy.1 ∈ TB := tb_at (w := .selects "CreasedPaper$Search" ⟨"CreasedPaper$Search", "goOnBy", "(IIZ)Z"⟩ ⟨"CreasedPaper$Search", "goOnBy", "(IIZ)Z"⟩) 25 (by decide +kernel) (by decide +kernel)
theorem ml_X3_84 : cV "CreasedPaper$Search" 84 m_X3_goOnBy 3 := ⟨cc_X3_goOnBy, tb_at (w := .methodLink "CreasedPaper$Search" 84 ⟨"CreasedPaper$Search", "goOnBy", "(IIZ)Z"⟩) 906 (by decide +kernel) (by decide +kernel), ci_X3_goOnBy, cs_X3_goOnBy⟩
theorem cc_X7_copyFrom : cC m_X7_copyFrom 1 := ⟨tb_at (w := .code ⟨"CreasedPaper$Strip", "copyFrom", "(LCreasedPaper$Strip;)V"⟩ prog_9_method_3_code 2 none) 913 (by decide +kernel) (by decide +kernel), tb_at (w := .initialized "CreasedPaper$Strip") 60 (by decide +kernel) (by decide +kernel), by decide +kernel, by decide⟩
theorem ci_X7_copyFrom : Cond.instanceMethod m_X7_copyFrom.1 ∈ TB := tb_at (w := .instanceMethod ⟨"CreasedPaper$Strip", "copyFrom", "(LCreasedPaper$Strip;)V"⟩) 911 (by decide +kernel) (by decide +kernel)
theorem cs_X7_copyFrom : Cond.selects m_X7_copyFrom.1.cls m_X7_copyFrom.1 m_X7_copyFrom.1 ∈ TB := tb_at (w := .selects "CreasedPaper$Strip" ⟨"CreasedPaper$Strip", "copyFrom", "(LCreasedPaper$Strip;)V"⟩ ⟨"CreasedPaper$Strip", "copyFrom", "(LCreasedPaper$Strip;)V"⟩) 912 (by decide +kernel) (by decide +kernel)
theorem ml_X3_88 : cV "CreasedPaper$Search" 88 m_X7_copyFrom 1 := ⟨cc_X7_copyFrom, tb_at (w := .methodLink "CreasedPaper$Search" 88 ⟨"CreasedPaper$Strip", "copyFrom", "(LCreasedPaper$Strip;)V"⟩) 910 (by decide +kernel) (by decide +kernel), ci_X7_copyFrom, cs_X7_copyFrom⟩
theorem ml_X3_96 : cV "CreasedPaper$Search" 96 m_X7_crosses 2 := ⟨cc_X7_crosses, tb_at (w := .methodLink "CreasedPaper$Search" 96 ⟨"CreasedPaper$Strip", "crosses", "(II)Z"⟩) 917 (by decide +kernel) (by decide +kernel), ci_X7_crosses, cs_X7_crosses⟩
theorem ml_X3_100 : cV "CreasedPaper$Search" 100 m_X7_tally 0 := ⟨cc_X7_tally, tb_at (w := .methodLink "CreasedPaper$Search" 100 ⟨"CreasedPaper$Strip", "tally", "()V"⟩) 918 (by decide +kernel) (by decide +kernel), ci_X7_tally, cs_X7_tally⟩
theorem ml_X3_103 : cV "CreasedPaper$Search" 103 m_X7_turnOver 2 := ⟨cc_X7_turnOver, tb_at (w := .methodLink "CreasedPaper$Search" 103 ⟨"CreasedPaper$Strip", "turnOver", "(IZ)V"⟩) 919 (by decide +kernel) (by decide +kernel), ci_X7_turnOver, cs_X7_turnOver⟩
theorem cc_X3_findFitting : cC m_X3_findFitting 1 := ⟨tb_at (w := .code ⟨"CreasedPaper$Search", "findFitting", "(I)Z"⟩ prog_5_method_4_code 2 (some .boolean)) 923 (by decide +kernel) (by decide +kernel), tb_at (w := .initialized "CreasedPaper$Search") 68 (by decide +kernel) (by decide +kernel), by decide +kernel, by decide⟩
theorem ci_X3_findFitting : Cond.instanceMethod m_X3_findFitting.1 ∈ TB := tb_at (w := .instanceMethod ⟨"CreasedPaper$Search", "findFitting", "(I)Z"⟩) 921 (by decide +kernel) (by decide +kernel)
theorem cs_X3_findFitting : Cond.selects m_X3_findFitting.1.cls m_X3_findFitting.1 m_X3_findFitting.1 ∈ TB := tb_at (w := .selects "CreasedPaper$Search" ⟨"CreasedPaper$Search", "findFitting", "(I)Z"⟩ ⟨"CreasedPaper$Search", "findFitting", "(I)Z"⟩) 922 (by decide +kernel) (by decide +kernel)
theorem ml_X10_278 : cV "CreasedPaper" 278 m_X3_findFitting 1 := ⟨cc_X3_findFitting, tb_at (w := .methodLink "CreasedPaper" 278 ⟨"CreasedPaper$Search", "findFitting", "(I)Z"⟩) 920 (by decide +kernel) (by decide +kernel), ci_X3_findFitting, cs_X3_findFitting⟩
theorem cc_X10_next : cC m_X10_next 2 := ⟨tb_at (w := .code ⟨"CreasedPaper", "next", "(II)I"⟩ prog_1_method_23_code 3 (some .int)) 927 (by decide +kernel) (by decide +kernel), tb_at (w := .initialized "CreasedPaper") 57 (by decide +kernel) (by decide +kernel), by decide +kernel, by decide⟩
theorem ci_X10_next : Cond.instanceMethod m_X10_next.1 ∈ TB := tb_at (w := .instanceMethod ⟨"CreasedPaper", "next", "(II)I"⟩) 925 (by decide +kernel) (by decide +kernel)
theorem cs_X10_next : Cond.selects m_X10_next.1.cls m_X10_next.1 m_X10_next.1 ∈ TB := tb_at (w := .selects "CreasedPaper" ⟨"CreasedPaper", "next", "(II)I"⟩ ⟨"CreasedPaper", "next", "(II)I"⟩) 926 (by decide +kernel) (by decide +kernel)
theorem ml_L_113 : cV "CreasedPaperLaw" 113 m_X10_next 2 := ⟨cc_X10_next, tb_at (w := .methodLink "CreasedPaperLaw" 113 ⟨"CreasedPaper", "next", "(II)I"⟩) 924 (by decide +kernel) (by decide +kernel), ci_X10_next, cs_X10_next⟩
theorem cc_X3_bestPoint : cC m_X3_bestPoint 0 := ⟨tb_at (w := .code ⟨"CreasedPaper$Search", "bestPoint", "()I"⟩ prog_5_method_5_code 6 (some .int)) 931 (by decide +kernel) (by decide +kernel), tb_at (w := .initialized "CreasedPaper$Search") 68 (by decide +kernel) (by decide +kernel), by decide +kernel, by decide⟩
theorem ci_X3_bestPoint : Cond.instanceMethod m_X3_bestPoint.1 ∈ TB := tb_at (w := .instanceMethod ⟨"CreasedPaper$Search", "bestPoint", "()I"⟩) 929 (by decide +kernel) (by decide +kernel)
theorem cs_X3_bestPoint : Cond.selects m_X3_bestPoint.1.cls m_X3_bestPoint.1 m_X3_bestPoint.1 ∈ TB := tb_at (w := .selects "CreasedPaper$Search" ⟨"CreasedPaper$Search", "bestPoint", "()I"⟩ ⟨"CreasedPaper$Search", "bestPoint", "()I"⟩) 930 (by decide +kernel) (by decide +kernel)
theorem ml_X10_284 : cV "CreasedPaper" 284 m_X3_bestPoint 0 := ⟨cc_X3_bestPoint, tb_at (w := .methodLink "CreasedPaper" 284 ⟨"CreasedPaper$Search", "bestPoint", "()I"⟩) 928 (by decide +kernel) (by decide +kernel), ci_X3_bestPoint, cs_X3_bestPoint⟩
theorem ml_X3_61 : cV "CreasedPaper$Search" 61 m_X3_countFitting 0 := ⟨cc_X3_countFitting, tb_at (w := .methodLink "CreasedPaper$Search" 61 ⟨"CreasedPaper$Search", "countFitting", "()I"⟩) 932 (by decide +kernel) (by decide +kernel), ci_X3_countFitting, cs_X3_countFitting⟩
theorem cc_X10_image : cC m_X10_image 0 := ⟨tb_at (w := .code ⟨"CreasedPaper", "image", "()I"⟩ prog_1_method_24_code 1 (some .int)) 936 (by decide +kernel) (by decide +kernel), tb_at (w := .initialized "CreasedPaper") 57 (by decide +kernel) (by decide +kernel), by decide +kernel, by decide⟩
theorem ci_X10_image : Cond.instanceMethod m_X10_image.1 ∈ TB := tb_at (w := .instanceMethod ⟨"CreasedPaper", "image", "()I"⟩) 934 (by decide +kernel) (by decide +kernel)
theorem cs_X10_image : Cond.selects m_X10_image.1.cls m_X10_image.1 m_X10_image.1 ∈ TB := tb_at (w := .selects "CreasedPaper" ⟨"CreasedPaper", "image", "()I"⟩ ⟨"CreasedPaper", "image", "()I"⟩) 935 (by decide +kernel) (by decide +kernel)
theorem ml_L_117 : cV "CreasedPaperLaw" 117 m_X10_image 0 := ⟨cc_X10_image, tb_at (w := .methodLink "CreasedPaperLaw" 117 ⟨"CreasedPaper", "image", "()I"⟩) 933 (by decide +kernel) (by decide +kernel), ci_X10_image, cs_X10_image⟩
theorem cc_X2_copyFrom : cC m_X2_copyFrom 1 := ⟨tb_at (w := .code ⟨"CreasedPaper$Paper", "copyFrom", "(LCreasedPaper$Paper;)V"⟩ prog_4_method_2_code 2 none) 940 (by decide +kernel) (by decide +kernel), tb_at (w := .initialized "CreasedPaper$Paper") 59 (by decide +kernel) (by decide +kernel), by decide +kernel, by decide⟩
theorem ci_X2_copyFrom : Cond.instanceMethod m_X2_copyFrom.1 ∈ TB := tb_at (w := .instanceMethod ⟨"CreasedPaper$Paper", "copyFrom", "(LCreasedPaper$Paper;)V"⟩) 938 (by decide +kernel) (by decide +kernel)
theorem cs_X2_copyFrom : Cond.selects m_X2_copyFrom.1.cls m_X2_copyFrom.1 m_X2_copyFrom.1 ∈ TB := tb_at (w := .selects "CreasedPaper$Paper" ⟨"CreasedPaper$Paper", "copyFrom", "(LCreasedPaper$Paper;)V"⟩ ⟨"CreasedPaper$Paper", "copyFrom", "(LCreasedPaper$Paper;)V"⟩) 939 (by decide +kernel) (by decide +kernel)
theorem ml_X10_287 : cV "CreasedPaper" 287 m_X2_copyFrom 1 := ⟨cc_X2_copyFrom, tb_at (w := .methodLink "CreasedPaper" 287 ⟨"CreasedPaper$Paper", "copyFrom", "(LCreasedPaper$Paper;)V"⟩) 937 (by decide +kernel) (by decide +kernel), ci_X2_copyFrom, cs_X2_copyFrom⟩
theorem ml_X2_40 : cV "CreasedPaper$Paper" 40 m_X7_copyFrom 1 := ⟨cc_X7_copyFrom, tb_at (w := .methodLink "CreasedPaper$Paper" 40 ⟨"CreasedPaper$Strip", "copyFrom", "(LCreasedPaper$Strip;)V"⟩) 941 (by decide +kernel) (by decide +kernel), ci_X7_copyFrom, cs_X7_copyFrom⟩
theorem cc_X0_copyFrom : cC m_X0_copyFrom 1 := ⟨tb_at (w := .code ⟨"CreasedPaper$Creases", "copyFrom", "(LCreasedPaper$Creases;)V"⟩ prog_2_method_2_code 3 none) 945 (by decide +kernel) (by decide +kernel), tb_at (w := .initialized "CreasedPaper$Creases") 61 (by decide +kernel) (by decide +kernel), by decide +kernel, by decide⟩
theorem ci_X0_copyFrom : Cond.instanceMethod m_X0_copyFrom.1 ∈ TB := tb_at (w := .instanceMethod ⟨"CreasedPaper$Creases", "copyFrom", "(LCreasedPaper$Creases;)V"⟩) 943 (by decide +kernel) (by decide +kernel)
theorem cs_X0_copyFrom : Cond.selects m_X0_copyFrom.1.cls m_X0_copyFrom.1 m_X0_copyFrom.1 ∈ TB := tb_at (w := .selects "CreasedPaper$Creases" ⟨"CreasedPaper$Creases", "copyFrom", "(LCreasedPaper$Creases;)V"⟩ ⟨"CreasedPaper$Creases", "copyFrom", "(LCreasedPaper$Creases;)V"⟩) 944 (by decide +kernel) (by decide +kernel)
theorem ml_X2_44 : cV "CreasedPaper$Paper" 44 m_X0_copyFrom 1 := ⟨cc_X0_copyFrom, tb_at (w := .methodLink "CreasedPaper$Paper" 44 ⟨"CreasedPaper$Creases", "copyFrom", "(LCreasedPaper$Creases;)V"⟩) 942 (by decide +kernel) (by decide +kernel), ci_X0_copyFrom, cs_X0_copyFrom⟩
theorem cc_X6_copyFrom : cC m_X6_copyFrom 1 := ⟨tb_at (w := .code ⟨"CreasedPaper$Sheets", "copyFrom", "(LCreasedPaper$Sheets;)V"⟩ prog_8_method_2_code 2 none) 951 (by decide +kernel) (by decide +kernel), tb_at (w := .initialized "CreasedPaper$Sheets") 62 (by decide +kernel) (by decide +kernel), by decide +kernel, by decide⟩
theorem ci_X6_copyFrom : Cond.instanceMethod m_X6_copyFrom.1 ∈ TB := tb_at (w := .instanceMethod ⟨"CreasedPaper$Sheets", "copyFrom", "(LCreasedPaper$Sheets;)V"⟩) 949 (by decide +kernel) (by decide +kernel)
theorem cs_X6_copyFrom : Cond.selects m_X6_copyFrom.1.cls m_X6_copyFrom.1 m_X6_copyFrom.1 ∈ TB := tb_at (w := .selects "CreasedPaper$Sheets" ⟨"CreasedPaper$Sheets", "copyFrom", "(LCreasedPaper$Sheets;)V"⟩ ⟨"CreasedPaper$Sheets", "copyFrom", "(LCreasedPaper$Sheets;)V"⟩) 950 (by decide +kernel) (by decide +kernel)
theorem ml_X10_291 : cV "CreasedPaper" 291 m_X6_copyFrom 1 := ⟨cc_X6_copyFrom, tb_at (w := .methodLink "CreasedPaper" 291 ⟨"CreasedPaper$Sheets", "copyFrom", "(LCreasedPaper$Sheets;)V"⟩) 948 (by decide +kernel) (by decide +kernel), ci_X6_copyFrom, cs_X6_copyFrom⟩
theorem cc_X4_copyFrom : cC m_X4_copyFrom 1 := ⟨tb_at (w := .code ⟨"CreasedPaper$Seen", "copyFrom", "(LCreasedPaper$Seen;)V"⟩ prog_6_method_2_code 2 none) 956 (by decide +kernel) (by decide +kernel), tb_at (w := .initialized "CreasedPaper$Seen") 63 (by decide +kernel) (by decide +kernel), by decide +kernel, by decide⟩
theorem ci_X4_copyFrom : Cond.instanceMethod m_X4_copyFrom.1 ∈ TB := tb_at (w := .instanceMethod ⟨"CreasedPaper$Seen", "copyFrom", "(LCreasedPaper$Seen;)V"⟩) 954 (by decide +kernel) (by decide +kernel)
theorem cs_X4_copyFrom : Cond.selects m_X4_copyFrom.1.cls m_X4_copyFrom.1 m_X4_copyFrom.1 ∈ TB := tb_at (w := .selects "CreasedPaper$Seen" ⟨"CreasedPaper$Seen", "copyFrom", "(LCreasedPaper$Seen;)V"⟩ ⟨"CreasedPaper$Seen", "copyFrom", "(LCreasedPaper$Seen;)V"⟩) 955 (by decide +kernel) (by decide +kernel)
theorem ml_X10_294 : cV "CreasedPaper" 294 m_X4_copyFrom 1 := ⟨cc_X4_copyFrom, tb_at (w := .methodLink "CreasedPaper" 294 ⟨"CreasedPaper$Seen", "copyFrom", "(LCreasedPaper$Seen;)V"⟩) 953 (by decide +kernel) (by decide +kernel), ci_X4_copyFrom, cs_X4_copyFrom⟩
theorem cc_X10_back : cC m_X10_back 0 := ⟨tb_at (w := .code ⟨"CreasedPaper", "back", "()I"⟩ prog_1_method_25_code 1 (some .int)) 961 (by decide +kernel) (by decide +kernel), tb_at (w := .initialized "CreasedPaper") 57 (by decide +kernel) (by decide +kernel), by decide +kernel, by decide⟩
theorem ci_X10_back : Cond.instanceMethod m_X10_back.1 ∈ TB := tb_at (w := .instanceMethod ⟨"CreasedPaper", "back", "()I"⟩) 959 (by decide +kernel) (by decide +kernel)
theorem cs_X10_back : Cond.selects m_X10_back.1.cls m_X10_back.1 m_X10_back.1 ∈ TB := tb_at (w := .selects "CreasedPaper" ⟨"CreasedPaper", "back", "()I"⟩ ⟨"CreasedPaper", "back", "()I"⟩) 960 (by decide +kernel) (by decide +kernel)
theorem ml_L_121 : cV "CreasedPaperLaw" 121 m_X10_back 0 := ⟨cc_X10_back, tb_at (w := .methodLink "CreasedPaperLaw" 121 ⟨"CreasedPaper", "back", "()I"⟩) 958 (by decide +kernel) (by decide +kernel), ci_X10_back, cs_X10_back⟩
theorem cc_X10_about : cC m_X10_about 1 := ⟨tb_at (w := .code ⟨"CreasedPaper", "about", "(I)I"⟩ prog_1_method_26_code 2 (some .int)) 965 (by decide +kernel) (by decide +kernel), tb_at (w := .initialized "CreasedPaper") 57 (by decide +kernel) (by decide +kernel), by decide +kernel, by decide⟩
theorem ci_X10_about : Cond.instanceMethod m_X10_about.1 ∈ TB := tb_at (w := .instanceMethod ⟨"CreasedPaper", "about", "(I)I"⟩) 963 (by decide +kernel) (by decide +kernel)
theorem cs_X10_about : Cond.selects m_X10_about.1.cls m_X10_about.1 m_X10_about.1 ∈ TB := tb_at (w := .selects "CreasedPaper" ⟨"CreasedPaper", "about", "(I)I"⟩ ⟨"CreasedPaper", "about", "(I)I"⟩) 964 (by decide +kernel) (by decide +kernel)
theorem ml_L_125 : cV "CreasedPaperLaw" 125 m_X10_about 1 := ⟨cc_X10_about, tb_at (w := .methodLink "CreasedPaperLaw" 125 ⟨"CreasedPaper", "about", "(I)I"⟩) 962 (by decide +kernel) (by decide +kernel), ci_X10_about, cs_X10_about⟩
theorem cc_X0_countCreased : cC m_X0_countCreased 0 := ⟨tb_at (w := .code ⟨"CreasedPaper$Creases", "countCreased", "()I"⟩ prog_2_method_6_code 3 (some .int)) 969 (by decide +kernel) (by decide +kernel), tb_at (w := .initialized "CreasedPaper$Creases") 61 (by decide +kernel) (by decide +kernel), by decide +kernel, by decide⟩
theorem ci_X0_countCreased : Cond.instanceMethod m_X0_countCreased.1 ∈ TB := tb_at (w := .instanceMethod ⟨"CreasedPaper$Creases", "countCreased", "()I"⟩) 967 (by decide +kernel) (by decide +kernel)
theorem cs_X0_countCreased : Cond.selects m_X0_countCreased.1.cls m_X0_countCreased.1 m_X0_countCreased.1 ∈ TB := tb_at (w := .selects "CreasedPaper$Creases" ⟨"CreasedPaper$Creases", "countCreased", "()I"⟩ ⟨"CreasedPaper$Creases", "countCreased", "()I"⟩) 968 (by decide +kernel) (by decide +kernel)
theorem ml_X10_300 : cV "CreasedPaper" 300 m_X0_countCreased 0 := ⟨cc_X0_countCreased, tb_at (w := .methodLink "CreasedPaper" 300 ⟨"CreasedPaper$Creases", "countCreased", "()I"⟩) 966 (by decide +kernel) (by decide +kernel), ci_X0_countCreased, cs_X0_countCreased⟩
theorem cc_X0_countTorn : cC m_X0_countTorn 0 := ⟨tb_at (w := .code ⟨"CreasedPaper$Creases", "countTorn", "()I"⟩ prog_2_method_7_code 3 (some .int)) 973 (by decide +kernel) (by decide +kernel), tb_at (w := .initialized "CreasedPaper$Creases") 61 (by decide +kernel) (by decide +kernel), by decide +kernel, by decide⟩
theorem ci_X0_countTorn : Cond.instanceMethod m_X0_countTorn.1 ∈ TB := tb_at (w := .instanceMethod ⟨"CreasedPaper$Creases", "countTorn", "()I"⟩) 971 (by decide +kernel) (by decide +kernel)
theorem cs_X0_countTorn : Cond.selects m_X0_countTorn.1.cls m_X0_countTorn.1 m_X0_countTorn.1 ∈ TB := tb_at (w := .selects "CreasedPaper$Creases" ⟨"CreasedPaper$Creases", "countTorn", "()I"⟩ ⟨"CreasedPaper$Creases", "countTorn", "()I"⟩) 972 (by decide +kernel) (by decide +kernel)
theorem ml_X10_303 : cV "CreasedPaper" 303 m_X0_countTorn 0 := ⟨cc_X0_countTorn, tb_at (w := .methodLink "CreasedPaper" 303 ⟨"CreasedPaper$Creases", "countTorn", "()I"⟩) 970 (by decide +kernel) (by decide +kernel), ci_X0_countTorn, cs_X0_countTorn⟩
theorem ml_X10_309 : cV "CreasedPaper" 309 m_X7_lowestPlace 0 := ⟨cc_X7_lowestPlace, tb_at (w := .methodLink "CreasedPaper" 309 ⟨"CreasedPaper$Strip", "lowestPlace", "()I"⟩) 974 (by decide +kernel) (by decide +kernel), ci_X7_lowestPlace, cs_X7_lowestPlace⟩
theorem ml_X10_312 : cV "CreasedPaper" 312 m_X7_highestPlace 0 := ⟨cc_X7_highestPlace, tb_at (w := .methodLink "CreasedPaper" 312 ⟨"CreasedPaper$Strip", "highestPlace", "()I"⟩) 975 (by decide +kernel) (by decide +kernel), ci_X7_highestPlace, cs_X7_highestPlace⟩
theorem cc_L_cell : cC m_L_cell 2 := ⟨tb_at (w := .code ⟨"CreasedPaperLaw", "cell", "([II)I"⟩ method_2_code 2 (some .int)) 978 (by decide +kernel) (by decide +kernel), tb_at (w := .initialized "CreasedPaperLaw") 56 (by decide +kernel) (by decide +kernel), by decide +kernel, by decide⟩
theorem ci_L_cell : Cond.static m_L_cell.1 ∈ TB := tb_at (w := .static ⟨"CreasedPaperLaw", "cell", "([II)I"⟩) 977 (by decide +kernel) (by decide +kernel)
theorem ml_L_9 : cS "CreasedPaperLaw" 9 m_L_cell 2 := ⟨cc_L_cell, tb_at (w := .methodLink "CreasedPaperLaw" 9 ⟨"CreasedPaperLaw", "cell", "([II)I"⟩) 976 (by decide +kernel) (by decide +kernel), ci_L_cell⟩
theorem cc_X11_init : cC m_X11_init 1 := ⟨tb_at (w := .code ⟨"CreasedPaperModel", "<init>", "(I)V"⟩ prog_13_method_1_code 3 none) 983 (by decide +kernel) (by decide +kernel), tb_at (w := .initialized "CreasedPaperModel") 69 (by decide +kernel) (by decide +kernel), by decide +kernel, by decide⟩
theorem ci_X11_init : Cond.instanceMethod m_X11_init.1 ∈ TB := tb_at (w := .instanceMethod ⟨"CreasedPaperModel", "<init>", "(I)V"⟩) 982 (by decide +kernel) (by decide +kernel)
theorem ml_L_20 : cI "CreasedPaperLaw" 20 m_X11_init 1 := ⟨cc_X11_init, tb_at (w := .methodLink "CreasedPaperLaw" 20 ⟨"CreasedPaperModel", "<init>", "(I)V"⟩) 981 (by decide +kernel) (by decide +kernel), ci_X11_init⟩
theorem cc_X11_flatten : cC m_X11_flatten 0 := ⟨tb_at (w := .code ⟨"CreasedPaperModel", "flatten", "()V"⟩ prog_13_method_5_code 2 none) 988 (by decide +kernel) (by decide +kernel), tb_at (w := .initialized "CreasedPaperModel") 69 (by decide +kernel) (by decide +kernel), by decide +kernel, by decide⟩
theorem ci_X11_flatten : Cond.instanceMethod m_X11_flatten.1 ∈ TB := tb_at (w := .instanceMethod ⟨"CreasedPaperModel", "flatten", "()V"⟩) 987 (by decide +kernel) (by decide +kernel)
theorem cs_X11_flatten : Cond.selects m_X11_flatten.1.cls m_X11_flatten.1 m_X11_flatten.1 ∈ TB := tb_at (w := .selects "CreasedPaperModel" ⟨"CreasedPaperModel", "flatten", "()V"⟩ ⟨"CreasedPaperModel", "flatten", "()V"⟩) 26 (by decide +kernel) (by decide +kernel)
theorem ml_X11_74 : cV "CreasedPaperModel" 74 m_X11_flatten 0 := ⟨cc_X11_flatten, tb_at (w := .methodLink "CreasedPaperModel" 74 ⟨"CreasedPaperModel", "flatten", "()V"⟩) 985 (by decide +kernel) (by decide +kernel), ci_X11_flatten, cs_X11_flatten⟩
theorem cc_X11_copy : cC m_X11_copy 2 := ⟨tb_at (w := .code ⟨"CreasedPaperModel", "copy", "([I[I)V"⟩ prog_13_method_2_code 3 none) 991 (by decide +kernel) (by decide +kernel), tb_at (w := .initialized "CreasedPaperModel") 69 (by decide +kernel) (by decide +kernel), by decide +kernel, by decide⟩
theorem ci_X11_copy : Cond.static m_X11_copy.1 ∈ TB := tb_at (w := .static ⟨"CreasedPaperModel", "copy", "([I[I)V"⟩) 990 (by decide +kernel) (by decide +kernel)
theorem ml_X11_77 : cS "CreasedPaperModel" 77 m_X11_copy 2 := ⟨cc_X11_copy, tb_at (w := .methodLink "CreasedPaperModel" 77 ⟨"CreasedPaperModel", "copy", "([I[I)V"⟩) 989 (by decide +kernel) (by decide +kernel), ci_X11_copy⟩
theorem cc_X11_rules : cC m_X11_rules 4 := ⟨tb_at (w := .code ⟨"CreasedPaperModel", "rules", "(IIII)Z"⟩ prog_13_method_6_code 5 (some .boolean)) 1083 (by decide +kernel) (by decide +kernel), tb_at (w := .initialized "CreasedPaperModel") 69 (by decide +kernel) (by decide +kernel), by decide +kernel, by decide⟩
theorem ci_X11_rules : Cond.instanceMethod m_X11_rules.1 ∈ TB := tb_at (w := .instanceMethod ⟨"CreasedPaperModel", "rules", "(IIII)Z"⟩) 1081 (by decide +kernel) (by decide +kernel)
theorem cs_X11_rules : Cond.selects m_X11_rules.1.cls m_X11_rules.1 m_X11_rules.1 ∈ TB := tb_at (w := .selects "CreasedPaperModel" ⟨"CreasedPaperModel", "rules", "(IIII)Z"⟩ ⟨"CreasedPaperModel", "rules", "(IIII)Z"⟩) 1082 (by decide +kernel) (by decide +kernel)
theorem ml_L_25 : cV "CreasedPaperLaw" 25 m_X11_rules 4 := ⟨cc_X11_rules, tb_at (w := .methodLink "CreasedPaperLaw" 25 ⟨"CreasedPaperModel", "rules", "(IIII)Z"⟩) 1080 (by decide +kernel) (by decide +kernel), ci_X11_rules, cs_X11_rules⟩
theorem cc_X11_isIn : cC m_X11_isIn 3 := ⟨tb_at (w := .code ⟨"CreasedPaperModel", "isIn", "(III)Z"⟩ prog_13_method_3_code 3 (some .boolean)) 1086 (by decide +kernel) (by decide +kernel), tb_at (w := .initialized "CreasedPaperModel") 69 (by decide +kernel) (by decide +kernel), by decide +kernel, by decide⟩
theorem ci_X11_isIn : Cond.static m_X11_isIn.1 ∈ TB := tb_at (w := .static ⟨"CreasedPaperModel", "isIn", "(III)Z"⟩) 1085 (by decide +kernel) (by decide +kernel)
theorem ml_X11_81 : cS "CreasedPaperModel" 81 m_X11_isIn 3 := ⟨cc_X11_isIn, tb_at (w := .methodLink "CreasedPaperModel" 81 ⟨"CreasedPaperModel", "isIn", "(III)Z"⟩) 1084 (by decide +kernel) (by decide +kernel), ci_X11_isIn⟩
theorem cc_X11_layers : cC m_X11_layers 1 := ⟨tb_at (w := .code ⟨"CreasedPaperModel", "layers", "(I)I"⟩ prog_13_method_7_code 4 (some .int)) 1090 (by decide +kernel) (by decide +kernel), tb_at (w := .initialized "CreasedPaperModel") 69 (by decide +kernel) (by decide +kernel), by decide +kernel, by decide⟩
theorem ci_X11_layers : Cond.instanceMethod m_X11_layers.1 ∈ TB := tb_at (w := .instanceMethod ⟨"CreasedPaperModel", "layers", "(I)I"⟩) 1088 (by decide +kernel) (by decide +kernel)
theorem cs_X11_layers : Cond.selects m_X11_layers.1.cls m_X11_layers.1 m_X11_layers.1 ∈ TB := tb_at (w := .selects "CreasedPaperModel" ⟨"CreasedPaperModel", "layers", "(I)I"⟩ ⟨"CreasedPaperModel", "layers", "(I)I"⟩) 1089 (by decide +kernel) (by decide +kernel)
theorem ml_L_48 : cV "CreasedPaperLaw" 48 m_X11_layers 1 := ⟨cc_X11_layers, tb_at (w := .methodLink "CreasedPaperLaw" 48 ⟨"CreasedPaperModel", "layers", "(I)I"⟩) 1087 (by decide +kernel) (by decide +kernel), ci_X11_layers, cs_X11_layers⟩
theorem cc_X11_at : cC m_X11_at 2 := ⟨tb_at (w := .code ⟨"CreasedPaperModel", "at", "(II)I"⟩ prog_13_method_8_code 4 (some .int)) 1094 (by decide +kernel) (by decide +kernel), tb_at (w := .initialized "CreasedPaperModel") 69 (by decide +kernel) (by decide +kernel), by decide +kernel, by decide⟩
theorem ci_X11_at : Cond.instanceMethod m_X11_at.1 ∈ TB := tb_at (w := .instanceMethod ⟨"CreasedPaperModel", "at", "(II)I"⟩) 1092 (by decide +kernel) (by decide +kernel)
theorem cs_X11_at : Cond.selects m_X11_at.1.cls m_X11_at.1 m_X11_at.1 ∈ TB := tb_at (w := .selects "CreasedPaperModel" ⟨"CreasedPaperModel", "at", "(II)I"⟩ ⟨"CreasedPaperModel", "at", "(II)I"⟩) 1093 (by decide +kernel) (by decide +kernel)
theorem ml_L_52 : cV "CreasedPaperLaw" 52 m_X11_at 2 := ⟨cc_X11_at, tb_at (w := .methodLink "CreasedPaperLaw" 52 ⟨"CreasedPaperModel", "at", "(II)I"⟩) 1091 (by decide +kernel) (by decide +kernel), ci_X11_at, cs_X11_at⟩
theorem cc_X11_fold : cC m_X11_fold 2 := ⟨tb_at (w := .code ⟨"CreasedPaperModel", "fold", "(IZ)I"⟩ prog_13_method_14_code 10 (some .int)) 1098 (by decide +kernel) (by decide +kernel), tb_at (w := .initialized "CreasedPaperModel") 69 (by decide +kernel) (by decide +kernel), by decide +kernel, by decide⟩
theorem ci_X11_fold : Cond.instanceMethod m_X11_fold.1 ∈ TB := tb_at (w := .instanceMethod ⟨"CreasedPaperModel", "fold", "(IZ)I"⟩) 1096 (by decide +kernel) (by decide +kernel)
theorem cs_X11_fold : Cond.selects m_X11_fold.1.cls m_X11_fold.1 m_X11_fold.1 ∈ TB := tb_at (w := .selects "CreasedPaperModel" ⟨"CreasedPaperModel", "fold", "(IZ)I"⟩ ⟨"CreasedPaperModel", "fold", "(IZ)I"⟩) 1097 (by decide +kernel) (by decide +kernel)
theorem ml_L_30 : cV "CreasedPaperLaw" 30 m_X11_fold 2 := ⟨cc_X11_fold, tb_at (w := .methodLink "CreasedPaperLaw" 30 ⟨"CreasedPaperModel", "fold", "(IZ)I"⟩) 1095 (by decide +kernel) (by decide +kernel), ci_X11_fold, cs_X11_fold⟩
theorem cc_X11_against : cC m_X11_against 2 := ⟨tb_at (w := .code ⟨"CreasedPaperModel", "against", "(IZ)I"⟩ prog_13_method_13_code 9 (some .int)) 1102 (by decide +kernel) (by decide +kernel), tb_at (w := .initialized "CreasedPaperModel") 69 (by decide +kernel) (by decide +kernel), by decide +kernel, by decide⟩
theorem ci_X11_against : Cond.instanceMethod m_X11_against.1 ∈ TB := tb_at (w := .instanceMethod ⟨"CreasedPaperModel", "against", "(IZ)I"⟩) 1101 (by decide +kernel) (by decide +kernel)
theorem cs_X11_against : Cond.selects m_X11_against.1.cls m_X11_against.1 m_X11_against.1 ∈ TB := tb_at (w := .selects "CreasedPaperModel" ⟨"CreasedPaperModel", "against", "(IZ)I"⟩ ⟨"CreasedPaperModel", "against", "(IZ)I"⟩) 27 (by decide +kernel) (by decide +kernel)
theorem ml_X11_98 : cV "CreasedPaperModel" 98 m_X11_against 2 := ⟨cc_X11_against, tb_at (w := .methodLink "CreasedPaperModel" 98 ⟨"CreasedPaperModel", "against", "(IZ)I"⟩) 1099 (by decide +kernel) (by decide +kernel), ci_X11_against, cs_X11_against⟩
theorem cc_X11_moves : cC m_X11_moves 3 := ⟨tb_at (w := .code ⟨"CreasedPaperModel", "moves", "(IIZ)Z"⟩ prog_13_method_9_code 3 (some .boolean)) 1105 (by decide +kernel) (by decide +kernel), tb_at (w := .initialized "CreasedPaperModel") 69 (by decide +kernel) (by decide +kernel), by decide +kernel, by decide⟩
theorem ci_X11_moves : Cond.static m_X11_moves.1 ∈ TB := tb_at (w := .static ⟨"CreasedPaperModel", "moves", "(IIZ)Z"⟩) 1104 (by decide +kernel) (by decide +kernel)
theorem ml_X11_89 : cS "CreasedPaperModel" 89 m_X11_moves 3 := ⟨cc_X11_moves, tb_at (w := .methodLink "CreasedPaperModel" 89 ⟨"CreasedPaperModel", "moves", "(IIZ)Z"⟩) 1103 (by decide +kernel) (by decide +kernel), ci_X11_moves⟩
theorem cc_X11_creases : cC m_X11_creases 2 := ⟨tb_at (w := .code ⟨"CreasedPaperModel", "creases", "(II)Z"⟩ prog_13_method_10_code 5 (some .boolean)) 1109 (by decide +kernel) (by decide +kernel), tb_at (w := .initialized "CreasedPaperModel") 69 (by decide +kernel) (by decide +kernel), by decide +kernel, by decide⟩
theorem ci_X11_creases : Cond.instanceMethod m_X11_creases.1 ∈ TB := tb_at (w := .instanceMethod ⟨"CreasedPaperModel", "creases", "(II)Z"⟩) 1108 (by decide +kernel) (by decide +kernel)
theorem cs_X11_creases : Cond.selects m_X11_creases.1.cls m_X11_creases.1 m_X11_creases.1 ∈ TB := tb_at (w := .selects "CreasedPaperModel" ⟨"CreasedPaperModel", "creases", "(II)Z"⟩ ⟨"CreasedPaperModel", "creases", "(II)Z"⟩) 28 (by decide +kernel) (by decide +kernel)
theorem ml_X11_93 : cV "CreasedPaperModel" 93 m_X11_creases 2 := ⟨cc_X11_creases, tb_at (w := .methodLink "CreasedPaperModel" 93 ⟨"CreasedPaperModel", "creases", "(II)Z"⟩) 1106 (by decide +kernel) (by decide +kernel), ci_X11_creases, cs_X11_creases⟩
theorem ml_X11_102 : cV "CreasedPaperModel" 102 m_X11_layers 1 := ⟨cc_X11_layers, tb_at (w := .methodLink "CreasedPaperModel" 102 ⟨"CreasedPaperModel", "layers", "(I)I"⟩) 1111 (by decide +kernel) (by decide +kernel), ci_X11_layers, cs_X11_layers⟩
theorem cc_X11_staying : cC m_X11_staying 3 := ⟨tb_at (w := .code ⟨"CreasedPaperModel", "staying", "(IIZ)I"⟩ prog_13_method_15_code 4 (some .int)) 1115 (by decide +kernel) (by decide +kernel), tb_at (w := .initialized "CreasedPaperModel") 69 (by decide +kernel) (by decide +kernel), by decide +kernel, by decide⟩
theorem ci_X11_staying : Cond.instanceMethod m_X11_staying.1 ∈ TB := tb_at (w := .instanceMethod ⟨"CreasedPaperModel", "staying", "(IIZ)I"⟩) 1114 (by decide +kernel) (by decide +kernel)
theorem cs_X11_staying : Cond.selects m_X11_staying.1.cls m_X11_staying.1 m_X11_staying.1 ∈ TB := tb_at (w := .selects "CreasedPaperModel" ⟨"CreasedPaperModel", "staying", "(IIZ)I"⟩ ⟨"CreasedPaperModel", "staying", "(IIZ)I"⟩) 29 (by decide +kernel) (by decide +kernel)
theorem ml_X11_106 : cV "CreasedPaperModel" 106 m_X11_staying 3 := ⟨cc_X11_staying, tb_at (w := .methodLink "CreasedPaperModel" 106 ⟨"CreasedPaperModel", "staying", "(IIZ)I"⟩) 1112 (by decide +kernel) (by decide +kernel), ci_X11_staying, cs_X11_staying⟩
theorem cc_X11_pass : cC m_X11_pass 1 := ⟨tb_at (w := .code ⟨"CreasedPaperModel", "pass", "(I)V"⟩ prog_13_method_12_code 5 none) 1119 (by decide +kernel) (by decide +kernel), tb_at (w := .initialized "CreasedPaperModel") 69 (by decide +kernel) (by decide +kernel), by decide +kernel, by decide⟩
theorem ci_X11_pass : Cond.instanceMethod m_X11_pass.1 ∈ TB := tb_at (w := .instanceMethod ⟨"CreasedPaperModel", "pass", "(I)V"⟩) 1118 (by decide +kernel) (by decide +kernel)
theorem cs_X11_pass : Cond.selects m_X11_pass.1.cls m_X11_pass.1 m_X11_pass.1 ∈ TB := tb_at (w := .selects "CreasedPaperModel" ⟨"CreasedPaperModel", "pass", "(I)V"⟩ ⟨"CreasedPaperModel", "pass", "(I)V"⟩) 30 (by decide +kernel) (by decide +kernel)
theorem ml_X11_110 : cV "CreasedPaperModel" 110 m_X11_pass 1 := ⟨cc_X11_pass, tb_at (w := .methodLink "CreasedPaperModel" 110 ⟨"CreasedPaperModel", "pass", "(I)V"⟩) 1116 (by decide +kernel) (by decide +kernel), ci_X11_pass, cs_X11_pass⟩
theorem cc_X11_isFolded : cC m_X11_isFolded 1 := ⟨tb_at (w := .code ⟨"CreasedPaperModel", "isFolded", "(I)Z"⟩ prog_13_method_11_code 2 (some .boolean)) 1123 (by decide +kernel) (by decide +kernel), tb_at (w := .initialized "CreasedPaperModel") 69 (by decide +kernel) (by decide +kernel), by decide +kernel, by decide⟩
theorem ci_X11_isFolded : Cond.instanceMethod m_X11_isFolded.1 ∈ TB := tb_at (w := .instanceMethod ⟨"CreasedPaperModel", "isFolded", "(I)Z"⟩) 1122 (by decide +kernel) (by decide +kernel)
theorem cs_X11_isFolded : Cond.selects m_X11_isFolded.1.cls m_X11_isFolded.1 m_X11_isFolded.1 ∈ TB := tb_at (w := .selects "CreasedPaperModel" ⟨"CreasedPaperModel", "isFolded", "(I)Z"⟩ ⟨"CreasedPaperModel", "isFolded", "(I)Z"⟩) 31 (by decide +kernel) (by decide +kernel)
theorem ml_X11_85 : cV "CreasedPaperModel" 85 m_X11_isFolded 1 := ⟨cc_X11_isFolded, tb_at (w := .methodLink "CreasedPaperModel" 85 ⟨"CreasedPaperModel", "isFolded", "(I)Z"⟩) 1120 (by decide +kernel) (by decide +kernel), ci_X11_isFolded, cs_X11_isFolded⟩
theorem cc_X11_hold : cC m_X11_hold 1 := ⟨tb_at (w := .code ⟨"CreasedPaperModel", "hold", "(I)I"⟩ prog_13_method_16_code 2 (some .int)) 1127 (by decide +kernel) (by decide +kernel), tb_at (w := .initialized "CreasedPaperModel") 69 (by decide +kernel) (by decide +kernel), by decide +kernel, by decide⟩
theorem ci_X11_hold : Cond.instanceMethod m_X11_hold.1 ∈ TB := tb_at (w := .instanceMethod ⟨"CreasedPaperModel", "hold", "(I)I"⟩) 1125 (by decide +kernel) (by decide +kernel)
theorem cs_X11_hold : Cond.selects m_X11_hold.1.cls m_X11_hold.1 m_X11_hold.1 ∈ TB := tb_at (w := .selects "CreasedPaperModel" ⟨"CreasedPaperModel", "hold", "(I)I"⟩ ⟨"CreasedPaperModel", "hold", "(I)I"⟩) 1126 (by decide +kernel) (by decide +kernel)
theorem ml_L_35 : cV "CreasedPaperLaw" 35 m_X11_hold 1 := ⟨cc_X11_hold, tb_at (w := .methodLink "CreasedPaperLaw" 35 ⟨"CreasedPaperModel", "hold", "(I)I"⟩) 1124 (by decide +kernel) (by decide +kernel), ci_X11_hold, cs_X11_hold⟩
theorem cc_X11_open : cC m_X11_open 0 := ⟨tb_at (w := .code ⟨"CreasedPaperModel", "open", "()I"⟩ prog_13_method_17_code 1 (some .int)) 1131 (by decide +kernel) (by decide +kernel), tb_at (w := .initialized "CreasedPaperModel") 69 (by decide +kernel) (by decide +kernel), by decide +kernel, by decide⟩
theorem ci_X11_open : Cond.instanceMethod m_X11_open.1 ∈ TB := tb_at (w := .instanceMethod ⟨"CreasedPaperModel", "open", "()I"⟩) 1129 (by decide +kernel) (by decide +kernel)
theorem cs_X11_open : Cond.selects m_X11_open.1.cls m_X11_open.1 m_X11_open.1 ∈ TB := tb_at (w := .selects "CreasedPaperModel" ⟨"CreasedPaperModel", "open", "()I"⟩ ⟨"CreasedPaperModel", "open", "()I"⟩) 1130 (by decide +kernel) (by decide +kernel)
theorem ml_L_40 : cV "CreasedPaperLaw" 40 m_X11_open 0 := ⟨cc_X11_open, tb_at (w := .methodLink "CreasedPaperLaw" 40 ⟨"CreasedPaperModel", "open", "()I"⟩) 1128 (by decide +kernel) (by decide +kernel), ci_X11_open, cs_X11_open⟩
theorem cc_X11_cell : cC m_X11_cell 2 := ⟨tb_at (w := .code ⟨"CreasedPaperModel", "cell", "(II)I"⟩ prog_13_method_18_code 3 (some .int)) 1135 (by decide +kernel) (by decide +kernel), tb_at (w := .initialized "CreasedPaperModel") 69 (by decide +kernel) (by decide +kernel), by decide +kernel, by decide⟩
theorem ci_X11_cell : Cond.instanceMethod m_X11_cell.1 ∈ TB := tb_at (w := .instanceMethod ⟨"CreasedPaperModel", "cell", "(II)I"⟩) 1133 (by decide +kernel) (by decide +kernel)
theorem cs_X11_cell : Cond.selects m_X11_cell.1.cls m_X11_cell.1 m_X11_cell.1 ∈ TB := tb_at (w := .selects "CreasedPaperModel" ⟨"CreasedPaperModel", "cell", "(II)I"⟩ ⟨"CreasedPaperModel", "cell", "(II)I"⟩) 1134 (by decide +kernel) (by decide +kernel)
theorem ml_L_44 : cV "CreasedPaperLaw" 44 m_X11_cell 2 := ⟨cc_X11_cell, tb_at (w := .methodLink "CreasedPaperLaw" 44 ⟨"CreasedPaperModel", "cell", "(II)I"⟩) 1132 (by decide +kernel) (by decide +kernel), ci_X11_cell, cs_X11_cell⟩
theorem cc_X11_crease : cC m_X11_crease 2 := ⟨tb_at (w := .code ⟨"CreasedPaperModel", "crease", "(II)I"⟩ prog_13_method_19_code 3 (some .int)) 1139 (by decide +kernel) (by decide +kernel), tb_at (w := .initialized "CreasedPaperModel") 69 (by decide +kernel) (by decide +kernel), by decide +kernel, by decide⟩
theorem ci_X11_crease : Cond.instanceMethod m_X11_crease.1 ∈ TB := tb_at (w := .instanceMethod ⟨"CreasedPaperModel", "crease", "(II)I"⟩) 1137 (by decide +kernel) (by decide +kernel)
theorem cs_X11_crease : Cond.selects m_X11_crease.1.cls m_X11_crease.1 m_X11_crease.1 ∈ TB := tb_at (w := .selects "CreasedPaperModel" ⟨"CreasedPaperModel", "crease", "(II)I"⟩ ⟨"CreasedPaperModel", "crease", "(II)I"⟩) 1138 (by decide +kernel) (by decide +kernel)
theorem ml_L_56 : cV "CreasedPaperLaw" 56 m_X11_crease 2 := ⟨cc_X11_crease, tb_at (w := .methodLink "CreasedPaperLaw" 56 ⟨"CreasedPaperModel", "crease", "(II)I"⟩) 1136 (by decide +kernel) (by decide +kernel), ci_X11_crease, cs_X11_crease⟩
theorem cc_X11_feed : cC m_X11_feed 5 := ⟨tb_at (w := .code ⟨"CreasedPaperModel", "feed", "(IIIII)I"⟩ prog_13_method_21_code 6 (some .int)) 1143 (by decide +kernel) (by decide +kernel), tb_at (w := .initialized "CreasedPaperModel") 69 (by decide +kernel) (by decide +kernel), by decide +kernel, by decide⟩
theorem ci_X11_feed : Cond.instanceMethod m_X11_feed.1 ∈ TB := tb_at (w := .instanceMethod ⟨"CreasedPaperModel", "feed", "(IIIII)I"⟩) 1141 (by decide +kernel) (by decide +kernel)
theorem cs_X11_feed : Cond.selects m_X11_feed.1.cls m_X11_feed.1 m_X11_feed.1 ∈ TB := tb_at (w := .selects "CreasedPaperModel" ⟨"CreasedPaperModel", "feed", "(IIIII)I"⟩ ⟨"CreasedPaperModel", "feed", "(IIIII)I"⟩) 1142 (by decide +kernel) (by decide +kernel)
theorem ml_L_61 : cV "CreasedPaperLaw" 61 m_X11_feed 5 := ⟨cc_X11_feed, tb_at (w := .methodLink "CreasedPaperLaw" 61 ⟨"CreasedPaperModel", "feed", "(IIIII)I"⟩) 1140 (by decide +kernel) (by decide +kernel), ci_X11_feed, cs_X11_feed⟩
theorem cc_X11_four : cC m_X11_four 1 := ⟨tb_at (w := .code ⟨"CreasedPaperModel", "four", "(I)V"⟩ prog_13_method_20_code 3 none) 1147 (by decide +kernel) (by decide +kernel), tb_at (w := .initialized "CreasedPaperModel") 69 (by decide +kernel) (by decide +kernel), by decide +kernel, by decide⟩
theorem ci_X11_four : Cond.instanceMethod m_X11_four.1 ∈ TB := tb_at (w := .instanceMethod ⟨"CreasedPaperModel", "four", "(I)V"⟩) 1146 (by decide +kernel) (by decide +kernel)
theorem cs_X11_four : Cond.selects m_X11_four.1.cls m_X11_four.1 m_X11_four.1 ∈ TB := tb_at (w := .selects "CreasedPaperModel" ⟨"CreasedPaperModel", "four", "(I)V"⟩ ⟨"CreasedPaperModel", "four", "(I)V"⟩) 32 (by decide +kernel) (by decide +kernel)
theorem ml_X11_117 : cV "CreasedPaperModel" 117 m_X11_four 1 := ⟨cc_X11_four, tb_at (w := .methodLink "CreasedPaperModel" 117 ⟨"CreasedPaperModel", "four", "(I)V"⟩) 1144 (by decide +kernel) (by decide +kernel), ci_X11_four, cs_X11_four⟩
theorem cc_X11_end : cC m_X11_end 1 := ⟨tb_at (w := .code ⟨"CreasedPaperModel", "end", "(I)I"⟩ prog_13_method_22_code 2 (some .int)) 1151 (by decide +kernel) (by decide +kernel), tb_at (w := .initialized "CreasedPaperModel") 69 (by decide +kernel) (by decide +kernel), by decide +kernel, by decide⟩
theorem ci_X11_end : Cond.instanceMethod m_X11_end.1 ∈ TB := tb_at (w := .instanceMethod ⟨"CreasedPaperModel", "end", "(I)I"⟩) 1149 (by decide +kernel) (by decide +kernel)
theorem cs_X11_end : Cond.selects m_X11_end.1.cls m_X11_end.1 m_X11_end.1 ∈ TB := tb_at (w := .selects "CreasedPaperModel" ⟨"CreasedPaperModel", "end", "(I)I"⟩ ⟨"CreasedPaperModel", "end", "(I)I"⟩) 1150 (by decide +kernel) (by decide +kernel)
theorem ml_L_65 : cV "CreasedPaperLaw" 65 m_X11_end 1 := ⟨cc_X11_end, tb_at (w := .methodLink "CreasedPaperLaw" 65 ⟨"CreasedPaperModel", "end", "(I)I"⟩) 1148 (by decide +kernel) (by decide +kernel), ci_X11_end, cs_X11_end⟩
theorem cc_X11_hands : cC m_X11_hands 0 := ⟨tb_at (w := .code ⟨"CreasedPaperModel", "hands", "()I"⟩ prog_13_method_39_code 1 (some .int)) 1155 (by decide +kernel) (by decide +kernel), tb_at (w := .initialized "CreasedPaperModel") 69 (by decide +kernel) (by decide +kernel), by decide +kernel, by decide⟩
theorem ci_X11_hands : Cond.instanceMethod m_X11_hands.1 ∈ TB := tb_at (w := .instanceMethod ⟨"CreasedPaperModel", "hands", "()I"⟩) 1153 (by decide +kernel) (by decide +kernel)
theorem cs_X11_hands : Cond.selects m_X11_hands.1.cls m_X11_hands.1 m_X11_hands.1 ∈ TB := tb_at (w := .selects "CreasedPaperModel" ⟨"CreasedPaperModel", "hands", "()I"⟩ ⟨"CreasedPaperModel", "hands", "()I"⟩) 1154 (by decide +kernel) (by decide +kernel)
theorem ml_L_69 : cV "CreasedPaperLaw" 69 m_X11_hands 0 := ⟨cc_X11_hands, tb_at (w := .methodLink "CreasedPaperLaw" 69 ⟨"CreasedPaperModel", "hands", "()I"⟩) 1152 (by decide +kernel) (by decide +kernel), ci_X11_hands, cs_X11_hands⟩
theorem cc_X11_readText : cC m_X11_readText 0 := ⟨tb_at (w := .code ⟨"CreasedPaperModel", "readText", "()I"⟩ prog_13_method_35_code 2 (some .int)) 1159 (by decide +kernel) (by decide +kernel), tb_at (w := .initialized "CreasedPaperModel") 69 (by decide +kernel) (by decide +kernel), by decide +kernel, by decide⟩
theorem ci_X11_readText : Cond.instanceMethod m_X11_readText.1 ∈ TB := tb_at (w := .instanceMethod ⟨"CreasedPaperModel", "readText", "()I"⟩) 1158 (by decide +kernel) (by decide +kernel)
theorem cs_X11_readText : Cond.selects m_X11_readText.1.cls m_X11_readText.1 m_X11_readText.1 ∈ TB := tb_at (w := .selects "CreasedPaperModel" ⟨"CreasedPaperModel", "readText", "()I"⟩ ⟨"CreasedPaperModel", "readText", "()I"⟩) 33 (by decide +kernel) (by decide +kernel)
theorem ml_X11_197 : cV "CreasedPaperModel" 197 m_X11_readText 0 := ⟨cc_X11_readText, tb_at (w := .methodLink "CreasedPaperModel" 197 ⟨"CreasedPaperModel", "readText", "()I"⟩) 1156 (by decide +kernel) (by decide +kernel), ci_X11_readText, cs_X11_readText⟩
theorem cc_X11_nextToken : cC m_X11_nextToken 0 := ⟨tb_at (w := .code ⟨"CreasedPaperModel", "nextToken", "()V"⟩ prog_13_method_26_code 2 none) 1163 (by decide +kernel) (by decide +kernel), tb_at (w := .initialized "CreasedPaperModel") 69 (by decide +kernel) (by decide +kernel), by decide +kernel, by decide⟩
theorem ci_X11_nextToken : Cond.instanceMethod m_X11_nextToken.1 ∈ TB := tb_at (w := .instanceMethod ⟨"CreasedPaperModel", "nextToken", "()V"⟩) 1162 (by decide +kernel) (by decide +kernel)
theorem cs_X11_nextToken : Cond.selects m_X11_nextToken.1.cls m_X11_nextToken.1 m_X11_nextToken.1 ∈ TB := tb_at (w := .selects "CreasedPaperModel" ⟨"CreasedPaperModel", "nextToken", "()V"⟩ ⟨"CreasedPaperModel", "nextToken", "()V"⟩) 34 (by decide +kernel) (by decide +kernel)
theorem ml_X11_149 : cV "CreasedPaperModel" 149 m_X11_nextToken 0 := ⟨cc_X11_nextToken, tb_at (w := .methodLink "CreasedPaperModel" 149 ⟨"CreasedPaperModel", "nextToken", "()V"⟩) 1160 (by decide +kernel) (by decide +kernel), ci_X11_nextToken, cs_X11_nextToken⟩
theorem cc_X11_byteAt : cC m_X11_byteAt 1 := ⟨tb_at (w := .code ⟨"CreasedPaperModel", "byteAt", "(I)I"⟩ prog_13_method_23_code 2 (some .int)) 1167 (by decide +kernel) (by decide +kernel), tb_at (w := .initialized "CreasedPaperModel") 69 (by decide +kernel) (by decide +kernel), by decide +kernel, by decide⟩
theorem ci_X11_byteAt : Cond.instanceMethod m_X11_byteAt.1 ∈ TB := tb_at (w := .instanceMethod ⟨"CreasedPaperModel", "byteAt", "(I)I"⟩) 1166 (by decide +kernel) (by decide +kernel)
theorem cs_X11_byteAt : Cond.selects m_X11_byteAt.1.cls m_X11_byteAt.1 m_X11_byteAt.1 ∈ TB := tb_at (w := .selects "CreasedPaperModel" ⟨"CreasedPaperModel", "byteAt", "(I)I"⟩ ⟨"CreasedPaperModel", "byteAt", "(I)I"⟩) 35 (by decide +kernel) (by decide +kernel)
theorem ml_X11_123 : cV "CreasedPaperModel" 123 m_X11_byteAt 1 := ⟨cc_X11_byteAt, tb_at (w := .methodLink "CreasedPaperModel" 123 ⟨"CreasedPaperModel", "byteAt", "(I)I"⟩) 1164 (by decide +kernel) (by decide +kernel), ci_X11_byteAt, cs_X11_byteAt⟩
theorem cc_X11_isDigit : cC m_X11_isDigit 1 := ⟨tb_at (w := .code ⟨"CreasedPaperModel", "isDigit", "(I)Z"⟩ prog_13_method_25_code 1 (some .boolean)) 1170 (by decide +kernel) (by decide +kernel), tb_at (w := .initialized "CreasedPaperModel") 69 (by decide +kernel) (by decide +kernel), by decide +kernel, by decide⟩
theorem ci_X11_isDigit : Cond.static m_X11_isDigit.1 ∈ TB := tb_at (w := .static ⟨"CreasedPaperModel", "isDigit", "(I)Z"⟩) 1169 (by decide +kernel) (by decide +kernel)
theorem ml_X11_132 : cS "CreasedPaperModel" 132 m_X11_isDigit 1 := ⟨cc_X11_isDigit, tb_at (w := .methodLink "CreasedPaperModel" 132 ⟨"CreasedPaperModel", "isDigit", "(I)Z"⟩) 1168 (by decide +kernel) (by decide +kernel), ci_X11_isDigit⟩
theorem cc_X11_isLetter : cC m_X11_isLetter 1 := ⟨tb_at (w := .code ⟨"CreasedPaperModel", "isLetter", "(I)Z"⟩ prog_13_method_24_code 1 (some .boolean)) 1173 (by decide +kernel) (by decide +kernel), tb_at (w := .initialized "CreasedPaperModel") 69 (by decide +kernel) (by decide +kernel), by decide +kernel, by decide⟩
theorem ci_X11_isLetter : Cond.static m_X11_isLetter.1 ∈ TB := tb_at (w := .static ⟨"CreasedPaperModel", "isLetter", "(I)Z"⟩) 1172 (by decide +kernel) (by decide +kernel)
theorem ml_X11_138 : cS "CreasedPaperModel" 138 m_X11_isLetter 1 := ⟨cc_X11_isLetter, tb_at (w := .methodLink "CreasedPaperModel" 138 ⟨"CreasedPaperModel", "isLetter", "(I)Z"⟩) 1171 (by decide +kernel) (by decide +kernel), ci_X11_isLetter⟩
theorem cc_X11_act : cC m_X11_act 0 := ⟨tb_at (w := .code ⟨"CreasedPaperModel", "act", "()I"⟩ prog_13_method_34_code 5 (some .int)) 1177 (by decide +kernel) (by decide +kernel), tb_at (w := .initialized "CreasedPaperModel") 69 (by decide +kernel) (by decide +kernel), by decide +kernel, by decide⟩
theorem ci_X11_act : Cond.instanceMethod m_X11_act.1 ∈ TB := tb_at (w := .instanceMethod ⟨"CreasedPaperModel", "act", "()I"⟩) 1176 (by decide +kernel) (by decide +kernel)
theorem cs_X11_act : Cond.selects m_X11_act.1.cls m_X11_act.1 m_X11_act.1 ∈ TB := tb_at (w := .selects "CreasedPaperModel" ⟨"CreasedPaperModel", "act", "()I"⟩ ⟨"CreasedPaperModel", "act", "()I"⟩) 36 (by decide +kernel) (by decide +kernel)
theorem ml_X11_180 : cV "CreasedPaperModel" 180 m_X11_act 0 := ⟨cc_X11_act, tb_at (w := .methodLink "CreasedPaperModel" 180 ⟨"CreasedPaperModel", "act", "()I"⟩) 1174 (by decide +kernel) (by decide +kernel), ci_X11_act, cs_X11_act⟩
theorem cc_X11_w4 : cC m_X11_w4 4 := ⟨tb_at (w := .code ⟨"CreasedPaperModel", "w4", "(IIII)J"⟩ prog_13_method_27_code 4 (some .long)) 1180 (by decide +kernel) (by decide +kernel), tb_at (w := .initialized "CreasedPaperModel") 69 (by decide +kernel) (by decide +kernel), by decide +kernel, by decide⟩
theorem ci_X11_w4 : Cond.static m_X11_w4.1 ∈ TB := tb_at (w := .static ⟨"CreasedPaperModel", "w4", "(IIII)J"⟩) 1179 (by decide +kernel) (by decide +kernel)
theorem ml_X11_145 : cS "CreasedPaperModel" 145 m_X11_w4 4 := ⟨cc_X11_w4, tb_at (w := .methodLink "CreasedPaperModel" 145 ⟨"CreasedPaperModel", "w4", "(IIII)J"⟩) 1178 (by decide +kernel) (by decide +kernel), ci_X11_w4⟩
theorem cc_X11_isWord : cC m_X11_isWord 1 := ⟨tb_at (w := .code ⟨"CreasedPaperModel", "isWord", "(J)Z"⟩ prog_13_method_29_code 3 (some .boolean)) 1184 (by decide +kernel) (by decide +kernel), tb_at (w := .initialized "CreasedPaperModel") 69 (by decide +kernel) (by decide +kernel), by decide +kernel, by decide⟩
theorem ci_X11_isWord : Cond.instanceMethod m_X11_isWord.1 ∈ TB := tb_at (w := .instanceMethod ⟨"CreasedPaperModel", "isWord", "(J)Z"⟩) 1183 (by decide +kernel) (by decide +kernel)
theorem cs_X11_isWord : Cond.selects m_X11_isWord.1.cls m_X11_isWord.1 m_X11_isWord.1 ∈ TB := tb_at (w := .selects "CreasedPaperModel" ⟨"CreasedPaperModel", "isWord", "(J)Z"⟩ ⟨"CreasedPaperModel", "isWord", "(J)Z"⟩) 37 (by decide +kernel) (by decide +kernel)
theorem ml_X11_166 : cV "CreasedPaperModel" 166 m_X11_isWord 1 := ⟨cc_X11_isWord, tb_at (w := .methodLink "CreasedPaperModel" 166 ⟨"CreasedPaperModel", "isWord", "(J)Z"⟩) 1181 (by decide +kernel) (by decide +kernel), ci_X11_isWord, cs_X11_isWord⟩
theorem cc_X11_w5 : cC m_X11_w5 5 := ⟨tb_at (w := .code ⟨"CreasedPaperModel", "w5", "(IIIII)J"⟩ prog_13_method_28_code 5 (some .long)) 1187 (by decide +kernel) (by decide +kernel), tb_at (w := .initialized "CreasedPaperModel") 69 (by decide +kernel) (by decide +kernel), by decide +kernel, by decide⟩
theorem ci_X11_w5 : Cond.static m_X11_w5.1 ∈ TB := tb_at (w := .static ⟨"CreasedPaperModel", "w5", "(IIIII)J"⟩) 1186 (by decide +kernel) (by decide +kernel)
theorem ml_X11_162 : cS "CreasedPaperModel" 162 m_X11_w5 5 := ⟨cc_X11_w5, tb_at (w := .methodLink "CreasedPaperModel" 162 ⟨"CreasedPaperModel", "w5", "(IIIII)J"⟩) 1185 (by decide +kernel) (by decide +kernel), ci_X11_w5⟩
theorem cc_X11_foldAct : cC m_X11_foldAct 0 := ⟨tb_at (w := .code ⟨"CreasedPaperModel", "foldAct", "()I"⟩ prog_13_method_33_code 3 (some .int)) 1191 (by decide +kernel) (by decide +kernel), tb_at (w := .initialized "CreasedPaperModel") 69 (by decide +kernel) (by decide +kernel), by decide +kernel, by decide⟩
theorem ci_X11_foldAct : Cond.instanceMethod m_X11_foldAct.1 ∈ TB := tb_at (w := .instanceMethod ⟨"CreasedPaperModel", "foldAct", "()I"⟩) 1190 (by decide +kernel) (by decide +kernel)
theorem cs_X11_foldAct : Cond.selects m_X11_foldAct.1.cls m_X11_foldAct.1 m_X11_foldAct.1 ∈ TB := tb_at (w := .selects "CreasedPaperModel" ⟨"CreasedPaperModel", "foldAct", "()I"⟩ ⟨"CreasedPaperModel", "foldAct", "()I"⟩) 38 (by decide +kernel) (by decide +kernel)
theorem ml_X11_174 : cV "CreasedPaperModel" 174 m_X11_foldAct 0 := ⟨cc_X11_foldAct, tb_at (w := .methodLink "CreasedPaperModel" 174 ⟨"CreasedPaperModel", "foldAct", "()I"⟩) 1188 (by decide +kernel) (by decide +kernel), ci_X11_foldAct, cs_X11_foldAct⟩
theorem cc_X11_take : cC m_X11_take 2 := ⟨tb_at (w := .code ⟨"CreasedPaperModel", "take", "(II)I"⟩ prog_13_method_30_code 3 (some .int)) 1195 (by decide +kernel) (by decide +kernel), tb_at (w := .initialized "CreasedPaperModel") 69 (by decide +kernel) (by decide +kernel), by decide +kernel, by decide⟩
theorem ci_X11_take : Cond.instanceMethod m_X11_take.1 ∈ TB := tb_at (w := .instanceMethod ⟨"CreasedPaperModel", "take", "(II)I"⟩) 1194 (by decide +kernel) (by decide +kernel)
theorem cs_X11_take : Cond.selects m_X11_take.1.cls m_X11_take.1 m_X11_take.1 ∈ TB := tb_at (w := .selects "CreasedPaperModel" ⟨"CreasedPaperModel", "take", "(II)I"⟩ ⟨"CreasedPaperModel", "take", "(II)I"⟩) 39 (by decide +kernel) (by decide +kernel)
theorem ml_X11_155 : cV "CreasedPaperModel" 155 m_X11_take 2 := ⟨cc_X11_take, tb_at (w := .methodLink "CreasedPaperModel" 155 ⟨"CreasedPaperModel", "take", "(II)I"⟩) 1192 (by decide +kernel) (by decide +kernel), ci_X11_take, cs_X11_take⟩
theorem cc_X11_close : cC m_X11_close 0 := ⟨tb_at (w := .code ⟨"CreasedPaperModel", "close", "()I"⟩ prog_13_method_31_code 1 (some .int)) 1199 (by decide +kernel) (by decide +kernel), tb_at (w := .initialized "CreasedPaperModel") 69 (by decide +kernel) (by decide +kernel), by decide +kernel, by decide⟩
theorem ci_X11_close : Cond.instanceMethod m_X11_close.1 ∈ TB := tb_at (w := .instanceMethod ⟨"CreasedPaperModel", "close", "()I"⟩) 1198 (by decide +kernel) (by decide +kernel)
theorem cs_X11_close : Cond.selects m_X11_close.1.cls m_X11_close.1 m_X11_close.1 ∈ TB := tb_at (w := .selects "CreasedPaperModel" ⟨"CreasedPaperModel", "close", "()I"⟩ ⟨"CreasedPaperModel", "close", "()I"⟩) 40 (by decide +kernel) (by decide +kernel)
theorem ml_X11_170 : cV "CreasedPaperModel" 170 m_X11_close 0 := ⟨cc_X11_close, tb_at (w := .methodLink "CreasedPaperModel" 170 ⟨"CreasedPaperModel", "close", "()I"⟩) 1196 (by decide +kernel) (by decide +kernel), ci_X11_close, cs_X11_close⟩
theorem cc_X11_again : cC m_X11_again 0 := ⟨tb_at (w := .code ⟨"CreasedPaperModel", "again", "()I"⟩ prog_13_method_32_code 2 (some .int)) 1203 (by decide +kernel) (by decide +kernel), tb_at (w := .initialized "CreasedPaperModel") 69 (by decide +kernel) (by decide +kernel), by decide +kernel, by decide⟩
theorem ci_X11_again : Cond.instanceMethod m_X11_again.1 ∈ TB := tb_at (w := .instanceMethod ⟨"CreasedPaperModel", "again", "()I"⟩) 1202 (by decide +kernel) (by decide +kernel)
theorem cs_X11_again : Cond.selects m_X11_again.1.cls m_X11_again.1 m_X11_again.1 ∈ TB := tb_at (w := .selects "CreasedPaperModel" ⟨"CreasedPaperModel", "again", "()I"⟩ ⟨"CreasedPaperModel", "again", "()I"⟩) 41 (by decide +kernel) (by decide +kernel)
theorem ml_X11_177 : cV "CreasedPaperModel" 177 m_X11_again 0 := ⟨cc_X11_again, tb_at (w := .methodLink "CreasedPaperModel" 177 ⟨"CreasedPaperModel", "again", "()I"⟩) 1200 (by decide +kernel) (by decide +kernel), ci_X11_again, cs_X11_again⟩
theorem cc_X11_doAll : cC m_X11_doAll 0 := ⟨tb_at (w := .code ⟨"CreasedPaperModel", "doAll", "()I"⟩ prog_13_method_38_code 4 (some .int)) 1207 (by decide +kernel) (by decide +kernel), tb_at (w := .initialized "CreasedPaperModel") 69 (by decide +kernel) (by decide +kernel), by decide +kernel, by decide⟩
theorem ci_X11_doAll : Cond.instanceMethod m_X11_doAll.1 ∈ TB := tb_at (w := .instanceMethod ⟨"CreasedPaperModel", "doAll", "()I"⟩) 1206 (by decide +kernel) (by decide +kernel)
theorem cs_X11_doAll : Cond.selects m_X11_doAll.1.cls m_X11_doAll.1 m_X11_doAll.1 ∈ TB := tb_at (w := .selects "CreasedPaperModel" ⟨"CreasedPaperModel", "doAll", "()I"⟩ ⟨"CreasedPaperModel", "doAll", "()I"⟩) 42 (by decide +kernel) (by decide +kernel)
theorem ml_X11_200 : cV "CreasedPaperModel" 200 m_X11_doAll 0 := ⟨cc_X11_doAll, tb_at (w := .methodLink "CreasedPaperModel" 200 ⟨"CreasedPaperModel", "doAll", "()I"⟩) 1204 (by decide +kernel) (by decide +kernel), ci_X11_doAll, cs_X11_doAll⟩
theorem cc_X11_hasActs : cC m_X11_hasActs 1 := ⟨tb_at (w := .code ⟨"CreasedPaperModel", "hasActs", "(I)Z"⟩ prog_13_method_36_code 3 (some .boolean)) 1211 (by decide +kernel) (by decide +kernel), tb_at (w := .initialized "CreasedPaperModel") 69 (by decide +kernel) (by decide +kernel), by decide +kernel, by decide⟩
theorem ci_X11_hasActs : Cond.instanceMethod m_X11_hasActs.1 ∈ TB := tb_at (w := .instanceMethod ⟨"CreasedPaperModel", "hasActs", "(I)Z"⟩) 1210 (by decide +kernel) (by decide +kernel)
theorem cs_X11_hasActs : Cond.selects m_X11_hasActs.1.cls m_X11_hasActs.1 m_X11_hasActs.1 ∈ TB := tb_at (w := .selects "CreasedPaperModel" ⟨"CreasedPaperModel", "hasActs", "(I)Z"⟩ ⟨"CreasedPaperModel", "hasActs", "(I)Z"⟩) 43 (by decide +kernel) (by decide +kernel)
theorem ml_X11_191 : cV "CreasedPaperModel" 191 m_X11_hasActs 1 := ⟨cc_X11_hasActs, tb_at (w := .methodLink "CreasedPaperModel" 191 ⟨"CreasedPaperModel", "hasActs", "(I)Z"⟩) 1208 (by decide +kernel) (by decide +kernel), ci_X11_hasActs, cs_X11_hasActs⟩
theorem cc_X11_does : cC m_X11_does 1 := ⟨tb_at (w := .code ⟨"CreasedPaperModel", "does", "(I)Z"⟩ prog_13_method_37_code 2 (some .boolean)) 1215 (by decide +kernel) (by decide +kernel), tb_at (w := .initialized "CreasedPaperModel") 69 (by decide +kernel) (by decide +kernel), by decide +kernel, by decide⟩
theorem ci_X11_does : Cond.instanceMethod m_X11_does.1 ∈ TB := tb_at (w := .instanceMethod ⟨"CreasedPaperModel", "does", "(I)Z"⟩) 1214 (by decide +kernel) (by decide +kernel)
theorem cs_X11_does : Cond.selects m_X11_does.1.cls m_X11_does.1 m_X11_does.1 ∈ TB := tb_at (w := .selects "CreasedPaperModel" ⟨"CreasedPaperModel", "does", "(I)Z"⟩ ⟨"CreasedPaperModel", "does", "(I)Z"⟩) 44 (by decide +kernel) (by decide +kernel)
theorem ml_X11_194 : cV "CreasedPaperModel" 194 m_X11_does 1 := ⟨cc_X11_does, tb_at (w := .methodLink "CreasedPaperModel" 194 ⟨"CreasedPaperModel", "does", "(I)Z"⟩) 1212 (by decide +kernel) (by decide +kernel), ci_X11_does, cs_X11_does⟩
theorem ml_X11_183 : cV "CreasedPaperModel" 183 m_X11_fold 2 := ⟨cc_X11_fold, tb_at (w := .methodLink "CreasedPaperModel" 183 ⟨"CreasedPaperModel", "fold", "(IZ)I"⟩) 1216 (by decide +kernel) (by decide +kernel), ci_X11_fold, cs_X11_fold⟩
theorem ml_X11_186 : cV "CreasedPaperModel" 186 m_X11_hold 1 := ⟨cc_X11_hold, tb_at (w := .methodLink "CreasedPaperModel" 186 ⟨"CreasedPaperModel", "hold", "(I)I"⟩) 1217 (by decide +kernel) (by decide +kernel), ci_X11_hold, cs_X11_hold⟩
theorem ml_X11_189 : cV "CreasedPaperModel" 189 m_X11_open 0 := ⟨cc_X11_open, tb_at (w := .methodLink "CreasedPaperModel" 189 ⟨"CreasedPaperModel", "open", "()I"⟩) 1218 (by decide +kernel) (by decide +kernel), ci_X11_open, cs_X11_open⟩
theorem cc_X11_fault : cC m_X11_fault 1 := ⟨tb_at (w := .code ⟨"CreasedPaperModel", "fault", "(I)I"⟩ prog_13_method_40_code 2 (some .int)) 1222 (by decide +kernel) (by decide +kernel), tb_at (w := .initialized "CreasedPaperModel") 69 (by decide +kernel) (by decide +kernel), by decide +kernel, by decide⟩
theorem ci_X11_fault : Cond.instanceMethod m_X11_fault.1 ∈ TB := tb_at (w := .instanceMethod ⟨"CreasedPaperModel", "fault", "(I)I"⟩) 1220 (by decide +kernel) (by decide +kernel)
theorem cs_X11_fault : Cond.selects m_X11_fault.1.cls m_X11_fault.1 m_X11_fault.1 ∈ TB := tb_at (w := .selects "CreasedPaperModel" ⟨"CreasedPaperModel", "fault", "(I)I"⟩ ⟨"CreasedPaperModel", "fault", "(I)I"⟩) 1221 (by decide +kernel) (by decide +kernel)
theorem ml_L_73 : cV "CreasedPaperLaw" 73 m_X11_fault 1 := ⟨cc_X11_fault, tb_at (w := .methodLink "CreasedPaperLaw" 73 ⟨"CreasedPaperModel", "fault", "(I)I"⟩) 1219 (by decide +kernel) (by decide +kernel), ci_X11_fault, cs_X11_fault⟩
theorem cc_X11_sheet : cC m_X11_sheet 5 := ⟨tb_at (w := .code ⟨"CreasedPaperModel", "sheet", "(IIIII)I"⟩ prog_13_method_41_code 7 (some .int)) 1226 (by decide +kernel) (by decide +kernel), tb_at (w := .initialized "CreasedPaperModel") 69 (by decide +kernel) (by decide +kernel), by decide +kernel, by decide⟩
theorem ci_X11_sheet : Cond.instanceMethod m_X11_sheet.1 ∈ TB := tb_at (w := .instanceMethod ⟨"CreasedPaperModel", "sheet", "(IIIII)I"⟩) 1224 (by decide +kernel) (by decide +kernel)
theorem cs_X11_sheet : Cond.selects m_X11_sheet.1.cls m_X11_sheet.1 m_X11_sheet.1 ∈ TB := tb_at (w := .selects "CreasedPaperModel" ⟨"CreasedPaperModel", "sheet", "(IIIII)I"⟩ ⟨"CreasedPaperModel", "sheet", "(IIIII)I"⟩) 1225 (by decide +kernel) (by decide +kernel)
theorem ml_L_77 : cV "CreasedPaperLaw" 77 m_X11_sheet 5 := ⟨cc_X11_sheet, tb_at (w := .methodLink "CreasedPaperLaw" 77 ⟨"CreasedPaperModel", "sheet", "(IIIII)I"⟩) 1223 (by decide +kernel) (by decide +kernel), ci_X11_sheet, cs_X11_sheet⟩
theorem cc_X11_torque : cC m_X11_torque 2 := ⟨tb_at (w := .code ⟨"CreasedPaperModel", "torque", "(II)I"⟩ prog_13_method_44_code 3 (some .int)) 1230 (by decide +kernel) (by decide +kernel), tb_at (w := .initialized "CreasedPaperModel") 69 (by decide +kernel) (by decide +kernel), by decide +kernel, by decide⟩
theorem ci_X11_torque : Cond.instanceMethod m_X11_torque.1 ∈ TB := tb_at (w := .instanceMethod ⟨"CreasedPaperModel", "torque", "(II)I"⟩) 1228 (by decide +kernel) (by decide +kernel)
theorem cs_X11_torque : Cond.selects m_X11_torque.1.cls m_X11_torque.1 m_X11_torque.1 ∈ TB := tb_at (w := .selects "CreasedPaperModel" ⟨"CreasedPaperModel", "torque", "(II)I"⟩ ⟨"CreasedPaperModel", "torque", "(II)I"⟩) 1229 (by decide +kernel) (by decide +kernel)
theorem ml_L_81 : cV "CreasedPaperLaw" 81 m_X11_torque 2 := ⟨cc_X11_torque, tb_at (w := .methodLink "CreasedPaperLaw" 81 ⟨"CreasedPaperModel", "torque", "(II)I"⟩) 1227 (by decide +kernel) (by decide +kernel), ci_X11_torque, cs_X11_torque⟩
theorem cc_X11_isSheet : cC m_X11_isSheet 1 := ⟨tb_at (w := .code ⟨"CreasedPaperModel", "isSheet", "(I)Z"⟩ prog_13_method_42_code 2 (some .boolean)) 1234 (by decide +kernel) (by decide +kernel), tb_at (w := .initialized "CreasedPaperModel") 69 (by decide +kernel) (by decide +kernel), by decide +kernel, by decide⟩
theorem ci_X11_isSheet : Cond.instanceMethod m_X11_isSheet.1 ∈ TB := tb_at (w := .instanceMethod ⟨"CreasedPaperModel", "isSheet", "(I)Z"⟩) 1233 (by decide +kernel) (by decide +kernel)
theorem cs_X11_isSheet : Cond.selects m_X11_isSheet.1.cls m_X11_isSheet.1 m_X11_isSheet.1 ∈ TB := tb_at (w := .selects "CreasedPaperModel" ⟨"CreasedPaperModel", "isSheet", "(I)Z"⟩ ⟨"CreasedPaperModel", "isSheet", "(I)Z"⟩) 45 (by decide +kernel) (by decide +kernel)
theorem ml_X11_205 : cV "CreasedPaperModel" 205 m_X11_isSheet 1 := ⟨cc_X11_isSheet, tb_at (w := .methodLink "CreasedPaperModel" 205 ⟨"CreasedPaperModel", "isSheet", "(I)Z"⟩) 1231 (by decide +kernel) (by decide +kernel), ci_X11_isSheet, cs_X11_isSheet⟩
theorem cc_X11_torqueAt : cC m_X11_torqueAt 2 := ⟨tb_at (w := .code ⟨"CreasedPaperModel", "torqueAt", "(II)I"⟩ prog_13_method_43_code 6 (some .int)) 1238 (by decide +kernel) (by decide +kernel), tb_at (w := .initialized "CreasedPaperModel") 69 (by decide +kernel) (by decide +kernel), by decide +kernel, by decide⟩
theorem ci_X11_torqueAt : Cond.instanceMethod m_X11_torqueAt.1 ∈ TB := tb_at (w := .instanceMethod ⟨"CreasedPaperModel", "torqueAt", "(II)I"⟩) 1237 (by decide +kernel) (by decide +kernel)
theorem cs_X11_torqueAt : Cond.selects m_X11_torqueAt.1.cls m_X11_torqueAt.1 m_X11_torqueAt.1 ∈ TB := tb_at (w := .selects "CreasedPaperModel" ⟨"CreasedPaperModel", "torqueAt", "(II)I"⟩ ⟨"CreasedPaperModel", "torqueAt", "(II)I"⟩) 46 (by decide +kernel) (by decide +kernel)
theorem ml_X11_208 : cV "CreasedPaperModel" 208 m_X11_torqueAt 2 := ⟨cc_X11_torqueAt, tb_at (w := .methodLink "CreasedPaperModel" 208 ⟨"CreasedPaperModel", "torqueAt", "(II)I"⟩) 1235 (by decide +kernel) (by decide +kernel), ci_X11_torqueAt, cs_X11_torqueAt⟩
theorem cc_X11_rests : cC m_X11_rests 3 := ⟨tb_at (w := .code ⟨"CreasedPaperModel", "rests", "(III)I"⟩ prog_13_method_47_code 6 (some .int)) 1244 (by decide +kernel) (by decide +kernel), tb_at (w := .initialized "CreasedPaperModel") 69 (by decide +kernel) (by decide +kernel), by decide +kernel, by decide⟩
theorem ci_X11_rests : Cond.instanceMethod m_X11_rests.1 ∈ TB := tb_at (w := .instanceMethod ⟨"CreasedPaperModel", "rests", "(III)I"⟩) 1242 (by decide +kernel) (by decide +kernel)
theorem cs_X11_rests : Cond.selects m_X11_rests.1.cls m_X11_rests.1 m_X11_rests.1 ∈ TB := tb_at (w := .selects "CreasedPaperModel" ⟨"CreasedPaperModel", "rests", "(III)I"⟩ ⟨"CreasedPaperModel", "rests", "(III)I"⟩) 1243 (by decide +kernel) (by decide +kernel)
theorem ml_L_86 : cV "CreasedPaperLaw" 86 m_X11_rests 3 := ⟨cc_X11_rests, tb_at (w := .methodLink "CreasedPaperLaw" 86 ⟨"CreasedPaperModel", "rests", "(III)I"⟩) 1241 (by decide +kernel) (by decide +kernel), ci_X11_rests, cs_X11_rests⟩
theorem cc_X11_isPush : cC m_X11_isPush 1 := ⟨tb_at (w := .code ⟨"CreasedPaperModel", "isPush", "(I)Z"⟩ prog_13_method_46_code 1 (some .boolean)) 1247 (by decide +kernel) (by decide +kernel), tb_at (w := .initialized "CreasedPaperModel") 69 (by decide +kernel) (by decide +kernel), by decide +kernel, by decide⟩
theorem ci_X11_isPush : Cond.static m_X11_isPush.1 ∈ TB := tb_at (w := .static ⟨"CreasedPaperModel", "isPush", "(I)Z"⟩) 1246 (by decide +kernel) (by decide +kernel)
theorem ml_X11_214 : cS "CreasedPaperModel" 214 m_X11_isPush 1 := ⟨cc_X11_isPush, tb_at (w := .methodLink "CreasedPaperModel" 214 ⟨"CreasedPaperModel", "isPush", "(I)Z"⟩) 1245 (by decide +kernel) (by decide +kernel), ci_X11_isPush⟩
theorem cc_X11_restsAt : cC m_X11_restsAt 4 := ⟨tb_at (w := .code ⟨"CreasedPaperModel", "restsAt", "(IIIZ)Z"⟩ prog_13_method_45_code 8 (some .boolean)) 1253 (by decide +kernel) (by decide +kernel), tb_at (w := .initialized "CreasedPaperModel") 69 (by decide +kernel) (by decide +kernel), by decide +kernel, by decide⟩
theorem ci_X11_restsAt : Cond.instanceMethod m_X11_restsAt.1 ∈ TB := tb_at (w := .instanceMethod ⟨"CreasedPaperModel", "restsAt", "(IIIZ)Z"⟩) 1252 (by decide +kernel) (by decide +kernel)
theorem cs_X11_restsAt : Cond.selects m_X11_restsAt.1.cls m_X11_restsAt.1 m_X11_restsAt.1 ∈ TB := tb_at (w := .selects "CreasedPaperModel" ⟨"CreasedPaperModel", "restsAt", "(IIIZ)Z"⟩ ⟨"CreasedPaperModel", "restsAt", "(IIIZ)Z"⟩) 47 (by decide +kernel) (by decide +kernel)
theorem ml_X11_217 : cV "CreasedPaperModel" 217 m_X11_restsAt 4 := ⟨cc_X11_restsAt, tb_at (w := .methodLink "CreasedPaperModel" 217 ⟨"CreasedPaperModel", "restsAt", "(IIIZ)Z"⟩) 1250 (by decide +kernel) (by decide +kernel), ci_X11_restsAt, cs_X11_restsAt⟩
theorem cc_X11_stays : cC m_X11_stays 3 := ⟨tb_at (w := .code ⟨"CreasedPaperModel", "stays", "(III)I"⟩ prog_13_method_48_code 4 (some .int)) 1257 (by decide +kernel) (by decide +kernel), tb_at (w := .initialized "CreasedPaperModel") 69 (by decide +kernel) (by decide +kernel), by decide +kernel, by decide⟩
theorem ci_X11_stays : Cond.instanceMethod m_X11_stays.1 ∈ TB := tb_at (w := .instanceMethod ⟨"CreasedPaperModel", "stays", "(III)I"⟩) 1255 (by decide +kernel) (by decide +kernel)
theorem cs_X11_stays : Cond.selects m_X11_stays.1.cls m_X11_stays.1 m_X11_stays.1 ∈ TB := tb_at (w := .selects "CreasedPaperModel" ⟨"CreasedPaperModel", "stays", "(III)I"⟩ ⟨"CreasedPaperModel", "stays", "(III)I"⟩) 1256 (by decide +kernel) (by decide +kernel)
theorem ml_L_90 : cV "CreasedPaperLaw" 90 m_X11_stays 3 := ⟨cc_X11_stays, tb_at (w := .methodLink "CreasedPaperLaw" 90 ⟨"CreasedPaperModel", "stays", "(III)I"⟩) 1254 (by decide +kernel) (by decide +kernel), ci_X11_stays, cs_X11_stays⟩
theorem cc_X11_snap : cC m_X11_snap 5 := ⟨tb_at (w := .code ⟨"CreasedPaperModel", "snap", "(IIIII)I"⟩ prog_13_method_50_code 11 (some .int)) 1261 (by decide +kernel) (by decide +kernel), tb_at (w := .initialized "CreasedPaperModel") 69 (by decide +kernel) (by decide +kernel), by decide +kernel, by decide⟩
theorem ci_X11_snap : Cond.instanceMethod m_X11_snap.1 ∈ TB := tb_at (w := .instanceMethod ⟨"CreasedPaperModel", "snap", "(IIIII)I"⟩) 1259 (by decide +kernel) (by decide +kernel)
theorem cs_X11_snap : Cond.selects m_X11_snap.1.cls m_X11_snap.1 m_X11_snap.1 ∈ TB := tb_at (w := .selects "CreasedPaperModel" ⟨"CreasedPaperModel", "snap", "(IIIII)I"⟩ ⟨"CreasedPaperModel", "snap", "(IIIII)I"⟩) 1260 (by decide +kernel) (by decide +kernel)
theorem ml_L_94 : cV "CreasedPaperLaw" 94 m_X11_snap 5 := ⟨cc_X11_snap, tb_at (w := .methodLink "CreasedPaperLaw" 94 ⟨"CreasedPaperModel", "snap", "(IIIII)I"⟩) 1258 (by decide +kernel) (by decide +kernel), ci_X11_snap, cs_X11_snap⟩
theorem cc_X11_abs : cC m_X11_abs 1 := ⟨tb_at (w := .code ⟨"CreasedPaperModel", "abs", "(I)I"⟩ prog_13_method_4_code 1 (some .int)) 1264 (by decide +kernel) (by decide +kernel), tb_at (w := .initialized "CreasedPaperModel") 69 (by decide +kernel) (by decide +kernel), by decide +kernel, by decide⟩
theorem ci_X11_abs : Cond.static m_X11_abs.1 ∈ TB := tb_at (w := .static ⟨"CreasedPaperModel", "abs", "(I)I"⟩) 1263 (by decide +kernel) (by decide +kernel)
theorem ml_X11_221 : cS "CreasedPaperModel" 221 m_X11_abs 1 := ⟨cc_X11_abs, tb_at (w := .methodLink "CreasedPaperModel" 221 ⟨"CreasedPaperModel", "abs", "(I)I"⟩) 1262 (by decide +kernel) (by decide +kernel), ci_X11_abs⟩
theorem cc_X11_nearest : cC m_X11_nearest 5 := ⟨tb_at (w := .code ⟨"CreasedPaperModel", "nearest", "(IIIII)I"⟩ prog_13_method_49_code 7 (some .int)) 1268 (by decide +kernel) (by decide +kernel), tb_at (w := .initialized "CreasedPaperModel") 69 (by decide +kernel) (by decide +kernel), by decide +kernel, by decide⟩
theorem ci_X11_nearest : Cond.instanceMethod m_X11_nearest.1 ∈ TB := tb_at (w := .instanceMethod ⟨"CreasedPaperModel", "nearest", "(IIIII)I"⟩) 1267 (by decide +kernel) (by decide +kernel)
theorem cs_X11_nearest : Cond.selects m_X11_nearest.1.cls m_X11_nearest.1 m_X11_nearest.1 ∈ TB := tb_at (w := .selects "CreasedPaperModel" ⟨"CreasedPaperModel", "nearest", "(IIIII)I"⟩ ⟨"CreasedPaperModel", "nearest", "(IIIII)I"⟩) 48 (by decide +kernel) (by decide +kernel)
theorem ml_X11_224 : cV "CreasedPaperModel" 224 m_X11_nearest 5 := ⟨cc_X11_nearest, tb_at (w := .methodLink "CreasedPaperModel" 224 ⟨"CreasedPaperModel", "nearest", "(IIIII)I"⟩) 1265 (by decide +kernel) (by decide +kernel), ci_X11_nearest, cs_X11_nearest⟩
theorem cc_X11_ways : cC m_X11_ways 4 := ⟨tb_at (w := .code ⟨"CreasedPaperModel", "ways", "(IIII)I"⟩ prog_13_method_53_code 8 (some .int)) 1272 (by decide +kernel) (by decide +kernel), tb_at (w := .initialized "CreasedPaperModel") 69 (by decide +kernel) (by decide +kernel), by decide +kernel, by decide⟩
theorem ci_X11_ways : Cond.instanceMethod m_X11_ways.1 ∈ TB := tb_at (w := .instanceMethod ⟨"CreasedPaperModel", "ways", "(IIII)I"⟩) 1270 (by decide +kernel) (by decide +kernel)
theorem cs_X11_ways : Cond.selects m_X11_ways.1.cls m_X11_ways.1 m_X11_ways.1 ∈ TB := tb_at (w := .selects "CreasedPaperModel" ⟨"CreasedPaperModel", "ways", "(IIII)I"⟩ ⟨"CreasedPaperModel", "ways", "(IIII)I"⟩) 1271 (by decide +kernel) (by decide +kernel)
theorem ml_L_99 : cV "CreasedPaperLaw" 99 m_X11_ways 4 := ⟨cc_X11_ways, tb_at (w := .methodLink "CreasedPaperLaw" 99 ⟨"CreasedPaperModel", "ways", "(IIII)I"⟩) 1269 (by decide +kernel) (by decide +kernel), ci_X11_ways, cs_X11_ways⟩
theorem cc_X11_isWay : cC m_X11_isWay 2 := ⟨tb_at (w := .code ⟨"CreasedPaperModel", "isWay", "(II)Z"⟩ prog_13_method_51_code 10 (some .boolean)) 1276 (by decide +kernel) (by decide +kernel), tb_at (w := .initialized "CreasedPaperModel") 69 (by decide +kernel) (by decide +kernel), by decide +kernel, by decide⟩
theorem ci_X11_isWay : Cond.instanceMethod m_X11_isWay.1 ∈ TB := tb_at (w := .instanceMethod ⟨"CreasedPaperModel", "isWay", "(II)Z"⟩) 1275 (by decide +kernel) (by decide +kernel)
theorem cs_X11_isWay : Cond.selects m_X11_isWay.1.cls m_X11_isWay.1 m_X11_isWay.1 ∈ TB := tb_at (w := .selects "CreasedPaperModel" ⟨"CreasedPaperModel", "isWay", "(II)Z"⟩ ⟨"CreasedPaperModel", "isWay", "(II)Z"⟩) 49 (by decide +kernel) (by decide +kernel)
theorem ml_X11_228 : cV "CreasedPaperModel" 228 m_X11_isWay 2 := ⟨cc_X11_isWay, tb_at (w := .methodLink "CreasedPaperModel" 228 ⟨"CreasedPaperModel", "isWay", "(II)Z"⟩) 1273 (by decide +kernel) (by decide +kernel), ci_X11_isWay, cs_X11_isWay⟩
theorem cc_X11_nextOrder : cC m_X11_nextOrder 1 := ⟨tb_at (w := .code ⟨"CreasedPaperModel", "nextOrder", "(I)Z"⟩ prog_13_method_52_code 7 (some .boolean)) 1280 (by decide +kernel) (by decide +kernel), tb_at (w := .initialized "CreasedPaperModel") 69 (by decide +kernel) (by decide +kernel), by decide +kernel, by decide⟩
theorem ci_X11_nextOrder : Cond.instanceMethod m_X11_nextOrder.1 ∈ TB := tb_at (w := .instanceMethod ⟨"CreasedPaperModel", "nextOrder", "(I)Z"⟩) 1279 (by decide +kernel) (by decide +kernel)
theorem cs_X11_nextOrder : Cond.selects m_X11_nextOrder.1.cls m_X11_nextOrder.1 m_X11_nextOrder.1 ∈ TB := tb_at (w := .selects "CreasedPaperModel" ⟨"CreasedPaperModel", "nextOrder", "(I)Z"⟩ ⟨"CreasedPaperModel", "nextOrder", "(I)Z"⟩) 50 (by decide +kernel) (by decide +kernel)
theorem ml_X11_231 : cV "CreasedPaperModel" 231 m_X11_nextOrder 1 := ⟨cc_X11_nextOrder, tb_at (w := .methodLink "CreasedPaperModel" 231 ⟨"CreasedPaperModel", "nextOrder", "(I)Z"⟩) 1277 (by decide +kernel) (by decide +kernel), ci_X11_nextOrder, cs_X11_nextOrder⟩
theorem cc_X11_see : cC m_X11_see 2 := ⟨tb_at (w := .code ⟨"CreasedPaperModel", "see", "(II)I"⟩ prog_13_method_54_code 3 (some .int)) 1284 (by decide +kernel) (by decide +kernel), tb_at (w := .initialized "CreasedPaperModel") 69 (by decide +kernel) (by decide +kernel), by decide +kernel, by decide⟩
theorem ci_X11_see : Cond.instanceMethod m_X11_see.1 ∈ TB := tb_at (w := .instanceMethod ⟨"CreasedPaperModel", "see", "(II)I"⟩) 1282 (by decide +kernel) (by decide +kernel)
theorem cs_X11_see : Cond.selects m_X11_see.1.cls m_X11_see.1 m_X11_see.1 ∈ TB := tb_at (w := .selects "CreasedPaperModel" ⟨"CreasedPaperModel", "see", "(II)I"⟩ ⟨"CreasedPaperModel", "see", "(II)I"⟩) 1283 (by decide +kernel) (by decide +kernel)
theorem ml_L_103 : cV "CreasedPaperLaw" 103 m_X11_see 2 := ⟨cc_X11_see, tb_at (w := .methodLink "CreasedPaperLaw" 103 ⟨"CreasedPaperModel", "see", "(II)I"⟩) 1281 (by decide +kernel) (by decide +kernel), ci_X11_see, cs_X11_see⟩
theorem cc_X11_look : cC m_X11_look 1 := ⟨tb_at (w := .code ⟨"CreasedPaperModel", "look", "(I)Z"⟩ prog_13_method_55_code 2 (some .boolean)) 1288 (by decide +kernel) (by decide +kernel), tb_at (w := .initialized "CreasedPaperModel") 69 (by decide +kernel) (by decide +kernel), by decide +kernel, by decide⟩
theorem ci_X11_look : Cond.instanceMethod m_X11_look.1 ∈ TB := tb_at (w := .instanceMethod ⟨"CreasedPaperModel", "look", "(I)Z"⟩) 1286 (by decide +kernel) (by decide +kernel)
theorem cs_X11_look : Cond.selects m_X11_look.1.cls m_X11_look.1 m_X11_look.1 ∈ TB := tb_at (w := .selects "CreasedPaperModel" ⟨"CreasedPaperModel", "look", "(I)Z"⟩ ⟨"CreasedPaperModel", "look", "(I)Z"⟩) 1287 (by decide +kernel) (by decide +kernel)
theorem ml_L_108 : cV "CreasedPaperLaw" 108 m_X11_look 1 := ⟨cc_X11_look, tb_at (w := .methodLink "CreasedPaperLaw" 108 ⟨"CreasedPaperModel", "look", "(I)Z"⟩) 1285 (by decide +kernel) (by decide +kernel), ci_X11_look, cs_X11_look⟩
theorem cc_X11_orders : cC m_X11_orders 4 := ⟨tb_at (w := .code ⟨"CreasedPaperModel", "orders", "(IIII)I"⟩ prog_13_method_60_code 10 (some .int)) 1292 (by decide +kernel) (by decide +kernel), tb_at (w := .initialized "CreasedPaperModel") 69 (by decide +kernel) (by decide +kernel), by decide +kernel, by decide⟩
theorem ci_X11_orders : Cond.instanceMethod m_X11_orders.1 ∈ TB := tb_at (w := .instanceMethod ⟨"CreasedPaperModel", "orders", "(IIII)I"⟩) 1290 (by decide +kernel) (by decide +kernel)
theorem cs_X11_orders : Cond.selects m_X11_orders.1.cls m_X11_orders.1 m_X11_orders.1 ∈ TB := tb_at (w := .selects "CreasedPaperModel" ⟨"CreasedPaperModel", "orders", "(IIII)I"⟩ ⟨"CreasedPaperModel", "orders", "(IIII)I"⟩) 1291 (by decide +kernel) (by decide +kernel)
theorem ml_L_112 : cV "CreasedPaperLaw" 112 m_X11_orders 4 := ⟨cc_X11_orders, tb_at (w := .methodLink "CreasedPaperLaw" 112 ⟨"CreasedPaperModel", "orders", "(IIII)I"⟩) 1289 (by decide +kernel) (by decide +kernel), ci_X11_orders, cs_X11_orders⟩
theorem cc_X11_lookAll : cC m_X11_lookAll 0 := ⟨tb_at (w := .code ⟨"CreasedPaperModel", "lookAll", "()V"⟩ prog_13_method_56_code 2 none) 1296 (by decide +kernel) (by decide +kernel), tb_at (w := .initialized "CreasedPaperModel") 69 (by decide +kernel) (by decide +kernel), by decide +kernel, by decide⟩
theorem ci_X11_lookAll : Cond.instanceMethod m_X11_lookAll.1 ∈ TB := tb_at (w := .instanceMethod ⟨"CreasedPaperModel", "lookAll", "()V"⟩) 1295 (by decide +kernel) (by decide +kernel)
theorem cs_X11_lookAll : Cond.selects m_X11_lookAll.1.cls m_X11_lookAll.1 m_X11_lookAll.1 ∈ TB := tb_at (w := .selects "CreasedPaperModel" ⟨"CreasedPaperModel", "lookAll", "()V"⟩ ⟨"CreasedPaperModel", "lookAll", "()V"⟩) 51 (by decide +kernel) (by decide +kernel)
theorem ml_X11_237 : cV "CreasedPaperModel" 237 m_X11_lookAll 0 := ⟨cc_X11_lookAll, tb_at (w := .methodLink "CreasedPaperModel" 237 ⟨"CreasedPaperModel", "lookAll", "()V"⟩) 1293 (by decide +kernel) (by decide +kernel), ci_X11_lookAll, cs_X11_lookAll⟩
theorem cc_X11_rowsOf : cC m_X11_rowsOf 2 := ⟨tb_at (w := .code ⟨"CreasedPaperModel", "rowsOf", "(II)I"⟩ prog_13_method_59_code 4 (some .int)) 1299 (by decide +kernel) (by decide +kernel), tb_at (w := .initialized "CreasedPaperModel") 69 (by decide +kernel) (by decide +kernel), by decide +kernel, by decide⟩
theorem ci_X11_rowsOf : Cond.static m_X11_rowsOf.1 ∈ TB := tb_at (w := .static ⟨"CreasedPaperModel", "rowsOf", "(II)I"⟩) 1298 (by decide +kernel) (by decide +kernel)
theorem ml_X11_240 : cS "CreasedPaperModel" 240 m_X11_rowsOf 2 := ⟨cc_X11_rowsOf, tb_at (w := .methodLink "CreasedPaperModel" 240 ⟨"CreasedPaperModel", "rowsOf", "(II)I"⟩) 1297 (by decide +kernel) (by decide +kernel), ci_X11_rowsOf⟩
theorem cc_X11_fits : cC m_X11_fits 4 := ⟨tb_at (w := .code ⟨"CreasedPaperModel", "fits", "(IIII)Z"⟩ prog_13_method_58_code 9 (some .boolean)) 1303 (by decide +kernel) (by decide +kernel), tb_at (w := .initialized "CreasedPaperModel") 69 (by decide +kernel) (by decide +kernel), by decide +kernel, by decide⟩
theorem ci_X11_fits : Cond.instanceMethod m_X11_fits.1 ∈ TB := tb_at (w := .instanceMethod ⟨"CreasedPaperModel", "fits", "(IIII)Z"⟩) 1302 (by decide +kernel) (by decide +kernel)
theorem cs_X11_fits : Cond.selects m_X11_fits.1.cls m_X11_fits.1 m_X11_fits.1 ∈ TB := tb_at (w := .selects "CreasedPaperModel" ⟨"CreasedPaperModel", "fits", "(IIII)Z"⟩ ⟨"CreasedPaperModel", "fits", "(IIII)Z"⟩) 52 (by decide +kernel) (by decide +kernel)
theorem ml_X11_243 : cV "CreasedPaperModel" 243 m_X11_fits 4 := ⟨cc_X11_fits, tb_at (w := .methodLink "CreasedPaperModel" 243 ⟨"CreasedPaperModel", "fits", "(IIII)Z"⟩) 1300 (by decide +kernel) (by decide +kernel), ci_X11_fits, cs_X11_fits⟩
theorem cc_X11_folds : cC m_X11_folds 3 := ⟨tb_at (w := .code ⟨"CreasedPaperModel", "folds", "(IIZ)Z"⟩ prog_13_method_57_code 7 (some .boolean)) 1307 (by decide +kernel) (by decide +kernel), tb_at (w := .initialized "CreasedPaperModel") 69 (by decide +kernel) (by decide +kernel), by decide +kernel, by decide⟩
theorem ci_X11_folds : Cond.instanceMethod m_X11_folds.1 ∈ TB := tb_at (w := .instanceMethod ⟨"CreasedPaperModel", "folds", "(IIZ)Z"⟩) 1306 (by decide +kernel) (by decide +kernel)
theorem cs_X11_folds : Cond.selects m_X11_folds.1.cls m_X11_folds.1 m_X11_folds.1 ∈ TB := tb_at (w := .selects "CreasedPaperModel" ⟨"CreasedPaperModel", "folds", "(IIZ)Z"⟩ ⟨"CreasedPaperModel", "folds", "(IIZ)Z"⟩) 53 (by decide +kernel) (by decide +kernel)
theorem ml_X11_234 : cV "CreasedPaperModel" 234 m_X11_folds 3 := ⟨cc_X11_folds, tb_at (w := .methodLink "CreasedPaperModel" 234 ⟨"CreasedPaperModel", "folds", "(IIZ)Z"⟩) 1304 (by decide +kernel) (by decide +kernel), ci_X11_folds, cs_X11_folds⟩
theorem cc_X11_next : cC m_X11_next 2 := ⟨tb_at (w := .code ⟨"CreasedPaperModel", "next", "(II)I"⟩ prog_13_method_61_code 10 (some .int)) 1311 (by decide +kernel) (by decide +kernel), tb_at (w := .initialized "CreasedPaperModel") 69 (by decide +kernel) (by decide +kernel), by decide +kernel, by decide⟩
theorem ci_X11_next : Cond.instanceMethod m_X11_next.1 ∈ TB := tb_at (w := .instanceMethod ⟨"CreasedPaperModel", "next", "(II)I"⟩) 1309 (by decide +kernel) (by decide +kernel)
theorem cs_X11_next : Cond.selects m_X11_next.1.cls m_X11_next.1 m_X11_next.1 ∈ TB := tb_at (w := .selects "CreasedPaperModel" ⟨"CreasedPaperModel", "next", "(II)I"⟩ ⟨"CreasedPaperModel", "next", "(II)I"⟩) 1310 (by decide +kernel) (by decide +kernel)
theorem ml_L_116 : cV "CreasedPaperLaw" 116 m_X11_next 2 := ⟨cc_X11_next, tb_at (w := .methodLink "CreasedPaperLaw" 116 ⟨"CreasedPaperModel", "next", "(II)I"⟩) 1308 (by decide +kernel) (by decide +kernel), ci_X11_next, cs_X11_next⟩
theorem cc_X11_image : cC m_X11_image 0 := ⟨tb_at (w := .code ⟨"CreasedPaperModel", "image", "()I"⟩ prog_13_method_62_code 1 (some .int)) 1315 (by decide +kernel) (by decide +kernel), tb_at (w := .initialized "CreasedPaperModel") 69 (by decide +kernel) (by decide +kernel), by decide +kernel, by decide⟩
theorem ci_X11_image : Cond.instanceMethod m_X11_image.1 ∈ TB := tb_at (w := .instanceMethod ⟨"CreasedPaperModel", "image", "()I"⟩) 1313 (by decide +kernel) (by decide +kernel)
theorem cs_X11_image : Cond.selects m_X11_image.1.cls m_X11_image.1 m_X11_image.1 ∈ TB := tb_at (w := .selects "CreasedPaperModel" ⟨"CreasedPaperModel", "image", "()I"⟩ ⟨"CreasedPaperModel", "image", "()I"⟩) 1314 (by decide +kernel) (by decide +kernel)
theorem ml_L_120 : cV "CreasedPaperLaw" 120 m_X11_image 0 := ⟨cc_X11_image, tb_at (w := .methodLink "CreasedPaperLaw" 120 ⟨"CreasedPaperModel", "image", "()I"⟩) 1312 (by decide +kernel) (by decide +kernel), ci_X11_image, cs_X11_image⟩
theorem cc_X11_back : cC m_X11_back 0 := ⟨tb_at (w := .code ⟨"CreasedPaperModel", "back", "()I"⟩ prog_13_method_63_code 1 (some .int)) 1319 (by decide +kernel) (by decide +kernel), tb_at (w := .initialized "CreasedPaperModel") 69 (by decide +kernel) (by decide +kernel), by decide +kernel, by decide⟩
theorem ci_X11_back : Cond.instanceMethod m_X11_back.1 ∈ TB := tb_at (w := .instanceMethod ⟨"CreasedPaperModel", "back", "()I"⟩) 1317 (by decide +kernel) (by decide +kernel)
theorem cs_X11_back : Cond.selects m_X11_back.1.cls m_X11_back.1 m_X11_back.1 ∈ TB := tb_at (w := .selects "CreasedPaperModel" ⟨"CreasedPaperModel", "back", "()I"⟩ ⟨"CreasedPaperModel", "back", "()I"⟩) 1318 (by decide +kernel) (by decide +kernel)
theorem ml_L_124 : cV "CreasedPaperLaw" 124 m_X11_back 0 := ⟨cc_X11_back, tb_at (w := .methodLink "CreasedPaperLaw" 124 ⟨"CreasedPaperModel", "back", "()I"⟩) 1316 (by decide +kernel) (by decide +kernel), ci_X11_back, cs_X11_back⟩
theorem cc_X11_about : cC m_X11_about 1 := ⟨tb_at (w := .code ⟨"CreasedPaperModel", "about", "(I)I"⟩ prog_13_method_66_code 2 (some .int)) 1323 (by decide +kernel) (by decide +kernel), tb_at (w := .initialized "CreasedPaperModel") 69 (by decide +kernel) (by decide +kernel), by decide +kernel, by decide⟩
theorem ci_X11_about : Cond.instanceMethod m_X11_about.1 ∈ TB := tb_at (w := .instanceMethod ⟨"CreasedPaperModel", "about", "(I)I"⟩) 1321 (by decide +kernel) (by decide +kernel)
theorem cs_X11_about : Cond.selects m_X11_about.1.cls m_X11_about.1 m_X11_about.1 ∈ TB := tb_at (w := .selects "CreasedPaperModel" ⟨"CreasedPaperModel", "about", "(I)I"⟩ ⟨"CreasedPaperModel", "about", "(I)I"⟩) 1322 (by decide +kernel) (by decide +kernel)
theorem ml_L_128 : cV "CreasedPaperLaw" 128 m_X11_about 1 := ⟨cc_X11_about, tb_at (w := .methodLink "CreasedPaperLaw" 128 ⟨"CreasedPaperModel", "about", "(I)I"⟩) 1320 (by decide +kernel) (by decide +kernel), ci_X11_about, cs_X11_about⟩
theorem cc_X11_manyPoints : cC m_X11_manyPoints 1 := ⟨tb_at (w := .code ⟨"CreasedPaperModel", "manyPoints", "(I)I"⟩ prog_13_method_64_code 4 (some .int)) 1327 (by decide +kernel) (by decide +kernel), tb_at (w := .initialized "CreasedPaperModel") 69 (by decide +kernel) (by decide +kernel), by decide +kernel, by decide⟩
theorem ci_X11_manyPoints : Cond.instanceMethod m_X11_manyPoints.1 ∈ TB := tb_at (w := .instanceMethod ⟨"CreasedPaperModel", "manyPoints", "(I)I"⟩) 1326 (by decide +kernel) (by decide +kernel)
theorem cs_X11_manyPoints : Cond.selects m_X11_manyPoints.1.cls m_X11_manyPoints.1 m_X11_manyPoints.1 ∈ TB := tb_at (w := .selects "CreasedPaperModel" ⟨"CreasedPaperModel", "manyPoints", "(I)I"⟩ ⟨"CreasedPaperModel", "manyPoints", "(I)I"⟩) 54 (by decide +kernel) (by decide +kernel)
theorem ml_X11_247 : cV "CreasedPaperModel" 247 m_X11_manyPoints 1 := ⟨cc_X11_manyPoints, tb_at (w := .methodLink "CreasedPaperModel" 247 ⟨"CreasedPaperModel", "manyPoints", "(I)I"⟩) 1324 (by decide +kernel) (by decide +kernel), ci_X11_manyPoints, cs_X11_manyPoints⟩
theorem cc_X11_outmost : cC m_X11_outmost 1 := ⟨tb_at (w := .code ⟨"CreasedPaperModel", "outmost", "(Z)I"⟩ prog_13_method_65_code 4 (some .int)) 1331 (by decide +kernel) (by decide +kernel), tb_at (w := .initialized "CreasedPaperModel") 69 (by decide +kernel) (by decide +kernel), by decide +kernel, by decide⟩
theorem ci_X11_outmost : Cond.instanceMethod m_X11_outmost.1 ∈ TB := tb_at (w := .instanceMethod ⟨"CreasedPaperModel", "outmost", "(Z)I"⟩) 1330 (by decide +kernel) (by decide +kernel)
theorem cs_X11_outmost : Cond.selects m_X11_outmost.1.cls m_X11_outmost.1 m_X11_outmost.1 ∈ TB := tb_at (w := .selects "CreasedPaperModel" ⟨"CreasedPaperModel", "outmost", "(Z)I"⟩ ⟨"CreasedPaperModel", "outmost", "(Z)I"⟩) 55 (by decide +kernel) (by decide +kernel)
theorem ml_X11_250 : cV "CreasedPaperModel" 250 m_X11_outmost 1 := ⟨cc_X11_outmost, tb_at (w := .methodLink "CreasedPaperModel" 250 ⟨"CreasedPaperModel", "outmost", "(Z)I"⟩) 1328 (by decide +kernel) (by decide +kernel), ci_X11_outmost, cs_X11_outmost⟩
theorem kl_L_7 : Cond.classLink "CreasedPaperLaw" 7 "CreasedPaper" ∈ TB := tb_at (w := .classLink "CreasedPaperLaw" 7 "CreasedPaper") 75 (by decide +kernel) (by decide +kernel)
theorem jl_X10_1 : Cond.methodLink "CreasedPaper" 1 ⟨"java/lang/Object", "<init>", "()V"⟩ ∈ TB := tb_at (w := .methodLink "CreasedPaper" 1 ⟨"java/lang/Object", "<init>", "()V"⟩) 80 (by decide +kernel) (by decide +kernel)
theorem jl_X10_9 : Cond.methodLink "CreasedPaper" 9 ⟨"java/lang/Math", "min", "(II)I"⟩ ∈ TB := tb_at (w := .methodLink "CreasedPaper" 9 ⟨"java/lang/Math", "min", "(II)I"⟩) 83 (by decide +kernel) (by decide +kernel)
theorem jl_X10_15 : Cond.methodLink "CreasedPaper" 15 ⟨"java/lang/Math", "max", "(II)I"⟩ ∈ TB := tb_at (w := .methodLink "CreasedPaper" 15 ⟨"java/lang/Math", "max", "(II)I"⟩) 86 (by decide +kernel) (by decide +kernel)
theorem kl_X10_18 : Cond.classLink "CreasedPaper" 18 "CreasedPaper$Paper" ∈ TB := tb_at (w := .classLink "CreasedPaper" 18 "CreasedPaper$Paper") 89 (by decide +kernel) (by decide +kernel)
theorem jl_X2_3 : Cond.methodLink "CreasedPaper$Paper" 3 ⟨"java/lang/Object", "<init>", "()V"⟩ ∈ TB := tb_at (w := .methodLink "CreasedPaper$Paper" 3 ⟨"java/lang/Object", "<init>", "()V"⟩) 94 (by decide +kernel) (by decide +kernel)
theorem kl_X2_24 : Cond.classLink "CreasedPaper$Paper" 24 "CreasedPaper$Strip" ∈ TB := tb_at (w := .classLink "CreasedPaper$Paper" 24 "CreasedPaper$Strip") 95 (by decide +kernel) (by decide +kernel)
theorem jl_X7_3 : Cond.methodLink "CreasedPaper$Strip" 3 ⟨"java/lang/Object", "<init>", "()V"⟩ ∈ TB := tb_at (w := .methodLink "CreasedPaper$Strip" 3 ⟨"java/lang/Object", "<init>", "()V"⟩) 100 (by decide +kernel) (by decide +kernel)
theorem jl_X7_29 : Cond.methodLink "CreasedPaper$Strip" 29 ⟨"java/lang/Math", "min", "(II)I"⟩ ∈ TB := tb_at (w := .methodLink "CreasedPaper$Strip" 29 ⟨"java/lang/Math", "min", "(II)I"⟩) 105 (by decide +kernel) (by decide +kernel)
theorem jl_X7_35 : Cond.methodLink "CreasedPaper$Strip" 35 ⟨"java/lang/Math", "max", "(II)I"⟩ ∈ TB := tb_at (w := .methodLink "CreasedPaper$Strip" 35 ⟨"java/lang/Math", "max", "(II)I"⟩) 106 (by decide +kernel) (by decide +kernel)
theorem kl_X2_33 : Cond.classLink "CreasedPaper$Paper" 33 "CreasedPaper$Creases" ∈ TB := tb_at (w := .classLink "CreasedPaper$Paper" 33 "CreasedPaper$Creases") 135 (by decide +kernel) (by decide +kernel)
theorem jl_X0_3 : Cond.methodLink "CreasedPaper$Creases" 3 ⟨"java/lang/Object", "<init>", "()V"⟩ ∈ TB := tb_at (w := .methodLink "CreasedPaper$Creases" 3 ⟨"java/lang/Object", "<init>", "()V"⟩) 140 (by decide +kernel) (by decide +kernel)
theorem kl_X10_30 : Cond.classLink "CreasedPaper" 30 "CreasedPaper$Sheets" ∈ TB := tb_at (w := .classLink "CreasedPaper" 30 "CreasedPaper$Sheets") 203 (by decide +kernel) (by decide +kernel)
theorem jl_X6_3 : Cond.methodLink "CreasedPaper$Sheets" 3 ⟨"java/lang/Object", "<init>", "()V"⟩ ∈ TB := tb_at (w := .methodLink "CreasedPaper$Sheets" 3 ⟨"java/lang/Object", "<init>", "()V"⟩) 208 (by decide +kernel) (by decide +kernel)
theorem kl_X10_40 : Cond.classLink "CreasedPaper" 40 "CreasedPaper$Seen" ∈ TB := tb_at (w := .classLink "CreasedPaper" 40 "CreasedPaper$Seen") 229 (by decide +kernel) (by decide +kernel)
theorem jl_X4_3 : Cond.methodLink "CreasedPaper$Seen" 3 ⟨"java/lang/Object", "<init>", "()V"⟩ ∈ TB := tb_at (w := .methodLink "CreasedPaper$Seen" 3 ⟨"java/lang/Object", "<init>", "()V"⟩) 234 (by decide +kernel) (by decide +kernel)
theorem kl_X10_50 : Cond.classLink "CreasedPaper" 50 "CreasedPaper$Tape" ∈ TB := tb_at (w := .classLink "CreasedPaper" 50 "CreasedPaper$Tape") 250 (by decide +kernel) (by decide +kernel)
theorem jl_X8_1 : Cond.methodLink "CreasedPaper$Tape" 1 ⟨"java/lang/Object", "<init>", "()V"⟩ ∈ TB := tb_at (w := .methodLink "CreasedPaper$Tape" 1 ⟨"java/lang/Object", "<init>", "()V"⟩) 255 (by decide +kernel) (by decide +kernel)
theorem kl_X10_57 : Cond.classLink "CreasedPaper" 57 "CreasedPaper$Text" ∈ TB := tb_at (w := .classLink "CreasedPaper" 57 "CreasedPaper$Text") 279 (by decide +kernel) (by decide +kernel)
theorem jl_X9_3 : Cond.methodLink "CreasedPaper$Text" 3 ⟨"java/lang/Object", "<init>", "()V"⟩ ∈ TB := tb_at (w := .methodLink "CreasedPaper$Text" 3 ⟨"java/lang/Object", "<init>", "()V"⟩) 284 (by decide +kernel) (by decide +kernel)
theorem kl_X10_64 : Cond.classLink "CreasedPaper" 64 "CreasedPaper$Shapes" ∈ TB := tb_at (w := .classLink "CreasedPaper" 64 "CreasedPaper$Shapes") 329 (by decide +kernel) (by decide +kernel)
theorem jl_X5_3 : Cond.methodLink "CreasedPaper$Shapes" 3 ⟨"java/lang/Object", "<init>", "()V"⟩ ∈ TB := tb_at (w := .methodLink "CreasedPaper$Shapes" 3 ⟨"java/lang/Object", "<init>", "()V"⟩) 334 (by decide +kernel) (by decide +kernel)
theorem kl_X10_71 : Cond.classLink "CreasedPaper" 71 "CreasedPaper$Panels" ∈ TB := tb_at (w := .classLink "CreasedPaper" 71 "CreasedPaper$Panels") 351 (by decide +kernel) (by decide +kernel)
theorem jl_X1_3 : Cond.methodLink "CreasedPaper$Panels" 3 ⟨"java/lang/Object", "<init>", "()V"⟩ ∈ TB := tb_at (w := .methodLink "CreasedPaper$Panels" 3 ⟨"java/lang/Object", "<init>", "()V"⟩) 356 (by decide +kernel) (by decide +kernel)
theorem kl_X10_78 : Cond.classLink "CreasedPaper" 78 "CreasedPaper$Search" ∈ TB := tb_at (w := .classLink "CreasedPaper" 78 "CreasedPaper$Search") 377 (by decide +kernel) (by decide +kernel)
theorem jl_X3_3 : Cond.methodLink "CreasedPaper$Search" 3 ⟨"java/lang/Object", "<init>", "()V"⟩ ∈ TB := tb_at (w := .methodLink "CreasedPaper$Search" 3 ⟨"java/lang/Object", "<init>", "()V"⟩) 382 (by decide +kernel) (by decide +kernel)
theorem kl_X3_15 : Cond.classLink "CreasedPaper$Search" 15 "CreasedPaper$Strip" ∈ TB := tb_at (w := .classLink "CreasedPaper$Search" 15 "CreasedPaper$Strip") 383 (by decide +kernel) (by decide +kernel)
theorem kl_X3_21 : Cond.classLink "CreasedPaper$Search" 21 "[[I" ∈ TB := tb_at (w := .classLink "CreasedPaper$Search" 21 "[[I") 385 (by decide +kernel) (by decide +kernel)
theorem lc_X2_67 : Cond.constant "CreasedPaper$Paper" 67 (100000) ∈ TB := tb_at (w := .constant "CreasedPaper$Paper" 67 (100000)) 498 (by decide +kernel) (by decide +kernel)
theorem jl_X2_95 : Cond.methodLink "CreasedPaper$Paper" 95 ⟨"java/lang/Math", "max", "(II)I"⟩ ∈ TB := tb_at (w := .methodLink "CreasedPaper$Paper" 95 ⟨"java/lang/Math", "max", "(II)I"⟩) 504 (by decide +kernel) (by decide +kernel)
theorem jl_X0_43 : Cond.methodLink "CreasedPaper$Creases" 43 ⟨"java/lang/Math", "max", "(II)I"⟩ ∈ TB := tb_at (w := .methodLink "CreasedPaper$Creases" 43 ⟨"java/lang/Math", "max", "(II)I"⟩) 509 (by decide +kernel) (by decide +kernel)
theorem lc_X8_57 : Cond.constant "CreasedPaper$Tape" 57 (100000) ∈ TB := tb_at (w := .constant "CreasedPaper$Tape" 57 (100000)) 621 (by decide +kernel) (by decide +kernel)
theorem jl_X8_45 : Cond.methodLink "CreasedPaper$Tape" 45 ⟨"java/lang/String", "length", "()I"⟩ ∈ TB := tb_at (w := .methodLink "CreasedPaper$Tape" 45 ⟨"java/lang/String", "length", "()I"⟩) 645 (by decide +kernel) (by decide +kernel)
theorem jl_X8_50 : Cond.methodLink "CreasedPaper$Tape" 50 ⟨"java/lang/String", "charAt", "(I)C"⟩ ∈ TB := tb_at (w := .methodLink "CreasedPaper$Tape" 50 ⟨"java/lang/String", "charAt", "(I)C"⟩) 655 (by decide +kernel) (by decide +kernel)
theorem jl_X9_131 : Cond.methodLink "CreasedPaper$Text" 131 ⟨"java/lang/Math", "max", "(II)I"⟩ ∈ TB := tb_at (w := .methodLink "CreasedPaper$Text" 131 ⟨"java/lang/Math", "max", "(II)I"⟩) 741 (by decide +kernel) (by decide +kernel)
theorem lc_X6_37 : Cond.constantLong "CreasedPaper$Sheets" 37 (1000) ∈ TB := tb_at (w := .constantLong "CreasedPaper$Sheets" 37 (1000)) 770 (by decide +kernel) (by decide +kernel)
theorem lc_X10_214 : Cond.constant "CreasedPaper" 214 (-2000000000) ∈ TB := tb_at (w := .constant "CreasedPaper" 214 (-2000000000)) 771 (by decide +kernel) (by decide +kernel)
theorem lc_X10_315 : Cond.constant "CreasedPaper" 315 (-1000000) ∈ TB := tb_at (w := .constant "CreasedPaper" 315 (-1000000)) 779 (by decide +kernel) (by decide +kernel)
theorem lc_X10_316 : Cond.constant "CreasedPaper" 316 (1000000) ∈ TB := tb_at (w := .constant "CreasedPaper" 316 (1000000)) 780 (by decide +kernel) (by decide +kernel)
theorem jl_X10_232 : Cond.methodLink "CreasedPaper" 232 ⟨"java/lang/Math", "abs", "(I)I"⟩ ∈ TB := tb_at (w := .methodLink "CreasedPaper" 232 ⟨"java/lang/Math", "abs", "(I)I"⟩) 810 (by decide +kernel) (by decide +kernel)
theorem lc_X5_32 : Cond.constant "CreasedPaper$Shapes" 32 (-2000000000) ∈ TB := tb_at (w := .constant "CreasedPaper$Shapes" 32 (-2000000000)) 817 (by decide +kernel) (by decide +kernel)
theorem jl_X5_36 : Cond.methodLink "CreasedPaper$Shapes" 36 ⟨"java/lang/Math", "abs", "(I)I"⟩ ∈ TB := tb_at (w := .methodLink "CreasedPaper$Shapes" 36 ⟨"java/lang/Math", "abs", "(I)I"⟩) 818 (by decide +kernel) (by decide +kernel)
theorem jl_X5_42 : Cond.methodLink "CreasedPaper$Shapes" 42 ⟨"java/lang/Math", "min", "(II)I"⟩ ∈ TB := tb_at (w := .methodLink "CreasedPaper$Shapes" 42 ⟨"java/lang/Math", "min", "(II)I"⟩) 819 (by decide +kernel) (by decide +kernel)
theorem jl_X4_31 : Cond.methodLink "CreasedPaper$Seen" 31 ⟨"java/lang/Math", "min", "(II)I"⟩ ∈ TB := tb_at (w := .methodLink "CreasedPaper$Seen" 31 ⟨"java/lang/Math", "min", "(II)I"⟩) 889 (by decide +kernel) (by decide +kernel)
theorem jl_X3_65 : Cond.methodLink "CreasedPaper$Search" 65 ⟨"java/lang/Math", "max", "(II)I"⟩ ∈ TB := tb_at (w := .methodLink "CreasedPaper$Search" 65 ⟨"java/lang/Math", "max", "(II)I"⟩) 903 (by decide +kernel) (by decide +kernel)
theorem jl_X3_81 : Cond.methodLink "CreasedPaper$Search" 81 ⟨"java/lang/Math", "min", "(II)I"⟩ ∈ TB := tb_at (w := .methodLink "CreasedPaper$Search" 81 ⟨"java/lang/Math", "min", "(II)I"⟩) 905 (by decide +kernel) (by decide +kernel)
theorem jl_X7_42 : Cond.methodLink "CreasedPaper$Strip" 42 ⟨"java/lang/System", "arraycopy", "(Ljava/lang/Object;ILjava/lang/Object;II)V"⟩ ∈ TB := tb_at (w := .methodLink "CreasedPaper$Strip" 42 ⟨"java/lang/System", "arraycopy", "(Ljava/lang/Object;ILjava/lang/Object;II)V"⟩) 914 (by decide +kernel) (by decide +kernel)
theorem jl_X0_31 : Cond.methodLink "CreasedPaper$Creases" 31 ⟨"java/lang/Math", "min", "(II)I"⟩ ∈ TB := tb_at (w := .methodLink "CreasedPaper$Creases" 31 ⟨"java/lang/Math", "min", "(II)I"⟩) 946 (by decide +kernel) (by decide +kernel)
theorem jl_X0_37 : Cond.methodLink "CreasedPaper$Creases" 37 ⟨"java/lang/System", "arraycopy", "(Ljava/lang/Object;ILjava/lang/Object;II)V"⟩ ∈ TB := tb_at (w := .methodLink "CreasedPaper$Creases" 37 ⟨"java/lang/System", "arraycopy", "(Ljava/lang/Object;ILjava/lang/Object;II)V"⟩) 947 (by decide +kernel) (by decide +kernel)
theorem jl_X6_31 : Cond.methodLink "CreasedPaper$Sheets" 31 ⟨"java/lang/System", "arraycopy", "(Ljava/lang/Object;ILjava/lang/Object;II)V"⟩ ∈ TB := tb_at (w := .methodLink "CreasedPaper$Sheets" 31 ⟨"java/lang/System", "arraycopy", "(Ljava/lang/Object;ILjava/lang/Object;II)V"⟩) 952 (by decide +kernel) (by decide +kernel)
theorem jl_X4_25 : Cond.methodLink "CreasedPaper$Seen" 25 ⟨"java/lang/System", "arraycopy", "(Ljava/lang/Object;ILjava/lang/Object;II)V"⟩ ∈ TB := tb_at (w := .methodLink "CreasedPaper$Seen" 25 ⟨"java/lang/System", "arraycopy", "(Ljava/lang/Object;ILjava/lang/Object;II)V"⟩) 957 (by decide +kernel) (by decide +kernel)
theorem kl_L_18 : Cond.classLink "CreasedPaperLaw" 18 "CreasedPaperModel" ∈ TB := tb_at (w := .classLink "CreasedPaperLaw" 18 "CreasedPaperModel") 979 (by decide +kernel) (by decide +kernel)
theorem jl_X11_1 : Cond.methodLink "CreasedPaperModel" 1 ⟨"java/lang/Object", "<init>", "()V"⟩ ∈ TB := tb_at (w := .methodLink "CreasedPaperModel" 1 ⟨"java/lang/Object", "<init>", "()V"⟩) 984 (by decide +kernel) (by decide +kernel)
theorem lc_X11_97 : Cond.constant "CreasedPaperModel" 97 (100000) ∈ TB := tb_at (w := .constant "CreasedPaperModel" 97 (100000)) 1110 (by decide +kernel) (by decide +kernel)
theorem lc_X11_203 : Cond.constantLong "CreasedPaperModel" 203 (1000) ∈ TB := tb_at (w := .constantLong "CreasedPaperModel" 203 (1000)) 1239 (by decide +kernel) (by decide +kernel)
theorem lc_X11_211 : Cond.constant "CreasedPaperModel" 211 (-2000000000) ∈ TB := tb_at (w := .constant "CreasedPaperModel" 211 (-2000000000)) 1240 (by decide +kernel) (by decide +kernel)
theorem lc_X11_212 : Cond.constant "CreasedPaperModel" 212 (-1000000) ∈ TB := tb_at (w := .constant "CreasedPaperModel" 212 (-1000000)) 1248 (by decide +kernel) (by decide +kernel)
theorem lc_X11_213 : Cond.constant "CreasedPaperModel" 213 (1000000) ∈ TB := tb_at (w := .constant "CreasedPaperModel" 213 (1000000)) 1249 (by decide +kernel) (by decide +kernel)
end
section
/-! THE MINI MACHINE: cells by small numbers (ids); an id i stands for the address base + i; one judgement Z for a frame of a method, one EV for a method's contract -/
abbrev mE : Type := (Nat × (Nat → Int32)) ⊕ (Nat × (Nat → Bool)) ⊕ (Nat × Nat × (Nat → Option Nat)) ⊕ (Nat × List Value) ⊕ Unit
abbrev mH : Type := Nat → mE
def aI (n : Nat) (f : Nat → Int32) : mE := .inl (n, f)
def aZ (n : Nat) (f : Nat → Bool) : mE := .inr (.inl (n, f))
def aR (t n : Nat) (f : Nat → Option Nat) : mE := .inr (.inr (.inl (t, n, f)))
def oB (ci : Nat) (fs : List Value) : mE := .inr (.inr (.inr (.inl (ci, fs))))
def dd : mE := .inr (.inr (.inr (.inr ())))
def bI (b : Bool) : Int32 := if b then 1 else 0
def hu (h : mH) (i : Nat) (c : mE) : mH := fun j => if j = i then c else h j
theorem hu_s {h : mH} {i : Nat} {c : mE} : hu h i c i = c := by simp [hu]
theorem hu_n {h : mH} {i j : Nat} {c : mE} (hn : j ≠ i) : hu h i c j = h j := by simp [hu, hn]
theorem hu_hu {h : mH} {i : Nat} {c c' : mE} : hu (hu h i c) i c' = hu h i c' := by
  funext j
  by_cases hj : j = i <;> simp [hu, hj]
theorem hu_self {h : mH} {i : Nat} {c : mE} (e : h i = c) : hu h i c = h := by
  funext j
  by_cases hj : j = i
  · subst hj; simp [hu, e]
  · simp [hu, hj]
theorem hu_comm {h : mH} {i j : Nat} {c c' : mE} (hn : i ≠ j) : hu (hu h i c) j c' = hu (hu h j c') i c := by
  funext q
  by_cases h1 : q = i
  · subst h1
    simp [hu, hn]
  · by_cases h2 : q = j
    · subst h2
      simp [hu, h1]
    · simp [hu, h1, h2]
theorem aI_dd {n : Nat} {f : Nat → Int32} : aI n f ≠ dd := by intro h; cases h
theorem aZ_dd {n : Nat} {f : Nat → Bool} : aZ n f ≠ dd := by intro h; cases h
theorem aR_dd {t n : Nat} {f : Nat → Option Nat} : aR t n f ≠ dd := by intro h; cases h
theorem oB_dd {ci : Nat} {fs : List Value} : oB ci fs ≠ dd := by intro h; cases h
theorem bI_t : bI true = 1 := rfl
theorem bI_f : bI false = 0 := rfl
theorem bI_nar (b : Bool) : narrow .boolean (.int (bI b)) = .int (bI b) := by cases b <;> decide
theorem bI_fit (b : Bool) : fits .boolean (.int (bI b)) = true := by cases b <;> decide
theorem bI_vp (b : Bool) : vp_nar .boolean (bI b) = bI b := by cases b <;> decide
/-- launch, classes and slots, array classes, base, addresses of constants, what else holds of the state -/
abbrev mG : Type := Launch × va_G × (Nat → ClassId) × Nat × (Nat → Nat) × (State → Prop)
def gl (G : mG) : Launch := G.1
def gD (G : mG) : va_G := G.2.1
def gA (G : mG) : Nat → ClassId := G.2.2.1
def gb (G : mG) : Nat := G.2.2.2.1
def gs (G : mG) : Nat → Nat := G.2.2.2.2.1
def gI (G : mG) : State → Prop := G.2.2.2.2.2
def gC (G : mG) : Prop := ∀ s U : State, gI G s → s.WarmedH U.vm → (∀ q, q < gb G → U.heap[q]? = s.heap[q]?) → gI G U
def ad (G : mG) (i : Nat) : Nat := if i < 1048576 then gb G + i else gs G i
def tv (G : mG) (v : Value) : Value := match v with
  | .ref a => .ref (ad G a)
  | .int x => .int x
  | .long x => .long x
  | .null => .null
  | w => w
def te (G : mG) (e : mE) : va_E := match e with
  | .inl (n, f) => .inl (gA G 0, n, .inl f)
  | .inr (.inl (n, f)) => .inl (gA G 1, n, .inl (fun j => bI (f j)))
  | .inr (.inr (.inl (t, n, f))) => .inl (gA G t, n, .inr (.inr (.inr (.inr (fun j => (f j).map (ad G))))))
  | .inr (.inr (.inr (.inl (ci, fs)))) => .inr (ci, fs.map (tv G))
  | .inr (.inr (.inr (.inr _))) => .inr (0, [])
def wl (G : mG) (K : Nat) (h : mH) : va_W := (List.range K).map (fun i => (ad G i, te G (h i)))
def tyL (G : mG) : List (ClassId × FieldType) := [(gA G 0, .int), (gA G 1, .boolean), (gA G 2, .object "CreasedPaper$Strip"), (gA G 3, .array .int)]
def inA (G : mG) : Nat → Prop := fun q => gb G ≤ q
theorem wl_get {G : mG} {K i : Nat} {h : mH} (hi : i < K) : (wl G K h)[i]? = some (ad G i, te G (h i)) := by
  simp [wl, hi]
theorem wl_set {G : mG} {K i : Nat} {h : mH} {c : mE} : (wl G K h).set i (ad G i, te G c) = wl G K (hu h i c) := by
  apply List.ext_getElem?
  intro j
  by_cases hj : j < K
  · rw [wl_get hj]
    by_cases e : i = j
    · subst e
      rw [List.getElem?_set_self (by simp [wl, hj]), hu_s]
    · rw [List.getElem?_set_ne e, wl_get hj, hu_n (Ne.symm e)]
  · rw [List.getElem?_eq_none (by simp [wl]; omega), List.getElem?_eq_none (by simp [wl]; omega)]
theorem wl_push {G : mG} {K : Nat} {h : mH} {c : mE} : wl G (K + 1) (hu h K c) = wl G K h ++ [(ad G K, te G c)] := by
  unfold wl
  rw [List.range_succ, List.map_append]
  congr 1
  · apply List.map_congr_left
    intro i hi
    rw [hu_n (Nat.ne_of_lt (List.mem_range.mp hi))]
  · simp [hu_s]
theorem ad_lo {G : mG} {i : Nat} (h : i < 1048576) : ad G i = gb G + i := by simp [ad, h]
theorem wl_D {G : mG} {K : Nat} {h : mH} (hK : K ≤ 1048576) : va_D (inA G) (wl G K h) := by
  have key : ∀ (k : Nat) (q : Nat × va_E), (wl G K h)[k]? = some q → k < K ∧ q.1 = gb G + k := by
    intro k q hq
    have hk : k < K := by
      have := (List.getElem?_eq_some_iff.mp hq).1
      simpa [wl] using this
    rw [wl_get hk] at hq
    cases hq
    exact ⟨hk, ad_lo (by omega)⟩
  refine ⟨fun i j p q hi hj hpq => ?_, fun k q hk => ?_⟩
  · obtain ⟨-, a⟩ := key i p hi
    obtain ⟨-, b⟩ := key j q hj
    omega
  · obtain ⟨-, a⟩ := key k q hk
    show gb G ≤ q.1
    omega
def wS (M : mD) : List Cond := .code M.1 M.2.1 M.2.2.1 M.2.2.2 :: TB
theorem wS_good {M M' : mD} {np : Nat} (h : cC M' np) : GoodIn (wS M) (wS M') := by
  intro w hw
  rcases List.mem_cons.mp hw with rfl | hw
  · exact ⟨List.mem_cons_of_mem _ h.1, tb_good _ h.1⟩
  · exact ⟨List.mem_cons_of_mem _ hw, tb_good _ hw⟩
def rmm (d mc ms : Nat) : Room := { frames := d, cells := mc, slots := ms, locals := 40 * d }
/-- a world of K cells: the heap ends with it -/
def mB (G : mG) (h : mH) (K mc : Nat) (U : State) : Prop :=
  U.heap.size = gb G + K ∧ K + mc ≤ 1048576 ∧ (∀ i, h i = dd ↔ K ≤ i) ∧ va_P (gD G) CL (wl G K h) U.heap ∧ va_K (gD G) CL (tyL G) U ∧ gC G ∧ gI G U
def mQ (G : mG) (Q : Option Value → mH → Prop) (K mc : Nat) : Array Value → State → Outcome → State → Prop := fun _ st o t =>
  (∃ (r : Option Value) (h' : mH), o = .returned (r.map (tv G)) ∧ Q r h' ∧ (∀ i, h' i = dd ↔ K + mc ≤ i) ∧ va_P (gD G) CL (wl G (K + mc) h') t.heap) ∧ va_F (inA G) st t
def EV (G : mG) (M : mD) (d mc ms : Nat) (args : List Value) (h : mH) (Q : Option Value → mH → Prop) : Prop :=
  ∀ K : Nat, Met (gl G) M.1 (wS M) (rmm d mc ms) (va_Pc (args.map (tv G)) (mB G h K mc)) (mQ G Q K mc) mc ms (inA G)
def en (G : mG) (M : mD) (p : Program) (s : State) (m : MethodId) (args : Array Value) (meth : Method) (c : Code) (K0 mc : Nat) : Prop :=
  p.tables.exec = Jvm.exec ∧ c.code = M.2.1 ∧ c.maxLocals = M.2.2.1 ∧ meth.sig.returnType = M.2.2.2 ∧ s.vm.findClass M.1.cls = some m.cls ∧ (∀ w ∈ wS M, w.before args s = true) ∧ meth.locks = false ∧ meth.name = M.1.name ∧ s.heap.size = gb G + K0 ∧ K0 + mc ≤ 1048576 ∧ va_K (gD G) CL (tyL G) s ∧ gC G ∧ gI G s
/-- the locals that are known -/
def lo (G : mG) (ls : Array Slot) (n : Nat) (lv : List (Option Value)) : Prop := ls.size = n ∧ lv_wf ls ∧ ∀ (i : Nat) (v : Value), lv[i]? = some (some v) → ls[i]? = some (.val (tv G v))
def Z (G : mG) (M : mD) (d mc ms cells slots pc : Nat) (lv : List (Option Value)) (st : List Value) (h : mH) (Q : Option Value → mH → Prop) : Prop :=
  ∀ (p : Program) (e : Env) (s : State) (m : MethodId) (args : Array Value) (below : List Frame) (meth : Method) (c : Code) (K0 : Nat), en G M p s m args meth c K0 mc →
    ∀ (H : Heap) (locs : List Loc) (ls : Array Slot), (∀ i, h i = dd ↔ K0 + cells ≤ i) → K0 + cells ≤ 1048576 → va_P (gD G) CL (wl G (K0 + cells) h) H → va_S (inA G) s.heap H locs → lo G ls M.2.2.1 lv →
      W p (gl G) e (rmm d mc ms) s m args below meth c H locs cells slots (MQ below (mQ G Q K0 mc) args s mc ms (inA G)) (F0 m pc ls (st.map (tv G)))
/-- the locals at the entry -/
def el : List Value → List (Option Value)
  | [] => []
  | v :: vs => if v.category = 2 then some v :: none :: el vs else some v :: el vs
theorem tv_cat (G : mG) (v : Value) : (tv G v).category = v.category := by cases v <;> rfl
theorem el_args (G : mG) : ∀ (vs : List Value) (b i : Nat) (v : Value), (el vs)[i]? = some (some v) → (b + i, tv G v) ∈ lv_args b (vs.map (tv G))
  | [], b, i, v, h => by simp [el] at h
  | w :: vs, b, i, v, h => by
    simp only [List.map_cons, lv_args, tv_cat]
    unfold el at h
    by_cases hc : w.category = 2
    · rw [if_pos hc] at h
      rw [if_pos hc]
      match i, h with
      | 0, h => simp at h; subst h; exact List.mem_cons_self
      | 1, h => simp at h
      | i + 2, h =>
        have := el_args G vs (b + 2) i v (by simpa using h)
        rw [show b + (i + 2) = b + 2 + i by omega]
        exact List.mem_cons_of_mem _ this
    · rw [if_neg hc] at h
      rw [if_neg hc]
      match i, h with
      | 0, h => simp at h; subst h; exact List.mem_cons_self
      | i + 1, h =>
        have := el_args G vs (b + 1) i v (by simpa using h)
        rw [show b + (i + 1) = b + 1 + i by omega]
        exact List.mem_cons_of_mem _ this
theorem el_len (G : mG) : ∀ vs : List Value, (lg_sl (vs.map (tv G))).length = (el vs).length
  | [] => rfl
  | v :: vs => by
    have ih := el_len G vs
    have e : lg_sl ((v :: vs).map (tv G)) = lg_sl [tv G v] ++ lg_sl (vs.map (tv G)) := by simp [lg_sl]
    rw [e, List.length_append, ih]
    cases v <;> simp [lg_sl, el, tv, Value.category] <;> omega
theorem lo_pad {G : mG} {ls : Array Slot} {n k : Nat} {lv : List (Option Value)} (h : lo G ls n lv) : lo G ls n (lv ++ List.replicate k none) := by
  refine ⟨h.1, h.2.1, fun i v hi => h.2.2 i v ?_⟩
  by_cases hl : i < lv.length
  · rwa [List.getElem?_append_left hl] at hi
  · rw [List.getElem?_append_right (by omega)] at hi
    obtain ⟨h1, h2⟩ := List.getElem?_eq_some_iff.mp hi
    simp at h2
theorem ev_intro {G : mG} {M : mD} {d mc ms : Nat} {args : List Value} {h : mH} {Q : Option Value → mH → Prop} (k : Nat) {lv : List (Option Value)} (hlv : el args ++ List.replicate k none = lv) (hy1 : plainName M.1.cls = true) (hy2 : Nat.ble (el args).length M.2.2.1 = true)
    (z : Z G M d mc ms 0 0 0 lv [] h Q) : EV G M d mc ms args h Q := by
  intro K
  have hy : plainName M.1.cls = true ∧ (el args).length ≤ M.2.2.1 := ⟨hy1, Nat.le_of_ble_eq_true hy2⟩
  refine Met.ofW (cc := M.2.1) (maxL := M.2.2.1) (ret := M.2.2.2) hy.1 rfl ?_
  intro p e s m args0 below meth c s₁ B hml hv
  obtain ⟨rfl, hsz, hmc, hk, hP, hK, hC, hI⟩ := hv
  have hl := lv_entry (args.map (tv G)) (n := M.2.2.1) (by rw [el_len]; exact hy.2)
  rw [lg_entry_eq]
  refine z p e s m _ below meth c K ⟨B.exec, B.bytes, hml, B.returns, findClass_of_methodNamed B.named, atoms_spec (ws := wS M) B.pre, B.notSynchronized, (name_of_methodNamed B.named B.method).1, hsz, hmc, hK, hC, hI⟩ s.heap [] _ hk (by omega) hP va_S.rf ?_
  rw [← hlv]
  refine lo_pad ⟨hl.1, hl.2.1, fun i v hi => ?_⟩
  have := el_args G args 0 i v hi
  rw [Nat.zero_add] at this
  exact hl.2.2 _ this
end
section
/-! RULES of the mini machine: one row an instruction, over the kit's rows -/
def dkb (M : mD) (pc : Nat) (ins : Instr) (len n : Nat) : Bool := decide (decode M.2.1 pc = .ok (ins, len)) && (pc + len == n)
def djb (M : mD) (pc : Nat) (ins : Instr) (len n : Nat) (off : Int) (tgt : Nat) : Bool := dkb M pc ins len n && decide ((pc : Int) + off = (tgt : Int))
theorem dk1 {M : mD} {pc len n : Nat} {ins : Instr} (h : dkb M pc ins len n = true) : decode M.2.1 pc = .ok (ins, len) ∧ pc + len = n := by
  simpa [dkb] using h
theorem dj1 {M : mD} {pc len n tgt : Nat} {off : Int} {ins : Instr} (h : djb M pc ins len n off tgt = true) : decode M.2.1 pc = .ok (ins, len) ∧ pc + len = n ∧ (pc : Int) + off = (tgt : Int) := by
  simpa [djb, dkb, and_assoc] using h
section ZR
variable {G : mG} {M : mD} {d mc ms cs sl pc n : Nat} {lv : List (Option Value)} {st : List Value} {h : mH} {Q : Option Value → mH → Prop}
theorem z_iadd {x y : Int32} (hd : dkb M pc (.iadd) 1 n = true)  (k : Z G M d mc ms cs sl n lv (.int (x + y) :: st) h Q) : Z G M d mc ms cs sl pc lv (.int y :: .int x :: st) h Q := by
  obtain ⟨he, rfl⟩ := dk1 hd
  intro p e s m args below meth c K0 E H locs ls hk hk1 hP hS hl
  exact lv_iadd E.1 E.2.1 he  (k p e s m args below meth c K0 E H locs ls hk hk1 hP hS hl)
theorem z_isub {x y : Int32} (hd : dkb M pc (.isub) 1 n = true)  (k : Z G M d mc ms cs sl n lv (.int (x - y) :: st) h Q) : Z G M d mc ms cs sl pc lv (.int y :: .int x :: st) h Q := by
  obtain ⟨he, rfl⟩ := dk1 hd
  intro p e s m args below meth c K0 E H locs ls hk hk1 hP hS hl
  exact lv_isub E.1 E.2.1 he  (k p e s m args below meth c K0 E H locs ls hk hk1 hP hS hl)
theorem z_imul {x y : Int32} (hd : dkb M pc (.imul) 1 n = true)  (k : Z G M d mc ms cs sl n lv (.int (x * y) :: st) h Q) : Z G M d mc ms cs sl pc lv (.int y :: .int x :: st) h Q := by
  obtain ⟨he, rfl⟩ := dk1 hd
  intro p e s m args below meth c K0 E H locs ls hk hk1 hP hS hl
  exact lv_imul E.1 E.2.1 he  (k p e s m args below meth c K0 E H locs ls hk hk1 hP hS hl)
theorem z_iand {x y : Int32} (hd : dkb M pc (.iand) 1 n = true)  (k : Z G M d mc ms cs sl n lv (.int (x &&& y) :: st) h Q) : Z G M d mc ms cs sl pc lv (.int y :: .int x :: st) h Q := by
  obtain ⟨he, rfl⟩ := dk1 hd
  intro p e s m args below meth c K0 E H locs ls hk hk1 hP hS hl
  exact lv_iand E.1 E.2.1 he  (k p e s m args below meth c K0 E H locs ls hk hk1 hP hS hl)
theorem z_ior {x y : Int32} (hd : dkb M pc (.ior) 1 n = true)  (k : Z G M d mc ms cs sl n lv (.int (x ||| y) :: st) h Q) : Z G M d mc ms cs sl pc lv (.int y :: .int x :: st) h Q := by
  obtain ⟨he, rfl⟩ := dk1 hd
  intro p e s m args below meth c K0 E H locs ls hk hk1 hP hS hl
  exact lv_ior E.1 E.2.1 he  (k p e s m args below meth c K0 E H locs ls hk hk1 hP hS hl)
theorem z_idiv {x y : Int32} (hd : dkb M pc (.idiv) 1 n = true) (hne : ¬ y = 0) (k : Z G M d mc ms cs sl n lv (.int (x / y) :: st) h Q) : Z G M d mc ms cs sl pc lv (.int y :: .int x :: st) h Q := by
  obtain ⟨he, rfl⟩ := dk1 hd
  intro p e s m args below meth c K0 E H locs ls hk hk1 hP hS hl
  exact lv_idiv E.1 E.2.1 he hne (k p e s m args below meth c K0 E H locs ls hk hk1 hP hS hl)
theorem z_irem {x y : Int32} (hd : dkb M pc (.irem) 1 n = true) (hne : ¬ y = 0) (k : Z G M d mc ms cs sl n lv (.int (x - x / y * y) :: st) h Q) : Z G M d mc ms cs sl pc lv (.int y :: .int x :: st) h Q := by
  obtain ⟨he, rfl⟩ := dk1 hd
  intro p e s m args below meth c K0 E H locs ls hk hk1 hP hS hl
  exact lv_irem E.1 E.2.1 he hne (k p e s m args below meth c K0 E H locs ls hk hk1 hP hS hl)
theorem z_ineg {x : Int32} (hd : dkb M pc (.ineg) 1 n = true)  (k : Z G M d mc ms cs sl n lv (.int (-x) :: st) h Q) : Z G M d mc ms cs sl pc lv (.int x :: st) h Q := by
  obtain ⟨he, rfl⟩ := dk1 hd
  intro p e s m args below meth c K0 E H locs ls hk hk1 hP hS hl
  exact lv_ineg E.1 E.2.1 he  (k p e s m args below meth c K0 E H locs ls hk hk1 hP hS hl)
theorem z_ishl {x y : Int32} (hd : dkb M pc (.ishl) 1 n = true)  (k : Z G M d mc ms cs sl n lv (.int (x <<< (y &&& 31)) :: st) h Q) : Z G M d mc ms cs sl pc lv (.int y :: .int x :: st) h Q := by
  obtain ⟨he, rfl⟩ := dk1 hd
  intro p e s m args below meth c K0 E H locs ls hk hk1 hP hS hl
  exact lv_ishl E.1 E.2.1 he  (k p e s m args below meth c K0 E H locs ls hk hk1 hP hS hl)
theorem z_ishr {x y : Int32} (hd : dkb M pc (.ishr) 1 n = true)  (k : Z G M d mc ms cs sl n lv (.int (x >>> (y &&& 31)) :: st) h Q) : Z G M d mc ms cs sl pc lv (.int y :: .int x :: st) h Q := by
  obtain ⟨he, rfl⟩ := dk1 hd
  intro p e s m args below meth c K0 E H locs ls hk hk1 hP hS hl
  exact lv_ishr E.1 E.2.1 he  (k p e s m args below meth c K0 E H locs ls hk hk1 hP hS hl)
theorem z_iushr {x y : Int32} (hd : dkb M pc (.iushr) 1 n = true)  (k : Z G M d mc ms cs sl n lv (.int ((x.toUInt32 >>> (y.toUInt32 &&& Int32.toUInt32 31)).toInt32) :: st) h Q) : Z G M d mc ms cs sl pc lv (.int y :: .int x :: st) h Q := by
  obtain ⟨he, rfl⟩ := dk1 hd
  intro p e s m args below meth c K0 E H locs ls hk hk1 hP hS hl
  exact lv_iushr E.1 E.2.1 he rfl (k p e s m args below meth c K0 E H locs ls hk hk1 hP hS hl)
theorem z_i2l {x : Int32} (hd : dkb M pc (.i2l) 1 n = true)  (k : Z G M d mc ms cs sl n lv (.long x.toInt64 :: st) h Q) : Z G M d mc ms cs sl pc lv (.int x :: st) h Q := by
  obtain ⟨he, rfl⟩ := dk1 hd
  intro p e s m args below meth c K0 E H locs ls hk hk1 hP hS hl
  exact lv_i2l E.1 E.2.1 he rfl (k p e s m args below meth c K0 E H locs ls hk hk1 hP hS hl)
theorem z_l2i {x : Int64} (hd : dkb M pc (.l2i) 1 n = true)  (k : Z G M d mc ms cs sl n lv (.int x.toInt32 :: st) h Q) : Z G M d mc ms cs sl pc lv (.long x :: st) h Q := by
  obtain ⟨he, rfl⟩ := dk1 hd
  intro p e s m args below meth c K0 E H locs ls hk hk1 hP hS hl
  exact lv_l2i E.1 E.2.1 he rfl (k p e s m args below meth c K0 E H locs ls hk hk1 hP hS hl)
theorem z_i2c {x : Int32} (hd : dkb M pc (.i2c) 1 n = true)  (k : Z G M d mc ms cs sl n lv (.int (x.toUInt32 % 65536).toInt32 :: st) h Q) : Z G M d mc ms cs sl pc lv (.int x :: st) h Q := by
  obtain ⟨he, rfl⟩ := dk1 hd
  intro p e s m args below meth c K0 E H locs ls hk hk1 hP hS hl
  exact lv_i2c E.1 E.2.1 he rfl (k p e s m args below meth c K0 E H locs ls hk hk1 hP hS hl)
theorem z_ladd {x y : Int64} (hd : dkb M pc (.ladd) 1 n = true)  (k : Z G M d mc ms cs sl n lv (.long (x + y) :: st) h Q) : Z G M d mc ms cs sl pc lv (.long y :: .long x :: st) h Q := by
  obtain ⟨he, rfl⟩ := dk1 hd
  intro p e s m args below meth c K0 E H locs ls hk hk1 hP hS hl
  exact lv_ladd E.1 E.2.1 he  (k p e s m args below meth c K0 E H locs ls hk hk1 hP hS hl)
theorem z_lmul {x y : Int64} (hd : dkb M pc (.lmul) 1 n = true)  (k : Z G M d mc ms cs sl n lv (.long (x * y) :: st) h Q) : Z G M d mc ms cs sl pc lv (.long y :: .long x :: st) h Q := by
  obtain ⟨he, rfl⟩ := dk1 hd
  intro p e s m args below meth c K0 E H locs ls hk hk1 hP hS hl
  exact lv_lmul E.1 E.2.1 he  (k p e s m args below meth c K0 E H locs ls hk hk1 hP hS hl)
theorem z_lor {x y : Int64} (hd : dkb M pc (.lor) 1 n = true)  (k : Z G M d mc ms cs sl n lv (.long (x ||| y) :: st) h Q) : Z G M d mc ms cs sl pc lv (.long y :: .long x :: st) h Q := by
  obtain ⟨he, rfl⟩ := dk1 hd
  intro p e s m args below meth c K0 E H locs ls hk hk1 hP hS hl
  exact lv_lor E.1 E.2.1 he  (k p e s m args below meth c K0 E H locs ls hk hk1 hP hS hl)
theorem z_ldiv {x y : Int64} (hd : dkb M pc (.ldiv) 1 n = true) (hne : ¬ y = 0) (k : Z G M d mc ms cs sl n lv (.long (x / y) :: st) h Q) : Z G M d mc ms cs sl pc lv (.long y :: .long x :: st) h Q := by
  obtain ⟨he, rfl⟩ := dk1 hd
  intro p e s m args below meth c K0 E H locs ls hk hk1 hP hS hl
  exact lv_ldiv E.1 E.2.1 he hne (k p e s m args below meth c K0 E H locs ls hk hk1 hP hS hl)
theorem z_lshl {x : Int64} {y : Int32} (hd : dkb M pc (.lshl) 1 n = true)  (k : Z G M d mc ms cs sl n lv (.long (x <<< (y.toInt64 &&& 63)) :: st) h Q) : Z G M d mc ms cs sl pc lv (.int y :: .long x :: st) h Q := by
  obtain ⟨he, rfl⟩ := dk1 hd
  intro p e s m args below meth c K0 E H locs ls hk hk1 hP hS hl
  exact lv_lshl E.1 E.2.1 he rfl (k p e s m args below meth c K0 E H locs ls hk hk1 hP hS hl)
theorem z_lcmp {x y : Int64} (hd : dkb M pc (.lcmp) 1 n = true) (k : Z G M d mc ms cs sl n lv (.int (lg_cmp x y) :: st) h Q) : Z G M d mc ms cs sl pc lv (.long y :: .long x :: st) h Q := by
  obtain ⟨he, rfl⟩ := dk1 hd
  intro p e s m args below meth c K0 E H locs ls hk hk1 hP hS hl
  exact W.lcmp E.1 E.2.1 he (k p e s m args below meth c K0 E H locs ls hk hk1 hP hS hl)
theorem z_iconst {q : Int} {v : Int32} (hd : (dkb M pc (.iconst q) 1 n && decide (Int32.ofInt q = v)) = true) (k : Z G M d mc ms cs sl n lv (.int v :: st) h Q) : Z G M d mc ms cs sl pc lv st h Q := by
  simp only [Bool.and_eq_true, decide_eq_true_eq] at hd
  obtain ⟨hd, hv⟩ := hd
  obtain ⟨he, rfl⟩ := dk1 hd
  intro p e s m args below meth c K0 E H locs ls hk hk1 hP hS hl
  exact lv_iconst E.1 E.2.1 he hv (k p e s m args below meth c K0 E H locs ls hk hk1 hP hS hl)
theorem z_bipush {q : Int} {v : Int32} (hd : (dkb M pc (.bipush q) 2 n && decide ((Int8.ofInt q).toInt32 = v)) = true) (k : Z G M d mc ms cs sl n lv (.int v :: st) h Q) : Z G M d mc ms cs sl pc lv st h Q := by
  simp only [Bool.and_eq_true, decide_eq_true_eq] at hd
  obtain ⟨hd, hv⟩ := hd
  obtain ⟨he, rfl⟩ := dk1 hd
  intro p e s m args below meth c K0 E H locs ls hk hk1 hP hS hl
  exact lv_bipush E.1 E.2.1 he hv (k p e s m args below meth c K0 E H locs ls hk hk1 hP hS hl)
theorem z_sipush {q : Int} {v : Int32} (hd : (dkb M pc (.sipush q) 3 n && decide ((Int16.ofInt q).toInt32 = v)) = true) (k : Z G M d mc ms cs sl n lv (.int v :: st) h Q) : Z G M d mc ms cs sl pc lv st h Q := by
  simp only [Bool.and_eq_true, decide_eq_true_eq] at hd
  obtain ⟨hd, hv⟩ := hd
  obtain ⟨he, rfl⟩ := dk1 hd
  intro p e s m args below meth c K0 E H locs ls hk hk1 hP hS hl
  exact lv_sipush E.1 E.2.1 he hv (k p e s m args below meth c K0 E H locs ls hk hk1 hP hS hl)
theorem z_lconst {q : Fin 2} {v : Int64} (hd : (dkb M pc (.lconst q) 1 n && decide (Int64.ofNat (q : Nat) = v)) = true) (k : Z G M d mc ms cs sl n lv (.long v :: st) h Q) : Z G M d mc ms cs sl pc lv st h Q := by
  simp only [Bool.and_eq_true, decide_eq_true_eq] at hd
  obtain ⟨hd, hv⟩ := hd
  obtain ⟨he, rfl⟩ := dk1 hd
  intro p e s m args below meth c K0 E H locs ls hk hk1 hP hS hl
  exact lv_lconst E.1 E.2.1 he hv (k p e s m args below meth c K0 E H locs ls hk hk1 hP hS hl)
theorem z_ldc {q : Nat} {v : Int32} (hd : dkb M pc (.ldc q) 2 n = true) (hw : Cond.constant M.1.cls q v ∈ TB) (k : Z G M d mc ms cs sl n lv (.int v :: st) h Q) : Z G M d mc ms cs sl pc lv st h Q := by
  obtain ⟨he, rfl⟩ := dk1 hd
  intro p e s m args below meth c K0 E H locs ls hk hk1 hP hS hl
  exact lv_ldc E.1 E.2.1 E.2.2.2.2.1 (E.2.2.2.2.2.1 _ (List.mem_cons_of_mem _ hw)) he (k p e s m args below meth c K0 E H locs ls hk hk1 hP hS hl)
theorem z_ldcw {q : Nat} {v : Int32} (hd : dkb M pc (.ldc_w q) 3 n = true) (hw : Cond.constant M.1.cls q v ∈ TB) (k : Z G M d mc ms cs sl n lv (.int v :: st) h Q) : Z G M d mc ms cs sl pc lv st h Q := by
  obtain ⟨he, rfl⟩ := dk1 hd
  intro p e s m args below meth c K0 E H locs ls hk hk1 hP hS hl
  exact lv_ldcw E.1 E.2.1 E.2.2.2.2.1 (E.2.2.2.2.2.1 _ (List.mem_cons_of_mem _ hw)) he (k p e s m args below meth c K0 E H locs ls hk hk1 hP hS hl)
theorem z_ldc2 {q : Nat} {v : Int64} (hd : dkb M pc (.ldc2_w q) 3 n = true) (hw : Cond.constantLong M.1.cls q v ∈ TB) (k : Z G M d mc ms cs sl n lv (.long v :: st) h Q) : Z G M d mc ms cs sl pc lv st h Q := by
  obtain ⟨he, rfl⟩ := dk1 hd
  intro p e s m args below meth c K0 E H locs ls hk hk1 hP hS hl
  exact lv_ldc2 E.1 E.2.1 E.2.2.2.2.1 (E.2.2.2.2.2.1 _ (List.mem_cons_of_mem _ hw)) he (k p e s m args below meth c K0 E H locs ls hk hk1 hP hS hl)
theorem z_dup {v : Value} (hd : dkb M pc .dup 1 n = true) (hv : v.category = 1) (k : Z G M d mc ms cs sl n lv (v :: v :: st) h Q) : Z G M d mc ms cs sl pc lv (v :: st) h Q := by
  obtain ⟨he, rfl⟩ := dk1 hd
  intro p e s m args below meth c K0 E H locs ls hk hk1 hP hS hl
  exact lv_dup E.1 E.2.1 he ((tv_cat G v).trans hv) (k p e s m args below meth c K0 E H locs ls hk hk1 hP hS hl)
theorem z_pop {v : Value} (hd : dkb M pc .pop 1 n = true) (hv : v.category = 1) (k : Z G M d mc ms cs sl n lv st h Q) : Z G M d mc ms cs sl pc lv (v :: st) h Q := by
  obtain ⟨he, rfl⟩ := dk1 hd
  intro p e s m args below meth c K0 E H locs ls hk hk1 hP hS hl
  exact lv_pop E.1 E.2.1 he ((tv_cat G v).trans hv) (k p e s m args below meth c K0 E H locs ls hk hk1 hP hS hl)
theorem z_dup2 {v w : Value} (hd : dkb M pc .dup2 1 n = true) (hv : v.category = 1) (hw : w.category = 1) (k : Z G M d mc ms cs sl n lv (v :: w :: v :: w :: st) h Q) : Z G M d mc ms cs sl pc lv (v :: w :: st) h Q := by
  obtain ⟨he, rfl⟩ := dk1 hd
  intro p e s m args below meth c K0 E H locs ls hk hk1 hP hS hl
  exact lv_dup2_11 E.1 E.2.1 he ((tv_cat G v).trans hv) ((tv_cat G w).trans hw) (k p e s m args below meth c K0 E H locs ls hk hk1 hP hS hl)
theorem z_if_eq {x : Int32} {off : Int} {tgt : Nat} (hd : djb M pc (.ifCond .eq off) 3 n off tgt = true) (kt : x = 0 → Z G M d mc ms cs sl tgt lv st h Q) (kf : ¬ x = 0 → Z G M d mc ms cs sl n lv st h Q) : Z G M d mc ms cs sl pc lv (.int x :: st) h Q := by
  obtain ⟨he, rfl, ht⟩ := dj1 hd
  intro p e s m args below meth c K0 E H locs ls hk hk1 hP hS hl
  exact lv_if_eq E.1 E.2.1 he ht (fun q => kt q p e s m args below meth c K0 E H locs ls hk hk1 hP hS hl) (fun q => kf q p e s m args below meth c K0 E H locs ls hk hk1 hP hS hl)
theorem z_if_ne {x : Int32} {off : Int} {tgt : Nat} (hd : djb M pc (.ifCond .ne off) 3 n off tgt = true) (kt : ¬ x = 0 → Z G M d mc ms cs sl tgt lv st h Q) (kf : x = 0 → Z G M d mc ms cs sl n lv st h Q) : Z G M d mc ms cs sl pc lv (.int x :: st) h Q := by
  obtain ⟨he, rfl, ht⟩ := dj1 hd
  intro p e s m args below meth c K0 E H locs ls hk hk1 hP hS hl
  exact lv_if_ne E.1 E.2.1 he ht (fun q => kt q p e s m args below meth c K0 E H locs ls hk hk1 hP hS hl) (fun q => kf q p e s m args below meth c K0 E H locs ls hk hk1 hP hS hl)
theorem z_if_lt {x : Int32} {off : Int} {tgt : Nat} (hd : djb M pc (.ifCond .lt off) 3 n off tgt = true) (kt : x < 0 → Z G M d mc ms cs sl tgt lv st h Q) (kf : ¬ x < 0 → Z G M d mc ms cs sl n lv st h Q) : Z G M d mc ms cs sl pc lv (.int x :: st) h Q := by
  obtain ⟨he, rfl, ht⟩ := dj1 hd
  intro p e s m args below meth c K0 E H locs ls hk hk1 hP hS hl
  exact lv_if_lt E.1 E.2.1 he ht (fun q => kt q p e s m args below meth c K0 E H locs ls hk hk1 hP hS hl) (fun q => kf q p e s m args below meth c K0 E H locs ls hk hk1 hP hS hl)
theorem z_if_ge {x : Int32} {off : Int} {tgt : Nat} (hd : djb M pc (.ifCond .ge off) 3 n off tgt = true) (kt : 0 ≤ x → Z G M d mc ms cs sl tgt lv st h Q) (kf : ¬ 0 ≤ x → Z G M d mc ms cs sl n lv st h Q) : Z G M d mc ms cs sl pc lv (.int x :: st) h Q := by
  obtain ⟨he, rfl, ht⟩ := dj1 hd
  intro p e s m args below meth c K0 E H locs ls hk hk1 hP hS hl
  exact lv_if_ge E.1 E.2.1 he ht (fun q => kt q p e s m args below meth c K0 E H locs ls hk hk1 hP hS hl) (fun q => kf q p e s m args below meth c K0 E H locs ls hk hk1 hP hS hl)
theorem z_if_gt {x : Int32} {off : Int} {tgt : Nat} (hd : djb M pc (.ifCond .gt off) 3 n off tgt = true) (kt : 0 < x → Z G M d mc ms cs sl tgt lv st h Q) (kf : ¬ 0 < x → Z G M d mc ms cs sl n lv st h Q) : Z G M d mc ms cs sl pc lv (.int x :: st) h Q := by
  obtain ⟨he, rfl, ht⟩ := dj1 hd
  intro p e s m args below meth c K0 E H locs ls hk hk1 hP hS hl
  exact lv_if_gt E.1 E.2.1 he ht (fun q => kt q p e s m args below meth c K0 E H locs ls hk hk1 hP hS hl) (fun q => kf q p e s m args below meth c K0 E H locs ls hk hk1 hP hS hl)
theorem z_if_le {x : Int32} {off : Int} {tgt : Nat} (hd : djb M pc (.ifCond .le off) 3 n off tgt = true) (kt : x ≤ 0 → Z G M d mc ms cs sl tgt lv st h Q) (kf : ¬ x ≤ 0 → Z G M d mc ms cs sl n lv st h Q) : Z G M d mc ms cs sl pc lv (.int x :: st) h Q := by
  obtain ⟨he, rfl, ht⟩ := dj1 hd
  intro p e s m args below meth c K0 E H locs ls hk hk1 hP hS hl
  exact lv_if_le E.1 E.2.1 he ht (fun q => kt q p e s m args below meth c K0 E H locs ls hk hk1 hP hS hl) (fun q => kf q p e s m args below meth c K0 E H locs ls hk hk1 hP hS hl)
theorem z_icmp_eq {x y : Int32} {off : Int} {tgt : Nat} (hd : djb M pc (.if_icmp .eq off) 3 n off tgt = true) (kt : x = y → Z G M d mc ms cs sl tgt lv st h Q) (kf : ¬ x = y → Z G M d mc ms cs sl n lv st h Q) : Z G M d mc ms cs sl pc lv (.int y :: .int x :: st) h Q := by
  obtain ⟨he, rfl, ht⟩ := dj1 hd
  intro p e s m args below meth c K0 E H locs ls hk hk1 hP hS hl
  exact lv_icmp_eq E.1 E.2.1 he ht (fun q => kt q p e s m args below meth c K0 E H locs ls hk hk1 hP hS hl) (fun q => kf q p e s m args below meth c K0 E H locs ls hk hk1 hP hS hl)
theorem z_icmp_ne {x y : Int32} {off : Int} {tgt : Nat} (hd : djb M pc (.if_icmp .ne off) 3 n off tgt = true) (kt : ¬ x = y → Z G M d mc ms cs sl tgt lv st h Q) (kf : x = y → Z G M d mc ms cs sl n lv st h Q) : Z G M d mc ms cs sl pc lv (.int y :: .int x :: st) h Q := by
  obtain ⟨he, rfl, ht⟩ := dj1 hd
  intro p e s m args below meth c K0 E H locs ls hk hk1 hP hS hl
  exact lv_icmp_ne E.1 E.2.1 he ht (fun q => kt q p e s m args below meth c K0 E H locs ls hk hk1 hP hS hl) (fun q => kf q p e s m args below meth c K0 E H locs ls hk hk1 hP hS hl)
theorem z_icmp_lt {x y : Int32} {off : Int} {tgt : Nat} (hd : djb M pc (.if_icmp .lt off) 3 n off tgt = true) (kt : x < y → Z G M d mc ms cs sl tgt lv st h Q) (kf : ¬ x < y → Z G M d mc ms cs sl n lv st h Q) : Z G M d mc ms cs sl pc lv (.int y :: .int x :: st) h Q := by
  obtain ⟨he, rfl, ht⟩ := dj1 hd
  intro p e s m args below meth c K0 E H locs ls hk hk1 hP hS hl
  exact lv_icmp_lt E.1 E.2.1 he ht (fun q => kt q p e s m args below meth c K0 E H locs ls hk hk1 hP hS hl) (fun q => kf q p e s m args below meth c K0 E H locs ls hk hk1 hP hS hl)
theorem z_icmp_ge {x y : Int32} {off : Int} {tgt : Nat} (hd : djb M pc (.if_icmp .ge off) 3 n off tgt = true) (kt : y ≤ x → Z G M d mc ms cs sl tgt lv st h Q) (kf : ¬ y ≤ x → Z G M d mc ms cs sl n lv st h Q) : Z G M d mc ms cs sl pc lv (.int y :: .int x :: st) h Q := by
  obtain ⟨he, rfl, ht⟩ := dj1 hd
  intro p e s m args below meth c K0 E H locs ls hk hk1 hP hS hl
  exact lv_icmp_ge E.1 E.2.1 he ht (fun q => kt q p e s m args below meth c K0 E H locs ls hk hk1 hP hS hl) (fun q => kf q p e s m args below meth c K0 E H locs ls hk hk1 hP hS hl)
theorem z_icmp_gt {x y : Int32} {off : Int} {tgt : Nat} (hd : djb M pc (.if_icmp .gt off) 3 n off tgt = true) (kt : y < x → Z G M d mc ms cs sl tgt lv st h Q) (kf : ¬ y < x → Z G M d mc ms cs sl n lv st h Q) : Z G M d mc ms cs sl pc lv (.int y :: .int x :: st) h Q := by
  obtain ⟨he, rfl, ht⟩ := dj1 hd
  intro p e s m args below meth c K0 E H locs ls hk hk1 hP hS hl
  exact lv_icmp_gt E.1 E.2.1 he ht (fun q => kt q p e s m args below meth c K0 E H locs ls hk hk1 hP hS hl) (fun q => kf q p e s m args below meth c K0 E H locs ls hk hk1 hP hS hl)
theorem z_icmp_le {x y : Int32} {off : Int} {tgt : Nat} (hd : djb M pc (.if_icmp .le off) 3 n off tgt = true) (kt : x ≤ y → Z G M d mc ms cs sl tgt lv st h Q) (kf : ¬ x ≤ y → Z G M d mc ms cs sl n lv st h Q) : Z G M d mc ms cs sl pc lv (.int y :: .int x :: st) h Q := by
  obtain ⟨he, rfl, ht⟩ := dj1 hd
  intro p e s m args below meth c K0 E H locs ls hk hk1 hP hS hl
  exact lv_icmp_le E.1 E.2.1 he ht (fun q => kt q p e s m args below meth c K0 E H locs ls hk hk1 hP hS hl) (fun q => kf q p e s m args below meth c K0 E H locs ls hk hk1 hP hS hl)
theorem z_goto {off : Int} {tgt : Nat} (hd : djb M pc (.goto off) 3 n off tgt = true) (k : Z G M d mc ms cs sl tgt lv st h Q) : Z G M d mc ms cs sl pc lv st h Q := by
  obtain ⟨he, rfl, ht⟩ := dj1 hd
  intro p e s m args below meth c K0 E H locs ls hk hk1 hP hS hl
  exact lv_goto E.1 E.2.1 he ht (k p e s m args below meth c K0 E H locs ls hk hk1 hP hS hl)
theorem z_ild_n {q : Fin 4} {i : Nat} {x : Int32} (hd : dkb M pc (.iload_n q) 1 n = true) (hi : (q : Nat) = i) (hv : lv[i]? = some (some (.int x))) (k : Z G M d mc ms cs sl n lv (.int x :: st) h Q) : Z G M d mc ms cs sl pc lv st h Q := by
  obtain ⟨he, rfl⟩ := dk1 hd
  intro p e s m args below meth c K0 E H locs ls hk hk1 hP hS hl
  exact lv_iload_n E.1 E.2.1 he hi (hl.2.2 _ _ hv) (k p e s m args below meth c K0 E H locs ls hk hk1 hP hS hl)
theorem z_ild {i : Nat} {x : Int32} (hd : dkb M pc (.iload i) 2 n = true) (hv : lv[i]? = some (some (.int x))) (k : Z G M d mc ms cs sl n lv (.int x :: st) h Q) : Z G M d mc ms cs sl pc lv st h Q := by
  obtain ⟨he, rfl⟩ := dk1 hd
  intro p e s m args below meth c K0 E H locs ls hk hk1 hP hS hl
  exact lv_iload E.1 E.2.1 he (hl.2.2 _ _ hv) (k p e s m args below meth c K0 E H locs ls hk hk1 hP hS hl)
theorem z_lld_n {q : Fin 4} {i : Nat} {x : Int64} (hd : dkb M pc (.lload_n q) 1 n = true) (hi : (q : Nat) = i) (hv : lv[i]? = some (some (.long x))) (k : Z G M d mc ms cs sl n lv (.long x :: st) h Q) : Z G M d mc ms cs sl pc lv st h Q := by
  obtain ⟨he, rfl⟩ := dk1 hd
  intro p e s m args below meth c K0 E H locs ls hk hk1 hP hS hl
  exact lv_lload_n E.1 E.2.1 he hi (hl.2.2 _ _ hv) (k p e s m args below meth c K0 E H locs ls hk hk1 hP hS hl)
theorem z_lld {i : Nat} {x : Int64} (hd : dkb M pc (.lload i) 2 n = true) (hv : lv[i]? = some (some (.long x))) (k : Z G M d mc ms cs sl n lv (.long x :: st) h Q) : Z G M d mc ms cs sl pc lv st h Q := by
  obtain ⟨he, rfl⟩ := dk1 hd
  intro p e s m args below meth c K0 E H locs ls hk hk1 hP hS hl
  exact lv_lload E.1 E.2.1 he (hl.2.2 _ _ hv) (k p e s m args below meth c K0 E H locs ls hk hk1 hP hS hl)
theorem z_ald_n {q : Fin 4} {i x : Nat} (hd : dkb M pc (.aload_n q) 1 n = true) (hi : (q : Nat) = i) (hv : lv[i]? = some (some (.ref x))) (k : Z G M d mc ms cs sl n lv (.ref x :: st) h Q) : Z G M d mc ms cs sl pc lv st h Q := by
  obtain ⟨he, rfl⟩ := dk1 hd
  intro p e s m args below meth c K0 E H locs ls hk hk1 hP hS hl
  exact lv_aload_n E.1 E.2.1 he hi (hl.2.2 _ _ hv) (k p e s m args below meth c K0 E H locs ls hk hk1 hP hS hl)
theorem z_ald {i x : Nat} (hd : dkb M pc (.aload i) 2 n = true) (hv : lv[i]? = some (some (.ref x))) (k : Z G M d mc ms cs sl n lv (.ref x :: st) h Q) : Z G M d mc ms cs sl pc lv st h Q := by
  obtain ⟨he, rfl⟩ := dk1 hd
  intro p e s m args below meth c K0 E H locs ls hk hk1 hP hS hl
  exact lv_aload E.1 E.2.1 he (hl.2.2 _ _ hv) (k p e s m args below meth c K0 E H locs ls hk hk1 hP hS hl)
/-- the known locals as the kit's list -/
def loA (G : mG) (lv : List (Option Value)) : List (Nat × Value) := (List.range lv.length).filterMap (fun i => match lv[i]? with
  | some (some v) => some (i, tv G v)
  | _ => none)
theorem loA_in {G : mG} {lv : List (Option Value)} {i : Nat} {v : Value} (hv : lv[i]? = some (some v)) : (i, tv G v) ∈ loA G lv := by
  refine List.mem_filterMap.mpr ⟨i, List.mem_range.mpr (List.getElem?_eq_some_iff.mp hv).1, ?_⟩
  rw [hv]
theorem loA_has {G : mG} {ls : Array Slot} {k : Nat} {lv : List (Option Value)} (hl : lo G ls k lv) : lv_has ls k (loA G lv) := by
  refine ⟨hl.1, hl.2.1, fun q hq => ?_⟩
  obtain ⟨i, -, hi⟩ := List.mem_filterMap.mp hq
  split at hi
  · rename_i v hv
    cases hi
    exact hl.2.2 i v hv
  · cases hi
/-- no long begins at the place before i -/
def nlg (lv : List (Option Value)) (i : Nat) : Prop := ∀ (j : Nat) (v : Value), lv[j]? = some (some v) → j + 1 = i → v.category = 1
theorem lo_st1 {G : mG} {ls' : Array Slot} {k i : Nat} {lv : List (Option Value)} {v : Value} (hg : nlg lv i) (h : lv_has ls' k ((i, tv G v) :: (loA G lv).filter (fun q => !(q.1 == i) && !(q.1 + 1 == i && q.2.category == 2)))) : lo G ls' k (lv.set i (some v)) := by
  refine ⟨h.1, h.2.1, fun j w hw => ?_⟩
  by_cases hj : i = j
  · subst hj
    have hlt : i < lv.length := by
      have := (List.getElem?_eq_some_iff.mp hw).1
      simpa using this
    rw [List.getElem?_set_self hlt] at hw
    cases hw
    exact h.2.2 _ List.mem_cons_self
  · rw [List.getElem?_set_ne hj] at hw
    refine h.2.2 (j, tv G w) (List.mem_cons_of_mem _ (List.mem_filter.mpr ⟨loA_in hw, ?_⟩))
    have h1 : (j == i) = false := by simpa using Ne.symm hj
    by_cases h2 : j + 1 = i
    · have := hg j w hw h2
      simp [h1, tv_cat, this]
    · simp [h1, h2]
theorem lo_st2 {G : mG} {ls' : Array Slot} {k i : Nat} {lv : List (Option Value)} {v : Value} (hg : nlg lv i) (h : lv_has ls' k ((i, tv G v) :: (loA G lv).filter (fun q => !(q.1 == i) && (!(q.1 == i + 1) && !(q.1 + 1 == i && q.2.category == 2))))) : lo G ls' k ((lv.set (i + 1) none).set i (some v)) := by
  refine ⟨h.1, h.2.1, fun j w hw => ?_⟩
  by_cases hj : i = j
  · subst hj
    have hlt : i < (lv.set (i + 1) none).length := by
      have := (List.getElem?_eq_some_iff.mp hw).1
      simpa using this
    rw [List.getElem?_set_self hlt] at hw
    cases hw
    exact h.2.2 _ List.mem_cons_self
  · rw [List.getElem?_set_ne hj] at hw
    by_cases hj2 : i + 1 = j
    · subst hj2
      by_cases hlt : i + 1 < lv.length
      · rw [List.getElem?_set_self hlt] at hw
        cases hw
      · rw [List.getElem?_eq_none (by simp; omega)] at hw
        cases hw
    · rw [List.getElem?_set_ne hj2] at hw
      refine h.2.2 (j, tv G w) (List.mem_cons_of_mem _ (List.mem_filter.mpr ⟨loA_in hw, ?_⟩))
      have h1 : (j == i) = false := by simpa using Ne.symm hj
      have h3 : (j == i + 1) = false := by simpa using Ne.symm hj2
      by_cases h2 : j + 1 = i
      · have := hg j w hw h2
        simp [h1, h3, tv_cat, this]
      · simp [h1, h3, h2]
theorem z_ist_n {q : Fin 4} {i : Nat} {x : Int32} {lv' : List (Option Value)} (hd : dkb M pc (.istore_n q) 1 n = true) (hi : (q : Nat) = i) (hn : i < M.2.2.1) (hg : nlg lv i) (hs : lv.set i (some (.int x)) = lv') (k : Z G M d mc ms cs sl n lv' st h Q) : Z G M d mc ms cs sl pc lv (.int x :: st) h Q := by
  obtain ⟨he, rfl⟩ := dk1 hd
  subst hs
  intro p e s m args below meth c K0 E H locs ls hk hk1 hP hS hl
  exact lv_istore_n E.1 E.2.1 he hi (loA_has hl) hn rfl (fun ls' hl' => k p e s m args below meth c K0 E H locs ls' hk hk1 hP hS (lo_st1 hg hl'))
theorem z_ist {i : Nat} {x : Int32} {lv' : List (Option Value)} (hd : dkb M pc (.istore i) 2 n = true) (hn : i < M.2.2.1) (hg : nlg lv i) (hs : lv.set i (some (.int x)) = lv') (k : Z G M d mc ms cs sl n lv' st h Q) : Z G M d mc ms cs sl pc lv (.int x :: st) h Q := by
  obtain ⟨he, rfl⟩ := dk1 hd
  subst hs
  intro p e s m args below meth c K0 E H locs ls hk hk1 hP hS hl
  exact lv_istore E.1 E.2.1 he (loA_has hl) hn rfl (fun ls' hl' => k p e s m args below meth c K0 E H locs ls' hk hk1 hP hS (lo_st1 hg hl'))
theorem z_ast_n {q : Fin 4} {i : Nat} {x : Nat} {lv' : List (Option Value)} (hd : dkb M pc (.astore_n q) 1 n = true) (hi : (q : Nat) = i) (hn : i < M.2.2.1) (hg : nlg lv i) (hs : lv.set i (some (.ref x)) = lv') (k : Z G M d mc ms cs sl n lv' st h Q) : Z G M d mc ms cs sl pc lv (.ref x :: st) h Q := by
  obtain ⟨he, rfl⟩ := dk1 hd
  subst hs
  intro p e s m args below meth c K0 E H locs ls hk hk1 hP hS hl
  exact lv_astore_n E.1 E.2.1 he hi (loA_has hl) hn rfl (fun ls' hl' => k p e s m args below meth c K0 E H locs ls' hk hk1 hP hS (lo_st1 (v := .ref x) hg hl'))
theorem z_ast {i : Nat} {x : Nat} {lv' : List (Option Value)} (hd : dkb M pc (.astore i) 2 n = true) (hn : i < M.2.2.1) (hg : nlg lv i) (hs : lv.set i (some (.ref x)) = lv') (k : Z G M d mc ms cs sl n lv' st h Q) : Z G M d mc ms cs sl pc lv (.ref x :: st) h Q := by
  obtain ⟨he, rfl⟩ := dk1 hd
  subst hs
  intro p e s m args below meth c K0 E H locs ls hk hk1 hP hS hl
  exact lv_astore E.1 E.2.1 he (loA_has hl) hn rfl (fun ls' hl' => k p e s m args below meth c K0 E H locs ls' hk hk1 hP hS (lo_st1 (v := .ref x) hg hl'))
theorem z_lst_n {q : Fin 4} {i : Nat} {x : Int64} {lv' : List (Option Value)} (hd : dkb M pc (.lstore_n q) 1 n = true) (hi : (q : Nat) = i) (hn : i + 1 < M.2.2.1) (hg : nlg lv i) (hs : (lv.set (i + 1) none).set i (some (.long x)) = lv') (k : Z G M d mc ms cs sl n lv' st h Q) : Z G M d mc ms cs sl pc lv (.long x :: st) h Q := by
  obtain ⟨he, rfl⟩ := dk1 hd
  subst hs
  intro p e s m args below meth c K0 E H locs ls hk hk1 hP hS hl
  exact lv_lstore_n E.1 E.2.1 he hi (loA_has hl) hn rfl (fun ls' hl' => k p e s m args below meth c K0 E H locs ls' hk hk1 hP hS (lo_st2 hg hl'))
theorem z_lst {i : Nat} {x : Int64} {lv' : List (Option Value)} (hd : dkb M pc (.lstore i) 2 n = true) (hn : i + 1 < M.2.2.1) (hg : nlg lv i) (hs : (lv.set (i + 1) none).set i (some (.long x)) = lv') (k : Z G M d mc ms cs sl n lv' st h Q) : Z G M d mc ms cs sl pc lv (.long x :: st) h Q := by
  obtain ⟨he, rfl⟩ := dk1 hd
  subst hs
  intro p e s m args below meth c K0 E H locs ls hk hk1 hP hS hl
  exact lv_lstore E.1 E.2.1 he (loA_has hl) hn rfl (fun ls' hl' => k p e s m args below meth c K0 E H locs ls' hk hk1 hP hS (lo_st2 hg hl'))
theorem z_inc {i : Nat} {q : Int} {x v : Int32} {lv' : List (Option Value)} (hd : (dkb M pc (.iinc i q) 3 n && decide (i < M.2.2.1)) = true) (hg : nlg lv i) (hx : lv[i]? = some (some (.int x))) (hv : x + Int32.ofInt q = v) (hs : lv.set i (some (.int v)) = lv') (k : Z G M d mc ms cs sl n lv' st h Q) : Z G M d mc ms cs sl pc lv st h Q := by
  simp only [Bool.and_eq_true, decide_eq_true_eq] at hd
  obtain ⟨hd, hn⟩ := hd
  obtain ⟨he, rfl⟩ := dk1 hd
  subst hs
  intro p e s m args below meth c K0 E H locs ls hk hk1 hP hS hl
  obtain ⟨j, hj⟩ := List.getElem?_of_mem (loA_in (G := G) hx)
  exact lv_iinc E.1 E.2.1 he (loA_has hl) hj hv hn rfl (fun ls' hl' => k p e s m args below meth c K0 E H locs ls' hk hk1 hP hS (lo_st1 hg hl'))
/-- fewer known locals -/
def wk : List (Option Value) → List (Option Value) → Prop
  | _, [] => True
  | l, none :: m => wk l.tail m
  | [], some _ :: _ => False
  | a :: l, some v :: m => a = some v ∧ wk l m
theorem wk_at : ∀ (l m : List (Option Value)) (i : Nat) (v : Value), wk l m → m[i]? = some (some v) → l[i]? = some (some v)
  | l, [], i, v, _, h => by simp at h
  | l, none :: m, 0, v, _, h => by simp at h
  | l, none :: m, i + 1, v, hw, h => by
    have := wk_at l.tail m i v (by simpa [wk] using hw) (by simpa using h)
    simpa using this
  | [], some _ :: _, i, v, hw, h => by simp [wk] at hw
  | a :: l, some w :: m, 0, v, hw, h => by
    simp at h
    subst h
    simp [wk] at hw
    simp [hw.1]
  | a :: l, some w :: m, i + 1, v, hw, h => by
    simp [wk] at hw
    have := wk_at l m i v hw.2 (by simpa using h)
    simpa using this
theorem z_wk {lv' : List (Option Value)} (hw : wk lv lv') (k : Z G M d mc ms cs sl pc lv' st h Q) : Z G M d mc ms cs sl pc lv st h Q := by
  intro p e s m args below meth c K0 E H locs ls hk hk1 hP hS hl
  exact k p e s m args below meth c K0 E H locs ls hk hk1 hP hS ⟨hl.1, hl.2.1, fun i v hi => hl.2.2 i v (wk_at _ _ _ _ hw hi)⟩
theorem z_iret {x : Int32} (hd : (decide (decode M.2.1 pc = .ok (.ireturn, 1)) && decide (M.2.2.2 = some .int)) = true) (hc : cs = mc) (hs : sl ≤ ms) (hq : Q (some (.int x)) h) : Z G M d mc ms cs sl pc lv [.int x] h Q := by
  simp only [Bool.and_eq_true, decide_eq_true_eq] at hd
  subst hc
  intro p e s m args below meth c K0 E H locs ls hk hk1 hP hS hl
  refine W.widen (Nat.le_refl _) hs ?_
  exact W.iret E.1 E.2.1 (E.2.2.2.1.trans hd.2) (fun t ht hW => ⟨⟨some (.int x), h, rfl, hq, hk, by rw [ht]; exact hP⟩, hS.F ht⟩) hS.2.2 hd.1 E.2.2.2.2.2.2.1
theorem z_zret {x : Int32} {b : Bool} (hd : (decide (decode M.2.1 pc = .ok (.ireturn, 1)) && decide (M.2.2.2 = some .boolean)) = true) (hx : x = bI b) (hc : cs = mc) (hs : sl ≤ ms) (hq : Q (some (.int x)) h) : Z G M d mc ms cs sl pc lv [.int x] h Q := by
  simp only [Bool.and_eq_true, decide_eq_true_eq] at hd
  subst hc
  subst hx
  intro p e s m args below meth c K0 E H locs ls hk hk1 hP hS hl
  refine W.widen (Nat.le_refl _) hs ?_
  exact W.zret E.1 E.2.1 (E.2.2.2.1.trans hd.2) (bI_nar b) (fun t ht hW => ⟨⟨some (.int (bI b)), h, rfl, hq, hk, by rw [ht]; exact hP⟩, hS.F ht⟩) hS.2.2 hd.1 E.2.2.2.2.2.2.1
theorem z_vret (hd : (decide (decode M.2.1 pc = .ok (.return_, 1)) && decide (M.2.2.2 = none)) = true) (hc : cs = mc) (hs : sl ≤ ms) (hq : Q none h) : Z G M d mc ms cs sl pc lv [] h Q := by
  simp only [Bool.and_eq_true, decide_eq_true_eq] at hd
  subst hc
  intro p e s m args below meth c K0 E H locs ls hk hk1 hP hS hl
  refine W.widen (Nat.le_refl _) hs ?_
  exact W.vret E.1 E.2.1 (E.2.2.2.1.trans hd.2) (fun t ht hW => ⟨⟨none, h, rfl, hq, hk, by rw [ht]; exact hP⟩, hS.F ht⟩) hS.2.2 hd.1 E.2.2.2.2.2.2.1
theorem z_lret {x : Int64} (hd : (decide (decode M.2.1 pc = .ok (.lreturn, 1)) && decide (M.2.2.2 = some .long)) = true) (hc : cs = mc) (hs : sl ≤ ms) (hq : Q (some (.long x)) h) : Z G M d mc ms cs sl pc lv [.long x] h Q := by
  simp only [Bool.and_eq_true, decide_eq_true_eq] at hd
  subst hc
  intro p e s m args below meth c K0 E H locs ls hk hk1 hP hS hl
  refine W.widen (Nat.le_refl _) hs ?_
  exact W.lret E.1 E.2.1 (E.2.2.2.1.trans hd.2) (fun t ht hW => ⟨⟨some (.long x), h, rfl, hq, hk, by rw [ht]; exact hP⟩, hS.F ht⟩) hS.2.2 hd.1 E.2.2.2.2.2.2.1
end ZR
end
section
/-! RULES of the mini machine: fields, arrays, calls -/
/-- an index that is within -/
def ix (i : Int32) (j n : Nat) : Prop := i.toNatClampNeg = j ∧ vp_in i n
theorem ix_nI {j n : Nat} (hj : j < n) (hn : n < 2 ^ 31) : ix (nI j) j n := ⟨nI_clamp (by omega), vp_in_nI hj hn⟩
theorem ix_lt {i : Int32} {j n : Nat} (hx : ix i j n) : j < n := by
  have := hx.2
  rw [← hx.1]
  exact Nat.not_le.mp fun q => this (Or.inr q)
section ZH
variable {G : mG} {M : mD} {d mc ms cs sl pc n : Nat} {lv : List (Option Value)} {st : List Value} {h : mH} {Q : Option Value → mH → Prop}
theorem lv_lt_of {K a : Nat} {c : mE} (hk : ∀ i, h i = dd ↔ K ≤ i) (ho : h a = c) (hc : c ≠ dd) : a < K := by
  rcases Nat.lt_or_ge a K with q | q
  · exact q
  · exact absurd (ho.symm.trans ((hk a).mpr q)) hc
theorem hu_dd {K a : Nat} {c c' : mE} (hk : ∀ i, h i = dd ↔ K ≤ i) (ho : h a = c) (hc : c ≠ dd) (hc' : c' ≠ dd) : ∀ i, hu h a c' i = dd ↔ K ≤ i := by
  intro i
  by_cases e : i = a
  · subst e
    rw [hu_s]
    have := lv_lt_of hk ho hc
    exact ⟨fun q => absurd q hc', fun q => by omega⟩
  · rw [hu_n e]
    exact hk i
theorem z_getf {idx ci k a : Nat} {fs : List Value} {v : Value} (hd : dkb M pc (.getfield idx) 3 n = true) (hf : fL M.1.cls idx ci k) (ho : h a = oB ci fs) (hv : fs[k]? = some v) (kk : Z G M d mc ms cs sl n lv (v :: st) h Q) : Z G M d mc ms cs sl pc lv (.ref a :: st) h Q := by
  obtain ⟨he, rfl⟩ := dk1 hd
  obtain ⟨C, T, N, ty, hc, hin, hty, hnm, hk0, hlk⟩ := hf
  intro p e s m args below meth c K0 E H locs ls hk hk1 hP hS hl
  have hx := E.2.2.2.2.2.1
  have ha := lv_lt_of hk ho oB_dd
  refine va_get (D := gD G) (ci := ci) (v := tv G v) (C := C) (T := T) (N := N) (fs := fs.map (tv G)) E.1 E.2.1 hx (fun w hw => List.mem_cons_of_mem _ (hin w hw)) E.2.2.2.2.1 E.2.2.2.2.2.2.2.2.2.2.1 hP a (by rw [wl_get ha, ho]; rfl) hc k hk0 (hx _ (List.mem_cons_of_mem _ hlk)) (fun _ h9 => h9) (by rw [List.getElem?_map, hv]; rfl) he ?_
  exact kk p e s m args below meth c K0 E H locs ls hk hk1 hP hS hl
theorem z_putf {idx ci k a : Nat} {fs : List Value} {v : Value} {ty : FieldType} (hd : dkb M pc (.putfield idx) 3 n = true) (hf : fL M.1.cls idx ci k) (ho : h a = oB ci fs) (ht : ∃ (C : String) (T : u_T) (N : Nat), CL[ci]? = some (C, T, N) ∧ (T k).2.2.2 = false ∧ parseFieldDescriptor (T k).2.2.1 = some ty) (hn : narrow ty (tv G v) = tv G v) (hfit : fits ty (tv G v) = true) (hlen : k < fs.length)
    (kk : Z G M d mc ms cs sl n lv st (hu h a (oB ci (fs.set k v))) Q) : Z G M d mc ms cs sl pc lv (v :: .ref a :: st) h Q := by
  obtain ⟨he, rfl⟩ := dk1 hd
  obtain ⟨C, T, N, ty0, hc, hin, hty, hnm, hk0, hlk⟩ := hf
  obtain ⟨C', T', N', hc', hfin, hpd⟩ := ht
  cases hc.symm.trans hc'
  intro p e s m args below meth c K0 E H locs ls hk hk1 hP hS hl
  have hx := E.2.2.2.2.2.1
  have ha := lv_lt_of hk ho oB_dd
  refine va_put (D := gD G) (ci := ci) (v := tv G v) (ty := ty) (C := C) (T := T) (N := N) (fs := fs.map (tv G)) E.1 E.2.1 hx (fun w hw => List.mem_cons_of_mem _ (hin w hw)) ty0 hty hnm E.2.2.2.2.1 E.2.2.2.2.2.2.2.2.2.2.1 hP (wl_D hk1) hS a (by rw [wl_get ha, ho]; rfl) hc k hk0 (hx _ (List.mem_cons_of_mem _ hlk)) (fun _ h9 => h9) hfin hpd hn hfit (by rw [List.length_map]; exact hlen) he (fun H1 locs1 hP1 hD1 hS1 => ?_)
  have e1 : (wl G (K0 + cs) h).set a (ad G a, .inr (ci, (fs.map (tv G)).set k (tv G v))) = wl G (K0 + cs) (hu h a (oB ci (fs.set k v))) := by
    rw [← wl_set]
    simp [te, oB, List.map_set]
  rw [e1] at hP1
  exact kk p e s m args below meth c K0 E H1 locs1 ls (hu_dd hk ho oB_dd oB_dd) hk1 hP1 hS1 hl
theorem z_putF {idx ci k a : Nat} {fs : List Value} {v : Value} {ty : FieldType} (hd : (dkb M pc (.putfield idx) 3 n && decide (M.1.name = "<init>")) = true) (hf : fL M.1.cls idx ci k) (ho : h a = oB ci fs) (ht : ∃ (C : String) (T : u_T) (N : Nat), CL[ci]? = some (C, T, N) ∧ (T k).2.2.2 = true ∧ (T k).1 = M.1.cls ∧ parseFieldDescriptor (T k).2.2.1 = some ty) (hn : narrow ty (tv G v) = tv G v) (hfit : fits ty (tv G v) = true) (hlen : k < fs.length)
    (kk : Z G M d mc ms cs sl n lv st (hu h a (oB ci (fs.set k v))) Q) : Z G M d mc ms cs sl pc lv (v :: .ref a :: st) h Q := by
  simp only [Bool.and_eq_true, decide_eq_true_eq] at hd
  obtain ⟨hd, hin2⟩ := hd
  obtain ⟨he, rfl⟩ := dk1 hd
  obtain ⟨C, T, N, ty0, hc, hin, hty, hnm, hk0, hlk⟩ := hf
  obtain ⟨C', T', N', hc', hfin, hdecl, hpd⟩ := ht
  cases hc.symm.trans hc'
  intro p e s m args below meth c K0 E H locs ls hk hk1 hP hS hl
  have hx := E.2.2.2.2.2.1
  have ha := lv_lt_of hk ho oB_dd
  refine va_putF (D := gD G) (ci := ci) (v := tv G v) (ty := ty) (C := C) (T := T) (N := N) (fs := fs.map (tv G)) E.1 E.2.1 hx (fun w hw => List.mem_cons_of_mem _ (hin w hw)) ty0 hty hnm E.2.2.2.2.1 E.2.2.2.2.2.2.2.2.2.2.1 hP (wl_D hk1) hS a (by rw [wl_get ha, ho]; rfl) hc k hk0 (hx _ (List.mem_cons_of_mem _ hlk)) (fun _ h9 => h9) hfin (E.2.2.2.2.2.2.2.1.trans hin2) hdecl hpd hn hfit (by rw [List.length_map]; exact hlen) he (fun H1 locs1 hP1 hD1 hS1 => ?_)
  have e1 : (wl G (K0 + cs) h).set a (ad G a, .inr (ci, (fs.map (tv G)).set k (tv G v))) = wl G (K0 + cs) (hu h a (oB ci (fs.set k v))) := by
    rw [← wl_set]
    simp [te, oB, List.map_set]
  rw [e1] at hP1
  exact kk p e s m args below meth c K0 E H1 locs1 ls (hu_dd hk ho oB_dd oB_dd) hk1 hP1 hS1 hl
theorem z_iald {a N j : Nat} {f : Nat → Int32} {i : Int32} (hd : dkb M pc .iaload 1 n = true) (ho : h a = aI N f) (hi : ix i j N) (kk : Z G M d mc ms cs sl n lv (.int (f j) :: st) h Q) : Z G M d mc ms cs sl pc lv (.int i :: .ref a :: st) h Q := by
  obtain ⟨he, rfl⟩ := dk1 hd
  obtain ⟨rfl, hin⟩ := hi
  intro p e s m args below meth c K0 E H locs ls hk hk1 hP hS hl
  have ha := lv_lt_of hk ho aI_dd
  exact va_iald E.1 E.2.1 E.2.2.2.2.2.2.2.2.2.2.1 hP a 0 (by rw [wl_get ha, ho]; rfl) rfl hin he (kk p e s m args below meth c K0 E H locs ls hk hk1 hP hS hl)
theorem z_zald {a N j : Nat} {f : Nat → Bool} {i : Int32} (hd : dkb M pc .baload 1 n = true) (ho : h a = aZ N f) (hi : ix i j N) (kk : Z G M d mc ms cs sl n lv (.int (bI (f j)) :: st) h Q) : Z G M d mc ms cs sl pc lv (.int i :: .ref a :: st) h Q := by
  obtain ⟨he, rfl⟩ := dk1 hd
  obtain ⟨rfl, hin⟩ := hi
  intro p e s m args below meth c K0 E H locs ls hk hk1 hP hS hl
  have ha := lv_lt_of hk ho aZ_dd
  exact va_zald (f := fun j => bI (f j)) E.1 E.2.1 E.2.2.2.2.2.2.2.2.2.2.1 hP a 1 (by rw [wl_get ha, ho]; rfl) rfl hin he (kk p e s m args below meth c K0 E H locs ls hk hk1 hP hS hl)
theorem z_aald {a N j y : Nat} {f : Nat → Option Nat} {i : Int32} (hd : dkb M pc .aaload 1 n = true) (ho : h a = aR 2 N f) (hi : ix i j N) (hy : f j = some y) (kk : Z G M d mc ms cs sl n lv (.ref y :: st) h Q) : Z G M d mc ms cs sl pc lv (.int i :: .ref a :: st) h Q := by
  obtain ⟨he, rfl⟩ := dk1 hd
  obtain ⟨rfl, hin⟩ := hi
  intro p e s m args below meth c K0 E H locs ls hk hk1 hP hS hl
  have ha := lv_lt_of hk ho aR_dd
  refine va_aldq (f := fun j => (f j).map (ad G)) E.1 E.2.1 E.2.2.2.2.2.2.2.2.2.2.1 hP a 2 (by rw [wl_get ha, ho]; rfl) rfl hin he ?_
  rw [hy]
  exact kk p e s m args below meth c K0 E H locs ls hk hk1 hP hS hl
theorem z_aald2 {a N j y : Nat} {f : Nat → Option Nat} {i : Int32} (hd : dkb M pc .aaload 1 n = true) (ho : h a = aR 3 N f) (hi : ix i j N) (hy : f j = some y) (kk : Z G M d mc ms cs sl n lv (.ref y :: st) h Q) : Z G M d mc ms cs sl pc lv (.int i :: .ref a :: st) h Q := by
  obtain ⟨he, rfl⟩ := dk1 hd
  obtain ⟨rfl, hin⟩ := hi
  intro p e s m args below meth c K0 E H locs ls hk hk1 hP hS hl
  have ha := lv_lt_of hk ho aR_dd
  have hlt : i.toNatClampNeg < N := Nat.not_le.mp fun q => hin (Or.inr q)
  have hcell : H[ad G a]? = some (vp_cell (gA G 3) (N, .inr (.inr (.inr (.inr (fun j => (f j).map (ad G))))))) := by
    have := hP a _ (wl_get ha)
    rw [ho] at this
    exact this
  refine W.aald (v := va_rf ((f i.toNatClampNeg).map (ad G))) (ty := .array .int) E.1 E.2.1 hcell ((E.2.2.2.2.2.2.2.2.2.2.1.2 3 _ rfl).1 N (fun j => va_rf ((f j).map (ad G)))) rfl (fun q => by cases q) (by show ¬ (i < 0 ∨ (arrV _ _ _).slots.size ≤ _); rw [arrV_size]; exact hin) (by show (arrV _ _ _).slots[_]? = _; rw [arrV_read _ _ hlt]) rfl rfl he ?_
  rw [hy]
  exact kk p e s m args below meth c K0 E H locs ls hk hk1 hP hS hl
theorem z_iast {a N j : Nat} {f : Nat → Int32} {i x : Int32} (hd : dkb M pc .iastore 1 n = true) (ho : h a = aI N f) (hi : ix i j N) (kk : Z G M d mc ms cs sl n lv st (hu h a (aI N (upd f j x))) Q) : Z G M d mc ms cs sl pc lv (.int x :: .int i :: .ref a :: st) h Q := by
  obtain ⟨he, rfl⟩ := dk1 hd
  obtain ⟨rfl, hin⟩ := hi
  intro p e s m args below meth c K0 E H locs ls hk hk1 hP hS hl
  have ha := lv_lt_of hk ho aI_dd
  refine va_iast E.1 E.2.1 E.2.2.2.2.2.2.2.2.2.2.1 hP (wl_D hk1) hS a 0 (by rw [wl_get ha, ho]; rfl) rfl hin he (fun H1 locs1 hP1 hD1 hS1 => ?_)
  have e1 : (wl G (K0 + cs) h).set a (ad G a, .inl (gA G 0, N, .inl (upd f i.toNatClampNeg x))) = wl G (K0 + cs) (hu h a (aI N (upd f i.toNatClampNeg x))) := by
    rw [← wl_set]
    rfl
  rw [e1] at hP1
  exact kk p e s m args below meth c K0 E H1 locs1 ls (hu_dd hk ho aI_dd aI_dd) hk1 hP1 hS1 hl
/-- a row of booleans with one changed -/
def updB (f : Nat → Bool) (k : Nat) (x : Bool) : Nat → Bool := fun j => if j = k then x else f j
theorem updB_s {f : Nat → Bool} {k : Nat} {x : Bool} : updB f k x k = x := by simp [updB]
theorem updB_n {f : Nat → Bool} {k j : Nat} {x : Bool} (hj : j ≠ k) : updB f k x j = f j := by simp [updB, hj]
theorem z_zast {a N j : Nat} {f : Nat → Bool} {i x : Int32} {b : Bool} (hd : dkb M pc .bastore 1 n = true) (ho : h a = aZ N f) (hi : ix i j N) (hx : x = bI b) (kk : Z G M d mc ms cs sl n lv st (hu h a (aZ N (updB f j b))) Q) : Z G M d mc ms cs sl pc lv (.int x :: .int i :: .ref a :: st) h Q := by
  obtain ⟨he, rfl⟩ := dk1 hd
  obtain ⟨rfl, hin⟩ := hi
  subst hx
  intro p e s m args below meth c K0 E H locs ls hk hk1 hP hS hl
  have ha := lv_lt_of hk ho aZ_dd
  refine va_zast (f := fun j => bI (f j)) E.1 E.2.1 E.2.2.2.2.2.2.2.2.2.2.1 hP (wl_D hk1) hS a 1 (by rw [wl_get ha, ho]; rfl) rfl hin he (fun H1 locs1 hP1 hD1 hS1 => ?_)
  have e2 : upd (fun j => bI (f j)) i.toNatClampNeg (vp_nar .boolean (bI b)) = fun j => bI (updB f i.toNatClampNeg b j) := by
    funext q
    rw [bI_vp]
    by_cases hq : q = i.toNatClampNeg
    · subst hq; simp [upd, updB]
    · simp [upd, updB, hq]
  have e1 : (wl G (K0 + cs) h).set a (ad G a, .inl (gA G 1, N, .inl (upd (fun j => bI (f j)) i.toNatClampNeg (vp_nar .boolean (bI b))))) = wl G (K0 + cs) (hu h a (aZ N (updB f i.toNatClampNeg b))) := by
    rw [← wl_set, e2]
    rfl
  rw [e1] at hP1
  exact kk p e s m args below meth c K0 E H1 locs1 ls (hu_dd hk ho aZ_dd aZ_dd) hk1 hP1 hS1 hl
theorem z_alenI {a N : Nat} {f : Nat → Int32} (hd : dkb M pc .arraylength 1 n = true) (ho : h a = aI N f) (kk : Z G M d mc ms cs sl n lv (.int (nI N) :: st) h Q) : Z G M d mc ms cs sl pc lv (.ref a :: st) h Q := by
  obtain ⟨he, rfl⟩ := dk1 hd
  intro p e s m args below meth c K0 E H locs ls hk hk1 hP hS hl
  have ha := lv_lt_of hk ho aI_dd
  exact va_alen E.1 E.2.1 E.2.2.2.2.2.2.2.2.2.2.1 hP a 0 (x := (N, .inl f)) (by rw [wl_get ha, ho]; rfl) rfl rfl he (kk p e s m args below meth c K0 E H locs ls hk hk1 hP hS hl)
theorem z_alenZ {a N : Nat} {f : Nat → Bool} (hd : dkb M pc .arraylength 1 n = true) (ho : h a = aZ N f) (kk : Z G M d mc ms cs sl n lv (.int (nI N) :: st) h Q) : Z G M d mc ms cs sl pc lv (.ref a :: st) h Q := by
  obtain ⟨he, rfl⟩ := dk1 hd
  intro p e s m args below meth c K0 E H locs ls hk hk1 hP hS hl
  have ha := lv_lt_of hk ho aZ_dd
  exact va_alen E.1 E.2.1 E.2.2.2.2.2.2.2.2.2.2.1 hP a 1 (x := (N, .inl (fun j => bI (f j)))) (by rw [wl_get ha, ho]; rfl) rfl rfl he (kk p e s m args below meth c K0 E H locs ls hk hk1 hP hS hl)
/-! calls -/
theorem mB_blind (G : mG) (av : List Value) (h : mH) (K mc : Nat) : FrameBlind (va_Pc av (mB G h K mc)) := by
  intro a U g mk q
  obtain ⟨q0, q1, q2, q3, qP, qK, qC, qI⟩ := q
  exact ⟨q0, q1, q2, q3, qP, va_K.moved (u := U) (U := U.calling g mk a) (Vm.Alike.refl U.vm) qK, qC, qC U _ qI (State.WarmedH.refl U) (fun _ _ => rfl)⟩
/-- behind a call -/
theorem z_back {p : Program} {e : Env} {s : State} {m : MethodId} {args : Array Value} {below : List Frame} {meth : Method} {c : Code} {K0 mc' ms' : Nat} {H : Heap} {locs : List Loc} {ls : Array Slot} {st0 rest : List Value} {Q' : Option Value → mH → Prop} {a : Array Value}
    (E : en G M p s m args meth c K0 mc) (hcs : cs + mc' ≤ mc) (hS : va_S (inA G) s.heap H locs) (hl : lo G ls M.2.2.1 lv)
    (hr : va_Run p (gl G) e (rmm d mc ms) s m args below meth c H locs cs sl mc' ms' (F0 m pc ls st0) (rest.map (tv G)) (mQ G Q' (K0 + cs) mc' a) (inA G))
    (kk : ∀ (r : Option Value) (h' : mH), Q' r h' → Z G M d mc ms (cs + mc') (sl + ms') (pc + 3) lv (r.toList ++ rest) h' Q) :
    W p (gl G) e (rmm d mc ms) s m args below meth c H locs cs sl (MQ below (mQ G Q K0 mc) args s mc ms (inA G)) (F0 m pc ls st0) := by
  intro T hT X
  obtain ⟨v, st₀, t, T', L, h0, X', hL, e1, e2, ⟨⟨r, h', ho, hq, hd', hP'⟩, hz, hkp⟩, stp⟩ := hr T hT X
  cases ho
  rw [h0] at hz hkp
  have hk1 : K0 + (cs + mc') ≤ 1048576 := by have := E.2.2.2.2.2.2.2.2.2.1; omega
  have hS' : va_S (inA G) s.heap T'.heap (locs ++ L) := by
    refine ⟨Nat.le_trans hS.1 (by rw [e1]; exact hz), fun q h1 h2 => ?_, fun q hq9 => ?_⟩
    · rw [e1, hkp q (Nat.lt_of_lt_of_le h1 hS.1) h2]
      exact hS.2.1 q h1 h2
    · rcases List.mem_append.mp hq9 with h9 | h9
      · exact hS.2.2 q h9
      · exact hL q h9
  rw [Nat.add_assoc] at hP'
  obtain ⟨t2, a1, b1⟩ := kk r h' hq p e s m args below meth c K0 E T'.heap (locs ++ L) ls (fun i => by rw [← Nat.add_assoc]; exact hd' i) hk1 (by rw [e1]; exact hP') hS' hl T' rfl X'
  refine ⟨t2, stp t2 ?_, b1⟩
  have e9 : (r.toList ++ rest).map (tv G) = (r.map (tv G)).toList ++ rest.map (tv G) := by cases r <;> simp
  rw [e9] at a1
  exact a1
theorem en_pre {p : Program} {s : State} {m : MethodId} {args : Array Value} {meth : Method} {c : Code} {K0 mc' : Nat} {H : Heap} {locs : List Loc} {l : Launch} {e : Env} {R : Room} {below : List Frame} {T : State} (E : en G M p s m args meth c K0 mc) (hcs : cs + mc' ≤ mc) (hk : ∀ i, h i = dd ↔ K0 + cs ≤ i) (hP : va_P (gD G) CL (wl G (K0 + cs) h) H) (hS : va_S (inA G) s.heap H locs) (hT : T.heap = H) (X : Stand p l e R s m args below meth c T locs cs sl) (hk1 : K0 + cs ≤ 1048576) :
    ∀ U : State, U.heap = H → s.WarmedH U.vm → mB G h (K0 + cs) mc' U := by
  intro U hU hW
  have hsz : H.size = gb G + (K0 + cs) := by
    have h1 : H.size ≤ s.heap.size + cs := by rw [← hT]; exact X.heapSize
    have h2 : s.heap.size = gb G + K0 := E.2.2.2.2.2.2.2.2.1
    have h3 : gb G + (K0 + cs) ≤ H.size := by
      by_cases h9 : K0 + cs = 0
      · have := hS.1
        omega
      · have hlt : K0 + cs - 1 < K0 + cs := by omega
        have := (hP (K0 + cs - 1) _ (wl_get hlt)).lt
        rw [ad_lo (by omega)] at this
        omega
    omega
  refine ⟨by rw [hU]; exact hsz, by have := E.2.2.2.2.2.2.2.2.2.1; omega, hk, by rw [hU]; exact hP, va_K.moved hW.alike E.2.2.2.2.2.2.2.2.2.2.1, E.2.2.2.2.2.2.2.2.2.2.2.1, E.2.2.2.2.2.2.2.2.2.2.2.1 s U E.2.2.2.2.2.2.2.2.2.2.2.2 hW (fun q hq => ?_)⟩
  rw [hU]
  by_cases h9 : q < s.heap.size
  · exact hS.2.1 q h9 (by show ¬ gb G ≤ q; omega)
  · have := E.2.2.2.2.2.2.2.2.1
    omega
theorem z_callV {M' : mD} {idx np a ci d' mc' ms' : Nat} {fs As rest : List Value} {Q' : Option Value → mH → Prop} (hd : dkb M pc (.invokevirtual idx) 3 n = true) (hv : cV M.1.cls idx M' np) (ho : h a = oB ci fs) (hci : (CL[ci]?).map (fun q => q.1) = some M'.1.cls) (hnp : As.length = np) (hst : st = As.reverse ++ .ref a :: rest) (hcat : (rest.map fun v => v.category).sum ≤ 8)
    (hrm : d' + 1 ≤ d) (hcs : cs + mc' ≤ mc) (hsl : sl + ms' ≤ ms) (ev : EV G M' d' mc' ms' (.ref a :: As) h Q') (kk : ∀ (r : Option Value) (h' : mH), Q' r h' → Z G M d mc ms (cs + mc') (sl + ms') n lv (r.toList ++ rest) h' Q) : Z G M d mc ms cs sl pc lv st h Q := by
  obtain ⟨he, rfl⟩ := dk1 hd
  obtain ⟨hC, hlk, hin, hse⟩ := hv
  subst hst
  intro p e s m args below meth c K0 E H locs ls hk hk1 hP hS hl
  have hx := E.2.2.2.2.2.1
  have ha := lv_lt_of hk ho oB_dd
  have mem : ∀ w ∈ TB, w.before args s = true := fun w hw => hx w (List.mem_cons_of_mem _ hw)
  obtain ⟨qc, hqc, hq1⟩ : ∃ qc, CL[ci]? = some qc ∧ qc.1 = M'.1.cls := by
    cases hh : CL[ci]? with
    | none => rw [hh] at hci; cases hci
    | some qc => rw [hh] at hci; exact ⟨qc, rfl, Option.some.inj hci⟩
  intro T hT X
  have hpre := en_pre (mc' := mc') E hcs hk hP hS hT X hk1
  have hcw : CallW (rmm d mc ms) s args M.1.cls M'.1.cls idx M'.1 M'.2.1 M'.2.2.1 M'.2.2.2 (wS M') (rmm d' mc' ms') mc' ms' np :=
    ⟨callB_of np hx (wS_good hC) rfl rfl rfl (mem _ hC.2.1) (mem _ hlk) hC.2.2.1 ⟨hrm, by show 8 + (M'.2.2.1 + 11) + 40 * d' ≤ 40 * d; have := hC.2.2.2; omega⟩, mem _ hin, mem _ hse⟩
  have hrun := va_runV (e := e) (meth := meth) (below := below) (locs := locs) (cells := cs) (slots := sl) (H := H) (g := F0 m pc ls ((As.reverse ++ .ref a :: rest).map (tv G))) (b := ad G a) (As := As.map (tv G)) (rest := rest.map (tv G)) (nL := M.2.2.1) ⟨E.1, E.2.1, E.2.2.1, E.2.2.2.2.1, hx⟩ (ev (K0 + cs)) hcw
    ⟨mB_blind G _ h (K0 + cs) mc', by rw [← hq1]; exact va_recv E.2.2.2.2.2.2.2.2.2.2.1 hP hqc (q0 := a) (fs := fs.map (tv G)) (by rw [wl_get ha, ho]; rfl), fun U hU hW => ⟨rfl, hpre U hU hW⟩⟩ rfl (by rw [List.length_map]; exact hnp) hl.1 (by simp [List.map_reverse, tv]) (by
      refine lv_room ?_
      rw [List.map_map]
      have : ((fun v => v.category) ∘ tv G) = (fun v : Value => v.category) := by funext v; exact tv_cat G v
      rw [this]; exact hcat) he ⟨hcs, hsl⟩
  exact z_back E hcs hS hl hrun kk T hT X
theorem z_callS {M' : mD} {idx np d' mc' ms' : Nat} {As rest : List Value} {Q' : Option Value → mH → Prop} (hd : dkb M pc (.invokestatic idx) 3 n = true) (hv : cS M.1.cls idx M' np) (hnp : As.length = np) (hst : st = As.reverse ++ rest) (hcat : (rest.map fun v => v.category).sum ≤ 8)
    (hrm : d' + 1 ≤ d) (hcs : cs + mc' ≤ mc) (hsl : sl + ms' ≤ ms) (ev : EV G M' d' mc' ms' As h Q') (kk : ∀ (r : Option Value) (h' : mH), Q' r h' → Z G M d mc ms (cs + mc') (sl + ms') n lv (r.toList ++ rest) h' Q) : Z G M d mc ms cs sl pc lv st h Q := by
  obtain ⟨he, rfl⟩ := dk1 hd
  obtain ⟨hC, hlk, hin⟩ := hv
  subst hst
  intro p e s m args below meth c K0 E H locs ls hk hk1 hP hS hl
  have hx := E.2.2.2.2.2.1
  have mem : ∀ w ∈ TB, w.before args s = true := fun w hw => hx w (List.mem_cons_of_mem _ hw)
  intro T hT X
  have hpre := en_pre (mc' := mc') E hcs hk hP hS hT X hk1
  have hcb : CallB (rmm d mc ms) s args M.1.cls idx M'.1 M'.2.1 M'.2.2.1 M'.2.2.2 (wS M') (rmm d' mc' ms') mc' ms' np :=
    callB_of np hx (wS_good hC) rfl rfl rfl (mem _ hC.2.1) (mem _ hlk) hC.2.2.1 ⟨hrm, by show 8 + (M'.2.2.1 + 11) + 40 * d' ≤ 40 * d; have := hC.2.2.2; omega⟩
  have hrun := va_runS (e := e) (meth := meth) (below := below) (locs := locs) (cells := cs) (slots := sl) (H := H) (g := F0 m pc ls ((As.reverse ++ rest).map (tv G))) (As := As.map (tv G)) (rest := rest.map (tv G)) (nL := M.2.2.1) ⟨E.1, E.2.1, E.2.2.1, E.2.2.2.2.1, hx⟩ (ev (K0 + cs)) ⟨hcb, mem _ hin⟩
    ⟨mB_blind G _ h (K0 + cs) mc', fun U hU hW => ⟨rfl, hpre U hU hW⟩⟩ rfl (by rw [List.length_map]; exact hnp) hl.1 (by simp [List.map_reverse]) (by
      refine lv_room ?_
      rw [List.map_map]
      have : ((fun v => v.category) ∘ tv G) = (fun v : Value => v.category) := by funext v; exact tv_cat G v
      rw [this]; exact hcat) he ⟨hcs, hsl⟩
  exact z_back E hcs hS hl hrun kk T hT X
theorem z_callI {M' : mD} {idx np a d' mc' ms' : Nat} {As rest : List Value} {Q' : Option Value → mH → Prop} (hd : dkb M pc (.invokespecial idx) 3 n = true) (hv : cI M.1.cls idx M' np) (hM : M'.2.2.2 = none ∧ M'.1.name = "<init>") (hnp : As.length = np) (hst : st = As.reverse ++ .ref a :: rest) (hcat : (rest.map fun v => v.category).sum ≤ 8)
    (hrm : d' + 1 ≤ d) (hcs : cs + mc' ≤ mc) (hsl : sl + ms' ≤ ms) (ev : EV G M' d' mc' ms' (.ref a :: As) h Q') (kk : ∀ (r : Option Value) (h' : mH), Q' r h' → Z G M d mc ms (cs + mc') (sl + ms') n lv (r.toList ++ rest) h' Q) : Z G M d mc ms cs sl pc lv st h Q := by
  obtain ⟨he, rfl⟩ := dk1 hd
  obtain ⟨hC, hlk, hin⟩ := hv
  subst hst
  intro p e s m args below meth c K0 E H locs ls hk hk1 hP hS hl
  have hx := E.2.2.2.2.2.1
  have mem : ∀ w ∈ TB, w.before args s = true := fun w hw => hx w (List.mem_cons_of_mem _ hw)
  intro T hT X
  have hpre := en_pre (mc' := mc') E hcs hk hP hS hT X hk1
  have hcb : CallB (rmm d mc ms) s args M.1.cls idx M'.1 M'.2.1 M'.2.2.1 none (wS M') (rmm d' mc' ms') mc' ms' np := by
    have := callB_of (R := rmm d mc ms) (rm := rmm d' mc' ms') (mc := mc') (ms := ms') (own := M.1.cls) (index := idx) np hx (wS_good hC) rfl rfl rfl (mem _ hC.2.1) (mem _ hlk) hC.2.2.1 ⟨hrm, by show 8 + (M'.2.2.1 + 11) + 40 * d' ≤ 40 * d; have := hC.2.2.2; omega⟩
    rw [hM.1] at this
    exact this
  have hrun := va_runI (e := e) (meth := meth) (below := below) (locs := locs) (cells := cs) (slots := sl) (H := H) (g := F0 m pc ls ((As.reverse ++ .ref a :: rest).map (tv G))) (b := ad G a) (As := As.map (tv G)) (rest := rest.map (tv G)) (nL := M.2.2.1) ⟨E.1, E.2.1, E.2.2.1, E.2.2.2.2.1, hx⟩ (ev (K0 + cs)) ⟨hcb, hM.2, mem _ hin⟩
    ⟨mB_blind G _ h (K0 + cs) mc', fun U hU hW => ⟨rfl, hpre U hU hW⟩⟩ rfl (by rw [List.length_map]; exact hnp) hl.1 (by simp [List.map_reverse, tv]) (by
      refine lv_room ?_
      rw [List.map_map]
      have : ((fun v => v.category) ∘ tv G) = (fun v : Value => v.category) := by funext v; exact tv_cat G v
      rw [this]; exact hcat) he ⟨hcs, hsl⟩
  exact z_back E hcs hS hl hrun kk T hT X
end ZH
end
section
/-! RULES of the mini machine: switches, the JDK's own, new cells -/
theorem jw_max : Cond.static Lib.Math.max.name ∈ TB ∧ Cond.initialized "java/lang/Math" ∈ TB ∧ Cond.code Lib.Math.max.name Lib.Math.max.code 2 (some .int) ∈ TB := ⟨tb_at _ (by decide +kernel : lw_tbl[87]? = _) (by decide +kernel), tb_at _ (by decide +kernel : lw_tbl[58]? = _) (by decide +kernel), tb_at _ (by decide +kernel : lw_tbl[88]? = _) (by decide +kernel)⟩
theorem jw_min : Cond.static Lib.Math.min.name ∈ TB ∧ Cond.initialized "java/lang/Math" ∈ TB ∧ Cond.code Lib.Math.min.name Lib.Math.min.code 2 (some .int) ∈ TB := ⟨tb_at _ (by decide +kernel : lw_tbl[84]? = _) (by decide +kernel), tb_at _ (by decide +kernel : lw_tbl[58]? = _) (by decide +kernel), tb_at _ (by decide +kernel : lw_tbl[85]? = _) (by decide +kernel)⟩
theorem jw_abs : Cond.static Lib.Math.abs.name ∈ TB ∧ Cond.initialized "java/lang/Math" ∈ TB ∧ Cond.code Lib.Math.abs.name Lib.Math.abs.code 1 (some .int) ∈ TB := ⟨tb_at _ (by decide +kernel : lw_tbl[811]? = _) (by decide +kernel), tb_at _ (by decide +kernel : lw_tbl[58]? = _) (by decide +kernel), tb_at _ (by decide +kernel : lw_tbl[812]? = _) (by decide +kernel)⟩
theorem jw_cpy : Cond.native arraycopyName ∈ TB ∧ Cond.static arraycopyName ∈ TB ∧ Cond.initialized "java/lang/System" ∈ TB := ⟨tb_at _ (by decide +kernel : lw_tbl[916]? = _) (by decide +kernel), tb_at _ (by decide +kernel : lw_tbl[915]? = _) (by decide +kernel), tb_at _ (by decide +kernel : lw_tbl[74]? = _) (by decide +kernel)⟩
section ZM
variable {G : mG} {M : mD} {d mc ms cs sl pc n : Nat} {lv : List (Option Value)} {st : List Value} {h : mH} {Q : Option Value → mH → Prop}
theorem tv_sum (G : mG) (l : List Value) : ((l.map (tv G)).map fun v => v.category).sum = (l.map fun v => v.category).sum := by
  rw [List.map_map]
  have : ((fun v => v.category) ∘ tv G) = (fun v : Value => v.category) := by funext v; exact tv_cat G v
  rw [this]
theorem z_mmax {idx : Nat} {x y : Int32} (hd : dkb M pc (.invokestatic idx) 3 n = true) (hw : Cond.methodLink M.1.cls idx Lib.Math.max.name ∈ TB) (hcat : (st.map fun v => v.category).sum ≤ 8) (hr : 1 ≤ d) (hc : cs ≤ mc) (hs : sl ≤ ms) (k : Z G M d mc ms cs sl n lv (.int (if x < y then y else x) :: st) h Q) : Z G M d mc ms cs sl pc lv (.int y :: .int x :: st) h Q := by
  obtain ⟨he, rfl⟩ := dk1 hd
  intro p e s m args below meth c K0 E H locs ls hk hk1 hP hS hl
  have mem : ∀ w ∈ TB, w.before args s = true := fun w hw => E.2.2.2.2.2.1 w (List.mem_cons_of_mem _ hw)
  exact va_mmax E.1 E.2.1 (E.2.2.1.trans hl.1.symm) E.2.2.2.2.1 (mem _ hw) (mem _ jw_max.1) (mem _ jw_max.2.1) (mem _ jw_max.2.2) hr (by rw [tv_sum]; show _ ≤ 40 * d; omega) hc hs he (k p e s m args below meth c K0 E H locs ls hk hk1 hP hS hl)
theorem z_mmin {idx : Nat} {x y : Int32} (hd : dkb M pc (.invokestatic idx) 3 n = true) (hw : Cond.methodLink M.1.cls idx Lib.Math.min.name ∈ TB) (hcat : (st.map fun v => v.category).sum ≤ 8) (hr : 1 ≤ d) (hc : cs ≤ mc) (hs : sl ≤ ms) (k : Z G M d mc ms cs sl n lv (.int (if y < x then y else x) :: st) h Q) : Z G M d mc ms cs sl pc lv (.int y :: .int x :: st) h Q := by
  obtain ⟨he, rfl⟩ := dk1 hd
  intro p e s m args below meth c K0 E H locs ls hk hk1 hP hS hl
  have mem : ∀ w ∈ TB, w.before args s = true := fun w hw => E.2.2.2.2.2.1 w (List.mem_cons_of_mem _ hw)
  exact va_mmin E.1 E.2.1 (E.2.2.1.trans hl.1.symm) E.2.2.2.2.1 (mem _ hw) (mem _ jw_min.1) (mem _ jw_min.2.1) (mem _ jw_min.2.2) hr (by rw [tv_sum]; show _ ≤ 40 * d; omega) hc hs he (k p e s m args below meth c K0 E H locs ls hk hk1 hP hS hl)
theorem z_mabs {idx : Nat} {x : Int32} (hd : dkb M pc (.invokestatic idx) 3 n = true) (hw : Cond.methodLink M.1.cls idx Lib.Math.abs.name ∈ TB) (hcat : (st.map fun v => v.category).sum ≤ 8) (hr : 1 ≤ d) (hc : cs ≤ mc) (hs : sl ≤ ms) (k : Z G M d mc ms cs sl n lv (.int (if 0 ≤ x then x else 0 - x) :: st) h Q) : Z G M d mc ms cs sl pc lv (.int x :: st) h Q := by
  obtain ⟨he, rfl⟩ := dk1 hd
  intro p e s m args below meth c K0 E H locs ls hk hk1 hP hS hl
  have mem : ∀ w ∈ TB, w.before args s = true := fun w hw => E.2.2.2.2.2.1 w (List.mem_cons_of_mem _ hw)
  exact va_mabs E.1 E.2.1 (E.2.2.1.trans hl.1.symm) E.2.2.2.2.1 (mem _ hw) (mem _ jw_abs.1) (mem _ jw_abs.2.1) (mem _ jw_abs.2.2) hr (by rw [tv_sum]; show _ ≤ 40 * d; omega) hc hs he (k p e s m args below meth c K0 E H locs ls hk hk1 hP hS hl)
/-- the first k places of f, then g -/
def cpN {α : Type} (f g : Nat → α) (k : Nat) : Nat → α := fun j => if j < k then f j else g j
theorem va_cpy0 {α : Type} (f g : Nat → α) (k : Nat) : va_cpy f g 0 0 k = cpN f g k := by
  funext j
  simp [va_cpy, cpN]
theorem z_cpyI {idx a b N0 N1 k : Nat} {f g : Nat → Int32} (hd : dkb M pc (.invokestatic idx) 3 n = true) (hw : Cond.methodLink M.1.cls idx arraycopyName ∈ TB) (hcat : (st.map fun v => v.category).sum ≤ 8) (hr : 1 ≤ d) (ha : h a = aI N0 f) (hb : h b = aI N1 g) (hk0 : k ≤ N0) (hk1 : k ≤ N1) (hk2 : k < 2 ^ 31) (kk : Z G M d mc ms cs sl n lv st (hu h b (aI N1 (cpN f g k))) Q) : Z G M d mc ms cs sl pc lv (.int (nI k) :: .int 0 :: .ref b :: .int 0 :: .ref a :: st) h Q := by
  obtain ⟨he, rfl⟩ := dk1 hd
  intro p e s m args below meth c K0 E H locs ls hk hk9 hP hS hl
  have mem : ∀ w ∈ TB, w.before args s = true := fun w hw => E.2.2.2.2.2.1 w (List.mem_cons_of_mem _ hw)
  have la := lv_lt_of hk ha aI_dd
  have lb := lv_lt_of hk hb aI_dd
  refine va_copyi (ty := .int) (f := f) (g := g) E.1 E.2.1 (E.2.2.1.trans hl.1.symm) E.2.2.2.2.1 (mem _ hw) (mem _ jw_cpy.1) (mem _ jw_cpy.2.1) (mem _ jw_cpy.2.2) E.2.2.2.2.2.2.2.2.2.2.1 hP (wl_D hk9) hS a b 0 0 (by rw [wl_get la, ha]; rfl) (by rw [wl_get lb, hb]; rfl) rfl rfl rfl (by decide) (by decide) (nI_pos hk2) (by rw [nI_clamp hk2]; show 0 + k ≤ N0; omega) (by rw [nI_clamp hk2]; show 0 + k ≤ N1; omega) (fun _ _ => rfl) hr (by rw [tv_sum]; show _ + ((5 + 2) + 11) ≤ 40 * d; omega) he (fun H1 locs1 hP1 hD1 hS1 => ?_)
  have e0 : va_cpy f g (0 : Int32).toNatClampNeg (0 : Int32).toNatClampNeg (nI k).toNatClampNeg = cpN f g k := by
    rw [nI_clamp hk2]
    exact va_cpy0 f g k
  rw [e0] at hP1
  have e1 : (wl G (K0 + cs) h).set b (ad G b, .inl (gA G 0, N1, .inl (cpN f g k))) = wl G (K0 + cs) (hu h b (aI N1 (cpN f g k))) := by
    rw [← wl_set]
    rfl
  rw [e1] at hP1
  exact kk p e s m args below meth c K0 E H1 locs1 ls (hu_dd hk hb aI_dd aI_dd) hk9 hP1 hS1 hl
theorem z_cpyZ {idx a b N0 N1 k : Nat} {f g : Nat → Bool} (hd : dkb M pc (.invokestatic idx) 3 n = true) (hw : Cond.methodLink M.1.cls idx arraycopyName ∈ TB) (hcat : (st.map fun v => v.category).sum ≤ 8) (hr : 1 ≤ d) (ha : h a = aZ N0 f) (hb : h b = aZ N1 g) (hk0 : k ≤ N0) (hk1 : k ≤ N1) (hk2 : k < 2 ^ 31) (kk : Z G M d mc ms cs sl n lv st (hu h b (aZ N1 (cpN f g k))) Q) : Z G M d mc ms cs sl pc lv (.int (nI k) :: .int 0 :: .ref b :: .int 0 :: .ref a :: st) h Q := by
  obtain ⟨he, rfl⟩ := dk1 hd
  intro p e s m args below meth c K0 E H locs ls hk hk9 hP hS hl
  have mem : ∀ w ∈ TB, w.before args s = true := fun w hw => E.2.2.2.2.2.1 w (List.mem_cons_of_mem _ hw)
  have la := lv_lt_of hk ha aZ_dd
  have lb := lv_lt_of hk hb aZ_dd
  refine va_copyi (ty := .boolean) (f := fun j => bI (f j)) (g := fun j => bI (g j)) E.1 E.2.1 (E.2.2.1.trans hl.1.symm) E.2.2.2.2.1 (mem _ hw) (mem _ jw_cpy.1) (mem _ jw_cpy.2.1) (mem _ jw_cpy.2.2) E.2.2.2.2.2.2.2.2.2.2.1 hP (wl_D hk9) hS a b 1 1 (by rw [wl_get la, ha]; rfl) (by rw [wl_get lb, hb]; rfl) rfl rfl rfl (by decide) (by decide) (nI_pos hk2) (by rw [nI_clamp hk2]; show 0 + k ≤ N0; omega) (by rw [nI_clamp hk2]; show 0 + k ≤ N1; omega) (fun i _ => bI_fit (f _)) hr (by rw [tv_sum]; show _ + ((5 + 2) + 11) ≤ 40 * d; omega) he (fun H1 locs1 hP1 hD1 hS1 => ?_)
  have e0 : va_cpy (fun j => bI (f j)) (fun j => bI (g j)) (0 : Int32).toNatClampNeg (0 : Int32).toNatClampNeg (nI k).toNatClampNeg = fun j => bI (cpN f g k j) := by
    rw [nI_clamp hk2]
    refine (va_cpy0 _ _ k).trans ?_
    funext j
    by_cases hj : j < k <;> simp [cpN, hj]
  rw [e0] at hP1
  have e1 : (wl G (K0 + cs) h).set b (ad G b, .inl (gA G 1, N1, .inl (fun j => bI (cpN f g k j)))) = wl G (K0 + cs) (hu h b (aZ N1 (cpN f g k))) := by
    rw [← wl_set]
    rfl
  rw [e1] at hP1
  exact kk p e s m args below meth c K0 E H1 locs1 ls (hu_dd hk hb aZ_dd aZ_dd) hk9 hP1 hS1 hl
/-! switches -/
theorem z_tswI {dflt lo hi off : Int} {offs : Array Int} {len tgt : Nat} {x v : Int32} (hx : x = v) (hd : (decide (decode M.2.1 pc = .ok (.tableswitch dflt lo hi offs, len)) && (decide (¬ v.toInt < lo) && (decide (¬ hi < v.toInt) && (decide (offs[(v.toInt - lo).toNat]? = some off) && decide ((pc : Int) + off = (tgt : Int)))))) = true) (k : Z G M d mc ms cs sl tgt lv st h Q) : Z G M d mc ms cs sl pc lv (.int x :: st) h Q := by
  simp only [Bool.and_eq_true, decide_eq_true_eq] at hd
  subst hx
  intro p e s m args below meth c K0 E H locs ls hk hk1 hP hS hl
  exact lv_tableIn E.1 E.2.1 hd.1 hd.2.1 hd.2.2.1 hd.2.2.2.1 hd.2.2.2.2 (k p e s m args below meth c K0 E H locs ls hk hk1 hP hS hl)
theorem z_tswO {dflt lo hi : Int} {offs : Array Int} {len tgt : Nat} {x : Int32} (hx : x.toInt < lo ∨ hi < x.toInt) (hd : (decide (decode M.2.1 pc = .ok (.tableswitch dflt lo hi offs, len)) && decide ((pc : Int) + dflt = (tgt : Int))) = true) (k : Z G M d mc ms cs sl tgt lv st h Q) : Z G M d mc ms cs sl pc lv (.int x :: st) h Q := by
  simp only [Bool.and_eq_true, decide_eq_true_eq] at hd
  intro p e s m args below meth c K0 E H locs ls hk hk1 hP hS hl
  exact lv_tableOut E.1 E.2.1 hd.1 hx hd.2 (k p e s m args below meth c K0 E H locs ls hk hk1 hP hS hl)
theorem z_lsw {dflt : Int} {ps : Array (Int × Int)} {len tgt : Nat} {x : Int32} {off : Int} (ho : Op.lookupswitch.offset ps.toList dflt x.toInt = off) (hd : (decide (decode M.2.1 pc = .ok (.lookupswitch dflt ps, len)) && ((ps.toList.zip (ps.toList.drop 1)).all (fun (a, next) => a.1 < next.1) && decide ((pc : Int) + off = (tgt : Int)))) = true) (k : Z G M d mc ms cs sl tgt lv st h Q) : Z G M d mc ms cs sl pc lv (.int x :: st) h Q := by
  simp only [Bool.and_eq_true, decide_eq_true_eq] at hd
  intro p e s m args below meth c K0 E H locs ls hk hk1 hP hS hl
  exact lv_lookup E.1 E.2.1 hd.1 hd.2.1 ho hd.2.2 (k p e s m args below meth c K0 E H locs ls hk hk1 hP hS hl)
end ZM
end
section
/-! RULES by the place of the local, calls by the number of arguments, small helps -/
def nlb (lv : List (Option Value)) (i : Nat) : Bool := match i with
  | 0 => true
  | j + 1 => match lv[j]? with
    | some (some v) => v.category == 1
    | _ => true
theorem nlg_of {lv : List (Option Value)} {i : Nat} (h : nlb lv i = true) : nlg lv i := by
  intro j v hv e
  subst e
  simpa [nlb, hv] using h
/-- the contract's end: this answer, this heap -/
def RE (v : Option Value) (h : mH) : Option Value → mH → Prop := fun r h' => r = v ∧ h' = h
theorem ix_of {i : Int32} {j n : Nat} (e : i = nI j) (hj : j < n) (hn : n < 2 ^ 31) : ix i j n := by
  rw [e]
  exact ix_nI hj hn
theorem bI_eq0 {b : Bool} : bI b = 0 ↔ b = false := by cases b <;> decide
theorem bI_eq1 {b : Bool} : bI b = 1 ↔ b = true := by cases b <;> decide
section ZL
variable {G : mG} {M : mD} {d mc ms cs sl pc n : Nat} {lv : List (Option Value)} {st : List Value} {h : mH} {Q : Option Value → mH → Prop}
theorem z_ild0 {l : List (Option Value)} {x : Int32} (hd : dkb M pc (.iload_n 0) 1 n = true) (k : Z G M d mc ms cs sl n (some (.int x) :: l) (.int x :: st) h Q) : Z G M d mc ms cs sl pc (some (.int x) :: l) st h Q := z_ild_n hd rfl rfl k
theorem z_ald0 {l : List (Option Value)} {x : Nat} (hd : dkb M pc (.aload_n 0) 1 n = true) (k : Z G M d mc ms cs sl n (some (.ref x) :: l) (.ref x :: st) h Q) : Z G M d mc ms cs sl pc (some (.ref x) :: l) st h Q := z_ald_n hd rfl rfl k
theorem z_lld0 {l : List (Option Value)} {x : Int64} (hd : dkb M pc (.lload_n 0) 1 n = true) (k : Z G M d mc ms cs sl n (some (.long x) :: l) (.long x :: st) h Q) : Z G M d mc ms cs sl pc (some (.long x) :: l) st h Q := z_lld_n hd rfl rfl k
theorem z_ist0 {y : Option Value} {l : List (Option Value)} {x : Int32} (hd : (dkb M pc (.istore_n 0) 1 n && decide (0 < M.2.2.1)) = true) (hg : nlb (y :: l) 0 = true) (k : Z G M d mc ms cs sl n (some (.int x) :: l) st h Q) : Z G M d mc ms cs sl pc (y :: l) (.int x :: st) h Q := by
  simp only [Bool.and_eq_true, decide_eq_true_eq] at hd
  exact z_ist_n hd.1 rfl hd.2 (nlg_of hg) rfl k
theorem z_ast0 {y : Option Value} {l : List (Option Value)} {x : Nat} (hd : (dkb M pc (.astore_n 0) 1 n && decide (0 < M.2.2.1)) = true) (hg : nlb (y :: l) 0 = true) (k : Z G M d mc ms cs sl n (some (.ref x) :: l) st h Q) : Z G M d mc ms cs sl pc (y :: l) (.ref x :: st) h Q := by
  simp only [Bool.and_eq_true, decide_eq_true_eq] at hd
  exact z_ast_n hd.1 rfl hd.2 (nlg_of hg) rfl k
theorem z_lst0 {y y2 : Option Value} {l : List (Option Value)} {x : Int64} (hd : (dkb M pc (.lstore_n 0) 1 n && decide (1 < M.2.2.1)) = true) (hg : nlb (y :: y2 :: l) 0 = true) (k : Z G M d mc ms cs sl n (some (.long x) :: none :: l) st h Q) : Z G M d mc ms cs sl pc (y :: y2 :: l) (.long x :: st) h Q := by
  simp only [Bool.and_eq_true, decide_eq_true_eq] at hd
  exact z_lst_n hd.1 rfl hd.2 (nlg_of hg) rfl k
theorem z_inc0 {l : List (Option Value)} {q : Int} {x v : Int32} (hd : (dkb M pc (.iinc 0 q) 3 n && decide (0 < M.2.2.1)) = true) (hg : nlb (some (.int x) :: l) 0 = true) (hv : x + Int32.ofInt q = v) (k : Z G M d mc ms cs sl n (some (.int v) :: l) st h Q) : Z G M d mc ms cs sl pc (some (.int x) :: l) st h Q := z_inc hd (nlg_of hg) rfl hv rfl k
theorem z_ild1 {a0 : Option Value} {l : List (Option Value)} {x : Int32} (hd : dkb M pc (.iload_n 1) 1 n = true) (k : Z G M d mc ms cs sl n (a0 :: some (.int x) :: l) (.int x :: st) h Q) : Z G M d mc ms cs sl pc (a0 :: some (.int x) :: l) st h Q := z_ild_n hd rfl rfl k
theorem z_ald1 {a0 : Option Value} {l : List (Option Value)} {x : Nat} (hd : dkb M pc (.aload_n 1) 1 n = true) (k : Z G M d mc ms cs sl n (a0 :: some (.ref x) :: l) (.ref x :: st) h Q) : Z G M d mc ms cs sl pc (a0 :: some (.ref x) :: l) st h Q := z_ald_n hd rfl rfl k
theorem z_lld1 {a0 : Option Value} {l : List (Option Value)} {x : Int64} (hd : dkb M pc (.lload_n 1) 1 n = true) (k : Z G M d mc ms cs sl n (a0 :: some (.long x) :: l) (.long x :: st) h Q) : Z G M d mc ms cs sl pc (a0 :: some (.long x) :: l) st h Q := z_lld_n hd rfl rfl k
theorem z_ist1 {a0 y : Option Value} {l : List (Option Value)} {x : Int32} (hd : (dkb M pc (.istore_n 1) 1 n && decide (1 < M.2.2.1)) = true) (hg : nlb (a0 :: y :: l) 1 = true) (k : Z G M d mc ms cs sl n (a0 :: some (.int x) :: l) st h Q) : Z G M d mc ms cs sl pc (a0 :: y :: l) (.int x :: st) h Q := by
  simp only [Bool.and_eq_true, decide_eq_true_eq] at hd
  exact z_ist_n hd.1 rfl hd.2 (nlg_of hg) rfl k
theorem z_ast1 {a0 y : Option Value} {l : List (Option Value)} {x : Nat} (hd : (dkb M pc (.astore_n 1) 1 n && decide (1 < M.2.2.1)) = true) (hg : nlb (a0 :: y :: l) 1 = true) (k : Z G M d mc ms cs sl n (a0 :: some (.ref x) :: l) st h Q) : Z G M d mc ms cs sl pc (a0 :: y :: l) (.ref x :: st) h Q := by
  simp only [Bool.and_eq_true, decide_eq_true_eq] at hd
  exact z_ast_n hd.1 rfl hd.2 (nlg_of hg) rfl k
theorem z_lst1 {a0 y y2 : Option Value} {l : List (Option Value)} {x : Int64} (hd : (dkb M pc (.lstore_n 1) 1 n && decide (2 < M.2.2.1)) = true) (hg : nlb (a0 :: y :: y2 :: l) 1 = true) (k : Z G M d mc ms cs sl n (a0 :: some (.long x) :: none :: l) st h Q) : Z G M d mc ms cs sl pc (a0 :: y :: y2 :: l) (.long x :: st) h Q := by
  simp only [Bool.and_eq_true, decide_eq_true_eq] at hd
  exact z_lst_n hd.1 rfl hd.2 (nlg_of hg) rfl k
theorem z_inc1 {a0 : Option Value} {l : List (Option Value)} {q : Int} {x v : Int32} (hd : (dkb M pc (.iinc 1 q) 3 n && decide (1 < M.2.2.1)) = true) (hg : nlb (a0 :: some (.int x) :: l) 1 = true) (hv : x + Int32.ofInt q = v) (k : Z G M d mc ms cs sl n (a0 :: some (.int v) :: l) st h Q) : Z G M d mc ms cs sl pc (a0 :: some (.int x) :: l) st h Q := z_inc hd (nlg_of hg) rfl hv rfl k
theorem z_ild2 {a0 a1 : Option Value} {l : List (Option Value)} {x : Int32} (hd : dkb M pc (.iload_n 2) 1 n = true) (k : Z G M d mc ms cs sl n (a0 :: a1 :: some (.int x) :: l) (.int x :: st) h Q) : Z G M d mc ms cs sl pc (a0 :: a1 :: some (.int x) :: l) st h Q := z_ild_n hd rfl rfl k
theorem z_ald2 {a0 a1 : Option Value} {l : List (Option Value)} {x : Nat} (hd : dkb M pc (.aload_n 2) 1 n = true) (k : Z G M d mc ms cs sl n (a0 :: a1 :: some (.ref x) :: l) (.ref x :: st) h Q) : Z G M d mc ms cs sl pc (a0 :: a1 :: some (.ref x) :: l) st h Q := z_ald_n hd rfl rfl k
theorem z_lld2 {a0 a1 : Option Value} {l : List (Option Value)} {x : Int64} (hd : dkb M pc (.lload_n 2) 1 n = true) (k : Z G M d mc ms cs sl n (a0 :: a1 :: some (.long x) :: l) (.long x :: st) h Q) : Z G M d mc ms cs sl pc (a0 :: a1 :: some (.long x) :: l) st h Q := z_lld_n hd rfl rfl k
theorem z_ist2 {a0 a1 y : Option Value} {l : List (Option Value)} {x : Int32} (hd : (dkb M pc (.istore_n 2) 1 n && decide (2 < M.2.2.1)) = true) (hg : nlb (a0 :: a1 :: y :: l) 2 = true) (k : Z G M d mc ms cs sl n (a0 :: a1 :: some (.int x) :: l) st h Q) : Z G M d mc ms cs sl pc (a0 :: a1 :: y :: l) (.int x :: st) h Q := by
  simp only [Bool.and_eq_true, decide_eq_true_eq] at hd
  exact z_ist_n hd.1 rfl hd.2 (nlg_of hg) rfl k
theorem z_ast2 {a0 a1 y : Option Value} {l : List (Option Value)} {x : Nat} (hd : (dkb M pc (.astore_n 2) 1 n && decide (2 < M.2.2.1)) = true) (hg : nlb (a0 :: a1 :: y :: l) 2 = true) (k : Z G M d mc ms cs sl n (a0 :: a1 :: some (.ref x) :: l) st h Q) : Z G M d mc ms cs sl pc (a0 :: a1 :: y :: l) (.ref x :: st) h Q := by
  simp only [Bool.and_eq_true, decide_eq_true_eq] at hd
  exact z_ast_n hd.1 rfl hd.2 (nlg_of hg) rfl k
theorem z_lst2 {a0 a1 y y2 : Option Value} {l : List (Option Value)} {x : Int64} (hd : (dkb M pc (.lstore_n 2) 1 n && decide (3 < M.2.2.1)) = true) (hg : nlb (a0 :: a1 :: y :: y2 :: l) 2 = true) (k : Z G M d mc ms cs sl n (a0 :: a1 :: some (.long x) :: none :: l) st h Q) : Z G M d mc ms cs sl pc (a0 :: a1 :: y :: y2 :: l) (.long x :: st) h Q := by
  simp only [Bool.and_eq_true, decide_eq_true_eq] at hd
  exact z_lst_n hd.1 rfl hd.2 (nlg_of hg) rfl k
theorem z_inc2 {a0 a1 : Option Value} {l : List (Option Value)} {q : Int} {x v : Int32} (hd : (dkb M pc (.iinc 2 q) 3 n && decide (2 < M.2.2.1)) = true) (hg : nlb (a0 :: a1 :: some (.int x) :: l) 2 = true) (hv : x + Int32.ofInt q = v) (k : Z G M d mc ms cs sl n (a0 :: a1 :: some (.int v) :: l) st h Q) : Z G M d mc ms cs sl pc (a0 :: a1 :: some (.int x) :: l) st h Q := z_inc hd (nlg_of hg) rfl hv rfl k
theorem z_ild3 {a0 a1 a2 : Option Value} {l : List (Option Value)} {x : Int32} (hd : dkb M pc (.iload_n 3) 1 n = true) (k : Z G M d mc ms cs sl n (a0 :: a1 :: a2 :: some (.int x) :: l) (.int x :: st) h Q) : Z G M d mc ms cs sl pc (a0 :: a1 :: a2 :: some (.int x) :: l) st h Q := z_ild_n hd rfl rfl k
theorem z_ald3 {a0 a1 a2 : Option Value} {l : List (Option Value)} {x : Nat} (hd : dkb M pc (.aload_n 3) 1 n = true) (k : Z G M d mc ms cs sl n (a0 :: a1 :: a2 :: some (.ref x) :: l) (.ref x :: st) h Q) : Z G M d mc ms cs sl pc (a0 :: a1 :: a2 :: some (.ref x) :: l) st h Q := z_ald_n hd rfl rfl k
theorem z_lld3 {a0 a1 a2 : Option Value} {l : List (Option Value)} {x : Int64} (hd : dkb M pc (.lload_n 3) 1 n = true) (k : Z G M d mc ms cs sl n (a0 :: a1 :: a2 :: some (.long x) :: l) (.long x :: st) h Q) : Z G M d mc ms cs sl pc (a0 :: a1 :: a2 :: some (.long x) :: l) st h Q := z_lld_n hd rfl rfl k
theorem z_ist3 {a0 a1 a2 y : Option Value} {l : List (Option Value)} {x : Int32} (hd : (dkb M pc (.istore_n 3) 1 n && decide (3 < M.2.2.1)) = true) (hg : nlb (a0 :: a1 :: a2 :: y :: l) 3 = true) (k : Z G M d mc ms cs sl n (a0 :: a1 :: a2 :: some (.int x) :: l) st h Q) : Z G M d mc ms cs sl pc (a0 :: a1 :: a2 :: y :: l) (.int x :: st) h Q := by
  simp only [Bool.and_eq_true, decide_eq_true_eq] at hd
  exact z_ist_n hd.1 rfl hd.2 (nlg_of hg) rfl k
theorem z_ast3 {a0 a1 a2 y : Option Value} {l : List (Option Value)} {x : Nat} (hd : (dkb M pc (.astore_n 3) 1 n && decide (3 < M.2.2.1)) = true) (hg : nlb (a0 :: a1 :: a2 :: y :: l) 3 = true) (k : Z G M d mc ms cs sl n (a0 :: a1 :: a2 :: some (.ref x) :: l) st h Q) : Z G M d mc ms cs sl pc (a0 :: a1 :: a2 :: y :: l) (.ref x :: st) h Q := by
  simp only [Bool.and_eq_true, decide_eq_true_eq] at hd
  exact z_ast_n hd.1 rfl hd.2 (nlg_of hg) rfl k
theorem z_lst3 {a0 a1 a2 y y2 : Option Value} {l : List (Option Value)} {x : Int64} (hd : (dkb M pc (.lstore_n 3) 1 n && decide (4 < M.2.2.1)) = true) (hg : nlb (a0 :: a1 :: a2 :: y :: y2 :: l) 3 = true) (k : Z G M d mc ms cs sl n (a0 :: a1 :: a2 :: some (.long x) :: none :: l) st h Q) : Z G M d mc ms cs sl pc (a0 :: a1 :: a2 :: y :: y2 :: l) (.long x :: st) h Q := by
  simp only [Bool.and_eq_true, decide_eq_true_eq] at hd
  exact z_lst_n hd.1 rfl hd.2 (nlg_of hg) rfl k
theorem z_inc3 {a0 a1 a2 : Option Value} {l : List (Option Value)} {q : Int} {x v : Int32} (hd : (dkb M pc (.iinc 3 q) 3 n && decide (3 < M.2.2.1)) = true) (hg : nlb (a0 :: a1 :: a2 :: some (.int x) :: l) 3 = true) (hv : x + Int32.ofInt q = v) (k : Z G M d mc ms cs sl n (a0 :: a1 :: a2 :: some (.int v) :: l) st h Q) : Z G M d mc ms cs sl pc (a0 :: a1 :: a2 :: some (.int x) :: l) st h Q := z_inc hd (nlg_of hg) rfl hv rfl k
theorem z_ild4 {a0 a1 a2 a3 : Option Value} {l : List (Option Value)} {x : Int32} (hd : dkb M pc (.iload 4) 2 n = true) (k : Z G M d mc ms cs sl n (a0 :: a1 :: a2 :: a3 :: some (.int x) :: l) (.int x :: st) h Q) : Z G M d mc ms cs sl pc (a0 :: a1 :: a2 :: a3 :: some (.int x) :: l) st h Q := z_ild hd rfl k
theorem z_ald4 {a0 a1 a2 a3 : Option Value} {l : List (Option Value)} {x : Nat} (hd : dkb M pc (.aload 4) 2 n = true) (k : Z G M d mc ms cs sl n (a0 :: a1 :: a2 :: a3 :: some (.ref x) :: l) (.ref x :: st) h Q) : Z G M d mc ms cs sl pc (a0 :: a1 :: a2 :: a3 :: some (.ref x) :: l) st h Q := z_ald hd rfl k
theorem z_lld4 {a0 a1 a2 a3 : Option Value} {l : List (Option Value)} {x : Int64} (hd : dkb M pc (.lload 4) 2 n = true) (k : Z G M d mc ms cs sl n (a0 :: a1 :: a2 :: a3 :: some (.long x) :: l) (.long x :: st) h Q) : Z G M d mc ms cs sl pc (a0 :: a1 :: a2 :: a3 :: some (.long x) :: l) st h Q := z_lld hd rfl k
theorem z_ist4 {a0 a1 a2 a3 y : Option Value} {l : List (Option Value)} {x : Int32} (hd : (dkb M pc (.istore 4) 2 n && decide (4 < M.2.2.1)) = true) (hg : nlb (a0 :: a1 :: a2 :: a3 :: y :: l) 4 = true) (k : Z G M d mc ms cs sl n (a0 :: a1 :: a2 :: a3 :: some (.int x) :: l) st h Q) : Z G M d mc ms cs sl pc (a0 :: a1 :: a2 :: a3 :: y :: l) (.int x :: st) h Q := by
  simp only [Bool.and_eq_true, decide_eq_true_eq] at hd
  exact z_ist hd.1 hd.2 (nlg_of hg) rfl k
theorem z_ast4 {a0 a1 a2 a3 y : Option Value} {l : List (Option Value)} {x : Nat} (hd : (dkb M pc (.astore 4) 2 n && decide (4 < M.2.2.1)) = true) (hg : nlb (a0 :: a1 :: a2 :: a3 :: y :: l) 4 = true) (k : Z G M d mc ms cs sl n (a0 :: a1 :: a2 :: a3 :: some (.ref x) :: l) st h Q) : Z G M d mc ms cs sl pc (a0 :: a1 :: a2 :: a3 :: y :: l) (.ref x :: st) h Q := by
  simp only [Bool.and_eq_true, decide_eq_true_eq] at hd
  exact z_ast hd.1 hd.2 (nlg_of hg) rfl k
theorem z_lst4 {a0 a1 a2 a3 y y2 : Option Value} {l : List (Option Value)} {x : Int64} (hd : (dkb M pc (.lstore 4) 2 n && decide (5 < M.2.2.1)) = true) (hg : nlb (a0 :: a1 :: a2 :: a3 :: y :: y2 :: l) 4 = true) (k : Z G M d mc ms cs sl n (a0 :: a1 :: a2 :: a3 :: some (.long x) :: none :: l) st h Q) : Z G M d mc ms cs sl pc (a0 :: a1 :: a2 :: a3 :: y :: y2 :: l) (.long x :: st) h Q := by
  simp only [Bool.and_eq_true, decide_eq_true_eq] at hd
  exact z_lst hd.1 hd.2 (nlg_of hg) rfl k
theorem z_inc4 {a0 a1 a2 a3 : Option Value} {l : List (Option Value)} {q : Int} {x v : Int32} (hd : (dkb M pc (.iinc 4 q) 3 n && decide (4 < M.2.2.1)) = true) (hg : nlb (a0 :: a1 :: a2 :: a3 :: some (.int x) :: l) 4 = true) (hv : x + Int32.ofInt q = v) (k : Z G M d mc ms cs sl n (a0 :: a1 :: a2 :: a3 :: some (.int v) :: l) st h Q) : Z G M d mc ms cs sl pc (a0 :: a1 :: a2 :: a3 :: some (.int x) :: l) st h Q := z_inc hd (nlg_of hg) rfl hv rfl k
theorem z_ild5 {a0 a1 a2 a3 a4 : Option Value} {l : List (Option Value)} {x : Int32} (hd : dkb M pc (.iload 5) 2 n = true) (k : Z G M d mc ms cs sl n (a0 :: a1 :: a2 :: a3 :: a4 :: some (.int x) :: l) (.int x :: st) h Q) : Z G M d mc ms cs sl pc (a0 :: a1 :: a2 :: a3 :: a4 :: some (.int x) :: l) st h Q := z_ild hd rfl k
theorem z_ald5 {a0 a1 a2 a3 a4 : Option Value} {l : List (Option Value)} {x : Nat} (hd : dkb M pc (.aload 5) 2 n = true) (k : Z G M d mc ms cs sl n (a0 :: a1 :: a2 :: a3 :: a4 :: some (.ref x) :: l) (.ref x :: st) h Q) : Z G M d mc ms cs sl pc (a0 :: a1 :: a2 :: a3 :: a4 :: some (.ref x) :: l) st h Q := z_ald hd rfl k
theorem z_lld5 {a0 a1 a2 a3 a4 : Option Value} {l : List (Option Value)} {x : Int64} (hd : dkb M pc (.lload 5) 2 n = true) (k : Z G M d mc ms cs sl n (a0 :: a1 :: a2 :: a3 :: a4 :: some (.long x) :: l) (.long x :: st) h Q) : Z G M d mc ms cs sl pc (a0 :: a1 :: a2 :: a3 :: a4 :: some (.long x) :: l) st h Q := z_lld hd rfl k
theorem z_ist5 {a0 a1 a2 a3 a4 y : Option Value} {l : List (Option Value)} {x : Int32} (hd : (dkb M pc (.istore 5) 2 n && decide (5 < M.2.2.1)) = true) (hg : nlb (a0 :: a1 :: a2 :: a3 :: a4 :: y :: l) 5 = true) (k : Z G M d mc ms cs sl n (a0 :: a1 :: a2 :: a3 :: a4 :: some (.int x) :: l) st h Q) : Z G M d mc ms cs sl pc (a0 :: a1 :: a2 :: a3 :: a4 :: y :: l) (.int x :: st) h Q := by
  simp only [Bool.and_eq_true, decide_eq_true_eq] at hd
  exact z_ist hd.1 hd.2 (nlg_of hg) rfl k
theorem z_ast5 {a0 a1 a2 a3 a4 y : Option Value} {l : List (Option Value)} {x : Nat} (hd : (dkb M pc (.astore 5) 2 n && decide (5 < M.2.2.1)) = true) (hg : nlb (a0 :: a1 :: a2 :: a3 :: a4 :: y :: l) 5 = true) (k : Z G M d mc ms cs sl n (a0 :: a1 :: a2 :: a3 :: a4 :: some (.ref x) :: l) st h Q) : Z G M d mc ms cs sl pc (a0 :: a1 :: a2 :: a3 :: a4 :: y :: l) (.ref x :: st) h Q := by
  simp only [Bool.and_eq_true, decide_eq_true_eq] at hd
  exact z_ast hd.1 hd.2 (nlg_of hg) rfl k
theorem z_lst5 {a0 a1 a2 a3 a4 y y2 : Option Value} {l : List (Option Value)} {x : Int64} (hd : (dkb M pc (.lstore 5) 2 n && decide (6 < M.2.2.1)) = true) (hg : nlb (a0 :: a1 :: a2 :: a3 :: a4 :: y :: y2 :: l) 5 = true) (k : Z G M d mc ms cs sl n (a0 :: a1 :: a2 :: a3 :: a4 :: some (.long x) :: none :: l) st h Q) : Z G M d mc ms cs sl pc (a0 :: a1 :: a2 :: a3 :: a4 :: y :: y2 :: l) (.long x :: st) h Q := by
  simp only [Bool.and_eq_true, decide_eq_true_eq] at hd
  exact z_lst hd.1 hd.2 (nlg_of hg) rfl k
theorem z_inc5 {a0 a1 a2 a3 a4 : Option Value} {l : List (Option Value)} {q : Int} {x v : Int32} (hd : (dkb M pc (.iinc 5 q) 3 n && decide (5 < M.2.2.1)) = true) (hg : nlb (a0 :: a1 :: a2 :: a3 :: a4 :: some (.int x) :: l) 5 = true) (hv : x + Int32.ofInt q = v) (k : Z G M d mc ms cs sl n (a0 :: a1 :: a2 :: a3 :: a4 :: some (.int v) :: l) st h Q) : Z G M d mc ms cs sl pc (a0 :: a1 :: a2 :: a3 :: a4 :: some (.int x) :: l) st h Q := z_inc hd (nlg_of hg) rfl hv rfl k
theorem z_ild6 {a0 a1 a2 a3 a4 a5 : Option Value} {l : List (Option Value)} {x : Int32} (hd : dkb M pc (.iload 6) 2 n = true) (k : Z G M d mc ms cs sl n (a0 :: a1 :: a2 :: a3 :: a4 :: a5 :: some (.int x) :: l) (.int x :: st) h Q) : Z G M d mc ms cs sl pc (a0 :: a1 :: a2 :: a3 :: a4 :: a5 :: some (.int x) :: l) st h Q := z_ild hd rfl k
theorem z_ald6 {a0 a1 a2 a3 a4 a5 : Option Value} {l : List (Option Value)} {x : Nat} (hd : dkb M pc (.aload 6) 2 n = true) (k : Z G M d mc ms cs sl n (a0 :: a1 :: a2 :: a3 :: a4 :: a5 :: some (.ref x) :: l) (.ref x :: st) h Q) : Z G M d mc ms cs sl pc (a0 :: a1 :: a2 :: a3 :: a4 :: a5 :: some (.ref x) :: l) st h Q := z_ald hd rfl k
theorem z_lld6 {a0 a1 a2 a3 a4 a5 : Option Value} {l : List (Option Value)} {x : Int64} (hd : dkb M pc (.lload 6) 2 n = true) (k : Z G M d mc ms cs sl n (a0 :: a1 :: a2 :: a3 :: a4 :: a5 :: some (.long x) :: l) (.long x :: st) h Q) : Z G M d mc ms cs sl pc (a0 :: a1 :: a2 :: a3 :: a4 :: a5 :: some (.long x) :: l) st h Q := z_lld hd rfl k
theorem z_ist6 {a0 a1 a2 a3 a4 a5 y : Option Value} {l : List (Option Value)} {x : Int32} (hd : (dkb M pc (.istore 6) 2 n && decide (6 < M.2.2.1)) = true) (hg : nlb (a0 :: a1 :: a2 :: a3 :: a4 :: a5 :: y :: l) 6 = true) (k : Z G M d mc ms cs sl n (a0 :: a1 :: a2 :: a3 :: a4 :: a5 :: some (.int x) :: l) st h Q) : Z G M d mc ms cs sl pc (a0 :: a1 :: a2 :: a3 :: a4 :: a5 :: y :: l) (.int x :: st) h Q := by
  simp only [Bool.and_eq_true, decide_eq_true_eq] at hd
  exact z_ist hd.1 hd.2 (nlg_of hg) rfl k
theorem z_ast6 {a0 a1 a2 a3 a4 a5 y : Option Value} {l : List (Option Value)} {x : Nat} (hd : (dkb M pc (.astore 6) 2 n && decide (6 < M.2.2.1)) = true) (hg : nlb (a0 :: a1 :: a2 :: a3 :: a4 :: a5 :: y :: l) 6 = true) (k : Z G M d mc ms cs sl n (a0 :: a1 :: a2 :: a3 :: a4 :: a5 :: some (.ref x) :: l) st h Q) : Z G M d mc ms cs sl pc (a0 :: a1 :: a2 :: a3 :: a4 :: a5 :: y :: l) (.ref x :: st) h Q := by
  simp only [Bool.and_eq_true, decide_eq_true_eq] at hd
  exact z_ast hd.1 hd.2 (nlg_of hg) rfl k
theorem z_lst6 {a0 a1 a2 a3 a4 a5 y y2 : Option Value} {l : List (Option Value)} {x : Int64} (hd : (dkb M pc (.lstore 6) 2 n && decide (7 < M.2.2.1)) = true) (hg : nlb (a0 :: a1 :: a2 :: a3 :: a4 :: a5 :: y :: y2 :: l) 6 = true) (k : Z G M d mc ms cs sl n (a0 :: a1 :: a2 :: a3 :: a4 :: a5 :: some (.long x) :: none :: l) st h Q) : Z G M d mc ms cs sl pc (a0 :: a1 :: a2 :: a3 :: a4 :: a5 :: y :: y2 :: l) (.long x :: st) h Q := by
  simp only [Bool.and_eq_true, decide_eq_true_eq] at hd
  exact z_lst hd.1 hd.2 (nlg_of hg) rfl k
theorem z_inc6 {a0 a1 a2 a3 a4 a5 : Option Value} {l : List (Option Value)} {q : Int} {x v : Int32} (hd : (dkb M pc (.iinc 6 q) 3 n && decide (6 < M.2.2.1)) = true) (hg : nlb (a0 :: a1 :: a2 :: a3 :: a4 :: a5 :: some (.int x) :: l) 6 = true) (hv : x + Int32.ofInt q = v) (k : Z G M d mc ms cs sl n (a0 :: a1 :: a2 :: a3 :: a4 :: a5 :: some (.int v) :: l) st h Q) : Z G M d mc ms cs sl pc (a0 :: a1 :: a2 :: a3 :: a4 :: a5 :: some (.int x) :: l) st h Q := z_inc hd (nlg_of hg) rfl hv rfl k
theorem z_ild7 {a0 a1 a2 a3 a4 a5 a6 : Option Value} {l : List (Option Value)} {x : Int32} (hd : dkb M pc (.iload 7) 2 n = true) (k : Z G M d mc ms cs sl n (a0 :: a1 :: a2 :: a3 :: a4 :: a5 :: a6 :: some (.int x) :: l) (.int x :: st) h Q) : Z G M d mc ms cs sl pc (a0 :: a1 :: a2 :: a3 :: a4 :: a5 :: a6 :: some (.int x) :: l) st h Q := z_ild hd rfl k
theorem z_ald7 {a0 a1 a2 a3 a4 a5 a6 : Option Value} {l : List (Option Value)} {x : Nat} (hd : dkb M pc (.aload 7) 2 n = true) (k : Z G M d mc ms cs sl n (a0 :: a1 :: a2 :: a3 :: a4 :: a5 :: a6 :: some (.ref x) :: l) (.ref x :: st) h Q) : Z G M d mc ms cs sl pc (a0 :: a1 :: a2 :: a3 :: a4 :: a5 :: a6 :: some (.ref x) :: l) st h Q := z_ald hd rfl k
theorem z_lld7 {a0 a1 a2 a3 a4 a5 a6 : Option Value} {l : List (Option Value)} {x : Int64} (hd : dkb M pc (.lload 7) 2 n = true) (k : Z G M d mc ms cs sl n (a0 :: a1 :: a2 :: a3 :: a4 :: a5 :: a6 :: some (.long x) :: l) (.long x :: st) h Q) : Z G M d mc ms cs sl pc (a0 :: a1 :: a2 :: a3 :: a4 :: a5 :: a6 :: some (.long x) :: l) st h Q := z_lld hd rfl k
theorem z_ist7 {a0 a1 a2 a3 a4 a5 a6 y : Option Value} {l : List (Option Value)} {x : Int32} (hd : (dkb M pc (.istore 7) 2 n && decide (7 < M.2.2.1)) = true) (hg : nlb (a0 :: a1 :: a2 :: a3 :: a4 :: a5 :: a6 :: y :: l) 7 = true) (k : Z G M d mc ms cs sl n (a0 :: a1 :: a2 :: a3 :: a4 :: a5 :: a6 :: some (.int x) :: l) st h Q) : Z G M d mc ms cs sl pc (a0 :: a1 :: a2 :: a3 :: a4 :: a5 :: a6 :: y :: l) (.int x :: st) h Q := by
  simp only [Bool.and_eq_true, decide_eq_true_eq] at hd
  exact z_ist hd.1 hd.2 (nlg_of hg) rfl k
theorem z_ast7 {a0 a1 a2 a3 a4 a5 a6 y : Option Value} {l : List (Option Value)} {x : Nat} (hd : (dkb M pc (.astore 7) 2 n && decide (7 < M.2.2.1)) = true) (hg : nlb (a0 :: a1 :: a2 :: a3 :: a4 :: a5 :: a6 :: y :: l) 7 = true) (k : Z G M d mc ms cs sl n (a0 :: a1 :: a2 :: a3 :: a4 :: a5 :: a6 :: some (.ref x) :: l) st h Q) : Z G M d mc ms cs sl pc (a0 :: a1 :: a2 :: a3 :: a4 :: a5 :: a6 :: y :: l) (.ref x :: st) h Q := by
  simp only [Bool.and_eq_true, decide_eq_true_eq] at hd
  exact z_ast hd.1 hd.2 (nlg_of hg) rfl k
theorem z_lst7 {a0 a1 a2 a3 a4 a5 a6 y y2 : Option Value} {l : List (Option Value)} {x : Int64} (hd : (dkb M pc (.lstore 7) 2 n && decide (8 < M.2.2.1)) = true) (hg : nlb (a0 :: a1 :: a2 :: a3 :: a4 :: a5 :: a6 :: y :: y2 :: l) 7 = true) (k : Z G M d mc ms cs sl n (a0 :: a1 :: a2 :: a3 :: a4 :: a5 :: a6 :: some (.long x) :: none :: l) st h Q) : Z G M d mc ms cs sl pc (a0 :: a1 :: a2 :: a3 :: a4 :: a5 :: a6 :: y :: y2 :: l) (.long x :: st) h Q := by
  simp only [Bool.and_eq_true, decide_eq_true_eq] at hd
  exact z_lst hd.1 hd.2 (nlg_of hg) rfl k
theorem z_inc7 {a0 a1 a2 a3 a4 a5 a6 : Option Value} {l : List (Option Value)} {q : Int} {x v : Int32} (hd : (dkb M pc (.iinc 7 q) 3 n && decide (7 < M.2.2.1)) = true) (hg : nlb (a0 :: a1 :: a2 :: a3 :: a4 :: a5 :: a6 :: some (.int x) :: l) 7 = true) (hv : x + Int32.ofInt q = v) (k : Z G M d mc ms cs sl n (a0 :: a1 :: a2 :: a3 :: a4 :: a5 :: a6 :: some (.int v) :: l) st h Q) : Z G M d mc ms cs sl pc (a0 :: a1 :: a2 :: a3 :: a4 :: a5 :: a6 :: some (.int x) :: l) st h Q := z_inc hd (nlg_of hg) rfl hv rfl k
theorem z_ild8 {a0 a1 a2 a3 a4 a5 a6 a7 : Option Value} {l : List (Option Value)} {x : Int32} (hd : dkb M pc (.iload 8) 2 n = true) (k : Z G M d mc ms cs sl n (a0 :: a1 :: a2 :: a3 :: a4 :: a5 :: a6 :: a7 :: some (.int x) :: l) (.int x :: st) h Q) : Z G M d mc ms cs sl pc (a0 :: a1 :: a2 :: a3 :: a4 :: a5 :: a6 :: a7 :: some (.int x) :: l) st h Q := z_ild hd rfl k
theorem z_ald8 {a0 a1 a2 a3 a4 a5 a6 a7 : Option Value} {l : List (Option Value)} {x : Nat} (hd : dkb M pc (.aload 8) 2 n = true) (k : Z G M d mc ms cs sl n (a0 :: a1 :: a2 :: a3 :: a4 :: a5 :: a6 :: a7 :: some (.ref x) :: l) (.ref x :: st) h Q) : Z G M d mc ms cs sl pc (a0 :: a1 :: a2 :: a3 :: a4 :: a5 :: a6 :: a7 :: some (.ref x) :: l) st h Q := z_ald hd rfl k
theorem z_lld8 {a0 a1 a2 a3 a4 a5 a6 a7 : Option Value} {l : List (Option Value)} {x : Int64} (hd : dkb M pc (.lload 8) 2 n = true) (k : Z G M d mc ms cs sl n (a0 :: a1 :: a2 :: a3 :: a4 :: a5 :: a6 :: a7 :: some (.long x) :: l) (.long x :: st) h Q) : Z G M d mc ms cs sl pc (a0 :: a1 :: a2 :: a3 :: a4 :: a5 :: a6 :: a7 :: some (.long x) :: l) st h Q := z_lld hd rfl k
theorem z_ist8 {a0 a1 a2 a3 a4 a5 a6 a7 y : Option Value} {l : List (Option Value)} {x : Int32} (hd : (dkb M pc (.istore 8) 2 n && decide (8 < M.2.2.1)) = true) (hg : nlb (a0 :: a1 :: a2 :: a3 :: a4 :: a5 :: a6 :: a7 :: y :: l) 8 = true) (k : Z G M d mc ms cs sl n (a0 :: a1 :: a2 :: a3 :: a4 :: a5 :: a6 :: a7 :: some (.int x) :: l) st h Q) : Z G M d mc ms cs sl pc (a0 :: a1 :: a2 :: a3 :: a4 :: a5 :: a6 :: a7 :: y :: l) (.int x :: st) h Q := by
  simp only [Bool.and_eq_true, decide_eq_true_eq] at hd
  exact z_ist hd.1 hd.2 (nlg_of hg) rfl k
theorem z_ast8 {a0 a1 a2 a3 a4 a5 a6 a7 y : Option Value} {l : List (Option Value)} {x : Nat} (hd : (dkb M pc (.astore 8) 2 n && decide (8 < M.2.2.1)) = true) (hg : nlb (a0 :: a1 :: a2 :: a3 :: a4 :: a5 :: a6 :: a7 :: y :: l) 8 = true) (k : Z G M d mc ms cs sl n (a0 :: a1 :: a2 :: a3 :: a4 :: a5 :: a6 :: a7 :: some (.ref x) :: l) st h Q) : Z G M d mc ms cs sl pc (a0 :: a1 :: a2 :: a3 :: a4 :: a5 :: a6 :: a7 :: y :: l) (.ref x :: st) h Q := by
  simp only [Bool.and_eq_true, decide_eq_true_eq] at hd
  exact z_ast hd.1 hd.2 (nlg_of hg) rfl k
theorem z_lst8 {a0 a1 a2 a3 a4 a5 a6 a7 y y2 : Option Value} {l : List (Option Value)} {x : Int64} (hd : (dkb M pc (.lstore 8) 2 n && decide (9 < M.2.2.1)) = true) (hg : nlb (a0 :: a1 :: a2 :: a3 :: a4 :: a5 :: a6 :: a7 :: y :: y2 :: l) 8 = true) (k : Z G M d mc ms cs sl n (a0 :: a1 :: a2 :: a3 :: a4 :: a5 :: a6 :: a7 :: some (.long x) :: none :: l) st h Q) : Z G M d mc ms cs sl pc (a0 :: a1 :: a2 :: a3 :: a4 :: a5 :: a6 :: a7 :: y :: y2 :: l) (.long x :: st) h Q := by
  simp only [Bool.and_eq_true, decide_eq_true_eq] at hd
  exact z_lst hd.1 hd.2 (nlg_of hg) rfl k
theorem z_inc8 {a0 a1 a2 a3 a4 a5 a6 a7 : Option Value} {l : List (Option Value)} {q : Int} {x v : Int32} (hd : (dkb M pc (.iinc 8 q) 3 n && decide (8 < M.2.2.1)) = true) (hg : nlb (a0 :: a1 :: a2 :: a3 :: a4 :: a5 :: a6 :: a7 :: some (.int x) :: l) 8 = true) (hv : x + Int32.ofInt q = v) (k : Z G M d mc ms cs sl n (a0 :: a1 :: a2 :: a3 :: a4 :: a5 :: a6 :: a7 :: some (.int v) :: l) st h Q) : Z G M d mc ms cs sl pc (a0 :: a1 :: a2 :: a3 :: a4 :: a5 :: a6 :: a7 :: some (.int x) :: l) st h Q := z_inc hd (nlg_of hg) rfl hv rfl k
theorem z_ild9 {a0 a1 a2 a3 a4 a5 a6 a7 a8 : Option Value} {l : List (Option Value)} {x : Int32} (hd : dkb M pc (.iload 9) 2 n = true) (k : Z G M d mc ms cs sl n (a0 :: a1 :: a2 :: a3 :: a4 :: a5 :: a6 :: a7 :: a8 :: some (.int x) :: l) (.int x :: st) h Q) : Z G M d mc ms cs sl pc (a0 :: a1 :: a2 :: a3 :: a4 :: a5 :: a6 :: a7 :: a8 :: some (.int x) :: l) st h Q := z_ild hd rfl k
theorem z_ald9 {a0 a1 a2 a3 a4 a5 a6 a7 a8 : Option Value} {l : List (Option Value)} {x : Nat} (hd : dkb M pc (.aload 9) 2 n = true) (k : Z G M d mc ms cs sl n (a0 :: a1 :: a2 :: a3 :: a4 :: a5 :: a6 :: a7 :: a8 :: some (.ref x) :: l) (.ref x :: st) h Q) : Z G M d mc ms cs sl pc (a0 :: a1 :: a2 :: a3 :: a4 :: a5 :: a6 :: a7 :: a8 :: some (.ref x) :: l) st h Q := z_ald hd rfl k
theorem z_lld9 {a0 a1 a2 a3 a4 a5 a6 a7 a8 : Option Value} {l : List (Option Value)} {x : Int64} (hd : dkb M pc (.lload 9) 2 n = true) (k : Z G M d mc ms cs sl n (a0 :: a1 :: a2 :: a3 :: a4 :: a5 :: a6 :: a7 :: a8 :: some (.long x) :: l) (.long x :: st) h Q) : Z G M d mc ms cs sl pc (a0 :: a1 :: a2 :: a3 :: a4 :: a5 :: a6 :: a7 :: a8 :: some (.long x) :: l) st h Q := z_lld hd rfl k
theorem z_ist9 {a0 a1 a2 a3 a4 a5 a6 a7 a8 y : Option Value} {l : List (Option Value)} {x : Int32} (hd : (dkb M pc (.istore 9) 2 n && decide (9 < M.2.2.1)) = true) (hg : nlb (a0 :: a1 :: a2 :: a3 :: a4 :: a5 :: a6 :: a7 :: a8 :: y :: l) 9 = true) (k : Z G M d mc ms cs sl n (a0 :: a1 :: a2 :: a3 :: a4 :: a5 :: a6 :: a7 :: a8 :: some (.int x) :: l) st h Q) : Z G M d mc ms cs sl pc (a0 :: a1 :: a2 :: a3 :: a4 :: a5 :: a6 :: a7 :: a8 :: y :: l) (.int x :: st) h Q := by
  simp only [Bool.and_eq_true, decide_eq_true_eq] at hd
  exact z_ist hd.1 hd.2 (nlg_of hg) rfl k
theorem z_ast9 {a0 a1 a2 a3 a4 a5 a6 a7 a8 y : Option Value} {l : List (Option Value)} {x : Nat} (hd : (dkb M pc (.astore 9) 2 n && decide (9 < M.2.2.1)) = true) (hg : nlb (a0 :: a1 :: a2 :: a3 :: a4 :: a5 :: a6 :: a7 :: a8 :: y :: l) 9 = true) (k : Z G M d mc ms cs sl n (a0 :: a1 :: a2 :: a3 :: a4 :: a5 :: a6 :: a7 :: a8 :: some (.ref x) :: l) st h Q) : Z G M d mc ms cs sl pc (a0 :: a1 :: a2 :: a3 :: a4 :: a5 :: a6 :: a7 :: a8 :: y :: l) (.ref x :: st) h Q := by
  simp only [Bool.and_eq_true, decide_eq_true_eq] at hd
  exact z_ast hd.1 hd.2 (nlg_of hg) rfl k
theorem z_lst9 {a0 a1 a2 a3 a4 a5 a6 a7 a8 y y2 : Option Value} {l : List (Option Value)} {x : Int64} (hd : (dkb M pc (.lstore 9) 2 n && decide (10 < M.2.2.1)) = true) (hg : nlb (a0 :: a1 :: a2 :: a3 :: a4 :: a5 :: a6 :: a7 :: a8 :: y :: y2 :: l) 9 = true) (k : Z G M d mc ms cs sl n (a0 :: a1 :: a2 :: a3 :: a4 :: a5 :: a6 :: a7 :: a8 :: some (.long x) :: none :: l) st h Q) : Z G M d mc ms cs sl pc (a0 :: a1 :: a2 :: a3 :: a4 :: a5 :: a6 :: a7 :: a8 :: y :: y2 :: l) (.long x :: st) h Q := by
  simp only [Bool.and_eq_true, decide_eq_true_eq] at hd
  exact z_lst hd.1 hd.2 (nlg_of hg) rfl k
theorem z_inc9 {a0 a1 a2 a3 a4 a5 a6 a7 a8 : Option Value} {l : List (Option Value)} {q : Int} {x v : Int32} (hd : (dkb M pc (.iinc 9 q) 3 n && decide (9 < M.2.2.1)) = true) (hg : nlb (a0 :: a1 :: a2 :: a3 :: a4 :: a5 :: a6 :: a7 :: a8 :: some (.int x) :: l) 9 = true) (hv : x + Int32.ofInt q = v) (k : Z G M d mc ms cs sl n (a0 :: a1 :: a2 :: a3 :: a4 :: a5 :: a6 :: a7 :: a8 :: some (.int v) :: l) st h Q) : Z G M d mc ms cs sl pc (a0 :: a1 :: a2 :: a3 :: a4 :: a5 :: a6 :: a7 :: a8 :: some (.int x) :: l) st h Q := z_inc hd (nlg_of hg) rfl hv rfl k
theorem z_ild10 {a0 a1 a2 a3 a4 a5 a6 a7 a8 a9 : Option Value} {l : List (Option Value)} {x : Int32} (hd : dkb M pc (.iload 10) 2 n = true) (k : Z G M d mc ms cs sl n (a0 :: a1 :: a2 :: a3 :: a4 :: a5 :: a6 :: a7 :: a8 :: a9 :: some (.int x) :: l) (.int x :: st) h Q) : Z G M d mc ms cs sl pc (a0 :: a1 :: a2 :: a3 :: a4 :: a5 :: a6 :: a7 :: a8 :: a9 :: some (.int x) :: l) st h Q := z_ild hd rfl k
theorem z_ald10 {a0 a1 a2 a3 a4 a5 a6 a7 a8 a9 : Option Value} {l : List (Option Value)} {x : Nat} (hd : dkb M pc (.aload 10) 2 n = true) (k : Z G M d mc ms cs sl n (a0 :: a1 :: a2 :: a3 :: a4 :: a5 :: a6 :: a7 :: a8 :: a9 :: some (.ref x) :: l) (.ref x :: st) h Q) : Z G M d mc ms cs sl pc (a0 :: a1 :: a2 :: a3 :: a4 :: a5 :: a6 :: a7 :: a8 :: a9 :: some (.ref x) :: l) st h Q := z_ald hd rfl k
theorem z_lld10 {a0 a1 a2 a3 a4 a5 a6 a7 a8 a9 : Option Value} {l : List (Option Value)} {x : Int64} (hd : dkb M pc (.lload 10) 2 n = true) (k : Z G M d mc ms cs sl n (a0 :: a1 :: a2 :: a3 :: a4 :: a5 :: a6 :: a7 :: a8 :: a9 :: some (.long x) :: l) (.long x :: st) h Q) : Z G M d mc ms cs sl pc (a0 :: a1 :: a2 :: a3 :: a4 :: a5 :: a6 :: a7 :: a8 :: a9 :: some (.long x) :: l) st h Q := z_lld hd rfl k
theorem z_ist10 {a0 a1 a2 a3 a4 a5 a6 a7 a8 a9 y : Option Value} {l : List (Option Value)} {x : Int32} (hd : (dkb M pc (.istore 10) 2 n && decide (10 < M.2.2.1)) = true) (hg : nlb (a0 :: a1 :: a2 :: a3 :: a4 :: a5 :: a6 :: a7 :: a8 :: a9 :: y :: l) 10 = true) (k : Z G M d mc ms cs sl n (a0 :: a1 :: a2 :: a3 :: a4 :: a5 :: a6 :: a7 :: a8 :: a9 :: some (.int x) :: l) st h Q) : Z G M d mc ms cs sl pc (a0 :: a1 :: a2 :: a3 :: a4 :: a5 :: a6 :: a7 :: a8 :: a9 :: y :: l) (.int x :: st) h Q := by
  simp only [Bool.and_eq_true, decide_eq_true_eq] at hd
  exact z_ist hd.1 hd.2 (nlg_of hg) rfl k
theorem z_ast10 {a0 a1 a2 a3 a4 a5 a6 a7 a8 a9 y : Option Value} {l : List (Option Value)} {x : Nat} (hd : (dkb M pc (.astore 10) 2 n && decide (10 < M.2.2.1)) = true) (hg : nlb (a0 :: a1 :: a2 :: a3 :: a4 :: a5 :: a6 :: a7 :: a8 :: a9 :: y :: l) 10 = true) (k : Z G M d mc ms cs sl n (a0 :: a1 :: a2 :: a3 :: a4 :: a5 :: a6 :: a7 :: a8 :: a9 :: some (.ref x) :: l) st h Q) : Z G M d mc ms cs sl pc (a0 :: a1 :: a2 :: a3 :: a4 :: a5 :: a6 :: a7 :: a8 :: a9 :: y :: l) (.ref x :: st) h Q := by
  simp only [Bool.and_eq_true, decide_eq_true_eq] at hd
  exact z_ast hd.1 hd.2 (nlg_of hg) rfl k
theorem z_inc10 {a0 a1 a2 a3 a4 a5 a6 a7 a8 a9 : Option Value} {l : List (Option Value)} {q : Int} {x v : Int32} (hd : (dkb M pc (.iinc 10 q) 3 n && decide (10 < M.2.2.1)) = true) (hg : nlb (a0 :: a1 :: a2 :: a3 :: a4 :: a5 :: a6 :: a7 :: a8 :: a9 :: some (.int x) :: l) 10 = true) (hv : x + Int32.ofInt q = v) (k : Z G M d mc ms cs sl n (a0 :: a1 :: a2 :: a3 :: a4 :: a5 :: a6 :: a7 :: a8 :: a9 :: some (.int v) :: l) st h Q) : Z G M d mc ms cs sl pc (a0 :: a1 :: a2 :: a3 :: a4 :: a5 :: a6 :: a7 :: a8 :: a9 :: some (.int x) :: l) st h Q := z_inc hd (nlg_of hg) rfl hv rfl k
theorem z_v0 {M' : mD} {idx a ci d' : Nat} {fs rest : List Value} {v : Value} {h1 : mH} (hd : dkb M pc (.invokevirtual idx) 3 n = true) (hv : cV M.1.cls idx M' 0) (ho : h a = oB ci fs) (hci : (CL[ci]?).map (fun q => q.1) = some M'.1.cls) (hcat : (rest.map fun v => v.category).sum ≤ 8) (hrm : d' + 1 ≤ d) (hb : cs ≤ mc ∧ sl ≤ ms) (ev : EV G M' d' 0 0 [.ref a] h (RE (some v) h1)) (kk : Z G M d mc ms cs sl n lv (v :: rest) h1 Q) : Z G M d mc ms cs sl pc lv (.ref a :: rest) h Q :=
  z_callV (As := []) (rest := rest) hd hv ho hci rfl rfl hcat hrm hb.1 hb.2 ev (fun r h' hq => by obtain ⟨rfl, rfl⟩ := hq; exact kk)
theorem z_i0 {M' : mD} {idx a d' mc' ms' : Nat} {rest : List Value} {v : Value} {h1 : mH} (hd : dkb M pc (.invokespecial idx) 3 n = true) (hv : cI M.1.cls idx M' 0) (hM : M'.2.2.2 = none ∧ M'.1.name = "<init>") (hcat : (rest.map fun v => v.category).sum ≤ 8) (hrm : d' + 1 ≤ d) (hb : cs + mc' ≤ mc ∧ sl + ms' ≤ ms) (ev : EV G M' d' mc' ms' [.ref a] h (RE (some v) h1)) (kk : Z G M d mc ms (cs + mc') (sl + ms') n lv (v :: rest) h1 Q) : Z G M d mc ms cs sl pc lv (.ref a :: rest) h Q :=
  z_callI (As := []) (rest := rest) hd hv hM rfl rfl hcat hrm hb.1 hb.2 ev (fun r h' hq => by obtain ⟨rfl, rfl⟩ := hq; exact kk)
theorem z_v0v {M' : mD} {idx a ci d' : Nat} {fs rest : List Value} {h1 : mH} (hd : dkb M pc (.invokevirtual idx) 3 n = true) (hv : cV M.1.cls idx M' 0) (ho : h a = oB ci fs) (hci : (CL[ci]?).map (fun q => q.1) = some M'.1.cls) (hcat : (rest.map fun v => v.category).sum ≤ 8) (hrm : d' + 1 ≤ d) (hb : cs ≤ mc ∧ sl ≤ ms) (ev : EV G M' d' 0 0 [.ref a] h (RE (none) h1)) (kk : Z G M d mc ms cs sl n lv (rest) h1 Q) : Z G M d mc ms cs sl pc lv (.ref a :: rest) h Q :=
  z_callV (As := []) (rest := rest) hd hv ho hci rfl rfl hcat hrm hb.1 hb.2 ev (fun r h' hq => by obtain ⟨rfl, rfl⟩ := hq; exact kk)
theorem z_i0v {M' : mD} {idx a d' mc' ms' : Nat} {rest : List Value} {h1 : mH} (hd : dkb M pc (.invokespecial idx) 3 n = true) (hv : cI M.1.cls idx M' 0) (hM : M'.2.2.2 = none ∧ M'.1.name = "<init>") (hcat : (rest.map fun v => v.category).sum ≤ 8) (hrm : d' + 1 ≤ d) (hb : cs + mc' ≤ mc ∧ sl + ms' ≤ ms) (ev : EV G M' d' mc' ms' [.ref a] h (RE (none) h1)) (kk : Z G M d mc ms (cs + mc') (sl + ms') n lv (rest) h1 Q) : Z G M d mc ms cs sl pc lv (.ref a :: rest) h Q :=
  z_callI (As := []) (rest := rest) hd hv hM rfl rfl hcat hrm hb.1 hb.2 ev (fun r h' hq => by obtain ⟨rfl, rfl⟩ := hq; exact kk)
theorem z_v1 {M' : mD} {idx a ci d' : Nat} {fs rest : List Value} {v1 : Value} {v : Value} {h1 : mH} (hd : dkb M pc (.invokevirtual idx) 3 n = true) (hv : cV M.1.cls idx M' 1) (ho : h a = oB ci fs) (hci : (CL[ci]?).map (fun q => q.1) = some M'.1.cls) (hcat : (rest.map fun v => v.category).sum ≤ 8) (hrm : d' + 1 ≤ d) (hb : cs ≤ mc ∧ sl ≤ ms) (ev : EV G M' d' 0 0 [.ref a, v1] h (RE (some v) h1)) (kk : Z G M d mc ms cs sl n lv (v :: rest) h1 Q) : Z G M d mc ms cs sl pc lv (v1 :: .ref a :: rest) h Q :=
  z_callV (As := [v1]) (rest := rest) hd hv ho hci rfl rfl hcat hrm hb.1 hb.2 ev (fun r h' hq => by obtain ⟨rfl, rfl⟩ := hq; exact kk)
theorem z_i1 {M' : mD} {idx a d' mc' ms' : Nat} {rest : List Value} {v1 : Value} {v : Value} {h1 : mH} (hd : dkb M pc (.invokespecial idx) 3 n = true) (hv : cI M.1.cls idx M' 1) (hM : M'.2.2.2 = none ∧ M'.1.name = "<init>") (hcat : (rest.map fun v => v.category).sum ≤ 8) (hrm : d' + 1 ≤ d) (hb : cs + mc' ≤ mc ∧ sl + ms' ≤ ms) (ev : EV G M' d' mc' ms' [.ref a, v1] h (RE (some v) h1)) (kk : Z G M d mc ms (cs + mc') (sl + ms') n lv (v :: rest) h1 Q) : Z G M d mc ms cs sl pc lv (v1 :: .ref a :: rest) h Q :=
  z_callI (As := [v1]) (rest := rest) hd hv hM rfl rfl hcat hrm hb.1 hb.2 ev (fun r h' hq => by obtain ⟨rfl, rfl⟩ := hq; exact kk)
theorem z_s1 {M' : mD} {idx d' : Nat} {rest : List Value} {v1 : Value} {v : Value} {h1 : mH} (hd : dkb M pc (.invokestatic idx) 3 n = true) (hv : cS M.1.cls idx M' 1) (hcat : (rest.map fun v => v.category).sum ≤ 8) (hrm : d' + 1 ≤ d) (hb : cs ≤ mc ∧ sl ≤ ms) (ev : EV G M' d' 0 0 [v1] h (RE (some v) h1)) (kk : Z G M d mc ms cs sl n lv (v :: rest) h1 Q) : Z G M d mc ms cs sl pc lv (v1 :: rest) h Q :=
  z_callS (As := [v1]) (rest := rest) hd hv rfl rfl hcat hrm hb.1 hb.2 ev (fun r h' hq => by obtain ⟨rfl, rfl⟩ := hq; exact kk)
theorem z_v1v {M' : mD} {idx a ci d' : Nat} {fs rest : List Value} {v1 : Value} {h1 : mH} (hd : dkb M pc (.invokevirtual idx) 3 n = true) (hv : cV M.1.cls idx M' 1) (ho : h a = oB ci fs) (hci : (CL[ci]?).map (fun q => q.1) = some M'.1.cls) (hcat : (rest.map fun v => v.category).sum ≤ 8) (hrm : d' + 1 ≤ d) (hb : cs ≤ mc ∧ sl ≤ ms) (ev : EV G M' d' 0 0 [.ref a, v1] h (RE (none) h1)) (kk : Z G M d mc ms cs sl n lv (rest) h1 Q) : Z G M d mc ms cs sl pc lv (v1 :: .ref a :: rest) h Q :=
  z_callV (As := [v1]) (rest := rest) hd hv ho hci rfl rfl hcat hrm hb.1 hb.2 ev (fun r h' hq => by obtain ⟨rfl, rfl⟩ := hq; exact kk)
theorem z_i1v {M' : mD} {idx a d' mc' ms' : Nat} {rest : List Value} {v1 : Value} {h1 : mH} (hd : dkb M pc (.invokespecial idx) 3 n = true) (hv : cI M.1.cls idx M' 1) (hM : M'.2.2.2 = none ∧ M'.1.name = "<init>") (hcat : (rest.map fun v => v.category).sum ≤ 8) (hrm : d' + 1 ≤ d) (hb : cs + mc' ≤ mc ∧ sl + ms' ≤ ms) (ev : EV G M' d' mc' ms' [.ref a, v1] h (RE (none) h1)) (kk : Z G M d mc ms (cs + mc') (sl + ms') n lv (rest) h1 Q) : Z G M d mc ms cs sl pc lv (v1 :: .ref a :: rest) h Q :=
  z_callI (As := [v1]) (rest := rest) hd hv hM rfl rfl hcat hrm hb.1 hb.2 ev (fun r h' hq => by obtain ⟨rfl, rfl⟩ := hq; exact kk)
theorem z_s1v {M' : mD} {idx d' : Nat} {rest : List Value} {v1 : Value} {h1 : mH} (hd : dkb M pc (.invokestatic idx) 3 n = true) (hv : cS M.1.cls idx M' 1) (hcat : (rest.map fun v => v.category).sum ≤ 8) (hrm : d' + 1 ≤ d) (hb : cs ≤ mc ∧ sl ≤ ms) (ev : EV G M' d' 0 0 [v1] h (RE (none) h1)) (kk : Z G M d mc ms cs sl n lv (rest) h1 Q) : Z G M d mc ms cs sl pc lv (v1 :: rest) h Q :=
  z_callS (As := [v1]) (rest := rest) hd hv rfl rfl hcat hrm hb.1 hb.2 ev (fun r h' hq => by obtain ⟨rfl, rfl⟩ := hq; exact kk)
theorem z_v2 {M' : mD} {idx a ci d' : Nat} {fs rest : List Value} {v1 v2 : Value} {v : Value} {h1 : mH} (hd : dkb M pc (.invokevirtual idx) 3 n = true) (hv : cV M.1.cls idx M' 2) (ho : h a = oB ci fs) (hci : (CL[ci]?).map (fun q => q.1) = some M'.1.cls) (hcat : (rest.map fun v => v.category).sum ≤ 8) (hrm : d' + 1 ≤ d) (hb : cs ≤ mc ∧ sl ≤ ms) (ev : EV G M' d' 0 0 [.ref a, v1, v2] h (RE (some v) h1)) (kk : Z G M d mc ms cs sl n lv (v :: rest) h1 Q) : Z G M d mc ms cs sl pc lv (v2 :: v1 :: .ref a :: rest) h Q :=
  z_callV (As := [v1, v2]) (rest := rest) hd hv ho hci rfl rfl hcat hrm hb.1 hb.2 ev (fun r h' hq => by obtain ⟨rfl, rfl⟩ := hq; exact kk)
theorem z_i2 {M' : mD} {idx a d' mc' ms' : Nat} {rest : List Value} {v1 v2 : Value} {v : Value} {h1 : mH} (hd : dkb M pc (.invokespecial idx) 3 n = true) (hv : cI M.1.cls idx M' 2) (hM : M'.2.2.2 = none ∧ M'.1.name = "<init>") (hcat : (rest.map fun v => v.category).sum ≤ 8) (hrm : d' + 1 ≤ d) (hb : cs + mc' ≤ mc ∧ sl + ms' ≤ ms) (ev : EV G M' d' mc' ms' [.ref a, v1, v2] h (RE (some v) h1)) (kk : Z G M d mc ms (cs + mc') (sl + ms') n lv (v :: rest) h1 Q) : Z G M d mc ms cs sl pc lv (v2 :: v1 :: .ref a :: rest) h Q :=
  z_callI (As := [v1, v2]) (rest := rest) hd hv hM rfl rfl hcat hrm hb.1 hb.2 ev (fun r h' hq => by obtain ⟨rfl, rfl⟩ := hq; exact kk)
theorem z_s2 {M' : mD} {idx d' : Nat} {rest : List Value} {v1 v2 : Value} {v : Value} {h1 : mH} (hd : dkb M pc (.invokestatic idx) 3 n = true) (hv : cS M.1.cls idx M' 2) (hcat : (rest.map fun v => v.category).sum ≤ 8) (hrm : d' + 1 ≤ d) (hb : cs ≤ mc ∧ sl ≤ ms) (ev : EV G M' d' 0 0 [v1, v2] h (RE (some v) h1)) (kk : Z G M d mc ms cs sl n lv (v :: rest) h1 Q) : Z G M d mc ms cs sl pc lv (v2 :: v1 :: rest) h Q :=
  z_callS (As := [v1, v2]) (rest := rest) hd hv rfl rfl hcat hrm hb.1 hb.2 ev (fun r h' hq => by obtain ⟨rfl, rfl⟩ := hq; exact kk)
theorem z_v2v {M' : mD} {idx a ci d' : Nat} {fs rest : List Value} {v1 v2 : Value} {h1 : mH} (hd : dkb M pc (.invokevirtual idx) 3 n = true) (hv : cV M.1.cls idx M' 2) (ho : h a = oB ci fs) (hci : (CL[ci]?).map (fun q => q.1) = some M'.1.cls) (hcat : (rest.map fun v => v.category).sum ≤ 8) (hrm : d' + 1 ≤ d) (hb : cs ≤ mc ∧ sl ≤ ms) (ev : EV G M' d' 0 0 [.ref a, v1, v2] h (RE (none) h1)) (kk : Z G M d mc ms cs sl n lv (rest) h1 Q) : Z G M d mc ms cs sl pc lv (v2 :: v1 :: .ref a :: rest) h Q :=
  z_callV (As := [v1, v2]) (rest := rest) hd hv ho hci rfl rfl hcat hrm hb.1 hb.2 ev (fun r h' hq => by obtain ⟨rfl, rfl⟩ := hq; exact kk)
theorem z_i2v {M' : mD} {idx a d' mc' ms' : Nat} {rest : List Value} {v1 v2 : Value} {h1 : mH} (hd : dkb M pc (.invokespecial idx) 3 n = true) (hv : cI M.1.cls idx M' 2) (hM : M'.2.2.2 = none ∧ M'.1.name = "<init>") (hcat : (rest.map fun v => v.category).sum ≤ 8) (hrm : d' + 1 ≤ d) (hb : cs + mc' ≤ mc ∧ sl + ms' ≤ ms) (ev : EV G M' d' mc' ms' [.ref a, v1, v2] h (RE (none) h1)) (kk : Z G M d mc ms (cs + mc') (sl + ms') n lv (rest) h1 Q) : Z G M d mc ms cs sl pc lv (v2 :: v1 :: .ref a :: rest) h Q :=
  z_callI (As := [v1, v2]) (rest := rest) hd hv hM rfl rfl hcat hrm hb.1 hb.2 ev (fun r h' hq => by obtain ⟨rfl, rfl⟩ := hq; exact kk)
theorem z_s2v {M' : mD} {idx d' : Nat} {rest : List Value} {v1 v2 : Value} {h1 : mH} (hd : dkb M pc (.invokestatic idx) 3 n = true) (hv : cS M.1.cls idx M' 2) (hcat : (rest.map fun v => v.category).sum ≤ 8) (hrm : d' + 1 ≤ d) (hb : cs ≤ mc ∧ sl ≤ ms) (ev : EV G M' d' 0 0 [v1, v2] h (RE (none) h1)) (kk : Z G M d mc ms cs sl n lv (rest) h1 Q) : Z G M d mc ms cs sl pc lv (v2 :: v1 :: rest) h Q :=
  z_callS (As := [v1, v2]) (rest := rest) hd hv rfl rfl hcat hrm hb.1 hb.2 ev (fun r h' hq => by obtain ⟨rfl, rfl⟩ := hq; exact kk)
theorem z_v3 {M' : mD} {idx a ci d' : Nat} {fs rest : List Value} {v1 v2 v3 : Value} {v : Value} {h1 : mH} (hd : dkb M pc (.invokevirtual idx) 3 n = true) (hv : cV M.1.cls idx M' 3) (ho : h a = oB ci fs) (hci : (CL[ci]?).map (fun q => q.1) = some M'.1.cls) (hcat : (rest.map fun v => v.category).sum ≤ 8) (hrm : d' + 1 ≤ d) (hb : cs ≤ mc ∧ sl ≤ ms) (ev : EV G M' d' 0 0 [.ref a, v1, v2, v3] h (RE (some v) h1)) (kk : Z G M d mc ms cs sl n lv (v :: rest) h1 Q) : Z G M d mc ms cs sl pc lv (v3 :: v2 :: v1 :: .ref a :: rest) h Q :=
  z_callV (As := [v1, v2, v3]) (rest := rest) hd hv ho hci rfl rfl hcat hrm hb.1 hb.2 ev (fun r h' hq => by obtain ⟨rfl, rfl⟩ := hq; exact kk)
theorem z_i3 {M' : mD} {idx a d' mc' ms' : Nat} {rest : List Value} {v1 v2 v3 : Value} {v : Value} {h1 : mH} (hd : dkb M pc (.invokespecial idx) 3 n = true) (hv : cI M.1.cls idx M' 3) (hM : M'.2.2.2 = none ∧ M'.1.name = "<init>") (hcat : (rest.map fun v => v.category).sum ≤ 8) (hrm : d' + 1 ≤ d) (hb : cs + mc' ≤ mc ∧ sl + ms' ≤ ms) (ev : EV G M' d' mc' ms' [.ref a, v1, v2, v3] h (RE (some v) h1)) (kk : Z G M d mc ms (cs + mc') (sl + ms') n lv (v :: rest) h1 Q) : Z G M d mc ms cs sl pc lv (v3 :: v2 :: v1 :: .ref a :: rest) h Q :=
  z_callI (As := [v1, v2, v3]) (rest := rest) hd hv hM rfl rfl hcat hrm hb.1 hb.2 ev (fun r h' hq => by obtain ⟨rfl, rfl⟩ := hq; exact kk)
theorem z_s3 {M' : mD} {idx d' : Nat} {rest : List Value} {v1 v2 v3 : Value} {v : Value} {h1 : mH} (hd : dkb M pc (.invokestatic idx) 3 n = true) (hv : cS M.1.cls idx M' 3) (hcat : (rest.map fun v => v.category).sum ≤ 8) (hrm : d' + 1 ≤ d) (hb : cs ≤ mc ∧ sl ≤ ms) (ev : EV G M' d' 0 0 [v1, v2, v3] h (RE (some v) h1)) (kk : Z G M d mc ms cs sl n lv (v :: rest) h1 Q) : Z G M d mc ms cs sl pc lv (v3 :: v2 :: v1 :: rest) h Q :=
  z_callS (As := [v1, v2, v3]) (rest := rest) hd hv rfl rfl hcat hrm hb.1 hb.2 ev (fun r h' hq => by obtain ⟨rfl, rfl⟩ := hq; exact kk)
theorem z_v3v {M' : mD} {idx a ci d' : Nat} {fs rest : List Value} {v1 v2 v3 : Value} {h1 : mH} (hd : dkb M pc (.invokevirtual idx) 3 n = true) (hv : cV M.1.cls idx M' 3) (ho : h a = oB ci fs) (hci : (CL[ci]?).map (fun q => q.1) = some M'.1.cls) (hcat : (rest.map fun v => v.category).sum ≤ 8) (hrm : d' + 1 ≤ d) (hb : cs ≤ mc ∧ sl ≤ ms) (ev : EV G M' d' 0 0 [.ref a, v1, v2, v3] h (RE (none) h1)) (kk : Z G M d mc ms cs sl n lv (rest) h1 Q) : Z G M d mc ms cs sl pc lv (v3 :: v2 :: v1 :: .ref a :: rest) h Q :=
  z_callV (As := [v1, v2, v3]) (rest := rest) hd hv ho hci rfl rfl hcat hrm hb.1 hb.2 ev (fun r h' hq => by obtain ⟨rfl, rfl⟩ := hq; exact kk)
theorem z_i3v {M' : mD} {idx a d' mc' ms' : Nat} {rest : List Value} {v1 v2 v3 : Value} {h1 : mH} (hd : dkb M pc (.invokespecial idx) 3 n = true) (hv : cI M.1.cls idx M' 3) (hM : M'.2.2.2 = none ∧ M'.1.name = "<init>") (hcat : (rest.map fun v => v.category).sum ≤ 8) (hrm : d' + 1 ≤ d) (hb : cs + mc' ≤ mc ∧ sl + ms' ≤ ms) (ev : EV G M' d' mc' ms' [.ref a, v1, v2, v3] h (RE (none) h1)) (kk : Z G M d mc ms (cs + mc') (sl + ms') n lv (rest) h1 Q) : Z G M d mc ms cs sl pc lv (v3 :: v2 :: v1 :: .ref a :: rest) h Q :=
  z_callI (As := [v1, v2, v3]) (rest := rest) hd hv hM rfl rfl hcat hrm hb.1 hb.2 ev (fun r h' hq => by obtain ⟨rfl, rfl⟩ := hq; exact kk)
theorem z_s3v {M' : mD} {idx d' : Nat} {rest : List Value} {v1 v2 v3 : Value} {h1 : mH} (hd : dkb M pc (.invokestatic idx) 3 n = true) (hv : cS M.1.cls idx M' 3) (hcat : (rest.map fun v => v.category).sum ≤ 8) (hrm : d' + 1 ≤ d) (hb : cs ≤ mc ∧ sl ≤ ms) (ev : EV G M' d' 0 0 [v1, v2, v3] h (RE (none) h1)) (kk : Z G M d mc ms cs sl n lv (rest) h1 Q) : Z G M d mc ms cs sl pc lv (v3 :: v2 :: v1 :: rest) h Q :=
  z_callS (As := [v1, v2, v3]) (rest := rest) hd hv rfl rfl hcat hrm hb.1 hb.2 ev (fun r h' hq => by obtain ⟨rfl, rfl⟩ := hq; exact kk)
theorem z_v4 {M' : mD} {idx a ci d' : Nat} {fs rest : List Value} {v1 v2 v3 v4 : Value} {v : Value} {h1 : mH} (hd : dkb M pc (.invokevirtual idx) 3 n = true) (hv : cV M.1.cls idx M' 4) (ho : h a = oB ci fs) (hci : (CL[ci]?).map (fun q => q.1) = some M'.1.cls) (hcat : (rest.map fun v => v.category).sum ≤ 8) (hrm : d' + 1 ≤ d) (hb : cs ≤ mc ∧ sl ≤ ms) (ev : EV G M' d' 0 0 [.ref a, v1, v2, v3, v4] h (RE (some v) h1)) (kk : Z G M d mc ms cs sl n lv (v :: rest) h1 Q) : Z G M d mc ms cs sl pc lv (v4 :: v3 :: v2 :: v1 :: .ref a :: rest) h Q :=
  z_callV (As := [v1, v2, v3, v4]) (rest := rest) hd hv ho hci rfl rfl hcat hrm hb.1 hb.2 ev (fun r h' hq => by obtain ⟨rfl, rfl⟩ := hq; exact kk)
theorem z_i4 {M' : mD} {idx a d' mc' ms' : Nat} {rest : List Value} {v1 v2 v3 v4 : Value} {v : Value} {h1 : mH} (hd : dkb M pc (.invokespecial idx) 3 n = true) (hv : cI M.1.cls idx M' 4) (hM : M'.2.2.2 = none ∧ M'.1.name = "<init>") (hcat : (rest.map fun v => v.category).sum ≤ 8) (hrm : d' + 1 ≤ d) (hb : cs + mc' ≤ mc ∧ sl + ms' ≤ ms) (ev : EV G M' d' mc' ms' [.ref a, v1, v2, v3, v4] h (RE (some v) h1)) (kk : Z G M d mc ms (cs + mc') (sl + ms') n lv (v :: rest) h1 Q) : Z G M d mc ms cs sl pc lv (v4 :: v3 :: v2 :: v1 :: .ref a :: rest) h Q :=
  z_callI (As := [v1, v2, v3, v4]) (rest := rest) hd hv hM rfl rfl hcat hrm hb.1 hb.2 ev (fun r h' hq => by obtain ⟨rfl, rfl⟩ := hq; exact kk)
theorem z_s4 {M' : mD} {idx d' : Nat} {rest : List Value} {v1 v2 v3 v4 : Value} {v : Value} {h1 : mH} (hd : dkb M pc (.invokestatic idx) 3 n = true) (hv : cS M.1.cls idx M' 4) (hcat : (rest.map fun v => v.category).sum ≤ 8) (hrm : d' + 1 ≤ d) (hb : cs ≤ mc ∧ sl ≤ ms) (ev : EV G M' d' 0 0 [v1, v2, v3, v4] h (RE (some v) h1)) (kk : Z G M d mc ms cs sl n lv (v :: rest) h1 Q) : Z G M d mc ms cs sl pc lv (v4 :: v3 :: v2 :: v1 :: rest) h Q :=
  z_callS (As := [v1, v2, v3, v4]) (rest := rest) hd hv rfl rfl hcat hrm hb.1 hb.2 ev (fun r h' hq => by obtain ⟨rfl, rfl⟩ := hq; exact kk)
theorem z_v4v {M' : mD} {idx a ci d' : Nat} {fs rest : List Value} {v1 v2 v3 v4 : Value} {h1 : mH} (hd : dkb M pc (.invokevirtual idx) 3 n = true) (hv : cV M.1.cls idx M' 4) (ho : h a = oB ci fs) (hci : (CL[ci]?).map (fun q => q.1) = some M'.1.cls) (hcat : (rest.map fun v => v.category).sum ≤ 8) (hrm : d' + 1 ≤ d) (hb : cs ≤ mc ∧ sl ≤ ms) (ev : EV G M' d' 0 0 [.ref a, v1, v2, v3, v4] h (RE (none) h1)) (kk : Z G M d mc ms cs sl n lv (rest) h1 Q) : Z G M d mc ms cs sl pc lv (v4 :: v3 :: v2 :: v1 :: .ref a :: rest) h Q :=
  z_callV (As := [v1, v2, v3, v4]) (rest := rest) hd hv ho hci rfl rfl hcat hrm hb.1 hb.2 ev (fun r h' hq => by obtain ⟨rfl, rfl⟩ := hq; exact kk)
theorem z_i4v {M' : mD} {idx a d' mc' ms' : Nat} {rest : List Value} {v1 v2 v3 v4 : Value} {h1 : mH} (hd : dkb M pc (.invokespecial idx) 3 n = true) (hv : cI M.1.cls idx M' 4) (hM : M'.2.2.2 = none ∧ M'.1.name = "<init>") (hcat : (rest.map fun v => v.category).sum ≤ 8) (hrm : d' + 1 ≤ d) (hb : cs + mc' ≤ mc ∧ sl + ms' ≤ ms) (ev : EV G M' d' mc' ms' [.ref a, v1, v2, v3, v4] h (RE (none) h1)) (kk : Z G M d mc ms (cs + mc') (sl + ms') n lv (rest) h1 Q) : Z G M d mc ms cs sl pc lv (v4 :: v3 :: v2 :: v1 :: .ref a :: rest) h Q :=
  z_callI (As := [v1, v2, v3, v4]) (rest := rest) hd hv hM rfl rfl hcat hrm hb.1 hb.2 ev (fun r h' hq => by obtain ⟨rfl, rfl⟩ := hq; exact kk)
theorem z_s4v {M' : mD} {idx d' : Nat} {rest : List Value} {v1 v2 v3 v4 : Value} {h1 : mH} (hd : dkb M pc (.invokestatic idx) 3 n = true) (hv : cS M.1.cls idx M' 4) (hcat : (rest.map fun v => v.category).sum ≤ 8) (hrm : d' + 1 ≤ d) (hb : cs ≤ mc ∧ sl ≤ ms) (ev : EV G M' d' 0 0 [v1, v2, v3, v4] h (RE (none) h1)) (kk : Z G M d mc ms cs sl n lv (rest) h1 Q) : Z G M d mc ms cs sl pc lv (v4 :: v3 :: v2 :: v1 :: rest) h Q :=
  z_callS (As := [v1, v2, v3, v4]) (rest := rest) hd hv rfl rfl hcat hrm hb.1 hb.2 ev (fun r h' hq => by obtain ⟨rfl, rfl⟩ := hq; exact kk)
theorem z_v5 {M' : mD} {idx a ci d' : Nat} {fs rest : List Value} {v1 v2 v3 v4 v5 : Value} {v : Value} {h1 : mH} (hd : dkb M pc (.invokevirtual idx) 3 n = true) (hv : cV M.1.cls idx M' 5) (ho : h a = oB ci fs) (hci : (CL[ci]?).map (fun q => q.1) = some M'.1.cls) (hcat : (rest.map fun v => v.category).sum ≤ 8) (hrm : d' + 1 ≤ d) (hb : cs ≤ mc ∧ sl ≤ ms) (ev : EV G M' d' 0 0 [.ref a, v1, v2, v3, v4, v5] h (RE (some v) h1)) (kk : Z G M d mc ms cs sl n lv (v :: rest) h1 Q) : Z G M d mc ms cs sl pc lv (v5 :: v4 :: v3 :: v2 :: v1 :: .ref a :: rest) h Q :=
  z_callV (As := [v1, v2, v3, v4, v5]) (rest := rest) hd hv ho hci rfl rfl hcat hrm hb.1 hb.2 ev (fun r h' hq => by obtain ⟨rfl, rfl⟩ := hq; exact kk)
theorem z_i5 {M' : mD} {idx a d' mc' ms' : Nat} {rest : List Value} {v1 v2 v3 v4 v5 : Value} {v : Value} {h1 : mH} (hd : dkb M pc (.invokespecial idx) 3 n = true) (hv : cI M.1.cls idx M' 5) (hM : M'.2.2.2 = none ∧ M'.1.name = "<init>") (hcat : (rest.map fun v => v.category).sum ≤ 8) (hrm : d' + 1 ≤ d) (hb : cs + mc' ≤ mc ∧ sl + ms' ≤ ms) (ev : EV G M' d' mc' ms' [.ref a, v1, v2, v3, v4, v5] h (RE (some v) h1)) (kk : Z G M d mc ms (cs + mc') (sl + ms') n lv (v :: rest) h1 Q) : Z G M d mc ms cs sl pc lv (v5 :: v4 :: v3 :: v2 :: v1 :: .ref a :: rest) h Q :=
  z_callI (As := [v1, v2, v3, v4, v5]) (rest := rest) hd hv hM rfl rfl hcat hrm hb.1 hb.2 ev (fun r h' hq => by obtain ⟨rfl, rfl⟩ := hq; exact kk)
theorem z_s5 {M' : mD} {idx d' : Nat} {rest : List Value} {v1 v2 v3 v4 v5 : Value} {v : Value} {h1 : mH} (hd : dkb M pc (.invokestatic idx) 3 n = true) (hv : cS M.1.cls idx M' 5) (hcat : (rest.map fun v => v.category).sum ≤ 8) (hrm : d' + 1 ≤ d) (hb : cs ≤ mc ∧ sl ≤ ms) (ev : EV G M' d' 0 0 [v1, v2, v3, v4, v5] h (RE (some v) h1)) (kk : Z G M d mc ms cs sl n lv (v :: rest) h1 Q) : Z G M d mc ms cs sl pc lv (v5 :: v4 :: v3 :: v2 :: v1 :: rest) h Q :=
  z_callS (As := [v1, v2, v3, v4, v5]) (rest := rest) hd hv rfl rfl hcat hrm hb.1 hb.2 ev (fun r h' hq => by obtain ⟨rfl, rfl⟩ := hq; exact kk)
theorem z_v5v {M' : mD} {idx a ci d' : Nat} {fs rest : List Value} {v1 v2 v3 v4 v5 : Value} {h1 : mH} (hd : dkb M pc (.invokevirtual idx) 3 n = true) (hv : cV M.1.cls idx M' 5) (ho : h a = oB ci fs) (hci : (CL[ci]?).map (fun q => q.1) = some M'.1.cls) (hcat : (rest.map fun v => v.category).sum ≤ 8) (hrm : d' + 1 ≤ d) (hb : cs ≤ mc ∧ sl ≤ ms) (ev : EV G M' d' 0 0 [.ref a, v1, v2, v3, v4, v5] h (RE (none) h1)) (kk : Z G M d mc ms cs sl n lv (rest) h1 Q) : Z G M d mc ms cs sl pc lv (v5 :: v4 :: v3 :: v2 :: v1 :: .ref a :: rest) h Q :=
  z_callV (As := [v1, v2, v3, v4, v5]) (rest := rest) hd hv ho hci rfl rfl hcat hrm hb.1 hb.2 ev (fun r h' hq => by obtain ⟨rfl, rfl⟩ := hq; exact kk)
theorem z_i5v {M' : mD} {idx a d' mc' ms' : Nat} {rest : List Value} {v1 v2 v3 v4 v5 : Value} {h1 : mH} (hd : dkb M pc (.invokespecial idx) 3 n = true) (hv : cI M.1.cls idx M' 5) (hM : M'.2.2.2 = none ∧ M'.1.name = "<init>") (hcat : (rest.map fun v => v.category).sum ≤ 8) (hrm : d' + 1 ≤ d) (hb : cs + mc' ≤ mc ∧ sl + ms' ≤ ms) (ev : EV G M' d' mc' ms' [.ref a, v1, v2, v3, v4, v5] h (RE (none) h1)) (kk : Z G M d mc ms (cs + mc') (sl + ms') n lv (rest) h1 Q) : Z G M d mc ms cs sl pc lv (v5 :: v4 :: v3 :: v2 :: v1 :: .ref a :: rest) h Q :=
  z_callI (As := [v1, v2, v3, v4, v5]) (rest := rest) hd hv hM rfl rfl hcat hrm hb.1 hb.2 ev (fun r h' hq => by obtain ⟨rfl, rfl⟩ := hq; exact kk)
theorem z_s5v {M' : mD} {idx d' : Nat} {rest : List Value} {v1 v2 v3 v4 v5 : Value} {h1 : mH} (hd : dkb M pc (.invokestatic idx) 3 n = true) (hv : cS M.1.cls idx M' 5) (hcat : (rest.map fun v => v.category).sum ≤ 8) (hrm : d' + 1 ≤ d) (hb : cs ≤ mc ∧ sl ≤ ms) (ev : EV G M' d' 0 0 [v1, v2, v3, v4, v5] h (RE (none) h1)) (kk : Z G M d mc ms cs sl n lv (rest) h1 Q) : Z G M d mc ms cs sl pc lv (v5 :: v4 :: v3 :: v2 :: v1 :: rest) h Q :=
  z_callS (As := [v1, v2, v3, v4, v5]) (rest := rest) hd hv rfl rfl hcat hrm hb.1 hb.2 ev (fun r h' hq => by obtain ⟨rfl, rfl⟩ := hq; exact kk)
theorem z_ifb_eq {b : Bool} {off : Int} {tgt : Nat} (hd : djb M pc (.ifCond .eq off) 3 n off tgt = true) (kt : b = false → Z G M d mc ms cs sl tgt lv st h Q) (kf : b = true → Z G M d mc ms cs sl n lv st h Q) : Z G M d mc ms cs sl pc lv (.int (bI b) :: st) h Q := z_if_eq hd (fun q => kt (bI_eq0.mp q)) (fun q => kf (by cases b <;> first | rfl | exact absurd rfl q))
theorem z_ifb_ne {b : Bool} {off : Int} {tgt : Nat} (hd : djb M pc (.ifCond .ne off) 3 n off tgt = true) (kt : b = true → Z G M d mc ms cs sl tgt lv st h Q) (kf : b = false → Z G M d mc ms cs sl n lv st h Q) : Z G M d mc ms cs sl pc lv (.int (bI b) :: st) h Q := z_if_ne hd (fun q => kt (by cases b <;> first | rfl | exact absurd rfl q)) (fun q => kf (bI_eq0.mp q))
theorem z_top {x y : Int32} (e : x = y) (k : Z G M d mc ms cs sl pc lv (.int y :: st) h Q) : Z G M d mc ms cs sl pc lv (.int x :: st) h Q := e ▸ k
theorem z_heap {h1 : mH} (e : h = h1) (k : Z G M d mc ms cs sl pc lv st h1 Q) : Z G M d mc ms cs sl pc lv st h Q := e ▸ k
theorem ev_to {args : List Value} {v v' : Option Value} {h1 h1' : mH} (e : v = v') (e1 : h1 = h1') (k : EV G M d mc ms args h (RE v h1)) : EV G M d mc ms args h (RE v' h1') := e ▸ e1 ▸ k
end ZL
end
section
/-! RULES: branches that are known; loops -/
theorem loopZ {k : Nat} (P : Nat → Prop) (h0 : P k) (hs : ∀ u, u < k → P (u + 1) → P u) : ∀ u, u ≤ k → P u := by
  have key : ∀ r u, u + r = k → P u := by
    intro r
    induction r with
    | zero => intro u hu; rw [show u = k by omega]; exact h0
    | succ r ih => intro u hu; exact hs u (by omega) (ih (u + 1) (by omega))
  intro u hu
  exact key (k - u) u (by omega)
section ZD
variable {G : mG} {M : mD} {d mc ms cs sl pc n : Nat} {lv : List (Option Value)} {st : List Value} {h : mH} {Q : Option Value → mH → Prop}
theorem z_if_eq_t {x : Int32} {off : Int} {tgt : Nat} (hd : djb M pc (.ifCond .eq off) 3 n off tgt = true) (hc : x = 0) (k : Z G M d mc ms cs sl tgt lv st h Q) : Z G M d mc ms cs sl pc lv (.int x :: st) h Q := z_if_eq hd (fun _ => k) (fun q => absurd hc q)
theorem z_if_eq_f {x : Int32} {off : Int} {tgt : Nat} (hd : djb M pc (.ifCond .eq off) 3 n off tgt = true) (hc : ¬ x = 0) (k : Z G M d mc ms cs sl n lv st h Q) : Z G M d mc ms cs sl pc lv (.int x :: st) h Q := z_if_eq hd (fun q => absurd q hc) (fun _ => k)
theorem z_if_ne_t {x : Int32} {off : Int} {tgt : Nat} (hd : djb M pc (.ifCond .ne off) 3 n off tgt = true) (hc : ¬ x = 0) (k : Z G M d mc ms cs sl tgt lv st h Q) : Z G M d mc ms cs sl pc lv (.int x :: st) h Q := z_if_ne hd (fun _ => k) (fun q => absurd hc (fun z => z q))
theorem z_if_ne_f {x : Int32} {off : Int} {tgt : Nat} (hd : djb M pc (.ifCond .ne off) 3 n off tgt = true) (hc : x = 0) (k : Z G M d mc ms cs sl n lv st h Q) : Z G M d mc ms cs sl pc lv (.int x :: st) h Q := z_if_ne hd (fun q => absurd hc q) (fun _ => k)
theorem z_if_lt_t {x : Int32} {off : Int} {tgt : Nat} (hd : djb M pc (.ifCond .lt off) 3 n off tgt = true) (hc : x < 0) (k : Z G M d mc ms cs sl tgt lv st h Q) : Z G M d mc ms cs sl pc lv (.int x :: st) h Q := z_if_lt hd (fun _ => k) (fun q => absurd hc q)
theorem z_if_lt_f {x : Int32} {off : Int} {tgt : Nat} (hd : djb M pc (.ifCond .lt off) 3 n off tgt = true) (hc : ¬ x < 0) (k : Z G M d mc ms cs sl n lv st h Q) : Z G M d mc ms cs sl pc lv (.int x :: st) h Q := z_if_lt hd (fun q => absurd q hc) (fun _ => k)
theorem z_if_ge_t {x : Int32} {off : Int} {tgt : Nat} (hd : djb M pc (.ifCond .ge off) 3 n off tgt = true) (hc : 0 ≤ x) (k : Z G M d mc ms cs sl tgt lv st h Q) : Z G M d mc ms cs sl pc lv (.int x :: st) h Q := z_if_ge hd (fun _ => k) (fun q => absurd hc q)
theorem z_if_ge_f {x : Int32} {off : Int} {tgt : Nat} (hd : djb M pc (.ifCond .ge off) 3 n off tgt = true) (hc : ¬ 0 ≤ x) (k : Z G M d mc ms cs sl n lv st h Q) : Z G M d mc ms cs sl pc lv (.int x :: st) h Q := z_if_ge hd (fun q => absurd q hc) (fun _ => k)
theorem z_if_gt_t {x : Int32} {off : Int} {tgt : Nat} (hd : djb M pc (.ifCond .gt off) 3 n off tgt = true) (hc : 0 < x) (k : Z G M d mc ms cs sl tgt lv st h Q) : Z G M d mc ms cs sl pc lv (.int x :: st) h Q := z_if_gt hd (fun _ => k) (fun q => absurd hc q)
theorem z_if_gt_f {x : Int32} {off : Int} {tgt : Nat} (hd : djb M pc (.ifCond .gt off) 3 n off tgt = true) (hc : ¬ 0 < x) (k : Z G M d mc ms cs sl n lv st h Q) : Z G M d mc ms cs sl pc lv (.int x :: st) h Q := z_if_gt hd (fun q => absurd q hc) (fun _ => k)
theorem z_if_le_t {x : Int32} {off : Int} {tgt : Nat} (hd : djb M pc (.ifCond .le off) 3 n off tgt = true) (hc : x ≤ 0) (k : Z G M d mc ms cs sl tgt lv st h Q) : Z G M d mc ms cs sl pc lv (.int x :: st) h Q := z_if_le hd (fun _ => k) (fun q => absurd hc q)
theorem z_if_le_f {x : Int32} {off : Int} {tgt : Nat} (hd : djb M pc (.ifCond .le off) 3 n off tgt = true) (hc : ¬ x ≤ 0) (k : Z G M d mc ms cs sl n lv st h Q) : Z G M d mc ms cs sl pc lv (.int x :: st) h Q := z_if_le hd (fun q => absurd q hc) (fun _ => k)
theorem z_icmp_eq_t {x y : Int32} {off : Int} {tgt : Nat} (hd : djb M pc (.if_icmp .eq off) 3 n off tgt = true) (hc : x = y) (k : Z G M d mc ms cs sl tgt lv st h Q) : Z G M d mc ms cs sl pc lv (.int y :: .int x :: st) h Q := z_icmp_eq hd (fun _ => k) (fun q => absurd hc q)
theorem z_icmp_eq_f {x y : Int32} {off : Int} {tgt : Nat} (hd : djb M pc (.if_icmp .eq off) 3 n off tgt = true) (hc : ¬ x = y) (k : Z G M d mc ms cs sl n lv st h Q) : Z G M d mc ms cs sl pc lv (.int y :: .int x :: st) h Q := z_icmp_eq hd (fun q => absurd q hc) (fun _ => k)
theorem z_icmp_ne_t {x y : Int32} {off : Int} {tgt : Nat} (hd : djb M pc (.if_icmp .ne off) 3 n off tgt = true) (hc : ¬ x = y) (k : Z G M d mc ms cs sl tgt lv st h Q) : Z G M d mc ms cs sl pc lv (.int y :: .int x :: st) h Q := z_icmp_ne hd (fun _ => k) (fun q => absurd hc (fun z => z q))
theorem z_icmp_ne_f {x y : Int32} {off : Int} {tgt : Nat} (hd : djb M pc (.if_icmp .ne off) 3 n off tgt = true) (hc : x = y) (k : Z G M d mc ms cs sl n lv st h Q) : Z G M d mc ms cs sl pc lv (.int y :: .int x :: st) h Q := z_icmp_ne hd (fun q => absurd hc q) (fun _ => k)
theorem z_icmp_lt_t {x y : Int32} {off : Int} {tgt : Nat} (hd : djb M pc (.if_icmp .lt off) 3 n off tgt = true) (hc : x < y) (k : Z G M d mc ms cs sl tgt lv st h Q) : Z G M d mc ms cs sl pc lv (.int y :: .int x :: st) h Q := z_icmp_lt hd (fun _ => k) (fun q => absurd hc q)
theorem z_icmp_lt_f {x y : Int32} {off : Int} {tgt : Nat} (hd : djb M pc (.if_icmp .lt off) 3 n off tgt = true) (hc : ¬ x < y) (k : Z G M d mc ms cs sl n lv st h Q) : Z G M d mc ms cs sl pc lv (.int y :: .int x :: st) h Q := z_icmp_lt hd (fun q => absurd q hc) (fun _ => k)
theorem z_icmp_ge_t {x y : Int32} {off : Int} {tgt : Nat} (hd : djb M pc (.if_icmp .ge off) 3 n off tgt = true) (hc : y ≤ x) (k : Z G M d mc ms cs sl tgt lv st h Q) : Z G M d mc ms cs sl pc lv (.int y :: .int x :: st) h Q := z_icmp_ge hd (fun _ => k) (fun q => absurd hc q)
theorem z_icmp_ge_f {x y : Int32} {off : Int} {tgt : Nat} (hd : djb M pc (.if_icmp .ge off) 3 n off tgt = true) (hc : ¬ y ≤ x) (k : Z G M d mc ms cs sl n lv st h Q) : Z G M d mc ms cs sl pc lv (.int y :: .int x :: st) h Q := z_icmp_ge hd (fun q => absurd q hc) (fun _ => k)
theorem z_icmp_gt_t {x y : Int32} {off : Int} {tgt : Nat} (hd : djb M pc (.if_icmp .gt off) 3 n off tgt = true) (hc : y < x) (k : Z G M d mc ms cs sl tgt lv st h Q) : Z G M d mc ms cs sl pc lv (.int y :: .int x :: st) h Q := z_icmp_gt hd (fun _ => k) (fun q => absurd hc q)
theorem z_icmp_gt_f {x y : Int32} {off : Int} {tgt : Nat} (hd : djb M pc (.if_icmp .gt off) 3 n off tgt = true) (hc : ¬ y < x) (k : Z G M d mc ms cs sl n lv st h Q) : Z G M d mc ms cs sl pc lv (.int y :: .int x :: st) h Q := z_icmp_gt hd (fun q => absurd q hc) (fun _ => k)
theorem z_icmp_le_t {x y : Int32} {off : Int} {tgt : Nat} (hd : djb M pc (.if_icmp .le off) 3 n off tgt = true) (hc : x ≤ y) (k : Z G M d mc ms cs sl tgt lv st h Q) : Z G M d mc ms cs sl pc lv (.int y :: .int x :: st) h Q := z_icmp_le hd (fun _ => k) (fun q => absurd hc q)
theorem z_icmp_le_f {x y : Int32} {off : Int} {tgt : Nat} (hd : djb M pc (.if_icmp .le off) 3 n off tgt = true) (hc : ¬ x ≤ y) (k : Z G M d mc ms cs sl n lv st h Q) : Z G M d mc ms cs sl pc lv (.int y :: .int x :: st) h Q := z_icmp_le hd (fun q => absurd q hc) (fun _ => k)
theorem z_ifb_eq_t {b : Bool} {off : Int} {tgt : Nat} (hd : djb M pc (.ifCond .eq off) 3 n off tgt = true) (hc : b = false) (k : Z G M d mc ms cs sl tgt lv st h Q) : Z G M d mc ms cs sl pc lv (.int (bI b) :: st) h Q := z_ifb_eq hd (fun _ => k) (fun q => absurd (q.symm.trans hc) (by decide))
theorem z_ifb_eq_f {b : Bool} {off : Int} {tgt : Nat} (hd : djb M pc (.ifCond .eq off) 3 n off tgt = true) (hc : b = true) (k : Z G M d mc ms cs sl n lv st h Q) : Z G M d mc ms cs sl pc lv (.int (bI b) :: st) h Q := z_ifb_eq hd (fun q => absurd (q.symm.trans hc) (by decide)) (fun _ => k)
theorem z_ifb_ne_t {b : Bool} {off : Int} {tgt : Nat} (hd : djb M pc (.ifCond .ne off) 3 n off tgt = true) (hc : b = true) (k : Z G M d mc ms cs sl tgt lv st h Q) : Z G M d mc ms cs sl pc lv (.int (bI b) :: st) h Q := z_ifb_ne hd (fun _ => k) (fun q => absurd (q.symm.trans hc) (by decide))
theorem z_ifb_ne_f {b : Bool} {off : Int} {tgt : Nat} (hd : djb M pc (.ifCond .ne off) 3 n off tgt = true) (hc : b = false) (k : Z G M d mc ms cs sl n lv st h Q) : Z G M d mc ms cs sl pc lv (.int (bI b) :: st) h Q := z_ifb_ne hd (fun q => absurd (q.symm.trans hc) (by decide)) (fun _ => k)
theorem z_zr1 (hd : (decide (decode M.2.1 pc = .ok (.ireturn, 1)) && decide (M.2.2.2 = some .boolean)) = true) (hc : cs = mc) (hs : sl ≤ ms) (hq : Q (some (.int (bI true))) h) : Z G M d mc ms cs sl pc lv [.int 1] h Q := z_zret (b := true) hd rfl hc hs hq
theorem z_zr0 (hd : (decide (decode M.2.1 pc = .ok (.ireturn, 1)) && decide (M.2.2.2 = some .boolean)) = true) (hc : cs = mc) (hs : sl ≤ ms) (hq : Q (some (.int (bI false))) h) : Z G M d mc ms cs sl pc lv [.int 0] h Q := z_zret (b := false) hd rfl hc hs hq
theorem z_zrb {b : Bool} (hd : (decide (decode M.2.1 pc = .ok (.ireturn, 1)) && decide (M.2.2.2 = some .boolean)) = true) (hc : cs = mc) (hs : sl ≤ ms) (hq : Q (some (.int (bI b))) h) : Z G M d mc ms cs sl pc lv [.int (bI b)] h Q := z_zret (b := b) hd rfl hc hs hq
theorem ix_rng {i : Int32} {N : Nat} (h0 : ¬ i < 0) (h1 : ¬ nI N ≤ i) (hN : N < 2 ^ 31) : ix i i.toNatClampNeg N := by
  obtain ⟨j, hj, rfl, -, e, -⟩ := pk_mu h0 h1 hN
  exact e.symm ▸ ix_nI hj hN
/-- a heap that differs from another at three ids -/
theorem hu3_eq {h h1 : mH} {a b c : Nat} {x y z : mE} (hab : a ≠ b) (hac : a ≠ c) (hbc : b ≠ c) (hf : ∀ j, j ≠ a → j ≠ b → j ≠ c → h1 j = h j) (ha : h1 a = x) (hb : h1 b = y) (hc : h1 c = z) : h1 = hu (hu (hu h a x) b y) c z := by
  funext j
  by_cases e1 : j = a
  · subst e1; rw [hu_n hac, hu_n hab, hu_s, ha]
  · by_cases e2 : j = b
    · subst e2; rw [hu_n hbc, hu_s, hb]
    · by_cases e3 : j = c
      · subst e3; rw [hu_s, hc]
      · rw [hu_n e3, hu_n e2, hu_n e1, hf j e1 e2 e3]
theorem hu2_eq {h h1 : mH} {a b : Nat} {x y : mE} (hab : a ≠ b) (hf : ∀ j, j ≠ a → j ≠ b → h1 j = h j) (ha : h1 a = x) (hb : h1 b = y) : h1 = hu (hu h a x) b y := by
  funext j
  by_cases e1 : j = a
  · subst e1; rw [hu_n hab, hu_s, ha]
  · by_cases e2 : j = b
    · subst e2; rw [hu_s, hb]
    · rw [hu_n e2, hu_n e1, hf j e1 e2]
theorem ev_1_0 {v0 : Value} (c0 : v0.category = 1) (hy1 : plainName M.1.cls = true) (hy2 : Nat.ble 1 M.2.2.1 = true) (z : Z G M d mc ms 0 0 0 [some v0] [] h Q) : EV G M d mc ms [v0] h Q := ev_intro 0 (by simp [el, c0]) hy1 (by simpa [el, c0] using hy2) z
theorem ev_1_1 {v0 : Value} (c0 : v0.category = 1) (hy1 : plainName M.1.cls = true) (hy2 : Nat.ble 1 M.2.2.1 = true) (z : Z G M d mc ms 0 0 0 [some v0, none] [] h Q) : EV G M d mc ms [v0] h Q := ev_intro 1 (by simp [el, c0]) hy1 (by simpa [el, c0] using hy2) z
theorem ev_1_2 {v0 : Value} (c0 : v0.category = 1) (hy1 : plainName M.1.cls = true) (hy2 : Nat.ble 1 M.2.2.1 = true) (z : Z G M d mc ms 0 0 0 [some v0, none, none] [] h Q) : EV G M d mc ms [v0] h Q := ev_intro 2 (by simp [el, c0]) hy1 (by simpa [el, c0] using hy2) z
theorem ev_1_3 {v0 : Value} (c0 : v0.category = 1) (hy1 : plainName M.1.cls = true) (hy2 : Nat.ble 1 M.2.2.1 = true) (z : Z G M d mc ms 0 0 0 [some v0, none, none, none] [] h Q) : EV G M d mc ms [v0] h Q := ev_intro 3 (by simp [el, c0]) hy1 (by simpa [el, c0] using hy2) z
theorem ev_1_4 {v0 : Value} (c0 : v0.category = 1) (hy1 : plainName M.1.cls = true) (hy2 : Nat.ble 1 M.2.2.1 = true) (z : Z G M d mc ms 0 0 0 [some v0, none, none, none, none] [] h Q) : EV G M d mc ms [v0] h Q := ev_intro 4 (by simp [el, c0]) hy1 (by simpa [el, c0] using hy2) z
theorem ev_1_5 {v0 : Value} (c0 : v0.category = 1) (hy1 : plainName M.1.cls = true) (hy2 : Nat.ble 1 M.2.2.1 = true) (z : Z G M d mc ms 0 0 0 [some v0, none, none, none, none, none] [] h Q) : EV G M d mc ms [v0] h Q := ev_intro 5 (by simp [el, c0]) hy1 (by simpa [el, c0] using hy2) z
theorem ev_1_6 {v0 : Value} (c0 : v0.category = 1) (hy1 : plainName M.1.cls = true) (hy2 : Nat.ble 1 M.2.2.1 = true) (z : Z G M d mc ms 0 0 0 [some v0, none, none, none, none, none, none] [] h Q) : EV G M d mc ms [v0] h Q := ev_intro 6 (by simp [el, c0]) hy1 (by simpa [el, c0] using hy2) z
theorem ev_1_7 {v0 : Value} (c0 : v0.category = 1) (hy1 : plainName M.1.cls = true) (hy2 : Nat.ble 1 M.2.2.1 = true) (z : Z G M d mc ms 0 0 0 [some v0, none, none, none, none, none, none, none] [] h Q) : EV G M d mc ms [v0] h Q := ev_intro 7 (by simp [el, c0]) hy1 (by simpa [el, c0] using hy2) z
theorem ev_1_8 {v0 : Value} (c0 : v0.category = 1) (hy1 : plainName M.1.cls = true) (hy2 : Nat.ble 1 M.2.2.1 = true) (z : Z G M d mc ms 0 0 0 [some v0, none, none, none, none, none, none, none, none] [] h Q) : EV G M d mc ms [v0] h Q := ev_intro 8 (by simp [el, c0]) hy1 (by simpa [el, c0] using hy2) z
theorem ev_1_9 {v0 : Value} (c0 : v0.category = 1) (hy1 : plainName M.1.cls = true) (hy2 : Nat.ble 1 M.2.2.1 = true) (z : Z G M d mc ms 0 0 0 [some v0, none, none, none, none, none, none, none, none, none] [] h Q) : EV G M d mc ms [v0] h Q := ev_intro 9 (by simp [el, c0]) hy1 (by simpa [el, c0] using hy2) z
theorem ev_1_10 {v0 : Value} (c0 : v0.category = 1) (hy1 : plainName M.1.cls = true) (hy2 : Nat.ble 1 M.2.2.1 = true) (z : Z G M d mc ms 0 0 0 [some v0, none, none, none, none, none, none, none, none, none, none] [] h Q) : EV G M d mc ms [v0] h Q := ev_intro 10 (by simp [el, c0]) hy1 (by simpa [el, c0] using hy2) z
theorem ev_2_0 {v0 v1 : Value} (c0 : v0.category = 1) (c1 : v1.category = 1) (hy1 : plainName M.1.cls = true) (hy2 : Nat.ble 2 M.2.2.1 = true) (z : Z G M d mc ms 0 0 0 [some v0, some v1] [] h Q) : EV G M d mc ms [v0, v1] h Q := ev_intro 0 (by simp [el, c0, c1]) hy1 (by simpa [el, c0, c1] using hy2) z
theorem ev_2_1 {v0 v1 : Value} (c0 : v0.category = 1) (c1 : v1.category = 1) (hy1 : plainName M.1.cls = true) (hy2 : Nat.ble 2 M.2.2.1 = true) (z : Z G M d mc ms 0 0 0 [some v0, some v1, none] [] h Q) : EV G M d mc ms [v0, v1] h Q := ev_intro 1 (by simp [el, c0, c1]) hy1 (by simpa [el, c0, c1] using hy2) z
theorem ev_2_2 {v0 v1 : Value} (c0 : v0.category = 1) (c1 : v1.category = 1) (hy1 : plainName M.1.cls = true) (hy2 : Nat.ble 2 M.2.2.1 = true) (z : Z G M d mc ms 0 0 0 [some v0, some v1, none, none] [] h Q) : EV G M d mc ms [v0, v1] h Q := ev_intro 2 (by simp [el, c0, c1]) hy1 (by simpa [el, c0, c1] using hy2) z
theorem ev_2_3 {v0 v1 : Value} (c0 : v0.category = 1) (c1 : v1.category = 1) (hy1 : plainName M.1.cls = true) (hy2 : Nat.ble 2 M.2.2.1 = true) (z : Z G M d mc ms 0 0 0 [some v0, some v1, none, none, none] [] h Q) : EV G M d mc ms [v0, v1] h Q := ev_intro 3 (by simp [el, c0, c1]) hy1 (by simpa [el, c0, c1] using hy2) z
theorem ev_2_4 {v0 v1 : Value} (c0 : v0.category = 1) (c1 : v1.category = 1) (hy1 : plainName M.1.cls = true) (hy2 : Nat.ble 2 M.2.2.1 = true) (z : Z G M d mc ms 0 0 0 [some v0, some v1, none, none, none, none] [] h Q) : EV G M d mc ms [v0, v1] h Q := ev_intro 4 (by simp [el, c0, c1]) hy1 (by simpa [el, c0, c1] using hy2) z
theorem ev_2_5 {v0 v1 : Value} (c0 : v0.category = 1) (c1 : v1.category = 1) (hy1 : plainName M.1.cls = true) (hy2 : Nat.ble 2 M.2.2.1 = true) (z : Z G M d mc ms 0 0 0 [some v0, some v1, none, none, none, none, none] [] h Q) : EV G M d mc ms [v0, v1] h Q := ev_intro 5 (by simp [el, c0, c1]) hy1 (by simpa [el, c0, c1] using hy2) z
theorem ev_2_6 {v0 v1 : Value} (c0 : v0.category = 1) (c1 : v1.category = 1) (hy1 : plainName M.1.cls = true) (hy2 : Nat.ble 2 M.2.2.1 = true) (z : Z G M d mc ms 0 0 0 [some v0, some v1, none, none, none, none, none, none] [] h Q) : EV G M d mc ms [v0, v1] h Q := ev_intro 6 (by simp [el, c0, c1]) hy1 (by simpa [el, c0, c1] using hy2) z
theorem ev_2_7 {v0 v1 : Value} (c0 : v0.category = 1) (c1 : v1.category = 1) (hy1 : plainName M.1.cls = true) (hy2 : Nat.ble 2 M.2.2.1 = true) (z : Z G M d mc ms 0 0 0 [some v0, some v1, none, none, none, none, none, none, none] [] h Q) : EV G M d mc ms [v0, v1] h Q := ev_intro 7 (by simp [el, c0, c1]) hy1 (by simpa [el, c0, c1] using hy2) z
theorem ev_2_8 {v0 v1 : Value} (c0 : v0.category = 1) (c1 : v1.category = 1) (hy1 : plainName M.1.cls = true) (hy2 : Nat.ble 2 M.2.2.1 = true) (z : Z G M d mc ms 0 0 0 [some v0, some v1, none, none, none, none, none, none, none, none] [] h Q) : EV G M d mc ms [v0, v1] h Q := ev_intro 8 (by simp [el, c0, c1]) hy1 (by simpa [el, c0, c1] using hy2) z
theorem ev_2_9 {v0 v1 : Value} (c0 : v0.category = 1) (c1 : v1.category = 1) (hy1 : plainName M.1.cls = true) (hy2 : Nat.ble 2 M.2.2.1 = true) (z : Z G M d mc ms 0 0 0 [some v0, some v1, none, none, none, none, none, none, none, none, none] [] h Q) : EV G M d mc ms [v0, v1] h Q := ev_intro 9 (by simp [el, c0, c1]) hy1 (by simpa [el, c0, c1] using hy2) z
theorem ev_2_10 {v0 v1 : Value} (c0 : v0.category = 1) (c1 : v1.category = 1) (hy1 : plainName M.1.cls = true) (hy2 : Nat.ble 2 M.2.2.1 = true) (z : Z G M d mc ms 0 0 0 [some v0, some v1, none, none, none, none, none, none, none, none, none, none] [] h Q) : EV G M d mc ms [v0, v1] h Q := ev_intro 10 (by simp [el, c0, c1]) hy1 (by simpa [el, c0, c1] using hy2) z
theorem ev_3_0 {v0 v1 v2 : Value} (c0 : v0.category = 1) (c1 : v1.category = 1) (c2 : v2.category = 1) (hy1 : plainName M.1.cls = true) (hy2 : Nat.ble 3 M.2.2.1 = true) (z : Z G M d mc ms 0 0 0 [some v0, some v1, some v2] [] h Q) : EV G M d mc ms [v0, v1, v2] h Q := ev_intro 0 (by simp [el, c0, c1, c2]) hy1 (by simpa [el, c0, c1, c2] using hy2) z
theorem ev_3_1 {v0 v1 v2 : Value} (c0 : v0.category = 1) (c1 : v1.category = 1) (c2 : v2.category = 1) (hy1 : plainName M.1.cls = true) (hy2 : Nat.ble 3 M.2.2.1 = true) (z : Z G M d mc ms 0 0 0 [some v0, some v1, some v2, none] [] h Q) : EV G M d mc ms [v0, v1, v2] h Q := ev_intro 1 (by simp [el, c0, c1, c2]) hy1 (by simpa [el, c0, c1, c2] using hy2) z
theorem ev_3_2 {v0 v1 v2 : Value} (c0 : v0.category = 1) (c1 : v1.category = 1) (c2 : v2.category = 1) (hy1 : plainName M.1.cls = true) (hy2 : Nat.ble 3 M.2.2.1 = true) (z : Z G M d mc ms 0 0 0 [some v0, some v1, some v2, none, none] [] h Q) : EV G M d mc ms [v0, v1, v2] h Q := ev_intro 2 (by simp [el, c0, c1, c2]) hy1 (by simpa [el, c0, c1, c2] using hy2) z
theorem ev_3_3 {v0 v1 v2 : Value} (c0 : v0.category = 1) (c1 : v1.category = 1) (c2 : v2.category = 1) (hy1 : plainName M.1.cls = true) (hy2 : Nat.ble 3 M.2.2.1 = true) (z : Z G M d mc ms 0 0 0 [some v0, some v1, some v2, none, none, none] [] h Q) : EV G M d mc ms [v0, v1, v2] h Q := ev_intro 3 (by simp [el, c0, c1, c2]) hy1 (by simpa [el, c0, c1, c2] using hy2) z
theorem ev_3_4 {v0 v1 v2 : Value} (c0 : v0.category = 1) (c1 : v1.category = 1) (c2 : v2.category = 1) (hy1 : plainName M.1.cls = true) (hy2 : Nat.ble 3 M.2.2.1 = true) (z : Z G M d mc ms 0 0 0 [some v0, some v1, some v2, none, none, none, none] [] h Q) : EV G M d mc ms [v0, v1, v2] h Q := ev_intro 4 (by simp [el, c0, c1, c2]) hy1 (by simpa [el, c0, c1, c2] using hy2) z
theorem ev_3_5 {v0 v1 v2 : Value} (c0 : v0.category = 1) (c1 : v1.category = 1) (c2 : v2.category = 1) (hy1 : plainName M.1.cls = true) (hy2 : Nat.ble 3 M.2.2.1 = true) (z : Z G M d mc ms 0 0 0 [some v0, some v1, some v2, none, none, none, none, none] [] h Q) : EV G M d mc ms [v0, v1, v2] h Q := ev_intro 5 (by simp [el, c0, c1, c2]) hy1 (by simpa [el, c0, c1, c2] using hy2) z
theorem ev_3_6 {v0 v1 v2 : Value} (c0 : v0.category = 1) (c1 : v1.category = 1) (c2 : v2.category = 1) (hy1 : plainName M.1.cls = true) (hy2 : Nat.ble 3 M.2.2.1 = true) (z : Z G M d mc ms 0 0 0 [some v0, some v1, some v2, none, none, none, none, none, none] [] h Q) : EV G M d mc ms [v0, v1, v2] h Q := ev_intro 6 (by simp [el, c0, c1, c2]) hy1 (by simpa [el, c0, c1, c2] using hy2) z
theorem ev_3_7 {v0 v1 v2 : Value} (c0 : v0.category = 1) (c1 : v1.category = 1) (c2 : v2.category = 1) (hy1 : plainName M.1.cls = true) (hy2 : Nat.ble 3 M.2.2.1 = true) (z : Z G M d mc ms 0 0 0 [some v0, some v1, some v2, none, none, none, none, none, none, none] [] h Q) : EV G M d mc ms [v0, v1, v2] h Q := ev_intro 7 (by simp [el, c0, c1, c2]) hy1 (by simpa [el, c0, c1, c2] using hy2) z
theorem ev_3_8 {v0 v1 v2 : Value} (c0 : v0.category = 1) (c1 : v1.category = 1) (c2 : v2.category = 1) (hy1 : plainName M.1.cls = true) (hy2 : Nat.ble 3 M.2.2.1 = true) (z : Z G M d mc ms 0 0 0 [some v0, some v1, some v2, none, none, none, none, none, none, none, none] [] h Q) : EV G M d mc ms [v0, v1, v2] h Q := ev_intro 8 (by simp [el, c0, c1, c2]) hy1 (by simpa [el, c0, c1, c2] using hy2) z
theorem ev_3_9 {v0 v1 v2 : Value} (c0 : v0.category = 1) (c1 : v1.category = 1) (c2 : v2.category = 1) (hy1 : plainName M.1.cls = true) (hy2 : Nat.ble 3 M.2.2.1 = true) (z : Z G M d mc ms 0 0 0 [some v0, some v1, some v2, none, none, none, none, none, none, none, none, none] [] h Q) : EV G M d mc ms [v0, v1, v2] h Q := ev_intro 9 (by simp [el, c0, c1, c2]) hy1 (by simpa [el, c0, c1, c2] using hy2) z
theorem ev_3_10 {v0 v1 v2 : Value} (c0 : v0.category = 1) (c1 : v1.category = 1) (c2 : v2.category = 1) (hy1 : plainName M.1.cls = true) (hy2 : Nat.ble 3 M.2.2.1 = true) (z : Z G M d mc ms 0 0 0 [some v0, some v1, some v2, none, none, none, none, none, none, none, none, none, none] [] h Q) : EV G M d mc ms [v0, v1, v2] h Q := ev_intro 10 (by simp [el, c0, c1, c2]) hy1 (by simpa [el, c0, c1, c2] using hy2) z
theorem ev_4_0 {v0 v1 v2 v3 : Value} (c0 : v0.category = 1) (c1 : v1.category = 1) (c2 : v2.category = 1) (c3 : v3.category = 1) (hy1 : plainName M.1.cls = true) (hy2 : Nat.ble 4 M.2.2.1 = true) (z : Z G M d mc ms 0 0 0 [some v0, some v1, some v2, some v3] [] h Q) : EV G M d mc ms [v0, v1, v2, v3] h Q := ev_intro 0 (by simp [el, c0, c1, c2, c3]) hy1 (by simpa [el, c0, c1, c2, c3] using hy2) z
theorem ev_4_1 {v0 v1 v2 v3 : Value} (c0 : v0.category = 1) (c1 : v1.category = 1) (c2 : v2.category = 1) (c3 : v3.category = 1) (hy1 : plainName M.1.cls = true) (hy2 : Nat.ble 4 M.2.2.1 = true) (z : Z G M d mc ms 0 0 0 [some v0, some v1, some v2, some v3, none] [] h Q) : EV G M d mc ms [v0, v1, v2, v3] h Q := ev_intro 1 (by simp [el, c0, c1, c2, c3]) hy1 (by simpa [el, c0, c1, c2, c3] using hy2) z
theorem ev_4_2 {v0 v1 v2 v3 : Value} (c0 : v0.category = 1) (c1 : v1.category = 1) (c2 : v2.category = 1) (c3 : v3.category = 1) (hy1 : plainName M.1.cls = true) (hy2 : Nat.ble 4 M.2.2.1 = true) (z : Z G M d mc ms 0 0 0 [some v0, some v1, some v2, some v3, none, none] [] h Q) : EV G M d mc ms [v0, v1, v2, v3] h Q := ev_intro 2 (by simp [el, c0, c1, c2, c3]) hy1 (by simpa [el, c0, c1, c2, c3] using hy2) z
theorem ev_4_3 {v0 v1 v2 v3 : Value} (c0 : v0.category = 1) (c1 : v1.category = 1) (c2 : v2.category = 1) (c3 : v3.category = 1) (hy1 : plainName M.1.cls = true) (hy2 : Nat.ble 4 M.2.2.1 = true) (z : Z G M d mc ms 0 0 0 [some v0, some v1, some v2, some v3, none, none, none] [] h Q) : EV G M d mc ms [v0, v1, v2, v3] h Q := ev_intro 3 (by simp [el, c0, c1, c2, c3]) hy1 (by simpa [el, c0, c1, c2, c3] using hy2) z
theorem ev_4_4 {v0 v1 v2 v3 : Value} (c0 : v0.category = 1) (c1 : v1.category = 1) (c2 : v2.category = 1) (c3 : v3.category = 1) (hy1 : plainName M.1.cls = true) (hy2 : Nat.ble 4 M.2.2.1 = true) (z : Z G M d mc ms 0 0 0 [some v0, some v1, some v2, some v3, none, none, none, none] [] h Q) : EV G M d mc ms [v0, v1, v2, v3] h Q := ev_intro 4 (by simp [el, c0, c1, c2, c3]) hy1 (by simpa [el, c0, c1, c2, c3] using hy2) z
theorem ev_4_5 {v0 v1 v2 v3 : Value} (c0 : v0.category = 1) (c1 : v1.category = 1) (c2 : v2.category = 1) (c3 : v3.category = 1) (hy1 : plainName M.1.cls = true) (hy2 : Nat.ble 4 M.2.2.1 = true) (z : Z G M d mc ms 0 0 0 [some v0, some v1, some v2, some v3, none, none, none, none, none] [] h Q) : EV G M d mc ms [v0, v1, v2, v3] h Q := ev_intro 5 (by simp [el, c0, c1, c2, c3]) hy1 (by simpa [el, c0, c1, c2, c3] using hy2) z
theorem ev_4_6 {v0 v1 v2 v3 : Value} (c0 : v0.category = 1) (c1 : v1.category = 1) (c2 : v2.category = 1) (c3 : v3.category = 1) (hy1 : plainName M.1.cls = true) (hy2 : Nat.ble 4 M.2.2.1 = true) (z : Z G M d mc ms 0 0 0 [some v0, some v1, some v2, some v3, none, none, none, none, none, none] [] h Q) : EV G M d mc ms [v0, v1, v2, v3] h Q := ev_intro 6 (by simp [el, c0, c1, c2, c3]) hy1 (by simpa [el, c0, c1, c2, c3] using hy2) z
theorem ev_4_7 {v0 v1 v2 v3 : Value} (c0 : v0.category = 1) (c1 : v1.category = 1) (c2 : v2.category = 1) (c3 : v3.category = 1) (hy1 : plainName M.1.cls = true) (hy2 : Nat.ble 4 M.2.2.1 = true) (z : Z G M d mc ms 0 0 0 [some v0, some v1, some v2, some v3, none, none, none, none, none, none, none] [] h Q) : EV G M d mc ms [v0, v1, v2, v3] h Q := ev_intro 7 (by simp [el, c0, c1, c2, c3]) hy1 (by simpa [el, c0, c1, c2, c3] using hy2) z
theorem ev_4_8 {v0 v1 v2 v3 : Value} (c0 : v0.category = 1) (c1 : v1.category = 1) (c2 : v2.category = 1) (c3 : v3.category = 1) (hy1 : plainName M.1.cls = true) (hy2 : Nat.ble 4 M.2.2.1 = true) (z : Z G M d mc ms 0 0 0 [some v0, some v1, some v2, some v3, none, none, none, none, none, none, none, none] [] h Q) : EV G M d mc ms [v0, v1, v2, v3] h Q := ev_intro 8 (by simp [el, c0, c1, c2, c3]) hy1 (by simpa [el, c0, c1, c2, c3] using hy2) z
theorem ev_4_9 {v0 v1 v2 v3 : Value} (c0 : v0.category = 1) (c1 : v1.category = 1) (c2 : v2.category = 1) (c3 : v3.category = 1) (hy1 : plainName M.1.cls = true) (hy2 : Nat.ble 4 M.2.2.1 = true) (z : Z G M d mc ms 0 0 0 [some v0, some v1, some v2, some v3, none, none, none, none, none, none, none, none, none] [] h Q) : EV G M d mc ms [v0, v1, v2, v3] h Q := ev_intro 9 (by simp [el, c0, c1, c2, c3]) hy1 (by simpa [el, c0, c1, c2, c3] using hy2) z
theorem ev_4_10 {v0 v1 v2 v3 : Value} (c0 : v0.category = 1) (c1 : v1.category = 1) (c2 : v2.category = 1) (c3 : v3.category = 1) (hy1 : plainName M.1.cls = true) (hy2 : Nat.ble 4 M.2.2.1 = true) (z : Z G M d mc ms 0 0 0 [some v0, some v1, some v2, some v3, none, none, none, none, none, none, none, none, none, none] [] h Q) : EV G M d mc ms [v0, v1, v2, v3] h Q := ev_intro 10 (by simp [el, c0, c1, c2, c3]) hy1 (by simpa [el, c0, c1, c2, c3] using hy2) z
theorem ev_5_0 {v0 v1 v2 v3 v4 : Value} (c0 : v0.category = 1) (c1 : v1.category = 1) (c2 : v2.category = 1) (c3 : v3.category = 1) (c4 : v4.category = 1) (hy1 : plainName M.1.cls = true) (hy2 : Nat.ble 5 M.2.2.1 = true) (z : Z G M d mc ms 0 0 0 [some v0, some v1, some v2, some v3, some v4] [] h Q) : EV G M d mc ms [v0, v1, v2, v3, v4] h Q := ev_intro 0 (by simp [el, c0, c1, c2, c3, c4]) hy1 (by simpa [el, c0, c1, c2, c3, c4] using hy2) z
theorem ev_5_1 {v0 v1 v2 v3 v4 : Value} (c0 : v0.category = 1) (c1 : v1.category = 1) (c2 : v2.category = 1) (c3 : v3.category = 1) (c4 : v4.category = 1) (hy1 : plainName M.1.cls = true) (hy2 : Nat.ble 5 M.2.2.1 = true) (z : Z G M d mc ms 0 0 0 [some v0, some v1, some v2, some v3, some v4, none] [] h Q) : EV G M d mc ms [v0, v1, v2, v3, v4] h Q := ev_intro 1 (by simp [el, c0, c1, c2, c3, c4]) hy1 (by simpa [el, c0, c1, c2, c3, c4] using hy2) z
theorem ev_5_2 {v0 v1 v2 v3 v4 : Value} (c0 : v0.category = 1) (c1 : v1.category = 1) (c2 : v2.category = 1) (c3 : v3.category = 1) (c4 : v4.category = 1) (hy1 : plainName M.1.cls = true) (hy2 : Nat.ble 5 M.2.2.1 = true) (z : Z G M d mc ms 0 0 0 [some v0, some v1, some v2, some v3, some v4, none, none] [] h Q) : EV G M d mc ms [v0, v1, v2, v3, v4] h Q := ev_intro 2 (by simp [el, c0, c1, c2, c3, c4]) hy1 (by simpa [el, c0, c1, c2, c3, c4] using hy2) z
theorem ev_5_3 {v0 v1 v2 v3 v4 : Value} (c0 : v0.category = 1) (c1 : v1.category = 1) (c2 : v2.category = 1) (c3 : v3.category = 1) (c4 : v4.category = 1) (hy1 : plainName M.1.cls = true) (hy2 : Nat.ble 5 M.2.2.1 = true) (z : Z G M d mc ms 0 0 0 [some v0, some v1, some v2, some v3, some v4, none, none, none] [] h Q) : EV G M d mc ms [v0, v1, v2, v3, v4] h Q := ev_intro 3 (by simp [el, c0, c1, c2, c3, c4]) hy1 (by simpa [el, c0, c1, c2, c3, c4] using hy2) z
theorem ev_5_4 {v0 v1 v2 v3 v4 : Value} (c0 : v0.category = 1) (c1 : v1.category = 1) (c2 : v2.category = 1) (c3 : v3.category = 1) (c4 : v4.category = 1) (hy1 : plainName M.1.cls = true) (hy2 : Nat.ble 5 M.2.2.1 = true) (z : Z G M d mc ms 0 0 0 [some v0, some v1, some v2, some v3, some v4, none, none, none, none] [] h Q) : EV G M d mc ms [v0, v1, v2, v3, v4] h Q := ev_intro 4 (by simp [el, c0, c1, c2, c3, c4]) hy1 (by simpa [el, c0, c1, c2, c3, c4] using hy2) z
theorem ev_5_5 {v0 v1 v2 v3 v4 : Value} (c0 : v0.category = 1) (c1 : v1.category = 1) (c2 : v2.category = 1) (c3 : v3.category = 1) (c4 : v4.category = 1) (hy1 : plainName M.1.cls = true) (hy2 : Nat.ble 5 M.2.2.1 = true) (z : Z G M d mc ms 0 0 0 [some v0, some v1, some v2, some v3, some v4, none, none, none, none, none] [] h Q) : EV G M d mc ms [v0, v1, v2, v3, v4] h Q := ev_intro 5 (by simp [el, c0, c1, c2, c3, c4]) hy1 (by simpa [el, c0, c1, c2, c3, c4] using hy2) z
theorem ev_5_6 {v0 v1 v2 v3 v4 : Value} (c0 : v0.category = 1) (c1 : v1.category = 1) (c2 : v2.category = 1) (c3 : v3.category = 1) (c4 : v4.category = 1) (hy1 : plainName M.1.cls = true) (hy2 : Nat.ble 5 M.2.2.1 = true) (z : Z G M d mc ms 0 0 0 [some v0, some v1, some v2, some v3, some v4, none, none, none, none, none, none] [] h Q) : EV G M d mc ms [v0, v1, v2, v3, v4] h Q := ev_intro 6 (by simp [el, c0, c1, c2, c3, c4]) hy1 (by simpa [el, c0, c1, c2, c3, c4] using hy2) z
theorem ev_5_7 {v0 v1 v2 v3 v4 : Value} (c0 : v0.category = 1) (c1 : v1.category = 1) (c2 : v2.category = 1) (c3 : v3.category = 1) (c4 : v4.category = 1) (hy1 : plainName M.1.cls = true) (hy2 : Nat.ble 5 M.2.2.1 = true) (z : Z G M d mc ms 0 0 0 [some v0, some v1, some v2, some v3, some v4, none, none, none, none, none, none, none] [] h Q) : EV G M d mc ms [v0, v1, v2, v3, v4] h Q := ev_intro 7 (by simp [el, c0, c1, c2, c3, c4]) hy1 (by simpa [el, c0, c1, c2, c3, c4] using hy2) z
theorem ev_5_8 {v0 v1 v2 v3 v4 : Value} (c0 : v0.category = 1) (c1 : v1.category = 1) (c2 : v2.category = 1) (c3 : v3.category = 1) (c4 : v4.category = 1) (hy1 : plainName M.1.cls = true) (hy2 : Nat.ble 5 M.2.2.1 = true) (z : Z G M d mc ms 0 0 0 [some v0, some v1, some v2, some v3, some v4, none, none, none, none, none, none, none, none] [] h Q) : EV G M d mc ms [v0, v1, v2, v3, v4] h Q := ev_intro 8 (by simp [el, c0, c1, c2, c3, c4]) hy1 (by simpa [el, c0, c1, c2, c3, c4] using hy2) z
theorem ev_5_9 {v0 v1 v2 v3 v4 : Value} (c0 : v0.category = 1) (c1 : v1.category = 1) (c2 : v2.category = 1) (c3 : v3.category = 1) (c4 : v4.category = 1) (hy1 : plainName M.1.cls = true) (hy2 : Nat.ble 5 M.2.2.1 = true) (z : Z G M d mc ms 0 0 0 [some v0, some v1, some v2, some v3, some v4, none, none, none, none, none, none, none, none, none] [] h Q) : EV G M d mc ms [v0, v1, v2, v3, v4] h Q := ev_intro 9 (by simp [el, c0, c1, c2, c3, c4]) hy1 (by simpa [el, c0, c1, c2, c3, c4] using hy2) z
theorem ev_5_10 {v0 v1 v2 v3 v4 : Value} (c0 : v0.category = 1) (c1 : v1.category = 1) (c2 : v2.category = 1) (c3 : v3.category = 1) (c4 : v4.category = 1) (hy1 : plainName M.1.cls = true) (hy2 : Nat.ble 5 M.2.2.1 = true) (z : Z G M d mc ms 0 0 0 [some v0, some v1, some v2, some v3, some v4, none, none, none, none, none, none, none, none, none, none] [] h Q) : EV G M d mc ms [v0, v1, v2, v3, v4] h Q := ev_intro 10 (by simp [el, c0, c1, c2, c3, c4]) hy1 (by simpa [el, c0, c1, c2, c3, c4] using hy2) z
theorem ev_6_0 {v0 v1 v2 v3 v4 v5 : Value} (c0 : v0.category = 1) (c1 : v1.category = 1) (c2 : v2.category = 1) (c3 : v3.category = 1) (c4 : v4.category = 1) (c5 : v5.category = 1) (hy1 : plainName M.1.cls = true) (hy2 : Nat.ble 6 M.2.2.1 = true) (z : Z G M d mc ms 0 0 0 [some v0, some v1, some v2, some v3, some v4, some v5] [] h Q) : EV G M d mc ms [v0, v1, v2, v3, v4, v5] h Q := ev_intro 0 (by simp [el, c0, c1, c2, c3, c4, c5]) hy1 (by simpa [el, c0, c1, c2, c3, c4, c5] using hy2) z
theorem ev_6_1 {v0 v1 v2 v3 v4 v5 : Value} (c0 : v0.category = 1) (c1 : v1.category = 1) (c2 : v2.category = 1) (c3 : v3.category = 1) (c4 : v4.category = 1) (c5 : v5.category = 1) (hy1 : plainName M.1.cls = true) (hy2 : Nat.ble 6 M.2.2.1 = true) (z : Z G M d mc ms 0 0 0 [some v0, some v1, some v2, some v3, some v4, some v5, none] [] h Q) : EV G M d mc ms [v0, v1, v2, v3, v4, v5] h Q := ev_intro 1 (by simp [el, c0, c1, c2, c3, c4, c5]) hy1 (by simpa [el, c0, c1, c2, c3, c4, c5] using hy2) z
theorem ev_6_2 {v0 v1 v2 v3 v4 v5 : Value} (c0 : v0.category = 1) (c1 : v1.category = 1) (c2 : v2.category = 1) (c3 : v3.category = 1) (c4 : v4.category = 1) (c5 : v5.category = 1) (hy1 : plainName M.1.cls = true) (hy2 : Nat.ble 6 M.2.2.1 = true) (z : Z G M d mc ms 0 0 0 [some v0, some v1, some v2, some v3, some v4, some v5, none, none] [] h Q) : EV G M d mc ms [v0, v1, v2, v3, v4, v5] h Q := ev_intro 2 (by simp [el, c0, c1, c2, c3, c4, c5]) hy1 (by simpa [el, c0, c1, c2, c3, c4, c5] using hy2) z
theorem ev_6_3 {v0 v1 v2 v3 v4 v5 : Value} (c0 : v0.category = 1) (c1 : v1.category = 1) (c2 : v2.category = 1) (c3 : v3.category = 1) (c4 : v4.category = 1) (c5 : v5.category = 1) (hy1 : plainName M.1.cls = true) (hy2 : Nat.ble 6 M.2.2.1 = true) (z : Z G M d mc ms 0 0 0 [some v0, some v1, some v2, some v3, some v4, some v5, none, none, none] [] h Q) : EV G M d mc ms [v0, v1, v2, v3, v4, v5] h Q := ev_intro 3 (by simp [el, c0, c1, c2, c3, c4, c5]) hy1 (by simpa [el, c0, c1, c2, c3, c4, c5] using hy2) z
theorem ev_6_4 {v0 v1 v2 v3 v4 v5 : Value} (c0 : v0.category = 1) (c1 : v1.category = 1) (c2 : v2.category = 1) (c3 : v3.category = 1) (c4 : v4.category = 1) (c5 : v5.category = 1) (hy1 : plainName M.1.cls = true) (hy2 : Nat.ble 6 M.2.2.1 = true) (z : Z G M d mc ms 0 0 0 [some v0, some v1, some v2, some v3, some v4, some v5, none, none, none, none] [] h Q) : EV G M d mc ms [v0, v1, v2, v3, v4, v5] h Q := ev_intro 4 (by simp [el, c0, c1, c2, c3, c4, c5]) hy1 (by simpa [el, c0, c1, c2, c3, c4, c5] using hy2) z
theorem ev_6_5 {v0 v1 v2 v3 v4 v5 : Value} (c0 : v0.category = 1) (c1 : v1.category = 1) (c2 : v2.category = 1) (c3 : v3.category = 1) (c4 : v4.category = 1) (c5 : v5.category = 1) (hy1 : plainName M.1.cls = true) (hy2 : Nat.ble 6 M.2.2.1 = true) (z : Z G M d mc ms 0 0 0 [some v0, some v1, some v2, some v3, some v4, some v5, none, none, none, none, none] [] h Q) : EV G M d mc ms [v0, v1, v2, v3, v4, v5] h Q := ev_intro 5 (by simp [el, c0, c1, c2, c3, c4, c5]) hy1 (by simpa [el, c0, c1, c2, c3, c4, c5] using hy2) z
theorem ev_6_6 {v0 v1 v2 v3 v4 v5 : Value} (c0 : v0.category = 1) (c1 : v1.category = 1) (c2 : v2.category = 1) (c3 : v3.category = 1) (c4 : v4.category = 1) (c5 : v5.category = 1) (hy1 : plainName M.1.cls = true) (hy2 : Nat.ble 6 M.2.2.1 = true) (z : Z G M d mc ms 0 0 0 [some v0, some v1, some v2, some v3, some v4, some v5, none, none, none, none, none, none] [] h Q) : EV G M d mc ms [v0, v1, v2, v3, v4, v5] h Q := ev_intro 6 (by simp [el, c0, c1, c2, c3, c4, c5]) hy1 (by simpa [el, c0, c1, c2, c3, c4, c5] using hy2) z
theorem ev_6_7 {v0 v1 v2 v3 v4 v5 : Value} (c0 : v0.category = 1) (c1 : v1.category = 1) (c2 : v2.category = 1) (c3 : v3.category = 1) (c4 : v4.category = 1) (c5 : v5.category = 1) (hy1 : plainName M.1.cls = true) (hy2 : Nat.ble 6 M.2.2.1 = true) (z : Z G M d mc ms 0 0 0 [some v0, some v1, some v2, some v3, some v4, some v5, none, none, none, none, none, none, none] [] h Q) : EV G M d mc ms [v0, v1, v2, v3, v4, v5] h Q := ev_intro 7 (by simp [el, c0, c1, c2, c3, c4, c5]) hy1 (by simpa [el, c0, c1, c2, c3, c4, c5] using hy2) z
theorem ev_6_8 {v0 v1 v2 v3 v4 v5 : Value} (c0 : v0.category = 1) (c1 : v1.category = 1) (c2 : v2.category = 1) (c3 : v3.category = 1) (c4 : v4.category = 1) (c5 : v5.category = 1) (hy1 : plainName M.1.cls = true) (hy2 : Nat.ble 6 M.2.2.1 = true) (z : Z G M d mc ms 0 0 0 [some v0, some v1, some v2, some v3, some v4, some v5, none, none, none, none, none, none, none, none] [] h Q) : EV G M d mc ms [v0, v1, v2, v3, v4, v5] h Q := ev_intro 8 (by simp [el, c0, c1, c2, c3, c4, c5]) hy1 (by simpa [el, c0, c1, c2, c3, c4, c5] using hy2) z
theorem ev_6_9 {v0 v1 v2 v3 v4 v5 : Value} (c0 : v0.category = 1) (c1 : v1.category = 1) (c2 : v2.category = 1) (c3 : v3.category = 1) (c4 : v4.category = 1) (c5 : v5.category = 1) (hy1 : plainName M.1.cls = true) (hy2 : Nat.ble 6 M.2.2.1 = true) (z : Z G M d mc ms 0 0 0 [some v0, some v1, some v2, some v3, some v4, some v5, none, none, none, none, none, none, none, none, none] [] h Q) : EV G M d mc ms [v0, v1, v2, v3, v4, v5] h Q := ev_intro 9 (by simp [el, c0, c1, c2, c3, c4, c5]) hy1 (by simpa [el, c0, c1, c2, c3, c4, c5] using hy2) z
theorem ev_6_10 {v0 v1 v2 v3 v4 v5 : Value} (c0 : v0.category = 1) (c1 : v1.category = 1) (c2 : v2.category = 1) (c3 : v3.category = 1) (c4 : v4.category = 1) (c5 : v5.category = 1) (hy1 : plainName M.1.cls = true) (hy2 : Nat.ble 6 M.2.2.1 = true) (z : Z G M d mc ms 0 0 0 [some v0, some v1, some v2, some v3, some v4, some v5, none, none, none, none, none, none, none, none, none, none] [] h Q) : EV G M d mc ms [v0, v1, v2, v3, v4, v5] h Q := ev_intro 10 (by simp [el, c0, c1, c2, c3, c4, c5]) hy1 (by simpa [el, c0, c1, c2, c3, c4, c5] using hy2) z
end ZD
theorem n_0 : (0 : Int32) = nI 0 := rfl
theorem n_1 : (1 : Int32) = nI 1 := rfl
theorem n_2 : (2 : Int32) = nI 2 := rfl
theorem n_3 : (3 : Int32) = nI 3 := rfl
theorem n_4 : (4 : Int32) = nI 4 := rfl
theorem n_5 : (5 : Int32) = nI 5 := rfl
theorem n_6 : (6 : Int32) = nI 6 := rfl
theorem n_7 : (7 : Int32) = nI 7 := rfl
theorem n_8 : (8 : Int32) = nI 8 := rfl
theorem n_9 : (9 : Int32) = nI 9 := rfl
theorem n_10 : (10 : Int32) = nI 10 := rfl
theorem n_11 : (11 : Int32) = nI 11 := rfl
theorem n_12 : (12 : Int32) = nI 12 := rfl
theorem n_13 : (13 : Int32) = nI 13 := rfl
theorem n_14 : (14 : Int32) = nI 14 := rfl
theorem n_15 : (15 : Int32) = nI 15 := rfl
theorem n_16 : (16 : Int32) = nI 16 := rfl
theorem n_17 : (17 : Int32) = nI 17 := rfl
theorem n_18 : (18 : Int32) = nI 18 := rfl
theorem n_19 : (19 : Int32) = nI 19 := rfl
theorem n_20 : (20 : Int32) = nI 20 := rfl
theorem n_21 : (21 : Int32) = nI 21 := rfl
theorem n_22 : (22 : Int32) = nI 22 := rfl
theorem n_23 : (23 : Int32) = nI 23 := rfl
theorem n_24 : (24 : Int32) = nI 24 := rfl
theorem n_32 : (32 : Int32) = nI 32 := rfl
theorem n_39 : (39 : Int32) = nI 39 := rfl
theorem n_40 : (40 : Int32) = nI 40 := rfl
theorem n_41 : (41 : Int32) = nI 41 := rfl
theorem n_50 : (50 : Int32) = nI 50 := rfl
theorem n_60 : (60 : Int32) = nI 60 := rfl
theorem n_80 : (80 : Int32) = nI 80 := rfl
theorem n_90 : (90 : Int32) = nI 90 := rfl
theorem n_100 : (100 : Int32) = nI 100 := rfl
theorem n_120 : (120 : Int32) = nI 120 := rfl
theorem n_122 : (122 : Int32) = nI 122 := rfl
theorem n_130 : (130 : Int32) = nI 130 := rfl
theorem n_180 : (180 : Int32) = nI 180 := rfl
theorem n_255 : (255 : Int32) = nI 255 := rfl
theorem n_300 : (300 : Int32) = nI 300 := rfl
theorem n_360 : (360 : Int32) = nI 360 := rfl
theorem n_361 : (361 : Int32) = nI 361 := rfl
theorem n_370 : (370 : Int32) = nI 370 := rfl
theorem n_400 : (400 : Int32) = nI 400 := rfl
theorem n_570 : (570 : Int32) = nI 570 := rfl
theorem n_599 : (599 : Int32) = nI 599 := rfl
theorem n_600 : (600 : Int32) = nI 600 := rfl
theorem n_1000 : (1000 : Int32) = nI 1000 := rfl
theorem n_1800 : (1800 : Int32) = nI 1800 := rfl
theorem n_2000 : (2000 : Int32) = nI 2000 := rfl
end
section
/-! RULES: calls whose contract tells of the new heap by a predicate -/
section ZW
variable {G : mG} {M : mD} {d mc ms cs sl pc n : Nat} {lv : List (Option Value)} {st : List Value} {h : mH} {Q : Option Value → mH → Prop}
theorem z_w0 {M' : mD} {idx a ci d' : Nat} {fs rest : List Value} {v : Value} {P : mH → Prop} (hd : dkb M pc (.invokevirtual idx) 3 n = true) (hv : cV M.1.cls idx M' 0) (ho : h a = oB ci fs) (hci : (CL[ci]?).map (fun q => q.1) = some M'.1.cls) (hcat : (rest.map fun v => v.category).sum ≤ 8) (hrm : d' + 1 ≤ d) (hb : cs ≤ mc ∧ sl ≤ ms) (ev : EV G M' d' 0 0 [.ref a] h (fun r h' => r = (some v) ∧ P h')) (kk : ∀ h1, P h1 → Z G M d mc ms cs sl n lv (v :: rest) h1 Q) : Z G M d mc ms cs sl pc lv (.ref a :: rest) h Q :=
  z_callV (As := []) (rest := rest) hd hv ho hci rfl rfl hcat hrm hb.1 hb.2 ev (fun r h' hq => by obtain ⟨rfl, hp⟩ := hq; exact kk h' hp)
theorem z_w0v {M' : mD} {idx a ci d' : Nat} {fs rest : List Value} {P : mH → Prop} (hd : dkb M pc (.invokevirtual idx) 3 n = true) (hv : cV M.1.cls idx M' 0) (ho : h a = oB ci fs) (hci : (CL[ci]?).map (fun q => q.1) = some M'.1.cls) (hcat : (rest.map fun v => v.category).sum ≤ 8) (hrm : d' + 1 ≤ d) (hb : cs ≤ mc ∧ sl ≤ ms) (ev : EV G M' d' 0 0 [.ref a] h (fun r h' => r = (none) ∧ P h')) (kk : ∀ h1, P h1 → Z G M d mc ms cs sl n lv (rest) h1 Q) : Z G M d mc ms cs sl pc lv (.ref a :: rest) h Q :=
  z_callV (As := []) (rest := rest) hd hv ho hci rfl rfl hcat hrm hb.1 hb.2 ev (fun r h' hq => by obtain ⟨rfl, hp⟩ := hq; exact kk h' hp)
theorem z_w1 {M' : mD} {idx a ci d' : Nat} {fs rest : List Value} {v1 : Value} {v : Value} {P : mH → Prop} (hd : dkb M pc (.invokevirtual idx) 3 n = true) (hv : cV M.1.cls idx M' 1) (ho : h a = oB ci fs) (hci : (CL[ci]?).map (fun q => q.1) = some M'.1.cls) (hcat : (rest.map fun v => v.category).sum ≤ 8) (hrm : d' + 1 ≤ d) (hb : cs ≤ mc ∧ sl ≤ ms) (ev : EV G M' d' 0 0 [.ref a, v1] h (fun r h' => r = (some v) ∧ P h')) (kk : ∀ h1, P h1 → Z G M d mc ms cs sl n lv (v :: rest) h1 Q) : Z G M d mc ms cs sl pc lv (v1 :: .ref a :: rest) h Q :=
  z_callV (As := [v1]) (rest := rest) hd hv ho hci rfl rfl hcat hrm hb.1 hb.2 ev (fun r h' hq => by obtain ⟨rfl, hp⟩ := hq; exact kk h' hp)
theorem z_w1v {M' : mD} {idx a ci d' : Nat} {fs rest : List Value} {v1 : Value} {P : mH → Prop} (hd : dkb M pc (.invokevirtual idx) 3 n = true) (hv : cV M.1.cls idx M' 1) (ho : h a = oB ci fs) (hci : (CL[ci]?).map (fun q => q.1) = some M'.1.cls) (hcat : (rest.map fun v => v.category).sum ≤ 8) (hrm : d' + 1 ≤ d) (hb : cs ≤ mc ∧ sl ≤ ms) (ev : EV G M' d' 0 0 [.ref a, v1] h (fun r h' => r = (none) ∧ P h')) (kk : ∀ h1, P h1 → Z G M d mc ms cs sl n lv (rest) h1 Q) : Z G M d mc ms cs sl pc lv (v1 :: .ref a :: rest) h Q :=
  z_callV (As := [v1]) (rest := rest) hd hv ho hci rfl rfl hcat hrm hb.1 hb.2 ev (fun r h' hq => by obtain ⟨rfl, hp⟩ := hq; exact kk h' hp)
theorem z_w2 {M' : mD} {idx a ci d' : Nat} {fs rest : List Value} {v1 v2 : Value} {v : Value} {P : mH → Prop} (hd : dkb M pc (.invokevirtual idx) 3 n = true) (hv : cV M.1.cls idx M' 2) (ho : h a = oB ci fs) (hci : (CL[ci]?).map (fun q => q.1) = some M'.1.cls) (hcat : (rest.map fun v => v.category).sum ≤ 8) (hrm : d' + 1 ≤ d) (hb : cs ≤ mc ∧ sl ≤ ms) (ev : EV G M' d' 0 0 [.ref a, v1, v2] h (fun r h' => r = (some v) ∧ P h')) (kk : ∀ h1, P h1 → Z G M d mc ms cs sl n lv (v :: rest) h1 Q) : Z G M d mc ms cs sl pc lv (v2 :: v1 :: .ref a :: rest) h Q :=
  z_callV (As := [v1, v2]) (rest := rest) hd hv ho hci rfl rfl hcat hrm hb.1 hb.2 ev (fun r h' hq => by obtain ⟨rfl, hp⟩ := hq; exact kk h' hp)
theorem z_w2v {M' : mD} {idx a ci d' : Nat} {fs rest : List Value} {v1 v2 : Value} {P : mH → Prop} (hd : dkb M pc (.invokevirtual idx) 3 n = true) (hv : cV M.1.cls idx M' 2) (ho : h a = oB ci fs) (hci : (CL[ci]?).map (fun q => q.1) = some M'.1.cls) (hcat : (rest.map fun v => v.category).sum ≤ 8) (hrm : d' + 1 ≤ d) (hb : cs ≤ mc ∧ sl ≤ ms) (ev : EV G M' d' 0 0 [.ref a, v1, v2] h (fun r h' => r = (none) ∧ P h')) (kk : ∀ h1, P h1 → Z G M d mc ms cs sl n lv (rest) h1 Q) : Z G M d mc ms cs sl pc lv (v2 :: v1 :: .ref a :: rest) h Q :=
  z_callV (As := [v1, v2]) (rest := rest) hd hv ho hci rfl rfl hcat hrm hb.1 hb.2 ev (fun r h' hq => by obtain ⟨rfl, hp⟩ := hq; exact kk h' hp)
theorem z_w3 {M' : mD} {idx a ci d' : Nat} {fs rest : List Value} {v1 v2 v3 : Value} {v : Value} {P : mH → Prop} (hd : dkb M pc (.invokevirtual idx) 3 n = true) (hv : cV M.1.cls idx M' 3) (ho : h a = oB ci fs) (hci : (CL[ci]?).map (fun q => q.1) = some M'.1.cls) (hcat : (rest.map fun v => v.category).sum ≤ 8) (hrm : d' + 1 ≤ d) (hb : cs ≤ mc ∧ sl ≤ ms) (ev : EV G M' d' 0 0 [.ref a, v1, v2, v3] h (fun r h' => r = (some v) ∧ P h')) (kk : ∀ h1, P h1 → Z G M d mc ms cs sl n lv (v :: rest) h1 Q) : Z G M d mc ms cs sl pc lv (v3 :: v2 :: v1 :: .ref a :: rest) h Q :=
  z_callV (As := [v1, v2, v3]) (rest := rest) hd hv ho hci rfl rfl hcat hrm hb.1 hb.2 ev (fun r h' hq => by obtain ⟨rfl, hp⟩ := hq; exact kk h' hp)
theorem z_w3v {M' : mD} {idx a ci d' : Nat} {fs rest : List Value} {v1 v2 v3 : Value} {P : mH → Prop} (hd : dkb M pc (.invokevirtual idx) 3 n = true) (hv : cV M.1.cls idx M' 3) (ho : h a = oB ci fs) (hci : (CL[ci]?).map (fun q => q.1) = some M'.1.cls) (hcat : (rest.map fun v => v.category).sum ≤ 8) (hrm : d' + 1 ≤ d) (hb : cs ≤ mc ∧ sl ≤ ms) (ev : EV G M' d' 0 0 [.ref a, v1, v2, v3] h (fun r h' => r = (none) ∧ P h')) (kk : ∀ h1, P h1 → Z G M d mc ms cs sl n lv (rest) h1 Q) : Z G M d mc ms cs sl pc lv (v3 :: v2 :: v1 :: .ref a :: rest) h Q :=
  z_callV (As := [v1, v2, v3]) (rest := rest) hd hv ho hci rfl rfl hcat hrm hb.1 hb.2 ev (fun r h' hq => by obtain ⟨rfl, hp⟩ := hq; exact kk h' hp)
theorem z_w4 {M' : mD} {idx a ci d' : Nat} {fs rest : List Value} {v1 v2 v3 v4 : Value} {v : Value} {P : mH → Prop} (hd : dkb M pc (.invokevirtual idx) 3 n = true) (hv : cV M.1.cls idx M' 4) (ho : h a = oB ci fs) (hci : (CL[ci]?).map (fun q => q.1) = some M'.1.cls) (hcat : (rest.map fun v => v.category).sum ≤ 8) (hrm : d' + 1 ≤ d) (hb : cs ≤ mc ∧ sl ≤ ms) (ev : EV G M' d' 0 0 [.ref a, v1, v2, v3, v4] h (fun r h' => r = (some v) ∧ P h')) (kk : ∀ h1, P h1 → Z G M d mc ms cs sl n lv (v :: rest) h1 Q) : Z G M d mc ms cs sl pc lv (v4 :: v3 :: v2 :: v1 :: .ref a :: rest) h Q :=
  z_callV (As := [v1, v2, v3, v4]) (rest := rest) hd hv ho hci rfl rfl hcat hrm hb.1 hb.2 ev (fun r h' hq => by obtain ⟨rfl, hp⟩ := hq; exact kk h' hp)
theorem z_w4v {M' : mD} {idx a ci d' : Nat} {fs rest : List Value} {v1 v2 v3 v4 : Value} {P : mH → Prop} (hd : dkb M pc (.invokevirtual idx) 3 n = true) (hv : cV M.1.cls idx M' 4) (ho : h a = oB ci fs) (hci : (CL[ci]?).map (fun q => q.1) = some M'.1.cls) (hcat : (rest.map fun v => v.category).sum ≤ 8) (hrm : d' + 1 ≤ d) (hb : cs ≤ mc ∧ sl ≤ ms) (ev : EV G M' d' 0 0 [.ref a, v1, v2, v3, v4] h (fun r h' => r = (none) ∧ P h')) (kk : ∀ h1, P h1 → Z G M d mc ms cs sl n lv (rest) h1 Q) : Z G M d mc ms cs sl pc lv (v4 :: v3 :: v2 :: v1 :: .ref a :: rest) h Q :=
  z_callV (As := [v1, v2, v3, v4]) (rest := rest) hd hv ho hci rfl rfl hcat hrm hb.1 hb.2 ev (fun r h' hq => by obtain ⟨rfl, hp⟩ := hq; exact kk h' hp)
theorem z_w5 {M' : mD} {idx a ci d' : Nat} {fs rest : List Value} {v1 v2 v3 v4 v5 : Value} {v : Value} {P : mH → Prop} (hd : dkb M pc (.invokevirtual idx) 3 n = true) (hv : cV M.1.cls idx M' 5) (ho : h a = oB ci fs) (hci : (CL[ci]?).map (fun q => q.1) = some M'.1.cls) (hcat : (rest.map fun v => v.category).sum ≤ 8) (hrm : d' + 1 ≤ d) (hb : cs ≤ mc ∧ sl ≤ ms) (ev : EV G M' d' 0 0 [.ref a, v1, v2, v3, v4, v5] h (fun r h' => r = (some v) ∧ P h')) (kk : ∀ h1, P h1 → Z G M d mc ms cs sl n lv (v :: rest) h1 Q) : Z G M d mc ms cs sl pc lv (v5 :: v4 :: v3 :: v2 :: v1 :: .ref a :: rest) h Q :=
  z_callV (As := [v1, v2, v3, v4, v5]) (rest := rest) hd hv ho hci rfl rfl hcat hrm hb.1 hb.2 ev (fun r h' hq => by obtain ⟨rfl, hp⟩ := hq; exact kk h' hp)
theorem z_w5v {M' : mD} {idx a ci d' : Nat} {fs rest : List Value} {v1 v2 v3 v4 v5 : Value} {P : mH → Prop} (hd : dkb M pc (.invokevirtual idx) 3 n = true) (hv : cV M.1.cls idx M' 5) (ho : h a = oB ci fs) (hci : (CL[ci]?).map (fun q => q.1) = some M'.1.cls) (hcat : (rest.map fun v => v.category).sum ≤ 8) (hrm : d' + 1 ≤ d) (hb : cs ≤ mc ∧ sl ≤ ms) (ev : EV G M' d' 0 0 [.ref a, v1, v2, v3, v4, v5] h (fun r h' => r = (none) ∧ P h')) (kk : ∀ h1, P h1 → Z G M d mc ms cs sl n lv (rest) h1 Q) : Z G M d mc ms cs sl pc lv (v5 :: v4 :: v3 :: v2 :: v1 :: .ref a :: rest) h Q :=
  z_callV (As := [v1, v2, v3, v4, v5]) (rest := rest) hd hv ho hci rfl rfl hcat hrm hb.1 hb.2 ev (fun r h' hq => by obtain ⟨rfl, hp⟩ := hq; exact kk h' hp)
theorem ev_mono {args : List Value} {Q' : Option Value → mH → Prop} (k : EV G M d mc ms args h Q) (hq : ∀ r h', Q r h' → Q' r h') : EV G M d mc ms args h Q' := by
  intro K
  have k1 := k K
  unfold Met at k1 ⊢
  intro p e ha hc hk s m a9 below hf hap hP hT
  obtain ⟨t, o, h1, h2, h3, ⟨⟨⟨r, h', e1, e2, e3, e4⟩, e5⟩, e6⟩⟩ := k1 p e ha hc hk s m a9 below hf hap hP hT
  exact ⟨t, o, h1, h2, h3, ⟨⟨⟨r, h', e1, hq r h' e2, e3, e4⟩, e5⟩, e6⟩⟩
end ZW
end
section
/-! Strip -/
/-- how many of the first n places of f are x -/
def cnt (f : Nat → Int32) (x : Int32) : Nat → Nat
  | 0 => 0
  | n + 1 => cnt f x n + (if f n = x then 1 else 0)
theorem cnt_le (f : Nat → Int32) (x : Int32) : ∀ n, cnt f x n ≤ n
  | 0 => Nat.le_refl 0
  | n + 1 => by
    have := cnt_le f x n
    unfold cnt
    split <;> omega
/-- the least, the greatest of the first n -/
def mnF (f : Nat → Int32) : Nat → Int32
  | 0 => f 0
  | n + 1 => if mnF f n ≤ f n then mnF f n else f n
def mxF (f : Nat → Int32) : Nat → Int32
  | 0 => f 0
  | n + 1 => if f n ≤ mxF f n then mxF f n else f n
theorem mnF_1 (f : Nat → Int32) : mnF f 1 = f 0 := by simp [mnF]
theorem mxF_1 (f : Nat → Int32) : mxF f 1 = f 0 := by simp [mxF]
/-- the first place below n at which p holds, else n -/
def fsT (p : Nat → Bool) : Nat → Nat → Nat
  | 0, u => u
  | r + 1, u => if p u then u else fsT p r (u + 1)
theorem cpN_0 {α : Type} (f g : Nat → α) : cpN f g 0 = g := by funext j; simp [cpN]
theorem cpN_s (f g : Nat → Int32) (u : Nat) : upd (cpN f g u) u (f u) = cpN f g (u + 1) := by
  funext j
  by_cases e : j = u
  · subst e; simp [upd, cpN]
  · by_cases h : j < u
    · simp [upd, cpN, e, h, Nat.lt_succ_of_lt h]
    · simp [upd, cpN, e, h, show ¬ j < u + 1 by omega]
theorem cpN_sB (f g : Nat → Bool) (u : Nat) : updB (cpN f g u) u (f u) = cpN f g (u + 1) := by
  funext j
  by_cases e : j = u
  · subst e; simp [updB, cpN]
  · by_cases h : j < u
    · simp [updB, cpN, e, h, Nat.lt_succ_of_lt h]
    · simp [updB, cpN, e, h, show ¬ j < u + 1 by omega]
theorem cpN_at {α : Type} {f g : Nat → α} {k j : Nat} (h : j < k) : cpN f g k j = f j := by simp [cpN, h]
theorem cpN_ge {α : Type} {f g : Nat → α} {k j : Nat} (h : k ≤ j) : cpN f g k j = g j := by simp [cpN, Nat.not_lt.mpr h]
/-- the object of a strip at the id S: place S + 1, layer S + 2, up S + 3, heights S + 4 -/
def oStrip (S : Nat) (size tallied : Int32) : mE := oB 7 [.ref (S + 1), .ref (S + 2), .ref (S + 3), .int size, .ref (S + 4), .int tallied]
theorem k_countIn {G : mG} {h : mH} {S N k : Nat} {tl x : Int32} {f : Nat → Int32} (d : Nat) (hS : h S = oStrip S (nI k) tl) (hP : h (S + 1) = aI N f) (hk : k ≤ N) (hN : N < 2 ^ 31) : EV G m_X7_countIn d 0 0 [.ref S, .int x] h (RE (some (.int (nI (cnt f x k)))) h) := by
  refine ev_2_2 rfl rfl (by decide +kernel) (by decide +kernel) ?_
  refine z_iconst (n := 1) (q := 0) (v := 0) (by decide +kernel) ?_
  refine z_ist2 (n := 2) (by decide +kernel) rfl ?_
  refine z_iconst (n := 3) (q := 0) (v := 0) (by decide +kernel) ?_
  refine z_ist3 (n := 4) (by decide +kernel) rfl ?_
  refine loopZ (k := k) (fun u => Z G m_X7_countIn d 0 0 0 0 4 [some (.ref S), some (.int x), some (.int (nI (cnt f x u))), some (.int (nI u))] [] h (RE (some (.int (nI (cnt f x k)))) h)) ?_ ?_ 0 (Nat.zero_le k)
  · refine z_ild3 (n := 5) (by decide +kernel) ?_
    refine z_ald0 (n := 6) (by decide +kernel) ?_
    refine z_getf (n := 9) (idx := 38) (by decide +kernel) fl_X7_38 (by assumption) (by rfl) ?_
    refine z_icmp_ge_t (n := 12) (off := 22) (tgt := 31) (by decide +kernel) (nI_le (Nat.le_refl k) (by omega)) ?_
    refine z_ild2 (n := 32) (by decide +kernel) ?_
    refine z_iret (by decide +kernel) rfl (Nat.le_refl _) ?_
    exact ⟨rfl, rfl⟩
  · intro u ul ih
    refine z_ild3 (n := 5) (by decide +kernel) ?_
    refine z_ald0 (n := 6) (by decide +kernel) ?_
    refine z_getf (n := 9) (idx := 38) (by decide +kernel) fl_X7_38 (by assumption) (by rfl) ?_
    refine z_icmp_ge_f (n := 12) (off := 22) (tgt := 31) (by decide +kernel) (nI_ge ul (by omega)) ?_
    refine z_ald0 (n := 13) (by decide +kernel) ?_
    refine z_getf (n := 16) (idx := 9) (by decide +kernel) fl_X7_9 (by assumption) (by rfl) ?_
    refine z_ild3 (n := 17) (by decide +kernel) ?_
    refine z_iald (n := 18) (by decide +kernel) (by assumption) (by first | assumption | exact ix_nI (by omega) (by omega)) ?_
    refine z_ild1 (n := 19) (by decide +kernel) ?_
    refine z_icmp_ne (n := 22) (off := 6) (tgt := 25) (by decide +kernel) (fun c19 => ?_) (fun c19 => ?_)
    · refine z_inc3 (n := 28) (q := 1) (by decide +kernel) rfl (nI_1 _) ?_
      refine z_goto (n := 31) (off := -24) (tgt := 4) (by decide +kernel) ?_
      simpa [cnt, c19] using ih
    · refine z_inc2 (n := 25) (q := 1) (by decide +kernel) rfl (nI_1 _) ?_
      refine z_inc3 (n := 28) (q := 1) (by decide +kernel) rfl (nI_1 _) ?_
      refine z_goto (n := 31) (off := -24) (tgt := 4) (by decide +kernel) ?_
      simpa [cnt, c19] using ih
theorem k_cellAt {G : mG} {h : mH} {S N k : Nat} {tl x y : Int32} {f g : Nat → Int32} (d : Nat) (hS : h S = oStrip S (nI k) tl) (hP : h (S + 1) = aI N f) (hL : h (S + 2) = aI N g) (hk : k ≤ N) (hN : N < 2 ^ 31) : EV G m_X7_cellAt d 0 0 [.ref S, .int x, .int y] h (RE (some (.int (if fsT (fun u => decide (f u = x) && decide (g u = y)) k 0 < k then nI (fsT (fun u => decide (f u = x) && decide (g u = y)) k 0) else -1))) h) := by
  refine ev_3_1 rfl rfl rfl (by decide +kernel) (by decide +kernel) ?_
  refine z_iconst (n := 1) (q := 0) (v := 0) (by decide +kernel) ?_
  refine z_ist3 (n := 2) (by decide +kernel) rfl ?_
  have key : ∀ u, u ≤ k → Z G m_X7_cellAt d 0 0 0 0 2 [some (.ref S), some (.int x), some (.int y), some (.int (nI u))] [] h (RE (some (.int (if fsT (fun u => decide (f u = x) && decide (g u = y)) (k - u) u < k then nI (fsT (fun u => decide (f u = x) && decide (g u = y)) (k - u) u) else -1))) h) := by
    refine loopZ (k := k) (fun u => Z G m_X7_cellAt d 0 0 0 0 2 [some (.ref S), some (.int x), some (.int y), some (.int (nI u))] [] h (RE (some (.int (if fsT (fun u => decide (f u = x) && decide (g u = y)) (k - u) u < k then nI (fsT (fun u => decide (f u = x) && decide (g u = y)) (k - u) u) else -1))) h)) ?_ ?_
    · refine z_ild3 (n := 3) (by decide +kernel) ?_
      refine z_ald0 (n := 4) (by decide +kernel) ?_
      refine z_getf (n := 7) (idx := 38) (by decide +kernel) fl_X7_38 (by assumption) (by rfl) ?_
      refine z_icmp_ge_t (n := 10) (off := 31) (tgt := 38) (by decide +kernel) (nI_le (Nat.le_refl k) (by omega)) ?_
      refine z_iconst (n := 39) (q := -1) (v := -1) (by decide +kernel) ?_
      refine z_iret (by decide +kernel) rfl (Nat.le_refl _) ?_
      exact ⟨by simp [fsT], rfl⟩
    · intro u ul ih
      have e : k - u = (k - (u + 1)) + 1 := by omega
      rw [e]
      refine z_ild3 (n := 3) (by decide +kernel) ?_
      refine z_ald0 (n := 4) (by decide +kernel) ?_
      refine z_getf (n := 7) (idx := 38) (by decide +kernel) fl_X7_38 (by assumption) (by rfl) ?_
      refine z_icmp_ge_f (n := 10) (off := 31) (tgt := 38) (by decide +kernel) (nI_ge ul (by omega)) ?_
      refine z_ald0 (n := 11) (by decide +kernel) ?_
      refine z_getf (n := 14) (idx := 9) (by decide +kernel) fl_X7_9 (by assumption) (by rfl) ?_
      refine z_ild3 (n := 15) (by decide +kernel) ?_
      refine z_iald (n := 16) (by decide +kernel) (by assumption) (by first | assumption | exact ix_nI (by omega) (by omega)) ?_
      refine z_ild1 (n := 17) (by decide +kernel) ?_
      refine z_icmp_ne (n := 20) (off := 15) (tgt := 32) (by decide +kernel) (fun c17 => ?_) (fun c17 => ?_)
      · refine z_inc3 (n := 35) (q := 1) (by decide +kernel) rfl (nI_1 _) ?_
        refine z_goto (n := 38) (off := -33) (tgt := 2) (by decide +kernel) ?_
        simpa [fsT, c17] using ih
      · refine z_ald0 (n := 21) (by decide +kernel) ?_
        refine z_getf (n := 24) (idx := 15) (by decide +kernel) fl_X7_15 (by assumption) (by rfl) ?_
        refine z_ild3 (n := 25) (by decide +kernel) ?_
        refine z_iald (n := 26) (by decide +kernel) (by assumption) (by first | assumption | exact ix_nI (by omega) (by omega)) ?_
        refine z_ild2 (n := 27) (by decide +kernel) ?_
        refine z_icmp_ne (n := 30) (off := 5) (tgt := 32) (by decide +kernel) (fun c27 => ?_) (fun c27 => ?_)
        · refine z_inc3 (n := 35) (q := 1) (by decide +kernel) rfl (nI_1 _) ?_
          refine z_goto (n := 38) (off := -33) (tgt := 2) (by decide +kernel) ?_
          simpa [fsT, c17, c27] using ih
        · refine z_ild3 (n := 31) (by decide +kernel) ?_
          refine z_iret (by decide +kernel) rfl (Nat.le_refl _) ?_
          exact ⟨by simp [fsT, c17, c27, ul], rfl⟩
  exact key 0 (Nat.zero_le k)
theorem k_isFolded {G : mG} {h : mH} {S N p : Nat} {sz tl : Int32} {f : Nat → Int32} (d : Nat) (hS : h S = oStrip S sz tl) (hP : h (S + 1) = aI N f) (hp : p + 1 < N) (hN : N < 2 ^ 31) : EV G m_X7_isFolded d 0 0 [.ref S, .int (nI (p + 1))] h (RE (some (.int (bI (decide (f p = f (p + 1)))))) h) := by
  refine ev_2_0 rfl rfl (by decide +kernel) (by decide +kernel) ?_
  refine z_ald0 (n := 1) (by decide +kernel) ?_
  refine z_getf (n := 4) (idx := 9) (by decide +kernel) fl_X7_9 (by assumption) (by rfl) ?_
  refine z_ild1 (n := 5) (by decide +kernel) ?_
  refine z_iconst (n := 6) (q := 1) (v := 1) (by decide +kernel) ?_
  refine z_isub (n := 7) (by decide +kernel) ?_
  refine z_top (nI_pred p) ?_
  refine z_iald (n := 8) (by decide +kernel) (by assumption) (by first | assumption | exact ix_nI (by omega) (by omega)) ?_
  refine z_ald0 (n := 9) (by decide +kernel) ?_
  refine z_getf (n := 12) (idx := 9) (by decide +kernel) fl_X7_9 (by assumption) (by rfl) ?_
  refine z_ild1 (n := 13) (by decide +kernel) ?_
  refine z_iald (n := 14) (by decide +kernel) (by assumption) (by first | assumption | exact ix_nI (by omega) (by omega)) ?_
  refine z_icmp_ne (n := 17) (off := 7) (tgt := 21) (by decide +kernel) (fun c14 => ?_) (fun c14 => ?_)
  · refine z_iconst (n := 22) (q := 0) (v := 0) (by decide +kernel) ?_
    first | refine z_zr1 (by decide +kernel) rfl (Nat.le_refl _) ?_ | refine z_zr0 (by decide +kernel) rfl (Nat.le_refl _) ?_ | refine z_zrb (by decide +kernel) rfl (Nat.le_refl _) ?_
    exact ⟨by simp [c14], rfl⟩
  · refine z_iconst (n := 18) (q := 1) (v := 1) (by decide +kernel) ?_
    refine z_goto (n := 21) (off := 4) (tgt := 22) (by decide +kernel) ?_
    first | refine z_zr1 (by decide +kernel) rfl (Nat.le_refl _) ?_ | refine z_zr0 (by decide +kernel) rfl (Nat.le_refl _) ?_ | refine z_zrb (by decide +kernel) rfl (Nat.le_refl _) ?_
    exact ⟨by simp [c14], rfl⟩
theorem k_lowestPlace {G : mG} {h : mH} {S N k : Nat} {tl : Int32} {f : Nat → Int32} (d : Nat) (hS : h S = oStrip S (nI k) tl) (hP : h (S + 1) = aI N f) (h1 : 1 ≤ k) (hk : k ≤ N) (hN : N < 2 ^ 31) : EV G m_X7_lowestPlace d 0 0 [.ref S] h (RE (some (.int (mnF f k))) h) := by
  refine ev_1_2 rfl (by decide +kernel) (by decide +kernel) ?_
  refine z_ald0 (n := 1) (by decide +kernel) ?_
  refine z_getf (n := 4) (idx := 9) (by decide +kernel) fl_X7_9 (by assumption) (by rfl) ?_
  refine z_iconst (n := 5) (q := 0) (v := 0) (by decide +kernel) ?_
  refine z_iald (n := 6) (by decide +kernel) (by assumption) (by exact ix_of (j := 0) rfl (by omega) (by omega)) ?_
  refine z_ist1 (n := 7) (by decide +kernel) rfl ?_
  refine z_iconst (n := 8) (q := 1) (v := 1) (by decide +kernel) ?_
  refine z_ist2 (n := 9) (by decide +kernel) rfl ?_
  have key := loopZ (k := k) (fun u => Z G m_X7_lowestPlace d 0 0 0 0 9 [some (.ref S), some (.int (mnF f u)), some (.int (nI u))] [] h (RE (some (.int (mnF f k))) h)) ?_ ?_ 1 h1
  · rw [mnF_1] at key
    exact key
  · refine z_ild2 (n := 10) (by decide +kernel) ?_
    refine z_ald0 (n := 11) (by decide +kernel) ?_
    refine z_getf (n := 14) (idx := 38) (by decide +kernel) fl_X7_38 (by assumption) (by rfl) ?_
    refine z_icmp_ge_t (n := 17) (off := 26) (tgt := 40) (by decide +kernel) (nI_le (Nat.le_refl k) (by omega)) ?_
    refine z_ild1 (n := 41) (by decide +kernel) ?_
    refine z_iret (by decide +kernel) rfl (Nat.le_refl _) ?_
    exact ⟨rfl, rfl⟩
  · intro u ul ih
    refine z_ild2 (n := 10) (by decide +kernel) ?_
    refine z_ald0 (n := 11) (by decide +kernel) ?_
    refine z_getf (n := 14) (idx := 38) (by decide +kernel) fl_X7_38 (by assumption) (by rfl) ?_
    refine z_icmp_ge_f (n := 17) (off := 26) (tgt := 40) (by decide +kernel) (nI_ge ul (by omega)) ?_
    refine z_ald0 (n := 18) (by decide +kernel) ?_
    refine z_getf (n := 21) (idx := 9) (by decide +kernel) fl_X7_9 (by assumption) (by rfl) ?_
    refine z_ild2 (n := 22) (by decide +kernel) ?_
    refine z_iald (n := 23) (by decide +kernel) (by assumption) (by first | assumption | exact ix_nI (by omega) (by omega)) ?_
    refine z_ild1 (n := 24) (by decide +kernel) ?_
    refine z_icmp_ge (n := 27) (off := 10) (tgt := 34) (by decide +kernel) (fun c24 => ?_) (fun c24 => ?_)
    · refine z_inc2 (n := 37) (q := 1) (by decide +kernel) rfl (nI_1 _) ?_
      refine z_goto (n := 40) (off := -28) (tgt := 9) (by decide +kernel) ?_
      simpa only [mnF, c24, if_true, if_false] using ih
    · refine z_ald0 (n := 28) (by decide +kernel) ?_
      refine z_getf (n := 31) (idx := 9) (by decide +kernel) fl_X7_9 (by assumption) (by rfl) ?_
      refine z_ild2 (n := 32) (by decide +kernel) ?_
      refine z_iald (n := 33) (by decide +kernel) (by assumption) (by first | assumption | exact ix_nI (by omega) (by omega)) ?_
      refine z_ist1 (n := 34) (by decide +kernel) rfl ?_
      refine z_inc2 (n := 37) (q := 1) (by decide +kernel) rfl (nI_1 _) ?_
      refine z_goto (n := 40) (off := -28) (tgt := 9) (by decide +kernel) ?_
      simpa only [mnF, c24, if_true, if_false] using ih
theorem k_highestPlace {G : mG} {h : mH} {S N k : Nat} {tl : Int32} {f : Nat → Int32} (d : Nat) (hS : h S = oStrip S (nI k) tl) (hP : h (S + 1) = aI N f) (h1 : 1 ≤ k) (hk : k ≤ N) (hN : N < 2 ^ 31) : EV G m_X7_highestPlace d 0 0 [.ref S] h (RE (some (.int (mxF f k))) h) := by
  refine ev_1_2 rfl (by decide +kernel) (by decide +kernel) ?_
  refine z_ald0 (n := 1) (by decide +kernel) ?_
  refine z_getf (n := 4) (idx := 9) (by decide +kernel) fl_X7_9 (by assumption) (by rfl) ?_
  refine z_iconst (n := 5) (q := 0) (v := 0) (by decide +kernel) ?_
  refine z_iald (n := 6) (by decide +kernel) (by assumption) (by exact ix_of (j := 0) rfl (by omega) (by omega)) ?_
  refine z_ist1 (n := 7) (by decide +kernel) rfl ?_
  refine z_iconst (n := 8) (q := 1) (v := 1) (by decide +kernel) ?_
  refine z_ist2 (n := 9) (by decide +kernel) rfl ?_
  have key := loopZ (k := k) (fun u => Z G m_X7_highestPlace d 0 0 0 0 9 [some (.ref S), some (.int (mxF f u)), some (.int (nI u))] [] h (RE (some (.int (mxF f k))) h)) ?_ ?_ 1 h1
  · rw [mxF_1] at key
    exact key
  · refine z_ild2 (n := 10) (by decide +kernel) ?_
    refine z_ald0 (n := 11) (by decide +kernel) ?_
    refine z_getf (n := 14) (idx := 38) (by decide +kernel) fl_X7_38 (by assumption) (by rfl) ?_
    refine z_icmp_ge_t (n := 17) (off := 26) (tgt := 40) (by decide +kernel) (nI_le (Nat.le_refl k) (by omega)) ?_
    refine z_ild1 (n := 41) (by decide +kernel) ?_
    refine z_iret (by decide +kernel) rfl (Nat.le_refl _) ?_
    exact ⟨rfl, rfl⟩
  · intro u ul ih
    refine z_ild2 (n := 10) (by decide +kernel) ?_
    refine z_ald0 (n := 11) (by decide +kernel) ?_
    refine z_getf (n := 14) (idx := 38) (by decide +kernel) fl_X7_38 (by assumption) (by rfl) ?_
    refine z_icmp_ge_f (n := 17) (off := 26) (tgt := 40) (by decide +kernel) (nI_ge ul (by omega)) ?_
    refine z_ald0 (n := 18) (by decide +kernel) ?_
    refine z_getf (n := 21) (idx := 9) (by decide +kernel) fl_X7_9 (by assumption) (by rfl) ?_
    refine z_ild2 (n := 22) (by decide +kernel) ?_
    refine z_iald (n := 23) (by decide +kernel) (by assumption) (by first | assumption | exact ix_nI (by omega) (by omega)) ?_
    refine z_ild1 (n := 24) (by decide +kernel) ?_
    refine z_icmp_le (n := 27) (off := 10) (tgt := 34) (by decide +kernel) (fun c24 => ?_) (fun c24 => ?_)
    · refine z_inc2 (n := 37) (q := 1) (by decide +kernel) rfl (nI_1 _) ?_
      refine z_goto (n := 40) (off := -28) (tgt := 9) (by decide +kernel) ?_
      simpa only [mxF, c24, if_true, if_false] using ih
    · refine z_ald0 (n := 28) (by decide +kernel) ?_
      refine z_getf (n := 31) (idx := 9) (by decide +kernel) fl_X7_9 (by assumption) (by rfl) ?_
      refine z_ild2 (n := 32) (by decide +kernel) ?_
      refine z_iald (n := 33) (by decide +kernel) (by assumption) (by first | assumption | exact ix_nI (by omega) (by omega)) ?_
      refine z_ist1 (n := 34) (by decide +kernel) rfl ?_
      refine z_inc2 (n := 37) (q := 1) (by decide +kernel) rfl (nI_1 _) ?_
      refine z_goto (n := 40) (off := -28) (tgt := 9) (by decide +kernel) ?_
      simpa only [mxF, c24, if_true, if_false] using ih
theorem k_hasBothSides {G : mG} {h : mH} {S N k : Nat} {tl x : Int32} {f : Nat → Int32} (d : Nat) (hd : 1 ≤ d) (hS : h S = oStrip S (nI k) tl) (hP : h (S + 1) = aI N f) (h1 : 1 ≤ k) (hk : k ≤ N) (hN : N < 2 ^ 31) : EV G m_X7_hasBothSides d 0 0 [.ref S, .int x] h (RE (some (.int (bI (!decide (x ≤ mnF f k) && !decide (mxF f k < x))))) h) := by
  refine ev_2_0 rfl rfl (by decide +kernel) (by decide +kernel) ?_
  refine z_ild1 (n := 1) (by decide +kernel) ?_
  refine z_ald0 (n := 2) (by decide +kernel) ?_
  refine z_v0 (n := 5) (idx := 48) (by decide +kernel) ml_X7_48 (by assumption) rfl (Nat.le_of_ble_eq_true rfl) (by omega) ⟨Nat.le_refl _, Nat.le_refl _⟩ (k_lowestPlace 0 hS hP h1 hk hN) ?_
  refine z_icmp_le (n := 8) (off := 15) (tgt := 20) (by decide +kernel) (fun c5 => ?_) (fun c5 => ?_)
  · refine z_iconst (n := 21) (q := 0) (v := 0) (by decide +kernel) ?_
    first | refine z_zr1 (by decide +kernel) rfl (Nat.le_refl _) ?_ | refine z_zr0 (by decide +kernel) rfl (Nat.le_refl _) ?_ | refine z_zrb (by decide +kernel) rfl (Nat.le_refl _) ?_
    exact ⟨by simp only [c5, decide_true, decide_false, Bool.not_true, Bool.not_false, Bool.and_true, Bool.true_and, Bool.false_and], rfl⟩
  · refine z_ild1 (n := 9) (by decide +kernel) ?_
    refine z_ald0 (n := 10) (by decide +kernel) ?_
    refine z_v0 (n := 13) (idx := 52) (by decide +kernel) ml_X7_52 (by assumption) rfl (Nat.le_of_ble_eq_true rfl) (by omega) ⟨Nat.le_refl _, Nat.le_refl _⟩ (k_highestPlace 0 hS hP h1 hk hN) ?_
    refine z_icmp_gt (n := 16) (off := 7) (tgt := 20) (by decide +kernel) (fun c13 => ?_) (fun c13 => ?_)
    · refine z_iconst (n := 21) (q := 0) (v := 0) (by decide +kernel) ?_
      first | refine z_zr1 (by decide +kernel) rfl (Nat.le_refl _) ?_ | refine z_zr0 (by decide +kernel) rfl (Nat.le_refl _) ?_ | refine z_zrb (by decide +kernel) rfl (Nat.le_refl _) ?_
      exact ⟨by simp only [c5, c13, decide_true, decide_false, Bool.not_true, Bool.not_false, Bool.and_true, Bool.true_and, Bool.false_and], rfl⟩
    · refine z_iconst (n := 17) (q := 1) (v := 1) (by decide +kernel) ?_
      refine z_goto (n := 20) (off := 4) (tgt := 21) (by decide +kernel) ?_
      first | refine z_zr1 (by decide +kernel) rfl (Nat.le_refl _) ?_ | refine z_zr0 (by decide +kernel) rfl (Nat.le_refl _) ?_ | refine z_zrb (by decide +kernel) rfl (Nat.le_refl _) ?_
      exact ⟨by simp only [c5, c13, decide_true, decide_false, Bool.not_true, Bool.not_false, Bool.and_true, Bool.true_and, Bool.false_and], rfl⟩
/-- the point between p and p + 1 lies along the line -/
def crs (f : Nat → Int32) (p : Nat) (x : Int32) : Bool := decide (f p = x - 1) && decide (f (p + 1) = x) || decide (f p = x) && decide (f (p + 1) = x - 1)
theorem k_crosses {G : mG} {h : mH} {S N p : Nat} {sz tl x : Int32} {f : Nat → Int32} (d : Nat) (hS : h S = oStrip S sz tl) (hP : h (S + 1) = aI N f) (hp : p + 1 < N) (hN : N < 2 ^ 31) : EV G m_X7_crosses d 0 0 [.ref S, .int (nI (p + 1)), .int x] h (RE (some (.int (bI (crs f p x)))) h) := by
  refine ev_3_2 rfl rfl rfl (by decide +kernel) (by decide +kernel) ?_
  refine z_ald0 (n := 1) (by decide +kernel) ?_
  refine z_getf (n := 4) (idx := 9) (by decide +kernel) fl_X7_9 (by assumption) (by rfl) ?_
  refine z_ild1 (n := 5) (by decide +kernel) ?_
  refine z_iconst (n := 6) (q := 1) (v := 1) (by decide +kernel) ?_
  refine z_isub (n := 7) (by decide +kernel) ?_
  refine z_top (nI_pred p) ?_
  refine z_iald (n := 8) (by decide +kernel) (by assumption) (by first | assumption | exact ix_nI (by omega) (by omega)) ?_
  refine z_ist3 (n := 9) (by decide +kernel) rfl ?_
  refine z_ald0 (n := 10) (by decide +kernel) ?_
  refine z_getf (n := 13) (idx := 9) (by decide +kernel) fl_X7_9 (by assumption) (by rfl) ?_
  refine z_ild1 (n := 14) (by decide +kernel) ?_
  refine z_iald (n := 15) (by decide +kernel) (by assumption) (by first | assumption | exact ix_nI (by omega) (by omega)) ?_
  refine z_ist4 (n := 17) (by decide +kernel) rfl ?_
  refine z_ild3 (n := 18) (by decide +kernel) ?_
  refine z_ild2 (n := 19) (by decide +kernel) ?_
  refine z_iconst (n := 20) (q := 1) (v := 1) (by decide +kernel) ?_
  refine z_isub (n := 21) (by decide +kernel) ?_
  refine z_icmp_ne (n := 24) (off := 9) (tgt := 30) (by decide +kernel) (fun c21 => ?_) (fun c21 => ?_)
  · refine z_ild3 (n := 31) (by decide +kernel) ?_
    refine z_ild2 (n := 32) (by decide +kernel) ?_
    refine z_icmp_ne (n := 35) (off := 15) (tgt := 47) (by decide +kernel) (fun c32 => ?_) (fun c32 => ?_)
    · refine z_iconst (n := 48) (q := 0) (v := 0) (by decide +kernel) ?_
      first | refine z_zr1 (by decide +kernel) rfl (Nat.le_refl _) ?_ | refine z_zr0 (by decide +kernel) rfl (Nat.le_refl _) ?_ | refine z_zrb (by decide +kernel) rfl (Nat.le_refl _) ?_
      exact ⟨by simp only [crs, eq_false c21, eq_false c32, decide_true, decide_false, Bool.and_true, Bool.and_false, Bool.true_and, Bool.false_and, Bool.or_true, Bool.or_false, Bool.true_or, Bool.false_or], rfl⟩
    · refine z_ild4 (n := 37) (by decide +kernel) ?_
      refine z_ild2 (n := 38) (by decide +kernel) ?_
      refine z_iconst (n := 39) (q := 1) (v := 1) (by decide +kernel) ?_
      refine z_isub (n := 40) (by decide +kernel) ?_
      refine z_icmp_ne (n := 43) (off := 7) (tgt := 47) (by decide +kernel) (fun c40 => ?_) (fun c40 => ?_)
      · refine z_iconst (n := 48) (q := 0) (v := 0) (by decide +kernel) ?_
        first | refine z_zr1 (by decide +kernel) rfl (Nat.le_refl _) ?_ | refine z_zr0 (by decide +kernel) rfl (Nat.le_refl _) ?_ | refine z_zrb (by decide +kernel) rfl (Nat.le_refl _) ?_
        exact ⟨by simp only [crs, eq_false c21, eq_true c32, eq_false c40, decide_true, decide_false, Bool.and_true, Bool.and_false, Bool.true_and, Bool.false_and, Bool.or_true, Bool.or_false, Bool.true_or, Bool.false_or], rfl⟩
      · refine z_iconst (n := 44) (q := 1) (v := 1) (by decide +kernel) ?_
        refine z_goto (n := 47) (off := 4) (tgt := 48) (by decide +kernel) ?_
        first | refine z_zr1 (by decide +kernel) rfl (Nat.le_refl _) ?_ | refine z_zr0 (by decide +kernel) rfl (Nat.le_refl _) ?_ | refine z_zrb (by decide +kernel) rfl (Nat.le_refl _) ?_
        exact ⟨by simp only [crs, eq_false c21, eq_true c32, eq_true c40, decide_true, decide_false, Bool.and_true, Bool.and_false, Bool.true_and, Bool.false_and, Bool.or_true, Bool.or_false, Bool.true_or, Bool.false_or], rfl⟩
  · refine z_ild4 (n := 26) (by decide +kernel) ?_
    refine z_ild2 (n := 27) (by decide +kernel) ?_
    refine z_icmp_eq (n := 30) (off := 16) (tgt := 43) (by decide +kernel) (fun c27 => ?_) (fun c27 => ?_)
    · refine z_iconst (n := 44) (q := 1) (v := 1) (by decide +kernel) ?_
      refine z_goto (n := 47) (off := 4) (tgt := 48) (by decide +kernel) ?_
      first | refine z_zr1 (by decide +kernel) rfl (Nat.le_refl _) ?_ | refine z_zr0 (by decide +kernel) rfl (Nat.le_refl _) ?_ | refine z_zrb (by decide +kernel) rfl (Nat.le_refl _) ?_
      exact ⟨by simp only [crs, eq_true c21, eq_true c27, decide_true, decide_false, Bool.and_true, Bool.and_false, Bool.true_and, Bool.false_and, Bool.or_true, Bool.or_false, Bool.true_or, Bool.false_or], rfl⟩
    · refine z_ild3 (n := 31) (by decide +kernel) ?_
      refine z_ild2 (n := 32) (by decide +kernel) ?_
      refine z_icmp_ne (n := 35) (off := 15) (tgt := 47) (by decide +kernel) (fun c32 => ?_) (fun c32 => ?_)
      · refine z_iconst (n := 48) (q := 0) (v := 0) (by decide +kernel) ?_
        first | refine z_zr1 (by decide +kernel) rfl (Nat.le_refl _) ?_ | refine z_zr0 (by decide +kernel) rfl (Nat.le_refl _) ?_ | refine z_zrb (by decide +kernel) rfl (Nat.le_refl _) ?_
        exact ⟨by simp only [crs, eq_true c21, eq_false c27, eq_false c32, decide_true, decide_false, Bool.and_true, Bool.and_false, Bool.true_and, Bool.false_and, Bool.or_true, Bool.or_false, Bool.true_or, Bool.false_or], rfl⟩
      · refine z_ild4 (n := 37) (by decide +kernel) ?_
        refine z_ild2 (n := 38) (by decide +kernel) ?_
        refine z_iconst (n := 39) (q := 1) (v := 1) (by decide +kernel) ?_
        refine z_isub (n := 40) (by decide +kernel) ?_
        refine z_icmp_ne (n := 43) (off := 7) (tgt := 47) (by decide +kernel) (fun c40 => ?_) (fun c40 => ?_)
        · refine z_iconst (n := 48) (q := 0) (v := 0) (by decide +kernel) ?_
          first | refine z_zr1 (by decide +kernel) rfl (Nat.le_refl _) ?_ | refine z_zr0 (by decide +kernel) rfl (Nat.le_refl _) ?_ | refine z_zrb (by decide +kernel) rfl (Nat.le_refl _) ?_
          exact ⟨by simp only [crs, eq_true c21, eq_false c27, eq_true c32, eq_false c40, decide_true, decide_false, Bool.and_true, Bool.and_false, Bool.true_and, Bool.false_and, Bool.or_true, Bool.or_false, Bool.true_or, Bool.false_or], rfl⟩
        · refine z_iconst (n := 44) (q := 1) (v := 1) (by decide +kernel) ?_
          refine z_goto (n := 47) (off := 4) (tgt := 48) (by decide +kernel) ?_
          first | refine z_zr1 (by decide +kernel) rfl (Nat.le_refl _) ?_ | refine z_zr0 (by decide +kernel) rfl (Nat.le_refl _) ?_ | refine z_zrb (by decide +kernel) rfl (Nat.le_refl _) ?_
          exact ⟨by simp only [crs, eq_true c21, eq_false c27, eq_true c32, eq_true c40, decide_true, decide_false, Bool.and_true, Bool.and_false, Bool.true_and, Bool.false_and, Bool.or_true, Bool.or_false, Bool.true_or, Bool.false_or], rfl⟩
/-- what heightOf answers -/
def hgt (ht : Nat → Int32) (N : Nat) (tl x : Int32) : Int32 := if x - tl < 0 then 0 else if nI N ≤ x - tl then 0 else ht (x - tl).toNatClampNeg
theorem k_heightOf {G : mG} {h : mH} {S N : Nat} {sz tl x : Int32} {ht : Nat → Int32} (d : Nat) (hS : h S = oStrip S sz tl) (hT : h (S + 4) = aI N ht) (hN : N < 2 ^ 31) : EV G m_X7_heightOf d 0 0 [.ref S, .int x] h (RE (some (.int (hgt ht N tl x))) h) := by
  refine ev_2_1 rfl rfl (by decide +kernel) (by decide +kernel) ?_
  refine z_ild1 (n := 1) (by decide +kernel) ?_
  refine z_ald0 (n := 2) (by decide +kernel) ?_
  refine z_getf (n := 5) (idx := 55) (by decide +kernel) fl_X7_55 (by assumption) (by rfl) ?_
  refine z_isub (n := 6) (by decide +kernel) ?_
  refine z_ist2 (n := 7) (by decide +kernel) rfl ?_
  refine z_ild2 (n := 8) (by decide +kernel) ?_
  refine z_if_lt (n := 11) (off := 21) (tgt := 29) (by decide +kernel) (fun c8 => ?_) (fun c8 => ?_)
  · refine z_iconst (n := 30) (q := 0) (v := 0) (by decide +kernel) ?_
    refine z_iret (by decide +kernel) rfl (Nat.le_refl _) ?_
    exact ⟨by simp only [hgt, c8, if_true, if_false], rfl⟩
  · refine z_ild2 (n := 12) (by decide +kernel) ?_
    refine z_ald0 (n := 13) (by decide +kernel) ?_
    refine z_getf (n := 16) (idx := 22) (by decide +kernel) fl_X7_22 (by assumption) (by rfl) ?_
    refine z_alenI (n := 17) (by decide +kernel) (by assumption) ?_
    refine z_icmp_ge (n := 20) (off := 12) (tgt := 29) (by decide +kernel) (fun c17 => ?_) (fun c17 => ?_)
    · refine z_iconst (n := 30) (q := 0) (v := 0) (by decide +kernel) ?_
      refine z_iret (by decide +kernel) rfl (Nat.le_refl _) ?_
      exact ⟨by simp only [hgt, c8, c17, if_true, if_false], rfl⟩
    · refine z_ald0 (n := 21) (by decide +kernel) ?_
      refine z_getf (n := 24) (idx := 22) (by decide +kernel) fl_X7_22 (by assumption) (by rfl) ?_
      refine z_ild2 (n := 25) (by decide +kernel) ?_
      refine z_iald (n := 26) (by decide +kernel) (by assumption) (by exact ix_rng c8 c17 hN) ?_
      refine z_goto (n := 29) (off := 4) (tgt := 30) (by decide +kernel) ?_
      refine z_iret (by decide +kernel) rfl (Nat.le_refl _) ?_
      exact ⟨by simp only [hgt, c8, c17, if_true, if_false], rfl⟩
end
section
/-! Strip: what changes it -/
/-- laid flat as far as the cell u -/
def hFl (h : mH) (S N k : Nat) (tl : Int32) (pl ly : Nat → Int32) (up : Nat → Bool) (u : Nat) : mH := hu (hu (hu (hu h S (oStrip S (nI k) tl)) (S + 1) (aI N (cpN nI pl u))) (S + 2) (aI N (cpN (fun _ => 0) ly u))) (S + 3) (aZ N (cpN (fun _ => true) up u))
theorem k_layFlat {G : mG} {h : mH} {S N k : Nat} {sz tl : Int32} {pl ly : Nat → Int32} {up : Nat → Bool} (d : Nat) (hd : 1 ≤ d) (hS : h S = oStrip S sz tl) (hP : h (S + 1) = aI N pl) (hL : h (S + 2) = aI N ly) (hU : h (S + 3) = aZ N up) (hk : k ≤ N) (hN : N < 2 ^ 31) : EV G m_X7_layFlat d 0 0 [.ref S, .int (nI k)] h (RE none (hFl h S N k tl pl ly up k)) := by
  refine ev_2_1 rfl rfl (by decide +kernel) (by decide +kernel) ?_
  refine z_ald0 (n := 1) (by decide +kernel) ?_
  refine z_iconst (n := 2) (q := 0) (v := 0) (by decide +kernel) ?_
  refine z_ild1 (n := 3) (by decide +kernel) ?_
  refine z_ald0 (n := 4) (by decide +kernel) ?_
  refine z_getf (n := 7) (idx := 9) (by decide +kernel) fl_X7_9 (by first | assumption | (simp (disch := omega) only [hu_s, hu_n]; first | assumption | rfl)) (by rfl) ?_
  refine z_alenI (n := 8) (by decide +kernel) (by first | assumption | (simp (disch := omega) only [hu_s, hu_n]; first | assumption | rfl)) ?_
  refine z_mmin (n := 11) (idx := 29) (by decide +kernel) jl_X7_29 (Nat.le_of_ble_eq_true rfl) (by omega) (Nat.le_refl _) (Nat.le_refl _) ?_
  refine z_top (show _ = nI k from if_neg (nI_nlt hk (by omega))) ?_
  refine z_mmax (n := 14) (idx := 35) (by decide +kernel) jl_X7_35 (Nat.le_of_ble_eq_true rfl) (by omega) (Nat.le_refl _) (Nat.le_refl _) ?_
  refine z_top (show _ = nI k by by_cases e : k = 0; (subst e; rfl); exact if_pos (nI_lt (a := 0) (by omega) (by omega))) ?_
  refine z_putf (n := 17) (idx := 38) (ty := .int) (by decide +kernel) fl_X7_38 (by first | assumption | (simp (disch := omega) only [hu_s, hu_n]; first | assumption | rfl)) ⟨_, _, _, rfl, rfl, by decide +kernel⟩ rfl rfl (Nat.le_of_ble_eq_true rfl) ?_
  refine z_heap (h1 := hFl h S N k tl pl ly up 0) (by rw [hFl, cpN_0, cpN_0, cpN_0, hu_self (i := S + 1), hu_self (i := S + 2), hu_self (i := S + 3)]; rfl; all_goals (simp (disch := omega) only [hu_n]; assumption)) ?_
  refine z_iconst (n := 18) (q := 0) (v := 0) (by decide +kernel) ?_
  refine z_ist2 (n := 19) (by decide +kernel) rfl ?_
  refine loopZ (k := k) (fun u => Z G m_X7_layFlat d 0 0 0 0 19 [some (.ref S), some (.int (nI k)), some (.int (nI u))] [] (hFl h S N k tl pl ly up u) (RE none (hFl h S N k tl pl ly up k))) ?_ ?_ 0 (Nat.zero_le k)
  · refine z_ild2 (n := 20) (by decide +kernel) ?_
    refine z_ald0 (n := 21) (by decide +kernel) ?_
    refine z_getf (n := 24) (idx := 38) (by decide +kernel) fl_X7_38 (by unfold hFl; simp (disch := omega) only [hu_s, hu_n]; first | assumption | rfl) (by rfl) ?_
    refine z_icmp_ge_t (n := 27) (off := 30) (tgt := 54) (by decide +kernel) (nI_le (Nat.le_refl k) (by omega)) ?_
    refine z_vret (by decide +kernel) rfl (Nat.le_refl _) ?_
    exact ⟨rfl, rfl⟩
  · intro u ul ih
    refine z_ild2 (n := 20) (by decide +kernel) ?_
    refine z_ald0 (n := 21) (by decide +kernel) ?_
    refine z_getf (n := 24) (idx := 38) (by decide +kernel) fl_X7_38 (by unfold hFl; simp (disch := omega) only [hu_s, hu_n]; first | assumption | rfl) (by rfl) ?_
    refine z_icmp_ge_f (n := 27) (off := 30) (tgt := 54) (by decide +kernel) (nI_ge ul (by omega)) ?_
    refine z_ald0 (n := 28) (by decide +kernel) ?_
    refine z_getf (n := 31) (idx := 9) (by decide +kernel) fl_X7_9 (by unfold hFl; simp (disch := omega) only [hu_s, hu_n]; first | assumption | rfl) (by rfl) ?_
    refine z_ild2 (n := 32) (by decide +kernel) ?_
    refine z_ild2 (n := 33) (by decide +kernel) ?_
    refine z_iast (n := 34) (by decide +kernel) (by unfold hFl; simp (disch := omega) only [hu_s, hu_n]; first | assumption | rfl) (by first | assumption | exact ix_nI (by omega) (by omega)) ?_
    refine z_ald0 (n := 35) (by decide +kernel) ?_
    refine z_getf (n := 38) (idx := 15) (by decide +kernel) fl_X7_15 (by unfold hFl; simp (disch := omega) only [hu_s, hu_n]; first | assumption | rfl) (by rfl) ?_
    refine z_ild2 (n := 39) (by decide +kernel) ?_
    refine z_iconst (n := 40) (q := 0) (v := 0) (by decide +kernel) ?_
    refine z_iast (n := 41) (by decide +kernel) (by unfold hFl; simp (disch := omega) only [hu_s, hu_n]; first | assumption | rfl) (by first | assumption | exact ix_nI (by omega) (by omega)) ?_
    refine z_ald0 (n := 42) (by decide +kernel) ?_
    refine z_getf (n := 45) (idx := 18) (by decide +kernel) fl_X7_18 (by unfold hFl; simp (disch := omega) only [hu_s, hu_n]; first | assumption | rfl) (by rfl) ?_
    refine z_ild2 (n := 46) (by decide +kernel) ?_
    refine z_iconst (n := 47) (q := 1) (v := 1) (by decide +kernel) ?_
    refine z_zast (n := 48) (by decide +kernel) (by unfold hFl; simp (disch := omega) only [hu_s, hu_n]; first | assumption | rfl) (by first | assumption | exact ix_nI (by omega) (by omega)) (by first | exact bI_t.symm | exact bI_f.symm | rfl) ?_
    refine z_inc2 (n := 51) (q := 1) (by decide +kernel) rfl (nI_1 _) ?_
    refine z_goto (n := 54) (off := -32) (tgt := 19) (by decide +kernel) ?_
    refine z_heap (h1 := hFl h S N k tl pl ly up (u + 1)) ?_ ih
    unfold hFl
    have e1 := cpN_s nI pl u
    have e2 := cpN_s (fun _ => 0) ly u
    have e3 := cpN_sB (fun _ => true) up u
    funext j9
    by_cases e90 : j9 = S + 1
    · subst e90; simp [hu, e1, e2, e3]
    by_cases e91 : j9 = S + 2
    · subst e91; simp [hu, e1, e2, e3]
    by_cases e92 : j9 = S + 3
    · subst e92; simp [hu, e1, e2, e3]
    simp [hu, e90, e91, e92]
theorem k_stripCopy {G : mG} {h : mH} {S S' N N' k : Nat} {sz tl tl' : Int32} {pl ly pl' ly' : Nat → Int32} {up up' : Nat → Bool} (d : Nat) (hd : 1 ≤ d) (hS : h S = oStrip S sz tl) (hP : h (S + 1) = aI N pl) (hL : h (S + 2) = aI N ly) (hU : h (S + 3) = aZ N up) (hS' : h S' = oStrip S' (nI k) tl') (hP' : h (S' + 1) = aI N' pl') (hL' : h (S' + 2) = aI N' ly') (hU' : h (S' + 3) = aZ N' up') (hk : k ≤ N) (hk' : k ≤ N') (hN : N < 2 ^ 31) (hap : S + 4 < S' ∨ S' + 4 < S) : EV G m_X7_copyFrom d 0 0 [.ref S, .ref S'] h (RE none (hu (hu (hu (hu h S (oStrip S (nI k) tl)) (S + 1) (aI N (cpN pl' pl k))) (S + 2) (aI N (cpN ly' ly k))) (S + 3) (aZ N (cpN up' up k)))) := by
  refine ev_2_0 rfl rfl (by decide +kernel) (by decide +kernel) ?_
  refine z_ald0 (n := 1) (by decide +kernel) ?_
  refine z_ald1 (n := 2) (by decide +kernel) ?_
  refine z_getf (n := 5) (idx := 38) (by decide +kernel) fl_X7_38 (by first | assumption | (simp (disch := omega) only [hu_s, hu_n]; first | assumption | rfl)) (by rfl) ?_
  refine z_ald0 (n := 6) (by decide +kernel) ?_
  refine z_getf (n := 9) (idx := 9) (by decide +kernel) fl_X7_9 (by first | assumption | (simp (disch := omega) only [hu_s, hu_n]; first | assumption | rfl)) (by rfl) ?_
  refine z_alenI (n := 10) (by decide +kernel) (by first | assumption | (simp (disch := omega) only [hu_s, hu_n]; first | assumption | rfl)) ?_
  refine z_mmin (n := 13) (idx := 29) (by decide +kernel) jl_X7_29 (Nat.le_of_ble_eq_true rfl) (by omega) (Nat.le_refl _) (Nat.le_refl _) ?_
  refine z_top (show _ = nI k from if_neg (nI_nlt hk (by omega))) ?_
  refine z_putf (n := 16) (idx := 38) (ty := .int) (by decide +kernel) fl_X7_38 (by first | assumption | (simp (disch := omega) only [hu_s, hu_n]; first | assumption | rfl)) ⟨_, _, _, rfl, rfl, by decide +kernel⟩ rfl rfl (Nat.le_of_ble_eq_true rfl) ?_
  refine z_heap (h1 := hu h S (oStrip S (nI k) tl)) rfl ?_
  refine z_ald1 (n := 17) (by decide +kernel) ?_
  refine z_getf (n := 20) (idx := 9) (by decide +kernel) fl_X7_9 (by first | assumption | (simp (disch := omega) only [hu_s, hu_n]; first | assumption | rfl)) (by rfl) ?_
  refine z_iconst (n := 21) (q := 0) (v := 0) (by decide +kernel) ?_
  refine z_ald0 (n := 22) (by decide +kernel) ?_
  refine z_getf (n := 25) (idx := 9) (by decide +kernel) fl_X7_9 (by first | assumption | (simp (disch := omega) only [hu_s, hu_n]; first | assumption | rfl)) (by rfl) ?_
  refine z_iconst (n := 26) (q := 0) (v := 0) (by decide +kernel) ?_
  refine z_ald0 (n := 27) (by decide +kernel) ?_
  refine z_getf (n := 30) (idx := 38) (by decide +kernel) fl_X7_38 (by first | assumption | (simp (disch := omega) only [hu_s, hu_n]; first | assumption | rfl)) (by rfl) ?_
  refine z_cpyI (n := 33) (idx := 42) (by decide +kernel) jl_X7_42 (Nat.le_of_ble_eq_true rfl) (by omega) (by first | assumption | (simp (disch := omega) only [hu_s, hu_n]; first | assumption | rfl)) (by first | assumption | (simp (disch := omega) only [hu_s, hu_n]; first | assumption | rfl)) (by omega) (by omega) (by omega) ?_
  refine z_ald1 (n := 34) (by decide +kernel) ?_
  refine z_getf (n := 37) (idx := 15) (by decide +kernel) fl_X7_15 (by first | assumption | (simp (disch := omega) only [hu_s, hu_n]; first | assumption | rfl)) (by rfl) ?_
  refine z_iconst (n := 38) (q := 0) (v := 0) (by decide +kernel) ?_
  refine z_ald0 (n := 39) (by decide +kernel) ?_
  refine z_getf (n := 42) (idx := 15) (by decide +kernel) fl_X7_15 (by first | assumption | (simp (disch := omega) only [hu_s, hu_n]; first | assumption | rfl)) (by rfl) ?_
  refine z_iconst (n := 43) (q := 0) (v := 0) (by decide +kernel) ?_
  refine z_ald0 (n := 44) (by decide +kernel) ?_
  refine z_getf (n := 47) (idx := 38) (by decide +kernel) fl_X7_38 (by first | assumption | (simp (disch := omega) only [hu_s, hu_n]; first | assumption | rfl)) (by rfl) ?_
  refine z_cpyI (n := 50) (idx := 42) (by decide +kernel) jl_X7_42 (Nat.le_of_ble_eq_true rfl) (by omega) (by first | assumption | (simp (disch := omega) only [hu_s, hu_n]; first | assumption | rfl)) (by first | assumption | (simp (disch := omega) only [hu_s, hu_n]; first | assumption | rfl)) (by omega) (by omega) (by omega) ?_
  refine z_ald1 (n := 51) (by decide +kernel) ?_
  refine z_getf (n := 54) (idx := 18) (by decide +kernel) fl_X7_18 (by first | assumption | (simp (disch := omega) only [hu_s, hu_n]; first | assumption | rfl)) (by rfl) ?_
  refine z_iconst (n := 55) (q := 0) (v := 0) (by decide +kernel) ?_
  refine z_ald0 (n := 56) (by decide +kernel) ?_
  refine z_getf (n := 59) (idx := 18) (by decide +kernel) fl_X7_18 (by first | assumption | (simp (disch := omega) only [hu_s, hu_n]; first | assumption | rfl)) (by rfl) ?_
  refine z_iconst (n := 60) (q := 0) (v := 0) (by decide +kernel) ?_
  refine z_ald0 (n := 61) (by decide +kernel) ?_
  refine z_getf (n := 64) (idx := 38) (by decide +kernel) fl_X7_38 (by first | assumption | (simp (disch := omega) only [hu_s, hu_n]; first | assumption | rfl)) (by rfl) ?_
  refine z_cpyZ (n := 67) (idx := 42) (by decide +kernel) jl_X7_42 (Nat.le_of_ble_eq_true rfl) (by omega) (by first | assumption | (simp (disch := omega) only [hu_s, hu_n]; first | assumption | rfl)) (by first | assumption | (simp (disch := omega) only [hu_s, hu_n]; first | assumption | rfl)) (by omega) (by omega) (by omega) ?_
  refine z_vret (by decide +kernel) rfl (Nat.le_refl _) ?_
  exact ⟨rfl, rfl⟩
/-- how high each place is: the heights behind u cells -/
def tHt (ht pl : Nat → Int32) (N : Nat) (lo : Int32) (u : Nat) : Nat → Int32 := cpN (fun i => nI (cnt (fun v => pl v - lo) (nI i) u)) ht N
theorem k_tally {G : mG} {h : mH} {S N k : Nat} {tl : Int32} {pl ht : Nat → Int32} (d : Nat) (hd : 1 ≤ d) (hS : h S = oStrip S (nI k) tl) (hP : h (S + 1) = aI N pl) (hT : h (S + 4) = aI N ht) (h1 : 1 ≤ k) (hk : k ≤ N) (hN : N < 2 ^ 31) : EV G m_X7_tally d 0 0 [.ref S] h (RE none (hu (hu h S (oStrip S (nI k) (mnF pl k))) (S + 4) (aI N (tHt ht pl N (mnF pl k) k)))) := by
  refine ev_1_2 rfl (by decide +kernel) (by decide +kernel) ?_
  refine z_ald0 (n := 1) (by decide +kernel) ?_
  refine z_ald0 (n := 2) (by decide +kernel) ?_
  refine z_v0 (n := 5) (idx := 48) (by decide +kernel) ml_X7_48 (by first | assumption | (simp (disch := omega) only [hu_s, hu_n]; first | assumption | rfl)) rfl (Nat.le_of_ble_eq_true rfl) (by omega) ⟨Nat.le_refl _, Nat.le_refl _⟩ (k_lowestPlace 0 hS hP h1 hk hN) ?_
  refine z_putf (n := 8) (idx := 55) (ty := .int) (by decide +kernel) fl_X7_55 (by first | assumption | (simp (disch := omega) only [hu_s, hu_n]; first | assumption | rfl)) ⟨_, _, _, rfl, rfl, by decide +kernel⟩ rfl rfl (Nat.le_of_ble_eq_true rfl) ?_
  refine z_heap (h1 := hu (hu h S (oStrip S (nI k) (mnF pl k))) (S + 4) (aI N (cpN (fun _ => 0) ht 0))) (by rw [cpN_0, hu_self (i := S + 4)]; rfl; simp (disch := omega) only [hu_n]; assumption) ?_
  refine z_iconst (n := 9) (q := 0) (v := 0) (by decide +kernel) ?_
  refine z_ist1 (n := 10) (by decide +kernel) rfl ?_
  refine loopZ (k := N) (fun u => Z G m_X7_tally d 0 0 0 0 10 [some (.ref S), some (.int (nI u)), none] [] (hu (hu h S (oStrip S (nI k) (mnF pl k))) (S + 4) (aI N (cpN (fun _ => 0) ht u))) (RE none (hu (hu h S (oStrip S (nI k) (mnF pl k))) (S + 4) (aI N (tHt ht pl N (mnF pl k) k))))) ?_ ?_ 0 (Nat.zero_le N)
  · refine z_ild1 (n := 11) (by decide +kernel) ?_
    refine z_ald0 (n := 12) (by decide +kernel) ?_
    refine z_getf (n := 15) (idx := 22) (by decide +kernel) fl_X7_22 (by first | assumption | (simp (disch := omega) only [hu_s, hu_n]; first | assumption | rfl)) (by rfl) ?_
    refine z_alenI (n := 16) (by decide +kernel) (by first | assumption | (simp (disch := omega) only [hu_s, hu_n]; first | assumption | rfl)) ?_
    refine z_icmp_ge_t (n := 19) (off := 16) (tgt := 32) (by decide +kernel) (nI_le (Nat.le_refl N) (by omega)) ?_
    refine z_iconst (n := 33) (q := 0) (v := 0) (by decide +kernel) ?_
    refine z_ist1 (n := 34) (by decide +kernel) rfl ?_
    refine loopZ (k := k) (fun u => Z G m_X7_tally d 0 0 0 0 34 [some (.ref S), some (.int (nI u)), none] [] (hu (hu h S (oStrip S (nI k) (mnF pl k))) (S + 4) (aI N (tHt ht pl N (mnF pl k) u))) (RE none (hu (hu h S (oStrip S (nI k) (mnF pl k))) (S + 4) (aI N (tHt ht pl N (mnF pl k) k))))) ?_ ?_ 0 (Nat.zero_le k)
    · refine z_ild1 (n := 35) (by decide +kernel) ?_
      refine z_ald0 (n := 36) (by decide +kernel) ?_
      refine z_getf (n := 39) (idx := 38) (by decide +kernel) fl_X7_38 (by first | assumption | (simp (disch := omega) only [hu_s, hu_n]; first | assumption | rfl)) (by rfl) ?_
      refine z_icmp_ge_t (n := 42) (off := 44) (tgt := 83) (by decide +kernel) (nI_le (Nat.le_refl k) (by omega)) ?_
      refine z_vret (by decide +kernel) rfl (Nat.le_refl _) ?_
      exact ⟨rfl, rfl⟩
    · intro u ul ih
      have nj : ∀ j : Nat, j < N → (pl u - mnF pl k < 0 ∨ nI N ≤ pl u - mnF pl k) → ¬ pl u - mnF pl k = nI j := by
        intro j hj hc e
        rw [e] at hc
        rcases hc with hc | hc
        · exact nI_pos (by omega) hc
        · exact nI_ge hj (by omega) hc
      have same : (pl u - mnF pl k < 0 ∨ nI N ≤ pl u - mnF pl k) → tHt ht pl N (mnF pl k) (u + 1) = tHt ht pl N (mnF pl k) u := by
        intro hc
        funext j
        by_cases hj : j < N
        · simp [tHt, cpN, hj, cnt, nj j hj hc]
        · simp [tHt, cpN, hj]
      have one : ¬ pl u - mnF pl k < 0 → ¬ nI N ≤ pl u - mnF pl k → upd (tHt ht pl N (mnF pl k) u) (pl u - mnF pl k).toNatClampNeg (tHt ht pl N (mnF pl k) u (pl u - mnF pl k).toNatClampNeg + 1) = tHt ht pl N (mnF pl k) (u + 1) := by
        intro h0 h9
        obtain ⟨i, hi, e, -, e2, -⟩ := pk_mu h0 h9 hN
        rw [e2]
        funext j
        by_cases hj : j < N
        · by_cases hji : j = i
          · subst hji
            simp [tHt, cpN, hj, cnt, upd, e, nI_1]
          · have : ¬ nI i = nI j := fun q => hji ((nI_eq (by omega) (by omega)).mp q).symm
            simp [tHt, cpN, hj, cnt, upd, e, hji, this]
        · have : j ≠ i := by omega
          simp [tHt, cpN, hj, upd, this]
      refine z_ild1 (n := 35) (by decide +kernel) ?_
      refine z_ald0 (n := 36) (by decide +kernel) ?_
      refine z_getf (n := 39) (idx := 38) (by decide +kernel) fl_X7_38 (by first | assumption | (simp (disch := omega) only [hu_s, hu_n]; first | assumption | rfl)) (by rfl) ?_
      refine z_icmp_ge_f (n := 42) (off := 44) (tgt := 83) (by decide +kernel) (nI_ge ul (by omega)) ?_
      refine z_ald0 (n := 43) (by decide +kernel) ?_
      refine z_getf (n := 46) (idx := 9) (by decide +kernel) fl_X7_9 (by first | assumption | (simp (disch := omega) only [hu_s, hu_n]; first | assumption | rfl)) (by rfl) ?_
      refine z_ild1 (n := 47) (by decide +kernel) ?_
      refine z_iald (n := 48) (by decide +kernel) (by first | assumption | (simp (disch := omega) only [hu_s, hu_n]; first | assumption | rfl)) (by first | assumption | exact ix_nI (by omega) (by omega)) ?_
      refine z_ald0 (n := 49) (by decide +kernel) ?_
      refine z_getf (n := 52) (idx := 55) (by decide +kernel) fl_X7_55 (by first | assumption | (simp (disch := omega) only [hu_s, hu_n]; first | assumption | rfl)) (by rfl) ?_
      refine z_isub (n := 53) (by decide +kernel) ?_
      refine z_ist2 (n := 54) (by decide +kernel) rfl ?_
      refine z_ild2 (n := 55) (by decide +kernel) ?_
      refine z_if_lt (n := 58) (off := 22) (tgt := 77) (by decide +kernel) (fun c55 => ?_) (fun c55 => ?_)
      · refine z_inc1 (n := 80) (q := 1) (by decide +kernel) rfl (nI_1 _) ?_
        refine z_goto (n := 83) (off := -46) (tgt := 34) (by decide +kernel) ?_
        exact z_wk (lv' := [some (.ref S), some (.int (nI (u + 1))), none]) (by simp [wk]) (z_heap (by first | rw [same (Or.inl c55)] | rw [same (Or.inr c64)] | rw [hu_hu, one c55 c64]) ih)
      · refine z_ild2 (n := 59) (by decide +kernel) ?_
        refine z_ald0 (n := 60) (by decide +kernel) ?_
        refine z_getf (n := 63) (idx := 22) (by decide +kernel) fl_X7_22 (by first | assumption | (simp (disch := omega) only [hu_s, hu_n]; first | assumption | rfl)) (by rfl) ?_
        refine z_alenI (n := 64) (by decide +kernel) (by first | assumption | (simp (disch := omega) only [hu_s, hu_n]; first | assumption | rfl)) ?_
        refine z_icmp_ge (n := 67) (off := 13) (tgt := 77) (by decide +kernel) (fun c64 => ?_) (fun c64 => ?_)
        · refine z_inc1 (n := 80) (q := 1) (by decide +kernel) rfl (nI_1 _) ?_
          refine z_goto (n := 83) (off := -46) (tgt := 34) (by decide +kernel) ?_
          exact z_wk (lv' := [some (.ref S), some (.int (nI (u + 1))), none]) (by simp [wk]) (z_heap (by first | rw [same (Or.inl c55)] | rw [same (Or.inr c64)] | rw [hu_hu, one c55 c64]) ih)
        · refine z_ald0 (n := 68) (by decide +kernel) ?_
          refine z_getf (n := 71) (idx := 22) (by decide +kernel) fl_X7_22 (by first | assumption | (simp (disch := omega) only [hu_s, hu_n]; first | assumption | rfl)) (by rfl) ?_
          refine z_ild2 (n := 72) (by decide +kernel) ?_
          refine z_dup2 (n := 73) (by decide +kernel) rfl rfl ?_
          refine z_iald (n := 74) (by decide +kernel) (by first | assumption | (simp (disch := omega) only [hu_s, hu_n]; first | assumption | rfl)) (by exact ix_rng c55 c64 hN) ?_
          refine z_iconst (n := 75) (q := 1) (v := 1) (by decide +kernel) ?_
          refine z_iadd (n := 76) (by decide +kernel) ?_
          refine z_iast (n := 77) (by decide +kernel) (by first | assumption | (simp (disch := omega) only [hu_s, hu_n]; first | assumption | rfl)) (by exact ix_rng c55 c64 hN) ?_
          refine z_inc1 (n := 80) (q := 1) (by decide +kernel) rfl (nI_1 _) ?_
          refine z_goto (n := 83) (off := -46) (tgt := 34) (by decide +kernel) ?_
          exact z_wk (lv' := [some (.ref S), some (.int (nI (u + 1))), none]) (by simp [wk]) (z_heap (by first | rw [same (Or.inl c55)] | rw [same (Or.inr c64)] | rw [hu_hu, one c55 c64]) ih)
  · intro u ul ih
    refine z_ild1 (n := 11) (by decide +kernel) ?_
    refine z_ald0 (n := 12) (by decide +kernel) ?_
    refine z_getf (n := 15) (idx := 22) (by decide +kernel) fl_X7_22 (by first | assumption | (simp (disch := omega) only [hu_s, hu_n]; first | assumption | rfl)) (by rfl) ?_
    refine z_alenI (n := 16) (by decide +kernel) (by first | assumption | (simp (disch := omega) only [hu_s, hu_n]; first | assumption | rfl)) ?_
    refine z_icmp_ge_f (n := 19) (off := 16) (tgt := 32) (by decide +kernel) (nI_ge ul (by omega)) ?_
    refine z_ald0 (n := 20) (by decide +kernel) ?_
    refine z_getf (n := 23) (idx := 22) (by decide +kernel) fl_X7_22 (by first | assumption | (simp (disch := omega) only [hu_s, hu_n]; first | assumption | rfl)) (by rfl) ?_
    refine z_ild1 (n := 24) (by decide +kernel) ?_
    refine z_iconst (n := 25) (q := 0) (v := 0) (by decide +kernel) ?_
    refine z_iast (n := 26) (by decide +kernel) (by first | assumption | (simp (disch := omega) only [hu_s, hu_n]; first | assumption | rfl)) (by first | assumption | exact ix_nI (by omega) (by omega)) ?_
    refine z_inc1 (n := 29) (q := 1) (by decide +kernel) rfl (nI_1 _) ?_
    refine z_goto (n := 32) (off := -19) (tgt := 10) (by decide +kernel) ?_
    refine z_heap ?_ ih
    rw [hu_hu, cpN_s (fun _ => 0) ht u]
/-- the greatest of the first u, 0 at least -/
def tlF (g : Nat → Int32) : Nat → Int32
  | 0 => 0
  | u + 1 => if tlF g u < g u then g u else tlF g u
theorem k_tallestFolded {G : mG} {h : mH} {S N k : Nat} {tl x : Int32} {pl ht : Nat → Int32} (d : Nat) (hd : 1 ≤ d) (hS : h S = oStrip S (nI k) tl) (hP : h (S + 1) = aI N pl) (hT : h (S + 4) = aI N ht) (hk : k ≤ N) (hN : N < 2 ^ 31) : EV G m_X7_tallestFolded d 0 0 [.ref S, .int x] h (RE (some (.int (tlF (fun u => hgt ht N tl (pl u) + hgt ht N tl (2 * x - 1 - pl u)) k))) h) := by
  refine ev_2_3 rfl rfl (by decide +kernel) (by decide +kernel) ?_
  refine z_iconst (n := 1) (q := 0) (v := 0) (by decide +kernel) ?_
  refine z_ist2 (n := 2) (by decide +kernel) rfl ?_
  refine z_iconst (n := 3) (q := 0) (v := 0) (by decide +kernel) ?_
  refine z_ist3 (n := 4) (by decide +kernel) rfl ?_
  refine loopZ (k := k) (fun u => Z G m_X7_tallestFolded d 0 0 0 0 4 [some (.ref S), some (.int x), some (.int (tlF (fun u => hgt ht N tl (pl u) + hgt ht N tl (2 * x - 1 - pl u)) u)), some (.int (nI u)), none] [] h (RE (some (.int (tlF (fun u => hgt ht N tl (pl u) + hgt ht N tl (2 * x - 1 - pl u)) k))) h)) ?_ ?_ 0 (Nat.zero_le k)
  · refine z_ild3 (n := 5) (by decide +kernel) ?_
    refine z_ald0 (n := 6) (by decide +kernel) ?_
    refine z_getf (n := 9) (idx := 38) (by decide +kernel) fl_X7_38 (by assumption) (by rfl) ?_
    refine z_icmp_ge_t (n := 12) (off := 45) (tgt := 54) (by decide +kernel) (nI_le (Nat.le_refl k) (by omega)) ?_
    refine z_ild2 (n := 55) (by decide +kernel) ?_
    refine z_iret (by decide +kernel) rfl (Nat.le_refl _) ?_
    exact ⟨rfl, rfl⟩
  · intro u ul ih
    refine z_ild3 (n := 5) (by decide +kernel) ?_
    refine z_ald0 (n := 6) (by decide +kernel) ?_
    refine z_getf (n := 9) (idx := 38) (by decide +kernel) fl_X7_38 (by assumption) (by rfl) ?_
    refine z_icmp_ge_f (n := 12) (off := 45) (tgt := 54) (by decide +kernel) (nI_ge ul (by omega)) ?_
    refine z_ald0 (n := 13) (by decide +kernel) ?_
    refine z_ald0 (n := 14) (by decide +kernel) ?_
    refine z_getf (n := 17) (idx := 9) (by decide +kernel) fl_X7_9 (by assumption) (by rfl) ?_
    refine z_ild3 (n := 18) (by decide +kernel) ?_
    refine z_iald (n := 19) (by decide +kernel) (by assumption) (by first | assumption | exact ix_nI (by omega) (by omega)) ?_
    refine z_v1 (n := 22) (idx := 58) (by decide +kernel) ml_X7_58 (by assumption) rfl (Nat.le_of_ble_eq_true rfl) (by omega) ⟨Nat.le_refl _, Nat.le_refl _⟩ (k_heightOf 0 hS hT hN) ?_
    refine z_ald0 (n := 23) (by decide +kernel) ?_
    refine z_iconst (n := 24) (q := 2) (v := 2) (by decide +kernel) ?_
    refine z_ild1 (n := 25) (by decide +kernel) ?_
    refine z_imul (n := 26) (by decide +kernel) ?_
    refine z_iconst (n := 27) (q := 1) (v := 1) (by decide +kernel) ?_
    refine z_isub (n := 28) (by decide +kernel) ?_
    refine z_ald0 (n := 29) (by decide +kernel) ?_
    refine z_getf (n := 32) (idx := 9) (by decide +kernel) fl_X7_9 (by assumption) (by rfl) ?_
    refine z_ild3 (n := 33) (by decide +kernel) ?_
    refine z_iald (n := 34) (by decide +kernel) (by assumption) (by first | assumption | exact ix_nI (by omega) (by omega)) ?_
    refine z_isub (n := 35) (by decide +kernel) ?_
    refine z_v1 (n := 38) (idx := 58) (by decide +kernel) ml_X7_58 (by assumption) rfl (Nat.le_of_ble_eq_true rfl) (by omega) ⟨Nat.le_refl _, Nat.le_refl _⟩ (k_heightOf 0 hS hT hN) ?_
    refine z_iadd (n := 39) (by decide +kernel) ?_
    refine z_ist4 (n := 41) (by decide +kernel) rfl ?_
    refine z_ild2 (n := 42) (by decide +kernel) ?_
    refine z_ild4 (n := 44) (by decide +kernel) ?_
    refine z_mmax (n := 47) (idx := 35) (by decide +kernel) jl_X7_35 (Nat.le_of_ble_eq_true rfl) (by omega) (Nat.le_refl _) (Nat.le_refl _) ?_
    refine z_ist2 (n := 48) (by decide +kernel) rfl ?_
    refine z_inc3 (n := 51) (q := 1) (by decide +kernel) rfl (nI_1 _) ?_
    refine z_goto (n := 54) (off := -47) (tgt := 4) (by decide +kernel) ?_
    exact z_wk (lv' := [some (.ref S), some (.int x), some (.int (tlF (fun u => hgt ht N tl (pl u) + hgt ht N tl (2 * x - 1 - pl u)) (u + 1))), some (.int (nI (u + 1))), none]) (by simp [wk, tlF]) ih
/-- does a cell in the place y move, when it is folded at x -/
def mvs (y x : Int32) (right : Bool) : Bool := (!decide (y < x)) == right
theorem mvs_a {y x : Int32} {right : Bool} (c : y < x) (e : (0 : Int32) = bI right) : mvs y x right = true := by
  cases right
  · simp [mvs, c]
  · exact absurd e (by decide)
theorem mvs_b {y x : Int32} {right : Bool} (c : ¬ y < x) (e : (1 : Int32) = bI right) : mvs y x right = true := by
  cases right
  · exact absurd e (by decide)
  · simp only [mvs, eq_false c, decide_false]; rfl
theorem mvs_c {y x : Int32} {right : Bool} (c : y < x) (e : ¬ (0 : Int32) = bI right) : mvs y x right = false := by
  cases right
  · exact absurd rfl e
  · simp [mvs, c]
theorem mvs_d {y x : Int32} {right : Bool} (c : ¬ y < x) (e : ¬ (1 : Int32) = bI right) : mvs y x right = false := by
  cases right
  · simp only [mvs, eq_false c, decide_false]; rfl
  · exact absurd rfl e
def tPl (pl : Nat → Int32) (x : Int32) (right : Bool) (u : Nat) : Nat → Int32 := fun j => if j < u ∧ mvs (pl j) x right = true then 2 * x - 1 - pl j else pl j
def tLy (H : Int32 → Int32) (pl ly : Nat → Int32) (x : Int32) (right : Bool) (u : Nat) : Nat → Int32 := fun j => if j < u ∧ mvs (pl j) x right = true then H (2 * x - 1 - pl j) + H (pl j) - 1 - ly j else ly j
def tUp (pl : Nat → Int32) (up : Nat → Bool) (x : Int32) (right : Bool) (u : Nat) : Nat → Bool := fun j => if j < u ∧ mvs (pl j) x right = true then !up j else up j
theorem tPl_u (pl : Nat → Int32) (x : Int32) (right : Bool) (u : Nat) : tPl pl x right u u = pl u := by simp [tPl]
theorem tLy_u (H : Int32 → Int32) (pl ly : Nat → Int32) (x : Int32) (right : Bool) (u : Nat) : tLy H pl ly x right u u = ly u := by simp [tLy]
theorem tUp_u (pl : Nat → Int32) (up : Nat → Bool) (x : Int32) (right : Bool) (u : Nat) : tUp pl up x right u u = up u := by simp [tUp]
theorem tPl_0 (pl : Nat → Int32) (x : Int32) (right : Bool) : tPl pl x right 0 = pl := by funext j; simp [tPl]
theorem tLy_0 (H : Int32 → Int32) (pl ly : Nat → Int32) (x : Int32) (right : Bool) : tLy H pl ly x right 0 = ly := by funext j; simp [tLy]
theorem tUp_0 (pl : Nat → Int32) (up : Nat → Bool) (x : Int32) (right : Bool) : tUp pl up x right 0 = up := by funext j; simp [tUp]
theorem t_and {j u : Nat} {b : Prop} (hj : j ≠ u) : (j < u + 1 ∧ b) ↔ (j < u ∧ b) := by
  constructor
  · exact fun ⟨a, c⟩ => ⟨by omega, c⟩
  · exact fun ⟨a, c⟩ => ⟨by omega, c⟩
theorem tPl_n {pl : Nat → Int32} {x : Int32} {right : Bool} {u : Nat} (h : mvs (pl u) x right = false) : tPl pl x right (u + 1) = tPl pl x right u := by
  funext j
  by_cases e : j = u
  · subst e; simp [tPl, h]
  · simp only [tPl, t_and e]
theorem tLy_n {H : Int32 → Int32} {pl ly : Nat → Int32} {x : Int32} {right : Bool} {u : Nat} (h : mvs (pl u) x right = false) : tLy H pl ly x right (u + 1) = tLy H pl ly x right u := by
  funext j
  by_cases e : j = u
  · subst e; simp [tLy, h]
  · simp only [tLy, t_and e]
theorem tUp_n {pl : Nat → Int32} {up : Nat → Bool} {x : Int32} {right : Bool} {u : Nat} (h : mvs (pl u) x right = false) : tUp pl up x right (u + 1) = tUp pl up x right u := by
  funext j
  by_cases e : j = u
  · subst e; simp [tUp, h]
  · simp only [tUp, t_and e]
theorem tPl_y {pl : Nat → Int32} {x : Int32} {right : Bool} {u : Nat} (h : mvs (pl u) x right = true) : upd (tPl pl x right u) u (2 * x - 1 - pl u) = tPl pl x right (u + 1) := by
  funext j
  by_cases e : j = u
  · subst e; simp [tPl, h, upd]
  · simp only [upd, if_neg e, tPl, t_and e]
theorem tLy_y {H : Int32 → Int32} {pl ly : Nat → Int32} {x : Int32} {right : Bool} {u : Nat} (h : mvs (pl u) x right = true) : upd (tLy H pl ly x right u) u (H (2 * x - 1 - pl u) + H (pl u) - 1 - ly u) = tLy H pl ly x right (u + 1) := by
  funext j
  by_cases e : j = u
  · subst e; simp [tLy, h, upd]
  · simp only [upd, if_neg e, tLy, t_and e]
theorem tUp_y {pl : Nat → Int32} {up : Nat → Bool} {x : Int32} {right : Bool} {u : Nat} (h : mvs (pl u) x right = true) : updB (tUp pl up x right u) u (!up u) = tUp pl up x right (u + 1) := by
  funext j
  by_cases e : j = u
  · subst e; simp [tUp, h, updB]
  · simp only [updB, if_neg e, tUp, t_and e]
def hTn (h : mH) (S N : Nat) (tl : Int32) (pl ly ht : Nat → Int32) (up : Nat → Bool) (x : Int32) (right : Bool) (u : Nat) : mH := hu (hu (hu h (S + 1) (aI N (tPl pl x right u))) (S + 2) (aI N (tLy (hgt ht N tl) pl ly x right u))) (S + 3) (aZ N (tUp pl up x right u))
theorem hTn_0 {h : mH} {S N : Nat} {tl : Int32} {pl ly ht : Nat → Int32} {up : Nat → Bool} {x : Int32} {right : Bool} (hP : h (S + 1) = aI N pl) (hL : h (S + 2) = aI N ly) (hU : h (S + 3) = aZ N up) : h = hTn h S N tl pl ly ht up x right 0 := by
  rw [hTn, tPl_0, tLy_0, tUp_0, hu_self hP, hu_self hL, hu_self hU]
theorem k_turnOver {G : mG} {h : mH} {S N k : Nat} {tl x : Int32} {pl ly ht : Nat → Int32} {up : Nat → Bool} {right : Bool} (d : Nat) (hd : 1 ≤ d) (hS : h S = oStrip S (nI k) tl) (hP : h (S + 1) = aI N pl) (hL : h (S + 2) = aI N ly) (hU : h (S + 3) = aZ N up) (hT : h (S + 4) = aI N ht) (hk : k ≤ N) (hN : N < 2 ^ 31) : EV G m_X7_turnOver d 0 0 [.ref S, .int x, .int (bI right)] h (RE none (hTn h S N tl pl ly ht up x right k)) := by
  refine ev_3_3 rfl rfl rfl (by decide +kernel) (by decide +kernel) ?_
  refine z_iconst (n := 1) (q := 0) (v := 0) (by decide +kernel) ?_
  refine z_ist3 (n := 2) (by decide +kernel) rfl ?_
  refine z_heap (hTn_0 (tl := tl) (ht := ht) (x := x) (right := right) hP hL hU) ?_
  refine loopZ (k := k) (fun u => Z G m_X7_turnOver d 0 0 0 0 2 [some (.ref S), some (.int x), some (.int (bI right)), some (.int (nI u)), none, none] [] (hTn h S N tl pl ly ht up x right u) (RE none (hTn h S N tl pl ly ht up x right k))) ?_ ?_ 0 (Nat.zero_le k)
  · refine z_ild3 (n := 3) (by decide +kernel) ?_
    refine z_ald0 (n := 4) (by decide +kernel) ?_
    refine z_getf (n := 7) (idx := 38) (by decide +kernel) fl_X7_38 (by unfold hTn; simp (disch := omega) only [hu_s, hu_n]; first | assumption | rfl) (by rfl) ?_
    refine z_icmp_ge_t (n := 10) (off := 102) (tgt := 109) (by decide +kernel) (nI_le (Nat.le_refl k) (by omega)) ?_
    refine z_vret (by decide +kernel) rfl (Nat.le_refl _) ?_
    exact ⟨rfl, rfl⟩
  · intro u ul ih
    have nm : mvs (pl u) x right = false → Z G m_X7_turnOver d 0 0 0 0 103 [some (.ref S), some (.int x), some (.int (bI right)), some (.int (nI u)), none, none] [] (hTn h S N tl pl ly ht up x right u) (RE none (hTn h S N tl pl ly ht up x right k)) := by
      intro hm
      refine z_inc3 (n := 106) (q := 1) (by decide +kernel) rfl (nI_1 _) ?_
      refine z_goto (n := 109) (off := -104) (tgt := 2) (by decide +kernel) ?_
      refine z_heap ?_ ih
      rw [hTn, hTn, tPl_n hm, tLy_n hm, tUp_n hm]
    have mv : mvs (pl u) x right = true → Z G m_X7_turnOver d 0 0 0 0 29 [some (.ref S), some (.int x), some (.int (bI right)), some (.int (nI u)), none, none] [] (hTn h S N tl pl ly ht up x right u) (RE none (hTn h S N tl pl ly ht up x right k)) := by
      intro hm
      have fin : ∀ b : Bool, (!up u) = b → hu (hu (hu (hTn h S N tl pl ly ht up x right u) (S + 1) (aI N (upd (tPl pl x right u) u (2 * x - 1 - pl u)))) (S + 2) (aI N (upd (tLy (hgt ht N tl) pl ly x right u) u (hgt ht N tl (2 * x - 1 - pl u) + hgt ht N tl (pl u) - 1 - ly u)))) (S + 3) (aZ N (updB (tUp pl up x right u) u b)) = hTn h S N tl pl ly ht up x right (u + 1) := by
        intro b hb
        subst hb
        have e3 := tUp_y (up := up) hm
        have e1 := tPl_y hm
        have e2 := tLy_y (H := hgt ht N tl) (ly := ly) hm
        unfold hTn
        funext j9
        by_cases e90 : j9 = S + 1
        · subst e90; simp [hu, e1, e2, e3]
        by_cases e91 : j9 = S + 2
        · subst e91; simp [hu, e1, e2, e3]
        by_cases e92 : j9 = S + 3
        · subst e92; simp [hu, e1, e2, e3]
        simp [hu, e90, e91, e92]
      refine z_ald0 (n := 30) (by decide +kernel) ?_
      refine z_getf (n := 33) (idx := 9) (by decide +kernel) fl_X7_9 (by unfold hTn; simp (disch := omega) only [hu_s, hu_n]; first | assumption | rfl) (by rfl) ?_
      refine z_ild3 (n := 34) (by decide +kernel) ?_
      refine z_iald (n := 35) (by decide +kernel) (by unfold hTn; simp (disch := omega) only [hu_s, hu_n]; first | assumption | rfl) (by first | assumption | exact ix_nI (by omega) (by omega)) ?_
      refine z_top (tPl_u _ _ _ _) ?_
      refine z_ist4 (n := 37) (by decide +kernel) rfl ?_
      refine z_iconst (n := 38) (q := 2) (v := 2) (by decide +kernel) ?_
      refine z_ild1 (n := 39) (by decide +kernel) ?_
      refine z_imul (n := 40) (by decide +kernel) ?_
      refine z_iconst (n := 41) (q := 1) (v := 1) (by decide +kernel) ?_
      refine z_isub (n := 42) (by decide +kernel) ?_
      refine z_ild4 (n := 44) (by decide +kernel) ?_
      refine z_isub (n := 45) (by decide +kernel) ?_
      refine z_ist5 (n := 47) (by decide +kernel) rfl ?_
      refine z_ald0 (n := 48) (by decide +kernel) ?_
      refine z_getf (n := 51) (idx := 9) (by decide +kernel) fl_X7_9 (by unfold hTn; simp (disch := omega) only [hu_s, hu_n]; first | assumption | rfl) (by rfl) ?_
      refine z_ild3 (n := 52) (by decide +kernel) ?_
      refine z_ild5 (n := 54) (by decide +kernel) ?_
      refine z_iast (n := 55) (by decide +kernel) (by unfold hTn; simp (disch := omega) only [hu_s, hu_n]; first | assumption | rfl) (by first | assumption | exact ix_nI (by omega) (by omega)) ?_
      refine z_ald0 (n := 56) (by decide +kernel) ?_
      refine z_getf (n := 59) (idx := 15) (by decide +kernel) fl_X7_15 (by unfold hTn; simp (disch := omega) only [hu_s, hu_n]; first | assumption | rfl) (by rfl) ?_
      refine z_ild3 (n := 60) (by decide +kernel) ?_
      refine z_ald0 (n := 61) (by decide +kernel) ?_
      refine z_ild5 (n := 63) (by decide +kernel) ?_
      refine z_v1 (n := 66) (idx := 58) (by decide +kernel) ml_X7_58 (by unfold hTn; simp (disch := omega) only [hu_s, hu_n]; first | assumption | rfl) rfl (Nat.le_of_ble_eq_true rfl) (by omega) ⟨Nat.le_refl _, Nat.le_refl _⟩ (k_heightOf (tl := tl) (ht := ht) (sz := nI k) 0 (by unfold hTn; simp (disch := omega) only [hu_s, hu_n]; assumption) (by unfold hTn; simp (disch := omega) only [hu_s, hu_n]; assumption) hN) ?_
      refine z_ald0 (n := 67) (by decide +kernel) ?_
      refine z_ild4 (n := 69) (by decide +kernel) ?_
      refine z_v1 (n := 72) (idx := 58) (by decide +kernel) ml_X7_58 (by unfold hTn; simp (disch := omega) only [hu_s, hu_n]; first | assumption | rfl) rfl (Nat.le_of_ble_eq_true rfl) (by omega) ⟨Nat.le_refl _, Nat.le_refl _⟩ (k_heightOf (tl := tl) (ht := ht) (sz := nI k) 0 (by unfold hTn; simp (disch := omega) only [hu_s, hu_n]; assumption) (by unfold hTn; simp (disch := omega) only [hu_s, hu_n]; assumption) hN) ?_
      refine z_iadd (n := 73) (by decide +kernel) ?_
      refine z_iconst (n := 74) (q := 1) (v := 1) (by decide +kernel) ?_
      refine z_isub (n := 75) (by decide +kernel) ?_
      refine z_ald0 (n := 76) (by decide +kernel) ?_
      refine z_getf (n := 79) (idx := 15) (by decide +kernel) fl_X7_15 (by unfold hTn; simp (disch := omega) only [hu_s, hu_n]; first | assumption | rfl) (by rfl) ?_
      refine z_ild3 (n := 80) (by decide +kernel) ?_
      refine z_iald (n := 81) (by decide +kernel) (by unfold hTn; simp (disch := omega) only [hu_s, hu_n]; first | assumption | rfl) (by first | assumption | exact ix_nI (by omega) (by omega)) ?_
      refine z_top (tLy_u _ _ _ _ _ _) ?_
      refine z_isub (n := 82) (by decide +kernel) ?_
      refine z_iast (n := 83) (by decide +kernel) (by unfold hTn; simp (disch := omega) only [hu_s, hu_n]; first | assumption | rfl) (by first | assumption | exact ix_nI (by omega) (by omega)) ?_
      refine z_ald0 (n := 84) (by decide +kernel) ?_
      refine z_getf (n := 87) (idx := 18) (by decide +kernel) fl_X7_18 (by unfold hTn; simp (disch := omega) only [hu_s, hu_n]; first | assumption | rfl) (by rfl) ?_
      refine z_ild3 (n := 88) (by decide +kernel) ?_
      refine z_ald0 (n := 89) (by decide +kernel) ?_
      refine z_getf (n := 92) (idx := 18) (by decide +kernel) fl_X7_18 (by unfold hTn; simp (disch := omega) only [hu_s, hu_n]; first | assumption | rfl) (by rfl) ?_
      refine z_ild3 (n := 93) (by decide +kernel) ?_
      refine z_zald (n := 94) (by decide +kernel) (by unfold hTn; simp (disch := omega) only [hu_s, hu_n]; first | assumption | rfl) (by first | assumption | exact ix_nI (by omega) (by omega)) ?_
      refine z_ifb_ne (n := 97) (off := 7) (tgt := 101) (by decide +kernel) (fun c94 => ?_) (fun c94 => ?_)
      · refine z_iconst (n := 102) (q := 0) (v := 0) (by decide +kernel) ?_
        refine z_zast (n := 103) (by decide +kernel) (by unfold hTn; simp (disch := omega) only [hu_s, hu_n]; first | assumption | rfl) (by first | assumption | exact ix_nI (by omega) (by omega)) (by first | exact bI_t.symm | exact bI_f.symm | rfl) ?_
        refine z_inc3 (n := 106) (q := 1) (by decide +kernel) rfl (nI_1 _) ?_
        refine z_goto (n := 109) (off := -104) (tgt := 2) (by decide +kernel) ?_
        exact z_wk (lv' := [some (.ref S), some (.int x), some (.int (bI right)), some (.int (nI (u + 1))), none, none]) (by simp [wk]) (z_heap (fin _ (by rw [tUp_u] at c94; simp [c94])) ih)
      · refine z_iconst (n := 98) (q := 1) (v := 1) (by decide +kernel) ?_
        refine z_goto (n := 101) (off := 4) (tgt := 102) (by decide +kernel) ?_
        refine z_zast (n := 103) (by decide +kernel) (by unfold hTn; simp (disch := omega) only [hu_s, hu_n]; first | assumption | rfl) (by first | assumption | exact ix_nI (by omega) (by omega)) (by first | exact bI_t.symm | exact bI_f.symm | rfl) ?_
        refine z_inc3 (n := 106) (q := 1) (by decide +kernel) rfl (nI_1 _) ?_
        refine z_goto (n := 109) (off := -104) (tgt := 2) (by decide +kernel) ?_
        exact z_wk (lv' := [some (.ref S), some (.int x), some (.int (bI right)), some (.int (nI (u + 1))), none, none]) (by simp [wk]) (z_heap (fin _ (by rw [tUp_u] at c94; simp [c94])) ih)
    refine z_ild3 (n := 3) (by decide +kernel) ?_
    refine z_ald0 (n := 4) (by decide +kernel) ?_
    refine z_getf (n := 7) (idx := 38) (by decide +kernel) fl_X7_38 (by unfold hTn; simp (disch := omega) only [hu_s, hu_n]; first | assumption | rfl) (by rfl) ?_
    refine z_icmp_ge_f (n := 10) (off := 102) (tgt := 109) (by decide +kernel) (nI_ge ul (by omega)) ?_
    refine z_ald0 (n := 11) (by decide +kernel) ?_
    refine z_getf (n := 14) (idx := 9) (by decide +kernel) fl_X7_9 (by unfold hTn; simp (disch := omega) only [hu_s, hu_n]; first | assumption | rfl) (by rfl) ?_
    refine z_ild3 (n := 15) (by decide +kernel) ?_
    refine z_iald (n := 16) (by decide +kernel) (by unfold hTn; simp (disch := omega) only [hu_s, hu_n]; first | assumption | rfl) (by first | assumption | exact ix_nI (by omega) (by omega)) ?_
    refine z_top (tPl_u _ _ _ _) ?_
    refine z_ild1 (n := 17) (by decide +kernel) ?_
    refine z_icmp_lt (n := 20) (off := 7) (tgt := 24) (by decide +kernel) (fun c17 => ?_) (fun c17 => ?_)
    · refine z_iconst (n := 25) (q := 0) (v := 0) (by decide +kernel) ?_
      refine z_ild2 (n := 26) (by decide +kernel) ?_
      refine z_icmp_ne (n := 29) (off := 77) (tgt := 103) (by decide +kernel) (fun c26 => ?_) (fun c26 => ?_)
      · exact nm (by first | exact mvs_c c17 c26 | exact mvs_d c17 c26)
      · exact mv (by first | exact mvs_a c17 c26 | exact mvs_b c17 c26)
    · refine z_iconst (n := 21) (q := 1) (v := 1) (by decide +kernel) ?_
      refine z_goto (n := 24) (off := 4) (tgt := 25) (by decide +kernel) ?_
      refine z_ild2 (n := 26) (by decide +kernel) ?_
      refine z_icmp_ne (n := 29) (off := 77) (tgt := 103) (by decide +kernel) (fun c26 => ?_) (fun c26 => ?_)
      · exact nm (by first | exact mvs_c c17 c26 | exact mvs_d c17 c26)
      · exact mv (by first | exact mvs_a c17 c26 | exact mvs_b c17 c26)
end
section
/-! Creases -/
def oCre (C : Nat) : mE := oB 0 [.ref (C + 1), .ref (C + 2), .ref (C + 3), .ref (C + 4), .ref (C + 5), .ref (C + 6)]
/-- how many of the first n hold -/
def cnb (b : Nat → Bool) : Nat → Nat
  | 0 => 0
  | n + 1 => cnb b n + (if b n then 1 else 0)
theorem cnb_le (b : Nat → Bool) : ∀ n, cnb b n ≤ n
  | 0 => Nat.le_refl 0
  | n + 1 => by
    have := cnb_le b n
    unfold cnb
    split <;> omega
def itr (f : Int32 → Int32) : Nat → Int32 → Int32
  | 0, r => r
  | n + 1, r => f (itr f n r)
theorem itr_fix {f : Int32 → Int32} {i : Nat} {r : Int32} (hf : f (itr f i r) = itr f i r) : ∀ t, i ≤ t → itr f t r = itr f i r := by
  intro t ht
  obtain ⟨m, rfl⟩ : ∃ m, t = i + m := ⟨t - i, by omega⟩
  clear ht
  induction m with
  | zero => rfl
  | succ m ih =>
    show f (itr f (i + m) r) = _
    rw [ih, hf]
def crF (c r : Int32) : Int32 := r + (1800 - r) * c / 1000
def esF (c r : Int32) : Int32 := r - r * c / 1000
def mx3 (r : Int32) : Int32 := if r < 300 then 300 else r
theorem upd_upd (f : Nat → Int32) (k : Nat) (x y : Int32) : upd (upd f k x) k y = upd f k y := by
  funext j
  by_cases e : j = k <;> simp [upd, e]
theorem upd_self (f : Nat → Int32) (k : Nat) : upd f k (f k) = f := by
  funext j
  by_cases e : j = k
  · subst e; simp [upd]
  · simp [upd, e]
theorem k_press {G : mG} {h : mH} {C N p : Nat} {sn mw sg : Int32} {si rs wr : Nat → Int32} {tn : Nat → Bool} (d : Nat) (hd : 1 ≤ d) (hC : h C = oCre C) (h1 : h (C + 1) = aI N si) (h2 : h (C + 2) = aI N rs) (h3 : h (C + 3) = aI N wr) (h6 : h (C + 6) = aZ N tn) (hp : p < N) (hN : N < 2 ^ 31) : EV G m_X0_press d 0 0 [.ref C, .int (nI p), .int sn, .int mw, .int sg] h (RE none (hu (hu (hu (hu h (C + 1) (aI N (upd si p sn))) (C + 2) (aI N (upd rs p (mx3 (rs p))))) (C + 3) (aI N (upd wr p (wr p + mw)))) (C + 6) (aZ N (if wr p + mw < sg then tn else updB tn p true)))) := by
  refine ev_5_0 rfl rfl rfl rfl rfl (by decide +kernel) (by decide +kernel) ?_
  refine z_ald0 (n := 1) (by decide +kernel) ?_
  refine z_getf (n := 4) (idx := 9) (by decide +kernel) fl_X0_9 (by first | assumption | (simp (disch := omega) only [hu_s, hu_n]; first | assumption | rfl)) (by rfl) ?_
  refine z_ild1 (n := 5) (by decide +kernel) ?_
  refine z_ild2 (n := 6) (by decide +kernel) ?_
  refine z_iast (n := 7) (by decide +kernel) (by first | assumption | (simp (disch := omega) only [hu_s, hu_n]; first | assumption | rfl)) (by first | assumption | exact ix_nI (by omega) (by omega)) ?_
  refine z_ald0 (n := 8) (by decide +kernel) ?_
  refine z_getf (n := 11) (idx := 15) (by decide +kernel) fl_X0_15 (by first | assumption | (simp (disch := omega) only [hu_s, hu_n]; first | assumption | rfl)) (by rfl) ?_
  refine z_ild1 (n := 12) (by decide +kernel) ?_
  refine z_ald0 (n := 13) (by decide +kernel) ?_
  refine z_getf (n := 16) (idx := 15) (by decide +kernel) fl_X0_15 (by first | assumption | (simp (disch := omega) only [hu_s, hu_n]; first | assumption | rfl)) (by rfl) ?_
  refine z_ild1 (n := 17) (by decide +kernel) ?_
  refine z_iald (n := 18) (by decide +kernel) (by first | assumption | (simp (disch := omega) only [hu_s, hu_n]; first | assumption | rfl)) (by first | assumption | exact ix_nI (by omega) (by omega)) ?_
  refine z_sipush (n := 21) (q := 300) (v := 300) (by decide +kernel) ?_
  refine z_mmax (n := 24) (idx := 43) (by decide +kernel) jl_X0_43 (Nat.le_of_ble_eq_true rfl) (by omega) (Nat.le_refl _) (Nat.le_refl _) ?_
  refine z_iast (n := 25) (by decide +kernel) (by first | assumption | (simp (disch := omega) only [hu_s, hu_n]; first | assumption | rfl)) (by first | assumption | exact ix_nI (by omega) (by omega)) ?_
  refine z_ald0 (n := 26) (by decide +kernel) ?_
  refine z_getf (n := 29) (idx := 18) (by decide +kernel) fl_X0_18 (by first | assumption | (simp (disch := omega) only [hu_s, hu_n]; first | assumption | rfl)) (by rfl) ?_
  refine z_ild1 (n := 30) (by decide +kernel) ?_
  refine z_dup2 (n := 31) (by decide +kernel) rfl rfl ?_
  refine z_iald (n := 32) (by decide +kernel) (by first | assumption | (simp (disch := omega) only [hu_s, hu_n]; first | assumption | rfl)) (by first | assumption | exact ix_nI (by omega) (by omega)) ?_
  refine z_ild3 (n := 33) (by decide +kernel) ?_
  refine z_iadd (n := 34) (by decide +kernel) ?_
  refine z_iast (n := 35) (by decide +kernel) (by first | assumption | (simp (disch := omega) only [hu_s, hu_n]; first | assumption | rfl)) (by first | assumption | exact ix_nI (by omega) (by omega)) ?_
  refine z_ald0 (n := 36) (by decide +kernel) ?_
  refine z_getf (n := 39) (idx := 18) (by decide +kernel) fl_X0_18 (by first | assumption | (simp (disch := omega) only [hu_s, hu_n]; first | assumption | rfl)) (by rfl) ?_
  refine z_ild1 (n := 40) (by decide +kernel) ?_
  refine z_iald (n := 41) (by decide +kernel) (by first | assumption | (simp (disch := omega) only [hu_s, hu_n]; first | assumption | rfl)) (by first | assumption | exact ix_nI (by omega) (by omega)) ?_
  refine z_top pk_us ?_
  refine z_ild4 (n := 43) (by decide +kernel) ?_
  refine z_icmp_lt (n := 46) (off := 10) (tgt := 53) (by decide +kernel) (fun c43 => ?_) (fun c43 => ?_)
  · refine z_vret (by decide +kernel) rfl (Nat.le_refl _) ?_
    exact ⟨rfl, by simp only [eq_true c43, if_true, if_false]; first | rfl | (rw [hu_self (i := C + 6)]; rfl; simp (disch := omega) only [hu_n]; assumption)⟩
  · refine z_ald0 (n := 47) (by decide +kernel) ?_
    refine z_getf (n := 50) (idx := 27) (by decide +kernel) fl_X0_27 (by first | assumption | (simp (disch := omega) only [hu_s, hu_n]; first | assumption | rfl)) (by rfl) ?_
    refine z_ild1 (n := 51) (by decide +kernel) ?_
    refine z_iconst (n := 52) (q := 1) (v := 1) (by decide +kernel) ?_
    refine z_zast (n := 53) (by decide +kernel) (by first | assumption | (simp (disch := omega) only [hu_s, hu_n]; first | assumption | rfl)) (by first | assumption | exact ix_nI (by omega) (by omega)) (by first | exact bI_t.symm | exact bI_f.symm | rfl) ?_
    refine z_vret (by decide +kernel) rfl (Nat.le_refl _) ?_
    exact ⟨rfl, by simp only [eq_false c43, if_true, if_false]; first | rfl | (rw [hu_self (i := C + 6)]; rfl; simp (disch := omega) only [hu_n]; assumption)⟩
theorem k_creep {G : mG} {h : mH} {C N p t : Nat} {c : Int32} {rs : Nat → Int32} (d : Nat) (hC : h C = oCre C) (h2 : h (C + 2) = aI N rs) (hp : p < N) (hN : N < 2 ^ 31) (ht : t < 2 ^ 31) : EV G m_X0_creep d 0 0 [.ref C, .int (nI p), .int c, .int (nI t)] h (RE none (hu h (C + 2) (aI N (upd rs p (itr (crF c) t (rs p)))))) := by
  refine ev_4_2 rfl rfl rfl rfl (by decide +kernel) (by decide +kernel) ?_
  refine z_iconst (n := 1) (q := 0) (v := 0) (by decide +kernel) ?_
  refine z_ist4 (n := 3) (by decide +kernel) rfl ?_
  refine z_heap (h1 := hu h (C + 2) (aI N (upd rs p (itr (crF c) 0 (rs p))))) (by rw [show itr (crF c) 0 (rs p) = rs p from rfl, upd_self, hu_self h2]) ?_
  refine loopZ (k := t) (fun i => Z G m_X0_creep d 0 0 0 0 3 [some (.ref C), some (.int (nI p)), some (.int c), some (.int (nI t)), some (.int (nI i)), none] [] (hu h (C + 2) (aI N (upd rs p (itr (crF c) i (rs p))))) (RE none (hu h (C + 2) (aI N (upd rs p (itr (crF c) t (rs p))))))) ?_ ?_ 0 (Nat.zero_le t)
  · refine z_ild4 (n := 5) (by decide +kernel) ?_
    refine z_ild3 (n := 6) (by decide +kernel) ?_
    refine z_icmp_ge_t (n := 9) (off := 46) (tgt := 52) (by decide +kernel) (nI_le (Nat.le_refl t) (by omega)) ?_
    refine z_vret (by decide +kernel) rfl (Nat.le_refl _) ?_
    exact ⟨rfl, rfl⟩
  · intro i il ih
    refine z_ild4 (n := 5) (by decide +kernel) ?_
    refine z_ild3 (n := 6) (by decide +kernel) ?_
    refine z_icmp_ge_f (n := 9) (off := 46) (tgt := 52) (by decide +kernel) (nI_ge il (by omega)) ?_
    refine z_sipush (n := 12) (q := 1800) (v := 1800) (by decide +kernel) ?_
    refine z_ald0 (n := 13) (by decide +kernel) ?_
    refine z_getf (n := 16) (idx := 15) (by decide +kernel) fl_X0_15 (by first | assumption | (simp (disch := omega) only [hu_s, hu_n]; first | assumption | rfl)) (by rfl) ?_
    refine z_ild1 (n := 17) (by decide +kernel) ?_
    refine z_iald (n := 18) (by decide +kernel) (by first | assumption | (simp (disch := omega) only [hu_s, hu_n]; first | assumption | rfl)) (by first | assumption | exact ix_nI (by omega) (by omega)) ?_
    refine z_top pk_us ?_
    refine z_isub (n := 19) (by decide +kernel) ?_
    refine z_ild2 (n := 20) (by decide +kernel) ?_
    refine z_imul (n := 21) (by decide +kernel) ?_
    refine z_sipush (n := 24) (q := 1000) (v := 1000) (by decide +kernel) ?_
    refine z_idiv (n := 25) (by decide +kernel) (by decide) ?_
    refine z_ist5 (n := 27) (by decide +kernel) rfl ?_
    refine z_ild5 (n := 29) (by decide +kernel) ?_
    refine z_if_ne (n := 32) (off := 6) (tgt := 35) (by decide +kernel) (fun c29 => ?_) (fun c29 => ?_)
    · refine z_ald0 (n := 36) (by decide +kernel) ?_
      refine z_getf (n := 39) (idx := 15) (by decide +kernel) fl_X0_15 (by first | assumption | (simp (disch := omega) only [hu_s, hu_n]; first | assumption | rfl)) (by rfl) ?_
      refine z_ild1 (n := 40) (by decide +kernel) ?_
      refine z_dup2 (n := 41) (by decide +kernel) rfl rfl ?_
      refine z_iald (n := 42) (by decide +kernel) (by first | assumption | (simp (disch := omega) only [hu_s, hu_n]; first | assumption | rfl)) (by first | assumption | exact ix_nI (by omega) (by omega)) ?_
      refine z_top pk_us ?_
      refine z_ild5 (n := 44) (by decide +kernel) ?_
      refine z_iadd (n := 45) (by decide +kernel) ?_
      refine z_iast (n := 46) (by decide +kernel) (by first | assumption | (simp (disch := omega) only [hu_s, hu_n]; first | assumption | rfl)) (by first | assumption | exact ix_nI (by omega) (by omega)) ?_
      refine z_inc4 (n := 49) (q := 1) (by decide +kernel) rfl (nI_1 _) ?_
      refine z_goto (n := 52) (off := -46) (tgt := 3) (by decide +kernel) ?_
      exact z_wk (lv' := [some (.ref C), some (.int (nI p)), some (.int c), some (.int (nI t)), some (.int (nI (i + 1))), none]) (by simp [wk]) (z_heap (by rw [hu_hu, upd_upd]; rfl) ih)
    · refine z_goto (n := 35) (off := 20) (tgt := 52) (by decide +kernel) ?_
      refine z_vret (by decide +kernel) rfl (Nat.le_refl _) ?_
      exact ⟨rfl, by rw [itr_fix (i := i) (by show itr _ i _ + _ = _; rw [c29]; simp) t (by omega)]⟩
theorem k_ease {G : mG} {h : mH} {C N p t : Nat} {c : Int32} {rs : Nat → Int32} (d : Nat) (hC : h C = oCre C) (h2 : h (C + 2) = aI N rs) (hp : p < N) (hN : N < 2 ^ 31) (ht : t < 2 ^ 31) : EV G m_X0_ease d 0 0 [.ref C, .int (nI p), .int c, .int (nI t)] h (RE none (hu h (C + 2) (aI N (upd rs p (itr (esF c) t (rs p)))))) := by
  refine ev_4_2 rfl rfl rfl rfl (by decide +kernel) (by decide +kernel) ?_
  refine z_iconst (n := 1) (q := 0) (v := 0) (by decide +kernel) ?_
  refine z_ist4 (n := 3) (by decide +kernel) rfl ?_
  refine z_heap (h1 := hu h (C + 2) (aI N (upd rs p (itr (esF c) 0 (rs p))))) (by rw [show itr (esF c) 0 (rs p) = rs p from rfl, upd_self, hu_self h2]) ?_
  refine loopZ (k := t) (fun i => Z G m_X0_ease d 0 0 0 0 3 [some (.ref C), some (.int (nI p)), some (.int c), some (.int (nI t)), some (.int (nI i)), none] [] (hu h (C + 2) (aI N (upd rs p (itr (esF c) i (rs p))))) (RE none (hu h (C + 2) (aI N (upd rs p (itr (esF c) t (rs p))))))) ?_ ?_ 0 (Nat.zero_le t)
  · refine z_ild4 (n := 5) (by decide +kernel) ?_
    refine z_ild3 (n := 6) (by decide +kernel) ?_
    refine z_icmp_ge_t (n := 9) (off := 42) (tgt := 48) (by decide +kernel) (nI_le (Nat.le_refl t) (by omega)) ?_
    refine z_vret (by decide +kernel) rfl (Nat.le_refl _) ?_
    exact ⟨rfl, rfl⟩
  · intro i il ih
    refine z_ild4 (n := 5) (by decide +kernel) ?_
    refine z_ild3 (n := 6) (by decide +kernel) ?_
    refine z_icmp_ge_f (n := 9) (off := 42) (tgt := 48) (by decide +kernel) (nI_ge il (by omega)) ?_
    refine z_ald0 (n := 10) (by decide +kernel) ?_
    refine z_getf (n := 13) (idx := 15) (by decide +kernel) fl_X0_15 (by first | assumption | (simp (disch := omega) only [hu_s, hu_n]; first | assumption | rfl)) (by rfl) ?_
    refine z_ild1 (n := 14) (by decide +kernel) ?_
    refine z_iald (n := 15) (by decide +kernel) (by first | assumption | (simp (disch := omega) only [hu_s, hu_n]; first | assumption | rfl)) (by first | assumption | exact ix_nI (by omega) (by omega)) ?_
    refine z_top pk_us ?_
    refine z_ild2 (n := 16) (by decide +kernel) ?_
    refine z_imul (n := 17) (by decide +kernel) ?_
    refine z_sipush (n := 20) (q := 1000) (v := 1000) (by decide +kernel) ?_
    refine z_idiv (n := 21) (by decide +kernel) (by decide) ?_
    refine z_ist5 (n := 23) (by decide +kernel) rfl ?_
    refine z_ild5 (n := 25) (by decide +kernel) ?_
    refine z_if_ne (n := 28) (off := 6) (tgt := 31) (by decide +kernel) (fun c25 => ?_) (fun c25 => ?_)
    · refine z_ald0 (n := 32) (by decide +kernel) ?_
      refine z_getf (n := 35) (idx := 15) (by decide +kernel) fl_X0_15 (by first | assumption | (simp (disch := omega) only [hu_s, hu_n]; first | assumption | rfl)) (by rfl) ?_
      refine z_ild1 (n := 36) (by decide +kernel) ?_
      refine z_dup2 (n := 37) (by decide +kernel) rfl rfl ?_
      refine z_iald (n := 38) (by decide +kernel) (by first | assumption | (simp (disch := omega) only [hu_s, hu_n]; first | assumption | rfl)) (by first | assumption | exact ix_nI (by omega) (by omega)) ?_
      refine z_top pk_us ?_
      refine z_ild5 (n := 40) (by decide +kernel) ?_
      refine z_isub (n := 41) (by decide +kernel) ?_
      refine z_iast (n := 42) (by decide +kernel) (by first | assumption | (simp (disch := omega) only [hu_s, hu_n]; first | assumption | rfl)) (by first | assumption | exact ix_nI (by omega) (by omega)) ?_
      refine z_inc4 (n := 45) (q := 1) (by decide +kernel) rfl (nI_1 _) ?_
      refine z_goto (n := 48) (off := -42) (tgt := 3) (by decide +kernel) ?_
      exact z_wk (lv' := [some (.ref C), some (.int (nI p)), some (.int c), some (.int (nI t)), some (.int (nI (i + 1))), none]) (by simp [wk]) (z_heap (by rw [hu_hu, upd_upd]; rfl) ih)
    · refine z_goto (n := 31) (off := 20) (tgt := 48) (by decide +kernel) ?_
      refine z_vret (by decide +kernel) rfl (Nat.le_refl _) ?_
      exact ⟨rfl, by rw [itr_fix (i := i) (by show itr _ i _ - _ = _; rw [c25]; simp) t (by omega)]⟩
theorem k_countCreased {G : mG} {h : mH} {C n : Nat} {si : Nat → Int32} (d : Nat) (hC : h C = oCre C) (h1 : h (C + 1) = aI (n + 1) si) (hN : n + 1 < 2 ^ 31) : EV G m_X0_countCreased d 0 0 [.ref C] h (RE (some (.int (nI (cnb (fun j => !decide (si (j + 1) = 0)) n)))) h) := by
  refine ev_1_2 rfl (by decide +kernel) (by decide +kernel) ?_
  refine z_iconst (n := 1) (q := 0) (v := 0) (by decide +kernel) ?_
  refine z_ist1 (n := 2) (by decide +kernel) rfl ?_
  refine z_iconst (n := 3) (q := 1) (v := 1) (by decide +kernel) ?_
  refine z_ist2 (n := 4) (by decide +kernel) rfl ?_
  refine loopZ (k := n) (fun u => Z G m_X0_countCreased d 0 0 0 0 4 [some (.ref C), some (.int (nI (cnb (fun j => !decide (si (j + 1) = 0)) u))), some (.int (nI (u + 1)))] [] h (RE (some (.int (nI (cnb (fun j => !decide (si (j + 1) = 0)) n)))) h)) ?_ ?_ 0 (Nat.zero_le n)
  · refine z_ild2 (n := 5) (by decide +kernel) ?_
    refine z_ald0 (n := 6) (by decide +kernel) ?_
    refine z_getf (n := 9) (idx := 9) (by decide +kernel) fl_X0_9 (by assumption) (by rfl) ?_
    refine z_alenI (n := 10) (by decide +kernel) (by assumption) ?_
    refine z_icmp_ge_t (n := 13) (off := 21) (tgt := 31) (by decide +kernel) (nI_le (Nat.le_refl _) (by omega)) ?_
    refine z_ild1 (n := 32) (by decide +kernel) ?_
    refine z_iret (by decide +kernel) rfl (Nat.le_refl _) ?_
    exact ⟨rfl, rfl⟩
  · intro u ul ih
    refine z_ild2 (n := 5) (by decide +kernel) ?_
    refine z_ald0 (n := 6) (by decide +kernel) ?_
    refine z_getf (n := 9) (idx := 9) (by decide +kernel) fl_X0_9 (by assumption) (by rfl) ?_
    refine z_alenI (n := 10) (by decide +kernel) (by assumption) ?_
    refine z_icmp_ge_f (n := 13) (off := 21) (tgt := 31) (by decide +kernel) (nI_ge (by omega) (by omega)) ?_
    refine z_ald0 (n := 14) (by decide +kernel) ?_
    refine z_getf (n := 17) (idx := 9) (by decide +kernel) fl_X0_9 (by assumption) (by rfl) ?_
    refine z_ild2 (n := 18) (by decide +kernel) ?_
    refine z_iald (n := 19) (by decide +kernel) (by assumption) (by first | assumption | exact ix_nI (by omega) (by omega)) ?_
    refine z_if_eq (n := 22) (off := 6) (tgt := 25) (by decide +kernel) (fun c19 => ?_) (fun c19 => ?_)
    · refine z_inc2 (n := 28) (q := 1) (by decide +kernel) rfl (nI_1 _) ?_
      refine z_goto (n := 31) (off := -24) (tgt := 4) (by decide +kernel) ?_
      simpa [cnb, c19] using ih
    · refine z_inc1 (n := 25) (q := 1) (by decide +kernel) rfl (nI_1 _) ?_
      refine z_inc2 (n := 28) (q := 1) (by decide +kernel) rfl (nI_1 _) ?_
      refine z_goto (n := 31) (off := -24) (tgt := 4) (by decide +kernel) ?_
      simpa [cnb, c19] using ih
theorem k_countTorn {G : mG} {h : mH} {C n : Nat} {tn : Nat → Bool} (d : Nat) (hC : h C = oCre C) (h1 : h (C + 6) = aZ (n + 1) tn) (hN : n + 1 < 2 ^ 31) : EV G m_X0_countTorn d 0 0 [.ref C] h (RE (some (.int (nI (cnb (fun j => tn (j + 1)) n)))) h) := by
  refine ev_1_2 rfl (by decide +kernel) (by decide +kernel) ?_
  refine z_iconst (n := 1) (q := 0) (v := 0) (by decide +kernel) ?_
  refine z_ist1 (n := 2) (by decide +kernel) rfl ?_
  refine z_iconst (n := 3) (q := 1) (v := 1) (by decide +kernel) ?_
  refine z_ist2 (n := 4) (by decide +kernel) rfl ?_
  refine loopZ (k := n) (fun u => Z G m_X0_countTorn d 0 0 0 0 4 [some (.ref C), some (.int (nI (cnb (fun j => tn (j + 1)) u))), some (.int (nI (u + 1)))] [] h (RE (some (.int (nI (cnb (fun j => tn (j + 1)) n)))) h)) ?_ ?_ 0 (Nat.zero_le n)
  · refine z_ild2 (n := 5) (by decide +kernel) ?_
    refine z_ald0 (n := 6) (by decide +kernel) ?_
    refine z_getf (n := 9) (idx := 27) (by decide +kernel) fl_X0_27 (by assumption) (by rfl) ?_
    refine z_alenZ (n := 10) (by decide +kernel) (by assumption) ?_
    refine z_icmp_ge_t (n := 13) (off := 21) (tgt := 31) (by decide +kernel) (nI_le (Nat.le_refl _) (by omega)) ?_
    refine z_ild1 (n := 32) (by decide +kernel) ?_
    refine z_iret (by decide +kernel) rfl (Nat.le_refl _) ?_
    exact ⟨rfl, rfl⟩
  · intro u ul ih
    refine z_ild2 (n := 5) (by decide +kernel) ?_
    refine z_ald0 (n := 6) (by decide +kernel) ?_
    refine z_getf (n := 9) (idx := 27) (by decide +kernel) fl_X0_27 (by assumption) (by rfl) ?_
    refine z_alenZ (n := 10) (by decide +kernel) (by assumption) ?_
    refine z_icmp_ge_f (n := 13) (off := 21) (tgt := 31) (by decide +kernel) (nI_ge (by omega) (by omega)) ?_
    refine z_ald0 (n := 14) (by decide +kernel) ?_
    refine z_getf (n := 17) (idx := 27) (by decide +kernel) fl_X0_27 (by assumption) (by rfl) ?_
    refine z_ild2 (n := 18) (by decide +kernel) ?_
    refine z_zald (n := 19) (by decide +kernel) (by assumption) (by first | assumption | exact ix_nI (by omega) (by omega)) ?_
    refine z_ifb_eq (n := 22) (off := 6) (tgt := 25) (by decide +kernel) (fun c19 => ?_) (fun c19 => ?_)
    · refine z_inc2 (n := 28) (q := 1) (by decide +kernel) rfl (nI_1 _) ?_
      refine z_goto (n := 31) (off := -24) (tgt := 4) (by decide +kernel) ?_
      simpa [cnb, c19] using ih
    · refine z_inc1 (n := 25) (q := 1) (by decide +kernel) rfl (nI_1 _) ?_
      refine z_inc2 (n := 28) (q := 1) (by decide +kernel) rfl (nI_1 _) ?_
      refine z_goto (n := 31) (off := -24) (tgt := 4) (by decide +kernel) ?_
      simpa [cnb, c19] using ih
theorem k_creCopy {G : mG} {h : mH} {C C' N : Nat} {si rs wr tk ac si' rs' wr' tk' ac' : Nat → Int32} {tn tn' : Nat → Bool} (d : Nat) (hd : 1 ≤ d) (hC : h C = oCre C) (h1 : h (C + 1) = aI N si) (h2 : h (C + 2) = aI N rs) (h3 : h (C + 3) = aI N wr) (h4 : h (C + 4) = aI N tk) (h5 : h (C + 5) = aI N ac) (h6 : h (C + 6) = aZ N tn) (hC' : h C' = oCre C') (h1' : h (C' + 1) = aI N si') (h2' : h (C' + 2) = aI N rs') (h3' : h (C' + 3) = aI N wr') (h4' : h (C' + 4) = aI N tk') (h5' : h (C' + 5) = aI N ac') (h6' : h (C' + 6) = aZ N tn') (hN : N < 2 ^ 31) (hap : C + 6 < C' ∨ C' + 6 < C) :
    EV G m_X0_copyFrom d 0 0 [.ref C, .ref C'] h (RE none (hu (hu (hu (hu (hu (hu h (C + 1) (aI N (cpN si' si N))) (C + 2) (aI N (cpN rs' rs N))) (C + 3) (aI N (cpN wr' wr N))) (C + 4) (aI N (cpN tk' tk N))) (C + 5) (aI N (cpN ac' ac N))) (C + 6) (aZ N (cpN tn' tn N)))) := by
  refine ev_2_1 rfl rfl (by decide +kernel) (by decide +kernel) ?_
  refine z_ald0 (n := 1) (by decide +kernel) ?_
  refine z_getf (n := 4) (idx := 9) (by decide +kernel) fl_X0_9 (by first | assumption | (simp (disch := omega) only [hu_s, hu_n]; first | assumption | rfl)) (by rfl) ?_
  refine z_alenI (n := 5) (by decide +kernel) (by first | assumption | (simp (disch := omega) only [hu_s, hu_n]; first | assumption | rfl)) ?_
  refine z_ald1 (n := 6) (by decide +kernel) ?_
  refine z_getf (n := 9) (idx := 9) (by decide +kernel) fl_X0_9 (by first | assumption | (simp (disch := omega) only [hu_s, hu_n]; first | assumption | rfl)) (by rfl) ?_
  refine z_alenI (n := 10) (by decide +kernel) (by first | assumption | (simp (disch := omega) only [hu_s, hu_n]; first | assumption | rfl)) ?_
  refine z_mmin (n := 13) (idx := 31) (by decide +kernel) jl_X0_31 (Nat.le_of_ble_eq_true rfl) (by omega) (Nat.le_refl _) (Nat.le_refl _) ?_
  refine z_top (show _ = nI N from if_neg (nI_nlt (Nat.le_refl N) (by omega))) ?_
  refine z_ist2 (n := 14) (by decide +kernel) rfl ?_
  refine z_ald1 (n := 15) (by decide +kernel) ?_
  refine z_getf (n := 18) (idx := 9) (by decide +kernel) fl_X0_9 (by first | assumption | (simp (disch := omega) only [hu_s, hu_n]; first | assumption | rfl)) (by rfl) ?_
  refine z_iconst (n := 19) (q := 0) (v := 0) (by decide +kernel) ?_
  refine z_ald0 (n := 20) (by decide +kernel) ?_
  refine z_getf (n := 23) (idx := 9) (by decide +kernel) fl_X0_9 (by first | assumption | (simp (disch := omega) only [hu_s, hu_n]; first | assumption | rfl)) (by rfl) ?_
  refine z_iconst (n := 24) (q := 0) (v := 0) (by decide +kernel) ?_
  refine z_ild2 (n := 25) (by decide +kernel) ?_
  refine z_cpyI (n := 28) (idx := 37) (by decide +kernel) jl_X0_37 (Nat.le_of_ble_eq_true rfl) (by omega) (by first | assumption | (simp (disch := omega) only [hu_s, hu_n]; first | assumption | rfl)) (by first | assumption | (simp (disch := omega) only [hu_s, hu_n]; first | assumption | rfl)) (by omega) (by omega) (by omega) ?_
  refine z_ald1 (n := 29) (by decide +kernel) ?_
  refine z_getf (n := 32) (idx := 15) (by decide +kernel) fl_X0_15 (by first | assumption | (simp (disch := omega) only [hu_s, hu_n]; first | assumption | rfl)) (by rfl) ?_
  refine z_iconst (n := 33) (q := 0) (v := 0) (by decide +kernel) ?_
  refine z_ald0 (n := 34) (by decide +kernel) ?_
  refine z_getf (n := 37) (idx := 15) (by decide +kernel) fl_X0_15 (by first | assumption | (simp (disch := omega) only [hu_s, hu_n]; first | assumption | rfl)) (by rfl) ?_
  refine z_iconst (n := 38) (q := 0) (v := 0) (by decide +kernel) ?_
  refine z_ild2 (n := 39) (by decide +kernel) ?_
  refine z_cpyI (n := 42) (idx := 37) (by decide +kernel) jl_X0_37 (Nat.le_of_ble_eq_true rfl) (by omega) (by first | assumption | (simp (disch := omega) only [hu_s, hu_n]; first | assumption | rfl)) (by first | assumption | (simp (disch := omega) only [hu_s, hu_n]; first | assumption | rfl)) (by omega) (by omega) (by omega) ?_
  refine z_ald1 (n := 43) (by decide +kernel) ?_
  refine z_getf (n := 46) (idx := 18) (by decide +kernel) fl_X0_18 (by first | assumption | (simp (disch := omega) only [hu_s, hu_n]; first | assumption | rfl)) (by rfl) ?_
  refine z_iconst (n := 47) (q := 0) (v := 0) (by decide +kernel) ?_
  refine z_ald0 (n := 48) (by decide +kernel) ?_
  refine z_getf (n := 51) (idx := 18) (by decide +kernel) fl_X0_18 (by first | assumption | (simp (disch := omega) only [hu_s, hu_n]; first | assumption | rfl)) (by rfl) ?_
  refine z_iconst (n := 52) (q := 0) (v := 0) (by decide +kernel) ?_
  refine z_ild2 (n := 53) (by decide +kernel) ?_
  refine z_cpyI (n := 56) (idx := 37) (by decide +kernel) jl_X0_37 (Nat.le_of_ble_eq_true rfl) (by omega) (by first | assumption | (simp (disch := omega) only [hu_s, hu_n]; first | assumption | rfl)) (by first | assumption | (simp (disch := omega) only [hu_s, hu_n]; first | assumption | rfl)) (by omega) (by omega) (by omega) ?_
  refine z_ald1 (n := 57) (by decide +kernel) ?_
  refine z_getf (n := 60) (idx := 21) (by decide +kernel) fl_X0_21 (by first | assumption | (simp (disch := omega) only [hu_s, hu_n]; first | assumption | rfl)) (by rfl) ?_
  refine z_iconst (n := 61) (q := 0) (v := 0) (by decide +kernel) ?_
  refine z_ald0 (n := 62) (by decide +kernel) ?_
  refine z_getf (n := 65) (idx := 21) (by decide +kernel) fl_X0_21 (by first | assumption | (simp (disch := omega) only [hu_s, hu_n]; first | assumption | rfl)) (by rfl) ?_
  refine z_iconst (n := 66) (q := 0) (v := 0) (by decide +kernel) ?_
  refine z_ild2 (n := 67) (by decide +kernel) ?_
  refine z_cpyI (n := 70) (idx := 37) (by decide +kernel) jl_X0_37 (Nat.le_of_ble_eq_true rfl) (by omega) (by first | assumption | (simp (disch := omega) only [hu_s, hu_n]; first | assumption | rfl)) (by first | assumption | (simp (disch := omega) only [hu_s, hu_n]; first | assumption | rfl)) (by omega) (by omega) (by omega) ?_
  refine z_ald1 (n := 71) (by decide +kernel) ?_
  refine z_getf (n := 74) (idx := 24) (by decide +kernel) fl_X0_24 (by first | assumption | (simp (disch := omega) only [hu_s, hu_n]; first | assumption | rfl)) (by rfl) ?_
  refine z_iconst (n := 75) (q := 0) (v := 0) (by decide +kernel) ?_
  refine z_ald0 (n := 76) (by decide +kernel) ?_
  refine z_getf (n := 79) (idx := 24) (by decide +kernel) fl_X0_24 (by first | assumption | (simp (disch := omega) only [hu_s, hu_n]; first | assumption | rfl)) (by rfl) ?_
  refine z_iconst (n := 80) (q := 0) (v := 0) (by decide +kernel) ?_
  refine z_ild2 (n := 81) (by decide +kernel) ?_
  refine z_cpyI (n := 84) (idx := 37) (by decide +kernel) jl_X0_37 (Nat.le_of_ble_eq_true rfl) (by omega) (by first | assumption | (simp (disch := omega) only [hu_s, hu_n]; first | assumption | rfl)) (by first | assumption | (simp (disch := omega) only [hu_s, hu_n]; first | assumption | rfl)) (by omega) (by omega) (by omega) ?_
  refine z_ald1 (n := 85) (by decide +kernel) ?_
  refine z_getf (n := 88) (idx := 27) (by decide +kernel) fl_X0_27 (by first | assumption | (simp (disch := omega) only [hu_s, hu_n]; first | assumption | rfl)) (by rfl) ?_
  refine z_iconst (n := 89) (q := 0) (v := 0) (by decide +kernel) ?_
  refine z_ald0 (n := 90) (by decide +kernel) ?_
  refine z_getf (n := 93) (idx := 27) (by decide +kernel) fl_X0_27 (by first | assumption | (simp (disch := omega) only [hu_s, hu_n]; first | assumption | rfl)) (by rfl) ?_
  refine z_iconst (n := 94) (q := 0) (v := 0) (by decide +kernel) ?_
  refine z_ild2 (n := 95) (by decide +kernel) ?_
  refine z_cpyZ (n := 98) (idx := 37) (by decide +kernel) jl_X0_37 (Nat.le_of_ble_eq_true rfl) (by omega) (by first | assumption | (simp (disch := omega) only [hu_s, hu_n]; first | assumption | rfl)) (by first | assumption | (simp (disch := omega) only [hu_s, hu_n]; first | assumption | rfl)) (by omega) (by omega) (by omega) ?_
  refine z_vret (by decide +kernel) rfl (Nat.le_refl _) ?_
  exact ⟨rfl, rfl⟩
end
section
/-! Paper -/
def oPap (B : Nat) (cp es sg th ck ak : Int32) : mE := oB 2 [.ref (B + 1), .ref (B + 6), .int cp, .int es, .int sg, .int th, .int ck, .int ak]
/-- does one of the first n hold -/
def anB (b : Nat → Bool) : Nat → Bool
  | 0 => false
  | n + 1 => anB b n || b n
theorem anB_of {b : Nat → Bool} {j : Nat} (hb : b j = true) : ∀ n, j < n → anB b n = true
  | 0, h => by omega
  | n + 1, h => by
    by_cases e : j = n
    · subst e; simp [anB, hb]
    · simp [anB, anB_of hb n (by omega)]
/-- at the points 1 .. u at which b holds (of the cell before) f, else g -/
def cu {α : Type} (b : Nat → Bool) (f g : Nat → α) (u : Nat) : Nat → α := fun j => if 0 < j ∧ j ≤ u ∧ b (j - 1) = true then f j else g j
theorem cu_0 {α : Type} (b : Nat → Bool) (f g : Nat → α) : cu b f g 0 = g := by
  funext j
  simp only [cu]
  rw [if_neg (by omega)]
theorem cu_c {j u : Nat} {b : Prop} (hj : j ≠ u + 1) : (0 < j ∧ j ≤ u + 1 ∧ b) ↔ (0 < j ∧ j ≤ u ∧ b) := by
  constructor
  · exact fun ⟨a, c, e⟩ => ⟨a, by omega, e⟩
  · exact fun ⟨a, c, e⟩ => ⟨a, by omega, e⟩
theorem cu_n {α : Type} {b : Nat → Bool} {f g : Nat → α} {u : Nat} (hb : b u = false) : cu b f g (u + 1) = cu b f g u := by
  funext j
  by_cases e : j = u + 1
  · subst e; simp [cu, hb]
  · simp only [cu, cu_c e]
theorem cu_y {b : Nat → Bool} {f g : Nat → Int32} {u : Nat} (hb : b u = true) : upd (cu b f g u) (u + 1) (f (u + 1)) = cu b f g (u + 1) := by
  funext j
  by_cases e : j = u + 1
  · subst e; simp [cu, hb, upd]
  · simp only [upd, if_neg e, cu, cu_c e]
theorem cu_yB {b : Nat → Bool} {f g : Nat → Bool} {u : Nat} (hb : b u = true) : updB (cu b f g u) (u + 1) (f (u + 1)) = cu b f g (u + 1) := by
  funext j
  by_cases e : j = u + 1
  · subst e; simp [cu, hb, updB]
  · simp only [updB, if_neg e, cu, cu_c e]
theorem cu_u {α : Type} (b : Nat → Bool) (f g : Nat → α) (u : Nat) : cu b f g u (u + 1) = g (u + 1) := by
  simp only [cu]
  rw [if_neg (by omega)]
theorem updB_self (f : Nat → Bool) (k : Nat) : updB f k (f k) = f := by
  funext j
  by_cases e : j = k
  · subst e; simp [updB]
  · simp [updB, e]
theorem k_isTornAlong {G : mG} {h : mH} {B N n : Nat} {cp es sg th ck ak tl x : Int32} {pl : Nat → Int32} {tn : Nat → Bool} (d : Nat) (hd : 1 ≤ d) (hB : h B = oPap B cp es sg th ck ak) (hS : h (B + 1) = oStrip (B + 1) (nI (n + 1)) tl) (hP : h (B + 1 + 1) = aI N pl) (hC : h (B + 6) = oCre (B + 6)) (h6 : h (B + 6 + 6) = aZ N tn) (hk : n + 1 ≤ N) (hN : N < 2 ^ 31) : EV G m_X2_isTornAlong d 0 0 [.ref B, .int x] h (RE (some (.int (bI (anB (fun j => tn (j + 1) && crs pl j x) n)))) h) := by
  refine ev_2_1 rfl rfl (by decide +kernel) (by decide +kernel) ?_
  refine z_iconst (n := 1) (q := 1) (v := 1) (by decide +kernel) ?_
  refine z_ist2 (n := 2) (by decide +kernel) rfl ?_
  refine loopZ (k := n) (fun u => anB (fun j => tn (j + 1) && crs pl j x) u = false → Z G m_X2_isTornAlong d 0 0 0 0 2 [some (.ref B), some (.int x), some (.int (nI (u + 1)))] [] h (RE (some (.int (bI (anB (fun j => tn (j + 1) && crs pl j x) n)))) h)) ?_ ?_ 0 (Nat.zero_le n) rfl
  · intro h0
    refine z_ild2 (n := 3) (by decide +kernel) ?_
    refine z_ald0 (n := 4) (by decide +kernel) ?_
    refine z_getf (n := 7) (idx := 29) (by decide +kernel) fl_X2_29 (by assumption) (by rfl) ?_
    refine z_getf (n := 10) (idx := 78) (by decide +kernel) fl_X2_78 (by assumption) (by rfl) ?_
    refine z_icmp_ge_t (n := 13) (off := 35) (tgt := 45) (by decide +kernel) (nI_le (Nat.le_refl _) (by omega)) ?_
    refine z_iconst (n := 46) (q := 0) (v := 0) (by decide +kernel) ?_
    first | refine z_zr1 (by decide +kernel) rfl (Nat.le_refl _) ?_ | refine z_zr0 (by decide +kernel) rfl (Nat.le_refl _) ?_ | refine z_zrb (by decide +kernel) rfl (Nat.le_refl _) ?_
    exact ⟨by rw [h0], rfl⟩
  · intro u ul ih h0
    refine z_ild2 (n := 3) (by decide +kernel) ?_
    refine z_ald0 (n := 4) (by decide +kernel) ?_
    refine z_getf (n := 7) (idx := 29) (by decide +kernel) fl_X2_29 (by assumption) (by rfl) ?_
    refine z_getf (n := 10) (idx := 78) (by decide +kernel) fl_X2_78 (by assumption) (by rfl) ?_
    refine z_icmp_ge_f (n := 13) (off := 35) (tgt := 45) (by decide +kernel) (nI_ge (by omega) (by omega)) ?_
    refine z_ald0 (n := 14) (by decide +kernel) ?_
    refine z_getf (n := 17) (idx := 36) (by decide +kernel) fl_X2_36 (by assumption) (by rfl) ?_
    refine z_getf (n := 20) (idx := 84) (by decide +kernel) fl_X2_84 (by assumption) (by rfl) ?_
    refine z_ild2 (n := 21) (by decide +kernel) ?_
    refine z_zald (n := 22) (by decide +kernel) (by assumption) (by first | assumption | exact ix_nI (by omega) (by omega)) ?_
    refine z_ifb_eq (n := 25) (off := 17) (tgt := 39) (by decide +kernel) (fun c22 => ?_) (fun c22 => ?_)
    · refine z_inc2 (n := 42) (q := 1) (by decide +kernel) rfl (nI_1 _) ?_
      refine z_goto (n := 45) (off := -40) (tgt := 2) (by decide +kernel) ?_
      exact ih (by simp [anB, h0, c22])
    · refine z_ald0 (n := 26) (by decide +kernel) ?_
      refine z_getf (n := 29) (idx := 29) (by decide +kernel) fl_X2_29 (by assumption) (by rfl) ?_
      refine z_ild2 (n := 30) (by decide +kernel) ?_
      refine z_ild1 (n := 31) (by decide +kernel) ?_
      refine z_v2 (n := 34) (idx := 88) (by decide +kernel) ml_X2_88 (by assumption) rfl (Nat.le_of_ble_eq_true rfl) (by omega) ⟨Nat.le_refl _, Nat.le_refl _⟩ (k_crosses 0 hS hP (by omega) hN) ?_
      refine z_ifb_eq (n := 37) (off := 5) (tgt := 39) (by decide +kernel) (fun c34 => ?_) (fun c34 => ?_)
      · refine z_inc2 (n := 42) (q := 1) (by decide +kernel) rfl (nI_1 _) ?_
        refine z_goto (n := 45) (off := -40) (tgt := 2) (by decide +kernel) ?_
        exact ih (by simp [anB, h0, c22, c34])
      · refine z_iconst (n := 38) (q := 1) (v := 1) (by decide +kernel) ?_
        first | refine z_zr1 (by decide +kernel) rfl (Nat.le_refl _) ?_ | refine z_zr0 (by decide +kernel) rfl (Nat.le_refl _) ?_ | refine z_zrb (by decide +kernel) rfl (Nat.le_refl _) ?_
        exact ⟨by rw [anB_of (j := u) (by simp [c22, c34]) n ul], rfl⟩
def mwF (H : Int32 → Int32) (x : Int32) : Int32 := 1 + (if H (x - 1) < H x then H x else H (x - 1)) / 8
def hCr (h : mH) (B N : Nat) (b : Nat → Bool) (mw sg ck ak : Int32) (si rs wr tk ac : Nat → Int32) (up tn : Nat → Bool) (u : Nat) : mH :=
  hu (hu (hu (hu (hu (hu h (B + 6 + 1) (aI N (cu b (fun j => if up j then 1 else 2) si u))) (B + 6 + 2) (aI N (cu b (fun j => mx3 (rs j)) rs u))) (B + 6 + 3) (aI N (cu b (fun j => wr j + mw) wr u))) (B + 6 + 6) (aZ N (cu b (fun j => if wr j + mw < sg then tn j else true) tn u))) (B + 6 + 4) (aI N (cu b (fun _ => ck) tk u))) (B + 6 + 5) (aI N (cu b (fun _ => ak) ac u))
theorem hCr_0 {h : mH} {B N : Nat} {b : Nat → Bool} {mw sg ck ak : Int32} {si rs wr tk ac : Nat → Int32} {up tn : Nat → Bool} (h1 : h (B + 6 + 1) = aI N si) (h2 : h (B + 6 + 2) = aI N rs) (h3 : h (B + 6 + 3) = aI N wr) (h4 : h (B + 6 + 4) = aI N tk) (h5 : h (B + 6 + 5) = aI N ac) (h6 : h (B + 6 + 6) = aZ N tn) : h = hCr h B N b mw sg ck ak si rs wr tk ac up tn 0 := by
  rw [hCr, cu_0, cu_0, cu_0, cu_0, cu_0, cu_0, hu_self h1, hu_self h2, hu_self h3, hu_self h6, hu_self h4, hu_self h5]
theorem k_creaseAlong {G : mG} {h : mH} {B N n : Nat} {cp es sg th ck ak tl x : Int32} {pl ht si rs wr tk ac : Nat → Int32} {up tn : Nat → Bool} (d : Nat) (hd : 2 ≤ d) (hB : h B = oPap B cp es sg th ck ak) (hS : h (B + 1) = oStrip (B + 1) (nI (n + 1)) tl) (hP : h (B + 1 + 1) = aI N pl) (hU : h (B + 1 + 3) = aZ N up) (hT : h (B + 1 + 4) = aI N ht) (hC : h (B + 6) = oCre (B + 6)) (h1 : h (B + 6 + 1) = aI N si) (h2 : h (B + 6 + 2) = aI N rs) (h3 : h (B + 6 + 3) = aI N wr) (h4 : h (B + 6 + 4) = aI N tk) (h5 : h (B + 6 + 5) = aI N ac) (h6 : h (B + 6 + 6) = aZ N tn) (hk : n + 1 ≤ N) (hN : N < 2 ^ 31) :
    EV G m_X2_creaseAlong d 0 0 [.ref B, .int x] h (RE (some (.int (nI (cnb (fun j => crs pl j x) n)))) (hCr h B N (fun j => crs pl j x) (mwF (hgt ht N tl) x) sg ck ak si rs wr tk ac up tn n)) := by
  refine ev_2_4 rfl rfl (by decide +kernel) (by decide +kernel) ?_
  refine z_iconst (n := 1) (q := 1) (v := 1) (by decide +kernel) ?_
  refine z_ald0 (n := 2) (by decide +kernel) ?_
  refine z_getf (n := 5) (idx := 29) (by decide +kernel) fl_X2_29 (by assumption) (by rfl) ?_
  refine z_ild1 (n := 6) (by decide +kernel) ?_
  refine z_iconst (n := 7) (q := 1) (v := 1) (by decide +kernel) ?_
  refine z_isub (n := 8) (by decide +kernel) ?_
  refine z_v1 (n := 11) (idx := 92) (by decide +kernel) ml_X2_92 (by assumption) rfl (Nat.le_of_ble_eq_true rfl) (by omega) ⟨Nat.le_refl _, Nat.le_refl _⟩ (k_heightOf 0 hS hT hN) ?_
  refine z_ald0 (n := 12) (by decide +kernel) ?_
  refine z_getf (n := 15) (idx := 29) (by decide +kernel) fl_X2_29 (by assumption) (by rfl) ?_
  refine z_ild1 (n := 16) (by decide +kernel) ?_
  refine z_v1 (n := 19) (idx := 92) (by decide +kernel) ml_X2_92 (by assumption) rfl (Nat.le_of_ble_eq_true rfl) (by omega) ⟨Nat.le_refl _, Nat.le_refl _⟩ (k_heightOf 0 hS hT hN) ?_
  refine z_mmax (n := 22) (idx := 95) (by decide +kernel) jl_X2_95 (Nat.le_of_ble_eq_true rfl) (by omega) (Nat.le_refl _) (Nat.le_refl _) ?_
  refine z_bipush (n := 24) (q := 8) (v := 8) (by decide +kernel) ?_
  refine z_idiv (n := 25) (by decide +kernel) (by decide) ?_
  refine z_iadd (n := 26) (by decide +kernel) ?_
  refine z_ist2 (n := 27) (by decide +kernel) rfl ?_
  refine z_iconst (n := 28) (q := 0) (v := 0) (by decide +kernel) ?_
  refine z_ist3 (n := 29) (by decide +kernel) rfl ?_
  refine z_iconst (n := 30) (q := 1) (v := 1) (by decide +kernel) ?_
  refine z_ist4 (n := 32) (by decide +kernel) rfl ?_
  skip
  refine z_heap (hCr_0 (b := fun j => crs pl j x) (mw := mwF (hgt ht N tl) x) (sg := sg) (ck := ck) (ak := ak) (up := up) h1 h2 h3 h4 h5 h6) ?_
  refine loopZ (k := n) (fun u => Z G m_X2_creaseAlong d 0 0 0 0 32 [some (.ref B), some (.int x), some (.int (mwF (hgt ht N tl) x)), some (.int (nI (cnb (fun j => crs pl j x) u))), some (.int (nI (u + 1))), none] [] (hCr h B N (fun j => crs pl j x) (mwF (hgt ht N tl) x) sg ck ak si rs wr tk ac up tn u) (RE (some (.int (nI (cnb (fun j => crs pl j x) n)))) (hCr h B N (fun j => crs pl j x) (mwF (hgt ht N tl) x) sg ck ak si rs wr tk ac up tn n))) ?_ ?_ 0 (Nat.zero_le n)
  · refine z_ild4 (n := 34) (by decide +kernel) ?_
    refine z_ald0 (n := 35) (by decide +kernel) ?_
    refine z_getf (n := 38) (idx := 29) (by decide +kernel) fl_X2_29 (by unfold hCr; simp (disch := omega) only [hu_s, hu_n]; first | assumption | rfl) (by rfl) ?_
    refine z_getf (n := 41) (idx := 78) (by decide +kernel) fl_X2_78 (by unfold hCr; simp (disch := omega) only [hu_s, hu_n]; first | assumption | rfl) (by rfl) ?_
    refine z_icmp_ge_t (n := 44) (off := 89) (tgt := 130) (by decide +kernel) (nI_le (Nat.le_refl _) (by omega)) ?_
    refine z_ild3 (n := 131) (by decide +kernel) ?_
    refine z_iret (by decide +kernel) rfl (Nat.le_refl _) ?_
    exact ⟨rfl, rfl⟩
  · intro u ul ih
    have no : crs pl u x = false → Z G m_X2_creaseAlong d 0 0 0 0 124 [some (.ref B), some (.int x), some (.int (mwF (hgt ht N tl) x)), some (.int (nI (cnb (fun j => crs pl j x) u))), some (.int (nI (u + 1))), none] [] (hCr h B N (fun j => crs pl j x) (mwF (hgt ht N tl) x) sg ck ak si rs wr tk ac up tn u) (RE (some (.int (nI (cnb (fun j => crs pl j x) n)))) (hCr h B N (fun j => crs pl j x) (mwF (hgt ht N tl) x) sg ck ak si rs wr tk ac up tn n)) := by
      intro hm
      refine z_inc4 (n := 127) (q := 1) (by decide +kernel) rfl (nI_1 _) ?_
      refine z_goto (n := 130) (off := -95) (tgt := 32) (by decide +kernel) ?_
      refine z_heap (h1 := hCr h B N (fun j => crs pl j x) (mwF (hgt ht N tl) x) sg ck ak si rs wr tk ac up tn (u + 1)) (by simp only [hCr]; rw [cu_n hm, cu_n hm, cu_n hm, cu_n hm, cu_n hm, cu_n hm]) (by simpa [cnb, hm] using ih)
    have ya : crs pl u x = true → ∀ sn : Int32, sn = (if up (u + 1) then 1 else 2) → Z G m_X2_creaseAlong d 0 0 0 0 77 [some (.ref B), some (.int x), some (.int (mwF (hgt ht N tl) x)), some (.int (nI (cnb (fun j => crs pl j x) u))), some (.int (nI (u + 1))), some (.int sn)] [] (hCr h B N (fun j => crs pl j x) (mwF (hgt ht N tl) x) sg ck ak si rs wr tk ac up tn u) (RE (some (.int (nI (cnb (fun j => crs pl j x) n)))) (hCr h B N (fun j => crs pl j x) (mwF (hgt ht N tl) x) sg ck ak si rs wr tk ac up tn n)) := by
      intro hm sn hsn
      have fin : hu (hu (hu (hu (hu (hu (hCr h B N (fun j => crs pl j x) (mwF (hgt ht N tl) x) sg ck ak si rs wr tk ac up tn u) (B + 6 + 1) (aI N (upd (cu (fun j => crs pl j x) (fun j => if up j then 1 else 2) si u) (u + 1) sn))) (B + 6 + 2) (aI N (upd (cu (fun j => crs pl j x) (fun j => mx3 (rs j)) rs u) (u + 1) (mx3 (cu (fun j => crs pl j x) (fun j => mx3 (rs j)) rs u (u + 1)))))) (B + 6 + 3) (aI N (upd (cu (fun j => crs pl j x) (fun j => wr j + mwF (hgt ht N tl) x) wr u) (u + 1) (cu (fun j => crs pl j x) (fun j => wr j + mwF (hgt ht N tl) x) wr u (u + 1) + mwF (hgt ht N tl) x)))) (B + 6 + 6) (aZ N (if cu (fun j => crs pl j x) (fun j => wr j + mwF (hgt ht N tl) x) wr u (u + 1) + mwF (hgt ht N tl) x < sg then cu (fun j => crs pl j x) (fun j => if wr j + mwF (hgt ht N tl) x < sg then tn j else true) tn u else updB (cu (fun j => crs pl j x) (fun j => if wr j + mwF (hgt ht N tl) x < sg then tn j else true) tn u) (u + 1) true))) (B + 6 + 4) (aI N (upd (cu (fun j => crs pl j x) (fun _ => ck) tk u) (u + 1) ck))) (B + 6 + 5) (aI N (upd (cu (fun j => crs pl j x) (fun _ => ak) ac u) (u + 1) ak))
          = hCr h B N (fun j => crs pl j x) (mwF (hgt ht N tl) x) sg ck ak si rs wr tk ac up tn (u + 1) := by
        subst hsn
        have e1 := cu_y (b := fun j => crs pl j x) (f := fun j => if up j then 1 else 2) (g := si) hm
        have e2 := cu_y (b := fun j => crs pl j x) (f := fun j => mx3 (rs j)) (g := rs) hm
        have e3 := cu_y (b := fun j => crs pl j x) (f := fun j => wr j + mwF (hgt ht N tl) x) (g := wr) hm
        have e4 := cu_y (b := fun j => crs pl j x) (f := fun _ => ck) (g := tk) hm
        have e5 := cu_y (b := fun j => crs pl j x) (f := fun _ => ak) (g := ac) hm
        have e6 : (if wr (u + 1) + mwF (hgt ht N tl) x < sg then cu (fun j => crs pl j x) (fun j => if wr j + mwF (hgt ht N tl) x < sg then tn j else true) tn u else updB (cu (fun j => crs pl j x) (fun j => if wr j + mwF (hgt ht N tl) x < sg then tn j else true) tn u) (u + 1) true) = cu (fun j => crs pl j x) (fun j => if wr j + mwF (hgt ht N tl) x < sg then tn j else true) tn (u + 1) := by
          rw [← cu_yB (b := fun j => crs pl j x) hm]
          split
          · have e9 := updB_self (cu (fun j => crs pl j x) (fun j => if wr j + mwF (hgt ht N tl) x < sg then tn j else true) tn u) (u + 1)
            rw [cu_u] at e9
            exact e9.symm
          · rfl
        rw [cu_u, cu_u, e1, e2, e3, e4, e5, e6]
        unfold hCr
        funext j9
        by_cases e90 : j9 = B + 6 + 1
        · subst e90; simp [hu]
        by_cases e91 : j9 = B + 6 + 2
        · subst e91; simp [hu]
        by_cases e92 : j9 = B + 6 + 3
        · subst e92; simp [hu]
        by_cases e93 : j9 = B + 6 + 4
        · subst e93; simp [hu]
        by_cases e94 : j9 = B + 6 + 5
        · subst e94; simp [hu]
        by_cases e95 : j9 = B + 6 + 6
        · subst e95; simp [hu]
        simp [hu, e90, e91, e92, e93, e94, e95]
      refine z_ald0 (n := 78) (by decide +kernel) ?_
      refine z_getf (n := 81) (idx := 36) (by decide +kernel) fl_X2_36 (by unfold hCr; simp (disch := omega) only [hu_s, hu_n]; first | assumption | rfl) (by rfl) ?_
      refine z_ild4 (n := 83) (by decide +kernel) ?_
      refine z_ild5 (n := 85) (by decide +kernel) ?_
      refine z_ild2 (n := 86) (by decide +kernel) ?_
      refine z_ald0 (n := 87) (by decide +kernel) ?_
      refine z_getf (n := 90) (idx := 18) (by decide +kernel) fl_X2_18 (by unfold hCr; simp (disch := omega) only [hu_s, hu_n]; first | assumption | rfl) (by rfl) ?_
      refine z_v4v (n := 93) (idx := 104) (by decide +kernel) ml_X2_104 (by unfold hCr; simp (disch := omega) only [hu_s, hu_n]; first | assumption | rfl) rfl (Nat.le_of_ble_eq_true rfl) (by omega) ⟨Nat.le_refl _, Nat.le_refl _⟩ (k_press (si := cu (fun j => crs pl j x) (fun j => if up j then 1 else 2) si u) (rs := cu (fun j => crs pl j x) (fun j => mx3 (rs j)) rs u) (wr := cu (fun j => crs pl j x) (fun j => wr j + mwF (hgt ht N tl) x) wr u) (tn := cu (fun j => crs pl j x) (fun j => if wr j + mwF (hgt ht N tl) x < sg then tn j else true) tn u) (N := N) 1 (by omega) (by unfold hCr; simp (disch := omega) only [hu_s, hu_n]; assumption) (by unfold hCr; simp (disch := omega) only [hu_s, hu_n]) (by unfold hCr; simp (disch := omega) only [hu_s, hu_n]) (by unfold hCr; simp (disch := omega) only [hu_s, hu_n]) (by unfold hCr; simp (disch := omega) only [hu_s, hu_n]) (by omega) hN) ?_
      refine z_ald0 (n := 94) (by decide +kernel) ?_
      refine z_getf (n := 97) (idx := 36) (by decide +kernel) fl_X2_36 (by unfold hCr; simp (disch := omega) only [hu_s, hu_n]; first | assumption | rfl) (by rfl) ?_
      refine z_getf (n := 100) (idx := 108) (by decide +kernel) fl_X2_108 (by unfold hCr; simp (disch := omega) only [hu_s, hu_n]; first | assumption | rfl) (by rfl) ?_
      refine z_ild4 (n := 102) (by decide +kernel) ?_
      refine z_ald0 (n := 103) (by decide +kernel) ?_
      refine z_getf (n := 106) (idx := 47) (by decide +kernel) fl_X2_47 (by unfold hCr; simp (disch := omega) only [hu_s, hu_n]; first | assumption | rfl) (by rfl) ?_
      refine z_iast (n := 107) (by decide +kernel) (by unfold hCr; simp (disch := omega) only [hu_s, hu_n]; first | assumption | rfl) (by first | assumption | exact ix_nI (by omega) (by omega)) ?_
      refine z_ald0 (n := 108) (by decide +kernel) ?_
      refine z_getf (n := 111) (idx := 36) (by decide +kernel) fl_X2_36 (by unfold hCr; simp (disch := omega) only [hu_s, hu_n]; first | assumption | rfl) (by rfl) ?_
      refine z_getf (n := 114) (idx := 112) (by decide +kernel) fl_X2_112 (by unfold hCr; simp (disch := omega) only [hu_s, hu_n]; first | assumption | rfl) (by rfl) ?_
      refine z_ild4 (n := 116) (by decide +kernel) ?_
      refine z_ald0 (n := 117) (by decide +kernel) ?_
      refine z_getf (n := 120) (idx := 50) (by decide +kernel) fl_X2_50 (by unfold hCr; simp (disch := omega) only [hu_s, hu_n]; first | assumption | rfl) (by rfl) ?_
      refine z_iast (n := 121) (by decide +kernel) (by unfold hCr; simp (disch := omega) only [hu_s, hu_n]; first | assumption | rfl) (by first | assumption | exact ix_nI (by omega) (by omega)) ?_
      refine z_inc3 (n := 124) (q := 1) (by decide +kernel) rfl (nI_1 _) ?_
      refine z_inc4 (n := 127) (q := 1) (by decide +kernel) rfl (nI_1 _) ?_
      refine z_goto (n := 130) (off := -95) (tgt := 32) (by decide +kernel) ?_
      exact z_wk (lv' := [some (.ref B), some (.int x), some (.int (mwF (hgt ht N tl) x)), some (.int (nI (cnb (fun j => crs pl j x) u + 1))), some (.int (nI (u + 1 + 1))), none]) (by simp [wk]) (z_heap fin (by simpa [cnb, hm] using ih))
    refine z_ild4 (n := 34) (by decide +kernel) ?_
    refine z_ald0 (n := 35) (by decide +kernel) ?_
    refine z_getf (n := 38) (idx := 29) (by decide +kernel) fl_X2_29 (by unfold hCr; simp (disch := omega) only [hu_s, hu_n]; first | assumption | rfl) (by rfl) ?_
    refine z_getf (n := 41) (idx := 78) (by decide +kernel) fl_X2_78 (by unfold hCr; simp (disch := omega) only [hu_s, hu_n]; first | assumption | rfl) (by rfl) ?_
    refine z_icmp_ge_f (n := 44) (off := 89) (tgt := 130) (by decide +kernel) (nI_ge (by omega) (by omega)) ?_
    refine z_ald0 (n := 45) (by decide +kernel) ?_
    refine z_getf (n := 48) (idx := 29) (by decide +kernel) fl_X2_29 (by unfold hCr; simp (disch := omega) only [hu_s, hu_n]; first | assumption | rfl) (by rfl) ?_
    refine z_ild4 (n := 50) (by decide +kernel) ?_
    refine z_ild1 (n := 51) (by decide +kernel) ?_
    refine z_v2 (n := 54) (idx := 88) (by decide +kernel) ml_X2_88 (by unfold hCr; simp (disch := omega) only [hu_s, hu_n]; first | assumption | rfl) rfl (Nat.le_of_ble_eq_true rfl) (by omega) ⟨Nat.le_refl _, Nat.le_refl _⟩ (k_crosses (f := pl) (N := N) 0 (by unfold hCr; simp (disch := omega) only [hu_s, hu_n]; assumption) (by unfold hCr; simp (disch := omega) only [hu_s, hu_n]; assumption) (by omega) hN) ?_
    refine z_ifb_eq (n := 57) (off := 70) (tgt := 124) (by decide +kernel) (fun c54 => ?_) (fun c54 => ?_)
    · exact no c54
    · refine z_ald0 (n := 58) (by decide +kernel) ?_
      refine z_getf (n := 61) (idx := 29) (by decide +kernel) fl_X2_29 (by unfold hCr; simp (disch := omega) only [hu_s, hu_n]; first | assumption | rfl) (by rfl) ?_
      refine z_getf (n := 64) (idx := 101) (by decide +kernel) fl_X2_101 (by unfold hCr; simp (disch := omega) only [hu_s, hu_n]; first | assumption | rfl) (by rfl) ?_
      refine z_ild4 (n := 66) (by decide +kernel) ?_
      refine z_zald (n := 67) (by decide +kernel) (by unfold hCr; simp (disch := omega) only [hu_s, hu_n]; first | assumption | rfl) (by first | assumption | exact ix_nI (by omega) (by omega)) ?_
      refine z_ifb_eq (n := 70) (off := 7) (tgt := 74) (by decide +kernel) (fun c67 => ?_) (fun c67 => ?_)
      · refine z_iconst (n := 75) (q := 2) (v := 2) (by decide +kernel) ?_
        refine z_ist5 (n := 77) (by decide +kernel) rfl ?_
        exact ya c54 _ (by simp [c67])
      · refine z_iconst (n := 71) (q := 1) (v := 1) (by decide +kernel) ?_
        refine z_goto (n := 74) (off := 4) (tgt := 75) (by decide +kernel) ?_
        refine z_ist5 (n := 77) (by decide +kernel) rfl ?_
        exact ya c54 _ (by simp [c67])
/-- rest behind t ticks -/
def rsF (cp es : Int32) (t : Nat) (pl rs : Nat → Int32) (j : Nat) : Int32 := if pl (j - 1) = pl j then itr (crF cp) t (rs j) else itr (esF es) t (rs j)
theorem k_endAct {G : mG} {h : mH} {B N n t : Nat} {cp es sg th ck ak tl : Int32} {pl si rs : Nat → Int32} (d : Nat) (hd : 1 ≤ d) (hB : h B = oPap B cp es sg th ck ak) (hS : h (B + 1) = oStrip (B + 1) (nI (n + 1)) tl) (hP : h (B + 1 + 1) = aI N pl) (hC : h (B + 6) = oCre (B + 6)) (h1 : h (B + 6 + 1) = aI N si) (h2 : h (B + 6 + 2) = aI N rs) (hk : n + 1 ≤ N) (hN : N < 2 ^ 31) (ht : t < 2 ^ 31) :
    EV G m_X2_endAct d 0 0 [.ref B, .int (nI t)] h (RE none (hu (hu h B (oPap B cp es sg th (ck + nI t) (ak + 1))) (B + 6 + 2) (aI N (cu (fun j => !decide (si (j + 1) = 0)) (rsF cp es t pl rs) rs n)))) := by
  refine ev_2_1 rfl rfl (by decide +kernel) (by decide +kernel) ?_
  refine z_ald0 (n := 1) (by decide +kernel) ?_
  refine z_dup (n := 2) (by decide +kernel) rfl ?_
  refine z_getf (n := 5) (idx := 50) (by decide +kernel) fl_X2_50 (by first | assumption | (simp (disch := omega) only [hu_s, hu_n]; first | assumption | rfl)) (by rfl) ?_
  refine z_iconst (n := 6) (q := 1) (v := 1) (by decide +kernel) ?_
  refine z_iadd (n := 7) (by decide +kernel) ?_
  refine z_putf (n := 10) (idx := 50) (ty := .int) (by decide +kernel) fl_X2_50 (by first | assumption | (simp (disch := omega) only [hu_s, hu_n]; first | assumption | rfl)) ⟨_, _, _, rfl, rfl, by decide +kernel⟩ rfl rfl (Nat.le_of_ble_eq_true rfl) ?_
  refine z_ald0 (n := 11) (by decide +kernel) ?_
  refine z_dup (n := 12) (by decide +kernel) rfl ?_
  refine z_getf (n := 15) (idx := 47) (by decide +kernel) fl_X2_47 (by first | assumption | (simp (disch := omega) only [hu_s, hu_n]; first | assumption | rfl)) (by rfl) ?_
  refine z_ild1 (n := 16) (by decide +kernel) ?_
  refine z_iadd (n := 17) (by decide +kernel) ?_
  refine z_putf (n := 20) (idx := 47) (ty := .int) (by decide +kernel) fl_X2_47 (by first | assumption | (simp (disch := omega) only [hu_s, hu_n]; first | assumption | rfl)) ⟨_, _, _, rfl, rfl, by decide +kernel⟩ rfl rfl (Nat.le_of_ble_eq_true rfl) ?_
  refine z_iconst (n := 21) (q := 1) (v := 1) (by decide +kernel) ?_
  refine z_ist2 (n := 22) (by decide +kernel) rfl ?_
  skip
  refine z_heap (h1 := hu (hu h B (oPap B cp es sg th (ck + nI t) (ak + 1))) (B + 6 + 2) (aI N (cu (fun j => !decide (si (j + 1) = 0)) (rsF cp es t pl rs) rs 0))) (by rw [cu_0, hu_hu, hu_self (i := B + 6 + 2)]; rfl; simp (disch := omega) only [hu_n]; assumption) ?_
  refine loopZ (k := n) (fun u => Z G m_X2_endAct d 0 0 0 0 22 [some (.ref B), some (.int (nI t)), some (.int (nI (u + 1)))] [] (hu (hu h B (oPap B cp es sg th (ck + nI t) (ak + 1))) (B + 6 + 2) (aI N (cu (fun j => !decide (si (j + 1) = 0)) (rsF cp es t pl rs) rs u))) (RE none (hu (hu h B (oPap B cp es sg th (ck + nI t) (ak + 1))) (B + 6 + 2) (aI N (cu (fun j => !decide (si (j + 1) = 0)) (rsF cp es t pl rs) rs n))))) ?_ ?_ 0 (Nat.zero_le n)
  · refine z_ild2 (n := 23) (by decide +kernel) ?_
    refine z_ald0 (n := 24) (by decide +kernel) ?_
    refine z_getf (n := 27) (idx := 29) (by decide +kernel) fl_X2_29 (by first | assumption | (simp (disch := omega) only [hu_s, hu_n]; first | assumption | rfl)) (by rfl) ?_
    refine z_getf (n := 30) (idx := 78) (by decide +kernel) fl_X2_78 (by first | assumption | (simp (disch := omega) only [hu_s, hu_n]; first | assumption | rfl)) (by rfl) ?_
    refine z_icmp_ge_t (n := 33) (off := 64) (tgt := 94) (by decide +kernel) (nI_le (Nat.le_refl _) (by omega)) ?_
    refine z_vret (by decide +kernel) rfl (Nat.le_refl _) ?_
    exact ⟨rfl, rfl⟩
  · intro u ul ih
    have nn : si (u + 1) = 0 → aI N (cu (fun j => !decide (si (j + 1) = 0)) (rsF cp es t pl rs) rs u) = aI N (cu (fun j => !decide (si (j + 1) = 0)) (rsF cp es t pl rs) rs (u + 1)) := by
      intro e
      rw [cu_n (by simp [e])]
    have yy : ∀ v : Int32, ¬ si (u + 1) = 0 → v = rsF cp es t pl rs (u + 1) → hu (hu (hu h B (oPap B cp es sg th (ck + nI t) (ak + 1))) (B + 6 + 2) (aI N (cu (fun j => !decide (si (j + 1) = 0)) (rsF cp es t pl rs) rs u))) (B + 6 + 2) (aI N (upd (cu (fun j => !decide (si (j + 1) = 0)) (rsF cp es t pl rs) rs u) (u + 1) v)) = hu (hu h B (oPap B cp es sg th (ck + nI t) (ak + 1))) (B + 6 + 2) (aI N (cu (fun j => !decide (si (j + 1) = 0)) (rsF cp es t pl rs) rs (u + 1))) := by
      intro v e1 e2
      rw [hu_hu, e2, cu_y (by simp [e1])]
    refine z_ild2 (n := 23) (by decide +kernel) ?_
    refine z_ald0 (n := 24) (by decide +kernel) ?_
    refine z_getf (n := 27) (idx := 29) (by decide +kernel) fl_X2_29 (by first | assumption | (simp (disch := omega) only [hu_s, hu_n]; first | assumption | rfl)) (by rfl) ?_
    refine z_getf (n := 30) (idx := 78) (by decide +kernel) fl_X2_78 (by first | assumption | (simp (disch := omega) only [hu_s, hu_n]; first | assumption | rfl)) (by rfl) ?_
    refine z_icmp_ge_f (n := 33) (off := 64) (tgt := 94) (by decide +kernel) (nI_ge (by omega) (by omega)) ?_
    refine z_ald0 (n := 34) (by decide +kernel) ?_
    refine z_getf (n := 37) (idx := 36) (by decide +kernel) fl_X2_36 (by first | assumption | (simp (disch := omega) only [hu_s, hu_n]; first | assumption | rfl)) (by rfl) ?_
    refine z_getf (n := 40) (idx := 115) (by decide +kernel) fl_X2_115 (by first | assumption | (simp (disch := omega) only [hu_s, hu_n]; first | assumption | rfl)) (by rfl) ?_
    refine z_ild2 (n := 41) (by decide +kernel) ?_
    refine z_iald (n := 42) (by decide +kernel) (by first | assumption | (simp (disch := omega) only [hu_s, hu_n]; first | assumption | rfl)) (by first | assumption | exact ix_nI (by omega) (by omega)) ?_
    refine z_if_ne (n := 45) (off := 6) (tgt := 48) (by decide +kernel) (fun c42 => ?_) (fun c42 => ?_)
    · refine z_ald0 (n := 49) (by decide +kernel) ?_
      refine z_getf (n := 52) (idx := 29) (by decide +kernel) fl_X2_29 (by first | assumption | (simp (disch := omega) only [hu_s, hu_n]; first | assumption | rfl)) (by rfl) ?_
      refine z_ild2 (n := 53) (by decide +kernel) ?_
      refine z_v1 (n := 56) (idx := 118) (by decide +kernel) ml_X2_118 (by first | assumption | (simp (disch := omega) only [hu_s, hu_n]; first | assumption | rfl)) rfl (Nat.le_of_ble_eq_true rfl) (by omega) ⟨Nat.le_refl _, Nat.le_refl _⟩ (k_isFolded (f := pl) (N := N) 0 (by simp (disch := omega) only [hu_s, hu_n]; assumption) (by simp (disch := omega) only [hu_s, hu_n]; assumption) (by omega) hN) ?_
      refine z_ifb_eq (n := 59) (off := 19) (tgt := 75) (by decide +kernel) (fun c56 => ?_) (fun c56 => ?_)
      · refine z_ald0 (n := 76) (by decide +kernel) ?_
        refine z_getf (n := 79) (idx := 36) (by decide +kernel) fl_X2_36 (by first | assumption | (simp (disch := omega) only [hu_s, hu_n]; first | assumption | rfl)) (by rfl) ?_
        refine z_ild2 (n := 80) (by decide +kernel) ?_
        refine z_ald0 (n := 81) (by decide +kernel) ?_
        refine z_getf (n := 84) (idx := 15) (by decide +kernel) fl_X2_15 (by first | assumption | (simp (disch := omega) only [hu_s, hu_n]; first | assumption | rfl)) (by rfl) ?_
        refine z_ild1 (n := 85) (by decide +kernel) ?_
        refine z_v3v (n := 88) (idx := 124) (by decide +kernel) ml_X2_124 (by first | assumption | (simp (disch := omega) only [hu_s, hu_n]; first | assumption | rfl)) rfl (Nat.le_of_ble_eq_true rfl) (by omega) ⟨Nat.le_refl _, Nat.le_refl _⟩ (k_ease (N := N) (rs := cu (fun j => !decide (si (j + 1) = 0)) (rsF cp es t pl rs) rs u) 0 (by simp (disch := omega) only [hu_s, hu_n]; assumption) (by simp (disch := omega) only [hu_s, hu_n]) (by omega) hN ht) ?_
        refine z_inc2 (n := 91) (q := 1) (by decide +kernel) rfl (nI_1 _) ?_
        refine z_goto (n := 94) (off := -69) (tgt := 22) (by decide +kernel) ?_
        first | exact z_heap (by rw [nn c42]) ih | exact z_heap (yy _ c42 (by rw [cu_u]; simp [rsF] at c56 ⊢; simp [c56])) ih
      · refine z_ald0 (n := 60) (by decide +kernel) ?_
        refine z_getf (n := 63) (idx := 36) (by decide +kernel) fl_X2_36 (by first | assumption | (simp (disch := omega) only [hu_s, hu_n]; first | assumption | rfl)) (by rfl) ?_
        refine z_ild2 (n := 64) (by decide +kernel) ?_
        refine z_ald0 (n := 65) (by decide +kernel) ?_
        refine z_getf (n := 68) (idx := 9) (by decide +kernel) fl_X2_9 (by first | assumption | (simp (disch := omega) only [hu_s, hu_n]; first | assumption | rfl)) (by rfl) ?_
        refine z_ild1 (n := 69) (by decide +kernel) ?_
        refine z_v3v (n := 72) (idx := 121) (by decide +kernel) ml_X2_121 (by first | assumption | (simp (disch := omega) only [hu_s, hu_n]; first | assumption | rfl)) rfl (Nat.le_of_ble_eq_true rfl) (by omega) ⟨Nat.le_refl _, Nat.le_refl _⟩ (k_creep (N := N) (rs := cu (fun j => !decide (si (j + 1) = 0)) (rsF cp es t pl rs) rs u) 0 (by simp (disch := omega) only [hu_s, hu_n]; assumption) (by simp (disch := omega) only [hu_s, hu_n]) (by omega) hN ht) ?_
        refine z_goto (n := 75) (off := 16) (tgt := 88) (by decide +kernel) ?_
        refine z_inc2 (n := 91) (q := 1) (by decide +kernel) rfl (nI_1 _) ?_
        refine z_goto (n := 94) (off := -69) (tgt := 22) (by decide +kernel) ?_
        first | exact z_heap (by rw [nn c42]) ih | exact z_heap (yy _ c42 (by rw [cu_u]; simp [rsF] at c56 ⊢; simp [c56])) ih
    · refine z_goto (n := 48) (off := 43) (tgt := 88) (by decide +kernel) ?_
      refine z_inc2 (n := 91) (q := 1) (by decide +kernel) rfl (nI_1 _) ?_
      refine z_goto (n := 94) (off := -69) (tgt := 22) (by decide +kernel) ?_
      first | exact z_heap (by rw [nn c42]) ih | exact z_heap (yy _ c42 (by rw [cu_u]; simp [rsF] at c56 ⊢; simp [c56])) ih
end
section
/-! Paper as a whole: its state, and what hands do to it -/
/-- (creep, ease, strong, thick, clock, acts), (place, layer, sign, rest, wear, tick, act), (up, torn) -/
abbrev pS : Type := (Nat → Int32) × (Nat → Nat → Int32) × (Nat → Nat → Bool)
def frm (h h' : mH) (lo hi : Nat) : Prop := ∀ j, (j < lo ∨ hi ≤ j) → h' j = h j
theorem frm_rf {h : mH} {lo hi : Nat} : frm h h lo hi := fun _ _ => rfl
theorem frm_tr {h h1 h2 : mH} {lo hi : Nat} (a : frm h h1 lo hi) (b : frm h1 h2 lo hi) : frm h h2 lo hi := fun j hj => (b j hj).trans (a j hj)
theorem frm_wd {h h1 : mH} {lo hi lo' hi' : Nat} (a : frm h h1 lo hi) (h1' : lo' ≤ lo) (h2 : hi ≤ hi') : frm h h1 lo' hi' := fun j hj => a j (by omega)
/-- the cells of a paper of n + 1 cells from the id B on -/
def papT (h : mH) (B n : Nat) (tl : Int32) (ht : Nat → Int32) (s : pS) : Prop :=
  h B = oPap B (s.1 0) (s.1 1) (s.1 2) (s.1 3) (s.1 4) (s.1 5) ∧ h (B + 1) = oStrip (B + 1) (nI (n + 1)) tl ∧ h (B + 1 + 1) = aI (n + 1) (s.2.1 0) ∧ h (B + 1 + 2) = aI (n + 1) (s.2.1 1) ∧ h (B + 1 + 3) = aZ (n + 1) (s.2.2 0) ∧ h (B + 1 + 4) = aI (n + 1) ht ∧ h (B + 6) = oCre (B + 6) ∧ h (B + 6 + 1) = aI (n + 1) (s.2.1 2) ∧ h (B + 6 + 2) = aI (n + 1) (s.2.1 3) ∧ h (B + 6 + 3) = aI (n + 1) (s.2.1 4) ∧ h (B + 6 + 4) = aI (n + 1) (s.2.1 5) ∧ h (B + 6 + 5) = aI (n + 1) (s.2.1 6) ∧ h (B + 6 + 6) = aZ (n + 1) (s.2.2 1)
def pap (h : mH) (B n : Nat) (s : pS) : Prop := ∃ (tl : Int32) (ht : Nat → Int32), papT h B n tl ht s
theorem pap_frm {h h' : mH} {B n lo hi : Nat} {s : pS} (hf : frm h h' lo hi) (ha : B + 13 ≤ lo ∨ hi ≤ B) (p : pap h B n s) : pap h' B n s := by
  obtain ⟨tl, ht, h0, h1, h2, h3, h4, h5, h6, h7, h8, h9, h10, h11, h12⟩ := p
  exact ⟨tl, ht, (hf _ (by omega)).trans h0, (hf _ (by omega)).trans h1, (hf _ (by omega)).trans h2, (hf _ (by omega)).trans h3, (hf _ (by omega)).trans h4, (hf _ (by omega)).trans h5, (hf _ (by omega)).trans h6, (hf _ (by omega)).trans h7, (hf _ (by omega)).trans h8, (hf _ (by omega)).trans h9, (hf _ (by omega)).trans h10, (hf _ (by omega)).trans h11, (hf _ (by omega)).trans h12⟩
/-- behind an act of t ticks -/
def pasS (n t : Nat) (s : pS) : pS := (fun i => match i with
  | 4 => s.1 4 + nI t
  | 5 => s.1 5 + 1
  | i => s.1 i, fun i => match i with
  | 3 => cu (fun j => !decide (s.2.1 2 (j + 1) = 0)) (rsF (s.1 0) (s.1 1) t (s.2.1 0) (s.2.1 3)) (s.2.1 3) n
  | i => s.2.1 i, s.2.2)
def flaS (n : Nat) (s : pS) : pS := (s.1, fun i => match i with
  | 0 => cpN nI (s.2.1 0) (n + 1)
  | 1 => cpN (fun _ => 0) (s.2.1 1) (n + 1)
  | i => s.2.1 i, fun i => match i with
  | 0 => cpN (fun _ => true) (s.2.2 0) (n + 1)
  | i => s.2.2 i)
/-- the height of a place as it is tallied -/
def hgS (pl : Nat → Int32) (N k : Nat) (x : Int32) : Int32 := if x - mnF pl k < 0 then 0 else if nI N ≤ x - mnF pl k then 0 else nI (cnt pl x k)
theorem cnt_sub (pl : Nat → Int32) (lo x : Int32) : ∀ k, cnt (fun v => pl v - lo) (x - lo) k = cnt pl x k
  | 0 => rfl
  | k + 1 => by
    have e : (pl k - lo = x - lo) ↔ (pl k = x) := ⟨fun q => by
      have := congrArg (· + lo) q
      simpa [Int32.sub_add_cancel] using this, fun q => by rw [q]⟩
    simp only [cnt, cnt_sub pl lo x k, e]
theorem hgt_tHt (ht pl : Nat → Int32) (N k : Nat) (hN : N < 2 ^ 31) : hgt (tHt ht pl N (mnF pl k) k) N (mnF pl k) = hgS pl N k := by
  funext x
  unfold hgt hgS
  split
  · rfl
  · rename_i c0
    split
    · rfl
    · rename_i c1
      obtain ⟨i, hi, e, -, e2, -⟩ := pk_mu c0 c1 hN
      rw [e2, tHt, cpN_at hi]
      show nI (cnt _ (nI i) k) = _
      rw [← e, cnt_sub]
/-- creased along x (before it is turned over) -/
def creS (n : Nat) (x : Int32) (s : pS) : pS := (s.1, fun i => match i with
  | 2 => cu (fun j => crs (s.2.1 0) j x) (fun j => if s.2.2 0 j then 1 else 2) (s.2.1 2) n
  | 3 => cu (fun j => crs (s.2.1 0) j x) (fun j => mx3 (s.2.1 3 j)) (s.2.1 3) n
  | 4 => cu (fun j => crs (s.2.1 0) j x) (fun j => s.2.1 4 j + mwF (hgS (s.2.1 0) (n + 1) (n + 1)) x) (s.2.1 4) n
  | 5 => cu (fun j => crs (s.2.1 0) j x) (fun _ => s.1 4) (s.2.1 5) n
  | 6 => cu (fun j => crs (s.2.1 0) j x) (fun _ => s.1 5) (s.2.1 6) n
  | i => s.2.1 i, fun i => match i with
  | 1 => cu (fun j => crs (s.2.1 0) j x) (fun j => if s.2.1 4 j + mwF (hgS (s.2.1 0) (n + 1) (n + 1)) x < s.1 2 then s.2.2 1 j else true) (s.2.2 1) n
  | i => s.2.2 i)
def trnS (n : Nat) (x : Int32) (right : Bool) (s : pS) : pS := (s.1, fun i => match i with
  | 0 => tPl (s.2.1 0) x right (n + 1)
  | 1 => tLy (hgS (s.2.1 0) (n + 1) (n + 1)) (s.2.1 0) (s.2.1 1) x right (n + 1)
  | i => s.2.1 i, fun i => match i with
  | 0 => tUp (s.2.1 0) (s.2.2 0) x right (n + 1)
  | i => s.2.2 i)
/-- a fold: its answer, and the state behind it -/
def folP (n : Nat) (x : Int32) (right : Bool) (s : pS) : Int32 × pS :=
  if x ≤ mnF (s.2.1 0) (n + 1) then (-1, s) else if mxF (s.2.1 0) (n + 1) < x then (-1, s) else
  if ¬ tlF (fun u => hgS (s.2.1 0) (n + 1) (n + 1) (s.2.1 0 u) + hgS (s.2.1 0) (n + 1) (n + 1) (2 * x - 1 - s.2.1 0 u)) (n + 1) ≤ s.1 3 then (-2, s) else
  if anB (fun j => s.2.2 1 (j + 1) && crs (s.2.1 0) j x) n = true then (-3, s) else
  if ¬ s.1 4 < 100000 then (-4, s) else (nI (cnb (fun j => crs (s.2.1 0) j x) n), pasS n 1 (trnS n x right (creS n x s)))
theorem folP_1 {n : Nat} {x : Int32} {right : Bool} {s : pS} (c : (!decide (x ≤ mnF (s.2.1 0) (n + 1)) && !decide (mxF (s.2.1 0) (n + 1) < x)) = false) : folP n x right s = (-1, s) := by
  unfold folP
  by_cases c1 : x ≤ mnF (s.2.1 0) (n + 1)
  · rw [if_pos c1]
  · by_cases c2 : mxF (s.2.1 0) (n + 1) < x
    · rw [if_neg c1, if_pos c2]
    · simp only [eq_false c1, eq_false c2, decide_false] at c
      cases c
theorem folP_t {n : Nat} {x : Int32} {s : pS} (c : (!decide (x ≤ mnF (s.2.1 0) (n + 1)) && !decide (mxF (s.2.1 0) (n + 1) < x)) = true) : ¬ x ≤ mnF (s.2.1 0) (n + 1) ∧ ¬ mxF (s.2.1 0) (n + 1) < x := by
  simp only [Bool.and_eq_true, Bool.not_eq_true', decide_eq_false_iff_not] at c
  exact c
theorem folP_2 {n : Nat} {x : Int32} {right : Bool} {s : pS} (c : (!decide (x ≤ mnF (s.2.1 0) (n + 1)) && !decide (mxF (s.2.1 0) (n + 1) < x)) = true) (c2 : ¬ tlF (fun u => hgS (s.2.1 0) (n + 1) (n + 1) (s.2.1 0 u) + hgS (s.2.1 0) (n + 1) (n + 1) (2 * x - 1 - s.2.1 0 u)) (n + 1) ≤ s.1 3) : folP n x right s = (-2, s) := by
  unfold folP
  rw [if_neg (folP_t c).1, if_neg (folP_t c).2, if_pos c2]
theorem folP_3 {n : Nat} {x : Int32} {right : Bool} {s : pS} (c : (!decide (x ≤ mnF (s.2.1 0) (n + 1)) && !decide (mxF (s.2.1 0) (n + 1) < x)) = true) (c2 : tlF (fun u => hgS (s.2.1 0) (n + 1) (n + 1) (s.2.1 0 u) + hgS (s.2.1 0) (n + 1) (n + 1) (2 * x - 1 - s.2.1 0 u)) (n + 1) ≤ s.1 3) (c3 : anB (fun j => s.2.2 1 (j + 1) && crs (s.2.1 0) j x) n = true) : folP n x right s = (-3, s) := by
  unfold folP
  rw [if_neg (folP_t c).1, if_neg (folP_t c).2, if_neg (fun z => z c2), if_pos c3]
theorem folP_4 {n : Nat} {x : Int32} {right : Bool} {s : pS} (c : (!decide (x ≤ mnF (s.2.1 0) (n + 1)) && !decide (mxF (s.2.1 0) (n + 1) < x)) = true) (c2 : tlF (fun u => hgS (s.2.1 0) (n + 1) (n + 1) (s.2.1 0 u) + hgS (s.2.1 0) (n + 1) (n + 1) (2 * x - 1 - s.2.1 0 u)) (n + 1) ≤ s.1 3) (c3 : anB (fun j => s.2.2 1 (j + 1) && crs (s.2.1 0) j x) n = false) (c4 : ¬ s.1 4 < 100000) : folP n x right s = (-4, s) := by
  unfold folP
  rw [if_neg (folP_t c).1, if_neg (folP_t c).2, if_neg (fun z => z c2), if_neg (by rw [c3]; decide), if_pos c4]
theorem folP_5 {n : Nat} {x : Int32} {right : Bool} {s : pS} (c : (!decide (x ≤ mnF (s.2.1 0) (n + 1)) && !decide (mxF (s.2.1 0) (n + 1) < x)) = true) (c2 : tlF (fun u => hgS (s.2.1 0) (n + 1) (n + 1) (s.2.1 0 u) + hgS (s.2.1 0) (n + 1) (n + 1) (2 * x - 1 - s.2.1 0 u)) (n + 1) ≤ s.1 3) (c3 : anB (fun j => s.2.2 1 (j + 1) && crs (s.2.1 0) j x) n = false) (c4 : s.1 4 < 100000) : folP n x right s = (nI (cnb (fun j => crs (s.2.1 0) j x) n), pasS n 1 (trnS n x right (creS n x s))) := by
  unfold folP
  rw [if_neg (folP_t c).1, if_neg (folP_t c).2, if_neg (fun z => z c2), if_neg (by rw [c3]; decide), if_neg (fun z => z c4)]
theorem k_foldAt {G : mG} {h : mH} {B n : Nat} {x : Int32} {right : Bool} {s : pS} (d : Nat) (hd : 3 ≤ d) (hp : pap h B n s) (hN : n + 1 < 2 ^ 31) : EV G m_X2_foldAt d 0 0 [.ref B, .int x, .int (bI right)] h (fun r h' => r = some (.int (folP n x right s).1) ∧ frm h h' B (B + 13) ∧ pap h' B n (folP n x right s).2) := by
  obtain ⟨tl, ht, hB, hS, hP, hL, hU, hT, hC, h1, h2, h3, h4, h5, h6⟩ := hp
  refine ev_3_1 rfl rfl rfl (by decide +kernel) (by decide +kernel) ?_
  refine z_ald0 (n := 1) (by decide +kernel) ?_
  refine z_getf (n := 4) (idx := 29) (by decide +kernel) fl_X2_29 (by first | assumption | (simp (disch := omega) only [hTn, hCr, hu_s, hu_n]; first | assumption | rfl)) (by rfl) ?_
  refine z_ild1 (n := 5) (by decide +kernel) ?_
  refine z_v1 (n := 8) (idx := 53) (by decide +kernel) ml_X2_53 (by first | assumption | (simp (disch := omega) only [hTn, hCr, hu_s, hu_n]; first | assumption | rfl)) rfl (Nat.le_of_ble_eq_true rfl) (by omega) ⟨Nat.le_refl _, Nat.le_refl _⟩ (k_hasBothSides 1 (by omega) hS hP (by omega) (Nat.le_refl _) hN) ?_
  refine z_ifb_ne (n := 11) (off := 5) (tgt := 13) (by decide +kernel) (fun c8 => ?_) (fun c8 => ?_)
  · refine z_ald0 (n := 14) (by decide +kernel) ?_
    refine z_getf (n := 17) (idx := 29) (by decide +kernel) fl_X2_29 (by first | assumption | (simp (disch := omega) only [hTn, hCr, hu_s, hu_n]; first | assumption | rfl)) (by rfl) ?_
    refine z_v0v (n := 20) (idx := 57) (by decide +kernel) ml_X2_57 (by first | assumption | (simp (disch := omega) only [hTn, hCr, hu_s, hu_n]; first | assumption | rfl)) rfl (Nat.le_of_ble_eq_true rfl) (by omega) ⟨Nat.le_refl _, Nat.le_refl _⟩ (k_tally 1 (by omega) hS hP hT (by omega) (Nat.le_refl _) hN) ?_
    refine z_ald0 (n := 21) (by decide +kernel) ?_
    refine z_getf (n := 24) (idx := 29) (by decide +kernel) fl_X2_29 (by first | assumption | (simp (disch := omega) only [hTn, hCr, hu_s, hu_n]; first | assumption | rfl)) (by rfl) ?_
    refine z_ild1 (n := 25) (by decide +kernel) ?_
    refine z_v1 (n := 28) (idx := 60) (by decide +kernel) ml_X2_60 (by first | assumption | (simp (disch := omega) only [hTn, hCr, hu_s, hu_n]; first | assumption | rfl)) rfl (Nat.le_of_ble_eq_true rfl) (by omega) ⟨Nat.le_refl _, Nat.le_refl _⟩ (k_tallestFolded (N := n + 1) (pl := s.2.1 0) (ht := tHt ht (s.2.1 0) (n + 1) (mnF (s.2.1 0) (n + 1)) (n + 1)) 1 (by omega) (by simp (disch := omega) only [hTn, hCr, hFl, hu_s, hu_n]; first | done | assumption | rfl) (by simp (disch := omega) only [hTn, hCr, hFl, hu_s, hu_n]; first | done | assumption | rfl) (by simp (disch := omega) only [hTn, hCr, hFl, hu_s, hu_n]; first | done | assumption | rfl) (Nat.le_refl _) hN) ?_
    rw [hgt_tHt (hN := hN)]
    refine z_ald0 (n := 29) (by decide +kernel) ?_
    refine z_getf (n := 32) (idx := 21) (by decide +kernel) fl_X2_21 (by first | assumption | (simp (disch := omega) only [hTn, hCr, hu_s, hu_n]; first | assumption | rfl)) (by rfl) ?_
    refine z_icmp_le (n := 35) (off := 6) (tgt := 38) (by decide +kernel) (fun c32 => ?_) (fun c32 => ?_)
    · refine z_ald0 (n := 39) (by decide +kernel) ?_
      refine z_ild1 (n := 40) (by decide +kernel) ?_
      refine z_v1 (n := 43) (idx := 64) (by decide +kernel) ml_X2_64 (by first | assumption | (simp (disch := omega) only [hTn, hCr, hu_s, hu_n]; first | assumption | rfl)) rfl (Nat.le_of_ble_eq_true rfl) (by omega) ⟨Nat.le_refl _, Nat.le_refl _⟩ (k_isTornAlong (N := n + 1) (pl := s.2.1 0) (tn := s.2.2 1) 1 (by omega) (by simp (disch := omega) only [hTn, hCr, hFl, hu_s, hu_n]; first | done | assumption | rfl) (by simp (disch := omega) only [hTn, hCr, hFl, hu_s, hu_n]; first | done | assumption | rfl) (by simp (disch := omega) only [hTn, hCr, hFl, hu_s, hu_n]; first | done | assumption | rfl) (by simp (disch := omega) only [hTn, hCr, hFl, hu_s, hu_n]; first | done | assumption | rfl) (by simp (disch := omega) only [hTn, hCr, hFl, hu_s, hu_n]; first | done | assumption | rfl) (Nat.le_refl _) hN) ?_
      refine z_ifb_eq (n := 46) (off := 6) (tgt := 49) (by decide +kernel) (fun c43 => ?_) (fun c43 => ?_)
      · refine z_ald0 (n := 50) (by decide +kernel) ?_
        refine z_getf (n := 53) (idx := 47) (by decide +kernel) fl_X2_47 (by first | assumption | (simp (disch := omega) only [hTn, hCr, hu_s, hu_n]; first | assumption | rfl)) (by rfl) ?_
        refine z_ldc (n := 55) (q := 67) (by decide +kernel) lc_X2_67 ?_
        refine z_icmp_lt (n := 58) (off := 6) (tgt := 61) (by decide +kernel) (fun c55 => ?_) (fun c55 => ?_)
        · refine z_ald0 (n := 62) (by decide +kernel) ?_
          refine z_ild1 (n := 63) (by decide +kernel) ?_
          refine z_v1 (n := 66) (idx := 68) (by decide +kernel) ml_X2_68 (by first | assumption | (simp (disch := omega) only [hTn, hCr, hu_s, hu_n]; first | assumption | rfl)) rfl (Nat.le_of_ble_eq_true rfl) (by omega) ⟨Nat.le_refl _, Nat.le_refl _⟩ (k_creaseAlong (N := n + 1) (pl := s.2.1 0) (ht := tHt ht (s.2.1 0) (n + 1) (mnF (s.2.1 0) (n + 1)) (n + 1)) (si := s.2.1 2) (rs := s.2.1 3) (wr := s.2.1 4) (tk := s.2.1 5) (ac := s.2.1 6) (up := s.2.2 0) (tn := s.2.2 1) 2 (by omega) (by simp (disch := omega) only [hTn, hCr, hFl, hu_s, hu_n]; first | done | assumption | rfl) (by simp (disch := omega) only [hTn, hCr, hFl, hu_s, hu_n]; first | done | assumption | rfl) (by simp (disch := omega) only [hTn, hCr, hFl, hu_s, hu_n]; first | done | assumption | rfl) (by simp (disch := omega) only [hTn, hCr, hFl, hu_s, hu_n]; first | done | assumption | rfl) (by simp (disch := omega) only [hTn, hCr, hFl, hu_s, hu_n]; first | done | assumption | rfl) (by simp (disch := omega) only [hTn, hCr, hFl, hu_s, hu_n]; first | done | assumption | rfl) (by simp (disch := omega) only [hTn, hCr, hFl, hu_s, hu_n]; first | done | assumption | rfl) (by simp (disch := omega) only [hTn, hCr, hFl, hu_s, hu_n]; first | done | assumption | rfl) (by simp (disch := omega) only [hTn, hCr, hFl, hu_s, hu_n]; first | done | assumption | rfl) (by simp (disch := omega) only [hTn, hCr, hFl, hu_s, hu_n]; first | done | assumption | rfl) (by simp (disch := omega) only [hTn, hCr, hFl, hu_s, hu_n]; first | done | assumption | rfl) (by simp (disch := omega) only [hTn, hCr, hFl, hu_s, hu_n]; first | done | assumption | rfl) (Nat.le_refl _) hN) ?_
          rw [hgt_tHt (hN := hN)]
          refine z_ist3 (n := 67) (by decide +kernel) rfl ?_
          refine z_ald0 (n := 68) (by decide +kernel) ?_
          refine z_getf (n := 71) (idx := 29) (by decide +kernel) fl_X2_29 (by first | assumption | (simp (disch := omega) only [hTn, hCr, hu_s, hu_n]; first | assumption | rfl)) (by rfl) ?_
          refine z_ild1 (n := 72) (by decide +kernel) ?_
          refine z_ild2 (n := 73) (by decide +kernel) ?_
          refine z_v2v (n := 76) (idx := 71) (by decide +kernel) ml_X2_71 (by first | assumption | (simp (disch := omega) only [hTn, hCr, hu_s, hu_n]; first | assumption | rfl)) rfl (Nat.le_of_ble_eq_true rfl) (by omega) ⟨Nat.le_refl _, Nat.le_refl _⟩ (k_turnOver (N := n + 1) (tl := mnF (s.2.1 0) (n + 1)) (pl := s.2.1 0) (ly := s.2.1 1) (up := s.2.2 0) (ht := tHt ht (s.2.1 0) (n + 1) (mnF (s.2.1 0) (n + 1)) (n + 1)) 1 (by omega) (by simp (disch := omega) only [hTn, hCr, hFl, hu_s, hu_n]; first | done | assumption | rfl) (by simp (disch := omega) only [hTn, hCr, hFl, hu_s, hu_n]; first | done | assumption | rfl) (by simp (disch := omega) only [hTn, hCr, hFl, hu_s, hu_n]; first | done | assumption | rfl) (by simp (disch := omega) only [hTn, hCr, hFl, hu_s, hu_n]; first | done | assumption | rfl) (by simp (disch := omega) only [hTn, hCr, hFl, hu_s, hu_n]; first | done | assumption | rfl) (Nat.le_refl _) hN) ?_
          refine z_ald0 (n := 77) (by decide +kernel) ?_
          refine z_iconst (n := 78) (q := 1) (v := 1) (by decide +kernel) ?_
          refine z_v1v (n := 81) (idx := 75) (by decide +kernel) ml_X2_75 (by first | assumption | (simp (disch := omega) only [hTn, hCr, hu_s, hu_n]; first | assumption | rfl)) rfl (Nat.le_of_ble_eq_true rfl) (by omega) ⟨Nat.le_refl _, Nat.le_refl _⟩ (k_endAct (N := n + 1) (t := 1) (pl := tPl (s.2.1 0) x right (n + 1)) (si := cu (fun j => crs (s.2.1 0) j x) (fun j => if s.2.2 0 j then 1 else 2) (s.2.1 2) n) (rs := cu (fun j => crs (s.2.1 0) j x) (fun j => mx3 (s.2.1 3 j)) (s.2.1 3) n) 1 (by omega) (by simp (disch := omega) only [hTn, hCr, hFl, hu_s, hu_n]; first | done | assumption | rfl) (by simp (disch := omega) only [hTn, hCr, hFl, hu_s, hu_n]; first | done | assumption | rfl) (by simp (disch := omega) only [hTn, hCr, hFl, hu_s, hu_n]; first | done | assumption | rfl) (by simp (disch := omega) only [hTn, hCr, hFl, hu_s, hu_n]; first | done | assumption | rfl) (by simp (disch := omega) only [hTn, hCr, hFl, hu_s, hu_n]; first | done | assumption | rfl) (by simp (disch := omega) only [hTn, hCr, hFl, hu_s, hu_n]; first | done | assumption | rfl) (Nat.le_refl _) hN (by omega)) ?_
          refine z_ild3 (n := 82) (by decide +kernel) ?_
          refine z_iret (by decide +kernel) rfl (Nat.le_refl _) ?_
          exact ⟨by first | rw [folP_1 c8] | rw [folP_2 c8 c32] | rw [folP_3 c8 c32 c43] | rw [folP_4 c8 c32 c43 c55] | rw [folP_5 c8 c32 c43 c55], by first | exact frm_rf | (intro j hj; simp (disch := omega) only [hTn, hCr, hu_n]), by first | (rw [folP_1 c8]; exact ⟨tl, ht, hB, hS, hP, hL, hU, hT, hC, h1, h2, h3, h4, h5, h6⟩) | (rw [folP_2 c8 c32]; exact ⟨_, _, (by simp (disch := omega) only [hTn, hCr, hu_s, hu_n, hgt_tHt (hN := hN)]; first | assumption | rfl), (by simp (disch := omega) only [hTn, hCr, hu_s, hu_n, hgt_tHt (hN := hN)]; first | assumption | rfl), (by simp (disch := omega) only [hTn, hCr, hu_s, hu_n, hgt_tHt (hN := hN)]; first | assumption | rfl), (by simp (disch := omega) only [hTn, hCr, hu_s, hu_n, hgt_tHt (hN := hN)]; first | assumption | rfl), (by simp (disch := omega) only [hTn, hCr, hu_s, hu_n, hgt_tHt (hN := hN)]; first | assumption | rfl), (by simp (disch := omega) only [hTn, hCr, hu_s, hu_n, hgt_tHt (hN := hN)]; first | assumption | rfl), (by simp (disch := omega) only [hTn, hCr, hu_s, hu_n, hgt_tHt (hN := hN)]; first | assumption | rfl), (by simp (disch := omega) only [hTn, hCr, hu_s, hu_n, hgt_tHt (hN := hN)]; first | assumption | rfl), (by simp (disch := omega) only [hTn, hCr, hu_s, hu_n, hgt_tHt (hN := hN)]; first | assumption | rfl), (by simp (disch := omega) only [hTn, hCr, hu_s, hu_n, hgt_tHt (hN := hN)]; first | assumption | rfl), (by simp (disch := omega) only [hTn, hCr, hu_s, hu_n, hgt_tHt (hN := hN)]; first | assumption | rfl), (by simp (disch := omega) only [hTn, hCr, hu_s, hu_n, hgt_tHt (hN := hN)]; first | assumption | rfl), (by simp (disch := omega) only [hTn, hCr, hu_s, hu_n, hgt_tHt (hN := hN)]; first | assumption | rfl)⟩) | (rw [folP_3 c8 c32 c43]; exact ⟨_, _, (by simp (disch := omega) only [hTn, hCr, hu_s, hu_n, hgt_tHt (hN := hN)]; first | assumption | rfl), (by simp (disch := omega) only [hTn, hCr, hu_s, hu_n, hgt_tHt (hN := hN)]; first | assumption | rfl), (by simp (disch := omega) only [hTn, hCr, hu_s, hu_n, hgt_tHt (hN := hN)]; first | assumption | rfl), (by simp (disch := omega) only [hTn, hCr, hu_s, hu_n, hgt_tHt (hN := hN)]; first | assumption | rfl), (by simp (disch := omega) only [hTn, hCr, hu_s, hu_n, hgt_tHt (hN := hN)]; first | assumption | rfl), (by simp (disch := omega) only [hTn, hCr, hu_s, hu_n, hgt_tHt (hN := hN)]; first | assumption | rfl), (by simp (disch := omega) only [hTn, hCr, hu_s, hu_n, hgt_tHt (hN := hN)]; first | assumption | rfl), (by simp (disch := omega) only [hTn, hCr, hu_s, hu_n, hgt_tHt (hN := hN)]; first | assumption | rfl), (by simp (disch := omega) only [hTn, hCr, hu_s, hu_n, hgt_tHt (hN := hN)]; first | assumption | rfl), (by simp (disch := omega) only [hTn, hCr, hu_s, hu_n, hgt_tHt (hN := hN)]; first | assumption | rfl), (by simp (disch := omega) only [hTn, hCr, hu_s, hu_n, hgt_tHt (hN := hN)]; first | assumption | rfl), (by simp (disch := omega) only [hTn, hCr, hu_s, hu_n, hgt_tHt (hN := hN)]; first | assumption | rfl), (by simp (disch := omega) only [hTn, hCr, hu_s, hu_n, hgt_tHt (hN := hN)]; first | assumption | rfl)⟩) | (rw [folP_4 c8 c32 c43 c55]; exact ⟨_, _, (by simp (disch := omega) only [hTn, hCr, hu_s, hu_n, hgt_tHt (hN := hN)]; first | assumption | rfl), (by simp (disch := omega) only [hTn, hCr, hu_s, hu_n, hgt_tHt (hN := hN)]; first | assumption | rfl), (by simp (disch := omega) only [hTn, hCr, hu_s, hu_n, hgt_tHt (hN := hN)]; first | assumption | rfl), (by simp (disch := omega) only [hTn, hCr, hu_s, hu_n, hgt_tHt (hN := hN)]; first | assumption | rfl), (by simp (disch := omega) only [hTn, hCr, hu_s, hu_n, hgt_tHt (hN := hN)]; first | assumption | rfl), (by simp (disch := omega) only [hTn, hCr, hu_s, hu_n, hgt_tHt (hN := hN)]; first | assumption | rfl), (by simp (disch := omega) only [hTn, hCr, hu_s, hu_n, hgt_tHt (hN := hN)]; first | assumption | rfl), (by simp (disch := omega) only [hTn, hCr, hu_s, hu_n, hgt_tHt (hN := hN)]; first | assumption | rfl), (by simp (disch := omega) only [hTn, hCr, hu_s, hu_n, hgt_tHt (hN := hN)]; first | assumption | rfl), (by simp (disch := omega) only [hTn, hCr, hu_s, hu_n, hgt_tHt (hN := hN)]; first | assumption | rfl), (by simp (disch := omega) only [hTn, hCr, hu_s, hu_n, hgt_tHt (hN := hN)]; first | assumption | rfl), (by simp (disch := omega) only [hTn, hCr, hu_s, hu_n, hgt_tHt (hN := hN)]; first | assumption | rfl), (by simp (disch := omega) only [hTn, hCr, hu_s, hu_n, hgt_tHt (hN := hN)]; first | assumption | rfl)⟩) | (rw [folP_5 c8 c32 c43 c55]; exact ⟨_, _, (by simp (disch := omega) only [hTn, hCr, hu_s, hu_n, hgt_tHt (hN := hN)]; first | assumption | rfl), (by simp (disch := omega) only [hTn, hCr, hu_s, hu_n, hgt_tHt (hN := hN)]; first | assumption | rfl), (by simp (disch := omega) only [hTn, hCr, hu_s, hu_n, hgt_tHt (hN := hN)]; first | assumption | rfl), (by simp (disch := omega) only [hTn, hCr, hu_s, hu_n, hgt_tHt (hN := hN)]; first | assumption | rfl), (by simp (disch := omega) only [hTn, hCr, hu_s, hu_n, hgt_tHt (hN := hN)]; first | assumption | rfl), (by simp (disch := omega) only [hTn, hCr, hu_s, hu_n, hgt_tHt (hN := hN)]; first | assumption | rfl), (by simp (disch := omega) only [hTn, hCr, hu_s, hu_n, hgt_tHt (hN := hN)]; first | assumption | rfl), (by simp (disch := omega) only [hTn, hCr, hu_s, hu_n, hgt_tHt (hN := hN)]; first | assumption | rfl), (by simp (disch := omega) only [hTn, hCr, hu_s, hu_n, hgt_tHt (hN := hN)]; first | assumption | rfl), (by simp (disch := omega) only [hTn, hCr, hu_s, hu_n, hgt_tHt (hN := hN)]; first | assumption | rfl), (by simp (disch := omega) only [hTn, hCr, hu_s, hu_n, hgt_tHt (hN := hN)]; first | assumption | rfl), (by simp (disch := omega) only [hTn, hCr, hu_s, hu_n, hgt_tHt (hN := hN)]; first | assumption | rfl), (by simp (disch := omega) only [hTn, hCr, hu_s, hu_n, hgt_tHt (hN := hN)]; first | assumption | rfl)⟩)⟩
        · refine z_bipush (n := 60) (q := -4) (v := -4) (by decide +kernel) ?_
          refine z_iret (by decide +kernel) rfl (Nat.le_refl _) ?_
          exact ⟨by first | rw [folP_1 c8] | rw [folP_2 c8 c32] | rw [folP_3 c8 c32 c43] | rw [folP_4 c8 c32 c43 c55] | rw [folP_5 c8 c32 c43 c55], by first | exact frm_rf | (intro j hj; simp (disch := omega) only [hTn, hCr, hu_n]), by first | (rw [folP_1 c8]; exact ⟨tl, ht, hB, hS, hP, hL, hU, hT, hC, h1, h2, h3, h4, h5, h6⟩) | (rw [folP_2 c8 c32]; exact ⟨_, _, (by simp (disch := omega) only [hTn, hCr, hu_s, hu_n, hgt_tHt (hN := hN)]; first | assumption | rfl), (by simp (disch := omega) only [hTn, hCr, hu_s, hu_n, hgt_tHt (hN := hN)]; first | assumption | rfl), (by simp (disch := omega) only [hTn, hCr, hu_s, hu_n, hgt_tHt (hN := hN)]; first | assumption | rfl), (by simp (disch := omega) only [hTn, hCr, hu_s, hu_n, hgt_tHt (hN := hN)]; first | assumption | rfl), (by simp (disch := omega) only [hTn, hCr, hu_s, hu_n, hgt_tHt (hN := hN)]; first | assumption | rfl), (by simp (disch := omega) only [hTn, hCr, hu_s, hu_n, hgt_tHt (hN := hN)]; first | assumption | rfl), (by simp (disch := omega) only [hTn, hCr, hu_s, hu_n, hgt_tHt (hN := hN)]; first | assumption | rfl), (by simp (disch := omega) only [hTn, hCr, hu_s, hu_n, hgt_tHt (hN := hN)]; first | assumption | rfl), (by simp (disch := omega) only [hTn, hCr, hu_s, hu_n, hgt_tHt (hN := hN)]; first | assumption | rfl), (by simp (disch := omega) only [hTn, hCr, hu_s, hu_n, hgt_tHt (hN := hN)]; first | assumption | rfl), (by simp (disch := omega) only [hTn, hCr, hu_s, hu_n, hgt_tHt (hN := hN)]; first | assumption | rfl), (by simp (disch := omega) only [hTn, hCr, hu_s, hu_n, hgt_tHt (hN := hN)]; first | assumption | rfl), (by simp (disch := omega) only [hTn, hCr, hu_s, hu_n, hgt_tHt (hN := hN)]; first | assumption | rfl)⟩) | (rw [folP_3 c8 c32 c43]; exact ⟨_, _, (by simp (disch := omega) only [hTn, hCr, hu_s, hu_n, hgt_tHt (hN := hN)]; first | assumption | rfl), (by simp (disch := omega) only [hTn, hCr, hu_s, hu_n, hgt_tHt (hN := hN)]; first | assumption | rfl), (by simp (disch := omega) only [hTn, hCr, hu_s, hu_n, hgt_tHt (hN := hN)]; first | assumption | rfl), (by simp (disch := omega) only [hTn, hCr, hu_s, hu_n, hgt_tHt (hN := hN)]; first | assumption | rfl), (by simp (disch := omega) only [hTn, hCr, hu_s, hu_n, hgt_tHt (hN := hN)]; first | assumption | rfl), (by simp (disch := omega) only [hTn, hCr, hu_s, hu_n, hgt_tHt (hN := hN)]; first | assumption | rfl), (by simp (disch := omega) only [hTn, hCr, hu_s, hu_n, hgt_tHt (hN := hN)]; first | assumption | rfl), (by simp (disch := omega) only [hTn, hCr, hu_s, hu_n, hgt_tHt (hN := hN)]; first | assumption | rfl), (by simp (disch := omega) only [hTn, hCr, hu_s, hu_n, hgt_tHt (hN := hN)]; first | assumption | rfl), (by simp (disch := omega) only [hTn, hCr, hu_s, hu_n, hgt_tHt (hN := hN)]; first | assumption | rfl), (by simp (disch := omega) only [hTn, hCr, hu_s, hu_n, hgt_tHt (hN := hN)]; first | assumption | rfl), (by simp (disch := omega) only [hTn, hCr, hu_s, hu_n, hgt_tHt (hN := hN)]; first | assumption | rfl), (by simp (disch := omega) only [hTn, hCr, hu_s, hu_n, hgt_tHt (hN := hN)]; first | assumption | rfl)⟩) | (rw [folP_4 c8 c32 c43 c55]; exact ⟨_, _, (by simp (disch := omega) only [hTn, hCr, hu_s, hu_n, hgt_tHt (hN := hN)]; first | assumption | rfl), (by simp (disch := omega) only [hTn, hCr, hu_s, hu_n, hgt_tHt (hN := hN)]; first | assumption | rfl), (by simp (disch := omega) only [hTn, hCr, hu_s, hu_n, hgt_tHt (hN := hN)]; first | assumption | rfl), (by simp (disch := omega) only [hTn, hCr, hu_s, hu_n, hgt_tHt (hN := hN)]; first | assumption | rfl), (by simp (disch := omega) only [hTn, hCr, hu_s, hu_n, hgt_tHt (hN := hN)]; first | assumption | rfl), (by simp (disch := omega) only [hTn, hCr, hu_s, hu_n, hgt_tHt (hN := hN)]; first | assumption | rfl), (by simp (disch := omega) only [hTn, hCr, hu_s, hu_n, hgt_tHt (hN := hN)]; first | assumption | rfl), (by simp (disch := omega) only [hTn, hCr, hu_s, hu_n, hgt_tHt (hN := hN)]; first | assumption | rfl), (by simp (disch := omega) only [hTn, hCr, hu_s, hu_n, hgt_tHt (hN := hN)]; first | assumption | rfl), (by simp (disch := omega) only [hTn, hCr, hu_s, hu_n, hgt_tHt (hN := hN)]; first | assumption | rfl), (by simp (disch := omega) only [hTn, hCr, hu_s, hu_n, hgt_tHt (hN := hN)]; first | assumption | rfl), (by simp (disch := omega) only [hTn, hCr, hu_s, hu_n, hgt_tHt (hN := hN)]; first | assumption | rfl), (by simp (disch := omega) only [hTn, hCr, hu_s, hu_n, hgt_tHt (hN := hN)]; first | assumption | rfl)⟩) | (rw [folP_5 c8 c32 c43 c55]; exact ⟨_, _, (by simp (disch := omega) only [hTn, hCr, hu_s, hu_n, hgt_tHt (hN := hN)]; first | assumption | rfl), (by simp (disch := omega) only [hTn, hCr, hu_s, hu_n, hgt_tHt (hN := hN)]; first | assumption | rfl), (by simp (disch := omega) only [hTn, hCr, hu_s, hu_n, hgt_tHt (hN := hN)]; first | assumption | rfl), (by simp (disch := omega) only [hTn, hCr, hu_s, hu_n, hgt_tHt (hN := hN)]; first | assumption | rfl), (by simp (disch := omega) only [hTn, hCr, hu_s, hu_n, hgt_tHt (hN := hN)]; first | assumption | rfl), (by simp (disch := omega) only [hTn, hCr, hu_s, hu_n, hgt_tHt (hN := hN)]; first | assumption | rfl), (by simp (disch := omega) only [hTn, hCr, hu_s, hu_n, hgt_tHt (hN := hN)]; first | assumption | rfl), (by simp (disch := omega) only [hTn, hCr, hu_s, hu_n, hgt_tHt (hN := hN)]; first | assumption | rfl), (by simp (disch := omega) only [hTn, hCr, hu_s, hu_n, hgt_tHt (hN := hN)]; first | assumption | rfl), (by simp (disch := omega) only [hTn, hCr, hu_s, hu_n, hgt_tHt (hN := hN)]; first | assumption | rfl), (by simp (disch := omega) only [hTn, hCr, hu_s, hu_n, hgt_tHt (hN := hN)]; first | assumption | rfl), (by simp (disch := omega) only [hTn, hCr, hu_s, hu_n, hgt_tHt (hN := hN)]; first | assumption | rfl), (by simp (disch := omega) only [hTn, hCr, hu_s, hu_n, hgt_tHt (hN := hN)]; first | assumption | rfl)⟩)⟩
      · refine z_bipush (n := 48) (q := -3) (v := -3) (by decide +kernel) ?_
        refine z_iret (by decide +kernel) rfl (Nat.le_refl _) ?_
        exact ⟨by first | rw [folP_1 c8] | rw [folP_2 c8 c32] | rw [folP_3 c8 c32 c43] | rw [folP_4 c8 c32 c43 c55] | rw [folP_5 c8 c32 c43 c55], by first | exact frm_rf | (intro j hj; simp (disch := omega) only [hTn, hCr, hu_n]), by first | (rw [folP_1 c8]; exact ⟨tl, ht, hB, hS, hP, hL, hU, hT, hC, h1, h2, h3, h4, h5, h6⟩) | (rw [folP_2 c8 c32]; exact ⟨_, _, (by simp (disch := omega) only [hTn, hCr, hu_s, hu_n, hgt_tHt (hN := hN)]; first | assumption | rfl), (by simp (disch := omega) only [hTn, hCr, hu_s, hu_n, hgt_tHt (hN := hN)]; first | assumption | rfl), (by simp (disch := omega) only [hTn, hCr, hu_s, hu_n, hgt_tHt (hN := hN)]; first | assumption | rfl), (by simp (disch := omega) only [hTn, hCr, hu_s, hu_n, hgt_tHt (hN := hN)]; first | assumption | rfl), (by simp (disch := omega) only [hTn, hCr, hu_s, hu_n, hgt_tHt (hN := hN)]; first | assumption | rfl), (by simp (disch := omega) only [hTn, hCr, hu_s, hu_n, hgt_tHt (hN := hN)]; first | assumption | rfl), (by simp (disch := omega) only [hTn, hCr, hu_s, hu_n, hgt_tHt (hN := hN)]; first | assumption | rfl), (by simp (disch := omega) only [hTn, hCr, hu_s, hu_n, hgt_tHt (hN := hN)]; first | assumption | rfl), (by simp (disch := omega) only [hTn, hCr, hu_s, hu_n, hgt_tHt (hN := hN)]; first | assumption | rfl), (by simp (disch := omega) only [hTn, hCr, hu_s, hu_n, hgt_tHt (hN := hN)]; first | assumption | rfl), (by simp (disch := omega) only [hTn, hCr, hu_s, hu_n, hgt_tHt (hN := hN)]; first | assumption | rfl), (by simp (disch := omega) only [hTn, hCr, hu_s, hu_n, hgt_tHt (hN := hN)]; first | assumption | rfl), (by simp (disch := omega) only [hTn, hCr, hu_s, hu_n, hgt_tHt (hN := hN)]; first | assumption | rfl)⟩) | (rw [folP_3 c8 c32 c43]; exact ⟨_, _, (by simp (disch := omega) only [hTn, hCr, hu_s, hu_n, hgt_tHt (hN := hN)]; first | assumption | rfl), (by simp (disch := omega) only [hTn, hCr, hu_s, hu_n, hgt_tHt (hN := hN)]; first | assumption | rfl), (by simp (disch := omega) only [hTn, hCr, hu_s, hu_n, hgt_tHt (hN := hN)]; first | assumption | rfl), (by simp (disch := omega) only [hTn, hCr, hu_s, hu_n, hgt_tHt (hN := hN)]; first | assumption | rfl), (by simp (disch := omega) only [hTn, hCr, hu_s, hu_n, hgt_tHt (hN := hN)]; first | assumption | rfl), (by simp (disch := omega) only [hTn, hCr, hu_s, hu_n, hgt_tHt (hN := hN)]; first | assumption | rfl), (by simp (disch := omega) only [hTn, hCr, hu_s, hu_n, hgt_tHt (hN := hN)]; first | assumption | rfl), (by simp (disch := omega) only [hTn, hCr, hu_s, hu_n, hgt_tHt (hN := hN)]; first | assumption | rfl), (by simp (disch := omega) only [hTn, hCr, hu_s, hu_n, hgt_tHt (hN := hN)]; first | assumption | rfl), (by simp (disch := omega) only [hTn, hCr, hu_s, hu_n, hgt_tHt (hN := hN)]; first | assumption | rfl), (by simp (disch := omega) only [hTn, hCr, hu_s, hu_n, hgt_tHt (hN := hN)]; first | assumption | rfl), (by simp (disch := omega) only [hTn, hCr, hu_s, hu_n, hgt_tHt (hN := hN)]; first | assumption | rfl), (by simp (disch := omega) only [hTn, hCr, hu_s, hu_n, hgt_tHt (hN := hN)]; first | assumption | rfl)⟩) | (rw [folP_4 c8 c32 c43 c55]; exact ⟨_, _, (by simp (disch := omega) only [hTn, hCr, hu_s, hu_n, hgt_tHt (hN := hN)]; first | assumption | rfl), (by simp (disch := omega) only [hTn, hCr, hu_s, hu_n, hgt_tHt (hN := hN)]; first | assumption | rfl), (by simp (disch := omega) only [hTn, hCr, hu_s, hu_n, hgt_tHt (hN := hN)]; first | assumption | rfl), (by simp (disch := omega) only [hTn, hCr, hu_s, hu_n, hgt_tHt (hN := hN)]; first | assumption | rfl), (by simp (disch := omega) only [hTn, hCr, hu_s, hu_n, hgt_tHt (hN := hN)]; first | assumption | rfl), (by simp (disch := omega) only [hTn, hCr, hu_s, hu_n, hgt_tHt (hN := hN)]; first | assumption | rfl), (by simp (disch := omega) only [hTn, hCr, hu_s, hu_n, hgt_tHt (hN := hN)]; first | assumption | rfl), (by simp (disch := omega) only [hTn, hCr, hu_s, hu_n, hgt_tHt (hN := hN)]; first | assumption | rfl), (by simp (disch := omega) only [hTn, hCr, hu_s, hu_n, hgt_tHt (hN := hN)]; first | assumption | rfl), (by simp (disch := omega) only [hTn, hCr, hu_s, hu_n, hgt_tHt (hN := hN)]; first | assumption | rfl), (by simp (disch := omega) only [hTn, hCr, hu_s, hu_n, hgt_tHt (hN := hN)]; first | assumption | rfl), (by simp (disch := omega) only [hTn, hCr, hu_s, hu_n, hgt_tHt (hN := hN)]; first | assumption | rfl), (by simp (disch := omega) only [hTn, hCr, hu_s, hu_n, hgt_tHt (hN := hN)]; first | assumption | rfl)⟩) | (rw [folP_5 c8 c32 c43 c55]; exact ⟨_, _, (by simp (disch := omega) only [hTn, hCr, hu_s, hu_n, hgt_tHt (hN := hN)]; first | assumption | rfl), (by simp (disch := omega) only [hTn, hCr, hu_s, hu_n, hgt_tHt (hN := hN)]; first | assumption | rfl), (by simp (disch := omega) only [hTn, hCr, hu_s, hu_n, hgt_tHt (hN := hN)]; first | assumption | rfl), (by simp (disch := omega) only [hTn, hCr, hu_s, hu_n, hgt_tHt (hN := hN)]; first | assumption | rfl), (by simp (disch := omega) only [hTn, hCr, hu_s, hu_n, hgt_tHt (hN := hN)]; first | assumption | rfl), (by simp (disch := omega) only [hTn, hCr, hu_s, hu_n, hgt_tHt (hN := hN)]; first | assumption | rfl), (by simp (disch := omega) only [hTn, hCr, hu_s, hu_n, hgt_tHt (hN := hN)]; first | assumption | rfl), (by simp (disch := omega) only [hTn, hCr, hu_s, hu_n, hgt_tHt (hN := hN)]; first | assumption | rfl), (by simp (disch := omega) only [hTn, hCr, hu_s, hu_n, hgt_tHt (hN := hN)]; first | assumption | rfl), (by simp (disch := omega) only [hTn, hCr, hu_s, hu_n, hgt_tHt (hN := hN)]; first | assumption | rfl), (by simp (disch := omega) only [hTn, hCr, hu_s, hu_n, hgt_tHt (hN := hN)]; first | assumption | rfl), (by simp (disch := omega) only [hTn, hCr, hu_s, hu_n, hgt_tHt (hN := hN)]; first | assumption | rfl), (by simp (disch := omega) only [hTn, hCr, hu_s, hu_n, hgt_tHt (hN := hN)]; first | assumption | rfl)⟩)⟩
    · refine z_bipush (n := 37) (q := -2) (v := -2) (by decide +kernel) ?_
      refine z_iret (by decide +kernel) rfl (Nat.le_refl _) ?_
      exact ⟨by first | rw [folP_1 c8] | rw [folP_2 c8 c32] | rw [folP_3 c8 c32 c43] | rw [folP_4 c8 c32 c43 c55] | rw [folP_5 c8 c32 c43 c55], by first | exact frm_rf | (intro j hj; simp (disch := omega) only [hTn, hCr, hu_n]), by first | (rw [folP_1 c8]; exact ⟨tl, ht, hB, hS, hP, hL, hU, hT, hC, h1, h2, h3, h4, h5, h6⟩) | (rw [folP_2 c8 c32]; exact ⟨_, _, (by simp (disch := omega) only [hTn, hCr, hu_s, hu_n, hgt_tHt (hN := hN)]; first | assumption | rfl), (by simp (disch := omega) only [hTn, hCr, hu_s, hu_n, hgt_tHt (hN := hN)]; first | assumption | rfl), (by simp (disch := omega) only [hTn, hCr, hu_s, hu_n, hgt_tHt (hN := hN)]; first | assumption | rfl), (by simp (disch := omega) only [hTn, hCr, hu_s, hu_n, hgt_tHt (hN := hN)]; first | assumption | rfl), (by simp (disch := omega) only [hTn, hCr, hu_s, hu_n, hgt_tHt (hN := hN)]; first | assumption | rfl), (by simp (disch := omega) only [hTn, hCr, hu_s, hu_n, hgt_tHt (hN := hN)]; first | assumption | rfl), (by simp (disch := omega) only [hTn, hCr, hu_s, hu_n, hgt_tHt (hN := hN)]; first | assumption | rfl), (by simp (disch := omega) only [hTn, hCr, hu_s, hu_n, hgt_tHt (hN := hN)]; first | assumption | rfl), (by simp (disch := omega) only [hTn, hCr, hu_s, hu_n, hgt_tHt (hN := hN)]; first | assumption | rfl), (by simp (disch := omega) only [hTn, hCr, hu_s, hu_n, hgt_tHt (hN := hN)]; first | assumption | rfl), (by simp (disch := omega) only [hTn, hCr, hu_s, hu_n, hgt_tHt (hN := hN)]; first | assumption | rfl), (by simp (disch := omega) only [hTn, hCr, hu_s, hu_n, hgt_tHt (hN := hN)]; first | assumption | rfl), (by simp (disch := omega) only [hTn, hCr, hu_s, hu_n, hgt_tHt (hN := hN)]; first | assumption | rfl)⟩) | (rw [folP_3 c8 c32 c43]; exact ⟨_, _, (by simp (disch := omega) only [hTn, hCr, hu_s, hu_n, hgt_tHt (hN := hN)]; first | assumption | rfl), (by simp (disch := omega) only [hTn, hCr, hu_s, hu_n, hgt_tHt (hN := hN)]; first | assumption | rfl), (by simp (disch := omega) only [hTn, hCr, hu_s, hu_n, hgt_tHt (hN := hN)]; first | assumption | rfl), (by simp (disch := omega) only [hTn, hCr, hu_s, hu_n, hgt_tHt (hN := hN)]; first | assumption | rfl), (by simp (disch := omega) only [hTn, hCr, hu_s, hu_n, hgt_tHt (hN := hN)]; first | assumption | rfl), (by simp (disch := omega) only [hTn, hCr, hu_s, hu_n, hgt_tHt (hN := hN)]; first | assumption | rfl), (by simp (disch := omega) only [hTn, hCr, hu_s, hu_n, hgt_tHt (hN := hN)]; first | assumption | rfl), (by simp (disch := omega) only [hTn, hCr, hu_s, hu_n, hgt_tHt (hN := hN)]; first | assumption | rfl), (by simp (disch := omega) only [hTn, hCr, hu_s, hu_n, hgt_tHt (hN := hN)]; first | assumption | rfl), (by simp (disch := omega) only [hTn, hCr, hu_s, hu_n, hgt_tHt (hN := hN)]; first | assumption | rfl), (by simp (disch := omega) only [hTn, hCr, hu_s, hu_n, hgt_tHt (hN := hN)]; first | assumption | rfl), (by simp (disch := omega) only [hTn, hCr, hu_s, hu_n, hgt_tHt (hN := hN)]; first | assumption | rfl), (by simp (disch := omega) only [hTn, hCr, hu_s, hu_n, hgt_tHt (hN := hN)]; first | assumption | rfl)⟩) | (rw [folP_4 c8 c32 c43 c55]; exact ⟨_, _, (by simp (disch := omega) only [hTn, hCr, hu_s, hu_n, hgt_tHt (hN := hN)]; first | assumption | rfl), (by simp (disch := omega) only [hTn, hCr, hu_s, hu_n, hgt_tHt (hN := hN)]; first | assumption | rfl), (by simp (disch := omega) only [hTn, hCr, hu_s, hu_n, hgt_tHt (hN := hN)]; first | assumption | rfl), (by simp (disch := omega) only [hTn, hCr, hu_s, hu_n, hgt_tHt (hN := hN)]; first | assumption | rfl), (by simp (disch := omega) only [hTn, hCr, hu_s, hu_n, hgt_tHt (hN := hN)]; first | assumption | rfl), (by simp (disch := omega) only [hTn, hCr, hu_s, hu_n, hgt_tHt (hN := hN)]; first | assumption | rfl), (by simp (disch := omega) only [hTn, hCr, hu_s, hu_n, hgt_tHt (hN := hN)]; first | assumption | rfl), (by simp (disch := omega) only [hTn, hCr, hu_s, hu_n, hgt_tHt (hN := hN)]; first | assumption | rfl), (by simp (disch := omega) only [hTn, hCr, hu_s, hu_n, hgt_tHt (hN := hN)]; first | assumption | rfl), (by simp (disch := omega) only [hTn, hCr, hu_s, hu_n, hgt_tHt (hN := hN)]; first | assumption | rfl), (by simp (disch := omega) only [hTn, hCr, hu_s, hu_n, hgt_tHt (hN := hN)]; first | assumption | rfl), (by simp (disch := omega) only [hTn, hCr, hu_s, hu_n, hgt_tHt (hN := hN)]; first | assumption | rfl), (by simp (disch := omega) only [hTn, hCr, hu_s, hu_n, hgt_tHt (hN := hN)]; first | assumption | rfl)⟩) | (rw [folP_5 c8 c32 c43 c55]; exact ⟨_, _, (by simp (disch := omega) only [hTn, hCr, hu_s, hu_n, hgt_tHt (hN := hN)]; first | assumption | rfl), (by simp (disch := omega) only [hTn, hCr, hu_s, hu_n, hgt_tHt (hN := hN)]; first | assumption | rfl), (by simp (disch := omega) only [hTn, hCr, hu_s, hu_n, hgt_tHt (hN := hN)]; first | assumption | rfl), (by simp (disch := omega) only [hTn, hCr, hu_s, hu_n, hgt_tHt (hN := hN)]; first | assumption | rfl), (by simp (disch := omega) only [hTn, hCr, hu_s, hu_n, hgt_tHt (hN := hN)]; first | assumption | rfl), (by simp (disch := omega) only [hTn, hCr, hu_s, hu_n, hgt_tHt (hN := hN)]; first | assumption | rfl), (by simp (disch := omega) only [hTn, hCr, hu_s, hu_n, hgt_tHt (hN := hN)]; first | assumption | rfl), (by simp (disch := omega) only [hTn, hCr, hu_s, hu_n, hgt_tHt (hN := hN)]; first | assumption | rfl), (by simp (disch := omega) only [hTn, hCr, hu_s, hu_n, hgt_tHt (hN := hN)]; first | assumption | rfl), (by simp (disch := omega) only [hTn, hCr, hu_s, hu_n, hgt_tHt (hN := hN)]; first | assumption | rfl), (by simp (disch := omega) only [hTn, hCr, hu_s, hu_n, hgt_tHt (hN := hN)]; first | assumption | rfl), (by simp (disch := omega) only [hTn, hCr, hu_s, hu_n, hgt_tHt (hN := hN)]; first | assumption | rfl), (by simp (disch := omega) only [hTn, hCr, hu_s, hu_n, hgt_tHt (hN := hN)]; first | assumption | rfl)⟩)⟩
  · refine z_iconst (n := 12) (q := -1) (v := -1) (by decide +kernel) ?_
    refine z_iret (by decide +kernel) rfl (Nat.le_refl _) ?_
    exact ⟨by first | rw [folP_1 c8] | rw [folP_2 c8 c32] | rw [folP_3 c8 c32 c43] | rw [folP_4 c8 c32 c43 c55] | rw [folP_5 c8 c32 c43 c55], by first | exact frm_rf | (intro j hj; simp (disch := omega) only [hTn, hCr, hu_n]), by first | (rw [folP_1 c8]; exact ⟨tl, ht, hB, hS, hP, hL, hU, hT, hC, h1, h2, h3, h4, h5, h6⟩) | (rw [folP_2 c8 c32]; exact ⟨_, _, (by simp (disch := omega) only [hTn, hCr, hu_s, hu_n, hgt_tHt (hN := hN)]; first | assumption | rfl), (by simp (disch := omega) only [hTn, hCr, hu_s, hu_n, hgt_tHt (hN := hN)]; first | assumption | rfl), (by simp (disch := omega) only [hTn, hCr, hu_s, hu_n, hgt_tHt (hN := hN)]; first | assumption | rfl), (by simp (disch := omega) only [hTn, hCr, hu_s, hu_n, hgt_tHt (hN := hN)]; first | assumption | rfl), (by simp (disch := omega) only [hTn, hCr, hu_s, hu_n, hgt_tHt (hN := hN)]; first | assumption | rfl), (by simp (disch := omega) only [hTn, hCr, hu_s, hu_n, hgt_tHt (hN := hN)]; first | assumption | rfl), (by simp (disch := omega) only [hTn, hCr, hu_s, hu_n, hgt_tHt (hN := hN)]; first | assumption | rfl), (by simp (disch := omega) only [hTn, hCr, hu_s, hu_n, hgt_tHt (hN := hN)]; first | assumption | rfl), (by simp (disch := omega) only [hTn, hCr, hu_s, hu_n, hgt_tHt (hN := hN)]; first | assumption | rfl), (by simp (disch := omega) only [hTn, hCr, hu_s, hu_n, hgt_tHt (hN := hN)]; first | assumption | rfl), (by simp (disch := omega) only [hTn, hCr, hu_s, hu_n, hgt_tHt (hN := hN)]; first | assumption | rfl), (by simp (disch := omega) only [hTn, hCr, hu_s, hu_n, hgt_tHt (hN := hN)]; first | assumption | rfl), (by simp (disch := omega) only [hTn, hCr, hu_s, hu_n, hgt_tHt (hN := hN)]; first | assumption | rfl)⟩) | (rw [folP_3 c8 c32 c43]; exact ⟨_, _, (by simp (disch := omega) only [hTn, hCr, hu_s, hu_n, hgt_tHt (hN := hN)]; first | assumption | rfl), (by simp (disch := omega) only [hTn, hCr, hu_s, hu_n, hgt_tHt (hN := hN)]; first | assumption | rfl), (by simp (disch := omega) only [hTn, hCr, hu_s, hu_n, hgt_tHt (hN := hN)]; first | assumption | rfl), (by simp (disch := omega) only [hTn, hCr, hu_s, hu_n, hgt_tHt (hN := hN)]; first | assumption | rfl), (by simp (disch := omega) only [hTn, hCr, hu_s, hu_n, hgt_tHt (hN := hN)]; first | assumption | rfl), (by simp (disch := omega) only [hTn, hCr, hu_s, hu_n, hgt_tHt (hN := hN)]; first | assumption | rfl), (by simp (disch := omega) only [hTn, hCr, hu_s, hu_n, hgt_tHt (hN := hN)]; first | assumption | rfl), (by simp (disch := omega) only [hTn, hCr, hu_s, hu_n, hgt_tHt (hN := hN)]; first | assumption | rfl), (by simp (disch := omega) only [hTn, hCr, hu_s, hu_n, hgt_tHt (hN := hN)]; first | assumption | rfl), (by simp (disch := omega) only [hTn, hCr, hu_s, hu_n, hgt_tHt (hN := hN)]; first | assumption | rfl), (by simp (disch := omega) only [hTn, hCr, hu_s, hu_n, hgt_tHt (hN := hN)]; first | assumption | rfl), (by simp (disch := omega) only [hTn, hCr, hu_s, hu_n, hgt_tHt (hN := hN)]; first | assumption | rfl), (by simp (disch := omega) only [hTn, hCr, hu_s, hu_n, hgt_tHt (hN := hN)]; first | assumption | rfl)⟩) | (rw [folP_4 c8 c32 c43 c55]; exact ⟨_, _, (by simp (disch := omega) only [hTn, hCr, hu_s, hu_n, hgt_tHt (hN := hN)]; first | assumption | rfl), (by simp (disch := omega) only [hTn, hCr, hu_s, hu_n, hgt_tHt (hN := hN)]; first | assumption | rfl), (by simp (disch := omega) only [hTn, hCr, hu_s, hu_n, hgt_tHt (hN := hN)]; first | assumption | rfl), (by simp (disch := omega) only [hTn, hCr, hu_s, hu_n, hgt_tHt (hN := hN)]; first | assumption | rfl), (by simp (disch := omega) only [hTn, hCr, hu_s, hu_n, hgt_tHt (hN := hN)]; first | assumption | rfl), (by simp (disch := omega) only [hTn, hCr, hu_s, hu_n, hgt_tHt (hN := hN)]; first | assumption | rfl), (by simp (disch := omega) only [hTn, hCr, hu_s, hu_n, hgt_tHt (hN := hN)]; first | assumption | rfl), (by simp (disch := omega) only [hTn, hCr, hu_s, hu_n, hgt_tHt (hN := hN)]; first | assumption | rfl), (by simp (disch := omega) only [hTn, hCr, hu_s, hu_n, hgt_tHt (hN := hN)]; first | assumption | rfl), (by simp (disch := omega) only [hTn, hCr, hu_s, hu_n, hgt_tHt (hN := hN)]; first | assumption | rfl), (by simp (disch := omega) only [hTn, hCr, hu_s, hu_n, hgt_tHt (hN := hN)]; first | assumption | rfl), (by simp (disch := omega) only [hTn, hCr, hu_s, hu_n, hgt_tHt (hN := hN)]; first | assumption | rfl), (by simp (disch := omega) only [hTn, hCr, hu_s, hu_n, hgt_tHt (hN := hN)]; first | assumption | rfl)⟩) | (rw [folP_5 c8 c32 c43 c55]; exact ⟨_, _, (by simp (disch := omega) only [hTn, hCr, hu_s, hu_n, hgt_tHt (hN := hN)]; first | assumption | rfl), (by simp (disch := omega) only [hTn, hCr, hu_s, hu_n, hgt_tHt (hN := hN)]; first | assumption | rfl), (by simp (disch := omega) only [hTn, hCr, hu_s, hu_n, hgt_tHt (hN := hN)]; first | assumption | rfl), (by simp (disch := omega) only [hTn, hCr, hu_s, hu_n, hgt_tHt (hN := hN)]; first | assumption | rfl), (by simp (disch := omega) only [hTn, hCr, hu_s, hu_n, hgt_tHt (hN := hN)]; first | assumption | rfl), (by simp (disch := omega) only [hTn, hCr, hu_s, hu_n, hgt_tHt (hN := hN)]; first | assumption | rfl), (by simp (disch := omega) only [hTn, hCr, hu_s, hu_n, hgt_tHt (hN := hN)]; first | assumption | rfl), (by simp (disch := omega) only [hTn, hCr, hu_s, hu_n, hgt_tHt (hN := hN)]; first | assumption | rfl), (by simp (disch := omega) only [hTn, hCr, hu_s, hu_n, hgt_tHt (hN := hN)]; first | assumption | rfl), (by simp (disch := omega) only [hTn, hCr, hu_s, hu_n, hgt_tHt (hN := hN)]; first | assumption | rfl), (by simp (disch := omega) only [hTn, hCr, hu_s, hu_n, hgt_tHt (hN := hN)]; first | assumption | rfl), (by simp (disch := omega) only [hTn, hCr, hu_s, hu_n, hgt_tHt (hN := hN)]; first | assumption | rfl), (by simp (disch := omega) only [hTn, hCr, hu_s, hu_n, hgt_tHt (hN := hN)]; first | assumption | rfl)⟩)⟩
end
section
/-! Paper: hold, open, copy -/
def hldP (n : Nat) (t : Int32) (s : pS) : Bool × pS := if t < 1 then (false, s) else if 1000 < t then (false, s) else if s.1 4 + t ≤ 100000 then (true, pasS n t.toNatClampNeg s) else (false, s)
def opnP (n : Nat) (s : pS) : Bool × pS := if s.1 4 < 100000 then (true, pasS n 1 (flaS n s)) else (false, s)
def cpyS (n : Nat) (s' s : pS) : pS := (s'.1, fun i => cpN (s'.2.1 i) (s.2.1 i) (n + 1), fun i => cpN (s'.2.2 i) (s.2.2 i) (n + 1))
theorem k_holdFor {G : mG} {h : mH} {B n : Nat} {x : Int32} {s : pS} (d : Nat) (hd : 2 ≤ d) (hp : pap h B n s) (hN : n + 1 < 2 ^ 31) : EV G m_X2_holdFor d 0 0 [.ref B, .int x] h (fun r h' => r = some (.int (bI (hldP n x s).1)) ∧ frm h h' B (B + 13) ∧ pap h' B n (hldP n x s).2) := by
  have hp0 := hp
  obtain ⟨tl, ht, hB, hS, hP, hL, hU, hT, hC, h1, h2, h3, h4, h5, h6⟩ := hp
  refine ev_2_0 rfl rfl (by decide +kernel) (by decide +kernel) ?_
  have fin : ¬ x < 1 → ¬ 1000 < x → s.1 4 + x ≤ 100000 → Z G m_X2_holdFor d 0 0 0 0 25 [some (.ref B), some (.int x)] [] h (fun r h' => r = some (.int (bI (hldP n x s).1)) ∧ frm h h' B (B + 13) ∧ pap h' B n (hldP n x s).2) := by
    intro c1 c2 c3
    have hv : hldP n x s = (true, pasS n x.toNatClampNeg s) := by
      unfold hldP
      rw [if_neg c1, if_neg c2, if_pos c3]
    obtain ⟨j, hj, rfl⟩ := nI_of (x := x) (fun q => c1 (Int32.lt_of_lt_of_le q (by decide)))
    rw [nI_clamp hj] at hv
    rw [hv]
    refine z_ald0 (n := 26) (by decide +kernel) ?_
    refine z_ild1 (n := 27) (by decide +kernel) ?_
    refine z_v1v (n := 30) (idx := 75) (by decide +kernel) ml_X2_75 (by assumption) rfl (Nat.le_of_ble_eq_true rfl) (by omega) ⟨Nat.le_refl _, Nat.le_refl _⟩ (k_endAct (N := n + 1) (pl := s.2.1 0) (si := s.2.1 2) (rs := s.2.1 3) 1 (by omega) hB hS hP hC h1 h2 (Nat.le_refl _) hN hj) ?_
    refine z_iconst (n := 31) (q := 1) (v := 1) (by decide +kernel) ?_
    first | refine z_zr1 (by decide +kernel) rfl (Nat.le_refl _) ?_ | refine z_zr0 (by decide +kernel) rfl (Nat.le_refl _) ?_ | refine z_zrb (by decide +kernel) rfl (Nat.le_refl _) ?_
    exact ⟨rfl, by intro j9 hj9; simp (disch := omega) only [hu_n], ⟨_, _, (by simp (disch := omega) only [hTn, hCr, hFl, hu_s, hu_n]; first | done | assumption | rfl), (by simp (disch := omega) only [hTn, hCr, hFl, hu_s, hu_n]; first | done | assumption | rfl), (by simp (disch := omega) only [hTn, hCr, hFl, hu_s, hu_n]; first | done | assumption | rfl), (by simp (disch := omega) only [hTn, hCr, hFl, hu_s, hu_n]; first | done | assumption | rfl), (by simp (disch := omega) only [hTn, hCr, hFl, hu_s, hu_n]; first | done | assumption | rfl), (by simp (disch := omega) only [hTn, hCr, hFl, hu_s, hu_n]; first | done | assumption | rfl), (by simp (disch := omega) only [hTn, hCr, hFl, hu_s, hu_n]; first | done | assumption | rfl), (by simp (disch := omega) only [hTn, hCr, hFl, hu_s, hu_n]; first | done | assumption | rfl), (by simp (disch := omega) only [hTn, hCr, hFl, hu_s, hu_n]; first | done | assumption | rfl), (by simp (disch := omega) only [hTn, hCr, hFl, hu_s, hu_n]; first | done | assumption | rfl), (by simp (disch := omega) only [hTn, hCr, hFl, hu_s, hu_n]; first | done | assumption | rfl), (by simp (disch := omega) only [hTn, hCr, hFl, hu_s, hu_n]; first | done | assumption | rfl), (by simp (disch := omega) only [hTn, hCr, hFl, hu_s, hu_n]; first | done | assumption | rfl)⟩⟩
  refine z_ild1 (n := 1) (by decide +kernel) ?_
  refine z_iconst (n := 2) (q := 1) (v := 1) (by decide +kernel) ?_
  refine z_icmp_lt (n := 5) (off := 21) (tgt := 23) (by decide +kernel) (fun c2 => ?_) (fun c2 => ?_)
  · refine z_iconst (n := 24) (q := 0) (v := 0) (by decide +kernel) ?_
    first | refine z_zr1 (by decide +kernel) rfl (Nat.le_refl _) ?_ | refine z_zr0 (by decide +kernel) rfl (Nat.le_refl _) ?_ | refine z_zrb (by decide +kernel) rfl (Nat.le_refl _) ?_
    exact ⟨by simp only [hldP, eq_true c2, if_true, if_false], frm_rf, by simp only [hldP, eq_true c2, if_true, if_false]; exact hp0⟩
  · refine z_ild1 (n := 6) (by decide +kernel) ?_
    refine z_sipush (n := 9) (q := 1000) (v := 1000) (by decide +kernel) ?_
    refine z_icmp_gt (n := 12) (off := 14) (tgt := 23) (by decide +kernel) (fun c9 => ?_) (fun c9 => ?_)
    · refine z_iconst (n := 24) (q := 0) (v := 0) (by decide +kernel) ?_
      first | refine z_zr1 (by decide +kernel) rfl (Nat.le_refl _) ?_ | refine z_zr0 (by decide +kernel) rfl (Nat.le_refl _) ?_ | refine z_zrb (by decide +kernel) rfl (Nat.le_refl _) ?_
      exact ⟨by simp only [hldP, eq_false c2, eq_true c9, if_true, if_false], frm_rf, by simp only [hldP, eq_false c2, eq_true c9, if_true, if_false]; exact hp0⟩
    · refine z_ald0 (n := 13) (by decide +kernel) ?_
      refine z_getf (n := 16) (idx := 47) (by decide +kernel) fl_X2_47 (by assumption) (by rfl) ?_
      refine z_ild1 (n := 17) (by decide +kernel) ?_
      refine z_iadd (n := 18) (by decide +kernel) ?_
      refine z_ldc (n := 20) (q := 67) (by decide +kernel) lc_X2_67 ?_
      refine z_icmp_le (n := 23) (off := 5) (tgt := 25) (by decide +kernel) (fun c20 => ?_) (fun c20 => ?_)
      · exact fin c2 c9 c20
      · refine z_iconst (n := 24) (q := 0) (v := 0) (by decide +kernel) ?_
        first | refine z_zr1 (by decide +kernel) rfl (Nat.le_refl _) ?_ | refine z_zr0 (by decide +kernel) rfl (Nat.le_refl _) ?_ | refine z_zrb (by decide +kernel) rfl (Nat.le_refl _) ?_
        exact ⟨by simp only [hldP, eq_false c2, eq_false c9, eq_false c20, if_true, if_false], frm_rf, by simp only [hldP, eq_false c2, eq_false c9, eq_false c20, if_true, if_false]; exact hp0⟩
theorem k_openUp {G : mG} {h : mH} {B n : Nat} {s : pS} (d : Nat) (hd : 2 ≤ d) (hp : pap h B n s) (hN : n + 1 < 2 ^ 31) : EV G m_X2_openUp d 0 0 [.ref B] h (fun r h' => r = some (.int (bI (opnP n s).1)) ∧ frm h h' B (B + 13) ∧ pap h' B n (opnP n s).2) := by
  have hp0 := hp
  obtain ⟨tl, ht, hB, hS, hP, hL, hU, hT, hC, h1, h2, h3, h4, h5, h6⟩ := hp
  refine ev_1_0 rfl (by decide +kernel) (by decide +kernel) ?_
  refine z_ald0 (n := 1) (by decide +kernel) ?_
  refine z_getf (n := 4) (idx := 47) (by decide +kernel) fl_X2_47 (by first | assumption | (simp (disch := omega) only [hFl, hu_s, hu_n]; first | assumption | rfl)) (by rfl) ?_
  refine z_ldc (n := 6) (q := 67) (by decide +kernel) lc_X2_67 ?_
  refine z_icmp_lt (n := 9) (off := 5) (tgt := 11) (by decide +kernel) (fun c6 => ?_) (fun c6 => ?_)
  · refine z_ald0 (n := 12) (by decide +kernel) ?_
    refine z_getf (n := 15) (idx := 29) (by decide +kernel) fl_X2_29 (by first | assumption | (simp (disch := omega) only [hFl, hu_s, hu_n]; first | assumption | rfl)) (by rfl) ?_
    refine z_ald0 (n := 16) (by decide +kernel) ?_
    refine z_getf (n := 19) (idx := 29) (by decide +kernel) fl_X2_29 (by first | assumption | (simp (disch := omega) only [hFl, hu_s, hu_n]; first | assumption | rfl)) (by rfl) ?_
    refine z_getf (n := 22) (idx := 78) (by decide +kernel) fl_X2_78 (by first | assumption | (simp (disch := omega) only [hFl, hu_s, hu_n]; first | assumption | rfl)) (by rfl) ?_
    refine z_v1v (n := 25) (idx := 81) (by decide +kernel) ml_X2_81 (by first | assumption | (simp (disch := omega) only [hFl, hu_s, hu_n]; first | assumption | rfl)) rfl (Nat.le_of_ble_eq_true rfl) (by omega) ⟨Nat.le_refl _, Nat.le_refl _⟩ (k_layFlat (N := n + 1) 1 (by omega) hS hP hL hU (Nat.le_refl _) hN) ?_
    refine z_ald0 (n := 26) (by decide +kernel) ?_
    refine z_iconst (n := 27) (q := 1) (v := 1) (by decide +kernel) ?_
    refine z_v1v (n := 30) (idx := 75) (by decide +kernel) ml_X2_75 (by first | assumption | (simp (disch := omega) only [hFl, hu_s, hu_n]; first | assumption | rfl)) rfl (Nat.le_of_ble_eq_true rfl) (by omega) ⟨Nat.le_refl _, Nat.le_refl _⟩ (k_endAct (N := n + 1) (t := 1) (pl := cpN nI (s.2.1 0) (n + 1)) (si := s.2.1 2) (rs := s.2.1 3) 1 (by omega) (by simp (disch := omega) only [hTn, hCr, hFl, hu_s, hu_n]; first | done | assumption | rfl) (by simp (disch := omega) only [hTn, hCr, hFl, hu_s, hu_n]; first | done | assumption | rfl) (by simp (disch := omega) only [hTn, hCr, hFl, hu_s, hu_n]; first | done | assumption | rfl) (by simp (disch := omega) only [hTn, hCr, hFl, hu_s, hu_n]; first | done | assumption | rfl) (by simp (disch := omega) only [hTn, hCr, hFl, hu_s, hu_n]; first | done | assumption | rfl) (by simp (disch := omega) only [hTn, hCr, hFl, hu_s, hu_n]; first | done | assumption | rfl) (Nat.le_refl _) hN (by omega)) ?_
    refine z_iconst (n := 31) (q := 1) (v := 1) (by decide +kernel) ?_
    first | refine z_zr1 (by decide +kernel) rfl (Nat.le_refl _) ?_ | refine z_zr0 (by decide +kernel) rfl (Nat.le_refl _) ?_ | refine z_zrb (by decide +kernel) rfl (Nat.le_refl _) ?_
    first | exact ⟨by simp only [opnP, eq_true c6, if_true, if_false], frm_rf, by simp only [opnP, eq_true c6, if_true, if_false]; exact hp0⟩ | exact ⟨by simp only [opnP, eq_true c6, if_true, if_false], by intro j9 hj9; simp (disch := omega) only [hFl, hu_n], by simp only [opnP, eq_true c6, if_true, if_false]; exact ⟨_, _, (by simp (disch := omega) only [hTn, hCr, hFl, hu_s, hu_n]; first | done | assumption | rfl), (by simp (disch := omega) only [hTn, hCr, hFl, hu_s, hu_n]; first | done | assumption | rfl), (by simp (disch := omega) only [hTn, hCr, hFl, hu_s, hu_n]; first | done | assumption | rfl), (by simp (disch := omega) only [hTn, hCr, hFl, hu_s, hu_n]; first | done | assumption | rfl), (by simp (disch := omega) only [hTn, hCr, hFl, hu_s, hu_n]; first | done | assumption | rfl), (by simp (disch := omega) only [hTn, hCr, hFl, hu_s, hu_n]; first | done | assumption | rfl), (by simp (disch := omega) only [hTn, hCr, hFl, hu_s, hu_n]; first | done | assumption | rfl), (by simp (disch := omega) only [hTn, hCr, hFl, hu_s, hu_n]; first | done | assumption | rfl), (by simp (disch := omega) only [hTn, hCr, hFl, hu_s, hu_n]; first | done | assumption | rfl), (by simp (disch := omega) only [hTn, hCr, hFl, hu_s, hu_n]; first | done | assumption | rfl), (by simp (disch := omega) only [hTn, hCr, hFl, hu_s, hu_n]; first | done | assumption | rfl), (by simp (disch := omega) only [hTn, hCr, hFl, hu_s, hu_n]; first | done | assumption | rfl), (by simp (disch := omega) only [hTn, hCr, hFl, hu_s, hu_n]; first | done | assumption | rfl)⟩⟩
  · refine z_iconst (n := 10) (q := 0) (v := 0) (by decide +kernel) ?_
    first | refine z_zr1 (by decide +kernel) rfl (Nat.le_refl _) ?_ | refine z_zr0 (by decide +kernel) rfl (Nat.le_refl _) ?_ | refine z_zrb (by decide +kernel) rfl (Nat.le_refl _) ?_
    first | exact ⟨by simp only [opnP, eq_false c6, if_true, if_false], frm_rf, by simp only [opnP, eq_false c6, if_true, if_false]; exact hp0⟩ | exact ⟨by simp only [opnP, eq_false c6, if_true, if_false], by intro j9 hj9; simp (disch := omega) only [hFl, hu_n], by simp only [opnP, eq_false c6, if_true, if_false]; exact ⟨_, _, (by simp (disch := omega) only [hTn, hCr, hFl, hu_s, hu_n]; first | done | assumption | rfl), (by simp (disch := omega) only [hTn, hCr, hFl, hu_s, hu_n]; first | done | assumption | rfl), (by simp (disch := omega) only [hTn, hCr, hFl, hu_s, hu_n]; first | done | assumption | rfl), (by simp (disch := omega) only [hTn, hCr, hFl, hu_s, hu_n]; first | done | assumption | rfl), (by simp (disch := omega) only [hTn, hCr, hFl, hu_s, hu_n]; first | done | assumption | rfl), (by simp (disch := omega) only [hTn, hCr, hFl, hu_s, hu_n]; first | done | assumption | rfl), (by simp (disch := omega) only [hTn, hCr, hFl, hu_s, hu_n]; first | done | assumption | rfl), (by simp (disch := omega) only [hTn, hCr, hFl, hu_s, hu_n]; first | done | assumption | rfl), (by simp (disch := omega) only [hTn, hCr, hFl, hu_s, hu_n]; first | done | assumption | rfl), (by simp (disch := omega) only [hTn, hCr, hFl, hu_s, hu_n]; first | done | assumption | rfl), (by simp (disch := omega) only [hTn, hCr, hFl, hu_s, hu_n]; first | done | assumption | rfl), (by simp (disch := omega) only [hTn, hCr, hFl, hu_s, hu_n]; first | done | assumption | rfl), (by simp (disch := omega) only [hTn, hCr, hFl, hu_s, hu_n]; first | done | assumption | rfl)⟩⟩
theorem k_papCopy {G : mG} {h : mH} {B B' n : Nat} {s s' : pS} (d : Nat) (hd : 2 ≤ d) (hp : pap h B n s) (hp' : pap h B' n s') (hN : n + 1 < 2 ^ 31) (hap : B + 13 ≤ B' ∨ B' + 13 ≤ B) : EV G m_X2_copyFrom d 0 0 [.ref B, .ref B'] h (fun r h' => r = none ∧ frm h h' B (B + 13) ∧ pap h' B n (cpyS n s' s)) := by
  obtain ⟨tl, ht, hB, hS, hP, hL, hU, hT, hC, h1, h2, h3, h4, h5, h6⟩ := hp
  obtain ⟨tl', ht', hB', hS', hP', hL', hU', hT', hC', h1', h2', h3', h4', h5', h6'⟩ := hp'
  refine ev_2_0 rfl rfl (by decide +kernel) (by decide +kernel) ?_
  refine z_ald0 (n := 1) (by decide +kernel) ?_
  refine z_getf (n := 4) (idx := 29) (by decide +kernel) fl_X2_29 (by first | assumption | (simp (disch := omega) only [hu_s, hu_n]; first | assumption | rfl)) (by rfl) ?_
  refine z_ald1 (n := 5) (by decide +kernel) ?_
  refine z_getf (n := 8) (idx := 29) (by decide +kernel) fl_X2_29 (by first | assumption | (simp (disch := omega) only [hu_s, hu_n]; first | assumption | rfl)) (by rfl) ?_
  refine z_v1v (n := 11) (idx := 40) (by decide +kernel) ml_X2_40 (by first | assumption | (simp (disch := omega) only [hu_s, hu_n]; first | assumption | rfl)) rfl (Nat.le_of_ble_eq_true rfl) (by omega) ⟨Nat.le_refl _, Nat.le_refl _⟩ (k_stripCopy (N := n + 1) (N' := n + 1) 1 (by omega) hS hP hL hU hS' hP' hL' hU' (Nat.le_refl _) (Nat.le_refl _) hN (by omega)) ?_
  refine z_ald0 (n := 12) (by decide +kernel) ?_
  refine z_getf (n := 15) (idx := 36) (by decide +kernel) fl_X2_36 (by first | assumption | (simp (disch := omega) only [hu_s, hu_n]; first | assumption | rfl)) (by rfl) ?_
  refine z_ald1 (n := 16) (by decide +kernel) ?_
  refine z_getf (n := 19) (idx := 36) (by decide +kernel) fl_X2_36 (by first | assumption | (simp (disch := omega) only [hu_s, hu_n]; first | assumption | rfl)) (by rfl) ?_
  refine z_v1v (n := 22) (idx := 44) (by decide +kernel) ml_X2_44 (by first | assumption | (simp (disch := omega) only [hu_s, hu_n]; first | assumption | rfl)) rfl (Nat.le_of_ble_eq_true rfl) (by omega) ⟨Nat.le_refl _, Nat.le_refl _⟩ (k_creCopy (N := n + 1) (si := s.2.1 2) (rs := s.2.1 3) (wr := s.2.1 4) (tk := s.2.1 5) (ac := s.2.1 6) (tn := s.2.2 1) (si' := s'.2.1 2) (rs' := s'.2.1 3) (wr' := s'.2.1 4) (tk' := s'.2.1 5) (ac' := s'.2.1 6) (tn' := s'.2.2 1) 1 (by omega) (by simp (disch := omega) only [hTn, hCr, hFl, hu_s, hu_n]; first | done | assumption | rfl) (by simp (disch := omega) only [hTn, hCr, hFl, hu_s, hu_n]; first | done | assumption | rfl) (by simp (disch := omega) only [hTn, hCr, hFl, hu_s, hu_n]; first | done | assumption | rfl) (by simp (disch := omega) only [hTn, hCr, hFl, hu_s, hu_n]; first | done | assumption | rfl) (by simp (disch := omega) only [hTn, hCr, hFl, hu_s, hu_n]; first | done | assumption | rfl) (by simp (disch := omega) only [hTn, hCr, hFl, hu_s, hu_n]; first | done | assumption | rfl) (by simp (disch := omega) only [hTn, hCr, hFl, hu_s, hu_n]; first | done | assumption | rfl) (by simp (disch := omega) only [hTn, hCr, hFl, hu_s, hu_n]; first | done | assumption | rfl) (by simp (disch := omega) only [hTn, hCr, hFl, hu_s, hu_n]; first | done | assumption | rfl) (by simp (disch := omega) only [hTn, hCr, hFl, hu_s, hu_n]; first | done | assumption | rfl) (by simp (disch := omega) only [hTn, hCr, hFl, hu_s, hu_n]; first | done | assumption | rfl) (by simp (disch := omega) only [hTn, hCr, hFl, hu_s, hu_n]; first | done | assumption | rfl) (by simp (disch := omega) only [hTn, hCr, hFl, hu_s, hu_n]; first | done | assumption | rfl) (by simp (disch := omega) only [hTn, hCr, hFl, hu_s, hu_n]; first | done | assumption | rfl) hN (by omega)) ?_
  refine z_ald0 (n := 23) (by decide +kernel) ?_
  refine z_ald1 (n := 24) (by decide +kernel) ?_
  refine z_getf (n := 27) (idx := 9) (by decide +kernel) fl_X2_9 (by first | assumption | (simp (disch := omega) only [hu_s, hu_n]; first | assumption | rfl)) (by rfl) ?_
  refine z_putf (n := 30) (idx := 9) (ty := .int) (by decide +kernel) fl_X2_9 (by first | assumption | (simp (disch := omega) only [hu_s, hu_n]; first | assumption | rfl)) ⟨_, _, _, rfl, rfl, by decide +kernel⟩ rfl rfl (Nat.le_of_ble_eq_true rfl) ?_
  refine z_ald0 (n := 31) (by decide +kernel) ?_
  refine z_ald1 (n := 32) (by decide +kernel) ?_
  refine z_getf (n := 35) (idx := 15) (by decide +kernel) fl_X2_15 (by first | assumption | (simp (disch := omega) only [hu_s, hu_n]; first | assumption | rfl)) (by rfl) ?_
  refine z_putf (n := 38) (idx := 15) (ty := .int) (by decide +kernel) fl_X2_15 (by first | assumption | (simp (disch := omega) only [hu_s, hu_n]; first | assumption | rfl)) ⟨_, _, _, rfl, rfl, by decide +kernel⟩ rfl rfl (Nat.le_of_ble_eq_true rfl) ?_
  refine z_ald0 (n := 39) (by decide +kernel) ?_
  refine z_ald1 (n := 40) (by decide +kernel) ?_
  refine z_getf (n := 43) (idx := 18) (by decide +kernel) fl_X2_18 (by first | assumption | (simp (disch := omega) only [hu_s, hu_n]; first | assumption | rfl)) (by rfl) ?_
  refine z_putf (n := 46) (idx := 18) (ty := .int) (by decide +kernel) fl_X2_18 (by first | assumption | (simp (disch := omega) only [hu_s, hu_n]; first | assumption | rfl)) ⟨_, _, _, rfl, rfl, by decide +kernel⟩ rfl rfl (Nat.le_of_ble_eq_true rfl) ?_
  refine z_ald0 (n := 47) (by decide +kernel) ?_
  refine z_ald1 (n := 48) (by decide +kernel) ?_
  refine z_getf (n := 51) (idx := 21) (by decide +kernel) fl_X2_21 (by first | assumption | (simp (disch := omega) only [hu_s, hu_n]; first | assumption | rfl)) (by rfl) ?_
  refine z_putf (n := 54) (idx := 21) (ty := .int) (by decide +kernel) fl_X2_21 (by first | assumption | (simp (disch := omega) only [hu_s, hu_n]; first | assumption | rfl)) ⟨_, _, _, rfl, rfl, by decide +kernel⟩ rfl rfl (Nat.le_of_ble_eq_true rfl) ?_
  refine z_ald0 (n := 55) (by decide +kernel) ?_
  refine z_ald1 (n := 56) (by decide +kernel) ?_
  refine z_getf (n := 59) (idx := 47) (by decide +kernel) fl_X2_47 (by first | assumption | (simp (disch := omega) only [hu_s, hu_n]; first | assumption | rfl)) (by rfl) ?_
  refine z_putf (n := 62) (idx := 47) (ty := .int) (by decide +kernel) fl_X2_47 (by first | assumption | (simp (disch := omega) only [hu_s, hu_n]; first | assumption | rfl)) ⟨_, _, _, rfl, rfl, by decide +kernel⟩ rfl rfl (Nat.le_of_ble_eq_true rfl) ?_
  refine z_ald0 (n := 63) (by decide +kernel) ?_
  refine z_ald1 (n := 64) (by decide +kernel) ?_
  refine z_getf (n := 67) (idx := 50) (by decide +kernel) fl_X2_50 (by first | assumption | (simp (disch := omega) only [hu_s, hu_n]; first | assumption | rfl)) (by rfl) ?_
  refine z_putf (n := 70) (idx := 50) (ty := .int) (by decide +kernel) fl_X2_50 (by first | assumption | (simp (disch := omega) only [hu_s, hu_n]; first | assumption | rfl)) ⟨_, _, _, rfl, rfl, by decide +kernel⟩ rfl rfl (Nat.le_of_ble_eq_true rfl) ?_
  refine z_vret (by decide +kernel) rfl (Nat.le_refl _) ?_
  exact ⟨rfl, by intro j9 hj9; simp (disch := omega) only [hu_n], ⟨_, _, (by simp (disch := omega) only [hTn, hCr, hFl, hu_s, hu_n]; first | done | assumption | rfl), (by simp (disch := omega) only [hTn, hCr, hFl, hu_s, hu_n]; first | done | assumption | rfl), (by simp (disch := omega) only [hTn, hCr, hFl, hu_s, hu_n]; first | done | assumption | rfl), (by simp (disch := omega) only [hTn, hCr, hFl, hu_s, hu_n]; first | done | assumption | rfl), (by simp (disch := omega) only [hTn, hCr, hFl, hu_s, hu_n]; first | done | assumption | rfl), (by simp (disch := omega) only [hTn, hCr, hFl, hu_s, hu_n]; first | done | assumption | rfl), (by simp (disch := omega) only [hTn, hCr, hFl, hu_s, hu_n]; first | done | assumption | rfl), (by simp (disch := omega) only [hTn, hCr, hFl, hu_s, hu_n]; first | done | assumption | rfl), (by simp (disch := omega) only [hTn, hCr, hFl, hu_s, hu_n]; first | done | assumption | rfl), (by simp (disch := omega) only [hTn, hCr, hFl, hu_s, hu_n]; first | done | assumption | rfl), (by simp (disch := omega) only [hTn, hCr, hFl, hu_s, hu_n]; first | done | assumption | rfl), (by simp (disch := omega) only [hTn, hCr, hFl, hu_s, hu_n]; first | done | assumption | rfl), (by simp (disch := omega) only [hTn, hCr, hFl, hu_s, hu_n]; first | done | assumption | rfl)⟩⟩
end
section
/-! Sheets and Shapes -/
theorem cnb_t {b : Nat → Bool} {u : Nat} (h : b u = true) : cnb b (u + 1) = cnb b u + 1 := by simp [cnb, h]
theorem cnb_f {b : Nat → Bool} {u : Nat} (h : b u = false) : cnb b (u + 1) = cnb b u := by simp [cnb, h]
theorem fsT_t {p : Nat → Bool} {r u : Nat} (h : p u = true) : fsT p (r + 1) u = u := by simp [fsT, h]
theorem fsT_f {p : Nat → Bool} {r u : Nat} (h : p u = false) : fsT p (r + 1) u = fsT p r (u + 1) := by simp [fsT, h]
def oShe (E : Nat) (c : Int32) : mE := oB 6 [.int c, .ref (E + 1), .ref (E + 2), .ref (E + 3), .ref (E + 4), .ref (E + 5)]
/-- the sheets: how many, their five rows -/
abbrev eS : Type := Nat × (Nat → Nat → Int32)
def she (h : mH) (E : Nat) (s : eS) : Prop := h E = oShe E (nI s.1) ∧ h (E + 1) = aI 6 (s.2 0) ∧ h (E + 2) = aI 6 (s.2 1) ∧ h (E + 3) = aI 6 (s.2 2) ∧ h (E + 4) = aI 6 (s.2 3) ∧ h (E + 5) = aI 6 (s.2 4)
theorem she_frm {h h' : mH} {E lo hi : Nat} {s : eS} (hf : frm h h' lo hi) (ha : E + 6 ≤ lo ∨ hi ≤ E) (p : she h E s) : she h' E s := by
  obtain ⟨h0, h1, h2, h3, h4, h5⟩ := p
  exact ⟨(hf _ (by omega)).trans h0, (hf _ (by omega)).trans h1, (hf _ (by omega)).trans h2, (hf _ (by omega)).trans h3, (hf _ (by omega)).trans h4, (hf _ (by omega)).trans h5⟩
theorem k_has {G : mG} {h : mH} {E : Nat} {c x : Int32} (d : Nat) (hE : h E = oShe E c) : EV G m_X6_has d 0 0 [.ref E, .int x] h (RE (some (.int (bI (!decide (x < 0) && !decide (c ≤ x))))) h) := by
  refine ev_2_0 rfl rfl (by decide +kernel) (by decide +kernel) ?_
  refine z_ild1 (n := 1) (by decide +kernel) ?_
  refine z_if_lt (n := 4) (off := 15) (tgt := 16) (by decide +kernel) (fun c1 => ?_) (fun c1 => ?_)
  · refine z_iconst (n := 17) (q := 0) (v := 0) (by decide +kernel) ?_
    first | refine z_zr1 (by decide +kernel) rfl (Nat.le_refl _) ?_ | refine z_zr0 (by decide +kernel) rfl (Nat.le_refl _) ?_ | refine z_zrb (by decide +kernel) rfl (Nat.le_refl _) ?_
    exact ⟨by simp only [eq_true c1, decide_true, decide_false, Bool.and_true, Bool.and_false, Bool.true_and, Bool.false_and, Bool.or_true, Bool.or_false, Bool.true_or, Bool.false_or, Bool.not_true, Bool.not_false, if_true, if_false], rfl⟩
  · refine z_ild1 (n := 5) (by decide +kernel) ?_
    refine z_ald0 (n := 6) (by decide +kernel) ?_
    refine z_getf (n := 9) (idx := 27) (by decide +kernel) fl_X6_27 (by assumption) (by rfl) ?_
    refine z_icmp_ge (n := 12) (off := 7) (tgt := 16) (by decide +kernel) (fun c9 => ?_) (fun c9 => ?_)
    · refine z_iconst (n := 17) (q := 0) (v := 0) (by decide +kernel) ?_
      first | refine z_zr1 (by decide +kernel) rfl (Nat.le_refl _) ?_ | refine z_zr0 (by decide +kernel) rfl (Nat.le_refl _) ?_ | refine z_zrb (by decide +kernel) rfl (Nat.le_refl _) ?_
      exact ⟨by simp only [eq_false c1, eq_true c9, decide_true, decide_false, Bool.and_true, Bool.and_false, Bool.true_and, Bool.false_and, Bool.or_true, Bool.or_false, Bool.true_or, Bool.false_or, Bool.not_true, Bool.not_false, if_true, if_false], rfl⟩
    · refine z_iconst (n := 13) (q := 1) (v := 1) (by decide +kernel) ?_
      refine z_goto (n := 16) (off := 4) (tgt := 17) (by decide +kernel) ?_
      first | refine z_zr1 (by decide +kernel) rfl (Nat.le_refl _) ?_ | refine z_zr0 (by decide +kernel) rfl (Nat.le_refl _) ?_ | refine z_zrb (by decide +kernel) rfl (Nat.le_refl _) ?_
      exact ⟨by simp only [eq_false c1, eq_false c9, decide_true, decide_false, Bool.and_true, Bool.and_false, Bool.true_and, Bool.false_and, Bool.or_true, Bool.or_false, Bool.true_or, Bool.false_or, Bool.not_true, Bool.not_false, if_true, if_false], rfl⟩
def addS (k r b m q : Int32) (s : eS) : eS := (s.1 + 1, fun i => match i with
  | 0 => upd (s.2 0) s.1 k
  | 1 => upd (s.2 1) s.1 r
  | 2 => upd (s.2 2) s.1 b
  | 3 => upd (s.2 3) s.1 m
  | 4 => upd (s.2 4) s.1 q
  | i => s.2 i)
theorem k_addOne {G : mG} {h : mH} {E : Nat} {k r b m q : Int32} {s : eS} (d : Nat) (hs : she h E s) (hc : s.1 ≤ 6) : EV G m_X6_addOne d 0 0 [.ref E, .int k, .int r, .int b, .int m, .int q] h (fun v h' => v = some (.int (if s.1 < 6 then nI s.1 else -1)) ∧ frm h h' E (E + 6) ∧ she h' E (if s.1 < 6 then addS k r b m q s else s)) := by
  have hs0 := hs
  obtain ⟨hE, h1, h2, h3, h4, h5⟩ := hs
  by_cases hlt : s.1 < 6
  · rw [if_pos hlt, if_pos hlt]
    refine ev_6_0 rfl rfl rfl rfl rfl rfl (by decide +kernel) (by decide +kernel) ?_
    refine z_ald0 (n := 1) (by decide +kernel) ?_
    refine z_getf (n := 4) (idx := 27) (by decide +kernel) fl_X6_27 (by first | assumption | (simp (disch := omega) only [hu_s, hu_n]; first | assumption | rfl)) (by rfl) ?_
    refine z_bipush (n := 6) (q := 6) (v := 6) (by decide +kernel) ?_
    refine z_icmp_lt_t (n := 9) (off := 5) (tgt := 11) (by decide +kernel) (nI_lt (b := 6) hlt (by omega)) ?_
    refine z_ald0 (n := 12) (by decide +kernel) ?_
    refine z_getf (n := 15) (idx := 11) (by decide +kernel) fl_X6_11 (by first | assumption | (simp (disch := omega) only [hu_s, hu_n]; first | assumption | rfl)) (by rfl) ?_
    refine z_ald0 (n := 16) (by decide +kernel) ?_
    refine z_getf (n := 19) (idx := 27) (by decide +kernel) fl_X6_27 (by first | assumption | (simp (disch := omega) only [hu_s, hu_n]; first | assumption | rfl)) (by rfl) ?_
    refine z_ild1 (n := 20) (by decide +kernel) ?_
    refine z_iast (n := 21) (by decide +kernel) (by first | assumption | (simp (disch := omega) only [hu_s, hu_n]; first | assumption | rfl)) (by first | assumption | exact ix_nI (by omega) (by omega)) ?_
    refine z_ald0 (n := 22) (by decide +kernel) ?_
    refine z_getf (n := 25) (idx := 15) (by decide +kernel) fl_X6_15 (by first | assumption | (simp (disch := omega) only [hu_s, hu_n]; first | assumption | rfl)) (by rfl) ?_
    refine z_ald0 (n := 26) (by decide +kernel) ?_
    refine z_getf (n := 29) (idx := 27) (by decide +kernel) fl_X6_27 (by first | assumption | (simp (disch := omega) only [hu_s, hu_n]; first | assumption | rfl)) (by rfl) ?_
    refine z_ild2 (n := 30) (by decide +kernel) ?_
    refine z_iast (n := 31) (by decide +kernel) (by first | assumption | (simp (disch := omega) only [hu_s, hu_n]; first | assumption | rfl)) (by first | assumption | exact ix_nI (by omega) (by omega)) ?_
    refine z_ald0 (n := 32) (by decide +kernel) ?_
    refine z_getf (n := 35) (idx := 18) (by decide +kernel) fl_X6_18 (by first | assumption | (simp (disch := omega) only [hu_s, hu_n]; first | assumption | rfl)) (by rfl) ?_
    refine z_ald0 (n := 36) (by decide +kernel) ?_
    refine z_getf (n := 39) (idx := 27) (by decide +kernel) fl_X6_27 (by first | assumption | (simp (disch := omega) only [hu_s, hu_n]; first | assumption | rfl)) (by rfl) ?_
    refine z_ild3 (n := 40) (by decide +kernel) ?_
    refine z_iast (n := 41) (by decide +kernel) (by first | assumption | (simp (disch := omega) only [hu_s, hu_n]; first | assumption | rfl)) (by first | assumption | exact ix_nI (by omega) (by omega)) ?_
    refine z_ald0 (n := 42) (by decide +kernel) ?_
    refine z_getf (n := 45) (idx := 21) (by decide +kernel) fl_X6_21 (by first | assumption | (simp (disch := omega) only [hu_s, hu_n]; first | assumption | rfl)) (by rfl) ?_
    refine z_ald0 (n := 46) (by decide +kernel) ?_
    refine z_getf (n := 49) (idx := 27) (by decide +kernel) fl_X6_27 (by first | assumption | (simp (disch := omega) only [hu_s, hu_n]; first | assumption | rfl)) (by rfl) ?_
    refine z_ild4 (n := 51) (by decide +kernel) ?_
    refine z_iast (n := 52) (by decide +kernel) (by first | assumption | (simp (disch := omega) only [hu_s, hu_n]; first | assumption | rfl)) (by first | assumption | exact ix_nI (by omega) (by omega)) ?_
    refine z_ald0 (n := 53) (by decide +kernel) ?_
    refine z_getf (n := 56) (idx := 24) (by decide +kernel) fl_X6_24 (by first | assumption | (simp (disch := omega) only [hu_s, hu_n]; first | assumption | rfl)) (by rfl) ?_
    refine z_ald0 (n := 57) (by decide +kernel) ?_
    refine z_getf (n := 60) (idx := 27) (by decide +kernel) fl_X6_27 (by first | assumption | (simp (disch := omega) only [hu_s, hu_n]; first | assumption | rfl)) (by rfl) ?_
    refine z_ild5 (n := 62) (by decide +kernel) ?_
    refine z_iast (n := 63) (by decide +kernel) (by first | assumption | (simp (disch := omega) only [hu_s, hu_n]; first | assumption | rfl)) (by first | assumption | exact ix_nI (by omega) (by omega)) ?_
    refine z_ald0 (n := 64) (by decide +kernel) ?_
    refine z_dup (n := 65) (by decide +kernel) rfl ?_
    refine z_getf (n := 68) (idx := 27) (by decide +kernel) fl_X6_27 (by first | assumption | (simp (disch := omega) only [hu_s, hu_n]; first | assumption | rfl)) (by rfl) ?_
    refine z_iconst (n := 69) (q := 1) (v := 1) (by decide +kernel) ?_
    refine z_iadd (n := 70) (by decide +kernel) ?_
    refine z_top (nI_1 s.1) ?_
    refine z_putf (n := 73) (idx := 27) (ty := .int) (by decide +kernel) fl_X6_27 (by first | assumption | (simp (disch := omega) only [hu_s, hu_n]; first | assumption | rfl)) ⟨_, _, _, rfl, rfl, by decide +kernel⟩ rfl rfl (Nat.le_of_ble_eq_true rfl) ?_
    refine z_ald0 (n := 74) (by decide +kernel) ?_
    refine z_getf (n := 77) (idx := 27) (by decide +kernel) fl_X6_27 (by first | assumption | (simp (disch := omega) only [hu_s, hu_n]; first | assumption | rfl)) (by rfl) ?_
    refine z_iconst (n := 78) (q := 1) (v := 1) (by decide +kernel) ?_
    refine z_isub (n := 79) (by decide +kernel) ?_
    refine z_top (nI_pred s.1) ?_
    refine z_iret (by decide +kernel) rfl (Nat.le_refl _) ?_
    exact ⟨rfl, by intro j9 hj9; simp (disch := omega) only [hu_n], (by simp (disch := omega) only [hTn, hCr, hFl, hu_s, hu_n]; first | done | assumption | rfl), (by simp (disch := omega) only [hTn, hCr, hFl, hu_s, hu_n]; first | done | assumption | rfl), (by simp (disch := omega) only [hTn, hCr, hFl, hu_s, hu_n]; first | done | assumption | rfl), (by simp (disch := omega) only [hTn, hCr, hFl, hu_s, hu_n]; first | done | assumption | rfl), (by simp (disch := omega) only [hTn, hCr, hFl, hu_s, hu_n]; first | done | assumption | rfl), (by simp (disch := omega) only [hTn, hCr, hFl, hu_s, hu_n]; first | done | assumption | rfl)⟩
  · rw [if_neg hlt, if_neg hlt]
    refine ev_6_0 rfl rfl rfl rfl rfl rfl (by decide +kernel) (by decide +kernel) ?_
    refine z_ald0 (n := 1) (by decide +kernel) ?_
    refine z_getf (n := 4) (idx := 27) (by decide +kernel) fl_X6_27 (by first | assumption | (simp (disch := omega) only [hu_s, hu_n]; first | assumption | rfl)) (by rfl) ?_
    refine z_bipush (n := 6) (q := 6) (v := 6) (by decide +kernel) ?_
    refine z_icmp_lt_f (n := 9) (off := 5) (tgt := 11) (by decide +kernel) (nI_nlt (b := 6) (by omega) (by omega)) ?_
    refine z_iconst (n := 10) (q := -1) (v := -1) (by decide +kernel) ?_
    refine z_iret (by decide +kernel) rfl (Nat.le_refl _) ?_
    exact ⟨rfl, frm_rf, hs0⟩
/-- the torque of a sheet -/
def tqF (s : eS) (i : Nat) (a : Int32) : Int32 := ((s.2 0 i).toInt64 * (a - s.2 1 i).toInt64 + (s.2 2 i).toInt64 * (a - s.2 1 i).toInt64 * (a - s.2 3 i).toInt64 * (a - s.2 4 i).toInt64 / 1000).toInt32
theorem k_torqueOf {G : mG} {h : mH} {E i : Nat} {a : Int32} {s : eS} (d : Nat) (hs : she h E s) (hi : i < 6) : EV G m_X6_torqueOf d 0 0 [.ref E, .int (nI i), .int a] h (RE (some (.int (tqF s i a))) h) := by
  obtain ⟨hE, h1, h2, h3, h4, h5⟩ := hs
  refine ev_3_4 rfl rfl rfl (by decide +kernel) (by decide +kernel) ?_
  refine z_ild2 (n := 1) (by decide +kernel) ?_
  refine z_ald0 (n := 2) (by decide +kernel) ?_
  refine z_getf (n := 5) (idx := 15) (by decide +kernel) fl_X6_15 (by assumption) (by rfl) ?_
  refine z_ild1 (n := 6) (by decide +kernel) ?_
  refine z_iald (n := 7) (by decide +kernel) (by assumption) (by first | assumption | exact ix_nI (by omega) (by omega)) ?_
  refine z_isub (n := 8) (by decide +kernel) ?_
  refine z_i2l (n := 9) (by decide +kernel) ?_
  refine z_lst3 (n := 10) (by decide +kernel) rfl ?_
  refine z_ald0 (n := 11) (by decide +kernel) ?_
  refine z_getf (n := 14) (idx := 18) (by decide +kernel) fl_X6_18 (by assumption) (by rfl) ?_
  refine z_ild1 (n := 15) (by decide +kernel) ?_
  refine z_iald (n := 16) (by decide +kernel) (by assumption) (by first | assumption | exact ix_nI (by omega) (by omega)) ?_
  refine z_i2l (n := 17) (by decide +kernel) ?_
  refine z_lld3 (n := 18) (by decide +kernel) ?_
  refine z_lmul (n := 19) (by decide +kernel) ?_
  refine z_ild2 (n := 20) (by decide +kernel) ?_
  refine z_ald0 (n := 21) (by decide +kernel) ?_
  refine z_getf (n := 24) (idx := 21) (by decide +kernel) fl_X6_21 (by assumption) (by rfl) ?_
  refine z_ild1 (n := 25) (by decide +kernel) ?_
  refine z_iald (n := 26) (by decide +kernel) (by assumption) (by first | assumption | exact ix_nI (by omega) (by omega)) ?_
  refine z_isub (n := 27) (by decide +kernel) ?_
  refine z_i2l (n := 28) (by decide +kernel) ?_
  refine z_lmul (n := 29) (by decide +kernel) ?_
  refine z_ild2 (n := 30) (by decide +kernel) ?_
  refine z_ald0 (n := 31) (by decide +kernel) ?_
  refine z_getf (n := 34) (idx := 24) (by decide +kernel) fl_X6_24 (by assumption) (by rfl) ?_
  refine z_ild1 (n := 35) (by decide +kernel) ?_
  refine z_iald (n := 36) (by decide +kernel) (by assumption) (by first | assumption | exact ix_nI (by omega) (by omega)) ?_
  refine z_isub (n := 37) (by decide +kernel) ?_
  refine z_i2l (n := 38) (by decide +kernel) ?_
  refine z_lmul (n := 39) (by decide +kernel) ?_
  refine z_lst5 (n := 41) (by decide +kernel) rfl ?_
  refine z_ald0 (n := 42) (by decide +kernel) ?_
  refine z_getf (n := 45) (idx := 11) (by decide +kernel) fl_X6_11 (by assumption) (by rfl) ?_
  refine z_ild1 (n := 46) (by decide +kernel) ?_
  refine z_iald (n := 47) (by decide +kernel) (by assumption) (by first | assumption | exact ix_nI (by omega) (by omega)) ?_
  refine z_i2l (n := 48) (by decide +kernel) ?_
  refine z_lld3 (n := 49) (by decide +kernel) ?_
  refine z_lmul (n := 50) (by decide +kernel) ?_
  refine z_lld5 (n := 52) (by decide +kernel) ?_
  refine z_ldc2 (n := 55) (q := 37) (by decide +kernel) lc_X6_37 ?_
  refine z_ldiv (n := 56) (by decide +kernel) (by decide) ?_
  refine z_ladd (n := 57) (by decide +kernel) ?_
  refine z_l2i (n := 58) (by decide +kernel) ?_
  refine z_iret (by decide +kernel) rfl (Nat.le_refl _) ?_
  exact ⟨rfl, rfl⟩
def ang (i : Nat) : Int32 := nI i - 180
theorem ang_I {i : Nat} (h : i < 2 ^ 30) : (ang i).toInt = (i : Int) - 180 := pk_sub_toInt (b := 180) h (by omega)
theorem ang_ix (i : Nat) : ang i + 180 = nI i := Int32.sub_add_cancel _ _
theorem ang_1 (i : Nat) : ang i + 1 = ang (i + 1) := by
  unfold ang
  rw [← nI_1]
  have := Int32.add_comm
  rw [Int32.sub_eq_add_neg, Int32.sub_eq_add_neg, Int32.add_assoc, Int32.add_assoc, this (-180) 1]
theorem ang_m (i : Nat) : ang (i + 1) - 1 = ang i := by
  rw [← ang_1]
  exact Int32.add_sub_cancel _ _
theorem ang_lt {i j : Nat} (hi : i < 2 ^ 30) (hj : j < 2 ^ 30) : ang i < ang j ↔ i < j := by
  rw [Int32.lt_iff_toInt_lt, ang_I hi, ang_I hj]; omega
theorem ang_le {i j : Nat} (hi : i < 2 ^ 30) (hj : j < 2 ^ 30) : ang i ≤ ang j ↔ i ≤ j := by
  rw [Int32.le_iff_toInt_le, ang_I hi, ang_I hj]; omega
theorem ang_eq {i j : Nat} (hi : i < 2 ^ 30) (hj : j < 2 ^ 30) : ang i = ang j ↔ i = j := by
  constructor
  · intro q
    have := congrArg Int32.toInt q
    rw [ang_I hi, ang_I hj] at this
    omega
  · exact fun q => q ▸ rfl
theorem ang_360 : (180 : Int32) = ang 360 := by decide
theorem ang_0 : (-180 : Int32) = ang 0 := by decide
theorem ang_of {x : Int32} (h0 : (-180 : Int32) ≤ x) (h1 : x ≤ 180) : ∃ i, i ≤ 360 ∧ x = ang i := by
  have a0 : (-180 : Int) ≤ x.toInt := Int32.le_iff_toInt_le.mp h0
  have a1 : x.toInt ≤ 180 := Int32.le_iff_toInt_le.mp h1
  refine ⟨(x.toInt + 180).toNat, by omega, Int32.toInt_inj.mp ?_⟩
  rw [ang_I (by omega)]
  omega
/-- does the angle i rest, of torques T by a push p -/
def rstI (T : Nat → Int32) (i : Nat) (p : Int32) : Bool := decide (T i = p) || (decide (ang i < 180) && ((!decide (p ≤ T i) && decide (p < T (i + 1))) || (!decide (T i ≤ p) && !decide (p ≤ T (i + 1)))))
def styI (T : Nat → Int32) (i : Nat) (p : Int32) : Bool := rstI T i p && ((decide ((180 : Int32) ≤ ang i) || !decide (T (i + 1) ≤ p)) && (decide (ang i ≤ -180) || !decide (p ≤ T (i - 1))))
def oSha (H : Nat) (an sn fp : Int32) : mE := oB 5 [.int an, .int sn, .int fp, .ref (H + 1)]
theorem k_shTake {G : mG} {h : mH} {E H i : Nat} {an sn fp : Int32} {T : Nat → Int32} {s : eS} (d : Nat) (hd : 1 ≤ d) (hs : she h E s) (hH : h H = oSha H an sn fp) (hT : h (H + 1) = aI 361 T) (hi : i < 6) (hap : E + 6 ≤ H ∨ H + 2 ≤ E) : EV G m_X5_take d 0 0 [.ref H, .ref E, .int (nI i)] h (RE none (hu h (H + 1) (aI 361 (cpN (fun j => tqF s i (ang j)) T 361)))) := by
  have hE := hs.1
  refine ev_3_1 rfl rfl rfl (by decide +kernel) (by decide +kernel) ?_
  refine z_sipush (n := 3) (q := -180) (v := -180) (by decide +kernel) ?_
  refine z_ist3 (n := 4) (by decide +kernel) rfl ?_
  refine z_heap (h1 := hu h (H + 1) (aI 361 (cpN (fun j => tqF s i (ang j)) T 0))) (by rw [cpN_0, hu_self hT]) ?_
  refine loopZ (k := 361) (fun u => Z G m_X5_take d 0 0 0 0 4 [some (.ref H), some (.ref E), some (.int (nI i)), some (.int (ang u))] [] (hu h (H + 1) (aI 361 (cpN (fun j => tqF s i (ang j)) T u))) (RE none (hu h (H + 1) (aI 361 (cpN (fun j => tqF s i (ang j)) T 361))))) ?_ ?_ 0 (by omega)
  · refine z_ild3 (n := 5) (by decide +kernel) ?_
    refine z_sipush (n := 8) (q := 180) (v := 180) (by decide +kernel) ?_
    refine z_icmp_gt_t (n := 11) (off := 25) (tgt := 33) (by decide +kernel) (by decide) ?_
    refine z_vret (by decide +kernel) rfl (Nat.le_refl _) ?_
    exact ⟨rfl, rfl⟩
  · intro u ul ih
    refine z_ild3 (n := 5) (by decide +kernel) ?_
    refine z_sipush (n := 8) (q := 180) (v := 180) (by decide +kernel) ?_
    refine z_icmp_gt_f (n := 11) (off := 25) (tgt := 33) (by decide +kernel) (by rw [ang_360]; exact fun q => absurd ((ang_lt (by omega) (by omega)).mp q) (by omega)) ?_
    refine z_ald0 (n := 12) (by decide +kernel) ?_
    refine z_getf (n := 15) (idx := 11) (by decide +kernel) fl_X5_11 (by first | assumption | (simp (disch := omega) only [hu_s, hu_n]; first | assumption | rfl)) (by rfl) ?_
    refine z_ild3 (n := 16) (by decide +kernel) ?_
    refine z_sipush (n := 19) (q := 180) (v := 180) (by decide +kernel) ?_
    refine z_iadd (n := 20) (by decide +kernel) ?_
    refine z_ald1 (n := 21) (by decide +kernel) ?_
    refine z_ild2 (n := 22) (by decide +kernel) ?_
    refine z_ild3 (n := 23) (by decide +kernel) ?_
    refine z_v2 (n := 26) (idx := 15) (by decide +kernel) ml_X5_15 (by first | assumption | (simp (disch := omega) only [hu_s, hu_n]; first | assumption | rfl)) rfl (Nat.le_of_ble_eq_true rfl) (by omega) ⟨Nat.le_refl _, Nat.le_refl _⟩ (k_torqueOf (s := s) 0 (she_frm (lo := H + 1) (hi := H + 2) (fun j hj => hu_n (by omega)) (by omega) hs) hi) ?_
    refine z_iast (n := 27) (by decide +kernel) (by first | assumption | (simp (disch := omega) only [hu_s, hu_n]; first | assumption | rfl)) (by exact ix_of (ang_ix u) (by omega) (by omega)) ?_
    refine z_inc3 (n := 30) (q := 1) (by decide +kernel) rfl (ang_1 _) ?_
    refine z_goto (n := 33) (off := -26) (tgt := 4) (by decide +kernel) ?_
    exact z_heap (by rw [hu_hu, cpN_s (fun j => tqF s i (ang j)) T u]) ih
theorem k_isResting {G : mG} {h : mH} {H i : Nat} {an sn fp p : Int32} {T : Nat → Int32} (d : Nat) (hH : h H = oSha H an sn fp) (hT : h (H + 1) = aI 361 T) (hi : i ≤ 360) : EV G m_X5_isResting d 0 0 [.ref H, .int (ang i), .int p] h (RE (some (.int (bI (rstI T i p)))) h) := by
  refine ev_3_2 rfl rfl rfl (by decide +kernel) (by decide +kernel) ?_
  refine z_ald0 (n := 1) (by decide +kernel) ?_
  refine z_getf (n := 4) (idx := 11) (by decide +kernel) fl_X5_11 (by assumption) (by rfl) ?_
  refine z_ild1 (n := 5) (by decide +kernel) ?_
  refine z_sipush (n := 8) (q := 180) (v := 180) (by decide +kernel) ?_
  refine z_iadd (n := 9) (by decide +kernel) ?_
  refine z_iald (n := 10) (by decide +kernel) (by assumption) (by exact ix_of (ang_ix i) (by omega) (by omega)) ?_
  refine z_ist3 (n := 11) (by decide +kernel) rfl ?_
  refine z_ild3 (n := 12) (by decide +kernel) ?_
  refine z_ild2 (n := 13) (by decide +kernel) ?_
  refine z_icmp_ne (n := 16) (off := 5) (tgt := 18) (by decide +kernel) (fun c13 => ?_) (fun c13 => ?_)
  · refine z_ild1 (n := 19) (by decide +kernel) ?_
    refine z_sipush (n := 22) (q := 180) (v := 180) (by decide +kernel) ?_
    refine z_icmp_lt (n := 25) (off := 5) (tgt := 27) (by decide +kernel) (fun c22 => ?_) (fun c22 => ?_)
    · refine z_ald0 (n := 28) (by decide +kernel) ?_
      refine z_getf (n := 31) (idx := 11) (by decide +kernel) fl_X5_11 (by assumption) (by rfl) ?_
      refine z_ild1 (n := 32) (by decide +kernel) ?_
      refine z_iconst (n := 33) (q := 1) (v := 1) (by decide +kernel) ?_
      refine z_iadd (n := 34) (by decide +kernel) ?_
      refine z_sipush (n := 37) (q := 180) (v := 180) (by decide +kernel) ?_
      refine z_iadd (n := 38) (by decide +kernel) ?_
      refine z_iald (n := 39) (by decide +kernel) (by assumption) (by exact ix_of (j := i + 1) (by rw [ang_1, ang_ix]) (by rw [ang_360] at c22; have := (ang_lt (by omega) (by omega)).mp c22; omega) (by omega)) ?_
      refine z_ist4 (n := 41) (by decide +kernel) rfl ?_
      refine z_ild3 (n := 42) (by decide +kernel) ?_
      refine z_ild2 (n := 43) (by decide +kernel) ?_
      refine z_icmp_ge (n := 46) (off := 9) (tgt := 52) (by decide +kernel) (fun c43 => ?_) (fun c43 => ?_)
      · refine z_ild3 (n := 53) (by decide +kernel) ?_
        refine z_ild2 (n := 54) (by decide +kernel) ?_
        refine z_icmp_le (n := 57) (off := 13) (tgt := 67) (by decide +kernel) (fun c54 => ?_) (fun c54 => ?_)
        · refine z_iconst (n := 68) (q := 0) (v := 0) (by decide +kernel) ?_
          first | refine z_zr1 (by decide +kernel) rfl (Nat.le_refl _) ?_ | refine z_zr0 (by decide +kernel) rfl (Nat.le_refl _) ?_ | refine z_zrb (by decide +kernel) rfl (Nat.le_refl _) ?_
          exact ⟨by unfold rstI; simp only [eq_false c13, eq_true c22, eq_true c43, eq_true c54, decide_true, decide_false, Bool.and_true, Bool.and_false, Bool.true_and, Bool.false_and, Bool.or_true, Bool.or_false, Bool.true_or, Bool.false_or, Bool.not_true, Bool.not_false, if_true, if_false], rfl⟩
        · refine z_ild4 (n := 59) (by decide +kernel) ?_
          refine z_ild2 (n := 60) (by decide +kernel) ?_
          refine z_icmp_ge (n := 63) (off := 7) (tgt := 67) (by decide +kernel) (fun c60 => ?_) (fun c60 => ?_)
          · refine z_iconst (n := 68) (q := 0) (v := 0) (by decide +kernel) ?_
            first | refine z_zr1 (by decide +kernel) rfl (Nat.le_refl _) ?_ | refine z_zr0 (by decide +kernel) rfl (Nat.le_refl _) ?_ | refine z_zrb (by decide +kernel) rfl (Nat.le_refl _) ?_
            exact ⟨by unfold rstI; simp only [eq_false c13, eq_true c22, eq_true c43, eq_false c54, eq_true c60, decide_true, decide_false, Bool.and_true, Bool.and_false, Bool.true_and, Bool.false_and, Bool.or_true, Bool.or_false, Bool.true_or, Bool.false_or, Bool.not_true, Bool.not_false, if_true, if_false], rfl⟩
          · refine z_iconst (n := 64) (q := 1) (v := 1) (by decide +kernel) ?_
            refine z_goto (n := 67) (off := 4) (tgt := 68) (by decide +kernel) ?_
            first | refine z_zr1 (by decide +kernel) rfl (Nat.le_refl _) ?_ | refine z_zr0 (by decide +kernel) rfl (Nat.le_refl _) ?_ | refine z_zrb (by decide +kernel) rfl (Nat.le_refl _) ?_
            exact ⟨by unfold rstI; simp only [eq_false c13, eq_true c22, eq_true c43, eq_false c54, eq_false c60, decide_true, decide_false, Bool.and_true, Bool.and_false, Bool.true_and, Bool.false_and, Bool.or_true, Bool.or_false, Bool.true_or, Bool.false_or, Bool.not_true, Bool.not_false, if_true, if_false], rfl⟩
      · refine z_ild4 (n := 48) (by decide +kernel) ?_
        refine z_ild2 (n := 49) (by decide +kernel) ?_
        refine z_icmp_gt (n := 52) (off := 14) (tgt := 63) (by decide +kernel) (fun c49 => ?_) (fun c49 => ?_)
        · refine z_iconst (n := 64) (q := 1) (v := 1) (by decide +kernel) ?_
          refine z_goto (n := 67) (off := 4) (tgt := 68) (by decide +kernel) ?_
          first | refine z_zr1 (by decide +kernel) rfl (Nat.le_refl _) ?_ | refine z_zr0 (by decide +kernel) rfl (Nat.le_refl _) ?_ | refine z_zrb (by decide +kernel) rfl (Nat.le_refl _) ?_
          exact ⟨by unfold rstI; simp only [eq_false c13, eq_true c22, eq_false c43, eq_true c49, decide_true, decide_false, Bool.and_true, Bool.and_false, Bool.true_and, Bool.false_and, Bool.or_true, Bool.or_false, Bool.true_or, Bool.false_or, Bool.not_true, Bool.not_false, if_true, if_false], rfl⟩
        · refine z_ild3 (n := 53) (by decide +kernel) ?_
          refine z_ild2 (n := 54) (by decide +kernel) ?_
          refine z_icmp_le (n := 57) (off := 13) (tgt := 67) (by decide +kernel) (fun c54 => ?_) (fun c54 => ?_)
          · refine z_iconst (n := 68) (q := 0) (v := 0) (by decide +kernel) ?_
            first | refine z_zr1 (by decide +kernel) rfl (Nat.le_refl _) ?_ | refine z_zr0 (by decide +kernel) rfl (Nat.le_refl _) ?_ | refine z_zrb (by decide +kernel) rfl (Nat.le_refl _) ?_
            exact ⟨by unfold rstI; simp only [eq_false c13, eq_true c22, eq_false c43, eq_false c49, eq_true c54, decide_true, decide_false, Bool.and_true, Bool.and_false, Bool.true_and, Bool.false_and, Bool.or_true, Bool.or_false, Bool.true_or, Bool.false_or, Bool.not_true, Bool.not_false, if_true, if_false], rfl⟩
          · refine z_ild4 (n := 59) (by decide +kernel) ?_
            refine z_ild2 (n := 60) (by decide +kernel) ?_
            refine z_icmp_ge (n := 63) (off := 7) (tgt := 67) (by decide +kernel) (fun c60 => ?_) (fun c60 => ?_)
            · refine z_iconst (n := 68) (q := 0) (v := 0) (by decide +kernel) ?_
              first | refine z_zr1 (by decide +kernel) rfl (Nat.le_refl _) ?_ | refine z_zr0 (by decide +kernel) rfl (Nat.le_refl _) ?_ | refine z_zrb (by decide +kernel) rfl (Nat.le_refl _) ?_
              exact ⟨by unfold rstI; simp only [eq_false c13, eq_true c22, eq_false c43, eq_false c49, eq_false c54, eq_true c60, decide_true, decide_false, Bool.and_true, Bool.and_false, Bool.true_and, Bool.false_and, Bool.or_true, Bool.or_false, Bool.true_or, Bool.false_or, Bool.not_true, Bool.not_false, if_true, if_false], rfl⟩
            · refine z_iconst (n := 64) (q := 1) (v := 1) (by decide +kernel) ?_
              refine z_goto (n := 67) (off := 4) (tgt := 68) (by decide +kernel) ?_
              first | refine z_zr1 (by decide +kernel) rfl (Nat.le_refl _) ?_ | refine z_zr0 (by decide +kernel) rfl (Nat.le_refl _) ?_ | refine z_zrb (by decide +kernel) rfl (Nat.le_refl _) ?_
              exact ⟨by unfold rstI; simp only [eq_false c13, eq_true c22, eq_false c43, eq_false c49, eq_false c54, eq_false c60, decide_true, decide_false, Bool.and_true, Bool.and_false, Bool.true_and, Bool.false_and, Bool.or_true, Bool.or_false, Bool.true_or, Bool.false_or, Bool.not_true, Bool.not_false, if_true, if_false], rfl⟩
    · refine z_iconst (n := 26) (q := 0) (v := 0) (by decide +kernel) ?_
      first | refine z_zr1 (by decide +kernel) rfl (Nat.le_refl _) ?_ | refine z_zr0 (by decide +kernel) rfl (Nat.le_refl _) ?_ | refine z_zrb (by decide +kernel) rfl (Nat.le_refl _) ?_
      exact ⟨by unfold rstI; simp only [eq_false c13, eq_false c22, decide_true, decide_false, Bool.and_true, Bool.and_false, Bool.true_and, Bool.false_and, Bool.or_true, Bool.or_false, Bool.true_or, Bool.false_or, Bool.not_true, Bool.not_false, if_true, if_false], rfl⟩
  · refine z_iconst (n := 17) (q := 1) (v := 1) (by decide +kernel) ?_
    first | refine z_zr1 (by decide +kernel) rfl (Nat.le_refl _) ?_ | refine z_zr0 (by decide +kernel) rfl (Nat.le_refl _) ?_ | refine z_zrb (by decide +kernel) rfl (Nat.le_refl _) ?_
    exact ⟨by unfold rstI; simp only [eq_true c13, decide_true, decide_false, Bool.and_true, Bool.and_false, Bool.true_and, Bool.false_and, Bool.or_true, Bool.or_false, Bool.true_or, Bool.false_or, Bool.not_true, Bool.not_false, if_true, if_false], rfl⟩
theorem k_restsAndStays {G : mG} {h : mH} {H i : Nat} {an sn fp p : Int32} {T : Nat → Int32} (d : Nat) (hd : 1 ≤ d) (hH : h H = oSha H an sn fp) (hT : h (H + 1) = aI 361 T) (hi : i ≤ 360) : EV G m_X5_restsAndStays d 0 0 [.ref H, .int (ang i), .int p] h (RE (some (.int (bI (styI T i p)))) h) := by
  have dn : ¬ ang i ≤ -180 → ang i - 1 + 180 = nI (i - 1) ∧ i - 1 < 361 := by
    intro c
    rw [ang_0] at c
    have h1 : ¬ i ≤ 0 := fun q => c ((ang_le (by omega) (by omega)).mpr q)
    obtain ⟨j, rfl⟩ : ∃ j, i = j + 1 := ⟨i - 1, by omega⟩
    rw [ang_m, ang_ix]
    exact ⟨rfl, by omega⟩
  refine ev_3_0 rfl rfl rfl (by decide +kernel) (by decide +kernel) ?_
  refine z_ald0 (n := 1) (by decide +kernel) ?_
  refine z_ild1 (n := 2) (by decide +kernel) ?_
  refine z_ild2 (n := 3) (by decide +kernel) ?_
  refine z_v2 (n := 6) (idx := 21) (by decide +kernel) ml_X5_21 (by assumption) rfl (Nat.le_of_ble_eq_true rfl) (by omega) ⟨Nat.le_refl _, Nat.le_refl _⟩ (k_isResting 0 hH hT hi) ?_
  refine z_ifb_eq (n := 9) (off := 53) (tgt := 59) (by decide +kernel) (fun c6 => ?_) (fun c6 => ?_)
  · refine z_iconst (n := 60) (q := 0) (v := 0) (by decide +kernel) ?_
    first | refine z_zr1 (by decide +kernel) rfl (Nat.le_refl _) ?_ | refine z_zr0 (by decide +kernel) rfl (Nat.le_refl _) ?_ | refine z_zrb (by decide +kernel) rfl (Nat.le_refl _) ?_
    exact ⟨by unfold styI; simp only [c6, decide_true, decide_false, Bool.and_true, Bool.and_false, Bool.true_and, Bool.false_and, Bool.or_true, Bool.or_false, Bool.true_or, Bool.false_or, Bool.not_true, Bool.not_false, if_true, if_false], rfl⟩
  · refine z_ild1 (n := 10) (by decide +kernel) ?_
    refine z_sipush (n := 13) (q := 180) (v := 180) (by decide +kernel) ?_
    refine z_icmp_ge (n := 16) (off := 19) (tgt := 32) (by decide +kernel) (fun c13 => ?_) (fun c13 => ?_)
    · refine z_ild1 (n := 33) (by decide +kernel) ?_
      refine z_sipush (n := 36) (q := -180) (v := -180) (by decide +kernel) ?_
      refine z_icmp_le (n := 39) (off := 19) (tgt := 55) (by decide +kernel) (fun c36 => ?_) (fun c36 => ?_)
      · refine z_iconst (n := 56) (q := 1) (v := 1) (by decide +kernel) ?_
        refine z_goto (n := 59) (off := 4) (tgt := 60) (by decide +kernel) ?_
        first | refine z_zr1 (by decide +kernel) rfl (Nat.le_refl _) ?_ | refine z_zr0 (by decide +kernel) rfl (Nat.le_refl _) ?_ | refine z_zrb (by decide +kernel) rfl (Nat.le_refl _) ?_
        exact ⟨by unfold styI; simp only [c6, eq_true c13, eq_true c36, decide_true, decide_false, Bool.and_true, Bool.and_false, Bool.true_and, Bool.false_and, Bool.or_true, Bool.or_false, Bool.true_or, Bool.false_or, Bool.not_true, Bool.not_false, if_true, if_false], rfl⟩
      · refine z_ald0 (n := 40) (by decide +kernel) ?_
        refine z_getf (n := 43) (idx := 11) (by decide +kernel) fl_X5_11 (by assumption) (by rfl) ?_
        refine z_ild1 (n := 44) (by decide +kernel) ?_
        refine z_iconst (n := 45) (q := 1) (v := 1) (by decide +kernel) ?_
        refine z_isub (n := 46) (by decide +kernel) ?_
        refine z_sipush (n := 49) (q := 180) (v := 180) (by decide +kernel) ?_
        refine z_iadd (n := 50) (by decide +kernel) ?_
        refine z_iald (n := 51) (by decide +kernel) (by assumption) (by exact ix_of (j := i - 1) (dn c36).1 (dn c36).2 (by omega)) ?_
        refine z_ild2 (n := 52) (by decide +kernel) ?_
        refine z_icmp_ge (n := 55) (off := 7) (tgt := 59) (by decide +kernel) (fun c52 => ?_) (fun c52 => ?_)
        · refine z_iconst (n := 60) (q := 0) (v := 0) (by decide +kernel) ?_
          first | refine z_zr1 (by decide +kernel) rfl (Nat.le_refl _) ?_ | refine z_zr0 (by decide +kernel) rfl (Nat.le_refl _) ?_ | refine z_zrb (by decide +kernel) rfl (Nat.le_refl _) ?_
          exact ⟨by unfold styI; simp only [c6, eq_true c13, eq_false c36, eq_true c52, decide_true, decide_false, Bool.and_true, Bool.and_false, Bool.true_and, Bool.false_and, Bool.or_true, Bool.or_false, Bool.true_or, Bool.false_or, Bool.not_true, Bool.not_false, if_true, if_false], rfl⟩
        · refine z_iconst (n := 56) (q := 1) (v := 1) (by decide +kernel) ?_
          refine z_goto (n := 59) (off := 4) (tgt := 60) (by decide +kernel) ?_
          first | refine z_zr1 (by decide +kernel) rfl (Nat.le_refl _) ?_ | refine z_zr0 (by decide +kernel) rfl (Nat.le_refl _) ?_ | refine z_zrb (by decide +kernel) rfl (Nat.le_refl _) ?_
          exact ⟨by unfold styI; simp only [c6, eq_true c13, eq_false c36, eq_false c52, decide_true, decide_false, Bool.and_true, Bool.and_false, Bool.true_and, Bool.false_and, Bool.or_true, Bool.or_false, Bool.true_or, Bool.false_or, Bool.not_true, Bool.not_false, if_true, if_false], rfl⟩
    · refine z_ald0 (n := 17) (by decide +kernel) ?_
      refine z_getf (n := 20) (idx := 11) (by decide +kernel) fl_X5_11 (by assumption) (by rfl) ?_
      refine z_ild1 (n := 21) (by decide +kernel) ?_
      refine z_iconst (n := 22) (q := 1) (v := 1) (by decide +kernel) ?_
      refine z_iadd (n := 23) (by decide +kernel) ?_
      refine z_sipush (n := 26) (q := 180) (v := 180) (by decide +kernel) ?_
      refine z_iadd (n := 27) (by decide +kernel) ?_
      refine z_iald (n := 28) (by decide +kernel) (by assumption) (by exact ix_of (j := i + 1) (by rw [ang_1, ang_ix]) (by rw [ang_360] at c13; have : ¬ 360 ≤ i := fun q => c13 ((ang_le (by omega) (by omega)).mpr q); omega) (by omega)) ?_
      refine z_ild2 (n := 29) (by decide +kernel) ?_
      refine z_icmp_le (n := 32) (off := 30) (tgt := 59) (by decide +kernel) (fun c29 => ?_) (fun c29 => ?_)
      · refine z_iconst (n := 60) (q := 0) (v := 0) (by decide +kernel) ?_
        first | refine z_zr1 (by decide +kernel) rfl (Nat.le_refl _) ?_ | refine z_zr0 (by decide +kernel) rfl (Nat.le_refl _) ?_ | refine z_zrb (by decide +kernel) rfl (Nat.le_refl _) ?_
        exact ⟨by unfold styI; simp only [c6, eq_false c13, eq_true c29, decide_true, decide_false, Bool.and_true, Bool.and_false, Bool.true_and, Bool.false_and, Bool.or_true, Bool.or_false, Bool.true_or, Bool.false_or, Bool.not_true, Bool.not_false, if_true, if_false], rfl⟩
      · refine z_ild1 (n := 33) (by decide +kernel) ?_
        refine z_sipush (n := 36) (q := -180) (v := -180) (by decide +kernel) ?_
        refine z_icmp_le (n := 39) (off := 19) (tgt := 55) (by decide +kernel) (fun c36 => ?_) (fun c36 => ?_)
        · refine z_iconst (n := 56) (q := 1) (v := 1) (by decide +kernel) ?_
          refine z_goto (n := 59) (off := 4) (tgt := 60) (by decide +kernel) ?_
          first | refine z_zr1 (by decide +kernel) rfl (Nat.le_refl _) ?_ | refine z_zr0 (by decide +kernel) rfl (Nat.le_refl _) ?_ | refine z_zrb (by decide +kernel) rfl (Nat.le_refl _) ?_
          exact ⟨by unfold styI; simp only [c6, eq_false c13, eq_false c29, eq_true c36, decide_true, decide_false, Bool.and_true, Bool.and_false, Bool.true_and, Bool.false_and, Bool.or_true, Bool.or_false, Bool.true_or, Bool.false_or, Bool.not_true, Bool.not_false, if_true, if_false], rfl⟩
        · refine z_ald0 (n := 40) (by decide +kernel) ?_
          refine z_getf (n := 43) (idx := 11) (by decide +kernel) fl_X5_11 (by assumption) (by rfl) ?_
          refine z_ild1 (n := 44) (by decide +kernel) ?_
          refine z_iconst (n := 45) (q := 1) (v := 1) (by decide +kernel) ?_
          refine z_isub (n := 46) (by decide +kernel) ?_
          refine z_sipush (n := 49) (q := 180) (v := 180) (by decide +kernel) ?_
          refine z_iadd (n := 50) (by decide +kernel) ?_
          refine z_iald (n := 51) (by decide +kernel) (by assumption) (by exact ix_of (j := i - 1) (dn c36).1 (dn c36).2 (by omega)) ?_
          refine z_ild2 (n := 52) (by decide +kernel) ?_
          refine z_icmp_ge (n := 55) (off := 7) (tgt := 59) (by decide +kernel) (fun c52 => ?_) (fun c52 => ?_)
          · refine z_iconst (n := 60) (q := 0) (v := 0) (by decide +kernel) ?_
            first | refine z_zr1 (by decide +kernel) rfl (Nat.le_refl _) ?_ | refine z_zr0 (by decide +kernel) rfl (Nat.le_refl _) ?_ | refine z_zrb (by decide +kernel) rfl (Nat.le_refl _) ?_
            exact ⟨by unfold styI; simp only [c6, eq_false c13, eq_false c29, eq_false c36, eq_true c52, decide_true, decide_false, Bool.and_true, Bool.and_false, Bool.true_and, Bool.false_and, Bool.or_true, Bool.or_false, Bool.true_or, Bool.false_or, Bool.not_true, Bool.not_false, if_true, if_false], rfl⟩
          · refine z_iconst (n := 56) (q := 1) (v := 1) (by decide +kernel) ?_
            refine z_goto (n := 59) (off := 4) (tgt := 60) (by decide +kernel) ?_
            first | refine z_zr1 (by decide +kernel) rfl (Nat.le_refl _) ?_ | refine z_zr0 (by decide +kernel) rfl (Nat.le_refl _) ?_ | refine z_zrb (by decide +kernel) rfl (Nat.le_refl _) ?_
            exact ⟨by unfold styI; simp only [c6, eq_false c13, eq_false c29, eq_false c36, eq_false c52, decide_true, decide_false, Bool.and_true, Bool.and_false, Bool.true_and, Bool.false_and, Bool.or_true, Bool.or_false, Bool.true_or, Bool.false_or, Bool.not_true, Bool.not_false, if_true, if_false], rfl⟩
theorem k_countResting {G : mG} {h : mH} {H : Nat} {an sn fp p : Int32} {T : Nat → Int32} (d : Nat) (hd : 1 ≤ d) (hH : h H = oSha H an sn fp) (hT : h (H + 1) = aI 361 T) : EV G m_X5_countResting d 0 0 [.ref H, .int p] h (RE (some (.int (nI (cnb (fun i => rstI T i p) 361)))) h) := by
  refine ev_2_2 rfl rfl (by decide +kernel) (by decide +kernel) ?_
  refine z_iconst (n := 1) (q := 0) (v := 0) (by decide +kernel) ?_
  refine z_ist2 (n := 2) (by decide +kernel) rfl ?_
  refine z_sipush (n := 5) (q := -180) (v := -180) (by decide +kernel) ?_
  refine z_ist3 (n := 6) (by decide +kernel) rfl ?_
  refine loopZ (k := 361) (fun u => Z G m_X5_countResting d 0 0 0 0 6 [some (.ref H), some (.int p), some (.int (nI (cnb (fun i => rstI T i p) u))), some (.int (ang u))] [] h (RE (some (.int (nI (cnb (fun i => rstI T i p) 361)))) h)) ?_ ?_ 0 (by omega)
  · refine z_ild3 (n := 7) (by decide +kernel) ?_
    refine z_sipush (n := 10) (q := 180) (v := 180) (by decide +kernel) ?_
    refine z_icmp_gt_t (n := 13) (off := 21) (tgt := 31) (by decide +kernel) (by decide) ?_
    refine z_ild2 (n := 32) (by decide +kernel) ?_
    refine z_iret (by decide +kernel) rfl (Nat.le_refl _) ?_
    exact ⟨rfl, rfl⟩
  · intro u ul ih
    refine z_ild3 (n := 7) (by decide +kernel) ?_
    refine z_sipush (n := 10) (q := 180) (v := 180) (by decide +kernel) ?_
    refine z_icmp_gt_f (n := 13) (off := 21) (tgt := 31) (by decide +kernel) (by rw [ang_360]; exact fun q => absurd ((ang_lt (by omega) (by omega)).mp q) (by omega)) ?_
    refine z_ald0 (n := 14) (by decide +kernel) ?_
    refine z_ild3 (n := 15) (by decide +kernel) ?_
    refine z_ild1 (n := 16) (by decide +kernel) ?_
    refine z_v2 (n := 19) (idx := 21) (by decide +kernel) ml_X5_21 (by assumption) rfl (Nat.le_of_ble_eq_true rfl) (by omega) ⟨Nat.le_refl _, Nat.le_refl _⟩ (k_isResting 0 hH hT (by omega)) ?_
    refine z_ifb_eq (n := 22) (off := 6) (tgt := 25) (by decide +kernel) (fun c19 => ?_) (fun c19 => ?_)
    · refine z_inc3 (n := 28) (q := 1) (by decide +kernel) rfl (ang_1 _) ?_
      refine z_goto (n := 31) (off := -22) (tgt := 6) (by decide +kernel) ?_
      first | exact cnb_f (b := fun i => rstI T i p) c19 ▸ ih | exact cnb_t (b := fun i => rstI T i p) c19 ▸ ih
    · refine z_inc2 (n := 25) (q := 1) (by decide +kernel) rfl (nI_1 _) ?_
      refine z_inc3 (n := 28) (q := 1) (by decide +kernel) rfl (ang_1 _) ?_
      refine z_goto (n := 31) (off := -22) (tgt := 6) (by decide +kernel) ?_
      first | exact cnb_f (b := fun i => rstI T i p) c19 ▸ ih | exact cnb_t (b := fun i => rstI T i p) c19 ▸ ih
def rsaF (T : Nat → Int32) (p j : Int32) (r u : Nat) : Nat := fsT (fun i => rstI T i p && decide (nI (cnb (fun i => rstI T i p) i) = j)) r u
theorem k_restingAngle {G : mG} {h : mH} {H : Nat} {an sn fp p j : Int32} {T : Nat → Int32} (d : Nat) (hd : 1 ≤ d) (hH : h H = oSha H an sn fp) (hT : h (H + 1) = aI 361 T) : EV G m_X5_restingAngle d 0 0 [.ref H, .int p, .int j] h (RE (some (.int (if rsaF T p j 361 0 < 361 then ang (rsaF T p j 361 0) else -1000))) h) := by
  refine ev_3_2 rfl rfl rfl (by decide +kernel) (by decide +kernel) ?_
  refine z_iconst (n := 1) (q := 0) (v := 0) (by decide +kernel) ?_
  refine z_ist3 (n := 2) (by decide +kernel) rfl ?_
  refine z_sipush (n := 5) (q := -180) (v := -180) (by decide +kernel) ?_
  refine z_ist4 (n := 7) (by decide +kernel) rfl ?_
  have key := loopZ (k := 361) (fun u => Z G m_X5_restingAngle d 0 0 0 0 7 [some (.ref H), some (.int p), some (.int j), some (.int (nI (cnb (fun i => rstI T i p) u))), some (.int (ang u))] [] h (RE (some (.int (if rsaF T p j (361 - u) u < 361 then ang (rsaF T p j (361 - u) u) else -1000))) h)) ?_ ?_ 0 (by omega)
  · exact key
  · refine z_ild4 (n := 9) (by decide +kernel) ?_
    refine z_sipush (n := 12) (q := 180) (v := 180) (by decide +kernel) ?_
    refine z_icmp_gt_t (n := 15) (off := 30) (tgt := 42) (by decide +kernel) (by decide) ?_
    refine z_sipush (n := 45) (q := -1000) (v := -1000) (by decide +kernel) ?_
    refine z_iret (by decide +kernel) rfl (Nat.le_refl _) ?_
    exact ⟨by simp [rsaF, fsT], rfl⟩
  · intro u ul ih
    have e : 361 - u = (361 - (u + 1)) + 1 := by omega
    rw [e]
    refine z_ild4 (n := 9) (by decide +kernel) ?_
    refine z_sipush (n := 12) (q := 180) (v := 180) (by decide +kernel) ?_
    refine z_icmp_gt_f (n := 15) (off := 30) (tgt := 42) (by decide +kernel) (by rw [ang_360]; exact fun q => absurd ((ang_lt (by omega) (by omega)).mp q) (by omega)) ?_
    refine z_ald0 (n := 16) (by decide +kernel) ?_
    refine z_ild4 (n := 18) (by decide +kernel) ?_
    refine z_ild1 (n := 19) (by decide +kernel) ?_
    refine z_v2 (n := 22) (idx := 21) (by decide +kernel) ml_X5_21 (by assumption) rfl (Nat.le_of_ble_eq_true rfl) (by omega) ⟨Nat.le_refl _, Nat.le_refl _⟩ (k_isResting 0 hH hT (by omega)) ?_
    refine z_ifb_eq (n := 25) (off := 14) (tgt := 36) (by decide +kernel) (fun c22 => ?_) (fun c22 => ?_)
    · refine z_inc4 (n := 39) (q := 1) (by decide +kernel) rfl (ang_1 _) ?_
      refine z_goto (n := 42) (off := -32) (tgt := 7) (by decide +kernel) ?_
      unfold rsaF; rw [fsT_f (by simp only [c22, decide_true, decide_false, Bool.and_true, Bool.and_false, Bool.true_and, Bool.false_and, Bool.or_true, Bool.or_false, Bool.true_or, Bool.false_or, Bool.not_true, Bool.not_false, if_true, if_false])]; first | exact cnb_f (b := fun i => rstI T i p) c22 ▸ ih | exact cnb_t (b := fun i => rstI T i p) c22 ▸ ih
    · refine z_ild3 (n := 26) (by decide +kernel) ?_
      refine z_ild2 (n := 27) (by decide +kernel) ?_
      refine z_icmp_ne (n := 30) (off := 6) (tgt := 33) (by decide +kernel) (fun c27 => ?_) (fun c27 => ?_)
      · refine z_inc3 (n := 36) (q := 1) (by decide +kernel) rfl (nI_1 _) ?_
        refine z_inc4 (n := 39) (q := 1) (by decide +kernel) rfl (ang_1 _) ?_
        refine z_goto (n := 42) (off := -32) (tgt := 7) (by decide +kernel) ?_
        unfold rsaF; rw [fsT_f (by simp only [c22, eq_false c27, decide_true, decide_false, Bool.and_true, Bool.and_false, Bool.true_and, Bool.false_and, Bool.or_true, Bool.or_false, Bool.true_or, Bool.false_or, Bool.not_true, Bool.not_false, if_true, if_false])]; first | exact cnb_f (b := fun i => rstI T i p) c22 ▸ ih | exact cnb_t (b := fun i => rstI T i p) c22 ▸ ih
      · refine z_ild4 (n := 32) (by decide +kernel) ?_
        refine z_iret (by decide +kernel) rfl (Nat.le_refl _) ?_
        exact ⟨by unfold rsaF; rw [fsT_t (by simp only [c22, eq_true c27, decide_true, decide_false, Bool.and_true, Bool.and_false, Bool.true_and, Bool.false_and, Bool.or_true, Bool.or_false, Bool.true_or, Bool.false_or, Bool.not_true, Bool.not_false, if_true, if_false]), if_pos ul], rfl⟩
end
section
/-! Shapes: the nearest, snaps; Sheets and Seen: copies -/
def nrO (s : Nat → Bool) (i : Nat) : Nat → Nat → Option Nat
  | 0, _ => none
  | r + 1, w => if w ≤ i ∧ s (i - w) = true then some (i - w) else if i + w ≤ 360 ∧ s (i + w) = true then some (i + w) else nrO s i r (w + 1)
def toA (o : Option Nat) : Int32 := match o with
  | none => -1000
  | some j => ang j
theorem nrO_le {s : Nat → Bool} {i j : Nat} (hi : i ≤ 360) : ∀ (r w : Nat), nrO s i r w = some j → j ≤ 360
  | 0, w, h => by simp [nrO] at h
  | r + 1, w, h => by
    unfold nrO at h
    split at h
    · cases h; omega
    · split at h
      · rename_i c; cases h; exact c.1
      · exact nrO_le hi r (w + 1) h
theorem ang_add (i w : Nat) : ang i + nI w = ang (i + w) := by
  unfold ang
  rw [← nI_add, Int32.sub_eq_add_neg, Int32.sub_eq_add_neg, Int32.add_assoc, Int32.add_assoc, Int32.add_comm (-180) (nI w)]
theorem ang_sub {i w : Nat} (h : w ≤ i) : ang i - nI w = ang (i - w) := by
  have := ang_add (i - w) w
  rw [show i - w + w = i by omega] at this
  rw [← this]
  exact Int32.add_sub_cancel _ _
theorem ang_subI {i w : Nat} (hi : i ≤ 1000) (hw : w ≤ 1000) : (ang i - nI w).toInt = (i : Int) - 180 - w := by
  have e : ang i - nI w = nI i - nI (180 + w) := by
    unfold ang
    rw [← nI_add, ← n_180, Int32.sub_eq_add_neg, Int32.sub_eq_add_neg, Int32.sub_eq_add_neg, Int32.neg_add, Int32.add_assoc, Int32.sub_eq_add_neg]
  rw [e, pk_sub_toInt (by omega) (by omega)]
  omega
theorem ang_gone {j : Nat} (h : j ≤ 360) : ¬ ang j = -1000 := by
  intro q
  have := congrArg Int32.toInt q
  rw [ang_I (by omega)] at this
  have e : (-1000 : Int32).toInt = -1000 := by decide
  omega
theorem k_nearest {G : mG} {h : mH} {H i : Nat} {sn fp p : Int32} {T : Nat → Int32} (d : Nat) (hd : 2 ≤ d) (hH : h H = oSha H (ang i) sn fp) (hT : h (H + 1) = aI 361 T) (hi : i ≤ 360) : EV G m_X5_nearestThatStays d 0 0 [.ref H, .int p] h (RE (some (.int (toA (nrO (fun j => styI T j p) i 360 1)))) h) := by
  refine ev_2_3 rfl rfl (by decide +kernel) (by decide +kernel) ?_
  refine z_iconst (n := 1) (q := 1) (v := 1) (by decide +kernel) ?_
  refine z_ist2 (n := 2) (by decide +kernel) rfl ?_
  have key := loopZ (k := 360) (fun u => Z G m_X5_nearestThatStays d 0 0 0 0 2 [some (.ref H), some (.int p), some (.int (nI (u + 1))), none, none] [] h (RE (some (.int (toA (nrO (fun j => styI T j p) i (360 - u) (u + 1))))) h)) ?_ ?_ 0 (by omega)
  · exact key
  · refine z_ild2 (n := 3) (by decide +kernel) ?_
    refine z_sipush (n := 6) (q := 360) (v := 360) (by decide +kernel) ?_
    refine z_icmp_gt_t (n := 9) (off := 63) (tgt := 69) (by decide +kernel) (by decide) ?_
    refine z_sipush (n := 72) (q := -1000) (v := -1000) (by decide +kernel) ?_
    refine z_iret (by decide +kernel) rfl (Nat.le_refl _) ?_
    exact ⟨by rfl, rfl⟩
  · intro u ul ih
    have e : 360 - u = (360 - (u + 1)) + 1 := by omega
    rw [e]
    have hi2 : ∀ q : Nat, q ≤ 1000 → ang i + nI q = ang (i + q) := fun q _ => ang_add i q
    by_cases hw : u + 1 ≤ i
    · by_cases hv : i + (u + 1) ≤ 360
      · refine z_ild2 (n := 3) (by decide +kernel) ?_
        refine z_sipush (n := 6) (q := 360) (v := 360) (by decide +kernel) ?_
        refine z_icmp_gt_f (n := 9) (off := 63) (tgt := 69) (by decide +kernel) (nI_nlt (a := 360) (by omega) (by omega)) ?_
        refine z_ald0 (n := 10) (by decide +kernel) ?_
        refine z_getf (n := 13) (idx := 25) (by decide +kernel) fl_X5_25 (by assumption) (by rfl) ?_
        refine z_ild2 (n := 14) (by decide +kernel) ?_
        refine z_isub (n := 15) (by decide +kernel) ?_
        refine z_top (ang_sub hw) ?_
        refine z_ist3 (n := 16) (by decide +kernel) rfl ?_
        refine z_ild3 (n := 17) (by decide +kernel) ?_
        refine z_sipush (n := 20) (q := -180) (v := -180) (by decide +kernel) ?_
        refine z_icmp_lt_f (n := 23) (off := 14) (tgt := 34) (by decide +kernel) (by rw [ang_0]; exact fun q => absurd ((ang_lt (by omega) (by omega)).mp q) (by omega)) ?_
        refine z_ald0 (n := 24) (by decide +kernel) ?_
        refine z_ild3 (n := 25) (by decide +kernel) ?_
        refine z_ild1 (n := 26) (by decide +kernel) ?_
        refine z_v2 (n := 29) (idx := 49) (by decide +kernel) ml_X5_49 (by assumption) rfl (Nat.le_of_ble_eq_true rfl) (by omega) ⟨Nat.le_refl _, Nat.le_refl _⟩ (k_restsAndStays 1 (by omega) hH hT (by omega)) ?_
        refine z_ifb_eq (n := 32) (off := 5) (tgt := 34) (by decide +kernel) (fun c29 => ?_) (fun c29 => ?_)
        · refine z_ald0 (n := 35) (by decide +kernel) ?_
          refine z_getf (n := 38) (idx := 25) (by decide +kernel) fl_X5_25 (by assumption) (by rfl) ?_
          refine z_ild2 (n := 39) (by decide +kernel) ?_
          refine z_iadd (n := 40) (by decide +kernel) ?_
          refine z_top (ang_add i (u + 1)) ?_
          refine z_ist4 (n := 42) (by decide +kernel) rfl ?_
          refine z_ild4 (n := 44) (by decide +kernel) ?_
          refine z_sipush (n := 47) (q := 180) (v := 180) (by decide +kernel) ?_
          refine z_icmp_gt_f (n := 50) (off := 16) (tgt := 63) (by decide +kernel) (by rw [ang_360]; exact fun q => absurd ((ang_lt (by omega) (by omega)).mp q) (by omega)) ?_
          refine z_ald0 (n := 51) (by decide +kernel) ?_
          refine z_ild4 (n := 53) (by decide +kernel) ?_
          refine z_ild1 (n := 54) (by decide +kernel) ?_
          refine z_v2 (n := 57) (idx := 49) (by decide +kernel) ml_X5_49 (by assumption) rfl (Nat.le_of_ble_eq_true rfl) (by omega) ⟨Nat.le_refl _, Nat.le_refl _⟩ (k_restsAndStays 1 (by omega) hH hT (by omega)) ?_
          refine z_ifb_eq (n := 60) (off := 6) (tgt := 63) (by decide +kernel) (fun c57 => ?_) (fun c57 => ?_)
          · refine z_inc2 (n := 66) (q := 1) (by decide +kernel) rfl (nI_1 _) ?_
            refine z_goto (n := 69) (off := -64) (tgt := 2) (by decide +kernel) ?_
            exact z_wk (lv' := [some (.ref H), some (.int p), some (.int (nI (u + 1 + 1))), none, none]) (by simp [wk]) (by simpa only [nrO, c29, c57, hw, hv, and_false, and_true, if_false, Bool.false_eq_true] using ih)
          · refine z_ild4 (n := 62) (by decide +kernel) ?_
            refine z_iret (by decide +kernel) rfl (Nat.le_refl _) ?_
            exact ⟨by first | (simp only [nrO, c29, c57, hw, hv]; simp [toA]; done) | simp [nrO, c29, c57, hw, hv, toA], rfl⟩
        · refine z_ild3 (n := 33) (by decide +kernel) ?_
          refine z_iret (by decide +kernel) rfl (Nat.le_refl _) ?_
          exact ⟨by first | (simp only [nrO, c29, hw, hv]; simp [toA]; done) | simp [nrO, c29, hw, hv, toA], rfl⟩
      · refine z_ild2 (n := 3) (by decide +kernel) ?_
        refine z_sipush (n := 6) (q := 360) (v := 360) (by decide +kernel) ?_
        refine z_icmp_gt_f (n := 9) (off := 63) (tgt := 69) (by decide +kernel) (nI_nlt (a := 360) (by omega) (by omega)) ?_
        refine z_ald0 (n := 10) (by decide +kernel) ?_
        refine z_getf (n := 13) (idx := 25) (by decide +kernel) fl_X5_25 (by assumption) (by rfl) ?_
        refine z_ild2 (n := 14) (by decide +kernel) ?_
        refine z_isub (n := 15) (by decide +kernel) ?_
        refine z_top (ang_sub hw) ?_
        refine z_ist3 (n := 16) (by decide +kernel) rfl ?_
        refine z_ild3 (n := 17) (by decide +kernel) ?_
        refine z_sipush (n := 20) (q := -180) (v := -180) (by decide +kernel) ?_
        refine z_icmp_lt_f (n := 23) (off := 14) (tgt := 34) (by decide +kernel) (by rw [ang_0]; exact fun q => absurd ((ang_lt (by omega) (by omega)).mp q) (by omega)) ?_
        refine z_ald0 (n := 24) (by decide +kernel) ?_
        refine z_ild3 (n := 25) (by decide +kernel) ?_
        refine z_ild1 (n := 26) (by decide +kernel) ?_
        refine z_v2 (n := 29) (idx := 49) (by decide +kernel) ml_X5_49 (by assumption) rfl (Nat.le_of_ble_eq_true rfl) (by omega) ⟨Nat.le_refl _, Nat.le_refl _⟩ (k_restsAndStays 1 (by omega) hH hT (by omega)) ?_
        refine z_ifb_eq (n := 32) (off := 5) (tgt := 34) (by decide +kernel) (fun c29 => ?_) (fun c29 => ?_)
        · refine z_ald0 (n := 35) (by decide +kernel) ?_
          refine z_getf (n := 38) (idx := 25) (by decide +kernel) fl_X5_25 (by assumption) (by rfl) ?_
          refine z_ild2 (n := 39) (by decide +kernel) ?_
          refine z_iadd (n := 40) (by decide +kernel) ?_
          refine z_top (ang_add i (u + 1)) ?_
          refine z_ist4 (n := 42) (by decide +kernel) rfl ?_
          refine z_ild4 (n := 44) (by decide +kernel) ?_
          refine z_sipush (n := 47) (q := 180) (v := 180) (by decide +kernel) ?_
          refine z_icmp_gt_t (n := 50) (off := 16) (tgt := 63) (by decide +kernel) (by rw [ang_360]; exact (ang_lt (by omega) (by omega)).mpr (by omega)) ?_
          refine z_inc2 (n := 66) (q := 1) (by decide +kernel) rfl (nI_1 _) ?_
          refine z_goto (n := 69) (off := -64) (tgt := 2) (by decide +kernel) ?_
          exact z_wk (lv' := [some (.ref H), some (.int p), some (.int (nI (u + 1 + 1))), none, none]) (by simp [wk]) (by simpa only [nrO, c29, hw, hv, and_false, and_true, false_and, if_false, Bool.false_eq_true] using ih)
        · refine z_ild3 (n := 33) (by decide +kernel) ?_
          refine z_iret (by decide +kernel) rfl (Nat.le_refl _) ?_
          exact ⟨by simp [nrO, c29, hw, hv, toA], rfl⟩
    · have lo : ang i - nI (u + 1) < -180 := by
        rw [Int32.lt_iff_toInt_lt, ang_subI (by omega) (by omega), show (-180 : Int32).toInt = -180 by decide]
        omega
      by_cases hv : i + (u + 1) ≤ 360
      · refine z_ild2 (n := 3) (by decide +kernel) ?_
        refine z_sipush (n := 6) (q := 360) (v := 360) (by decide +kernel) ?_
        refine z_icmp_gt_f (n := 9) (off := 63) (tgt := 69) (by decide +kernel) (nI_nlt (a := 360) (by omega) (by omega)) ?_
        refine z_ald0 (n := 10) (by decide +kernel) ?_
        refine z_getf (n := 13) (idx := 25) (by decide +kernel) fl_X5_25 (by assumption) (by rfl) ?_
        refine z_ild2 (n := 14) (by decide +kernel) ?_
        refine z_isub (n := 15) (by decide +kernel) ?_
        refine z_ist3 (n := 16) (by decide +kernel) rfl ?_
        refine z_ild3 (n := 17) (by decide +kernel) ?_
        refine z_sipush (n := 20) (q := -180) (v := -180) (by decide +kernel) ?_
        refine z_icmp_lt_t (n := 23) (off := 14) (tgt := 34) (by decide +kernel) (lo) ?_
        refine z_ald0 (n := 35) (by decide +kernel) ?_
        refine z_getf (n := 38) (idx := 25) (by decide +kernel) fl_X5_25 (by assumption) (by rfl) ?_
        refine z_ild2 (n := 39) (by decide +kernel) ?_
        refine z_iadd (n := 40) (by decide +kernel) ?_
        refine z_top (ang_add i (u + 1)) ?_
        refine z_ist4 (n := 42) (by decide +kernel) rfl ?_
        refine z_ild4 (n := 44) (by decide +kernel) ?_
        refine z_sipush (n := 47) (q := 180) (v := 180) (by decide +kernel) ?_
        refine z_icmp_gt_f (n := 50) (off := 16) (tgt := 63) (by decide +kernel) (by rw [ang_360]; exact fun q => absurd ((ang_lt (by omega) (by omega)).mp q) (by omega)) ?_
        refine z_ald0 (n := 51) (by decide +kernel) ?_
        refine z_ild4 (n := 53) (by decide +kernel) ?_
        refine z_ild1 (n := 54) (by decide +kernel) ?_
        refine z_v2 (n := 57) (idx := 49) (by decide +kernel) ml_X5_49 (by assumption) rfl (Nat.le_of_ble_eq_true rfl) (by omega) ⟨Nat.le_refl _, Nat.le_refl _⟩ (k_restsAndStays 1 (by omega) hH hT (by omega)) ?_
        refine z_ifb_eq (n := 60) (off := 6) (tgt := 63) (by decide +kernel) (fun c57 => ?_) (fun c57 => ?_)
        · refine z_inc2 (n := 66) (q := 1) (by decide +kernel) rfl (nI_1 _) ?_
          refine z_goto (n := 69) (off := -64) (tgt := 2) (by decide +kernel) ?_
          exact z_wk (lv' := [some (.ref H), some (.int p), some (.int (nI (u + 1 + 1))), none, none]) (by simp [wk]) (by simpa only [nrO, c57, hw, hv, and_false, and_true, false_and, if_false, Bool.false_eq_true] using ih)
        · refine z_ild4 (n := 62) (by decide +kernel) ?_
          refine z_iret (by decide +kernel) rfl (Nat.le_refl _) ?_
          exact ⟨by simp [nrO, c57, hw, hv, toA], rfl⟩
      · refine z_ild2 (n := 3) (by decide +kernel) ?_
        refine z_sipush (n := 6) (q := 360) (v := 360) (by decide +kernel) ?_
        refine z_icmp_gt_f (n := 9) (off := 63) (tgt := 69) (by decide +kernel) (nI_nlt (a := 360) (by omega) (by omega)) ?_
        refine z_ald0 (n := 10) (by decide +kernel) ?_
        refine z_getf (n := 13) (idx := 25) (by decide +kernel) fl_X5_25 (by assumption) (by rfl) ?_
        refine z_ild2 (n := 14) (by decide +kernel) ?_
        refine z_isub (n := 15) (by decide +kernel) ?_
        refine z_ist3 (n := 16) (by decide +kernel) rfl ?_
        refine z_ild3 (n := 17) (by decide +kernel) ?_
        refine z_sipush (n := 20) (q := -180) (v := -180) (by decide +kernel) ?_
        refine z_icmp_lt_t (n := 23) (off := 14) (tgt := 34) (by decide +kernel) (lo) ?_
        refine z_ald0 (n := 35) (by decide +kernel) ?_
        refine z_getf (n := 38) (idx := 25) (by decide +kernel) fl_X5_25 (by assumption) (by rfl) ?_
        refine z_ild2 (n := 39) (by decide +kernel) ?_
        refine z_iadd (n := 40) (by decide +kernel) ?_
        refine z_top (ang_add i (u + 1)) ?_
        refine z_ist4 (n := 42) (by decide +kernel) rfl ?_
        refine z_ild4 (n := 44) (by decide +kernel) ?_
        refine z_sipush (n := 47) (q := 180) (v := 180) (by decide +kernel) ?_
        refine z_icmp_gt_t (n := 50) (off := 16) (tgt := 63) (by decide +kernel) (by rw [ang_360]; exact (ang_lt (by omega) (by omega)).mpr (by omega)) ?_
        refine z_inc2 (n := 66) (q := 1) (by decide +kernel) rfl (nI_1 _) ?_
        refine z_goto (n := 69) (off := -64) (tgt := 2) (by decide +kernel) ?_
        exact z_wk (lv' := [some (.ref H), some (.int p), some (.int (nI (u + 1 + 1))), none, none]) (by simp [wk]) (by simpa only [nrO, hw, hv, and_false, and_true, false_and, if_false, Bool.false_eq_true] using ih)
abbrev nT : Type := Option Nat × Int32 × Int32
def ab32 (x : Int32) : Int32 := if 0 ≤ x then x else 0 - x
def folT (T : Nat → Int32) (p : Int32) (i : Nat) (sn fp : Int32) : nT := if styI T i p = true then (some i, sn, fp) else match nrO (fun j => styI T j p) i 360 1 with
  | none => (none, sn, fp)
  | some j => if ab32 (ang j - ang i) ≤ 1 then (some j, sn, fp) else (some j, sn + 1, if sn = 0 then p else fp)
theorem k_followTo {G : mG} {h : mH} {H i : Nat} {sn fp p : Int32} {T : Nat → Int32} (d : Nat) (hd : 3 ≤ d) (hH : h H = oSha H (ang i) sn fp) (hT : h (H + 1) = aI 361 T) (hi : i ≤ 360) : EV G m_X5_followTo d 0 0 [.ref H, .int p] h (RE none (hu h H (oSha H (toA (folT T p i sn fp).1) (folT T p i sn fp).2.1 (folT T p i sn fp).2.2))) := by
  refine ev_2_1 rfl rfl (by decide +kernel) (by decide +kernel) ?_
  by_cases hs : styI T i p = true
  · have e : folT T p i sn fp = (some i, sn, fp) := by rw [folT, if_pos hs]
    rw [e]
    refine z_ald0 (n := 1) (by decide +kernel) ?_
    refine z_ald0 (n := 2) (by decide +kernel) ?_
    refine z_getf (n := 5) (idx := 25) (by decide +kernel) fl_X5_25 (by first | assumption | (simp (disch := omega) only [hu_s, hu_n]; first | assumption | rfl)) (by rfl) ?_
    refine z_ild1 (n := 6) (by decide +kernel) ?_
    refine z_v2 (n := 9) (idx := 49) (by decide +kernel) ml_X5_49 (by first | assumption | (simp (disch := omega) only [hu_s, hu_n]; first | assumption | rfl)) rfl (Nat.le_of_ble_eq_true rfl) (by omega) ⟨Nat.le_refl _, Nat.le_refl _⟩ (k_restsAndStays 1 (by omega) hH hT hi) ?_
    refine z_ifb_eq_f (n := 12) (off := 4) (tgt := 13) (by decide +kernel) (hs) ?_
    refine z_vret (by decide +kernel) rfl (Nat.le_refl _) ?_
    exact ⟨rfl, (hu_self hH).symm⟩
  · have hs' : styI T i p = false := by simpa using hs
    cases ho : nrO (fun j => styI T j p) i 360 1 with
    | none =>
      have e : folT T p i sn fp = (none, sn, fp) := by rw [folT, if_neg hs, ho]
      rw [e]
      refine z_ald0 (n := 1) (by decide +kernel) ?_
      refine z_ald0 (n := 2) (by decide +kernel) ?_
      refine z_getf (n := 5) (idx := 25) (by decide +kernel) fl_X5_25 (by first | assumption | (simp (disch := omega) only [hu_s, hu_n]; first | assumption | rfl)) (by rfl) ?_
      refine z_ild1 (n := 6) (by decide +kernel) ?_
      refine z_v2 (n := 9) (idx := 49) (by decide +kernel) ml_X5_49 (by first | assumption | (simp (disch := omega) only [hu_s, hu_n]; first | assumption | rfl)) rfl (Nat.le_of_ble_eq_true rfl) (by omega) ⟨Nat.le_refl _, Nat.le_refl _⟩ (k_restsAndStays 1 (by omega) hH hT hi) ?_
      refine z_ifb_eq_t (n := 12) (off := 4) (tgt := 13) (by decide +kernel) (hs') ?_
      refine z_ald0 (n := 14) (by decide +kernel) ?_
      refine z_ild1 (n := 15) (by decide +kernel) ?_
      refine z_v1 (n := 18) (idx := 52) (by decide +kernel) ml_X5_52 (by first | assumption | (simp (disch := omega) only [hu_s, hu_n]; first | assumption | rfl)) rfl (Nat.le_of_ble_eq_true rfl) (by omega) ⟨Nat.le_refl _, Nat.le_refl _⟩ (k_nearest 2 (by omega) hH hT hi) ?_
      rw [ho]
      refine z_ist2 (n := 19) (by decide +kernel) rfl ?_
      refine z_ild2 (n := 20) (by decide +kernel) ?_
      refine z_sipush (n := 23) (q := -1000) (v := -1000) (by decide +kernel) ?_
      refine z_icmp_eq_t (n := 26) (off := 38) (tgt := 61) (by decide +kernel) (rfl) ?_
      refine z_ald0 (n := 62) (by decide +kernel) ?_
      refine z_ild2 (n := 63) (by decide +kernel) ?_
      refine z_putf (n := 66) (idx := 25) (ty := .int) (by decide +kernel) fl_X5_25 (by first | assumption | (simp (disch := omega) only [hu_s, hu_n]; first | assumption | rfl)) ⟨_, _, _, rfl, rfl, by decide +kernel⟩ rfl rfl (Nat.le_of_ble_eq_true rfl) ?_
      refine z_vret (by decide +kernel) rfl (Nat.le_refl _) ?_
      exact ⟨rfl, rfl⟩
    | some j =>
      have hj := nrO_le hi _ _ ho
      by_cases h1 : ab32 (ang j - ang i) ≤ 1
      · have e : folT T p i sn fp = (some j, sn, fp) := by rw [folT, if_neg hs, ho]; exact if_pos h1
        rw [e]
        refine z_ald0 (n := 1) (by decide +kernel) ?_
        refine z_ald0 (n := 2) (by decide +kernel) ?_
        refine z_getf (n := 5) (idx := 25) (by decide +kernel) fl_X5_25 (by first | assumption | (simp (disch := omega) only [hu_s, hu_n]; first | assumption | rfl)) (by rfl) ?_
        refine z_ild1 (n := 6) (by decide +kernel) ?_
        refine z_v2 (n := 9) (idx := 49) (by decide +kernel) ml_X5_49 (by first | assumption | (simp (disch := omega) only [hu_s, hu_n]; first | assumption | rfl)) rfl (Nat.le_of_ble_eq_true rfl) (by omega) ⟨Nat.le_refl _, Nat.le_refl _⟩ (k_restsAndStays 1 (by omega) hH hT hi) ?_
        refine z_ifb_eq_t (n := 12) (off := 4) (tgt := 13) (by decide +kernel) (hs') ?_
        refine z_ald0 (n := 14) (by decide +kernel) ?_
        refine z_ild1 (n := 15) (by decide +kernel) ?_
        refine z_v1 (n := 18) (idx := 52) (by decide +kernel) ml_X5_52 (by first | assumption | (simp (disch := omega) only [hu_s, hu_n]; first | assumption | rfl)) rfl (Nat.le_of_ble_eq_true rfl) (by omega) ⟨Nat.le_refl _, Nat.le_refl _⟩ (k_nearest 2 (by omega) hH hT hi) ?_
        rw [ho]
        refine z_ist2 (n := 19) (by decide +kernel) rfl ?_
        refine z_ild2 (n := 20) (by decide +kernel) ?_
        refine z_sipush (n := 23) (q := -1000) (v := -1000) (by decide +kernel) ?_
        refine z_icmp_eq_f (n := 26) (off := 38) (tgt := 61) (by decide +kernel) (ang_gone hj) ?_
        refine z_ild2 (n := 27) (by decide +kernel) ?_
        refine z_ald0 (n := 28) (by decide +kernel) ?_
        refine z_getf (n := 31) (idx := 25) (by decide +kernel) fl_X5_25 (by first | assumption | (simp (disch := omega) only [hu_s, hu_n]; first | assumption | rfl)) (by rfl) ?_
        refine z_isub (n := 32) (by decide +kernel) ?_
        refine z_mabs (n := 35) (idx := 36) (by decide +kernel) jl_X5_36 (Nat.le_of_ble_eq_true rfl) (by omega) (Nat.le_refl _) (Nat.le_refl _) ?_
        refine z_iconst (n := 36) (q := 1) (v := 1) (by decide +kernel) ?_
        refine z_icmp_le_t (n := 39) (off := 25) (tgt := 61) (by decide +kernel) (h1) ?_
        refine z_ald0 (n := 62) (by decide +kernel) ?_
        refine z_ild2 (n := 63) (by decide +kernel) ?_
        refine z_putf (n := 66) (idx := 25) (ty := .int) (by decide +kernel) fl_X5_25 (by first | assumption | (simp (disch := omega) only [hu_s, hu_n]; first | assumption | rfl)) ⟨_, _, _, rfl, rfl, by decide +kernel⟩ rfl rfl (Nat.le_of_ble_eq_true rfl) ?_
        refine z_vret (by decide +kernel) rfl (Nat.le_refl _) ?_
        exact ⟨rfl, rfl⟩
      · have e : folT T p i sn fp = (some j, sn + 1, if sn = 0 then p else fp) := by rw [folT, if_neg hs, ho]; exact if_neg h1
        rw [e]
        refine z_ald0 (n := 1) (by decide +kernel) ?_
        refine z_ald0 (n := 2) (by decide +kernel) ?_
        refine z_getf (n := 5) (idx := 25) (by decide +kernel) fl_X5_25 (by first | assumption | (simp (disch := omega) only [hu_s, hu_n]; first | assumption | rfl)) (by rfl) ?_
        refine z_ild1 (n := 6) (by decide +kernel) ?_
        refine z_v2 (n := 9) (idx := 49) (by decide +kernel) ml_X5_49 (by first | assumption | (simp (disch := omega) only [hu_s, hu_n]; first | assumption | rfl)) rfl (Nat.le_of_ble_eq_true rfl) (by omega) ⟨Nat.le_refl _, Nat.le_refl _⟩ (k_restsAndStays 1 (by omega) hH hT hi) ?_
        refine z_ifb_eq_t (n := 12) (off := 4) (tgt := 13) (by decide +kernel) (hs') ?_
        refine z_ald0 (n := 14) (by decide +kernel) ?_
        refine z_ild1 (n := 15) (by decide +kernel) ?_
        refine z_v1 (n := 18) (idx := 52) (by decide +kernel) ml_X5_52 (by first | assumption | (simp (disch := omega) only [hu_s, hu_n]; first | assumption | rfl)) rfl (Nat.le_of_ble_eq_true rfl) (by omega) ⟨Nat.le_refl _, Nat.le_refl _⟩ (k_nearest 2 (by omega) hH hT hi) ?_
        rw [ho]
        refine z_ist2 (n := 19) (by decide +kernel) rfl ?_
        refine z_ild2 (n := 20) (by decide +kernel) ?_
        refine z_sipush (n := 23) (q := -1000) (v := -1000) (by decide +kernel) ?_
        refine z_icmp_eq_f (n := 26) (off := 38) (tgt := 61) (by decide +kernel) (ang_gone hj) ?_
        refine z_ild2 (n := 27) (by decide +kernel) ?_
        refine z_ald0 (n := 28) (by decide +kernel) ?_
        refine z_getf (n := 31) (idx := 25) (by decide +kernel) fl_X5_25 (by first | assumption | (simp (disch := omega) only [hu_s, hu_n]; first | assumption | rfl)) (by rfl) ?_
        refine z_isub (n := 32) (by decide +kernel) ?_
        refine z_mabs (n := 35) (idx := 36) (by decide +kernel) jl_X5_36 (Nat.le_of_ble_eq_true rfl) (by omega) (Nat.le_refl _) (Nat.le_refl _) ?_
        refine z_iconst (n := 36) (q := 1) (v := 1) (by decide +kernel) ?_
        refine z_icmp_le_f (n := 39) (off := 25) (tgt := 61) (by decide +kernel) (h1) ?_
        refine z_ald0 (n := 40) (by decide +kernel) ?_
        refine z_getf (n := 43) (idx := 29) (by decide +kernel) fl_X5_29 (by first | assumption | (simp (disch := omega) only [hu_s, hu_n]; first | assumption | rfl)) (by rfl) ?_
        refine z_if_ne (n := 46) (off := 8) (tgt := 51) (by decide +kernel) (fun c43 => ?_) (fun c43 => ?_)
        · refine z_ald0 (n := 52) (by decide +kernel) ?_
          refine z_dup (n := 53) (by decide +kernel) rfl ?_
          refine z_getf (n := 56) (idx := 29) (by decide +kernel) fl_X5_29 (by first | assumption | (simp (disch := omega) only [hu_s, hu_n]; first | assumption | rfl)) (by rfl) ?_
          refine z_iconst (n := 57) (q := 1) (v := 1) (by decide +kernel) ?_
          refine z_iadd (n := 58) (by decide +kernel) ?_
          refine z_putf (n := 61) (idx := 29) (ty := .int) (by decide +kernel) fl_X5_29 (by first | assumption | (simp (disch := omega) only [hu_s, hu_n]; first | assumption | rfl)) ⟨_, _, _, rfl, rfl, by decide +kernel⟩ rfl rfl (Nat.le_of_ble_eq_true rfl) ?_
          refine z_ald0 (n := 62) (by decide +kernel) ?_
          refine z_ild2 (n := 63) (by decide +kernel) ?_
          refine z_putf (n := 66) (idx := 25) (ty := .int) (by decide +kernel) fl_X5_25 (by first | assumption | (simp (disch := omega) only [hu_s, hu_n]; first | assumption | rfl)) ⟨_, _, _, rfl, rfl, by decide +kernel⟩ rfl rfl (Nat.le_of_ble_eq_true rfl) ?_
          refine z_vret (by decide +kernel) rfl (Nat.le_refl _) ?_
          exact ⟨rfl, by simp only [eq_false c43, if_true, if_false, hu_hu]; rfl⟩
        · refine z_ald0 (n := 47) (by decide +kernel) ?_
          refine z_ild1 (n := 48) (by decide +kernel) ?_
          refine z_putf (n := 51) (idx := 33) (ty := .int) (by decide +kernel) fl_X5_33 (by first | assumption | (simp (disch := omega) only [hu_s, hu_n]; first | assumption | rfl)) ⟨_, _, _, rfl, rfl, by decide +kernel⟩ rfl rfl (Nat.le_of_ble_eq_true rfl) ?_
          refine z_ald0 (n := 52) (by decide +kernel) ?_
          refine z_dup (n := 53) (by decide +kernel) rfl ?_
          refine z_getf (n := 56) (idx := 29) (by decide +kernel) fl_X5_29 (by first | assumption | (simp (disch := omega) only [hu_s, hu_n]; first | assumption | rfl)) (by rfl) ?_
          refine z_iconst (n := 57) (q := 1) (v := 1) (by decide +kernel) ?_
          refine z_iadd (n := 58) (by decide +kernel) ?_
          refine z_putf (n := 61) (idx := 29) (ty := .int) (by decide +kernel) fl_X5_29 (by first | assumption | (simp (disch := omega) only [hu_s, hu_n]; first | assumption | rfl)) ⟨_, _, _, rfl, rfl, by decide +kernel⟩ rfl rfl (Nat.le_of_ble_eq_true rfl) ?_
          refine z_ald0 (n := 62) (by decide +kernel) ?_
          refine z_ild2 (n := 63) (by decide +kernel) ?_
          refine z_putf (n := 66) (idx := 25) (ty := .int) (by decide +kernel) fl_X5_25 (by first | assumption | (simp (disch := omega) only [hu_s, hu_n]; first | assumption | rfl)) ⟨_, _, _, rfl, rfl, by decide +kernel⟩ rfl rfl (Nat.le_of_ble_eq_true rfl) ?_
          refine z_vret (by decide +kernel) rfl (Nat.le_refl _) ?_
          exact ⟨rfl, by simp only [eq_true c43, if_true, if_false, hu_hu]; rfl⟩
def psT (T : Nat → Int32) (p st : Int32) (i0 : Nat) : Nat → nT
  | 0 => (some i0, 0, -2000000000)
  | n + 1 => match psT T p st i0 n with
    | (none, a, b) => (none, a, b)
    | (some i, a, b) => folT T (p + nI (n + 1) * st) i a b
theorem folT_le {T : Nat → Int32} {p sn fp : Int32} {i j : Nat} (hi : i ≤ 360) (h : (folT T p i sn fp).1 = some j) : j ≤ 360 := by
  unfold folT at h
  split at h
  · cases h; exact hi
  · split at h
    · cases h
    · rename_i ho
      have := nrO_le hi _ _ ho
      split at h <;> (cases h; exact this)
theorem psT_le {T : Nat → Int32} {p st : Int32} {i0 : Nat} (h0 : i0 ≤ 360) : ∀ (n j : Nat), (psT T p st i0 n).1 = some j → j ≤ 360
  | 0, j, h => by cases h; exact h0
  | n + 1, j, h => by
    unfold psT at h
    split at h
    · cases h
    · rename_i i a b e
      exact folT_le (psT_le h0 n i (by rw [e])) h
theorem psT_none {T : Nat → Int32} {p st : Int32} {i0 u : Nat} (h : (psT T p st i0 u).1 = none) : ∀ k, u ≤ k → psT T p st i0 k = psT T p st i0 u := by
  intro k hk
  obtain ⟨m, rfl⟩ : ∃ m, k = u + m := ⟨k - u, by omega⟩
  clear hk
  induction m with
  | zero => rfl
  | succ m ih =>
    show (match psT T p st i0 (u + m) with | (none, a, b) => (none, a, b) | (some i, a, b) => folT T (p + nI (u + m + 1) * st) i a b) = _
    rw [ih]
    rcases e : psT T p st i0 u with ⟨o, a, b⟩
    cases o with
    | none => rfl
    | some i => rw [e] at h; cases h
theorem k_pushOn {G : mG} {h : mH} {H i0 k : Nat} {an sn fp p to : Int32} {T : Nat → Int32} (d : Nat) (hd : 4 ≤ d) (hH : h H = oSha H an sn fp) (hT : h (H + 1) = aI 361 T) (hi : i0 ≤ 360) (hk : k ≤ 2000) (hto : ab32 (to - p) = nI k) : EV G m_X5_pushOn d 0 0 [.ref H, .int (ang i0), .int p, .int to] h (RE none (hu h H (oSha H (toA (psT T p (if p ≤ to then 1 else -1) i0 k).1) (psT T p (if p ≤ to then 1 else -1) i0 k).2.1 (psT T p (if p ≤ to then 1 else -1) i0 k).2.2))) := by
  refine ev_4_3 rfl rfl rfl rfl (by decide +kernel) (by decide +kernel) ?_
  have main : ∀ st : Int32, st = (if p ≤ to then 1 else -1) → ∀ u, u ≤ k → Z G m_X5_pushOn d 0 0 0 0 45 [some (.ref H), some (.int (ang i0)), some (.int p), some (.int to), some (.int st), some (.int (nI k)), some (.int (nI (u + 1)))] [] (hu h H (oSha H (toA (psT T p st i0 u).1) (psT T p st i0 u).2.1 (psT T p st i0 u).2.2)) (RE none (hu h H (oSha H (toA (psT T p (if p ≤ to then 1 else -1) i0 k).1) (psT T p (if p ≤ to then 1 else -1) i0 k).2.1 (psT T p (if p ≤ to then 1 else -1) i0 k).2.2))) := by
    intro st hst
    rw [← hst]
    refine loopZ (k := k) (fun u => Z G m_X5_pushOn d 0 0 0 0 45 [some (.ref H), some (.int (ang i0)), some (.int p), some (.int to), some (.int st), some (.int (nI k)), some (.int (nI (u + 1)))] [] (hu h H (oSha H (toA (psT T p st i0 u).1) (psT T p st i0 u).2.1 (psT T p st i0 u).2.2)) (RE none (hu h H (oSha H (toA (psT T p st i0 k).1) (psT T p st i0 k).2.1 (psT T p st i0 k).2.2)))) ?_ ?_
    · refine z_ild6 (n := 47) (by decide +kernel) ?_
      refine z_ild5 (n := 49) (by decide +kernel) ?_
      refine z_icmp_gt_t (n := 52) (off := 30) (tgt := 79) (by decide +kernel) (nI_lt (by omega) (by omega)) ?_
      refine z_vret (by decide +kernel) rfl (Nat.le_refl _) ?_
      exact ⟨rfl, rfl⟩
    · intro u ul ih
      rcases hps : psT T p st i0 u with ⟨o, a, b⟩
      cases o with
      | none =>
        have e := psT_none (T := T) (p := p) (st := st) (i0 := i0) (u := u) (by rw [hps]) k (by omega)
        rw [e, hps]
        refine z_ild6 (n := 47) (by decide +kernel) ?_
        refine z_ild5 (n := 49) (by decide +kernel) ?_
        refine z_icmp_gt_f (n := 52) (off := 30) (tgt := 79) (by decide +kernel) (nI_nlt (by omega) (by omega)) ?_
        refine z_ald0 (n := 53) (by decide +kernel) ?_
        refine z_getf (n := 56) (idx := 25) (by decide +kernel) fl_X5_25 (by first | assumption | (simp (disch := omega) only [hu_s, hu_n]; first | assumption | rfl)) (by rfl) ?_
        refine z_sipush (n := 59) (q := -1000) (v := -1000) (by decide +kernel) ?_
        refine z_icmp_eq_t (n := 62) (off := 20) (tgt := 79) (by decide +kernel) (rfl) ?_
        refine z_vret (by decide +kernel) rfl (Nat.le_refl _) ?_
        exact ⟨rfl, rfl⟩
      | some i =>
        have hi2 := psT_le hi u i (by rw [hps])
        have e : psT T p st i0 (u + 1) = folT T (p + nI (u + 1) * st) i a b := by
          show (match psT T p st i0 u with | (none, a, b) => (none, a, b) | (some i, a, b) => folT T (p + nI (u + 1) * st) i a b) = _
          rw [hps]
        rw [e] at ih
        refine z_ild6 (n := 47) (by decide +kernel) ?_
        refine z_ild5 (n := 49) (by decide +kernel) ?_
        refine z_icmp_gt_f (n := 52) (off := 30) (tgt := 79) (by decide +kernel) (nI_nlt (by omega) (by omega)) ?_
        refine z_ald0 (n := 53) (by decide +kernel) ?_
        refine z_getf (n := 56) (idx := 25) (by decide +kernel) fl_X5_25 (by first | assumption | (simp (disch := omega) only [hu_s, hu_n]; first | assumption | rfl)) (by rfl) ?_
        refine z_sipush (n := 59) (q := -1000) (v := -1000) (by decide +kernel) ?_
        refine z_icmp_eq_f (n := 62) (off := 20) (tgt := 79) (by decide +kernel) (ang_gone hi2) ?_
        refine z_ald0 (n := 63) (by decide +kernel) ?_
        refine z_ild2 (n := 64) (by decide +kernel) ?_
        refine z_ild6 (n := 66) (by decide +kernel) ?_
        refine z_ild4 (n := 68) (by decide +kernel) ?_
        refine z_imul (n := 69) (by decide +kernel) ?_
        refine z_iadd (n := 70) (by decide +kernel) ?_
        refine z_v1v (n := 73) (idx := 45) (by decide +kernel) ml_X5_45 (by first | assumption | (simp (disch := omega) only [hu_s, hu_n]; first | assumption | rfl)) rfl (Nat.le_of_ble_eq_true rfl) (by omega) ⟨Nat.le_refl _, Nat.le_refl _⟩ (k_followTo (i := i) (sn := a) (fp := b) (T := T) 3 (by omega) (by simp (disch := omega) only [hu_s]; rfl) (by simp (disch := omega) only [hu_n]; assumption) hi2) ?_
        refine z_inc6 (n := 76) (q := 1) (by decide +kernel) rfl (nI_1 _) ?_
        refine z_goto (n := 79) (off := -31) (tgt := 45) (by decide +kernel) ?_
        exact z_heap (by rw [hu_hu]) ih
  refine z_ald0 (n := 1) (by decide +kernel) ?_
  refine z_ild1 (n := 2) (by decide +kernel) ?_
  refine z_putf (n := 5) (idx := 25) (ty := .int) (by decide +kernel) fl_X5_25 (by first | assumption | (simp (disch := omega) only [hu_s, hu_n]; first | assumption | rfl)) ⟨_, _, _, rfl, rfl, by decide +kernel⟩ rfl rfl (Nat.le_of_ble_eq_true rfl) ?_
  refine z_ald0 (n := 6) (by decide +kernel) ?_
  refine z_iconst (n := 7) (q := 0) (v := 0) (by decide +kernel) ?_
  refine z_putf (n := 10) (idx := 29) (ty := .int) (by decide +kernel) fl_X5_29 (by first | assumption | (simp (disch := omega) only [hu_s, hu_n]; first | assumption | rfl)) ⟨_, _, _, rfl, rfl, by decide +kernel⟩ rfl rfl (Nat.le_of_ble_eq_true rfl) ?_
  refine z_ald0 (n := 11) (by decide +kernel) ?_
  refine z_ldc (n := 13) (q := 32) (by decide +kernel) lc_X5_32 ?_
  refine z_putf (n := 16) (idx := 33) (ty := .int) (by decide +kernel) fl_X5_33 (by first | assumption | (simp (disch := omega) only [hu_s, hu_n]; first | assumption | rfl)) ⟨_, _, _, rfl, rfl, by decide +kernel⟩ rfl rfl (Nat.le_of_ble_eq_true rfl) ?_
  refine z_ild3 (n := 17) (by decide +kernel) ?_
  refine z_ild2 (n := 18) (by decide +kernel) ?_
  refine z_icmp_ge (n := 21) (off := 7) (tgt := 25) (by decide +kernel) (fun c18 => ?_) (fun c18 => ?_)
  · refine z_iconst (n := 26) (q := 1) (v := 1) (by decide +kernel) ?_
    refine z_ist4 (n := 28) (by decide +kernel) rfl ?_
    refine z_sipush (n := 31) (q := 2000) (v := 2000) (by decide +kernel) ?_
    refine z_ild3 (n := 32) (by decide +kernel) ?_
    refine z_ild2 (n := 33) (by decide +kernel) ?_
    refine z_isub (n := 34) (by decide +kernel) ?_
    refine z_mabs (n := 37) (idx := 36) (by decide +kernel) jl_X5_36 (Nat.le_of_ble_eq_true rfl) (by omega) (Nat.le_refl _) (Nat.le_refl _) ?_
    refine z_top hto ?_
    refine z_mmin (n := 40) (idx := 42) (by decide +kernel) jl_X5_42 (Nat.le_of_ble_eq_true rfl) (by omega) (Nat.le_refl _) (Nat.le_refl _) ?_
    refine z_top (show _ = nI k from by by_cases e : k < 2000; (exact if_pos (nI_lt (b := 2000) e (by omega))); (rw [show k = 2000 by omega]; decide)) ?_
    refine z_ist5 (n := 42) (by decide +kernel) rfl ?_
    refine z_iconst (n := 43) (q := 1) (v := 1) (by decide +kernel) ?_
    refine z_ist6 (n := 45) (by decide +kernel) rfl ?_
    exact z_heap (h1 := hu h H (oSha H (toA (psT T p _ i0 0).1) (psT T p _ i0 0).2.1 (psT T p _ i0 0).2.2)) (by simp only [hu_hu]; rfl) (main _ (by simp only [eq_true c18, if_true, if_false]) 0 (by omega))
  · refine z_iconst (n := 22) (q := -1) (v := -1) (by decide +kernel) ?_
    refine z_goto (n := 25) (off := 4) (tgt := 26) (by decide +kernel) ?_
    refine z_ist4 (n := 28) (by decide +kernel) rfl ?_
    refine z_sipush (n := 31) (q := 2000) (v := 2000) (by decide +kernel) ?_
    refine z_ild3 (n := 32) (by decide +kernel) ?_
    refine z_ild2 (n := 33) (by decide +kernel) ?_
    refine z_isub (n := 34) (by decide +kernel) ?_
    refine z_mabs (n := 37) (idx := 36) (by decide +kernel) jl_X5_36 (Nat.le_of_ble_eq_true rfl) (by omega) (Nat.le_refl _) (Nat.le_refl _) ?_
    refine z_top hto ?_
    refine z_mmin (n := 40) (idx := 42) (by decide +kernel) jl_X5_42 (Nat.le_of_ble_eq_true rfl) (by omega) (Nat.le_refl _) (Nat.le_refl _) ?_
    refine z_top (show _ = nI k from by by_cases e : k < 2000; (exact if_pos (nI_lt (b := 2000) e (by omega))); (rw [show k = 2000 by omega]; decide)) ?_
    refine z_ist5 (n := 42) (by decide +kernel) rfl ?_
    refine z_iconst (n := 43) (q := 1) (v := 1) (by decide +kernel) ?_
    refine z_ist6 (n := 45) (by decide +kernel) rfl ?_
    exact z_heap (h1 := hu h H (oSha H (toA (psT T p _ i0 0).1) (psT T p _ i0 0).2.1 (psT T p _ i0 0).2.2)) (by simp only [hu_hu]; rfl) (main _ (by simp only [eq_false c18, if_true, if_false]) 0 (by omega))
def cpE (s' s : eS) : eS := (s'.1, fun i => cpN (s'.2 i) (s.2 i) 6)
theorem k_sheCopy {G : mG} {h : mH} {E E' : Nat} {s s' : eS} (d : Nat) (hd : 1 ≤ d) (hs : she h E s) (hs' : she h E' s') (hap : E + 6 ≤ E' ∨ E' + 6 ≤ E) : EV G m_X6_copyFrom d 0 0 [.ref E, .ref E'] h (fun r h' => r = none ∧ frm h h' E (E + 6) ∧ she h' E (cpE s' s)) := by
  obtain ⟨hE, h1, h2, h3, h4, h5⟩ := hs
  obtain ⟨hE', h1', h2', h3', h4', h5'⟩ := hs'
  refine ev_2_0 rfl rfl (by decide +kernel) (by decide +kernel) ?_
  refine z_ald0 (n := 1) (by decide +kernel) ?_
  refine z_ald1 (n := 2) (by decide +kernel) ?_
  refine z_getf (n := 5) (idx := 27) (by decide +kernel) fl_X6_27 (by first | assumption | (simp (disch := omega) only [hu_s, hu_n]; first | assumption | rfl)) (by rfl) ?_
  refine z_putf (n := 8) (idx := 27) (ty := .int) (by decide +kernel) fl_X6_27 (by first | assumption | (simp (disch := omega) only [hu_s, hu_n]; first | assumption | rfl)) ⟨_, _, _, rfl, rfl, by decide +kernel⟩ rfl rfl (Nat.le_of_ble_eq_true rfl) ?_
  refine z_ald1 (n := 9) (by decide +kernel) ?_
  refine z_getf (n := 12) (idx := 11) (by decide +kernel) fl_X6_11 (by first | assumption | (simp (disch := omega) only [hu_s, hu_n]; first | assumption | rfl)) (by rfl) ?_
  refine z_iconst (n := 13) (q := 0) (v := 0) (by decide +kernel) ?_
  refine z_ald0 (n := 14) (by decide +kernel) ?_
  refine z_getf (n := 17) (idx := 11) (by decide +kernel) fl_X6_11 (by first | assumption | (simp (disch := omega) only [hu_s, hu_n]; first | assumption | rfl)) (by rfl) ?_
  refine z_iconst (n := 18) (q := 0) (v := 0) (by decide +kernel) ?_
  refine z_bipush (n := 20) (q := 6) (v := 6) (by decide +kernel) ?_
  refine z_cpyI (k := 6) (n := 23) (idx := 31) (by decide +kernel) jl_X6_31 (Nat.le_of_ble_eq_true rfl) (by omega) (by first | assumption | (simp (disch := omega) only [hu_s, hu_n]; first | assumption | rfl)) (by first | assumption | (simp (disch := omega) only [hu_s, hu_n]; first | assumption | rfl)) (by omega) (by omega) (by omega) ?_
  refine z_ald1 (n := 24) (by decide +kernel) ?_
  refine z_getf (n := 27) (idx := 15) (by decide +kernel) fl_X6_15 (by first | assumption | (simp (disch := omega) only [hu_s, hu_n]; first | assumption | rfl)) (by rfl) ?_
  refine z_iconst (n := 28) (q := 0) (v := 0) (by decide +kernel) ?_
  refine z_ald0 (n := 29) (by decide +kernel) ?_
  refine z_getf (n := 32) (idx := 15) (by decide +kernel) fl_X6_15 (by first | assumption | (simp (disch := omega) only [hu_s, hu_n]; first | assumption | rfl)) (by rfl) ?_
  refine z_iconst (n := 33) (q := 0) (v := 0) (by decide +kernel) ?_
  refine z_bipush (n := 35) (q := 6) (v := 6) (by decide +kernel) ?_
  refine z_cpyI (k := 6) (n := 38) (idx := 31) (by decide +kernel) jl_X6_31 (Nat.le_of_ble_eq_true rfl) (by omega) (by first | assumption | (simp (disch := omega) only [hu_s, hu_n]; first | assumption | rfl)) (by first | assumption | (simp (disch := omega) only [hu_s, hu_n]; first | assumption | rfl)) (by omega) (by omega) (by omega) ?_
  refine z_ald1 (n := 39) (by decide +kernel) ?_
  refine z_getf (n := 42) (idx := 18) (by decide +kernel) fl_X6_18 (by first | assumption | (simp (disch := omega) only [hu_s, hu_n]; first | assumption | rfl)) (by rfl) ?_
  refine z_iconst (n := 43) (q := 0) (v := 0) (by decide +kernel) ?_
  refine z_ald0 (n := 44) (by decide +kernel) ?_
  refine z_getf (n := 47) (idx := 18) (by decide +kernel) fl_X6_18 (by first | assumption | (simp (disch := omega) only [hu_s, hu_n]; first | assumption | rfl)) (by rfl) ?_
  refine z_iconst (n := 48) (q := 0) (v := 0) (by decide +kernel) ?_
  refine z_bipush (n := 50) (q := 6) (v := 6) (by decide +kernel) ?_
  refine z_cpyI (k := 6) (n := 53) (idx := 31) (by decide +kernel) jl_X6_31 (Nat.le_of_ble_eq_true rfl) (by omega) (by first | assumption | (simp (disch := omega) only [hu_s, hu_n]; first | assumption | rfl)) (by first | assumption | (simp (disch := omega) only [hu_s, hu_n]; first | assumption | rfl)) (by omega) (by omega) (by omega) ?_
  refine z_ald1 (n := 54) (by decide +kernel) ?_
  refine z_getf (n := 57) (idx := 21) (by decide +kernel) fl_X6_21 (by first | assumption | (simp (disch := omega) only [hu_s, hu_n]; first | assumption | rfl)) (by rfl) ?_
  refine z_iconst (n := 58) (q := 0) (v := 0) (by decide +kernel) ?_
  refine z_ald0 (n := 59) (by decide +kernel) ?_
  refine z_getf (n := 62) (idx := 21) (by decide +kernel) fl_X6_21 (by first | assumption | (simp (disch := omega) only [hu_s, hu_n]; first | assumption | rfl)) (by rfl) ?_
  refine z_iconst (n := 63) (q := 0) (v := 0) (by decide +kernel) ?_
  refine z_bipush (n := 65) (q := 6) (v := 6) (by decide +kernel) ?_
  refine z_cpyI (k := 6) (n := 68) (idx := 31) (by decide +kernel) jl_X6_31 (Nat.le_of_ble_eq_true rfl) (by omega) (by first | assumption | (simp (disch := omega) only [hu_s, hu_n]; first | assumption | rfl)) (by first | assumption | (simp (disch := omega) only [hu_s, hu_n]; first | assumption | rfl)) (by omega) (by omega) (by omega) ?_
  refine z_ald1 (n := 69) (by decide +kernel) ?_
  refine z_getf (n := 72) (idx := 24) (by decide +kernel) fl_X6_24 (by first | assumption | (simp (disch := omega) only [hu_s, hu_n]; first | assumption | rfl)) (by rfl) ?_
  refine z_iconst (n := 73) (q := 0) (v := 0) (by decide +kernel) ?_
  refine z_ald0 (n := 74) (by decide +kernel) ?_
  refine z_getf (n := 77) (idx := 24) (by decide +kernel) fl_X6_24 (by first | assumption | (simp (disch := omega) only [hu_s, hu_n]; first | assumption | rfl)) (by rfl) ?_
  refine z_iconst (n := 78) (q := 0) (v := 0) (by decide +kernel) ?_
  refine z_bipush (n := 80) (q := 6) (v := 6) (by decide +kernel) ?_
  refine z_cpyI (k := 6) (n := 83) (idx := 31) (by decide +kernel) jl_X6_31 (Nat.le_of_ble_eq_true rfl) (by omega) (by first | assumption | (simp (disch := omega) only [hu_s, hu_n]; first | assumption | rfl)) (by first | assumption | (simp (disch := omega) only [hu_s, hu_n]; first | assumption | rfl)) (by omega) (by omega) (by omega) ?_
  refine z_vret (by decide +kernel) rfl (Nat.le_refl _) ?_
  exact ⟨rfl, by intro j9 hj9; simp (disch := omega) only [hu_n], (by simp (disch := omega) only [hTn, hCr, hFl, hu_s, hu_n]; first | done | assumption | rfl), (by simp (disch := omega) only [hTn, hCr, hFl, hu_s, hu_n]; first | done | assumption | rfl), (by simp (disch := omega) only [hTn, hCr, hFl, hu_s, hu_n]; first | done | assumption | rfl), (by simp (disch := omega) only [hTn, hCr, hFl, hu_s, hu_n]; first | done | assumption | rfl), (by simp (disch := omega) only [hTn, hCr, hFl, hu_s, hu_n]; first | done | assumption | rfl), (by simp (disch := omega) only [hTn, hCr, hFl, hu_s, hu_n]; first | done | assumption | rfl)⟩
/-! Seen -/
def oSee (Y : Nat) (t k : Int32) : mE := oB 4 [.int t, .int k, .ref (Y + 1), .ref (Y + 2)]
/-- (time, look), points, signs -/
abbrev yS : Type := (Nat × Nat) × (Nat → Int32) × (Nat → Int32)
def see (h : mH) (Y : Nat) (s : yS) : Prop := h Y = oSee Y (nI s.1.1) (nI s.1.2) ∧ h (Y + 1) = aI 100 s.2.1 ∧ h (Y + 2) = aI 100 s.2.2
theorem see_frm {h h' : mH} {Y lo hi : Nat} {s : yS} (hf : frm h h' lo hi) (ha : Y + 3 ≤ lo ∨ hi ≤ Y) (p : see h Y s) : see h' Y s := by
  obtain ⟨h0, h1, h2⟩ := p
  exact ⟨(hf _ (by omega)).trans h0, (hf _ (by omega)).trans h1, (hf _ (by omega)).trans h2⟩
def cpY (s' s : yS) : yS := (s'.1, cpN s'.2.1 s.2.1 100, cpN s'.2.2 s.2.2 100)
theorem k_seeCopy {G : mG} {h : mH} {Y Y' : Nat} {s s' : yS} (d : Nat) (hd : 1 ≤ d) (hs : see h Y s) (hs' : see h Y' s') (hap : Y + 3 ≤ Y' ∨ Y' + 3 ≤ Y) : EV G m_X4_copyFrom d 0 0 [.ref Y, .ref Y'] h (fun r h' => r = none ∧ frm h h' Y (Y + 3) ∧ see h' Y (cpY s' s)) := by
  obtain ⟨hE, h1, h2⟩ := hs
  obtain ⟨hE', h1', h2'⟩ := hs'
  refine ev_2_0 rfl rfl (by decide +kernel) (by decide +kernel) ?_
  refine z_ald0 (n := 1) (by decide +kernel) ?_
  refine z_ald1 (n := 2) (by decide +kernel) ?_
  refine z_getf (n := 5) (idx := 18) (by decide +kernel) fl_X4_18 (by first | assumption | (simp (disch := omega) only [hu_s, hu_n]; first | assumption | rfl)) (by rfl) ?_
  refine z_putf (n := 8) (idx := 18) (ty := .int) (by decide +kernel) fl_X4_18 (by first | assumption | (simp (disch := omega) only [hu_s, hu_n]; first | assumption | rfl)) ⟨_, _, _, rfl, rfl, by decide +kernel⟩ rfl rfl (Nat.le_of_ble_eq_true rfl) ?_
  refine z_ald0 (n := 9) (by decide +kernel) ?_
  refine z_ald1 (n := 10) (by decide +kernel) ?_
  refine z_getf (n := 13) (idx := 22) (by decide +kernel) fl_X4_22 (by first | assumption | (simp (disch := omega) only [hu_s, hu_n]; first | assumption | rfl)) (by rfl) ?_
  refine z_putf (n := 16) (idx := 22) (ty := .int) (by decide +kernel) fl_X4_22 (by first | assumption | (simp (disch := omega) only [hu_s, hu_n]; first | assumption | rfl)) ⟨_, _, _, rfl, rfl, by decide +kernel⟩ rfl rfl (Nat.le_of_ble_eq_true rfl) ?_
  refine z_ald1 (n := 17) (by decide +kernel) ?_
  refine z_getf (n := 20) (idx := 11) (by decide +kernel) fl_X4_11 (by first | assumption | (simp (disch := omega) only [hu_s, hu_n]; first | assumption | rfl)) (by rfl) ?_
  refine z_iconst (n := 21) (q := 0) (v := 0) (by decide +kernel) ?_
  refine z_ald0 (n := 22) (by decide +kernel) ?_
  refine z_getf (n := 25) (idx := 11) (by decide +kernel) fl_X4_11 (by first | assumption | (simp (disch := omega) only [hu_s, hu_n]; first | assumption | rfl)) (by rfl) ?_
  refine z_iconst (n := 26) (q := 0) (v := 0) (by decide +kernel) ?_
  refine z_bipush (n := 28) (q := 100) (v := 100) (by decide +kernel) ?_
  refine z_cpyI (k := 100) (n := 31) (idx := 25) (by decide +kernel) jl_X4_25 (Nat.le_of_ble_eq_true rfl) (by omega) (by first | assumption | (simp (disch := omega) only [hu_s, hu_n]; first | assumption | rfl)) (by first | assumption | (simp (disch := omega) only [hu_s, hu_n]; first | assumption | rfl)) (by omega) (by omega) (by omega) ?_
  refine z_ald1 (n := 32) (by decide +kernel) ?_
  refine z_getf (n := 35) (idx := 15) (by decide +kernel) fl_X4_15 (by first | assumption | (simp (disch := omega) only [hu_s, hu_n]; first | assumption | rfl)) (by rfl) ?_
  refine z_iconst (n := 36) (q := 0) (v := 0) (by decide +kernel) ?_
  refine z_ald0 (n := 37) (by decide +kernel) ?_
  refine z_getf (n := 40) (idx := 15) (by decide +kernel) fl_X4_15 (by first | assumption | (simp (disch := omega) only [hu_s, hu_n]; first | assumption | rfl)) (by rfl) ?_
  refine z_iconst (n := 41) (q := 0) (v := 0) (by decide +kernel) ?_
  refine z_bipush (n := 43) (q := 100) (v := 100) (by decide +kernel) ?_
  refine z_cpyI (k := 100) (n := 46) (idx := 25) (by decide +kernel) jl_X4_25 (Nat.le_of_ble_eq_true rfl) (by omega) (by first | assumption | (simp (disch := omega) only [hu_s, hu_n]; first | assumption | rfl)) (by first | assumption | (simp (disch := omega) only [hu_s, hu_n]; first | assumption | rfl)) (by omega) (by omega) (by omega) ?_
  refine z_vret (by decide +kernel) rfl (Nat.le_refl _) ?_
  exact ⟨rfl, by intro j9 hj9; simp (disch := omega) only [hu_n], (by simp (disch := omega) only [hTn, hCr, hFl, hu_s, hu_n]; first | done | assumption | rfl), (by simp (disch := omega) only [hTn, hCr, hFl, hu_s, hu_n]; first | done | assumption | rfl), (by simp (disch := omega) only [hTn, hCr, hFl, hu_s, hu_n]; first | done | assumption | rfl)⟩
def telS (p q : Int32) (s : yS) : yS := ((s.1.1 + 1, s.1.1 + 1), upd s.2.1 s.1.1 p, upd s.2.2 s.1.1 q)
theorem k_tell {G : mG} {h : mH} {Y : Nat} {p q : Int32} {s : yS} (d : Nat) (hs : see h Y s) (ht : s.1.1 ≤ 100) : EV G m_X4_tell d 0 0 [.ref Y, .int p, .int q] h (fun v h' => v = some (.int (if s.1.1 < 100 then nI (s.1.1 + 1) else -1)) ∧ frm h h' Y (Y + 3) ∧ see h' Y (if s.1.1 < 100 then telS p q s else s)) := by
  have hs0 := hs
  obtain ⟨hE, h1, h2⟩ := hs
  by_cases hlt : s.1.1 < 100
  · rw [if_pos hlt, if_pos hlt]
    refine ev_3_0 rfl rfl rfl (by decide +kernel) (by decide +kernel) ?_
    refine z_ald0 (n := 1) (by decide +kernel) ?_
    refine z_getf (n := 4) (idx := 18) (by decide +kernel) fl_X4_18 (by first | assumption | (simp (disch := omega) only [hu_s, hu_n]; first | assumption | rfl)) (by rfl) ?_
    refine z_bipush (n := 6) (q := 100) (v := 100) (by decide +kernel) ?_
    refine z_icmp_lt_t (n := 9) (off := 5) (tgt := 11) (by decide +kernel) (nI_lt (b := 100) hlt (by omega)) ?_
    refine z_ald0 (n := 12) (by decide +kernel) ?_
    refine z_getf (n := 15) (idx := 11) (by decide +kernel) fl_X4_11 (by first | assumption | (simp (disch := omega) only [hu_s, hu_n]; first | assumption | rfl)) (by rfl) ?_
    refine z_ald0 (n := 16) (by decide +kernel) ?_
    refine z_getf (n := 19) (idx := 18) (by decide +kernel) fl_X4_18 (by first | assumption | (simp (disch := omega) only [hu_s, hu_n]; first | assumption | rfl)) (by rfl) ?_
    refine z_ild1 (n := 20) (by decide +kernel) ?_
    refine z_iast (n := 21) (by decide +kernel) (by first | assumption | (simp (disch := omega) only [hu_s, hu_n]; first | assumption | rfl)) (by first | assumption | exact ix_nI (by omega) (by omega)) ?_
    refine z_ald0 (n := 22) (by decide +kernel) ?_
    refine z_getf (n := 25) (idx := 15) (by decide +kernel) fl_X4_15 (by first | assumption | (simp (disch := omega) only [hu_s, hu_n]; first | assumption | rfl)) (by rfl) ?_
    refine z_ald0 (n := 26) (by decide +kernel) ?_
    refine z_getf (n := 29) (idx := 18) (by decide +kernel) fl_X4_18 (by first | assumption | (simp (disch := omega) only [hu_s, hu_n]; first | assumption | rfl)) (by rfl) ?_
    refine z_ild2 (n := 30) (by decide +kernel) ?_
    refine z_iast (n := 31) (by decide +kernel) (by first | assumption | (simp (disch := omega) only [hu_s, hu_n]; first | assumption | rfl)) (by first | assumption | exact ix_nI (by omega) (by omega)) ?_
    refine z_ald0 (n := 32) (by decide +kernel) ?_
    refine z_dup (n := 33) (by decide +kernel) rfl ?_
    refine z_getf (n := 36) (idx := 18) (by decide +kernel) fl_X4_18 (by first | assumption | (simp (disch := omega) only [hu_s, hu_n]; first | assumption | rfl)) (by rfl) ?_
    refine z_iconst (n := 37) (q := 1) (v := 1) (by decide +kernel) ?_
    refine z_iadd (n := 38) (by decide +kernel) ?_
    refine z_top (nI_1 s.1.1) ?_
    refine z_putf (n := 41) (idx := 18) (ty := .int) (by decide +kernel) fl_X4_18 (by first | assumption | (simp (disch := omega) only [hu_s, hu_n]; first | assumption | rfl)) ⟨_, _, _, rfl, rfl, by decide +kernel⟩ rfl rfl (Nat.le_of_ble_eq_true rfl) ?_
    refine z_ald0 (n := 42) (by decide +kernel) ?_
    refine z_ald0 (n := 43) (by decide +kernel) ?_
    refine z_getf (n := 46) (idx := 18) (by decide +kernel) fl_X4_18 (by first | assumption | (simp (disch := omega) only [hu_s, hu_n]; first | assumption | rfl)) (by rfl) ?_
    refine z_putf (n := 49) (idx := 22) (ty := .int) (by decide +kernel) fl_X4_22 (by first | assumption | (simp (disch := omega) only [hu_s, hu_n]; first | assumption | rfl)) ⟨_, _, _, rfl, rfl, by decide +kernel⟩ rfl rfl (Nat.le_of_ble_eq_true rfl) ?_
    refine z_ald0 (n := 50) (by decide +kernel) ?_
    refine z_getf (n := 53) (idx := 18) (by decide +kernel) fl_X4_18 (by first | assumption | (simp (disch := omega) only [hu_s, hu_n]; first | assumption | rfl)) (by rfl) ?_
    refine z_iret (by decide +kernel) rfl (Nat.le_refl _) ?_
    exact ⟨rfl, by intro j9 hj9; simp (disch := omega) only [hu_n], (by simp (disch := omega) only [hTn, hCr, hFl, hu_s, hu_n]; first | done | assumption | rfl), (by simp (disch := omega) only [hTn, hCr, hFl, hu_s, hu_n]; first | done | assumption | rfl), (by simp (disch := omega) only [hTn, hCr, hFl, hu_s, hu_n]; first | done | assumption | rfl)⟩
  · rw [if_neg hlt, if_neg hlt]
    refine ev_3_0 rfl rfl rfl (by decide +kernel) (by decide +kernel) ?_
    refine z_ald0 (n := 1) (by decide +kernel) ?_
    refine z_getf (n := 4) (idx := 18) (by decide +kernel) fl_X4_18 (by first | assumption | (simp (disch := omega) only [hu_s, hu_n]; first | assumption | rfl)) (by rfl) ?_
    refine z_bipush (n := 6) (q := 100) (v := 100) (by decide +kernel) ?_
    refine z_icmp_lt_f (n := 9) (off := 5) (tgt := 11) (by decide +kernel) (nI_nlt (b := 100) (by omega) (by omega)) ?_
    refine z_iconst (n := 10) (q := -1) (v := -1) (by decide +kernel) ?_
    refine z_iret (by decide +kernel) rfl (Nat.le_refl _) ?_
    exact ⟨rfl, frm_rf, hs0⟩
/-- the latest told of a point among the first u tellings -/
def sgO (pt sg : Nat → Int32) (x : Int32) : Nat → Int32
  | 0 => -1
  | u + 1 => if pt u = x then sg u else sgO pt sg x u
theorem k_signOf {G : mG} {h : mH} {Y : Nat} {x : Int32} {s : yS} (d : Nat) (hd : 1 ≤ d) (hs : see h Y s) (ht : s.1.2 ≤ 100) : EV G m_X4_signOf d 0 0 [.ref Y, .int x] h (RE (some (.int (sgO s.2.1 s.2.2 x s.1.2))) h) := by
  obtain ⟨hE, h1, h2⟩ := hs
  refine ev_2_1 rfl rfl (by decide +kernel) (by decide +kernel) ?_
  have main : ∀ u, u ≤ 100 → Z G m_X4_signOf d 0 0 0 0 12 [some (.ref Y), some (.int x), some (.int (nI u - 1))] [] h (RE (some (.int (sgO s.2.1 s.2.2 x u))) h) := by
    intro u
    induction u with
    | zero =>
      intro _
      refine z_ild2 (n := 13) (by decide +kernel) ?_
      refine z_if_lt_t (n := 16) (off := 26) (tgt := 39) (by decide +kernel) (by decide) ?_
      refine z_iconst (n := 40) (q := -1) (v := -1) (by decide +kernel) ?_
      refine z_iret (by decide +kernel) rfl (Nat.le_refl _) ?_
      exact ⟨rfl, rfl⟩
    | succ u ih =>
      intro hu9
      rw [nI_pred]
      refine z_ild2 (n := 13) (by decide +kernel) ?_
      refine z_if_lt_f (n := 16) (off := 26) (tgt := 39) (by decide +kernel) (nI_pos (by omega)) ?_
      refine z_ald0 (n := 17) (by decide +kernel) ?_
      refine z_getf (n := 20) (idx := 11) (by decide +kernel) fl_X4_11 (by assumption) (by rfl) ?_
      refine z_ild2 (n := 21) (by decide +kernel) ?_
      refine z_iald (n := 22) (by decide +kernel) (by assumption) (by first | assumption | exact ix_nI (by omega) (by omega)) ?_
      refine z_ild1 (n := 23) (by decide +kernel) ?_
      refine z_icmp_ne (n := 26) (off := 10) (tgt := 33) (by decide +kernel) (fun c23 => ?_) (fun c23 => ?_)
      · refine z_inc2 (n := 36) (q := -1) (by decide +kernel) rfl (show nI u + Int32.ofInt (-1) = nI u - 1 by rw [Int32.sub_eq_add_neg]; rfl) ?_
        refine z_goto (n := 39) (off := -24) (tgt := 12) (by decide +kernel) ?_
        simpa [sgO, c23] using ih (by omega)
      · refine z_ald0 (n := 27) (by decide +kernel) ?_
        refine z_getf (n := 30) (idx := 15) (by decide +kernel) fl_X4_15 (by assumption) (by rfl) ?_
        refine z_ild2 (n := 31) (by decide +kernel) ?_
        refine z_iald (n := 32) (by decide +kernel) (by assumption) (by first | assumption | exact ix_nI (by omega) (by omega)) ?_
        refine z_iret (by decide +kernel) rfl (Nat.le_refl _) ?_
        exact ⟨by simp [sgO, c23], rfl⟩
  refine z_ald0 (n := 1) (by decide +kernel) ?_
  refine z_getf (n := 4) (idx := 22) (by decide +kernel) fl_X4_22 (by assumption) (by rfl) ?_
  refine z_bipush (n := 6) (q := 100) (v := 100) (by decide +kernel) ?_
  refine z_mmin (n := 9) (idx := 31) (by decide +kernel) jl_X4_31 (Nat.le_of_ble_eq_true rfl) (by omega) (Nat.le_refl _) (Nat.le_refl _) ?_
  refine z_top (show _ = nI s.1.2 from by by_cases e : s.1.2 = 100; (rw [e]; decide); exact if_neg (nI_nlt (a := 100) ht (by omega))) ?_
  refine z_iconst (n := 10) (q := 1) (v := 1) (by decide +kernel) ?_
  refine z_isub (n := 11) (by decide +kernel) ?_
  refine z_ist2 (n := 12) (by decide +kernel) rfl ?_
  exact main _ ht
end
section
/-! RULES of the mini machine: new cells -/
/-- the heap has k cells -/
def szH (h : mH) (k : Nat) : Prop := ∀ i, h i = dd ↔ k ≤ i
theorem szH_eq {h : mH} {k k' : Nat} (a : szH h k) (b : ∀ i, h i = dd ↔ k' ≤ i) : k = k' := by
  have h1 : k ≤ k' := (a k').mp ((b k').mpr (Nat.le_refl _))
  have h2 : k' ≤ k := (b k).mp ((a k).mpr (Nat.le_refl _))
  omega
theorem szH_push {h : mH} {k : Nat} {c : mE} (a : szH h k) (hc : c ≠ dd) : szH (hu h k c) (k + 1) := by
  intro i
  by_cases e : i = k
  · subst e
    rw [hu_s]
    exact ⟨fun q => absurd q hc, fun q => by omega⟩
  · rw [hu_n e, a i]
    omega
theorem szH_set {h : mH} {k a : Nat} {c : mE} (b : szH h k) (ha : a < k) (hc : c ≠ dd) : szH (hu h a c) k := by
  intro i
  by_cases e : i = a
  · subst e
    rw [hu_s]
    exact ⟨fun q => absurd q hc, fun q => by omega⟩
  · rw [hu_n e, b i]
def kC (own : String) (idx ci : Nat) (fs : List Value) : Prop := ∃ (C : String) (T : u_T) (N : Nat) (ty : Nat → FieldType), CL[ci]? = some (C, T, N) ∧ (∀ w ∈ u_ws C T N, w ∈ TB) ∧ (∀ k, k < N → parseFieldDescriptor (T k).2.2.1 = some (ty k)) ∧ Cond.classLink own idx C ∈ TB ∧ Cond.instantiable C N ∈ TB ∧ Cond.initialized C ∈ TB ∧ (∀ j, j < N → defaultValue (ty j) = vp_V fs j) ∧ fs.length = N ∧ (fs.all fun v => match v with | .ref _ => false | _ => true) = true
theorem tv_id (G : mG) : ∀ fs : List Value, (fs.all fun v => match v with | .ref _ => false | _ => true) = true → fs.map (tv G) = fs
  | [], _ => rfl
  | v :: fs, h => by
    simp only [List.all_cons, Bool.and_eq_true] at h
    rw [List.map_cons, tv_id G fs h.2]
    cases v <;> first | rfl | (simp at h)
section ZN
variable {G : mG} {M : mD} {d mc ms cs sl pc n : Nat} {lv : List (Option Value)} {st : List Value} {h : mH} {Q : Option Value → mH → Prop}
/-- the address of a new cell -/
theorem new_q {p : Program} {l : Launch} {e : Env} {R : Room} {s : State} {m : MethodId} {args : Array Value} {below : List Frame} {meth : Method} {c : Code} {K0 q sl' : Nat} {x : va_E} {H1 : Heap} {T : State} {locs : List Loc} (hsz : s.heap.size = gb G + K0) (hK : K0 + cs < 1048576) (hP1 : va_P (gD G) CL (wl G (K0 + cs) h ++ [(q, x)]) H1) (hD1 : va_D (inA G) (wl G (K0 + cs) h ++ [(q, x)])) (hT : T.heap = H1) (X : Stand p l e R s m args below meth c T locs (cs + 1) sl') : q = ad G (K0 + cs) := by
  have hl : (wl G (K0 + cs) h).length = K0 + cs := by simp [wl]
  have hg : (wl G (K0 + cs) h ++ [(q, x)])[K0 + cs]? = some (q, x) := by
    rw [List.getElem?_append_right (by omega), hl]
    simp
  have h1 := (hP1 _ _ hg).lt
  have h2 : T.heap.size ≤ s.heap.size + (cs + 1) := X.heapSize
  rw [hT] at h2
  have h3 : gb G ≤ q := hD1.2 _ _ hg
  rw [ad_lo hK]
  have h4 : q < H1.size := h1
  rcases Nat.lt_or_ge q (gb G + (K0 + cs)) with h5 | h5
  · obtain ⟨i, hi⟩ : ∃ i, q = gb G + i := ⟨q - gb G, by omega⟩
    have hi2 : i < K0 + cs := by omega
    have := hD1.1 i (K0 + cs) _ _ (by rw [List.getElem?_append_left (by omega)]; exact wl_get hi2) hg (by show ad G i = q; rw [ad_lo (by omega), hi])
    omega
  · omega
theorem z_new {idx ci k : Nat} {fs : List Value} (hd : dkb M pc (.new idx) 3 n = true) (hk : kC M.1.cls idx ci fs) (hz : szH h k) (hc : cs + 1 ≤ mc) (hs : sl + fs.length ≤ ms) (kk : Z G M d mc ms (cs + 1) (sl + fs.length) n lv (.ref k :: st) (hu h k (oB ci fs)) Q) : Z G M d mc ms cs sl pc lv st h Q := by
  obtain ⟨he, rfl⟩ := dk1 hd
  obtain ⟨C, T, N, ty, hcl, hin, hty, hlk, hins, hini, hdf, rfl, hnr⟩ := hk
  intro p e s m args below meth c K0 E H locs ls hk hk1 hP hS hl
  have ek := szH_eq hz hk
  subst ek
  have mem : ∀ w ∈ TB, w.before args s = true := fun w hw => E.2.2.2.2.2.1 w (List.mem_cons_of_mem _ hw)
  have hmc := E.2.2.2.2.2.2.2.2.2.1
  have hsz := E.2.2.2.2.2.2.2.2.1
  refine va_new (D := gD G) (ci := ci) (fs := fs) (C := C) (T := T) (N := fs.length) E.1 E.2.1 E.2.2.2.2.2.1 (fun w hw => List.mem_cons_of_mem _ (hin w hw)) ty hty E.2.2.2.2.1 (mem _ hlk) (mem _ hins) (mem _ hini) E.2.2.2.2.2.2.2.2.2.2.1 hP (wl_D hk1) hS (fun q hq => by show gb G ≤ q; omega) hcl hdf hc hs he (fun q H1 hP1 hD1 hS1 => ?_)
  intro T1 hT1 X
  have eq := new_q hsz (by omega) hP1 hD1 hT1 X
  subst eq
  have e2 : te G (oB ci fs) = .inr (ci, fs) := by
    show Sum.inr (ci, fs.map (tv G)) = _
    rw [tv_id G fs hnr]
  rw [← e2, ← wl_push] at hP1
  refine kk p e s m args below meth c K0 E H1 locs ls ?_ (by omega) hP1 hS1 hl T1 hT1 X
  have := szH_push (c := oB ci fs) hz oB_dd
  intro i
  rw [this i]
  omega
theorem jw_arr : Cond.arrayClass .int ∈ TB ∧ Cond.arrayClass .boolean ∈ TB := ⟨tb_at _ (by decide +kernel : lw_tbl[133]? = _) (by decide +kernel), tb_at _ (by decide +kernel : lw_tbl[134]? = _) (by decide +kernel)⟩
theorem z_newI {k N : Nat} (hd : dkb M pc (.newarray .int) 2 n = true) (hz : szH h k) (hN : N ≤ 1000) (hc : cs + 1 ≤ mc) (hs : sl + N ≤ ms) (kk : Z G M d mc ms (cs + 1) (sl + N) n lv (.ref k :: st) (hu h k (aI N (fun _ => 0))) Q) : Z G M d mc ms cs sl pc lv (.int (nI N) :: st) h Q := by
  obtain ⟨he, rfl⟩ := dk1 hd
  intro p e s m args below meth c K0 E H locs ls hk hk1 hP hS hl
  have ek := szH_eq hz hk
  subst ek
  have mem : ∀ w ∈ TB, w.before args s = true := fun w hw => E.2.2.2.2.2.1 w (List.mem_cons_of_mem _ hw)
  have hmc := E.2.2.2.2.2.2.2.2.2.1
  have hsz := E.2.2.2.2.2.2.2.2.1
  have hK := E.2.2.2.2.2.2.2.2.2.2.1
  refine va_newa (atype := .int) (ty := .int) (N' := N) (a0 := (N, .inl (fun _ => 0))) E.1 E.2.1 (mem _ jw_arr.1) rfl hK hP (wl_D hk1) hS (fun q hq => by show gb G ≤ q; omega) (fun cA => rfl) (nI_pos (by omega)) (nI_clamp (by omega)) (by show N * 4 ≤ _; omega) hc hs he (fun q cA H1 hK1 hP1 hD1 hS1 => ?_)
  intro T1 hT1 X
  have eA : cA = gA G 0 := by
    have h1 : s.vm.findClass _ = some cA := (hK1.2 4 _ rfl).2
    have h2 : s.vm.findClass _ = some (gA G 0) := (hK.2 0 _ rfl).2
    exact Option.some.inj (h1.symm.trans h2)
  have eq := new_q hsz (by omega) hP1 hD1 hT1 X
  subst eq
  subst eA
  have e2 : te G (aI N (fun _ => 0)) = .inl (gA G 0, N, .inl (fun _ => 0)) := rfl
  rw [← e2, ← wl_push] at hP1
  refine kk p e s m args below meth c K0 E H1 locs ls ?_ (by omega) hP1 hS1 hl T1 hT1 X
  have := szH_push (c := aI N (fun _ => 0)) hz aI_dd
  intro i
  rw [this i]
  omega
theorem z_newZ {k N : Nat} (hd : dkb M pc (.newarray .boolean) 2 n = true) (hz : szH h k) (hN : N ≤ 1000) (hc : cs + 1 ≤ mc) (hs : sl + N ≤ ms) (kk : Z G M d mc ms (cs + 1) (sl + N) n lv (.ref k :: st) (hu h k (aZ N (fun _ => false))) Q) : Z G M d mc ms cs sl pc lv (.int (nI N) :: st) h Q := by
  obtain ⟨he, rfl⟩ := dk1 hd
  intro p e s m args below meth c K0 E H locs ls hk hk1 hP hS hl
  have ek := szH_eq hz hk
  subst ek
  have mem : ∀ w ∈ TB, w.before args s = true := fun w hw => E.2.2.2.2.2.1 w (List.mem_cons_of_mem _ hw)
  have hmc := E.2.2.2.2.2.2.2.2.2.1
  have hsz := E.2.2.2.2.2.2.2.2.1
  have hK := E.2.2.2.2.2.2.2.2.2.2.1
  refine va_newa (atype := .boolean) (ty := .boolean) (N' := N) (a0 := (N, .inl (fun _ => 0))) E.1 E.2.1 (mem _ jw_arr.2) rfl hK hP (wl_D hk1) hS (fun q hq => by show gb G ≤ q; omega) (fun cA => rfl) (nI_pos (by omega)) (nI_clamp (by omega)) (by show N * 1 ≤ _; omega) hc hs he (fun q cA H1 hK1 hP1 hD1 hS1 => ?_)
  intro T1 hT1 X
  have eA : cA = gA G 1 := by
    have h1 : s.vm.findClass _ = some cA := (hK1.2 4 _ rfl).2
    have h2 : s.vm.findClass _ = some (gA G 1) := (hK.2 1 _ rfl).2
    exact Option.some.inj (h1.symm.trans h2)
  have eq := new_q hsz (by omega) hP1 hD1 hT1 X
  subst eq
  subst eA
  have e2 : te G (aZ N (fun _ => false)) = .inl (gA G 1, N, .inl (fun _ => 0)) := rfl
  rw [← e2, ← wl_push] at hP1
  refine kk p e s m args below meth c K0 E H1 locs ls ?_ (by omega) hP1 hS1 hl T1 hT1 X
  have := szH_push (c := aZ N (fun _ => false)) hz aZ_dd
  intro i
  rw [this i]
  omega
theorem z_newS {idx k N : Nat} (hd : dkb M pc (.anewarray idx) 3 n = true) (hw : Cond.classLink M.1.cls idx "CreasedPaper$Strip" ∈ TB) (hAO : ∀ U, gI G U → va_AO "CreasedPaper$Strip" U) (hz : szH h k) (hN : N ≤ 1000) (hc : cs + 1 ≤ mc) (hs : sl + N ≤ ms) (kk : Z G M d mc ms (cs + 1) (sl + N) n lv (.ref k :: st) (hu h k (aR 2 N (fun _ => none))) Q) : Z G M d mc ms cs sl pc lv (.int (nI N) :: st) h Q := by
  obtain ⟨he, rfl⟩ := dk1 hd
  intro p e s m args below meth c K0 E H locs ls hk hk1 hP hS hl
  have ek := szH_eq hz hk
  subst ek
  have mem : ∀ w ∈ TB, w.before args s = true := fun w hw => E.2.2.2.2.2.1 w (List.mem_cons_of_mem _ hw)
  have hmc := E.2.2.2.2.2.2.2.2.2.1
  have hsz := E.2.2.2.2.2.2.2.2.1
  have hK := E.2.2.2.2.2.2.2.2.2.2.1
  refine va_newq (N' := N) E.1 E.2.1 E.2.2.2.2.1 (mem _ hw) (hAO s E.2.2.2.2.2.2.2.2.2.2.2.2) hK hP (wl_D hk1) hS (fun q hq => by show gb G ≤ q; omega) (nI_pos (by omega)) (nI_clamp (by omega)) (by omega) hc hs he (fun q cA H1 hK1 hP1 hD1 hS1 => ?_)
  intro T1 hT1 X
  have eA : cA = gA G 2 := by
    obtain ⟨_, _, _, _, _, h1⟩ := (hK1.2 4 _ rfl).2
    obtain ⟨_, _, _, _, _, h2⟩ := (hK.2 2 _ rfl).2
    exact Option.some.inj (h1.symm.trans h2)
  have eq := new_q hsz (by omega) hP1 hD1 hT1 X
  subst eq
  subst eA
  have e2 : te G (aR 2 N (fun _ => none)) = .inl (gA G 2, N, .inr (.inr (.inr (.inr (fun _ => none))))) := rfl
  rw [← e2, ← wl_push] at hP1
  refine kk p e s m args below meth c K0 E H1 locs ls ?_ (by omega) hP1 hS1 hl T1 hT1 X
  have := szH_push (c := aR 2 N (fun _ => none)) hz aR_dd
  intro i
  rw [this i]
  omega
theorem z_aast {a N j y : Nat} {f : Nat → Option Nat} {i : Int32} {fs : List Value} (hd : dkb M pc .aastore 1 n = true) (ho : h a = aR 2 N f) (hy : h y = oB 7 fs) (hi : ix i j N) (kk : Z G M d mc ms cs sl n lv st (hu h a (aR 2 N (va_up f j (some y)))) Q) : Z G M d mc ms cs sl pc lv (.ref y :: .int i :: .ref a :: st) h Q := by
  obtain ⟨he, rfl⟩ := dk1 hd
  obtain ⟨rfl, hin⟩ := hi
  intro p e s m args below meth c K0 E H locs ls hk hk1 hP hS hl
  have ha := lv_lt_of hk ho aR_dd
  have hb := lv_lt_of hk hy oB_dd
  refine va_astq (r := ("CreasedPaper$Strip", kT7, 6)) (ci := 7) (f := fun j => (f j).map (ad G)) E.1 E.2.1 E.2.2.2.2.2.2.2.2.2.2.1 hP (wl_D hk1) hS a 2 y (by rw [wl_get ha, ho]; rfl) rfl (vs := fs.map (tv G)) (by rw [wl_get hb, hy]; rfl) rfl hin he (fun H1 locs1 hP1 hD1 hS1 => ?_)
  have e2 : va_up (fun j => (f j).map (ad G)) i.toNatClampNeg (some (ad G y)) = fun j => (va_up f i.toNatClampNeg (some y) j).map (ad G) := by
    funext q
    by_cases hq : q = i.toNatClampNeg
    · subst hq; simp [va_up]
    · simp [va_up, hq]
  have e1 : (wl G (K0 + cs) h).set a (ad G a, .inl (gA G 2, N, .inr (.inr (.inr (.inr (va_up (fun j => (f j).map (ad G)) i.toNatClampNeg (some (ad G y)))))))) = wl G (K0 + cs) (hu h a (aR 2 N (va_up f i.toNatClampNeg (some y)))) := by
    rw [← wl_set, e2]
    rfl
  rw [e1] at hP1
  exact kk p e s m args below meth c K0 E H1 locs1 ls (hu_dd hk ho aR_dd aR_dd) hk1 hP1 hS1 hl
theorem jw_obj : Cond.instanceMethod Lib.objectInit ∈ TB ∧ Cond.code Lib.objectInit ⟨#[0xb1]⟩ 1 none ∈ TB := ⟨tb_at _ (by decide +kernel : lw_tbl[81]? = _) (by decide +kernel), tb_at _ (by decide +kernel : lw_tbl[82]? = _) (by decide +kernel)⟩
theorem z_objI {idx a : Nat} (hd : dkb M pc (.invokespecial idx) 3 n = true) (hw : Cond.methodLink M.1.cls idx Lib.objectInit ∈ TB) (hcat : (st.map fun v => v.category).sum ≤ 8) (hr : 1 ≤ d) (kk : Z G M d mc ms cs sl n lv st h Q) : Z G M d mc ms cs sl pc lv (.ref a :: st) h Q := by
  obtain ⟨he, rfl⟩ := dk1 hd
  intro p e s m args below meth c K0 E H locs ls hk hk1 hP hS hl
  have mem : ∀ w ∈ TB, w.before args s = true := fun w hw => E.2.2.2.2.2.1 w (List.mem_cons_of_mem _ hw)
  refine W.objInit E.1 E.2.1 E.2.2.2.2.1 (mem _ hw) (mem _ jw_obj.1) (mem _ jw_obj.2) rfl (by rw [E.2.2.1]; exact hl.1) rfl he hr (by show 2 * 0 + _ + 12 ≤ 40 * d; rw [tv_sum]; omega) ?_
  exact kk p e s m args below meth c K0 E H locs ls hk hk1 hP hS hl
theorem z_callN {M' : mD} {idx np a d' mc' ms' : Nat} {host : String} {As rest : List Value} {Q' : Option Value → mH → Prop} (hd : dkb M pc (.invokespecial idx) 3 n = true) (hv : cN M.1.cls idx M' np host) (hnw : ∀ U, gI G U → va_Nw (.methodLinkNest M.1.cls idx M'.1 host) U) (hM : M'.2.2.2 = none ∧ M'.1.name = "<init>") (hnp : As.length = np) (hst : st = As.reverse ++ .ref a :: rest) (hcat : (rest.map fun v => v.category).sum ≤ 8)
    (hrm : d' + 1 ≤ d) (hcs : cs + mc' ≤ mc) (hsl : sl + ms' ≤ ms) (ev : EV G M' d' mc' ms' (.ref a :: As) h Q') (kk : ∀ (r : Option Value) (h' : mH), Q' r h' → Z G M d mc ms (cs + mc') (sl + ms') n lv (r.toList ++ rest) h' Q) : Z G M d mc ms cs sl pc lv st h Q := by
  obtain ⟨he, rfl⟩ := dk1 hd
  obtain ⟨hC, -, hin⟩ := hv
  subst hst
  intro p e s m args below meth c K0 E H locs ls hk hk1 hP hS hl
  have hx := E.2.2.2.2.2.1
  have mem : ∀ w ∈ TB, w.before args s = true := fun w hw => hx w (List.mem_cons_of_mem _ hw)
  intro T hT X
  have hpre := en_pre (mc' := mc') E hcs hk hP hS hT X hk1
  have hcb : va_CN (rmm d mc ms) s args M.1.cls idx M'.1 host M'.2.1 M'.2.2.1 none (wS M') (rmm d' mc' ms') mc' ms' np := by
    have := va_cnB (R := rmm d mc ms) (rm := rmm d' mc' ms') (mc := mc') (ms := ms') (own := M.1.cls) (host := host) (index := idx) np hx (wS_good hC) rfl rfl rfl (hnw s E.2.2.2.2.2.2.2.2.2.2.2.2) (mem _ hC.2.1) hC.2.2.1 ⟨hrm, by show 8 + (M'.2.2.1 + 11) + 40 * d' ≤ 40 * d; have := hC.2.2.2; omega⟩
    rw [hM.1] at this
    exact this
  have hrun := va_runIN (e := e) (meth := meth) (below := below) (locs := locs) (cells := cs) (slots := sl) (H := H) (g := F0 m pc ls ((As.reverse ++ .ref a :: rest).map (tv G))) (b := ad G a) (As := As.map (tv G)) (rest := rest.map (tv G)) (nL := M.2.2.1) ⟨E.1, E.2.1, E.2.2.1, E.2.2.2.2.1, hx⟩ (ev (K0 + cs)) ⟨hcb, hM.2, mem _ hin⟩
    ⟨mB_blind G _ h (K0 + cs) mc', fun U hU hW => ⟨rfl, hpre U hU hW⟩⟩ rfl (by rw [List.length_map]; exact hnp) hl.1 (by simp [List.map_reverse, tv]) (by
      refine lv_room ?_
      rw [tv_sum]; exact hcat) he ⟨hcs, hsl⟩
  exact z_back E hcs hS hl hrun kk T hT X
end ZN
end
section
/-! constructors: the rows for new objects -/
theorem kc_L_7 : kC "CreasedPaperLaw" 7 10 [.null, .null, .null, .null, .null, .null, .null, .null, .null, .null, .null] := ⟨_, _, _, kt10, rfl, kw10, kp10, kl_L_7, tb_at (w := .instantiable "CreasedPaper" 11) 76 (by decide +kernel) (by decide +kernel), tb_at (w := .initialized "CreasedPaper") 57 (by decide +kernel) (by decide +kernel), by decide +kernel, rfl, rfl⟩
theorem kc_X10_18 : kC "CreasedPaper" 18 2 [.null, .null, .int 0, .int 0, .int 0, .int 0, .int 0, .int 0] := ⟨_, _, _, kt2, rfl, kw2, kp2, kl_X10_18, tb_at (w := .instantiable "CreasedPaper$Paper" 8) 90 (by decide +kernel) (by decide +kernel), tb_at (w := .initialized "CreasedPaper$Paper") 59 (by decide +kernel) (by decide +kernel), by decide +kernel, rfl, rfl⟩
theorem kc_X2_24 : kC "CreasedPaper$Paper" 24 7 [.null, .null, .null, .int 0, .null, .int 0] := ⟨_, _, _, kt7, rfl, kw7, kp7, kl_X2_24, tb_at (w := .instantiable "CreasedPaper$Strip" 6) 96 (by decide +kernel) (by decide +kernel), tb_at (w := .initialized "CreasedPaper$Strip") 60 (by decide +kernel) (by decide +kernel), by decide +kernel, rfl, rfl⟩
theorem kc_X2_33 : kC "CreasedPaper$Paper" 33 0 [.null, .null, .null, .null, .null, .null] := ⟨_, _, _, kt0, rfl, kw0, kp0, kl_X2_33, tb_at (w := .instantiable "CreasedPaper$Creases" 6) 136 (by decide +kernel) (by decide +kernel), tb_at (w := .initialized "CreasedPaper$Creases") 61 (by decide +kernel) (by decide +kernel), by decide +kernel, rfl, rfl⟩
theorem kc_X10_30 : kC "CreasedPaper" 30 6 [.int 0, .null, .null, .null, .null, .null] := ⟨_, _, _, kt6, rfl, kw6, kp6, kl_X10_30, tb_at (w := .instantiable "CreasedPaper$Sheets" 6) 204 (by decide +kernel) (by decide +kernel), tb_at (w := .initialized "CreasedPaper$Sheets") 62 (by decide +kernel) (by decide +kernel), by decide +kernel, rfl, rfl⟩
theorem kc_X10_40 : kC "CreasedPaper" 40 4 [.int 0, .int 0, .null, .null] := ⟨_, _, _, kt4, rfl, kw4, kp4, kl_X10_40, tb_at (w := .instantiable "CreasedPaper$Seen" 4) 230 (by decide +kernel) (by decide +kernel), tb_at (w := .initialized "CreasedPaper$Seen") 63 (by decide +kernel) (by decide +kernel), by decide +kernel, rfl, rfl⟩
theorem kc_X10_50 : kC "CreasedPaper" 50 8 [.null, .int 0, .int 0, .int 0, .int 0, .int 0] := ⟨_, _, _, kt8, rfl, kw8, kp8, kl_X10_50, tb_at (w := .instantiable "CreasedPaper$Tape" 6) 251 (by decide +kernel) (by decide +kernel), tb_at (w := .initialized "CreasedPaper$Tape") 64 (by decide +kernel) (by decide +kernel), by decide +kernel, rfl, rfl⟩
theorem kc_X10_57 : kC "CreasedPaper" 57 9 [.int 0, .int 0, .int 0, .int 0, .null, .null, .null, .null, .null, .null, .int 0, .int 0, .int 0] := ⟨_, _, _, kt9, rfl, kw9, kp9, kl_X10_57, tb_at (w := .instantiable "CreasedPaper$Text" 13) 280 (by decide +kernel) (by decide +kernel), tb_at (w := .initialized "CreasedPaper$Text") 65 (by decide +kernel) (by decide +kernel), by decide +kernel, rfl, rfl⟩
theorem kc_X10_64 : kC "CreasedPaper" 64 5 [.int 0, .int 0, .int 0, .null] := ⟨_, _, _, kt5, rfl, kw5, kp5, kl_X10_64, tb_at (w := .instantiable "CreasedPaper$Shapes" 4) 330 (by decide +kernel) (by decide +kernel), tb_at (w := .initialized "CreasedPaper$Shapes") 66 (by decide +kernel) (by decide +kernel), by decide +kernel, rfl, rfl⟩
theorem kc_X10_71 : kC "CreasedPaper" 71 1 [.null, .null, .null, .int 0, .int 0, .int 0] := ⟨_, _, _, kt1, rfl, kw1, kp1, kl_X10_71, tb_at (w := .instantiable "CreasedPaper$Panels" 6) 352 (by decide +kernel) (by decide +kernel), tb_at (w := .initialized "CreasedPaper$Panels") 67 (by decide +kernel) (by decide +kernel), by decide +kernel, rfl, rfl⟩
theorem kc_X10_78 : kC "CreasedPaper" 78 3 [.null, .null, .null, .null, .null, .int 0, .int 0, .int 0, .int 0] := ⟨_, _, _, kt3, rfl, kw3, kp3, kl_X10_78, tb_at (w := .instantiable "CreasedPaper$Search" 9) 378 (by decide +kernel) (by decide +kernel), tb_at (w := .initialized "CreasedPaper$Search") 68 (by decide +kernel) (by decide +kernel), by decide +kernel, rfl, rfl⟩
theorem kc_X3_15 : kC "CreasedPaper$Search" 15 7 [.null, .null, .null, .int 0, .null, .int 0] := ⟨_, _, _, kt7, rfl, kw7, kp7, kl_X3_15, tb_at (w := .instantiable "CreasedPaper$Strip" 6) 96 (by decide +kernel) (by decide +kernel), tb_at (w := .initialized "CreasedPaper$Strip") 60 (by decide +kernel) (by decide +kernel), by decide +kernel, rfl, rfl⟩
theorem kc_L_18 : kC "CreasedPaperLaw" 18 11 [.int 0, .null, .null, .null, .null, .int 0, .int 0, .int 0, .int 0, .int 0, .int 0, .int 0, .int 0, .long 0, .null, .null, .null, .null, .int 0, .int 0, .null, .null, .null, .null, .null, .null, .null, .null, .null] := ⟨_, _, _, kt11, rfl, kw11, kp11, kl_L_18, tb_at (w := .instantiable "CreasedPaperModel" 29) 980 (by decide +kernel) (by decide +kernel), tb_at (w := .initialized "CreasedPaperModel") 69 (by decide +kernel) (by decide +kernel), by decide +kernel, rfl, rfl⟩
section ZJ
variable {G : mG} {M : mD} {d mc ms cs sl pc n : Nat} {lv : List (Option Value)} {st : List Value} {h : mH} {Q : Option Value → mH → Prop}
theorem z_j0 {M' : mD} {idx a d' mc' ms' : Nat} {rest : List Value} {P : mH → Prop} (hd : dkb M pc (.invokespecial idx) 3 n = true) (hv : cI M.1.cls idx M' 0) (hM : M'.2.2.2 = none ∧ M'.1.name = "<init>") (hcat : (rest.map fun v => v.category).sum ≤ 8) (hrm : d' + 1 ≤ d) (hb : cs + mc' ≤ mc ∧ sl + ms' ≤ ms) (ev : EV G M' d' mc' ms' [.ref a] h (fun r h' => r = none ∧ P h')) (kk : ∀ h1, P h1 → Z G M d mc ms (cs + mc') (sl + ms') n lv rest h1 Q) : Z G M d mc ms cs sl pc lv (.ref a :: rest) h Q :=
  z_callI (As := []) (rest := rest) hd hv hM rfl rfl hcat hrm hb.1 hb.2 ev (fun r h' hq => by obtain ⟨rfl, hp⟩ := hq; exact kk h' hp)
theorem z_k0 {M' : mD} {idx a d' mc' ms' : Nat} {host : String} {rest : List Value} {P : mH → Prop} (hd : dkb M pc (.invokespecial idx) 3 n = true) (hv : cN M.1.cls idx M' 0 host) (hnw : ∀ U, gI G U → va_Nw (.methodLinkNest M.1.cls idx M'.1 host) U) (hM : M'.2.2.2 = none ∧ M'.1.name = "<init>") (hcat : (rest.map fun v => v.category).sum ≤ 8) (hrm : d' + 1 ≤ d) (hb : cs + mc' ≤ mc ∧ sl + ms' ≤ ms) (ev : EV G M' d' mc' ms' [.ref a] h (fun r h' => r = none ∧ P h')) (kk : ∀ h1, P h1 → Z G M d mc ms (cs + mc') (sl + ms') n lv rest h1 Q) : Z G M d mc ms cs sl pc lv (.ref a :: rest) h Q :=
  z_callN (As := []) (rest := rest) hd hv hnw hM rfl rfl hcat hrm hb.1 hb.2 ev (fun r h' hq => by obtain ⟨rfl, hp⟩ := hq; exact kk h' hp)
theorem z_j1 {M' : mD} {idx a d' mc' ms' : Nat} {rest : List Value} {v1 : Value} {P : mH → Prop} (hd : dkb M pc (.invokespecial idx) 3 n = true) (hv : cI M.1.cls idx M' 1) (hM : M'.2.2.2 = none ∧ M'.1.name = "<init>") (hcat : (rest.map fun v => v.category).sum ≤ 8) (hrm : d' + 1 ≤ d) (hb : cs + mc' ≤ mc ∧ sl + ms' ≤ ms) (ev : EV G M' d' mc' ms' [.ref a, v1] h (fun r h' => r = none ∧ P h')) (kk : ∀ h1, P h1 → Z G M d mc ms (cs + mc') (sl + ms') n lv rest h1 Q) : Z G M d mc ms cs sl pc lv (v1 :: .ref a :: rest) h Q :=
  z_callI (As := [v1]) (rest := rest) hd hv hM rfl rfl hcat hrm hb.1 hb.2 ev (fun r h' hq => by obtain ⟨rfl, hp⟩ := hq; exact kk h' hp)
theorem z_k1 {M' : mD} {idx a d' mc' ms' : Nat} {host : String} {rest : List Value} {v1 : Value} {P : mH → Prop} (hd : dkb M pc (.invokespecial idx) 3 n = true) (hv : cN M.1.cls idx M' 1 host) (hnw : ∀ U, gI G U → va_Nw (.methodLinkNest M.1.cls idx M'.1 host) U) (hM : M'.2.2.2 = none ∧ M'.1.name = "<init>") (hcat : (rest.map fun v => v.category).sum ≤ 8) (hrm : d' + 1 ≤ d) (hb : cs + mc' ≤ mc ∧ sl + ms' ≤ ms) (ev : EV G M' d' mc' ms' [.ref a, v1] h (fun r h' => r = none ∧ P h')) (kk : ∀ h1, P h1 → Z G M d mc ms (cs + mc') (sl + ms') n lv rest h1 Q) : Z G M d mc ms cs sl pc lv (v1 :: .ref a :: rest) h Q :=
  z_callN (As := [v1]) (rest := rest) hd hv hnw hM rfl rfl hcat hrm hb.1 hb.2 ev (fun r h' hq => by obtain ⟨rfl, hp⟩ := hq; exact kk h' hp)
end ZJ
end
section
/-! constructors -/
theorem szH_of {h h' : mH} {S n : Nat} (hz : szH h (S + 1)) (hf : ∀ j, j < S → h' j = h j) (hg : ∀ j, S + n < j → h' j = h j) (hc : ∀ j, j ≤ n → h' (S + j) ≠ dd) : szH h' (S + n + 1) := by
  intro i
  by_cases h1 : i < S
  · rw [hf i h1, hz i]; omega
  · by_cases h2 : S + n < i
    · rw [hg i h2, hz i]; omega
    · have h3 := hc (i - S) (by omega)
      rw [show S + (i - S) = i by omega] at h3
      exact ⟨fun q => absurd q h3, fun q => by omega⟩
theorem i_strip {G : mG} {h : mH} {S N : Nat} (d : Nat) (hd : 2 ≤ d) (hz : szH h (S + 1)) (hS : h S = oB 7 [.null, .null, .null, .int 0, .null, .int 0]) (hN : N ≤ 40) : EV G m_X7_init d 4 160 [.ref S, .int (nI N)] h (fun r h' => r = none ∧ (∀ j, j < S → h' j = h j) ∧ szH h' (S + 5) ∧ h' S = oStrip S (nI N) 0 ∧ h' (S + 1) = aI N (cpN nI (fun _ => 0) N) ∧ h' (S + 2) = aI N (cpN (fun _ => 0) (fun _ => 0) N) ∧ h' (S + 3) = aZ N (cpN (fun _ => true) (fun _ => false) N) ∧ h' (S + 4) = aI N (fun _ => 0)) := by
  refine ev_2_0 rfl rfl (by decide +kernel) (by decide +kernel) ?_
  refine z_ald0 (n := 1) (by decide +kernel) ?_
  refine z_objI (n := 4) (idx := 3) (by decide +kernel) jl_X7_3 (Nat.le_of_ble_eq_true rfl) (by omega) ?_
  refine z_ald0 (n := 5) (by decide +kernel) ?_
  refine z_ild1 (n := 6) (by decide +kernel) ?_
  refine z_newI (n := 8) (k := S + 1) (N := N) (by decide +kernel) (by intro i9; (try simp only [hFl, hu]); (repeat' split); all_goals first | exact hz i9 | (rw [hz i9]; omega) | (constructor <;> intro q9 <;> first | omega | cases q9)) (by omega) (by first | omega | (simp only [List.length]; omega)) (by first | omega | (simp only [List.length]; omega)) ?_
  refine z_putF (n := 11) (idx := 9) (ty := (.array .int)) (by decide +kernel) fl_X7_9 (by first | assumption | (simp (disch := omega) only [hu_s, hu_n]; first | assumption | rfl)) ⟨_, _, _, rfl, rfl, rfl, by decide +kernel⟩ rfl rfl (Nat.le_of_ble_eq_true rfl) ?_
  refine z_ald0 (n := 12) (by decide +kernel) ?_
  refine z_ild1 (n := 13) (by decide +kernel) ?_
  refine z_newI (n := 15) (k := S + 2) (N := N) (by decide +kernel) (by intro i9; (try simp only [hFl, hu]); (repeat' split); all_goals first | exact hz i9 | (rw [hz i9]; omega) | (constructor <;> intro q9 <;> first | omega | cases q9)) (by omega) (by first | omega | (simp only [List.length]; omega)) (by first | omega | (simp only [List.length]; omega)) ?_
  refine z_putF (n := 18) (idx := 15) (ty := (.array .int)) (by decide +kernel) fl_X7_15 (by first | assumption | (simp (disch := omega) only [hu_s, hu_n]; first | assumption | rfl)) ⟨_, _, _, rfl, rfl, rfl, by decide +kernel⟩ rfl rfl (Nat.le_of_ble_eq_true rfl) ?_
  refine z_ald0 (n := 19) (by decide +kernel) ?_
  refine z_ild1 (n := 20) (by decide +kernel) ?_
  refine z_newZ (n := 22) (k := S + 3) (N := N) (by decide +kernel) (by intro i9; (try simp only [hFl, hu]); (repeat' split); all_goals first | exact hz i9 | (rw [hz i9]; omega) | (constructor <;> intro q9 <;> first | omega | cases q9)) (by omega) (by first | omega | (simp only [List.length]; omega)) (by first | omega | (simp only [List.length]; omega)) ?_
  refine z_putF (n := 25) (idx := 18) (ty := (.array .boolean)) (by decide +kernel) fl_X7_18 (by first | assumption | (simp (disch := omega) only [hu_s, hu_n]; first | assumption | rfl)) ⟨_, _, _, rfl, rfl, rfl, by decide +kernel⟩ rfl rfl (Nat.le_of_ble_eq_true rfl) ?_
  refine z_ald0 (n := 26) (by decide +kernel) ?_
  refine z_ild1 (n := 27) (by decide +kernel) ?_
  refine z_newI (n := 29) (k := S + 4) (N := N) (by decide +kernel) (by intro i9; (try simp only [hFl, hu]); (repeat' split); all_goals first | exact hz i9 | (rw [hz i9]; omega) | (constructor <;> intro q9 <;> first | omega | cases q9)) (by omega) (by first | omega | (simp only [List.length]; omega)) (by first | omega | (simp only [List.length]; omega)) ?_
  refine z_putF (n := 32) (idx := 22) (ty := (.array .int)) (by decide +kernel) fl_X7_22 (by first | assumption | (simp (disch := omega) only [hu_s, hu_n]; first | assumption | rfl)) ⟨_, _, _, rfl, rfl, rfl, by decide +kernel⟩ rfl rfl (Nat.le_of_ble_eq_true rfl) ?_
  refine z_ald0 (n := 33) (by decide +kernel) ?_
  refine z_ild1 (n := 34) (by decide +kernel) ?_
  refine z_v1v (n := 37) (idx := 25) (by decide +kernel) ml_X7_25 (by first | assumption | (simp (disch := omega) only [hu_s, hu_n]; first | assumption | rfl)) rfl (Nat.le_of_ble_eq_true rfl) (by omega) ⟨by omega, by omega⟩ (k_layFlat (N := N) (sz := 0) (tl := 0) (pl := fun _ => 0) (ly := fun _ => 0) (up := fun _ => false) 1 (by omega) (by simp (disch := omega) only [hTn, hCr, hFl, hu_s, hu_n]; first | done | assumption | rfl) (by simp (disch := omega) only [hTn, hCr, hFl, hu_s, hu_n]; first | done | assumption | rfl) (by simp (disch := omega) only [hTn, hCr, hFl, hu_s, hu_n]; first | done | assumption | rfl) (by simp (disch := omega) only [hTn, hCr, hFl, hu_s, hu_n]; first | done | assumption | rfl) (Nat.le_refl _) (by omega)) ?_
  refine z_vret (by decide +kernel) rfl (by first | omega | (simp only [List.length]; omega)) ?_
  exact ⟨rfl, by intro j9 hj9; simp (disch := omega) only [hFl, hu_n], (szH_of (n := 4) hz (by intro j9 hj9; simp (disch := omega) only [hFl, hu_n]) (by intro j9 hj9; simp (disch := omega) only [hFl, hu_n]) (by intro j9 hj9; rcases (show j9 = 0 ∨ j9 = 1 ∨ j9 = 2 ∨ j9 = 3 ∨ j9 = 4 by omega) with rfl | rfl | rfl | rfl | rfl <;> (simp (disch := omega) only [Nat.add_zero, hFl, hu_s, hu_n]; first | exact oB_dd | exact aI_dd | exact aZ_dd | exact aR_dd))), (by simp (disch := omega) only [hTn, hCr, hFl, hu_s, hu_n]; first | done | assumption | rfl), (by simp (disch := omega) only [hTn, hCr, hFl, hu_s, hu_n]; first | done | assumption | rfl), (by simp (disch := omega) only [hTn, hCr, hFl, hu_s, hu_n]; first | done | assumption | rfl), (by simp (disch := omega) only [hTn, hCr, hFl, hu_s, hu_n]; first | done | assumption | rfl), (by simp (disch := omega) only [hTn, hCr, hFl, hu_s, hu_n]; first | done | assumption | rfl)⟩

theorem i_creases {G : mG} {h : mH} {S N : Nat} (d : Nat) (hd : 1 ≤ d) (hz : szH h (S + 1)) (hS : h S = oB 0 [.null, .null, .null, .null, .null, .null]) (hN : N ≤ 40) : EV G m_X0_init d 6 240 [.ref S, .int (nI N)] h (fun r h' => r = none ∧ (∀ j, j < S → h' j = h j) ∧ szH h' (S + 7) ∧ h' S = oCre S ∧ h' (S + 1) = aI N (fun _ => 0) ∧ h' (S + 2) = aI N (fun _ => 0) ∧ h' (S + 3) = aI N (fun _ => 0) ∧ h' (S + 4) = aI N (cpN (fun _ => -1) (fun _ => 0) N) ∧ h' (S + 5) = aI N (cpN (fun _ => -1) (fun _ => 0) N) ∧ h' (S + 6) = aZ N (fun _ => false)) := by
  refine ev_2_1 rfl rfl (by decide +kernel) (by decide +kernel) ?_
  refine z_ald0 (n := 1) (by decide +kernel) ?_
  refine z_objI (n := 4) (idx := 3) (by decide +kernel) jl_X0_3 (Nat.le_of_ble_eq_true rfl) (by omega) ?_
  refine z_ald0 (n := 5) (by decide +kernel) ?_
  refine z_ild1 (n := 6) (by decide +kernel) ?_
  refine z_newI (n := 8) (k := S + 1) (N := N) (by decide +kernel) (by intro i9; (try simp only [hFl, hu]); (repeat' split); all_goals first | exact hz i9 | (rw [hz i9]; omega) | (constructor <;> intro q9 <;> first | omega | cases q9)) (by omega) (by first | omega | (simp only [List.length]; omega)) (by first | omega | (simp only [List.length]; omega)) ?_
  refine z_putF (n := 11) (idx := 9) (ty := (.array .int)) (by decide +kernel) fl_X0_9 (by first | assumption | (simp (disch := omega) only [hu_s, hu_n]; first | assumption | rfl)) ⟨_, _, _, rfl, rfl, rfl, by decide +kernel⟩ rfl rfl (Nat.le_of_ble_eq_true rfl) ?_
  refine z_ald0 (n := 12) (by decide +kernel) ?_
  refine z_ild1 (n := 13) (by decide +kernel) ?_
  refine z_newI (n := 15) (k := S + 2) (N := N) (by decide +kernel) (by intro i9; (try simp only [hFl, hu]); (repeat' split); all_goals first | exact hz i9 | (rw [hz i9]; omega) | (constructor <;> intro q9 <;> first | omega | cases q9)) (by omega) (by first | omega | (simp only [List.length]; omega)) (by first | omega | (simp only [List.length]; omega)) ?_
  refine z_putF (n := 18) (idx := 15) (ty := (.array .int)) (by decide +kernel) fl_X0_15 (by first | assumption | (simp (disch := omega) only [hu_s, hu_n]; first | assumption | rfl)) ⟨_, _, _, rfl, rfl, rfl, by decide +kernel⟩ rfl rfl (Nat.le_of_ble_eq_true rfl) ?_
  refine z_ald0 (n := 19) (by decide +kernel) ?_
  refine z_ild1 (n := 20) (by decide +kernel) ?_
  refine z_newI (n := 22) (k := S + 3) (N := N) (by decide +kernel) (by intro i9; (try simp only [hFl, hu]); (repeat' split); all_goals first | exact hz i9 | (rw [hz i9]; omega) | (constructor <;> intro q9 <;> first | omega | cases q9)) (by omega) (by first | omega | (simp only [List.length]; omega)) (by first | omega | (simp only [List.length]; omega)) ?_
  refine z_putF (n := 25) (idx := 18) (ty := (.array .int)) (by decide +kernel) fl_X0_18 (by first | assumption | (simp (disch := omega) only [hu_s, hu_n]; first | assumption | rfl)) ⟨_, _, _, rfl, rfl, rfl, by decide +kernel⟩ rfl rfl (Nat.le_of_ble_eq_true rfl) ?_
  refine z_ald0 (n := 26) (by decide +kernel) ?_
  refine z_ild1 (n := 27) (by decide +kernel) ?_
  refine z_newI (n := 29) (k := S + 4) (N := N) (by decide +kernel) (by intro i9; (try simp only [hFl, hu]); (repeat' split); all_goals first | exact hz i9 | (rw [hz i9]; omega) | (constructor <;> intro q9 <;> first | omega | cases q9)) (by omega) (by first | omega | (simp only [List.length]; omega)) (by first | omega | (simp only [List.length]; omega)) ?_
  refine z_putF (n := 32) (idx := 21) (ty := (.array .int)) (by decide +kernel) fl_X0_21 (by first | assumption | (simp (disch := omega) only [hu_s, hu_n]; first | assumption | rfl)) ⟨_, _, _, rfl, rfl, rfl, by decide +kernel⟩ rfl rfl (Nat.le_of_ble_eq_true rfl) ?_
  refine z_ald0 (n := 33) (by decide +kernel) ?_
  refine z_ild1 (n := 34) (by decide +kernel) ?_
  refine z_newI (n := 36) (k := S + 5) (N := N) (by decide +kernel) (by intro i9; (try simp only [hFl, hu]); (repeat' split); all_goals first | exact hz i9 | (rw [hz i9]; omega) | (constructor <;> intro q9 <;> first | omega | cases q9)) (by omega) (by first | omega | (simp only [List.length]; omega)) (by first | omega | (simp only [List.length]; omega)) ?_
  refine z_putF (n := 39) (idx := 24) (ty := (.array .int)) (by decide +kernel) fl_X0_24 (by first | assumption | (simp (disch := omega) only [hu_s, hu_n]; first | assumption | rfl)) ⟨_, _, _, rfl, rfl, rfl, by decide +kernel⟩ rfl rfl (Nat.le_of_ble_eq_true rfl) ?_
  refine z_ald0 (n := 40) (by decide +kernel) ?_
  refine z_ild1 (n := 41) (by decide +kernel) ?_
  refine z_newZ (n := 43) (k := S + 6) (N := N) (by decide +kernel) (by intro i9; (try simp only [hFl, hu]); (repeat' split); all_goals first | exact hz i9 | (rw [hz i9]; omega) | (constructor <;> intro q9 <;> first | omega | cases q9)) (by omega) (by first | omega | (simp only [List.length]; omega)) (by first | omega | (simp only [List.length]; omega)) ?_
  refine z_putF (n := 46) (idx := 27) (ty := (.array .boolean)) (by decide +kernel) fl_X0_27 (by first | assumption | (simp (disch := omega) only [hu_s, hu_n]; first | assumption | rfl)) ⟨_, _, _, rfl, rfl, rfl, by decide +kernel⟩ rfl rfl (Nat.le_of_ble_eq_true rfl) ?_
  refine z_iconst (n := 47) (q := 0) (v := 0) (by decide +kernel) ?_
  refine z_ist2 (n := 48) (by decide +kernel) rfl ?_
  skip
  have key : ∀ u, u ≤ N → ∀ h1 : mH, (∀ j, j < S → h1 j = h j) → (∀ j, S + 6 < j → h1 j = h j) → h1 S = oCre S → h1 (S + 1) = aI N (fun _ => 0) → h1 (S + 2) = aI N (fun _ => 0) → h1 (S + 3) = aI N (fun _ => 0) → h1 (S + 4) = aI N (cpN (fun _ => -1) (fun _ => 0) u) → h1 (S + 5) = aI N (cpN (fun _ => -1) (fun _ => 0) u) → h1 (S + 6) = aZ N (fun _ => false) → Z G m_X0_init d 6 240 (0 + 1 + 1 + 1 + 1 + 1 + 1) (0 + N + N + N + N + N + N) 48 [some (.ref S), some (.int (nI N)), some (.int (nI u))] [] h1 (fun r h' => r = none ∧ (∀ j, j < S → h' j = h j) ∧ szH h' (S + 7) ∧ h' S = oCre S ∧ h' (S + 1) = aI N (fun _ => 0) ∧ h' (S + 2) = aI N (fun _ => 0) ∧ h' (S + 3) = aI N (fun _ => 0) ∧ h' (S + 4) = aI N (cpN (fun _ => -1) (fun _ => 0) N) ∧ h' (S + 5) = aI N (cpN (fun _ => -1) (fun _ => 0) N) ∧ h' (S + 6) = aZ N (fun _ => false)) := by
    refine loopZ (k := N) _ ?_ ?_
    · intro h1 hf hg e0 e1 e2 e3 e4 e5 e6
      refine z_ild2 (n := 49) (by decide +kernel) ?_
      refine z_ild1 (n := 50) (by decide +kernel) ?_
      refine z_icmp_ge_t (n := 53) (off := 23) (tgt := 73) (by decide +kernel) (nI_le (Nat.le_refl _) (by omega)) ?_
      refine z_vret (by decide +kernel) rfl (by first | omega | (simp only [List.length]; omega)) ?_
      exact ⟨rfl, hf, szH_of (n := 6) hz hf hg (by intro j9 hj9; rcases (show j9 = 0 ∨ j9 = 1 ∨ j9 = 2 ∨ j9 = 3 ∨ j9 = 4 ∨ j9 = 5 ∨ j9 = 6 by omega) with rfl | rfl | rfl | rfl | rfl | rfl | rfl <;> simp only [Nat.add_zero, e0, e1, e2, e3, e4, e5, e6] <;> first | exact oB_dd | exact aI_dd | exact aZ_dd), e0, e1, e2, e3, e4, e5, e6⟩
    · intro u ul ih h1 hf hg e0 e1 e2 e3 e4 e5 e6
      have c4 := cpN_s (fun _ => -1) (fun _ => 0) u
      refine z_ild2 (n := 49) (by decide +kernel) ?_
      refine z_ild1 (n := 50) (by decide +kernel) ?_
      refine z_icmp_ge_f (n := 53) (off := 23) (tgt := 73) (by decide +kernel) (nI_ge ul (by omega)) ?_
      refine z_ald0 (n := 54) (by decide +kernel) ?_
      refine z_getf (n := 57) (idx := 21) (by decide +kernel) fl_X0_21 (by first | assumption | (simp (disch := omega) only [hu_s, hu_n]; first | assumption | rfl)) (by rfl) ?_
      refine z_ild2 (n := 58) (by decide +kernel) ?_
      refine z_iconst (n := 59) (q := -1) (v := -1) (by decide +kernel) ?_
      refine z_iast (n := 60) (by decide +kernel) (by first | assumption | (simp (disch := omega) only [hu_s, hu_n]; first | assumption | rfl)) (by first | assumption | exact ix_nI (by omega) (by omega)) ?_
      refine z_ald0 (n := 61) (by decide +kernel) ?_
      refine z_getf (n := 64) (idx := 24) (by decide +kernel) fl_X0_24 (by first | assumption | (simp (disch := omega) only [hu_s, hu_n]; first | assumption | rfl)) (by rfl) ?_
      refine z_ild2 (n := 65) (by decide +kernel) ?_
      refine z_iconst (n := 66) (q := -1) (v := -1) (by decide +kernel) ?_
      refine z_iast (n := 67) (by decide +kernel) (by first | assumption | (simp (disch := omega) only [hu_s, hu_n]; first | assumption | rfl)) (by first | assumption | exact ix_nI (by omega) (by omega)) ?_
      refine z_inc2 (n := 70) (q := 1) (by decide +kernel) rfl (nI_1 _) ?_
      refine z_goto (n := 73) (off := -22) (tgt := 48) (by decide +kernel) ?_
      exact ih _ (by intro j9 hj9; simp (disch := omega) only [hu_n, hf]) (by intro j9 hj9; simp (disch := omega) only [hu_n, hg]) (by simp (disch := omega) only [hTn, hCr, hFl, hu_s, hu_n]; first | done | assumption | rfl) (by simp (disch := omega) only [hTn, hCr, hFl, hu_s, hu_n]; first | done | assumption | rfl) (by simp (disch := omega) only [hTn, hCr, hFl, hu_s, hu_n]; first | done | assumption | rfl) (by simp (disch := omega) only [hTn, hCr, hFl, hu_s, hu_n]; first | done | assumption | rfl) (by simp (disch := omega) only [hu_s, hu_n, c4]) (by simp (disch := omega) only [hu_s, hu_n, c4]) (by simp (disch := omega) only [hTn, hCr, hFl, hu_s, hu_n]; first | done | assumption | rfl)
  refine key 0 (Nat.zero_le N) _ (by intro j9 hj9; simp (disch := omega) only [hu_n]) (by intro j9 hj9; simp (disch := omega) only [hu_n]) (by simp (disch := omega) only [hTn, hCr, hFl, hu_s, hu_n]; first | done | assumption | rfl) (by simp (disch := omega) only [hTn, hCr, hFl, hu_s, hu_n]; first | done | assumption | rfl) (by simp (disch := omega) only [hTn, hCr, hFl, hu_s, hu_n]; first | done | assumption | rfl) (by simp (disch := omega) only [hTn, hCr, hFl, hu_s, hu_n]; first | done | assumption | rfl) (by simp (disch := omega) only [hu_s, hu_n, cpN_0]) (by simp (disch := omega) only [hu_s, hu_n, cpN_0]) (by simp (disch := omega) only [hTn, hCr, hFl, hu_s, hu_n]; first | done | assumption | rfl)
end
section
/-! constructors: the rest that is plain -/
def pS0 (n : Nat) : pS := (fun i => match i with
  | 0 => 100
  | 1 => 10
  | 2 => 100
  | 3 => 40
  | _ => 0, fun i => match i with
  | 0 => cpN nI (fun _ => 0) (n + 1)
  | 1 => cpN (fun _ => 0) (fun _ => 0) (n + 1)
  | 5 => cpN (fun _ => -1) (fun _ => 0) (n + 1)
  | 6 => cpN (fun _ => -1) (fun _ => 0) (n + 1)
  | _ => fun _ => 0, fun i => match i with
  | 0 => cpN (fun _ => true) (fun _ => false) (n + 1)
  | _ => fun _ => false)
theorem i_paper {G : mG} {h : mH} {B n : Nat} (d : Nat) (hd : 3 ≤ d) (hz : szH h (B + 1)) (hB : h B = oB 2 [.null, .null, .int 0, .int 0, .int 0, .int 0, .int 0, .int 0]) (hN : n + 1 ≤ 40) : EV G m_X2_init d 12 412 [.ref B, .int (nI (n + 1))] h (fun r h' => r = none ∧ (∀ j, j < B → h' j = h j) ∧ szH h' (B + 13) ∧ pap h' B n (pS0 n)) := by
  refine ev_2_0 rfl rfl (by decide +kernel) (by decide +kernel) ?_
  refine z_ald0 (n := 1) (by decide +kernel) ?_
  refine z_objI (n := 4) (idx := 3) (by decide +kernel) jl_X2_3 (Nat.le_of_ble_eq_true rfl) (by omega) ?_
  refine z_ald0 (n := 5) (by decide +kernel) ?_
  refine z_bipush (n := 7) (q := 100) (v := 100) (by decide +kernel) ?_
  refine z_putf (n := 10) (idx := 9) (ty := .int) (by decide +kernel) fl_X2_9 (by first | assumption | (simp (disch := omega) only [hu_s, hu_n]; first | assumption | rfl)) ⟨_, _, _, rfl, rfl, by decide +kernel⟩ rfl rfl (Nat.le_of_ble_eq_true rfl) ?_
  refine z_ald0 (n := 11) (by decide +kernel) ?_
  refine z_bipush (n := 13) (q := 10) (v := 10) (by decide +kernel) ?_
  refine z_putf (n := 16) (idx := 15) (ty := .int) (by decide +kernel) fl_X2_15 (by first | assumption | (simp (disch := omega) only [hu_s, hu_n]; first | assumption | rfl)) ⟨_, _, _, rfl, rfl, by decide +kernel⟩ rfl rfl (Nat.le_of_ble_eq_true rfl) ?_
  refine z_ald0 (n := 17) (by decide +kernel) ?_
  refine z_bipush (n := 19) (q := 100) (v := 100) (by decide +kernel) ?_
  refine z_putf (n := 22) (idx := 18) (ty := .int) (by decide +kernel) fl_X2_18 (by first | assumption | (simp (disch := omega) only [hu_s, hu_n]; first | assumption | rfl)) ⟨_, _, _, rfl, rfl, by decide +kernel⟩ rfl rfl (Nat.le_of_ble_eq_true rfl) ?_
  refine z_ald0 (n := 23) (by decide +kernel) ?_
  refine z_bipush (n := 25) (q := 40) (v := 40) (by decide +kernel) ?_
  refine z_putf (n := 28) (idx := 21) (ty := .int) (by decide +kernel) fl_X2_21 (by first | assumption | (simp (disch := omega) only [hu_s, hu_n]; first | assumption | rfl)) ⟨_, _, _, rfl, rfl, by decide +kernel⟩ rfl rfl (Nat.le_of_ble_eq_true rfl) ?_
  refine z_ald0 (n := 29) (by decide +kernel) ?_
  refine z_new (n := 32) (idx := 24) (k := B + 1) (by decide +kernel) kc_X2_24 (by intro i9; (try simp only [hFl, hu]); (repeat' split); all_goals first | exact hz i9 | (rw [hz i9]; omega) | (constructor <;> intro q9 <;> first | omega | cases q9)) (by first | omega | (simp only [List.length]; omega)) (by first | omega | (simp only [List.length]; omega)) ?_
  refine z_dup (n := 33) (by decide +kernel) rfl ?_
  refine z_ild1 (n := 34) (by decide +kernel) ?_
  refine z_j1 (n := 37) (idx := 26) (by decide +kernel) ml_X2_26 ⟨rfl, rfl⟩ (Nat.le_of_ble_eq_true rfl) (by omega) ⟨by first | omega | (simp only [List.length]; omega), by first | omega | (simp only [List.length]; omega)⟩ (i_strip (S := B + 1) (N := n + 1) 2 (by omega) (szH_push (by intro i9; simp only [hu]; (repeat' split); all_goals first | exact hz i9 | (rw [hz i9]; omega) | (constructor <;> intro q9 <;> first | omega | cases q9)) oB_dd) (by simp (disch := omega) only [hTn, hCr, hFl, hu_s, hu_n]; first | done | assumption | rfl) hN) (fun h34 q34 => ?_)
  obtain ⟨f34, z34, s0, s1, s2, s3, s4⟩ := q34; have b34 : h34 B = oB 2 [.null, .null, .int 100, .int 10, .int 100, .int 40, .int 0, .int 0] := (f34 B (by omega)).trans (by simp (disch := omega) only [hu_s, hu_n]; rfl); have g34 : ∀ j, j < B → h34 j = h j := fun j hj => (f34 j (by omega)).trans (by simp (disch := omega) only [hu_n]); clear hz; have hz := z34
  refine z_putF (n := 40) (idx := 29) (ty := (.object "CreasedPaper$Strip")) (by decide +kernel) fl_X2_29 (by first | assumption | (simp (disch := omega) only [hu_s, hu_n]; first | assumption | rfl)) ⟨_, _, _, rfl, rfl, rfl, by decide +kernel⟩ rfl rfl (Nat.le_of_ble_eq_true rfl) ?_
  refine z_ald0 (n := 41) (by decide +kernel) ?_
  refine z_new (n := 44) (idx := 33) (k := B + 6) (by decide +kernel) kc_X2_33 (by intro i9; (try simp only [hFl, hu]); (repeat' split); all_goals first | exact hz i9 | (rw [hz i9]; omega) | (constructor <;> intro q9 <;> first | omega | cases q9)) (by first | omega | (simp only [List.length]; omega)) (by first | omega | (simp only [List.length]; omega)) ?_
  refine z_dup (n := 45) (by decide +kernel) rfl ?_
  refine z_ild1 (n := 46) (by decide +kernel) ?_
  refine z_j1 (n := 49) (idx := 35) (by decide +kernel) ml_X2_35 ⟨rfl, rfl⟩ (Nat.le_of_ble_eq_true rfl) (by omega) ⟨by first | omega | (simp only [List.length]; omega), by first | omega | (simp only [List.length]; omega)⟩ (i_creases (S := B + 6) (N := n + 1) 2 (by omega) (szH_push (by intro i9; simp only [hu]; (repeat' split); all_goals first | exact hz i9 | (rw [hz i9]; omega) | (constructor <;> intro q9 <;> first | omega | cases q9)) oB_dd) (by simp (disch := omega) only [hTn, hCr, hFl, hu_s, hu_n]; first | done | assumption | rfl) hN) (fun h46 q46 => ?_)
  obtain ⟨f46, z46, c0, c1, c2, c3, c4, c5, c6⟩ := q46; have b46 : h46 B = oB 2 [.ref (B + 1), .null, .int 100, .int 10, .int 100, .int 40, .int 0, .int 0] := (f46 B (by omega)).trans (by simp (disch := omega) only [hu_s, hu_n]; rfl)
  refine z_putF (n := 52) (idx := 36) (ty := (.object "CreasedPaper$Creases")) (by decide +kernel) fl_X2_36 (by first | assumption | (simp (disch := omega) only [hu_s, hu_n]; first | assumption | rfl)) ⟨_, _, _, rfl, rfl, rfl, by decide +kernel⟩ rfl rfl (Nat.le_of_ble_eq_true rfl) ?_
  refine z_vret (by decide +kernel) rfl (by first | omega | (simp only [List.length]; omega)) ?_
  exact ⟨rfl, by intro j9 hj9; rw [hu_n (by omega), f46 j9 (by omega)]; simp (disch := omega) only [hu_n]; exact g34 j9 hj9, szH_set z46 (by omega) oB_dd, ⟨0, fun _ => 0, by rw [hu_s]; rfl, by rw [hu_n (by omega), f46 _ (by omega)]; simp (disch := omega) only [hu_n]; exact s0, by rw [hu_n (by omega), f46 _ (by omega)]; simp (disch := omega) only [hu_n]; exact s1, by rw [hu_n (by omega), f46 _ (by omega)]; simp (disch := omega) only [hu_n]; exact s2, by rw [hu_n (by omega), f46 _ (by omega)]; simp (disch := omega) only [hu_n]; exact s3, by rw [hu_n (by omega), f46 _ (by omega)]; simp (disch := omega) only [hu_n]; exact s4, by rw [hu_n (by omega)]; exact c0, by rw [hu_n (by omega)]; exact c1, by rw [hu_n (by omega)]; exact c2, by rw [hu_n (by omega)]; exact c3, by rw [hu_n (by omega)]; exact c4, by rw [hu_n (by omega)]; exact c5, by rw [hu_n (by omega)]; exact c6⟩⟩
theorem i_sheets {G : mG} {h : mH} {S : Nat} (d : Nat) (hd : 1 ≤ d) (hz : szH h (S + 1)) (hS : h S = oB 6 [.int 0, .null, .null, .null, .null, .null]) : EV G m_X6_init d 5 30 [.ref S] h (fun r h' => r = none ∧ (∀ j, j < S → h' j = h j) ∧ szH h' (S + 6) ∧ she h' S (0, fun _ _ => 0)) := by
  refine ev_1_0 rfl (by decide +kernel) (by decide +kernel) ?_
  refine z_ald0 (n := 1) (by decide +kernel) ?_
  refine z_objI (n := 4) (idx := 3) (by decide +kernel) jl_X6_3 (Nat.le_of_ble_eq_true rfl) (by omega) ?_
  refine z_ald0 (n := 5) (by decide +kernel) ?_
  refine z_bipush (n := 7) (q := 6) (v := 6) (by decide +kernel) ?_
  refine z_newI (n := 9) (k := S + 1) (N := 6) (by decide +kernel) (by intro i9; (try simp only [hFl, hu]); (repeat' split); all_goals first | exact hz i9 | (rw [hz i9]; omega) | (constructor <;> intro q9 <;> first | omega | cases q9)) (by omega) (by first | omega | (simp only [List.length]; omega)) (by first | omega | (simp only [List.length]; omega)) ?_
  refine z_putF (n := 12) (idx := 11) (ty := (.array .int)) (by decide +kernel) fl_X6_11 (by first | assumption | (simp (disch := omega) only [hu_s, hu_n]; first | assumption | rfl)) ⟨_, _, _, rfl, rfl, rfl, by decide +kernel⟩ rfl rfl (Nat.le_of_ble_eq_true rfl) ?_
  refine z_ald0 (n := 13) (by decide +kernel) ?_
  refine z_bipush (n := 15) (q := 6) (v := 6) (by decide +kernel) ?_
  refine z_newI (n := 17) (k := S + 2) (N := 6) (by decide +kernel) (by intro i9; (try simp only [hFl, hu]); (repeat' split); all_goals first | exact hz i9 | (rw [hz i9]; omega) | (constructor <;> intro q9 <;> first | omega | cases q9)) (by omega) (by first | omega | (simp only [List.length]; omega)) (by first | omega | (simp only [List.length]; omega)) ?_
  refine z_putF (n := 20) (idx := 15) (ty := (.array .int)) (by decide +kernel) fl_X6_15 (by first | assumption | (simp (disch := omega) only [hu_s, hu_n]; first | assumption | rfl)) ⟨_, _, _, rfl, rfl, rfl, by decide +kernel⟩ rfl rfl (Nat.le_of_ble_eq_true rfl) ?_
  refine z_ald0 (n := 21) (by decide +kernel) ?_
  refine z_bipush (n := 23) (q := 6) (v := 6) (by decide +kernel) ?_
  refine z_newI (n := 25) (k := S + 3) (N := 6) (by decide +kernel) (by intro i9; (try simp only [hFl, hu]); (repeat' split); all_goals first | exact hz i9 | (rw [hz i9]; omega) | (constructor <;> intro q9 <;> first | omega | cases q9)) (by omega) (by first | omega | (simp only [List.length]; omega)) (by first | omega | (simp only [List.length]; omega)) ?_
  refine z_putF (n := 28) (idx := 18) (ty := (.array .int)) (by decide +kernel) fl_X6_18 (by first | assumption | (simp (disch := omega) only [hu_s, hu_n]; first | assumption | rfl)) ⟨_, _, _, rfl, rfl, rfl, by decide +kernel⟩ rfl rfl (Nat.le_of_ble_eq_true rfl) ?_
  refine z_ald0 (n := 29) (by decide +kernel) ?_
  refine z_bipush (n := 31) (q := 6) (v := 6) (by decide +kernel) ?_
  refine z_newI (n := 33) (k := S + 4) (N := 6) (by decide +kernel) (by intro i9; (try simp only [hFl, hu]); (repeat' split); all_goals first | exact hz i9 | (rw [hz i9]; omega) | (constructor <;> intro q9 <;> first | omega | cases q9)) (by omega) (by first | omega | (simp only [List.length]; omega)) (by first | omega | (simp only [List.length]; omega)) ?_
  refine z_putF (n := 36) (idx := 21) (ty := (.array .int)) (by decide +kernel) fl_X6_21 (by first | assumption | (simp (disch := omega) only [hu_s, hu_n]; first | assumption | rfl)) ⟨_, _, _, rfl, rfl, rfl, by decide +kernel⟩ rfl rfl (Nat.le_of_ble_eq_true rfl) ?_
  refine z_ald0 (n := 37) (by decide +kernel) ?_
  refine z_bipush (n := 39) (q := 6) (v := 6) (by decide +kernel) ?_
  refine z_newI (n := 41) (k := S + 5) (N := 6) (by decide +kernel) (by intro i9; (try simp only [hFl, hu]); (repeat' split); all_goals first | exact hz i9 | (rw [hz i9]; omega) | (constructor <;> intro q9 <;> first | omega | cases q9)) (by omega) (by first | omega | (simp only [List.length]; omega)) (by first | omega | (simp only [List.length]; omega)) ?_
  refine z_putF (n := 44) (idx := 24) (ty := (.array .int)) (by decide +kernel) fl_X6_24 (by first | assumption | (simp (disch := omega) only [hu_s, hu_n]; first | assumption | rfl)) ⟨_, _, _, rfl, rfl, rfl, by decide +kernel⟩ rfl rfl (Nat.le_of_ble_eq_true rfl) ?_
  refine z_vret (by decide +kernel) rfl (by first | omega | (simp only [List.length]; omega)) ?_
  exact ⟨rfl, by intro j9 hj9; simp (disch := omega) only [hu_n], (szH_of (n := 5) hz (by intro j9 hj9; simp (disch := omega) only [hFl, hu_n]) (by intro j9 hj9; simp (disch := omega) only [hFl, hu_n]) (by intro j9 hj9; rcases (show j9 = 0 ∨ j9 = 1 ∨ j9 = 2 ∨ j9 = 3 ∨ j9 = 4 ∨ j9 = 5 by omega) with rfl | rfl | rfl | rfl | rfl | rfl <;> (simp (disch := omega) only [Nat.add_zero, hFl, hu_s, hu_n]; first | exact oB_dd | exact aI_dd | exact aZ_dd | exact aR_dd))), (by simp (disch := omega) only [hTn, hCr, hFl, hu_s, hu_n]; first | done | assumption | rfl), (by simp (disch := omega) only [hTn, hCr, hFl, hu_s, hu_n]; first | done | assumption | rfl), (by simp (disch := omega) only [hTn, hCr, hFl, hu_s, hu_n]; first | done | assumption | rfl), (by simp (disch := omega) only [hTn, hCr, hFl, hu_s, hu_n]; first | done | assumption | rfl), (by simp (disch := omega) only [hTn, hCr, hFl, hu_s, hu_n]; first | done | assumption | rfl), (by simp (disch := omega) only [hTn, hCr, hFl, hu_s, hu_n]; first | done | assumption | rfl)⟩
theorem i_seen {G : mG} {h : mH} {S : Nat} (d : Nat) (hd : 1 ≤ d) (hz : szH h (S + 1)) (hS : h S = oB 4 [.int 0, .int 0, .null, .null]) : EV G m_X4_init d 2 200 [.ref S] h (fun r h' => r = none ∧ (∀ j, j < S → h' j = h j) ∧ szH h' (S + 3) ∧ see h' S ((0, 0), (fun _ => 0), fun _ => 0)) := by
  refine ev_1_0 rfl (by decide +kernel) (by decide +kernel) ?_
  refine z_ald0 (n := 1) (by decide +kernel) ?_
  refine z_objI (n := 4) (idx := 3) (by decide +kernel) jl_X4_3 (Nat.le_of_ble_eq_true rfl) (by omega) ?_
  refine z_ald0 (n := 5) (by decide +kernel) ?_
  refine z_bipush (n := 7) (q := 100) (v := 100) (by decide +kernel) ?_
  refine z_newI (n := 9) (k := S + 1) (N := 100) (by decide +kernel) (by intro i9; (try simp only [hFl, hu]); (repeat' split); all_goals first | exact hz i9 | (rw [hz i9]; omega) | (constructor <;> intro q9 <;> first | omega | cases q9)) (by omega) (by first | omega | (simp only [List.length]; omega)) (by first | omega | (simp only [List.length]; omega)) ?_
  refine z_putF (n := 12) (idx := 11) (ty := (.array .int)) (by decide +kernel) fl_X4_11 (by first | assumption | (simp (disch := omega) only [hu_s, hu_n]; first | assumption | rfl)) ⟨_, _, _, rfl, rfl, rfl, by decide +kernel⟩ rfl rfl (Nat.le_of_ble_eq_true rfl) ?_
  refine z_ald0 (n := 13) (by decide +kernel) ?_
  refine z_bipush (n := 15) (q := 100) (v := 100) (by decide +kernel) ?_
  refine z_newI (n := 17) (k := S + 2) (N := 100) (by decide +kernel) (by intro i9; (try simp only [hFl, hu]); (repeat' split); all_goals first | exact hz i9 | (rw [hz i9]; omega) | (constructor <;> intro q9 <;> first | omega | cases q9)) (by omega) (by first | omega | (simp only [List.length]; omega)) (by first | omega | (simp only [List.length]; omega)) ?_
  refine z_putF (n := 20) (idx := 15) (ty := (.array .int)) (by decide +kernel) fl_X4_15 (by first | assumption | (simp (disch := omega) only [hu_s, hu_n]; first | assumption | rfl)) ⟨_, _, _, rfl, rfl, rfl, by decide +kernel⟩ rfl rfl (Nat.le_of_ble_eq_true rfl) ?_
  refine z_vret (by decide +kernel) rfl (by first | omega | (simp only [List.length]; omega)) ?_
  exact ⟨rfl, by intro j9 hj9; simp (disch := omega) only [hu_n], (szH_of (n := 2) hz (by intro j9 hj9; simp (disch := omega) only [hFl, hu_n]) (by intro j9 hj9; simp (disch := omega) only [hFl, hu_n]) (by intro j9 hj9; rcases (show j9 = 0 ∨ j9 = 1 ∨ j9 = 2 by omega) with rfl | rfl | rfl <;> (simp (disch := omega) only [Nat.add_zero, hFl, hu_s, hu_n]; first | exact oB_dd | exact aI_dd | exact aZ_dd | exact aR_dd))), (by simp (disch := omega) only [hTn, hCr, hFl, hu_s, hu_n]; first | done | assumption | rfl), (by simp (disch := omega) only [hTn, hCr, hFl, hu_s, hu_n]; first | done | assumption | rfl), (by simp (disch := omega) only [hTn, hCr, hFl, hu_s, hu_n]; first | done | assumption | rfl)⟩
/-- the tape: bytes, length; kind, start, behind, value -/
def oTap (P : Nat) (ln kd sa bh vl : Int32) : mE := oB 8 [.ref (P + 1), .int ln, .int kd, .int sa, .int bh, .int vl]
theorem i_tape {G : mG} {h : mH} {S : Nat} (d : Nat) (hd : 1 ≤ d) (hz : szH h (S + 1)) (hS : h S = oB 8 [.null, .int 0, .int 0, .int 0, .int 0, .int 0]) : EV G m_X8_init d 1 300 [.ref S] h (fun r h' => r = none ∧ (∀ j, j < S → h' j = h j) ∧ szH h' (S + 2) ∧ h' S = oTap S 0 0 0 0 0 ∧ h' (S + 1) = aI 300 (fun _ => 0)) := by
  refine ev_1_0 rfl (by decide +kernel) (by decide +kernel) ?_
  refine z_ald0 (n := 1) (by decide +kernel) ?_
  refine z_objI (n := 4) (idx := 1) (by decide +kernel) jl_X8_1 (Nat.le_of_ble_eq_true rfl) (by omega) ?_
  refine z_ald0 (n := 5) (by decide +kernel) ?_
  refine z_sipush (n := 8) (q := 300) (v := 300) (by decide +kernel) ?_
  refine z_newI (n := 10) (k := S + 1) (N := 300) (by decide +kernel) (by intro i9; (try simp only [hFl, hu]); (repeat' split); all_goals first | exact hz i9 | (rw [hz i9]; omega) | (constructor <;> intro q9 <;> first | omega | cases q9)) (by omega) (by first | omega | (simp only [List.length]; omega)) (by first | omega | (simp only [List.length]; omega)) ?_
  refine z_putF (n := 13) (idx := 9) (ty := (.array .int)) (by decide +kernel) fl_X8_9 (by first | assumption | (simp (disch := omega) only [hu_s, hu_n]; first | assumption | rfl)) ⟨_, _, _, rfl, rfl, rfl, by decide +kernel⟩ rfl rfl (Nat.le_of_ble_eq_true rfl) ?_
  refine z_vret (by decide +kernel) rfl (by first | omega | (simp only [List.length]; omega)) ?_
  exact ⟨rfl, by intro j9 hj9; simp (disch := omega) only [hu_n], (szH_of (n := 1) hz (by intro j9 hj9; simp (disch := omega) only [hFl, hu_n]) (by intro j9 hj9; simp (disch := omega) only [hFl, hu_n]) (by intro j9 hj9; rcases (show j9 = 0 ∨ j9 = 1 by omega) with rfl | rfl <;> (simp (disch := omega) only [Nat.add_zero, hFl, hu_s, hu_n]; first | exact oB_dd | exact aI_dd | exact aZ_dd | exact aR_dd))), (by simp (disch := omega) only [hTn, hCr, hFl, hu_s, hu_n]; first | done | assumption | rfl), (by simp (disch := omega) only [hTn, hCr, hFl, hu_s, hu_n]; first | done | assumption | rfl)⟩
/-- the text: wasRead, faultKind, faultPlace, stoppedAt, rows verb .. openAgains (X + 1 .. X + 6), dos, depth, actsDone -/
def oTex (X : Nat) (wr : Bool) (fk fp sp ds dp ad : Int32) : mE := oB 9 [.int (bI wr), .int fk, .int fp, .int sp, .ref (X + 1), .ref (X + 2), .ref (X + 3), .ref (X + 4), .ref (X + 5), .ref (X + 6), .int ds, .int dp, .int ad]
theorem i_text {G : mG} {h : mH} {S : Nat} (d : Nat) (hd : 1 ≤ d) (hz : szH h (S + 1)) (hS : h S = oB 9 [.int 0, .int 0, .int 0, .int 0, .null, .null, .null, .null, .null, .null, .int 0, .int 0, .int 0]) : EV G m_X9_init d 6 204 [.ref S] h (fun r h' => r = none ∧ (∀ j, j < S → h' j = h j) ∧ szH h' (S + 7) ∧ h' S = oTex S false 0 (-1) (-1) 0 0 0 ∧ h' (S + 1) = aI 40 (fun _ => 0) ∧ h' (S + 2) = aI 40 (fun _ => 0) ∧ h' (S + 3) = aZ 40 (fun _ => false) ∧ h' (S + 4) = aI 40 (fun _ => 0) ∧ h' (S + 5) = aI 40 (fun _ => 0) ∧ h' (S + 6) = aI 4 (fun _ => 0)) := by
  refine ev_1_0 rfl (by decide +kernel) (by decide +kernel) ?_
  refine z_ald0 (n := 1) (by decide +kernel) ?_
  refine z_objI (n := 4) (idx := 3) (by decide +kernel) jl_X9_3 (Nat.le_of_ble_eq_true rfl) (by omega) ?_
  refine z_ald0 (n := 5) (by decide +kernel) ?_
  refine z_iconst (n := 6) (q := -1) (v := -1) (by decide +kernel) ?_
  refine z_putf (n := 9) (idx := 9) (ty := .int) (by decide +kernel) fl_X9_9 (by first | assumption | (simp (disch := omega) only [hu_s, hu_n]; first | assumption | rfl)) ⟨_, _, _, rfl, rfl, by decide +kernel⟩ rfl rfl (Nat.le_of_ble_eq_true rfl) ?_
  refine z_ald0 (n := 10) (by decide +kernel) ?_
  refine z_iconst (n := 11) (q := -1) (v := -1) (by decide +kernel) ?_
  refine z_putf (n := 14) (idx := 15) (ty := .int) (by decide +kernel) fl_X9_15 (by first | assumption | (simp (disch := omega) only [hu_s, hu_n]; first | assumption | rfl)) ⟨_, _, _, rfl, rfl, by decide +kernel⟩ rfl rfl (Nat.le_of_ble_eq_true rfl) ?_
  refine z_ald0 (n := 15) (by decide +kernel) ?_
  refine z_bipush (n := 17) (q := 40) (v := 40) (by decide +kernel) ?_
  refine z_newI (n := 19) (k := S + 1) (N := 40) (by decide +kernel) (by intro i9; (try simp only [hFl, hu]); (repeat' split); all_goals first | exact hz i9 | (rw [hz i9]; omega) | (constructor <;> intro q9 <;> first | omega | cases q9)) (by omega) (by first | omega | (simp only [List.length]; omega)) (by first | omega | (simp only [List.length]; omega)) ?_
  refine z_putF (n := 22) (idx := 18) (ty := (.array .int)) (by decide +kernel) fl_X9_18 (by first | assumption | (simp (disch := omega) only [hu_s, hu_n]; first | assumption | rfl)) ⟨_, _, _, rfl, rfl, rfl, by decide +kernel⟩ rfl rfl (Nat.le_of_ble_eq_true rfl) ?_
  refine z_ald0 (n := 23) (by decide +kernel) ?_
  refine z_bipush (n := 25) (q := 40) (v := 40) (by decide +kernel) ?_
  refine z_newI (n := 27) (k := S + 2) (N := 40) (by decide +kernel) (by intro i9; (try simp only [hFl, hu]); (repeat' split); all_goals first | exact hz i9 | (rw [hz i9]; omega) | (constructor <;> intro q9 <;> first | omega | cases q9)) (by omega) (by first | omega | (simp only [List.length]; omega)) (by first | omega | (simp only [List.length]; omega)) ?_
  refine z_putF (n := 30) (idx := 22) (ty := (.array .int)) (by decide +kernel) fl_X9_22 (by first | assumption | (simp (disch := omega) only [hu_s, hu_n]; first | assumption | rfl)) ⟨_, _, _, rfl, rfl, rfl, by decide +kernel⟩ rfl rfl (Nat.le_of_ble_eq_true rfl) ?_
  refine z_ald0 (n := 31) (by decide +kernel) ?_
  refine z_bipush (n := 33) (q := 40) (v := 40) (by decide +kernel) ?_
  refine z_newZ (n := 35) (k := S + 3) (N := 40) (by decide +kernel) (by intro i9; (try simp only [hFl, hu]); (repeat' split); all_goals first | exact hz i9 | (rw [hz i9]; omega) | (constructor <;> intro q9 <;> first | omega | cases q9)) (by omega) (by first | omega | (simp only [List.length]; omega)) (by first | omega | (simp only [List.length]; omega)) ?_
  refine z_putF (n := 38) (idx := 25) (ty := (.array .boolean)) (by decide +kernel) fl_X9_25 (by first | assumption | (simp (disch := omega) only [hu_s, hu_n]; first | assumption | rfl)) ⟨_, _, _, rfl, rfl, rfl, by decide +kernel⟩ rfl rfl (Nat.le_of_ble_eq_true rfl) ?_
  refine z_ald0 (n := 39) (by decide +kernel) ?_
  refine z_bipush (n := 41) (q := 40) (v := 40) (by decide +kernel) ?_
  refine z_newI (n := 43) (k := S + 4) (N := 40) (by decide +kernel) (by intro i9; (try simp only [hFl, hu]); (repeat' split); all_goals first | exact hz i9 | (rw [hz i9]; omega) | (constructor <;> intro q9 <;> first | omega | cases q9)) (by omega) (by first | omega | (simp only [List.length]; omega)) (by first | omega | (simp only [List.length]; omega)) ?_
  refine z_putF (n := 46) (idx := 29) (ty := (.array .int)) (by decide +kernel) fl_X9_29 (by first | assumption | (simp (disch := omega) only [hu_s, hu_n]; first | assumption | rfl)) ⟨_, _, _, rfl, rfl, rfl, by decide +kernel⟩ rfl rfl (Nat.le_of_ble_eq_true rfl) ?_
  refine z_ald0 (n := 47) (by decide +kernel) ?_
  refine z_bipush (n := 49) (q := 40) (v := 40) (by decide +kernel) ?_
  refine z_newI (n := 51) (k := S + 5) (N := 40) (by decide +kernel) (by intro i9; (try simp only [hFl, hu]); (repeat' split); all_goals first | exact hz i9 | (rw [hz i9]; omega) | (constructor <;> intro q9 <;> first | omega | cases q9)) (by omega) (by first | omega | (simp only [List.length]; omega)) (by first | omega | (simp only [List.length]; omega)) ?_
  refine z_putF (n := 54) (idx := 32) (ty := (.array .int)) (by decide +kernel) fl_X9_32 (by first | assumption | (simp (disch := omega) only [hu_s, hu_n]; first | assumption | rfl)) ⟨_, _, _, rfl, rfl, rfl, by decide +kernel⟩ rfl rfl (Nat.le_of_ble_eq_true rfl) ?_
  refine z_ald0 (n := 55) (by decide +kernel) ?_
  refine z_iconst (n := 56) (q := 4) (v := 4) (by decide +kernel) ?_
  refine z_newI (n := 58) (k := S + 6) (N := 4) (by decide +kernel) (by intro i9; (try simp only [hFl, hu]); (repeat' split); all_goals first | exact hz i9 | (rw [hz i9]; omega) | (constructor <;> intro q9 <;> first | omega | cases q9)) (by omega) (by first | omega | (simp only [List.length]; omega)) (by first | omega | (simp only [List.length]; omega)) ?_
  refine z_putF (n := 61) (idx := 35) (ty := (.array .int)) (by decide +kernel) fl_X9_35 (by first | assumption | (simp (disch := omega) only [hu_s, hu_n]; first | assumption | rfl)) ⟨_, _, _, rfl, rfl, rfl, by decide +kernel⟩ rfl rfl (Nat.le_of_ble_eq_true rfl) ?_
  refine z_vret (by decide +kernel) rfl (by first | omega | (simp only [List.length]; omega)) ?_
  exact ⟨rfl, by intro j9 hj9; simp (disch := omega) only [hu_n], (szH_of (n := 6) hz (by intro j9 hj9; simp (disch := omega) only [hFl, hu_n]) (by intro j9 hj9; simp (disch := omega) only [hFl, hu_n]) (by intro j9 hj9; rcases (show j9 = 0 ∨ j9 = 1 ∨ j9 = 2 ∨ j9 = 3 ∨ j9 = 4 ∨ j9 = 5 ∨ j9 = 6 by omega) with rfl | rfl | rfl | rfl | rfl | rfl | rfl <;> (simp (disch := omega) only [Nat.add_zero, hFl, hu_s, hu_n]; first | exact oB_dd | exact aI_dd | exact aZ_dd | exact aR_dd))), (by simp (disch := omega) only [hTn, hCr, hFl, hu_s, hu_n]; first | done | assumption | rfl), (by simp (disch := omega) only [hTn, hCr, hFl, hu_s, hu_n]; first | done | assumption | rfl), (by simp (disch := omega) only [hTn, hCr, hFl, hu_s, hu_n]; first | done | assumption | rfl), (by simp (disch := omega) only [hTn, hCr, hFl, hu_s, hu_n]; first | done | assumption | rfl), (by simp (disch := omega) only [hTn, hCr, hFl, hu_s, hu_n]; first | done | assumption | rfl), (by simp (disch := omega) only [hTn, hCr, hFl, hu_s, hu_n]; first | done | assumption | rfl), (by simp (disch := omega) only [hTn, hCr, hFl, hu_s, hu_n]; first | done | assumption | rfl)⟩
theorem i_shapes {G : mG} {h : mH} {S : Nat} (d : Nat) (hd : 1 ≤ d) (hz : szH h (S + 1)) (hS : h S = oB 5 [.int 0, .int 0, .int 0, .null]) : EV G m_X5_init d 1 361 [.ref S] h (fun r h' => r = none ∧ (∀ j, j < S → h' j = h j) ∧ szH h' (S + 2) ∧ h' S = oSha S 0 0 0 ∧ h' (S + 1) = aI 361 (fun _ => 0)) := by
  refine ev_1_0 rfl (by decide +kernel) (by decide +kernel) ?_
  refine z_ald0 (n := 1) (by decide +kernel) ?_
  refine z_objI (n := 4) (idx := 3) (by decide +kernel) jl_X5_3 (Nat.le_of_ble_eq_true rfl) (by omega) ?_
  refine z_ald0 (n := 5) (by decide +kernel) ?_
  refine z_sipush (n := 8) (q := 361) (v := 361) (by decide +kernel) ?_
  refine z_newI (n := 10) (k := S + 1) (N := 361) (by decide +kernel) (by intro i9; (try simp only [hFl, hu]); (repeat' split); all_goals first | exact hz i9 | (rw [hz i9]; omega) | (constructor <;> intro q9 <;> first | omega | cases q9)) (by omega) (by first | omega | (simp only [List.length]; omega)) (by first | omega | (simp only [List.length]; omega)) ?_
  refine z_putF (n := 13) (idx := 11) (ty := (.array .int)) (by decide +kernel) fl_X5_11 (by first | assumption | (simp (disch := omega) only [hu_s, hu_n]; first | assumption | rfl)) ⟨_, _, _, rfl, rfl, rfl, by decide +kernel⟩ rfl rfl (Nat.le_of_ble_eq_true rfl) ?_
  refine z_vret (by decide +kernel) rfl (by first | omega | (simp only [List.length]; omega)) ?_
  exact ⟨rfl, by intro j9 hj9; simp (disch := omega) only [hu_n], (szH_of (n := 1) hz (by intro j9 hj9; simp (disch := omega) only [hFl, hu_n]) (by intro j9 hj9; simp (disch := omega) only [hFl, hu_n]) (by intro j9 hj9; rcases (show j9 = 0 ∨ j9 = 1 by omega) with rfl | rfl <;> (simp (disch := omega) only [Nat.add_zero, hFl, hu_s, hu_n]; first | exact oB_dd | exact aI_dd | exact aZ_dd | exact aR_dd))), (by simp (disch := omega) only [hTn, hCr, hFl, hu_s, hu_n]; first | done | assumption | rfl), (by simp (disch := omega) only [hTn, hCr, hFl, hu_s, hu_n]; first | done | assumption | rfl)⟩
def oPan (P : Nat) (ct wt fd : Int32) : mE := oB 1 [.ref (P + 1), .ref (P + 2), .ref (P + 3), .int ct, .int wt, .int fd]
theorem i_panels {G : mG} {h : mH} {S : Nat} (d : Nat) (hd : 1 ≤ d) (hz : szH h (S + 1)) (hS : h S = oB 1 [.null, .null, .null, .int 0, .int 0, .int 0]) : EV G m_X1_init d 3 24 [.ref S] h (fun r h' => r = none ∧ (∀ j, j < S → h' j = h j) ∧ szH h' (S + 4) ∧ h' S = oPan S 0 0 0 ∧ h' (S + 1) = aI 8 (fun _ => 0) ∧ h' (S + 2) = aI 8 (fun _ => 0) ∧ h' (S + 3) = aI 8 (fun _ => 0)) := by
  refine ev_1_0 rfl (by decide +kernel) (by decide +kernel) ?_
  refine z_ald0 (n := 1) (by decide +kernel) ?_
  refine z_objI (n := 4) (idx := 3) (by decide +kernel) jl_X1_3 (Nat.le_of_ble_eq_true rfl) (by omega) ?_
  refine z_ald0 (n := 5) (by decide +kernel) ?_
  refine z_bipush (n := 7) (q := 8) (v := 8) (by decide +kernel) ?_
  refine z_newI (n := 9) (k := S + 1) (N := 8) (by decide +kernel) (by intro i9; (try simp only [hFl, hu]); (repeat' split); all_goals first | exact hz i9 | (rw [hz i9]; omega) | (constructor <;> intro q9 <;> first | omega | cases q9)) (by omega) (by first | omega | (simp only [List.length]; omega)) (by first | omega | (simp only [List.length]; omega)) ?_
  refine z_putF (n := 12) (idx := 11) (ty := (.array .int)) (by decide +kernel) fl_X1_11 (by first | assumption | (simp (disch := omega) only [hu_s, hu_n]; first | assumption | rfl)) ⟨_, _, _, rfl, rfl, rfl, by decide +kernel⟩ rfl rfl (Nat.le_of_ble_eq_true rfl) ?_
  refine z_ald0 (n := 13) (by decide +kernel) ?_
  refine z_bipush (n := 15) (q := 8) (v := 8) (by decide +kernel) ?_
  refine z_newI (n := 17) (k := S + 2) (N := 8) (by decide +kernel) (by intro i9; (try simp only [hFl, hu]); (repeat' split); all_goals first | exact hz i9 | (rw [hz i9]; omega) | (constructor <;> intro q9 <;> first | omega | cases q9)) (by omega) (by first | omega | (simp only [List.length]; omega)) (by first | omega | (simp only [List.length]; omega)) ?_
  refine z_putF (n := 20) (idx := 15) (ty := (.array .int)) (by decide +kernel) fl_X1_15 (by first | assumption | (simp (disch := omega) only [hu_s, hu_n]; first | assumption | rfl)) ⟨_, _, _, rfl, rfl, rfl, by decide +kernel⟩ rfl rfl (Nat.le_of_ble_eq_true rfl) ?_
  refine z_ald0 (n := 21) (by decide +kernel) ?_
  refine z_bipush (n := 23) (q := 8) (v := 8) (by decide +kernel) ?_
  refine z_newI (n := 25) (k := S + 3) (N := 8) (by decide +kernel) (by intro i9; (try simp only [hFl, hu]); (repeat' split); all_goals first | exact hz i9 | (rw [hz i9]; omega) | (constructor <;> intro q9 <;> first | omega | cases q9)) (by omega) (by first | omega | (simp only [List.length]; omega)) (by first | omega | (simp only [List.length]; omega)) ?_
  refine z_putF (n := 28) (idx := 18) (ty := (.array .int)) (by decide +kernel) fl_X1_18 (by first | assumption | (simp (disch := omega) only [hu_s, hu_n]; first | assumption | rfl)) ⟨_, _, _, rfl, rfl, rfl, by decide +kernel⟩ rfl rfl (Nat.le_of_ble_eq_true rfl) ?_
  refine z_vret (by decide +kernel) rfl (by first | omega | (simp only [List.length]; omega)) ?_
  exact ⟨rfl, by intro j9 hj9; simp (disch := omega) only [hu_n], (szH_of (n := 3) hz (by intro j9 hj9; simp (disch := omega) only [hFl, hu_n]) (by intro j9 hj9; simp (disch := omega) only [hFl, hu_n]) (by intro j9 hj9; rcases (show j9 = 0 ∨ j9 = 1 ∨ j9 = 2 ∨ j9 = 3 by omega) with rfl | rfl | rfl | rfl <;> (simp (disch := omega) only [Nat.add_zero, hFl, hu_s, hu_n]; first | exact oB_dd | exact aI_dd | exact aZ_dd | exact aR_dd))), (by simp (disch := omega) only [hTn, hCr, hFl, hu_s, hu_n]; first | done | assumption | rfl), (by simp (disch := omega) only [hTn, hCr, hFl, hu_s, hu_n]; first | done | assumption | rfl), (by simp (disch := omega) only [hTn, hCr, hFl, hu_s, hu_n]; first | done | assumption | rfl), (by simp (disch := omega) only [hTn, hCr, hFl, hu_s, hu_n]; first | done | assumption | rfl)⟩
end
section
/-! new int[N][K] -/
def hmu (h : mH) (k N K : Nat) : mH := fun j => if j = k then aR 3 N (fun i => if i < N then some (k + 1 + i) else none) else if k < j ∧ j < k + 1 + N then aI K (fun _ => 0) else h j
theorem szH_mu {h : mH} {k N K : Nat} (a : szH h k) : szH (hmu h k N K) (k + 1 + N) := by
  intro i
  unfold hmu
  split
  · exact ⟨fun q => absurd q aR_dd, fun q => by omega⟩
  · split
    · exact ⟨fun q => absurd q aI_dd, fun q => by omega⟩
    · rw [a i]; omega
theorem outer_arr (c : ClassId) (N h0 : Nat) : ∀ i : Nat, Jvm.Free.Multi.outerC c N h0 i = arrV c N (fun j => va_rf (if j < i then some (h0 + 1 + j) else none))
  | 0 => by
    show ({ cls := c, slots := Array.replicate N .null, vm := .none } : Cell) = _
    rw [arrV_new]
    exact congrArg (arrV c N) (funext fun j => by simp [va_rf])
  | i + 1 => by
    show (Jvm.Free.Multi.outerC c N h0 i).setSlot i (.ref (h0 + 1 + i)) = _
    rw [outer_arr c N h0 i, arrV_store]
    refine congrArg (arrV c N) (funext fun j => ?_)
    by_cases e : j = i
    · subst e
      simp [updV, va_rf]
    · by_cases h : j < i
      · simp [updV, e, h, Nat.lt_succ_of_lt h]
      · simp [updV, e, h, show ¬ j < i + 1 by omega]
theorem z_mna {G : mG} {M : mD} {d mc ms cs sl pc n : Nat} {lv : List (Option Value)} {st : List Value} {h : mH} {Q : Option Value → mH → Prop} {idx k N K : Nat} (hd : dkb M pc (.multianewarray idx 2) 4 n = true) (hw : Cond.classLink M.1.cls idx "[[I" ∈ TB) (hAA : ∀ U, gI G U → (Cond.arrayOver (.array .int)).before #[] U = true) (hz : szH h k) (hN : N ≤ 1000) (hK : K ≤ 1000) (hc : cs + (1 + N) ≤ mc) (hs : sl + (N + N * K) ≤ ms) (kk : Z G M d mc ms (cs + (1 + N)) (sl + (N + N * K)) n lv (.ref k :: st) (hmu h k N K) Q) : Z G M d mc ms cs sl pc lv (.int (nI K) :: .int (nI N) :: st) h Q := by
  obtain ⟨he, rfl⟩ := dk1 hd
  intro p e s m args below meth c K0 E H locs ls hk hk1 hP hS hl
  have ek := szH_eq hz hk
  subst ek
  have mem : ∀ w ∈ TB, w.before args s = true := fun w hw => E.2.2.2.2.2.1 w (List.mem_cons_of_mem _ hw)
  have hmc := E.2.2.2.2.2.2.2.2.2.1
  have hKK := E.2.2.2.2.2.2.2.2.2.2.1
  intro T hT X
  have hsz : H.size = gb G + (K0 + cs) := by
    have := (en_pre (mc' := 0) E (by omega) hk hP hS hT X hk1 T hT X.warmed).1
    rw [hT] at this
    exact this
  have cN : (nI N).toNatClampNeg = N := nI_clamp (by omega)
  have cK : (nI K).toNatClampNeg = K := nI_clamp (by omega)
  obtain ⟨vm₁, cA, comp, -, fA, fC, hO, -, X', step⟩ := X.multianewarray2F E.1 (ty := .int) E.2.2.2.2.1 (mem _ hw) (hAA s E.2.2.2.2.2.2.2.2.2.2.2.2) (mem _ jw_arr.1) (g := F0 m pc ls (.int (nI K) :: .int (nI N) :: st.map (tv G))) rfl (by rw [E.2.1]; exact he) rfl (nI_pos (by omega)) (nI_pos (by omega)) (by rw [cN]; omega) (by rw [cK]; show K * 4 ≤ _; omega) (by rw [cK]; omega) rfl rfl (by rw [cN]; exact hc) (by rw [cN, cK]; exact hs)
  rw [cN, cK] at X' step
  have eA : cA = gA G 3 := by
    have h2 : s.vm.findClass _ = some (gA G 3) := (hKK.2 3 _ rfl).2
    exact Option.some.inj (fA.symm.trans h2)
  have eC : comp = gA G 0 := by
    have h2 : s.vm.findClass _ = some (gA G 0) := (hKK.2 0 _ rfl).2
    exact Option.some.inj (fC.symm.trans h2)
  subst eA
  subst eC
  obtain ⟨f1, f2, -, -⟩ := Jvm.Free.Multi.fill_facts (T.setVm vm₁) (gA G 3) (gA G 0) N K (defaultValue .int) N
  have fo := fun (a : Addr) (ha : a < (T.setVm vm₁).heap.size) => Jvm.Free.Multi.fill_old (T.setVm vm₁) (gA G 3) (gA G 0) N K (defaultValue .int) (a := a) ha N
  have fi := Jvm.Free.Multi.fill_inner (T.setVm vm₁) (gA G 3) (gA G 0) N K (defaultValue .int) N
  have hTh : (T.setVm vm₁).heap = H := hT
  generalize Jvm.Free.Multi.fill (T.setVm vm₁) (gA G 3) (gA G 0) N K (defaultValue .int) N = F at X' step f1 f2 fo fi
  rw [hTh] at f1 f2 fo fi
  rw [outer_arr] at f2
  have hP1 : va_P (gD G) CL (wl G (K0 + cs + 1 + N) (hmu h (K0 + cs) N K)) F.heap := by
    intro i q hq
    have hi : i < K0 + cs + 1 + N := by
      have := (List.getElem?_eq_some_iff.mp hq).1
      simpa [wl] using this
    rw [wl_get hi] at hq
    cases hq
    by_cases h1 : i < K0 + cs
    · have e1 : hmu h (K0 + cs) N K i = h i := by
        unfold hmu
        rw [if_neg (by omega), if_neg (by omega)]
      rw [e1]
      refine (hP i _ (wl_get h1)).kept ?_
      have := (hP i _ (wl_get h1)).lt
      exact fo _ this
    · by_cases h2 : i = K0 + cs
      · subst h2
        have e1 : hmu h (K0 + cs) N K (K0 + cs) = aR 3 N (fun i => if i < N then some (K0 + cs + 1 + i) else none) := by
          unfold hmu
          rw [if_pos rfl]
        rw [e1]
        show F.heap[ad G (K0 + cs)]? = some (vp_cell (gA G 3) (N, .inr (.inr (.inr (.inr (fun j => (if j < N then some (K0 + cs + 1 + j) else none : Option Nat).map (ad G)))))))
        rw [ad_lo (by omega), ← hsz, f2, vp_cell_q]
        congr 2
        funext j
        by_cases hj : j < N
        · simp only [if_pos hj, Option.map_some]
          rw [ad_lo (by omega), hsz]
          congr 2
          omega
        · simp only [if_neg hj, Option.map_none]
      · have e1 : hmu h (K0 + cs) N K i = aI K (fun _ => 0) := by
          unfold hmu
          rw [if_neg h2, if_pos (by omega)]
        rw [e1]
        show F.heap[ad G i]? = some (vp_cell (gA G 0) (K, .inl (fun _ => 0)))
        have := fi (i - (K0 + cs + 1)) (by omega)
        rw [ad_lo (by omega), show gb G + i = H.size + 1 + (i - (K0 + cs + 1)) by omega, this, vp_cell_i]
        show some ({ cls := gA G 0, slots := Array.replicate K (.int 0), vm := .none } : Cell) = _
        rw [arrV_new]
  have hS1 : va_S (inA G) s.heap F.heap locs := by
    refine ⟨Nat.le_trans hS.1 (by omega), fun q h1 h2 => ?_, hS.2.2⟩
    rw [fo q (Nat.lt_of_lt_of_le h1 hS.1)]
    exact hS.2.1 q h1 h2
  have X'' : Stand p (gl G) e (rmm d mc ms) s m args below meth c F locs (cs + (1 + N)) (sl + (N + N * K)) := by
    rw [← Nat.add_assoc, ← Nat.add_assoc]
    exact X'
  have hsm := szH_mu (N := N) (K := K) hz
  obtain ⟨t, a1, b1⟩ := kk p e s m args below meth c K0 E F.heap locs ls (fun i => by rw [hsm i]; omega) (by omega) (by rw [show K0 + (cs + (1 + N)) = K0 + cs + 1 + N by omega]; exact hP1) hS1 hl F rfl X''
  refine ⟨t, step t ?_, b1⟩
  have e9 : (F0 m pc ls (.int (nI K) :: .int (nI N) :: st.map (tv G))).pc + 4 = pc + 4 := rfl
  have eh : T.heap.size = ad G (K0 + cs) := by rw [hT, hsz, ad_lo (by omega)]
  rw [eh]
  exact a1
end
section
/-! constructor of Search -/
theorem z_num {G : mG} {M : mD} {d mc ms cs sl cs' sl' pc : Nat} {lv : List (Option Value)} {st : List Value} {h : mH} {Q : Option Value → mH → Prop} (e1 : cs = cs') (e2 : sl = sl') (k : Z G M d mc ms cs' sl' pc lv st h Q) : Z G M d mc ms cs sl pc lv st h Q := by
  subst e1; subst e2; exact k
theorem z_gen {G : mG} {M : mD} {d mc ms cs sl pc : Nat} {lv : List (Option Value)} {st : List Value} {h : mH} {Q : Option Value → mH → Prop} (k : ∀ h2, h2 = h → Z G M d mc ms cs sl pc lv st h2 Q) : Z G M d mc ms cs sl pc lv st h Q := k h rfl
theorem hmu_k {h : mH} {k N K : Nat} : hmu h k N K k = aR 3 N (fun i => if i < N then some (k + 1 + i) else none) := by simp [hmu]
theorem hmu_r {h : mH} {k N K q : Nat} (hq : q < N) : hmu h k N K (k + 1 + q) = aI K (fun _ => 0) := by
  unfold hmu
  rw [if_neg (by omega), if_pos (by omega)]
theorem hmu_n {h : mH} {k N K j : Nat} (hj : j < k ∨ k + 1 + N ≤ j) : hmu h k N K j = h j := by
  unfold hmu
  rw [if_neg (by omega), if_neg (by omega)]
def stp (h : mH) (S N k : Nat) (tl : Int32) (pl ly : Nat → Int32) (up : Nat → Bool) (ht : Nat → Int32) : Prop := h S = oStrip S (nI k) tl ∧ h (S + 1) = aI N pl ∧ h (S + 2) = aI N ly ∧ h (S + 3) = aZ N up ∧ h (S + 4) = aI N ht
def oSea (S : Nat) (ce fo wa fd : Int32) : mE := oB 3 [.ref (S + 1), .ref (S + 2), .ref (S + 3), .ref (S + 8), .ref (S + 9), .int ce, .int fo, .int wa, .int fd]
/-- what never changes of a search -/
def seaC (h : mH) (S m : Nat) : Prop := (∃ f, h (S + 2) = aR 2 4 f ∧ ∀ q, q < m → f q = some (S + 22 + 5 * q)) ∧ h (S + 3) = aR 3 4 (fun i => if i < 4 then some (S + 3 + 1 + i) else none) ∧ h (S + 9) = aR 3 12 (fun i => if i < 12 then some (S + 9 + 1 + i) else none)
theorem i_search {G : mG} {h : mH} {S : Nat} (d : Nat) (hd : 3 ≤ d) (hAO : ∀ U, gI G U → va_AO "CreasedPaper$Strip" U) (hAA : ∀ U, gI G U → (Cond.arrayOver (.array .int)).before #[] U = true) (hz : szH h (S + 1)) (hS : h S = oB 3 [.null, .null, .null, .null, .null, .int 0, .int 0, .int 0, .int 0]) : EV G m_X3_init d 41 783 [.ref S] h (fun r h' => r = none ∧ (∀ j, j < S → h' j = h j) ∧ szH h' (S + 42) ∧ h' S = oSea S 0 0 0 0 ∧ h' (S + 1) = aI 3 (fun _ => 0) ∧ seaC h' S 4 ∧ (∀ q, q < 4 → h' (S + 3 + 1 + q) = aI 12 (fun _ => 0)) ∧ h' (S + 8) = aI 12 (fun _ => 0) ∧ (∀ q, q < 12 → h' (S + 9 + 1 + q) = aI 3 (fun _ => 0)) ∧ (∀ q, q < 4 → stp h' (S + 22 + 5 * q) 12 12 0 (cpN nI (fun _ => 0) 12) (cpN (fun _ => 0) (fun _ => 0) 12) (cpN (fun _ => true) (fun _ => false) 12) (fun _ => 0))) := by
  have key : ∀ i, i ≤ 4 → ∀ h1 : mH, (∀ j, j < S → h1 j = h j) → szH h1 (S + 22 + 5 * i) → h1 S = oSea S 0 0 0 0 → h1 (S + 1) = aI 3 (fun _ => 0) → seaC h1 S i → (∀ q, q < 4 → h1 (S + 3 + 1 + q) = aI 12 (fun _ => 0)) → h1 (S + 8) = aI 12 (fun _ => 0) → (∀ q, q < 12 → h1 (S + 9 + 1 + q) = aI 3 (fun _ => 0)) → (∀ q, q < i → stp h1 (S + 22 + 5 * q) 12 12 0 (cpN nI (fun _ => 0) 12) (cpN (fun _ => 0) (fun _ => 0) 12) (cpN (fun _ => true) (fun _ => false) 12) (fun _ => 0)) → Z G m_X3_init d 41 783 (21 + 5 * i) (119 + 166 * i) 51 [some (.ref S), some (.int (nI i))] [] h1 (fun r h' => r = none ∧ (∀ j, j < S → h' j = h j) ∧ szH h' (S + 42) ∧ h' S = oSea S 0 0 0 0 ∧ h' (S + 1) = aI 3 (fun _ => 0) ∧ seaC h' S 4 ∧ (∀ q, q < 4 → h' (S + 3 + 1 + q) = aI 12 (fun _ => 0)) ∧ h' (S + 8) = aI 12 (fun _ => 0) ∧ (∀ q, q < 12 → h' (S + 9 + 1 + q) = aI 3 (fun _ => 0)) ∧ (∀ q, q < 4 → stp h' (S + 22 + 5 * q) 12 12 0 (cpN nI (fun _ => 0) 12) (cpN (fun _ => 0) (fun _ => 0) 12) (cpN (fun _ => true) (fun _ => false) 12) (fun _ => 0))) := by
    refine loopZ (k := 4) _ ?_ ?_
    · intro h1 hf hz1 e0 e1 e2 e3 e8 e9 es
      refine z_ild1 (n := 52) (by decide +kernel) ?_
      refine z_iconst (n := 53) (q := 3) (v := 3) (by decide +kernel) ?_
      refine z_icmp_gt_t (n := 56) (off := 24) (tgt := 77) (by decide +kernel) (by decide) ?_
      refine z_vret (by decide +kernel) rfl (by first | omega | (simp only [List.length]; omega)) ?_
      exact ⟨rfl, hf, hz1, e0, e1, e2, e3, e8, e9, es⟩
    · intro i il ih h1 hf hz e0 e1 e2 e3 e8 e9 es
      obtain ⟨⟨f, ef, hff⟩, e4, e5⟩ := e2
      refine z_ild1 (n := 52) (by decide +kernel) ?_
      refine z_iconst (n := 53) (q := 3) (v := 3) (by decide +kernel) ?_
      refine z_icmp_gt_f (n := 56) (off := 24) (tgt := 77) (by decide +kernel) (nI_nlt (a := 3) (by omega) (by omega)) ?_
      refine z_ald0 (n := 57) (by decide +kernel) ?_
      refine z_getf (n := 60) (idx := 17) (by decide +kernel) fl_X3_17 (by first | assumption | (simp (disch := omega) only [hu_s, hu_n]; first | assumption | rfl)) (by rfl) ?_
      refine z_ild1 (n := 61) (by decide +kernel) ?_
      refine z_new (n := 64) (idx := 15) (k := S + 22 + 5 * i) (by decide +kernel) kc_X3_15 (by intro i9; (try simp only [hFl, hu]); (repeat' split); all_goals first | exact hz i9 | (rw [hz i9]; omega) | (constructor <;> intro q9 <;> first | omega | cases q9)) (by first | omega | (simp only [List.length]; omega)) (by first | omega | (simp only [List.length]; omega)) ?_
      refine z_dup (n := 65) (by decide +kernel) rfl ?_
      refine z_bipush (n := 67) (q := 12) (v := 12) (by decide +kernel) ?_
      refine z_j1 (n := 70) (idx := 32) (by decide +kernel) ml_X3_32 ⟨rfl, rfl⟩ (Nat.le_of_ble_eq_true rfl) (by omega) ⟨by first | omega | (simp only [List.length]; omega), by first | omega | (simp only [List.length]; omega)⟩ (i_strip (S := S + 22 + 5 * i) (N := 12) 2 (by omega) (szH_push hz oB_dd) (by simp (disch := omega) only [hTn, hCr, hFl, hu_s, hu_n]; first | done | assumption | rfl) (by omega)) (fun h67 q67 => ?_)
      obtain ⟨f67, z67, s0, s1, s2, s3, s4⟩ := q67; have g67 : ∀ j, j < S + 22 + 5 * i → h67 j = h1 j := fun j hj => (f67 j hj).trans (hu_n (by omega)); have a67 : h67 (S + 2) = aR 2 4 f := (g67 _ (by omega)).trans ef
      refine z_aast (n := 71) (by decide +kernel) (by first | assumption | (simp (disch := omega) only [hu_s, hu_n]; first | assumption | rfl)) (by first | assumption | (simp (disch := omega) only [hu_s, hu_n]; first | assumption | rfl)) (by first | assumption | exact ix_nI (by omega) (by omega)) ?_
      refine z_inc1 (n := 74) (q := 1) (by decide +kernel) rfl (nI_1 _) ?_
      refine z_goto (n := 77) (off := -23) (tgt := 51) (by decide +kernel) ?_
      refine z_num (cs' := 21 + 5 * (i + 1)) (sl' := 119 + 166 * (i + 1)) (by omega) (by simp only [List.length]; omega) (ih _ (fun j hj => by rw [hu_n (by omega), g67 j (by omega)]; exact hf j hj) (szH_set z67 (by omega) aR_dd) (by rw [hu_n (by omega), g67 _ (by omega)]; exact e0) (by rw [hu_n (by omega), g67 _ (by omega)]; exact e1) ⟨⟨_, hu_s, fun q hq => ?_⟩, by rw [hu_n (by omega), g67 _ (by omega)]; exact e4, by rw [hu_n (by omega), g67 _ (by omega)]; exact e5⟩ (fun q hq => by rw [hu_n (by omega), g67 _ (by omega)]; exact e3 q hq) (by rw [hu_n (by omega), g67 _ (by omega)]; exact e8) (fun q hq => by rw [hu_n (by omega), g67 _ (by omega)]; exact e9 q hq) (fun q hq => ?_))
      · by_cases e : q = i
        · subst e; simp [va_up]
        · simp only [va_up, if_neg e]
          exact hff q (by omega)
      · by_cases e : q = i
        · subst e
          exact ⟨by rw [hu_n (by omega)]; exact s0, by rw [hu_n (by omega)]; exact s1, by rw [hu_n (by omega)]; exact s2, by rw [hu_n (by omega)]; exact s3, by rw [hu_n (by omega)]; exact s4⟩
        · obtain ⟨r0, r1, r2, r3, r4⟩ := es q (by omega)
          exact ⟨by rw [hu_n (by omega), g67 _ (by omega)]; exact r0, by rw [hu_n (by omega), g67 _ (by omega)]; exact r1, by rw [hu_n (by omega), g67 _ (by omega)]; exact r2, by rw [hu_n (by omega), g67 _ (by omega)]; exact r3, by rw [hu_n (by omega), g67 _ (by omega)]; exact r4⟩
  refine ev_1_1 rfl (by decide +kernel) (by decide +kernel) ?_
  refine z_ald0 (n := 1) (by decide +kernel) ?_
  refine z_objI (n := 4) (idx := 3) (by decide +kernel) jl_X3_3 (Nat.le_of_ble_eq_true rfl) (by omega) ?_
  refine z_ald0 (n := 5) (by decide +kernel) ?_
  refine z_iconst (n := 6) (q := 3) (v := 3) (by decide +kernel) ?_
  refine z_newI (n := 8) (k := S + 1) (N := 3) (by decide +kernel) (by intro i9; (try simp only [hFl, hu]); (repeat' split); all_goals first | exact hz i9 | (rw [hz i9]; omega) | (constructor <;> intro q9 <;> first | omega | cases q9)) (by omega) (by first | omega | (simp only [List.length]; omega)) (by first | omega | (simp only [List.length]; omega)) ?_
  refine z_putF (n := 11) (idx := 11) (ty := (.array .int)) (by decide +kernel) fl_X3_11 (by first | assumption | (simp (disch := omega) only [hu_s, hu_n, hmu_n]; first | assumption | rfl)) ⟨_, _, _, rfl, rfl, rfl, by decide +kernel⟩ rfl rfl (Nat.le_of_ble_eq_true rfl) ?_
  refine z_ald0 (n := 12) (by decide +kernel) ?_
  refine z_iconst (n := 13) (q := 4) (v := 4) (by decide +kernel) ?_
  refine z_newS (n := 16) (idx := 15) (k := S + 2) (N := 4) (by decide +kernel) kl_X3_15 hAO (by intro i9; (try simp only [hFl, hu]); (repeat' split); all_goals first | exact hz i9 | (rw [hz i9]; omega) | (constructor <;> intro q9 <;> first | omega | cases q9)) (by omega) (by first | omega | (simp only [List.length]; omega)) (by first | omega | (simp only [List.length]; omega)) ?_
  refine z_putF (n := 19) (idx := 17) (ty := (.array (.object "CreasedPaper$Strip"))) (by decide +kernel) fl_X3_17 (by first | assumption | (simp (disch := omega) only [hu_s, hu_n, hmu_n]; first | assumption | rfl)) ⟨_, _, _, rfl, rfl, rfl, by decide +kernel⟩ rfl rfl (Nat.le_of_ble_eq_true rfl) ?_
  refine z_ald0 (n := 20) (by decide +kernel) ?_
  refine z_iconst (n := 21) (q := 4) (v := 4) (by decide +kernel) ?_
  refine z_bipush (n := 23) (q := 12) (v := 12) (by decide +kernel) ?_
  refine z_mna (n := 27) (idx := 21) (k := S + 3) (N := 4) (K := 12) (by decide +kernel) kl_X3_21 hAA (by intro i9; (try simp only [hFl, hu]); (repeat' split); all_goals first | exact hz i9 | (rw [hz i9]; omega) | (constructor <;> intro q9 <;> first | omega | cases q9)) (by omega) (by omega) (by first | omega | (simp only [List.length]; omega)) (by first | omega | (simp only [List.length]; omega)) ?_
  refine z_putF (n := 30) (idx := 23) (ty := (.array (.array .int))) (by decide +kernel) fl_X3_23 (by first | assumption | (simp (disch := omega) only [hu_s, hu_n, hmu_n]; first | assumption | rfl)) ⟨_, _, _, rfl, rfl, rfl, by decide +kernel⟩ rfl rfl (Nat.le_of_ble_eq_true rfl) ?_
  skip
  refine z_gen (fun h2 e2 => ?_)
  have hz0 := hz
  have hz : szH h2 (S + 8) := by
    rw [e2]
    exact szH_set (szH_mu (k := S + 3) (by intro i9; (try simp only [hFl, hu]); (repeat' split); all_goals first | exact hz i9 | (rw [hz i9]; omega) | (constructor <;> intro q9 <;> first | omega | cases q9))) (by omega) oB_dd
  have g2 : ∀ j, j < S → h2 j = h j := fun j hj => by rw [e2]; simp (disch := omega) only [hu_n, hmu_n]
  have a0 : h2 S = oB 3 [.ref (S + 1), .ref (S + 2), .ref (S + 3), .null, .null, .int 0, .int 0, .int 0, .int 0] := by rw [e2, hu_s]; rfl
  have a1 : h2 (S + 1) = aI 3 (fun _ => 0) := by rw [e2]; simp (disch := omega) only [hu_s, hu_n, hmu_n]
  have a2 : h2 (S + 2) = aR 2 4 (fun _ => none) := by rw [e2]; simp (disch := omega) only [hu_s, hu_n, hmu_n]
  have a3 : h2 (S + 3) = aR 3 4 (fun i => if i < 4 then some (S + 3 + 1 + i) else none) := by rw [e2, hu_n (by omega), hmu_k]
  have a4 : ∀ q, q < 4 → h2 (S + 3 + 1 + q) = aI 12 (fun _ => 0) := fun q hq => by rw [e2, hu_n (by omega), hmu_r hq]
  clear e2
  refine z_ald0 (n := 31) (by decide +kernel) ?_
  refine z_bipush (n := 33) (q := 12) (v := 12) (by decide +kernel) ?_
  refine z_newI (n := 35) (k := S + 8) (N := 12) (by decide +kernel) (by intro i9; (try simp only [hFl, hu]); (repeat' split); all_goals first | exact hz i9 | (rw [hz i9]; omega) | (constructor <;> intro q9 <;> first | omega | cases q9)) (by omega) (by first | omega | (simp only [List.length]; omega)) (by first | omega | (simp only [List.length]; omega)) ?_
  refine z_putF (n := 38) (idx := 26) (ty := (.array .int)) (by decide +kernel) fl_X3_26 (by first | assumption | (simp (disch := omega) only [hu_s, hu_n, hmu_n]; first | assumption | rfl)) ⟨_, _, _, rfl, rfl, rfl, by decide +kernel⟩ rfl rfl (Nat.le_of_ble_eq_true rfl) ?_
  refine z_ald0 (n := 39) (by decide +kernel) ?_
  refine z_bipush (n := 41) (q := 12) (v := 12) (by decide +kernel) ?_
  refine z_iconst (n := 42) (q := 3) (v := 3) (by decide +kernel) ?_
  refine z_mna (n := 46) (idx := 21) (k := S + 9) (N := 12) (K := 3) (by decide +kernel) kl_X3_21 hAA (by intro i9; (try simp only [hFl, hu]); (repeat' split); all_goals first | exact hz i9 | (rw [hz i9]; omega) | (constructor <;> intro q9 <;> first | omega | cases q9)) (by omega) (by omega) (by first | omega | (simp only [List.length]; omega)) (by first | omega | (simp only [List.length]; omega)) ?_
  refine z_putF (n := 49) (idx := 29) (ty := (.array (.array .int))) (by decide +kernel) fl_X3_29 (by first | assumption | (simp (disch := omega) only [hu_s, hu_n, hmu_n]; first | assumption | rfl)) ⟨_, _, _, rfl, rfl, rfl, by decide +kernel⟩ rfl rfl (Nat.le_of_ble_eq_true rfl) ?_
  refine z_iconst (n := 50) (q := 0) (v := 0) (by decide +kernel) ?_
  refine z_ist1 (n := 51) (by decide +kernel) rfl ?_
  skip
  refine z_num (cs' := 21 + 5 * 0) (sl' := 119 + 166 * 0) (by omega) (by omega) (key 0 (by omega) _ (fun j hj => ?_) (szH_set (szH_mu (k := S + 9) (by intro i9; (try simp only [hFl, hu]); (repeat' split); all_goals first | exact hz i9 | (rw [hz i9]; omega) | (constructor <;> intro q9 <;> first | omega | cases q9))) (by omega) oB_dd) (by rw [hu_s]; rfl) ?_ ⟨⟨fun _ => none, ?_, fun q hq => by omega⟩, ?_, ?_⟩ (fun q hq => ?_) ?_ (fun q hq => ?_) (fun q hq => by omega))
  · simp (disch := omega) only [hu_n, hmu_n]
    exact g2 j hj
  · simp (disch := omega) only [hu_n, hmu_n]
    exact a1
  · simp (disch := omega) only [hu_n, hmu_n]
    exact a2
  · simp (disch := omega) only [hu_n, hmu_n]
    exact a3
  · rw [hu_n (by omega), hmu_k]
  · rw [hu_n (by omega), hmu_n (by omega), hu_n (by omega), hu_n (by omega)]
    exact a4 q hq
  · simp (disch := omega) only [hu_n, hu_s, hmu_n]
  · rw [hu_n (by omega), hmu_r hq]
end
section
/-! constructor of CreasedPaper -/
/-- the length that a strip gets -/
def lenN (x : Int32) : Nat := if x < 2 then 2 else if 40 < x then 40 else x.toNatClampNeg
theorem lenN_in (x : Int32) : 2 ≤ lenN x ∧ lenN x ≤ 40 := by
  unfold lenN
  split
  · omega
  · split
    · omega
    · rename_i a b
      have a1 : (2 : Int) ≤ x.toInt := Int32.le_iff_toInt_le.mp (Int32.not_lt.mp a)
      have b1 : x.toInt ≤ 40 := Int32.le_iff_toInt_le.mp (Int32.not_lt.mp b)
      show 2 ≤ x.toInt.toNat ∧ x.toInt.toNat ≤ 40
      omega
theorem lenN_mid {x : Int32} (a : ¬ x < 2) (b : ¬ 40 < x) : nI (lenN x) = x := by
  unfold lenN
  rw [if_neg a, if_neg b]
  obtain ⟨j, hj, rfl⟩ := nI_of (x := x) (fun q => a (Int32.lt_of_lt_of_le q (by decide)))
  rw [nI_clamp hj]
theorem lenN_c (x : Int32) : (if 2 < (if x < 40 then x else 40) then (if x < 40 then x else 40) else 2) = nI (lenN x) := by
  by_cases a : x < 2
  · have h1 : x < 40 := Int32.lt_of_lt_of_le a (by decide)
    have h2 : ¬ 2 < x := fun q => absurd (Int32.lt_trans a q) (Int32.lt_irrefl)
    rw [if_pos h1, if_neg h2]
    unfold lenN
    rw [if_pos a]
    rfl
  · by_cases b : 40 < x
    · have h1 : ¬ x < 40 := fun q => absurd (Int32.lt_trans b q) (Int32.lt_irrefl)
      rw [if_neg h1, if_pos (by decide)]
      unfold lenN
      rw [if_neg a, if_pos b]
      rfl
    · rw [lenN_mid a b]
      by_cases h1 : x < 40
      · rw [if_pos h1]
        by_cases h2 : 2 < x
        · rw [if_pos h2]
        · rw [if_neg h2]
          exact Int32.le_antisymm (Int32.not_lt.mp a) (Int32.not_lt.mp h2)
      · rw [if_neg h1, if_pos (by decide)]
        exact Int32.le_antisymm (Int32.not_lt.mp h1) (Int32.not_lt.mp b)
theorem pap_in {h h' : mH} {B n : Nat} {s : pS} (hf : ∀ j, B ≤ j → j < B + 13 → h' j = h j) (p : pap h B n s) : pap h' B n s := by
  obtain ⟨tl, ht, h0, h1, h2, h3, h4, h5, h6, h7, h8, h9, h10, h11, h12⟩ := p
  exact ⟨tl, ht, (hf _ (by omega) (by omega)).trans h0, (hf _ (by omega) (by omega)).trans h1, (hf _ (by omega) (by omega)).trans h2, (hf _ (by omega) (by omega)).trans h3, (hf _ (by omega) (by omega)).trans h4, (hf _ (by omega) (by omega)).trans h5, (hf _ (by omega) (by omega)).trans h6, (hf _ (by omega) (by omega)).trans h7, (hf _ (by omega) (by omega)).trans h8, (hf _ (by omega) (by omega)).trans h9, (hf _ (by omega) (by omega)).trans h10, (hf _ (by omega) (by omega)).trans h11, (hf _ (by omega) (by omega)).trans h12⟩
theorem she_in {h h' : mH} {E : Nat} {s : eS} (hf : ∀ j, E ≤ j → j < E + 6 → h' j = h j) (p : she h E s) : she h' E s := by
  obtain ⟨h0, h1, h2, h3, h4, h5⟩ := p
  exact ⟨(hf _ (by omega) (by omega)).trans h0, (hf _ (by omega) (by omega)).trans h1, (hf _ (by omega) (by omega)).trans h2, (hf _ (by omega) (by omega)).trans h3, (hf _ (by omega) (by omega)).trans h4, (hf _ (by omega) (by omega)).trans h5⟩
theorem see_in {h h' : mH} {Y : Nat} {s : yS} (hf : ∀ j, Y ≤ j → j < Y + 3 → h' j = h j) (p : see h Y s) : see h' Y s := by
  obtain ⟨h0, h1, h2⟩ := p
  exact ⟨(hf _ (by omega) (by omega)).trans h0, (hf _ (by omega) (by omega)).trans h1, (hf _ (by omega) (by omega)).trans h2⟩
def oCP (C : Nat) : mE := oB 10 [.ref (C + 1), .ref (C + 14), .ref (C + 27), .ref (C + 33), .ref (C + 39), .ref (C + 42), .ref (C + 45), .ref (C + 47), .ref (C + 54), .ref (C + 56), .ref (C + 60)]
/-- the tape and the text, as far as they are held -/
def tap (h : mH) (P : Nat) (ln kd sa bh vl : Int32) (by_ : Nat → Int32) : Prop := h P = oTap P ln kd sa bh vl ∧ h (P + 1) = aI 300 by_
def txt (h : mH) (X : Nat) (wr : Bool) (fk fp sp ds dp ad : Int32) (vb nu fb bh oa : Nat → Int32) (tr : Nat → Bool) : Prop := h X = oTex X wr fk fp sp ds dp ad ∧ h (X + 1) = aI 40 vb ∧ h (X + 2) = aI 40 nu ∧ h (X + 3) = aZ 40 tr ∧ h (X + 4) = aI 40 fb ∧ h (X + 5) = aI 40 bh ∧ h (X + 6) = aI 4 oa
/-- the cells of a search, their contents aside -/
def seaX (h : mH) (S : Nat) : Prop := (∃ ce fo wa fd, h S = oSea S ce fo wa fd) ∧ (∃ f, h (S + 1) = aI 3 f) ∧ seaC h S 4 ∧ (∀ q, q < 4 → ∃ f, h (S + 3 + 1 + q) = aI 12 f) ∧ (∃ f, h (S + 8) = aI 12 f) ∧ (∀ q, q < 12 → ∃ f, h (S + 9 + 1 + q) = aI 3 f) ∧ (∀ q, q < 4 → ∃ k tl pl ly up ht, stp h (S + 22 + 5 * q) 12 k tl pl ly up ht)
def shaX (h : mH) (S : Nat) : Prop := (∃ an sn fp, h S = oSha S an sn fp) ∧ ∃ f, h (S + 1) = aI 361 f
def panX (h : mH) (S : Nat) : Prop := (∃ ct wt fd, h S = oPan S ct wt fd) ∧ (∃ f, h (S + 1) = aI 8 f) ∧ (∃ f, h (S + 2) = aI 8 f) ∧ ∃ f, h (S + 3) = aI 8 f
theorem seaX_in {h h' : mH} {S : Nat} (hf : ∀ j, S ≤ j → j < S + 42 → h' j = h j) (p : seaX h S) : seaX h' S := by
  obtain ⟨⟨ce, fo, wa, fd, h0⟩, ⟨f1, h1⟩, ⟨⟨f2, h2, h2'⟩, h3, h4⟩, h5, ⟨f6, h6⟩, h7, h8⟩ := p
  refine ⟨⟨ce, fo, wa, fd, (hf _ (by omega) (by omega)).trans h0⟩, ⟨f1, (hf _ (by omega) (by omega)).trans h1⟩, ⟨⟨f2, (hf _ (by omega) (by omega)).trans h2, h2'⟩, (hf _ (by omega) (by omega)).trans h3, (hf _ (by omega) (by omega)).trans h4⟩, fun q hq => ?_, ⟨f6, (hf _ (by omega) (by omega)).trans h6⟩, fun q hq => ?_, fun q hq => ?_⟩
  · obtain ⟨f, e⟩ := h5 q hq
    exact ⟨f, (hf _ (by omega) (by omega)).trans e⟩
  · obtain ⟨f, e⟩ := h7 q hq
    exact ⟨f, (hf _ (by omega) (by omega)).trans e⟩
  · obtain ⟨k, tl, pl, ly, up, ht, e0, e1, e2, e3, e4⟩ := h8 q hq
    exact ⟨k, tl, pl, ly, up, ht, (hf _ (by omega) (by omega)).trans e0, (hf _ (by omega) (by omega)).trans e1, (hf _ (by omega) (by omega)).trans e2, (hf _ (by omega) (by omega)).trans e3, (hf _ (by omega) (by omega)).trans e4⟩
theorem shaX_in {h h' : mH} {S : Nat} (hf : ∀ j, S ≤ j → j < S + 2 → h' j = h j) (p : shaX h S) : shaX h' S := by
  obtain ⟨⟨a, b, c, h0⟩, ⟨f1, h1⟩⟩ := p
  exact ⟨⟨a, b, c, (hf _ (by omega) (by omega)).trans h0⟩, ⟨f1, (hf _ (by omega) (by omega)).trans h1⟩⟩
theorem panX_in {h h' : mH} {S : Nat} (hf : ∀ j, S ≤ j → j < S + 4 → h' j = h j) (p : panX h S) : panX h' S := by
  obtain ⟨⟨a, b, c, h0⟩, ⟨f1, h1⟩, ⟨f2, h2⟩, ⟨f3, h3⟩⟩ := p
  exact ⟨⟨a, b, c, (hf _ (by omega) (by omega)).trans h0⟩, ⟨f1, (hf _ (by omega) (by omega)).trans h1⟩, ⟨f2, (hf _ (by omega) (by omega)).trans h2⟩, ⟨f3, (hf _ (by omega) (by omega)).trans h3⟩⟩
/-- a new object -/
def cls0 (h : mH) (C n : Nat) : Prop := h C = oCP C ∧ pap h (C + 1) n (pS0 n) ∧ pap h (C + 14) n (pS0 n) ∧ she h (C + 27) (0, fun _ _ => 0) ∧ she h (C + 33) (0, fun _ _ => 0) ∧ see h (C + 39) ((0, 0), (fun _ => 0), fun _ => 0) ∧ see h (C + 42) ((0, 0), (fun _ => 0), fun _ => 0) ∧ tap h (C + 45) 0 0 0 0 0 (fun _ => 0) ∧ txt h (C + 47) false 0 (-1) (-1) 0 0 0 (fun _ => 0) (fun _ => 0) (fun _ => 0) (fun _ => 0) (fun _ => 0) (fun _ => false) ∧ shaX h (C + 54) ∧ panX h (C + 56) ∧ seaX h (C + 60)
/-- the words on the constructors of nest mates -/
def nws : List Cond := [.methodLinkNest "CreasedPaper" 32 ⟨"CreasedPaper$Sheets", "<init>", "()V"⟩ "CreasedPaper", .methodLinkNest "CreasedPaper" 42 ⟨"CreasedPaper$Seen", "<init>", "()V"⟩ "CreasedPaper", .methodLinkNest "CreasedPaper" 52 ⟨"CreasedPaper$Tape", "<init>", "()V"⟩ "CreasedPaper", .methodLinkNest "CreasedPaper" 59 ⟨"CreasedPaper$Text", "<init>", "()V"⟩ "CreasedPaper", .methodLinkNest "CreasedPaper" 66 ⟨"CreasedPaper$Shapes", "<init>", "()V"⟩ "CreasedPaper", .methodLinkNest "CreasedPaper" 73 ⟨"CreasedPaper$Panels", "<init>", "()V"⟩ "CreasedPaper"]
theorem i_creased {G : mG} {h : mH} {C n : Nat} {x : Int32} (d : Nat) (hd : 4 ≤ d) (hAO : ∀ U, gI G U → va_AO "CreasedPaper$Strip" U) (hAA : ∀ U, gI G U → (Cond.arrayOver (.array .int)).before #[] U = true) (hNW : ∀ w, w ∈ nws → ∀ U, gI G U → va_Nw w U) (hz : szH h (C + 1)) (hC : h C = oB 10 [.null, .null, .null, .null, .null, .null, .null, .null, .null, .null, .null]) (hn : lenN x = n + 1) : EV G m_X10_init d 101 3100 [.ref C, .int x] h (fun r h' => r = none ∧ (∀ j, j < C → h' j = h j) ∧ szH h' (C + 102) ∧ cls0 h' C n) := by
  have hle := lenN_in x
  refine ev_2_1 rfl rfl (by decide +kernel) (by decide +kernel) ?_
  refine z_ald0 (n := 1) (by decide +kernel) ?_
  refine z_objI (n := 4) (idx := 1) (by decide +kernel) jl_X10_1 (Nat.le_of_ble_eq_true rfl) (by omega) ?_
  refine z_iconst (n := 5) (q := 2) (v := 2) (by decide +kernel) ?_
  refine z_bipush (n := 7) (q := 40) (v := 40) (by decide +kernel) ?_
  refine z_ild1 (n := 8) (by decide +kernel) ?_
  refine z_mmin (n := 11) (idx := 9) (by decide +kernel) jl_X10_9 (Nat.le_of_ble_eq_true rfl) (by omega) (Nat.le_of_ble_eq_true rfl) (Nat.le_of_ble_eq_true rfl) ?_
  refine z_mmax (n := 14) (idx := 15) (by decide +kernel) jl_X10_15 (Nat.le_of_ble_eq_true rfl) (by omega) (Nat.le_of_ble_eq_true rfl) (Nat.le_of_ble_eq_true rfl) ?_
  refine z_top ((lenN_c x).trans (by rw [hn])) ?_
  refine z_ist2 (n := 15) (by decide +kernel) rfl ?_
  refine z_ald0 (n := 16) (by decide +kernel) ?_
  refine z_new (n := 19) (idx := 18) (k := C + 1) (by decide +kernel) kc_X10_18 (by intro i9; (try simp only [hFl, hu]); (repeat' split); all_goals first | exact hz i9 | (rw [hz i9]; omega) | (constructor <;> intro q9 <;> first | omega | cases q9)) (by first | omega | (simp only [List.length]; omega)) (by first | omega | (simp only [List.length]; omega)) ?_
  refine z_dup (n := 20) (by decide +kernel) rfl ?_
  refine z_ild2 (n := 21) (by decide +kernel) ?_
  refine z_j1 (n := 24) (idx := 20) (by decide +kernel) ml_X10_20 ⟨rfl, rfl⟩ (Nat.le_of_ble_eq_true rfl) (by omega) ⟨by first | omega | (simp only [List.length]; omega), by first | omega | (simp only [List.length]; omega)⟩ (i_paper (B := C + 1) (n := n) 3 (by omega) (szH_push (by intro i9; (try simp only [hFl, hu]); (repeat' split); all_goals first | exact hz i9 | (rw [hz i9]; omega) | (constructor <;> intro q9 <;> first | omega | cases q9)) oB_dd) (by simp (disch := omega) only [hTn, hCr, hFl, hu_s, hu_n]; first | done | assumption | rfl) (by omega)) (fun h21 q21 => ?_)
  obtain ⟨f0, z0, p0⟩ := q21; have b0 : h21 C = oB 10 [.null, .null, .null, .null, .null, .null, .null, .null, .null, .null, .null] := (f0 C (by omega)).trans (by simp (disch := omega) only [hu_s, hu_n]; first | done | assumption | rfl); have g0 : ∀ j, j < C + 1 → j ≠ C → h21 j = h j := fun j hj hc => (f0 j (by omega)).trans (by simp (disch := omega) only [hu_n]); clear hz; have hz := z0
  refine z_putF (n := 27) (idx := 23) (ty := (.object "CreasedPaper$Paper")) (by decide +kernel) fl_X10_23 (by first | assumption | (simp (disch := omega) only [hu_s, hu_n]; first | assumption | rfl)) ⟨_, _, _, rfl, rfl, rfl, by decide +kernel⟩ rfl rfl (Nat.le_of_ble_eq_true rfl) ?_
  refine z_ald0 (n := 28) (by decide +kernel) ?_
  refine z_new (n := 31) (idx := 18) (k := C + 14) (by decide +kernel) kc_X10_18 (by intro i9; (try simp only [hFl, hu]); (repeat' split); all_goals first | exact hz i9 | (rw [hz i9]; omega) | (constructor <;> intro q9 <;> first | omega | cases q9)) (by first | omega | (simp only [List.length]; omega)) (by first | omega | (simp only [List.length]; omega)) ?_
  refine z_dup (n := 32) (by decide +kernel) rfl ?_
  refine z_ild2 (n := 33) (by decide +kernel) ?_
  refine z_j1 (n := 36) (idx := 20) (by decide +kernel) ml_X10_20 ⟨rfl, rfl⟩ (Nat.le_of_ble_eq_true rfl) (by omega) ⟨by first | omega | (simp only [List.length]; omega), by first | omega | (simp only [List.length]; omega)⟩ (i_paper (B := C + 14) (n := n) 3 (by omega) (szH_push (by intro i9; (try simp only [hFl, hu]); (repeat' split); all_goals first | exact hz i9 | (rw [hz i9]; omega) | (constructor <;> intro q9 <;> first | omega | cases q9)) oB_dd) (by simp (disch := omega) only [hTn, hCr, hFl, hu_s, hu_n]; first | done | assumption | rfl) (by omega)) (fun h33 q33 => ?_)
  obtain ⟨f1, z1, p1⟩ := q33; have b1 : h33 C = oB 10 [.ref (C + 1), .null, .null, .null, .null, .null, .null, .null, .null, .null, .null] := (f1 C (by omega)).trans (by simp (disch := omega) only [hu_s, hu_n]; first | done | assumption | rfl); have g1 : ∀ j, j < C + 14 → j ≠ C → h33 j = h21 j := fun j hj hc => (f1 j (by omega)).trans (by simp (disch := omega) only [hu_n]); clear hz; have hz := z1
  refine z_putF (n := 39) (idx := 27) (ty := (.object "CreasedPaper$Paper")) (by decide +kernel) fl_X10_27 (by first | assumption | (simp (disch := omega) only [hu_s, hu_n]; first | assumption | rfl)) ⟨_, _, _, rfl, rfl, rfl, by decide +kernel⟩ rfl rfl (Nat.le_of_ble_eq_true rfl) ?_
  refine z_ald0 (n := 40) (by decide +kernel) ?_
  refine z_new (n := 43) (idx := 30) (k := C + 27) (by decide +kernel) kc_X10_30 (by intro i9; (try simp only [hFl, hu]); (repeat' split); all_goals first | exact hz i9 | (rw [hz i9]; omega) | (constructor <;> intro q9 <;> first | omega | cases q9)) (by first | omega | (simp only [List.length]; omega)) (by first | omega | (simp only [List.length]; omega)) ?_
  refine z_dup (n := 44) (by decide +kernel) rfl ?_
  refine z_k0 (n := 47) (idx := 32) (by decide +kernel) ml_X10_32 (hNW _ (by decide +kernel)) ⟨rfl, rfl⟩ (Nat.le_of_ble_eq_true rfl) (by omega) ⟨by first | omega | (simp only [List.length]; omega), by first | omega | (simp only [List.length]; omega)⟩ (i_sheets (S := C + 27) 1 (by omega) (szH_push (by intro i9; (try simp only [hFl, hu]); (repeat' split); all_goals first | exact hz i9 | (rw [hz i9]; omega) | (constructor <;> intro q9 <;> first | omega | cases q9)) oB_dd) (by simp (disch := omega) only [hTn, hCr, hFl, hu_s, hu_n]; first | done | assumption | rfl)) (fun h44 q44 => ?_)
  obtain ⟨f2, z2, p2⟩ := q44; have b2 : h44 C = oB 10 [.ref (C + 1), .ref (C + 14), .null, .null, .null, .null, .null, .null, .null, .null, .null] := (f2 C (by omega)).trans (by simp (disch := omega) only [hu_s, hu_n]; first | done | assumption | rfl); have g2 : ∀ j, j < C + 27 → j ≠ C → h44 j = h33 j := fun j hj hc => (f2 j (by omega)).trans (by simp (disch := omega) only [hu_n]); clear hz; have hz := z2
  refine z_putF (n := 50) (idx := 33) (ty := (.object "CreasedPaper$Sheets")) (by decide +kernel) fl_X10_33 (by first | assumption | (simp (disch := omega) only [hu_s, hu_n]; first | assumption | rfl)) ⟨_, _, _, rfl, rfl, rfl, by decide +kernel⟩ rfl rfl (Nat.le_of_ble_eq_true rfl) ?_
  refine z_ald0 (n := 51) (by decide +kernel) ?_
  refine z_new (n := 54) (idx := 30) (k := C + 33) (by decide +kernel) kc_X10_30 (by intro i9; (try simp only [hFl, hu]); (repeat' split); all_goals first | exact hz i9 | (rw [hz i9]; omega) | (constructor <;> intro q9 <;> first | omega | cases q9)) (by first | omega | (simp only [List.length]; omega)) (by first | omega | (simp only [List.length]; omega)) ?_
  refine z_dup (n := 55) (by decide +kernel) rfl ?_
  refine z_k0 (n := 58) (idx := 32) (by decide +kernel) ml_X10_32 (hNW _ (by decide +kernel)) ⟨rfl, rfl⟩ (Nat.le_of_ble_eq_true rfl) (by omega) ⟨by first | omega | (simp only [List.length]; omega), by first | omega | (simp only [List.length]; omega)⟩ (i_sheets (S := C + 33) 1 (by omega) (szH_push (by intro i9; (try simp only [hFl, hu]); (repeat' split); all_goals first | exact hz i9 | (rw [hz i9]; omega) | (constructor <;> intro q9 <;> first | omega | cases q9)) oB_dd) (by simp (disch := omega) only [hTn, hCr, hFl, hu_s, hu_n]; first | done | assumption | rfl)) (fun h55 q55 => ?_)
  obtain ⟨f3, z3, p3⟩ := q55; have b3 : h55 C = oB 10 [.ref (C + 1), .ref (C + 14), .ref (C + 27), .null, .null, .null, .null, .null, .null, .null, .null] := (f3 C (by omega)).trans (by simp (disch := omega) only [hu_s, hu_n]; first | done | assumption | rfl); have g3 : ∀ j, j < C + 33 → j ≠ C → h55 j = h44 j := fun j hj hc => (f3 j (by omega)).trans (by simp (disch := omega) only [hu_n]); clear hz; have hz := z3
  refine z_putF (n := 61) (idx := 37) (ty := (.object "CreasedPaper$Sheets")) (by decide +kernel) fl_X10_37 (by first | assumption | (simp (disch := omega) only [hu_s, hu_n]; first | assumption | rfl)) ⟨_, _, _, rfl, rfl, rfl, by decide +kernel⟩ rfl rfl (Nat.le_of_ble_eq_true rfl) ?_
  refine z_ald0 (n := 62) (by decide +kernel) ?_
  refine z_new (n := 65) (idx := 40) (k := C + 39) (by decide +kernel) kc_X10_40 (by intro i9; (try simp only [hFl, hu]); (repeat' split); all_goals first | exact hz i9 | (rw [hz i9]; omega) | (constructor <;> intro q9 <;> first | omega | cases q9)) (by first | omega | (simp only [List.length]; omega)) (by first | omega | (simp only [List.length]; omega)) ?_
  refine z_dup (n := 66) (by decide +kernel) rfl ?_
  refine z_k0 (n := 69) (idx := 42) (by decide +kernel) ml_X10_42 (hNW _ (by decide +kernel)) ⟨rfl, rfl⟩ (Nat.le_of_ble_eq_true rfl) (by omega) ⟨by first | omega | (simp only [List.length]; omega), by first | omega | (simp only [List.length]; omega)⟩ (i_seen (S := C + 39) 1 (by omega) (szH_push (by intro i9; (try simp only [hFl, hu]); (repeat' split); all_goals first | exact hz i9 | (rw [hz i9]; omega) | (constructor <;> intro q9 <;> first | omega | cases q9)) oB_dd) (by simp (disch := omega) only [hTn, hCr, hFl, hu_s, hu_n]; first | done | assumption | rfl)) (fun h66 q66 => ?_)
  obtain ⟨f4, z4, p4⟩ := q66; have b4 : h66 C = oB 10 [.ref (C + 1), .ref (C + 14), .ref (C + 27), .ref (C + 33), .null, .null, .null, .null, .null, .null, .null] := (f4 C (by omega)).trans (by simp (disch := omega) only [hu_s, hu_n]; first | done | assumption | rfl); have g4 : ∀ j, j < C + 39 → j ≠ C → h66 j = h55 j := fun j hj hc => (f4 j (by omega)).trans (by simp (disch := omega) only [hu_n]); clear hz; have hz := z4
  refine z_putF (n := 72) (idx := 43) (ty := (.object "CreasedPaper$Seen")) (by decide +kernel) fl_X10_43 (by first | assumption | (simp (disch := omega) only [hu_s, hu_n]; first | assumption | rfl)) ⟨_, _, _, rfl, rfl, rfl, by decide +kernel⟩ rfl rfl (Nat.le_of_ble_eq_true rfl) ?_
  refine z_ald0 (n := 73) (by decide +kernel) ?_
  refine z_new (n := 76) (idx := 40) (k := C + 42) (by decide +kernel) kc_X10_40 (by intro i9; (try simp only [hFl, hu]); (repeat' split); all_goals first | exact hz i9 | (rw [hz i9]; omega) | (constructor <;> intro q9 <;> first | omega | cases q9)) (by first | omega | (simp only [List.length]; omega)) (by first | omega | (simp only [List.length]; omega)) ?_
  refine z_dup (n := 77) (by decide +kernel) rfl ?_
  refine z_k0 (n := 80) (idx := 42) (by decide +kernel) ml_X10_42 (hNW _ (by decide +kernel)) ⟨rfl, rfl⟩ (Nat.le_of_ble_eq_true rfl) (by omega) ⟨by first | omega | (simp only [List.length]; omega), by first | omega | (simp only [List.length]; omega)⟩ (i_seen (S := C + 42) 1 (by omega) (szH_push (by intro i9; (try simp only [hFl, hu]); (repeat' split); all_goals first | exact hz i9 | (rw [hz i9]; omega) | (constructor <;> intro q9 <;> first | omega | cases q9)) oB_dd) (by simp (disch := omega) only [hTn, hCr, hFl, hu_s, hu_n]; first | done | assumption | rfl)) (fun h77 q77 => ?_)
  obtain ⟨f5, z5, p5⟩ := q77; have b5 : h77 C = oB 10 [.ref (C + 1), .ref (C + 14), .ref (C + 27), .ref (C + 33), .ref (C + 39), .null, .null, .null, .null, .null, .null] := (f5 C (by omega)).trans (by simp (disch := omega) only [hu_s, hu_n]; first | done | assumption | rfl); have g5 : ∀ j, j < C + 42 → j ≠ C → h77 j = h66 j := fun j hj hc => (f5 j (by omega)).trans (by simp (disch := omega) only [hu_n]); clear hz; have hz := z5
  refine z_putF (n := 83) (idx := 47) (ty := (.object "CreasedPaper$Seen")) (by decide +kernel) fl_X10_47 (by first | assumption | (simp (disch := omega) only [hu_s, hu_n]; first | assumption | rfl)) ⟨_, _, _, rfl, rfl, rfl, by decide +kernel⟩ rfl rfl (Nat.le_of_ble_eq_true rfl) ?_
  refine z_ald0 (n := 84) (by decide +kernel) ?_
  refine z_new (n := 87) (idx := 50) (k := C + 45) (by decide +kernel) kc_X10_50 (by intro i9; (try simp only [hFl, hu]); (repeat' split); all_goals first | exact hz i9 | (rw [hz i9]; omega) | (constructor <;> intro q9 <;> first | omega | cases q9)) (by first | omega | (simp only [List.length]; omega)) (by first | omega | (simp only [List.length]; omega)) ?_
  refine z_dup (n := 88) (by decide +kernel) rfl ?_
  refine z_k0 (n := 91) (idx := 52) (by decide +kernel) ml_X10_52 (hNW _ (by decide +kernel)) ⟨rfl, rfl⟩ (Nat.le_of_ble_eq_true rfl) (by omega) ⟨by first | omega | (simp only [List.length]; omega), by first | omega | (simp only [List.length]; omega)⟩ (i_tape (S := C + 45) 1 (by omega) (szH_push (by intro i9; (try simp only [hFl, hu]); (repeat' split); all_goals first | exact hz i9 | (rw [hz i9]; omega) | (constructor <;> intro q9 <;> first | omega | cases q9)) oB_dd) (by simp (disch := omega) only [hTn, hCr, hFl, hu_s, hu_n]; first | done | assumption | rfl)) (fun h88 q88 => ?_)
  obtain ⟨f6, z6, p6⟩ := q88; have b6 : h88 C = oB 10 [.ref (C + 1), .ref (C + 14), .ref (C + 27), .ref (C + 33), .ref (C + 39), .ref (C + 42), .null, .null, .null, .null, .null] := (f6 C (by omega)).trans (by simp (disch := omega) only [hu_s, hu_n]; first | done | assumption | rfl); have g6 : ∀ j, j < C + 45 → j ≠ C → h88 j = h77 j := fun j hj hc => (f6 j (by omega)).trans (by simp (disch := omega) only [hu_n]); clear hz; have hz := z6
  refine z_putF (n := 94) (idx := 53) (ty := (.object "CreasedPaper$Tape")) (by decide +kernel) fl_X10_53 (by first | assumption | (simp (disch := omega) only [hu_s, hu_n]; first | assumption | rfl)) ⟨_, _, _, rfl, rfl, rfl, by decide +kernel⟩ rfl rfl (Nat.le_of_ble_eq_true rfl) ?_
  refine z_ald0 (n := 95) (by decide +kernel) ?_
  refine z_new (n := 98) (idx := 57) (k := C + 47) (by decide +kernel) kc_X10_57 (by intro i9; (try simp only [hFl, hu]); (repeat' split); all_goals first | exact hz i9 | (rw [hz i9]; omega) | (constructor <;> intro q9 <;> first | omega | cases q9)) (by first | omega | (simp only [List.length]; omega)) (by first | omega | (simp only [List.length]; omega)) ?_
  refine z_dup (n := 99) (by decide +kernel) rfl ?_
  refine z_k0 (n := 102) (idx := 59) (by decide +kernel) ml_X10_59 (hNW _ (by decide +kernel)) ⟨rfl, rfl⟩ (Nat.le_of_ble_eq_true rfl) (by omega) ⟨by first | omega | (simp only [List.length]; omega), by first | omega | (simp only [List.length]; omega)⟩ (i_text (S := C + 47) 1 (by omega) (szH_push (by intro i9; (try simp only [hFl, hu]); (repeat' split); all_goals first | exact hz i9 | (rw [hz i9]; omega) | (constructor <;> intro q9 <;> first | omega | cases q9)) oB_dd) (by simp (disch := omega) only [hTn, hCr, hFl, hu_s, hu_n]; first | done | assumption | rfl)) (fun h99 q99 => ?_)
  obtain ⟨f7, z7, p7⟩ := q99; have b7 : h99 C = oB 10 [.ref (C + 1), .ref (C + 14), .ref (C + 27), .ref (C + 33), .ref (C + 39), .ref (C + 42), .ref (C + 45), .null, .null, .null, .null] := (f7 C (by omega)).trans (by simp (disch := omega) only [hu_s, hu_n]; first | done | assumption | rfl); have g7 : ∀ j, j < C + 47 → j ≠ C → h99 j = h88 j := fun j hj hc => (f7 j (by omega)).trans (by simp (disch := omega) only [hu_n]); clear hz; have hz := z7
  refine z_putF (n := 105) (idx := 60) (ty := (.object "CreasedPaper$Text")) (by decide +kernel) fl_X10_60 (by first | assumption | (simp (disch := omega) only [hu_s, hu_n]; first | assumption | rfl)) ⟨_, _, _, rfl, rfl, rfl, by decide +kernel⟩ rfl rfl (Nat.le_of_ble_eq_true rfl) ?_
  refine z_ald0 (n := 106) (by decide +kernel) ?_
  refine z_new (n := 109) (idx := 64) (k := C + 54) (by decide +kernel) kc_X10_64 (by intro i9; (try simp only [hFl, hu]); (repeat' split); all_goals first | exact hz i9 | (rw [hz i9]; omega) | (constructor <;> intro q9 <;> first | omega | cases q9)) (by first | omega | (simp only [List.length]; omega)) (by first | omega | (simp only [List.length]; omega)) ?_
  refine z_dup (n := 110) (by decide +kernel) rfl ?_
  refine z_k0 (n := 113) (idx := 66) (by decide +kernel) ml_X10_66 (hNW _ (by decide +kernel)) ⟨rfl, rfl⟩ (Nat.le_of_ble_eq_true rfl) (by omega) ⟨by first | omega | (simp only [List.length]; omega), by first | omega | (simp only [List.length]; omega)⟩ (i_shapes (S := C + 54) 1 (by omega) (szH_push (by intro i9; (try simp only [hFl, hu]); (repeat' split); all_goals first | exact hz i9 | (rw [hz i9]; omega) | (constructor <;> intro q9 <;> first | omega | cases q9)) oB_dd) (by simp (disch := omega) only [hTn, hCr, hFl, hu_s, hu_n]; first | done | assumption | rfl)) (fun h110 q110 => ?_)
  obtain ⟨f8, z8, p8⟩ := q110; have b8 : h110 C = oB 10 [.ref (C + 1), .ref (C + 14), .ref (C + 27), .ref (C + 33), .ref (C + 39), .ref (C + 42), .ref (C + 45), .ref (C + 47), .null, .null, .null] := (f8 C (by omega)).trans (by simp (disch := omega) only [hu_s, hu_n]; first | done | assumption | rfl); have g8 : ∀ j, j < C + 54 → j ≠ C → h110 j = h99 j := fun j hj hc => (f8 j (by omega)).trans (by simp (disch := omega) only [hu_n]); clear hz; have hz := z8
  refine z_putF (n := 116) (idx := 67) (ty := (.object "CreasedPaper$Shapes")) (by decide +kernel) fl_X10_67 (by first | assumption | (simp (disch := omega) only [hu_s, hu_n]; first | assumption | rfl)) ⟨_, _, _, rfl, rfl, rfl, by decide +kernel⟩ rfl rfl (Nat.le_of_ble_eq_true rfl) ?_
  refine z_ald0 (n := 117) (by decide +kernel) ?_
  refine z_new (n := 120) (idx := 71) (k := C + 56) (by decide +kernel) kc_X10_71 (by intro i9; (try simp only [hFl, hu]); (repeat' split); all_goals first | exact hz i9 | (rw [hz i9]; omega) | (constructor <;> intro q9 <;> first | omega | cases q9)) (by first | omega | (simp only [List.length]; omega)) (by first | omega | (simp only [List.length]; omega)) ?_
  refine z_dup (n := 121) (by decide +kernel) rfl ?_
  refine z_k0 (n := 124) (idx := 73) (by decide +kernel) ml_X10_73 (hNW _ (by decide +kernel)) ⟨rfl, rfl⟩ (Nat.le_of_ble_eq_true rfl) (by omega) ⟨by first | omega | (simp only [List.length]; omega), by first | omega | (simp only [List.length]; omega)⟩ (i_panels (S := C + 56) 1 (by omega) (szH_push (by intro i9; (try simp only [hFl, hu]); (repeat' split); all_goals first | exact hz i9 | (rw [hz i9]; omega) | (constructor <;> intro q9 <;> first | omega | cases q9)) oB_dd) (by simp (disch := omega) only [hTn, hCr, hFl, hu_s, hu_n]; first | done | assumption | rfl)) (fun h121 q121 => ?_)
  obtain ⟨f9, z9, p9⟩ := q121; have b9 : h121 C = oB 10 [.ref (C + 1), .ref (C + 14), .ref (C + 27), .ref (C + 33), .ref (C + 39), .ref (C + 42), .ref (C + 45), .ref (C + 47), .ref (C + 54), .null, .null] := (f9 C (by omega)).trans (by simp (disch := omega) only [hu_s, hu_n]; first | done | assumption | rfl); have g9 : ∀ j, j < C + 56 → j ≠ C → h121 j = h110 j := fun j hj hc => (f9 j (by omega)).trans (by simp (disch := omega) only [hu_n]); clear hz; have hz := z9
  refine z_putF (n := 127) (idx := 74) (ty := (.object "CreasedPaper$Panels")) (by decide +kernel) fl_X10_74 (by first | assumption | (simp (disch := omega) only [hu_s, hu_n]; first | assumption | rfl)) ⟨_, _, _, rfl, rfl, rfl, by decide +kernel⟩ rfl rfl (Nat.le_of_ble_eq_true rfl) ?_
  refine z_ald0 (n := 128) (by decide +kernel) ?_
  refine z_new (n := 131) (idx := 78) (k := C + 60) (by decide +kernel) kc_X10_78 (by intro i9; (try simp only [hFl, hu]); (repeat' split); all_goals first | exact hz i9 | (rw [hz i9]; omega) | (constructor <;> intro q9 <;> first | omega | cases q9)) (by first | omega | (simp only [List.length]; omega)) (by first | omega | (simp only [List.length]; omega)) ?_
  refine z_dup (n := 132) (by decide +kernel) rfl ?_
  refine z_j0 (n := 135) (idx := 80) (by decide +kernel) ml_X10_80 ⟨rfl, rfl⟩ (Nat.le_of_ble_eq_true rfl) (by omega) ⟨by first | omega | (simp only [List.length]; omega), by first | omega | (simp only [List.length]; omega)⟩ (i_search (S := C + 60) 3 (by omega) hAO hAA (szH_push (by intro i9; (try simp only [hFl, hu]); (repeat' split); all_goals first | exact hz i9 | (rw [hz i9]; omega) | (constructor <;> intro q9 <;> first | omega | cases q9)) oB_dd) (by simp (disch := omega) only [hTn, hCr, hFl, hu_s, hu_n]; first | done | assumption | rfl)) (fun h132 q132 => ?_)
  obtain ⟨f10, z10, p10⟩ := q132; have b10 : h132 C = oB 10 [.ref (C + 1), .ref (C + 14), .ref (C + 27), .ref (C + 33), .ref (C + 39), .ref (C + 42), .ref (C + 45), .ref (C + 47), .ref (C + 54), .ref (C + 56), .null] := (f10 C (by omega)).trans (by simp (disch := omega) only [hu_s, hu_n]; first | done | assumption | rfl); have g10 : ∀ j, j < C + 60 → j ≠ C → h132 j = h121 j := fun j hj hc => (f10 j (by omega)).trans (by simp (disch := omega) only [hu_n]); clear hz; have hz := z10
  refine z_putF (n := 138) (idx := 81) (ty := (.object "CreasedPaper$Search")) (by decide +kernel) fl_X10_81 (by first | assumption | (simp (disch := omega) only [hu_s, hu_n]; first | assumption | rfl)) ⟨_, _, _, rfl, rfl, rfl, by decide +kernel⟩ rfl rfl (Nat.le_of_ble_eq_true rfl) ?_
  skip
  refine z_gen (fun h9 e9 => ?_)
  have t10 : ∀ j, j < C + 102 → j ≠ C → h9 j = h132 j := fun j hj hc => by rw [e9]; exact hu_n hc
  have t9 : ∀ j, j < C + 60 → j ≠ C → h9 j = h121 j := fun j hj hc => (t10 j (by omega) hc).trans (g10 j hj hc)
  have t8 : ∀ j, j < C + 56 → j ≠ C → h9 j = h110 j := fun j hj hc => (t9 j (by omega) hc).trans (g9 j hj hc)
  have t7 : ∀ j, j < C + 54 → j ≠ C → h9 j = h99 j := fun j hj hc => (t8 j (by omega) hc).trans (g8 j hj hc)
  have t6 : ∀ j, j < C + 47 → j ≠ C → h9 j = h88 j := fun j hj hc => (t7 j (by omega) hc).trans (g7 j hj hc)
  have t5 : ∀ j, j < C + 45 → j ≠ C → h9 j = h77 j := fun j hj hc => (t6 j (by omega) hc).trans (g6 j hj hc)
  have t4 : ∀ j, j < C + 42 → j ≠ C → h9 j = h66 j := fun j hj hc => (t5 j (by omega) hc).trans (g5 j hj hc)
  have t3 : ∀ j, j < C + 39 → j ≠ C → h9 j = h55 j := fun j hj hc => (t4 j (by omega) hc).trans (g4 j hj hc)
  have t2 : ∀ j, j < C + 33 → j ≠ C → h9 j = h44 j := fun j hj hc => (t3 j (by omega) hc).trans (g3 j hj hc)
  have t1 : ∀ j, j < C + 27 → j ≠ C → h9 j = h33 j := fun j hj hc => (t2 j (by omega) hc).trans (g2 j hj hc)
  have t0 : ∀ j, j < C + 14 → j ≠ C → h9 j = h21 j := fun j hj hc => (t1 j (by omega) hc).trans (g1 j hj hc)
  have tz : ∀ j, j < C → h9 j = h j := fun j hj => (t0 j (by omega) (by omega)).trans (g0 j (by omega) (by omega))
  obtain ⟨ta0, ta1⟩ := p6
  obtain ⟨te0, te1, te2, te3, te4, te5, te6⟩ := p7
  obtain ⟨hp0, hp1⟩ := p8
  obtain ⟨pn0, pn1, pn2, pn3⟩ := p9
  obtain ⟨sr0, sr1, sr2, sr3, sr4, sr5, sr6⟩ := p10
  have x8 : shaX h110 (C + 54) := ⟨⟨_, _, _, hp0⟩, ⟨_, hp1⟩⟩
  have x9 : panX h121 (C + 56) := ⟨⟨_, _, _, pn0⟩, ⟨_, pn1⟩, ⟨_, pn2⟩, ⟨_, pn3⟩⟩
  have x10 : seaX h132 (C + 60) := ⟨⟨_, _, _, _, sr0⟩, ⟨_, sr1⟩, sr2, fun q hq => ⟨_, sr3 q hq⟩, ⟨_, sr4⟩, fun q hq => ⟨_, sr5 q hq⟩, fun q hq => ⟨_, _, _, _, _, _, sr6 q hq⟩⟩
  refine z_vret (by decide +kernel) rfl (by first | omega | (simp only [List.length]; omega)) ?_
  exact ⟨rfl, tz, by rw [e9]; exact szH_set hz (by omega) oB_dd, by rw [e9, hu_s]; rfl, pap_in (fun j h1 h2 => t0 j (by omega) (by omega)) p0, pap_in (fun j h1 h2 => t1 j (by omega) (by omega)) p1, she_in (fun j h1 h2 => t2 j (by omega) (by omega)) p2, she_in (fun j h1 h2 => t3 j (by omega) (by omega)) p3, see_in (fun j h1 h2 => t4 j (by omega) (by omega)) p4, see_in (fun j h1 h2 => t5 j (by omega) (by omega)) p5, ⟨(t6 _ (by omega) (by omega)).trans ta0, (t6 _ (by omega) (by omega)).trans ta1⟩, ⟨(t7 _ (by omega) (by omega)).trans te0, (t7 _ (by omega) (by omega)).trans te1, (t7 _ (by omega) (by omega)).trans te2, (t7 _ (by omega) (by omega)).trans te3, (t7 _ (by omega) (by omega)).trans te4, (t7 _ (by omega) (by omega)).trans te5, (t7 _ (by omega) (by omega)).trans te6⟩, shaX_in (fun j h1 h2 => t8 j (by omega) (by omega)) x8, panX_in (fun j h1 h2 => t9 j (by omega) (by omega)) x9, seaX_in (fun j h1 h2 => t10 j (by omega) (by omega)) x10⟩
end
section
/-! CreasedPaper: its state, small helps -/
theorem tsw_out2 {x : Int32} (h0 : ¬ x = 0) (h1 : ¬ x = 1) (h2 : ¬ x = 2) : x.toInt < 0 ∨ (2 : Int) < x.toInt := by
  have g0 := lv_neT (a := 0) h0 (by decide)
  have g1 := lv_neT (a := 1) h1 (by decide)
  have g2 := lv_neT (a := 2) h2 (by decide)
  omega
theorem tsw_out6 {x : Int32} (h0 : ¬ x = 0) (h1 : ¬ x = 1) (h2 : ¬ x = 2) (h3 : ¬ x = 3) (h4 : ¬ x = 4) (h5 : ¬ x = 5) (h6 : ¬ x = 6) : x.toInt < 0 ∨ (6 : Int) < x.toInt := by
  have g0 := lv_neT (a := 0) h0 (by decide)
  have g1 := lv_neT (a := 1) h1 (by decide)
  have g2 := lv_neT (a := 2) h2 (by decide)
  have g3 := lv_neT (a := 3) h3 (by decide)
  have g4 := lv_neT (a := 4) h4 (by decide)
  have g5 := lv_neT (a := 5) h5 (by decide)
  have g6 := lv_neT (a := 6) h6 (by decide)
  omega
theorem tsw_out10 {x : Int32} (h0 : ¬ x = 0) (h1 : ¬ x = 1) (h2 : ¬ x = 2) (h3 : ¬ x = 3) (h4 : ¬ x = 4) (h5 : ¬ x = 5) (h6 : ¬ x = 6) (h7 : ¬ x = 7) (h8 : ¬ x = 8) (h9 : ¬ x = 9) (h10 : ¬ x = 10) : x.toInt < 0 ∨ (10 : Int) < x.toInt := by
  have g0 := lv_neT (a := 0) h0 (by decide)
  have g1 := lv_neT (a := 1) h1 (by decide)
  have g2 := lv_neT (a := 2) h2 (by decide)
  have g3 := lv_neT (a := 3) h3 (by decide)
  have g4 := lv_neT (a := 4) h4 (by decide)
  have g5 := lv_neT (a := 5) h5 (by decide)
  have g6 := lv_neT (a := 6) h6 (by decide)
  have g7 := lv_neT (a := 7) h7 (by decide)
  have g8 := lv_neT (a := 8) h8 (by decide)
  have g9 := lv_neT (a := 9) h9 (by decide)
  have g10 := lv_neT (a := 10) h10 (by decide)
  omega
theorem tsw_out24 {x : Int32} (h0 : ¬ x = 0) (h1 : ¬ x = 1) (h2 : ¬ x = 2) (h3 : ¬ x = 3) (h4 : ¬ x = 4) (h5 : ¬ x = 5) (h6 : ¬ x = 6) (h7 : ¬ x = 7) (h8 : ¬ x = 8) (h9 : ¬ x = 9) (h10 : ¬ x = 10) (h11 : ¬ x = 11) (h12 : ¬ x = 12) (h13 : ¬ x = 13) (h14 : ¬ x = 14) (h15 : ¬ x = 15) (h16 : ¬ x = 16) (h17 : ¬ x = 17) (h18 : ¬ x = 18) (h19 : ¬ x = 19) (h20 : ¬ x = 20) (h21 : ¬ x = 21) (h22 : ¬ x = 22) (h23 : ¬ x = 23) (h24 : ¬ x = 24) : x.toInt < 0 ∨ (24 : Int) < x.toInt := by
  have g0 := lv_neT (a := 0) h0 (by decide)
  have g1 := lv_neT (a := 1) h1 (by decide)
  have g2 := lv_neT (a := 2) h2 (by decide)
  have g3 := lv_neT (a := 3) h3 (by decide)
  have g4 := lv_neT (a := 4) h4 (by decide)
  have g5 := lv_neT (a := 5) h5 (by decide)
  have g6 := lv_neT (a := 6) h6 (by decide)
  have g7 := lv_neT (a := 7) h7 (by decide)
  have g8 := lv_neT (a := 8) h8 (by decide)
  have g9 := lv_neT (a := 9) h9 (by decide)
  have g10 := lv_neT (a := 10) h10 (by decide)
  have g11 := lv_neT (a := 11) h11 (by decide)
  have g12 := lv_neT (a := 12) h12 (by decide)
  have g13 := lv_neT (a := 13) h13 (by decide)
  have g14 := lv_neT (a := 14) h14 (by decide)
  have g15 := lv_neT (a := 15) h15 (by decide)
  have g16 := lv_neT (a := 16) h16 (by decide)
  have g17 := lv_neT (a := 17) h17 (by decide)
  have g18 := lv_neT (a := 18) h18 (by decide)
  have g19 := lv_neT (a := 19) h19 (by decide)
  have g20 := lv_neT (a := 20) h20 (by decide)
  have g21 := lv_neT (a := 21) h21 (by decide)
  have g22 := lv_neT (a := 22) h22 (by decide)
  have g23 := lv_neT (a := 23) h23 (by decide)
  have g24 := lv_neT (a := 24) h24 (by decide)
  omega
def win (v lo hi : Int32) : Bool := !decide (v < lo) && !decide (hi < v)
theorem win_nat {x : Int32} {m : Nat} (hm : m < 2 ^ 31) (h : win x 0 (nI m) = true) : ∃ u, u ≤ m ∧ x = nI u := by
  simp only [win, Bool.and_eq_true, Bool.not_eq_true', decide_eq_false_iff_not] at h
  obtain ⟨j, hj, rfl⟩ := nI_of h.1
  refine ⟨j, ?_, rfl⟩
  rcases Nat.lt_or_ge m j with q | q
  · exact absurd (nI_lt q hj) h.2
  · exact q
theorem win_nI {u m : Nat} (hu : u ≤ m) (hm : m < 2 ^ 31) : win (nI u) 0 (nI m) = true := by
  simp only [win, eq_false (nI_pos (n := u) (by omega)), eq_false (nI_nlt (a := m) (b := u) hu hm), decide_false, Bool.not_false, Bool.and_self]
theorem win_ang {x : Int32} (h : win x (-180) 180 = true) : ∃ i, i ≤ 360 ∧ x = ang i := by
  simp only [win, Bool.and_eq_true, Bool.not_eq_true', decide_eq_false_iff_not] at h
  exact ang_of (Int32.not_lt.mp h.1) (Int32.not_lt.mp h.2)
/-- the cells of an object C, and what they hold: paper and its image, sheets, seen (and images), tape, text -/
def clsP (h : mH) (C n : Nat) (p po : pS) (e eo : eS) (y yo : yS) (ln : Nat) (bt : Nat → Int32) (wr : Bool) (fk fp sp : Int32) : Prop :=
  h C = oCP C ∧ pap h (C + 1) n p ∧ pap h (C + 14) n po ∧ she h (C + 27) e ∧ she h (C + 33) eo ∧ see h (C + 39) y ∧ see h (C + 42) yo ∧ (∃ kd sa bh vl, tap h (C + 45) (nI ln) kd sa bh vl bt) ∧ (∃ ds dp ad vb nu fb bh oa tr, txt h (C + 47) wr fk fp sp ds dp ad vb nu fb bh oa tr) ∧ shaX h (C + 54) ∧ panX h (C + 56) ∧ seaX h (C + 60)
theorem tap_in {h h' : mH} {P : Nat} {ln kd sa bh vl : Int32} {b : Nat → Int32} (hf : ∀ j, P ≤ j → j < P + 2 → h' j = h j) (p : tap h P ln kd sa bh vl b) : tap h' P ln kd sa bh vl b := ⟨(hf _ (by omega) (by omega)).trans p.1, (hf _ (by omega) (by omega)).trans p.2⟩
theorem txt_in {h h' : mH} {X : Nat} {wr : Bool} {fk fp sp ds dp ad : Int32} {vb nu fb bh oa : Nat → Int32} {tr : Nat → Bool} (hf : ∀ j, X ≤ j → j < X + 7 → h' j = h j) (p : txt h X wr fk fp sp ds dp ad vb nu fb bh oa tr) : txt h' X wr fk fp sp ds dp ad vb nu fb bh oa tr :=
  ⟨(hf _ (by omega) (by omega)).trans p.1, (hf _ (by omega) (by omega)).trans p.2.1, (hf _ (by omega) (by omega)).trans p.2.2.1, (hf _ (by omega) (by omega)).trans p.2.2.2.1, (hf _ (by omega) (by omega)).trans p.2.2.2.2.1, (hf _ (by omega) (by omega)).trans p.2.2.2.2.2.1, (hf _ (by omega) (by omega)).trans p.2.2.2.2.2.2⟩
theorem cls_pap {h h' : mH} {C n : Nat} {p po : pS} {e eo : eS} {y yo : yS} {ln : Nat} {bt : Nat → Int32} {wr : Bool} {fk fp sp : Int32} {p' : pS} (q : clsP h C n p po e eo y yo ln bt wr fk fp sp) (hf : frm h h' (C + 1) (C + 14)) (hn : pap h' (C + 1) n p') : clsP h' C n p' po e eo y yo ln bt wr fk fp sp := by
  obtain ⟨q0, q1, q2, q3, q4, q5, q6, q7, q8, q9, q10, q11⟩ := q
  exact ⟨(hf C (by omega)).trans q0, hn, (pap_in (fun j h1 h2 => hf j (by omega)) q2), (she_in (fun j h1 h2 => hf j (by omega)) q3), (she_in (fun j h1 h2 => hf j (by omega)) q4), (see_in (fun j h1 h2 => hf j (by omega)) q5), (see_in (fun j h1 h2 => hf j (by omega)) q6), (by obtain ⟨kd, sa, bh, vl, t⟩ := q7; exact ⟨kd, sa, bh, vl, tap_in (fun j h1 h2 => hf j (by omega)) t⟩), (by obtain ⟨ds, dp, ad, vb, nu, fb, bh, oa, tr, t⟩ := q8; exact ⟨ds, dp, ad, vb, nu, fb, bh, oa, tr, txt_in (fun j h1 h2 => hf j (by omega)) t⟩), (shaX_in (fun j h1 h2 => hf j (by omega)) q9), (panX_in (fun j h1 h2 => hf j (by omega)) q10), (seaX_in (fun j h1 h2 => hf j (by omega)) q11)⟩
theorem cls_papo {h h' : mH} {C n : Nat} {p po : pS} {e eo : eS} {y yo : yS} {ln : Nat} {bt : Nat → Int32} {wr : Bool} {fk fp sp : Int32} {po' : pS} (q : clsP h C n p po e eo y yo ln bt wr fk fp sp) (hf : frm h h' (C + 14) (C + 27)) (hn : pap h' (C + 14) n po') : clsP h' C n p po' e eo y yo ln bt wr fk fp sp := by
  obtain ⟨q0, q1, q2, q3, q4, q5, q6, q7, q8, q9, q10, q11⟩ := q
  exact ⟨(hf C (by omega)).trans q0, (pap_in (fun j h1 h2 => hf j (by omega)) q1), hn, (she_in (fun j h1 h2 => hf j (by omega)) q3), (she_in (fun j h1 h2 => hf j (by omega)) q4), (see_in (fun j h1 h2 => hf j (by omega)) q5), (see_in (fun j h1 h2 => hf j (by omega)) q6), (by obtain ⟨kd, sa, bh, vl, t⟩ := q7; exact ⟨kd, sa, bh, vl, tap_in (fun j h1 h2 => hf j (by omega)) t⟩), (by obtain ⟨ds, dp, ad, vb, nu, fb, bh, oa, tr, t⟩ := q8; exact ⟨ds, dp, ad, vb, nu, fb, bh, oa, tr, txt_in (fun j h1 h2 => hf j (by omega)) t⟩), (shaX_in (fun j h1 h2 => hf j (by omega)) q9), (panX_in (fun j h1 h2 => hf j (by omega)) q10), (seaX_in (fun j h1 h2 => hf j (by omega)) q11)⟩
theorem cls_she {h h' : mH} {C n : Nat} {p po : pS} {e eo : eS} {y yo : yS} {ln : Nat} {bt : Nat → Int32} {wr : Bool} {fk fp sp : Int32} {e' : eS} (q : clsP h C n p po e eo y yo ln bt wr fk fp sp) (hf : frm h h' (C + 27) (C + 33)) (hn : she h' (C + 27) e') : clsP h' C n p po e' eo y yo ln bt wr fk fp sp := by
  obtain ⟨q0, q1, q2, q3, q4, q5, q6, q7, q8, q9, q10, q11⟩ := q
  exact ⟨(hf C (by omega)).trans q0, (pap_in (fun j h1 h2 => hf j (by omega)) q1), (pap_in (fun j h1 h2 => hf j (by omega)) q2), hn, (she_in (fun j h1 h2 => hf j (by omega)) q4), (see_in (fun j h1 h2 => hf j (by omega)) q5), (see_in (fun j h1 h2 => hf j (by omega)) q6), (by obtain ⟨kd, sa, bh, vl, t⟩ := q7; exact ⟨kd, sa, bh, vl, tap_in (fun j h1 h2 => hf j (by omega)) t⟩), (by obtain ⟨ds, dp, ad, vb, nu, fb, bh, oa, tr, t⟩ := q8; exact ⟨ds, dp, ad, vb, nu, fb, bh, oa, tr, txt_in (fun j h1 h2 => hf j (by omega)) t⟩), (shaX_in (fun j h1 h2 => hf j (by omega)) q9), (panX_in (fun j h1 h2 => hf j (by omega)) q10), (seaX_in (fun j h1 h2 => hf j (by omega)) q11)⟩
theorem cls_sheo {h h' : mH} {C n : Nat} {p po : pS} {e eo : eS} {y yo : yS} {ln : Nat} {bt : Nat → Int32} {wr : Bool} {fk fp sp : Int32} {eo' : eS} (q : clsP h C n p po e eo y yo ln bt wr fk fp sp) (hf : frm h h' (C + 33) (C + 39)) (hn : she h' (C + 33) eo') : clsP h' C n p po e eo' y yo ln bt wr fk fp sp := by
  obtain ⟨q0, q1, q2, q3, q4, q5, q6, q7, q8, q9, q10, q11⟩ := q
  exact ⟨(hf C (by omega)).trans q0, (pap_in (fun j h1 h2 => hf j (by omega)) q1), (pap_in (fun j h1 h2 => hf j (by omega)) q2), (she_in (fun j h1 h2 => hf j (by omega)) q3), hn, (see_in (fun j h1 h2 => hf j (by omega)) q5), (see_in (fun j h1 h2 => hf j (by omega)) q6), (by obtain ⟨kd, sa, bh, vl, t⟩ := q7; exact ⟨kd, sa, bh, vl, tap_in (fun j h1 h2 => hf j (by omega)) t⟩), (by obtain ⟨ds, dp, ad, vb, nu, fb, bh, oa, tr, t⟩ := q8; exact ⟨ds, dp, ad, vb, nu, fb, bh, oa, tr, txt_in (fun j h1 h2 => hf j (by omega)) t⟩), (shaX_in (fun j h1 h2 => hf j (by omega)) q9), (panX_in (fun j h1 h2 => hf j (by omega)) q10), (seaX_in (fun j h1 h2 => hf j (by omega)) q11)⟩
theorem cls_see {h h' : mH} {C n : Nat} {p po : pS} {e eo : eS} {y yo : yS} {ln : Nat} {bt : Nat → Int32} {wr : Bool} {fk fp sp : Int32} {y' : yS} (q : clsP h C n p po e eo y yo ln bt wr fk fp sp) (hf : frm h h' (C + 39) (C + 42)) (hn : see h' (C + 39) y') : clsP h' C n p po e eo y' yo ln bt wr fk fp sp := by
  obtain ⟨q0, q1, q2, q3, q4, q5, q6, q7, q8, q9, q10, q11⟩ := q
  exact ⟨(hf C (by omega)).trans q0, (pap_in (fun j h1 h2 => hf j (by omega)) q1), (pap_in (fun j h1 h2 => hf j (by omega)) q2), (she_in (fun j h1 h2 => hf j (by omega)) q3), (she_in (fun j h1 h2 => hf j (by omega)) q4), hn, (see_in (fun j h1 h2 => hf j (by omega)) q6), (by obtain ⟨kd, sa, bh, vl, t⟩ := q7; exact ⟨kd, sa, bh, vl, tap_in (fun j h1 h2 => hf j (by omega)) t⟩), (by obtain ⟨ds, dp, ad, vb, nu, fb, bh, oa, tr, t⟩ := q8; exact ⟨ds, dp, ad, vb, nu, fb, bh, oa, tr, txt_in (fun j h1 h2 => hf j (by omega)) t⟩), (shaX_in (fun j h1 h2 => hf j (by omega)) q9), (panX_in (fun j h1 h2 => hf j (by omega)) q10), (seaX_in (fun j h1 h2 => hf j (by omega)) q11)⟩
theorem cls_seeo {h h' : mH} {C n : Nat} {p po : pS} {e eo : eS} {y yo : yS} {ln : Nat} {bt : Nat → Int32} {wr : Bool} {fk fp sp : Int32} {yo' : yS} (q : clsP h C n p po e eo y yo ln bt wr fk fp sp) (hf : frm h h' (C + 42) (C + 45)) (hn : see h' (C + 42) yo') : clsP h' C n p po e eo y yo' ln bt wr fk fp sp := by
  obtain ⟨q0, q1, q2, q3, q4, q5, q6, q7, q8, q9, q10, q11⟩ := q
  exact ⟨(hf C (by omega)).trans q0, (pap_in (fun j h1 h2 => hf j (by omega)) q1), (pap_in (fun j h1 h2 => hf j (by omega)) q2), (she_in (fun j h1 h2 => hf j (by omega)) q3), (she_in (fun j h1 h2 => hf j (by omega)) q4), (see_in (fun j h1 h2 => hf j (by omega)) q5), hn, (by obtain ⟨kd, sa, bh, vl, t⟩ := q7; exact ⟨kd, sa, bh, vl, tap_in (fun j h1 h2 => hf j (by omega)) t⟩), (by obtain ⟨ds, dp, ad, vb, nu, fb, bh, oa, tr, t⟩ := q8; exact ⟨ds, dp, ad, vb, nu, fb, bh, oa, tr, txt_in (fun j h1 h2 => hf j (by omega)) t⟩), (shaX_in (fun j h1 h2 => hf j (by omega)) q9), (panX_in (fun j h1 h2 => hf j (by omega)) q10), (seaX_in (fun j h1 h2 => hf j (by omega)) q11)⟩
theorem cls_tap {h h' : mH} {C n : Nat} {p po : pS} {e eo : eS} {y yo : yS} {ln : Nat} {bt : Nat → Int32} {wr : Bool} {fk fp sp : Int32} {ln' : Nat} {bt' : Nat → Int32} (q : clsP h C n p po e eo y yo ln bt wr fk fp sp) (hf : frm h h' (C + 45) (C + 47)) (hn : ∃ kd sa bh vl, tap h' (C + 45) (nI ln') kd sa bh vl bt') : clsP h' C n p po e eo y yo ln' bt' wr fk fp sp := by
  obtain ⟨q0, q1, q2, q3, q4, q5, q6, q7, q8, q9, q10, q11⟩ := q
  exact ⟨(hf C (by omega)).trans q0, (pap_in (fun j h1 h2 => hf j (by omega)) q1), (pap_in (fun j h1 h2 => hf j (by omega)) q2), (she_in (fun j h1 h2 => hf j (by omega)) q3), (she_in (fun j h1 h2 => hf j (by omega)) q4), (see_in (fun j h1 h2 => hf j (by omega)) q5), (see_in (fun j h1 h2 => hf j (by omega)) q6), hn, (by obtain ⟨ds, dp, ad, vb, nu, fb, bh, oa, tr, t⟩ := q8; exact ⟨ds, dp, ad, vb, nu, fb, bh, oa, tr, txt_in (fun j h1 h2 => hf j (by omega)) t⟩), (shaX_in (fun j h1 h2 => hf j (by omega)) q9), (panX_in (fun j h1 h2 => hf j (by omega)) q10), (seaX_in (fun j h1 h2 => hf j (by omega)) q11)⟩
theorem cls_txt {h h' : mH} {C n : Nat} {p po : pS} {e eo : eS} {y yo : yS} {ln : Nat} {bt : Nat → Int32} {wr : Bool} {fk fp sp : Int32} {wr' : Bool} {fk' fp' sp' : Int32} (q : clsP h C n p po e eo y yo ln bt wr fk fp sp) (hf : frm h h' (C + 47) (C + 54)) (hn : ∃ ds dp ad vb nu fb bh oa tr, txt h' (C + 47) wr' fk' fp' sp' ds dp ad vb nu fb bh oa tr) : clsP h' C n p po e eo y yo ln bt wr' fk' fp' sp' := by
  obtain ⟨q0, q1, q2, q3, q4, q5, q6, q7, q8, q9, q10, q11⟩ := q
  exact ⟨(hf C (by omega)).trans q0, (pap_in (fun j h1 h2 => hf j (by omega)) q1), (pap_in (fun j h1 h2 => hf j (by omega)) q2), (she_in (fun j h1 h2 => hf j (by omega)) q3), (she_in (fun j h1 h2 => hf j (by omega)) q4), (see_in (fun j h1 h2 => hf j (by omega)) q5), (see_in (fun j h1 h2 => hf j (by omega)) q6), (by obtain ⟨kd, sa, bh, vl, t⟩ := q7; exact ⟨kd, sa, bh, vl, tap_in (fun j h1 h2 => hf j (by omega)) t⟩), hn, (shaX_in (fun j h1 h2 => hf j (by omega)) q9), (panX_in (fun j h1 h2 => hf j (by omega)) q10), (seaX_in (fun j h1 h2 => hf j (by omega)) q11)⟩
theorem cls_sha {h h' : mH} {C n : Nat} {p po : pS} {e eo : eS} {y yo : yS} {ln : Nat} {bt : Nat → Int32} {wr : Bool} {fk fp sp : Int32}  (q : clsP h C n p po e eo y yo ln bt wr fk fp sp) (hf : frm h h' (C + 54) (C + 56)) (hn : shaX h' (C + 54)) : clsP h' C n p po e eo y yo ln bt wr fk fp sp := by
  obtain ⟨q0, q1, q2, q3, q4, q5, q6, q7, q8, q9, q10, q11⟩ := q
  exact ⟨(hf C (by omega)).trans q0, (pap_in (fun j h1 h2 => hf j (by omega)) q1), (pap_in (fun j h1 h2 => hf j (by omega)) q2), (she_in (fun j h1 h2 => hf j (by omega)) q3), (she_in (fun j h1 h2 => hf j (by omega)) q4), (see_in (fun j h1 h2 => hf j (by omega)) q5), (see_in (fun j h1 h2 => hf j (by omega)) q6), (by obtain ⟨kd, sa, bh, vl, t⟩ := q7; exact ⟨kd, sa, bh, vl, tap_in (fun j h1 h2 => hf j (by omega)) t⟩), (by obtain ⟨ds, dp, ad, vb, nu, fb, bh, oa, tr, t⟩ := q8; exact ⟨ds, dp, ad, vb, nu, fb, bh, oa, tr, txt_in (fun j h1 h2 => hf j (by omega)) t⟩), hn, (panX_in (fun j h1 h2 => hf j (by omega)) q10), (seaX_in (fun j h1 h2 => hf j (by omega)) q11)⟩
theorem cls_pan {h h' : mH} {C n : Nat} {p po : pS} {e eo : eS} {y yo : yS} {ln : Nat} {bt : Nat → Int32} {wr : Bool} {fk fp sp : Int32}  (q : clsP h C n p po e eo y yo ln bt wr fk fp sp) (hf : frm h h' (C + 56) (C + 60)) (hn : panX h' (C + 56)) : clsP h' C n p po e eo y yo ln bt wr fk fp sp := by
  obtain ⟨q0, q1, q2, q3, q4, q5, q6, q7, q8, q9, q10, q11⟩ := q
  exact ⟨(hf C (by omega)).trans q0, (pap_in (fun j h1 h2 => hf j (by omega)) q1), (pap_in (fun j h1 h2 => hf j (by omega)) q2), (she_in (fun j h1 h2 => hf j (by omega)) q3), (she_in (fun j h1 h2 => hf j (by omega)) q4), (see_in (fun j h1 h2 => hf j (by omega)) q5), (see_in (fun j h1 h2 => hf j (by omega)) q6), (by obtain ⟨kd, sa, bh, vl, t⟩ := q7; exact ⟨kd, sa, bh, vl, tap_in (fun j h1 h2 => hf j (by omega)) t⟩), (by obtain ⟨ds, dp, ad, vb, nu, fb, bh, oa, tr, t⟩ := q8; exact ⟨ds, dp, ad, vb, nu, fb, bh, oa, tr, txt_in (fun j h1 h2 => hf j (by omega)) t⟩), (shaX_in (fun j h1 h2 => hf j (by omega)) q9), hn, (seaX_in (fun j h1 h2 => hf j (by omega)) q11)⟩
theorem cls_sea {h h' : mH} {C n : Nat} {p po : pS} {e eo : eS} {y yo : yS} {ln : Nat} {bt : Nat → Int32} {wr : Bool} {fk fp sp : Int32}  (q : clsP h C n p po e eo y yo ln bt wr fk fp sp) (hf : frm h h' (C + 60) (C + 102)) (hn : seaX h' (C + 60)) : clsP h' C n p po e eo y yo ln bt wr fk fp sp := by
  obtain ⟨q0, q1, q2, q3, q4, q5, q6, q7, q8, q9, q10, q11⟩ := q
  exact ⟨(hf C (by omega)).trans q0, (pap_in (fun j h1 h2 => hf j (by omega)) q1), (pap_in (fun j h1 h2 => hf j (by omega)) q2), (she_in (fun j h1 h2 => hf j (by omega)) q3), (she_in (fun j h1 h2 => hf j (by omega)) q4), (see_in (fun j h1 h2 => hf j (by omega)) q5), (see_in (fun j h1 h2 => hf j (by omega)) q6), (by obtain ⟨kd, sa, bh, vl, t⟩ := q7; exact ⟨kd, sa, bh, vl, tap_in (fun j h1 h2 => hf j (by omega)) t⟩), (by obtain ⟨ds, dp, ad, vb, nu, fb, bh, oa, tr, t⟩ := q8; exact ⟨ds, dp, ad, vb, nu, fb, bh, oa, tr, txt_in (fun j h1 h2 => hf j (by omega)) t⟩), (shaX_in (fun j h1 h2 => hf j (by omega)) q9), (panX_in (fun j h1 h2 => hf j (by omega)) q10), hn⟩
theorem k_isWithin {G : mG} {h : mH} {x lo hi : Int32} (d : Nat) : EV G m_X10_isWithin d 0 0 [.int x, .int lo, .int hi] h (RE (some (.int (bI (win x lo hi)))) h) := by
  refine ev_3_0 rfl rfl rfl (by decide +kernel) (by decide +kernel) ?_
  refine z_ild0 (n := 1) (by decide +kernel) ?_
  refine z_ild1 (n := 2) (by decide +kernel) ?_
  refine z_icmp_lt (n := 5) (off := 12) (tgt := 14) (by decide +kernel) (fun c2 => ?_) (fun c2 => ?_)
  · refine z_iconst (n := 15) (q := 0) (v := 0) (by decide +kernel) ?_
    first | refine z_zr1 (by decide +kernel) rfl (Nat.le_refl _) ?_ | refine z_zr0 (by decide +kernel) rfl (Nat.le_refl _) ?_ | refine z_zrb (by decide +kernel) rfl (Nat.le_refl _) ?_
    exact ⟨by unfold win; simp only [eq_true c2, decide_true, decide_false, Bool.and_true, Bool.and_false, Bool.true_and, Bool.false_and, Bool.or_true, Bool.or_false, Bool.true_or, Bool.false_or, Bool.not_true, Bool.not_false, if_true, if_false], rfl⟩
  · refine z_ild0 (n := 6) (by decide +kernel) ?_
    refine z_ild2 (n := 7) (by decide +kernel) ?_
    refine z_icmp_gt (n := 10) (off := 7) (tgt := 14) (by decide +kernel) (fun c7 => ?_) (fun c7 => ?_)
    · refine z_iconst (n := 15) (q := 0) (v := 0) (by decide +kernel) ?_
      first | refine z_zr1 (by decide +kernel) rfl (Nat.le_refl _) ?_ | refine z_zr0 (by decide +kernel) rfl (Nat.le_refl _) ?_ | refine z_zrb (by decide +kernel) rfl (Nat.le_refl _) ?_
      exact ⟨by unfold win; simp only [eq_false c2, eq_true c7, decide_true, decide_false, Bool.and_true, Bool.and_false, Bool.true_and, Bool.false_and, Bool.or_true, Bool.or_false, Bool.true_or, Bool.false_or, Bool.not_true, Bool.not_false, if_true, if_false], rfl⟩
    · refine z_iconst (n := 11) (q := 1) (v := 1) (by decide +kernel) ?_
      refine z_goto (n := 14) (off := 4) (tgt := 15) (by decide +kernel) ?_
      first | refine z_zr1 (by decide +kernel) rfl (Nat.le_refl _) ?_ | refine z_zr0 (by decide +kernel) rfl (Nat.le_refl _) ?_ | refine z_zrb (by decide +kernel) rfl (Nat.le_refl _) ?_
      exact ⟨by unfold win; simp only [eq_false c2, eq_false c7, decide_true, decide_false, Bool.and_true, Bool.and_false, Bool.true_and, Bool.false_and, Bool.or_true, Bool.or_false, Bool.true_or, Bool.false_or, Bool.not_true, Bool.not_false, if_true, if_false], rfl⟩
theorem k_isAngle {G : mG} {h : mH} {x : Int32} (d : Nat) (hd : 1 ≤ d) : EV G m_X10_isAngle d 0 0 [.int x] h (RE (some (.int (bI (win x (-180) 180)))) h) := by
  refine ev_1_0 rfl (by decide +kernel) (by decide +kernel) ?_
  refine z_ild0 (n := 1) (by decide +kernel) ?_
  refine z_sipush (n := 4) (q := -180) (v := -180) (by decide +kernel) ?_
  refine z_sipush (n := 7) (q := 180) (v := 180) (by decide +kernel) ?_
  refine z_s3 (n := 10) (idx := 85) (by decide +kernel) ml_X10_85 (Nat.le_of_ble_eq_true rfl) (by omega) ⟨Nat.le_refl _, Nat.le_refl _⟩ (k_isWithin 0) ?_
  first | refine z_zr1 (by decide +kernel) rfl (Nat.le_refl _) ?_ | refine z_zr0 (by decide +kernel) rfl (Nat.le_refl _) ?_ | refine z_zrb (by decide +kernel) rfl (Nat.le_refl _) ?_
  exact ⟨rfl, rfl⟩
theorem k_isPush {G : mG} {h : mH} {x : Int32} (d : Nat) (hd : 1 ≤ d) : EV G m_X10_isPush d 0 0 [.int x] h (RE (some (.int (bI (win x (-1000000) 1000000)))) h) := by
  refine ev_1_0 rfl (by decide +kernel) (by decide +kernel) ?_
  refine z_ild0 (n := 1) (by decide +kernel) ?_
  refine z_ldcw (n := 4) (q := 315) (by decide +kernel) lc_X10_315 ?_
  refine z_ldcw (n := 7) (q := 316) (by decide +kernel) lc_X10_316 ?_
  refine z_s3 (n := 10) (idx := 85) (by decide +kernel) ml_X10_85 (Nat.le_of_ble_eq_true rfl) (by omega) ⟨Nat.le_refl _, Nat.le_refl _⟩ (k_isWithin 0) ?_
  first | refine z_zr1 (by decide +kernel) rfl (Nat.le_refl _) ?_ | refine z_zr0 (by decide +kernel) rfl (Nat.le_refl _) ?_ | refine z_zrb (by decide +kernel) rfl (Nat.le_refl _) ?_
  exact ⟨rfl, rfl⟩
theorem k_isSearch {G : mG} {h : mH} {x y : Int32} (d : Nat) (hd : 1 ≤ d) : EV G m_X10_isSearch d 0 0 [.int x, .int y] h (RE (some (.int (bI (win x 2 12 && win y 1 3)))) h) := by
  refine ev_2_0 rfl rfl (by decide +kernel) (by decide +kernel) ?_
  refine z_ild0 (n := 1) (by decide +kernel) ?_
  refine z_iconst (n := 2) (q := 2) (v := 2) (by decide +kernel) ?_
  refine z_bipush (n := 4) (q := 12) (v := 12) (by decide +kernel) ?_
  refine z_s3 (n := 7) (idx := 85) (by decide +kernel) ml_X10_85 (Nat.le_of_ble_eq_true rfl) (by omega) ⟨Nat.le_refl _, Nat.le_refl _⟩ (k_isWithin 0) ?_
  refine z_ifb_eq (n := 10) (off := 16) (tgt := 23) (by decide +kernel) (fun c7 => ?_) (fun c7 => ?_)
  · refine z_iconst (n := 24) (q := 0) (v := 0) (by decide +kernel) ?_
    first | refine z_zr1 (by decide +kernel) rfl (Nat.le_refl _) ?_ | refine z_zr0 (by decide +kernel) rfl (Nat.le_refl _) ?_ | refine z_zrb (by decide +kernel) rfl (Nat.le_refl _) ?_
    exact ⟨by simp only [c7, decide_true, decide_false, Bool.and_true, Bool.and_false, Bool.true_and, Bool.false_and, Bool.or_true, Bool.or_false, Bool.true_or, Bool.false_or, Bool.not_true, Bool.not_false, if_true, if_false], rfl⟩
  · refine z_ild1 (n := 11) (by decide +kernel) ?_
    refine z_iconst (n := 12) (q := 1) (v := 1) (by decide +kernel) ?_
    refine z_iconst (n := 13) (q := 3) (v := 3) (by decide +kernel) ?_
    refine z_s3 (n := 16) (idx := 85) (by decide +kernel) ml_X10_85 (Nat.le_of_ble_eq_true rfl) (by omega) ⟨Nat.le_refl _, Nat.le_refl _⟩ (k_isWithin 0) ?_
    refine z_ifb_eq (n := 19) (off := 7) (tgt := 23) (by decide +kernel) (fun c16 => ?_) (fun c16 => ?_)
    · refine z_iconst (n := 24) (q := 0) (v := 0) (by decide +kernel) ?_
      first | refine z_zr1 (by decide +kernel) rfl (Nat.le_refl _) ?_ | refine z_zr0 (by decide +kernel) rfl (Nat.le_refl _) ?_ | refine z_zrb (by decide +kernel) rfl (Nat.le_refl _) ?_
      exact ⟨by simp only [c7, c16, decide_true, decide_false, Bool.and_true, Bool.and_false, Bool.true_and, Bool.false_and, Bool.or_true, Bool.or_false, Bool.true_or, Bool.false_or, Bool.not_true, Bool.not_false, if_true, if_false], rfl⟩
    · refine z_iconst (n := 20) (q := 1) (v := 1) (by decide +kernel) ?_
      refine z_goto (n := 23) (off := 4) (tgt := 24) (by decide +kernel) ?_
      first | refine z_zr1 (by decide +kernel) rfl (Nat.le_refl _) ?_ | refine z_zr0 (by decide +kernel) rfl (Nat.le_refl _) ?_ | refine z_zrb (by decide +kernel) rfl (Nat.le_refl _) ?_
      exact ⟨by simp only [c7, c16, decide_true, decide_false, Bool.and_true, Bool.and_false, Bool.true_and, Bool.false_and, Bool.or_true, Bool.or_false, Bool.true_or, Bool.false_or, Bool.not_true, Bool.not_false, if_true, if_false], rfl⟩
def rulS (a b c d : Int32) (s : pS) : pS := (fun i => match i with
  | 0 => a
  | 1 => b
  | 2 => c
  | 3 => d
  | i => s.1 i, s.2)
def rulB (a b c d : Int32) : Bool := win a 0 1000 && win b 0 1000 && win c 1 1000 && win d 1 40
theorem k_rules {G : mG} {h : mH} {C n : Nat} {p po : pS} {e eo : eS} {y yo : yS} {ln : Nat} {bt : Nat → Int32} {wr : Bool} {fk fp sp a b c f : Int32} (d : Nat) (hd : 1 ≤ d) (hc : clsP h C n p po e eo y yo ln bt wr fk fp sp) : EV G m_X10_rules d 0 0 [.ref C, .int a, .int b, .int c, .int f] h (fun r h' => r = some (.int (bI (rulB a b c f))) ∧ frm h h' C (C + 102) ∧ clsP h' C n (if rulB a b c f = true then rulS a b c f p else p) po e eo y yo ln bt wr fk fp sp) := by
  have hc0 := hc
  obtain ⟨hC, ⟨tl, ht, hB, hS, hP, hL, hU, hT, hCr, g1, g2, g3, g4, g5, g6⟩, -⟩ := hc
  refine ev_5_1 rfl rfl rfl rfl rfl (by decide +kernel) (by decide +kernel) ?_
  have no : rulB a b c f = false → Z G m_X10_rules d 0 0 0 0 53 [some (.ref C), some (.int a), some (.int b), some (.int c), some (.int f), some (.int 0)] [.int 0] h (fun r h' => r = some (.int (bI (rulB a b c f))) ∧ frm h h' C (C + 102) ∧ clsP h' C n (if rulB a b c f = true then rulS a b c f p else p) po e eo y yo ln bt wr fk fp sp) := by
    intro hb
    rw [hb]
    refine z_if_eq_t (n := 56) (off := 36) (tgt := 89) (by decide +kernel) (rfl) ?_
    refine z_ild5 (n := 91) (by decide +kernel) ?_
    first | refine z_zr1 (by decide +kernel) rfl (Nat.le_refl _) ?_ | refine z_zr0 (by decide +kernel) rfl (Nat.le_refl _) ?_ | refine z_zrb (by decide +kernel) rfl (Nat.le_refl _) ?_
    exact ⟨rfl, frm_rf, hc0⟩
  have ya : rulB a b c f = true → Z G m_X10_rules d 0 0 0 0 53 [some (.ref C), some (.int a), some (.int b), some (.int c), some (.int f), some (.int 1)] [.int 1] h (fun r h' => r = some (.int (bI (rulB a b c f))) ∧ frm h h' C (C + 102) ∧ clsP h' C n (if rulB a b c f = true then rulS a b c f p else p) po e eo y yo ln bt wr fk fp sp) := by
    intro hb
    rw [hb]
    refine z_if_eq_f (n := 56) (off := 36) (tgt := 89) (by decide +kernel) (by decide) ?_
    refine z_ald0 (n := 57) (by decide +kernel) ?_
    refine z_getf (n := 60) (idx := 23) (by decide +kernel) fl_X10_23 (by first | assumption | (simp (disch := omega) only [hu_s, hu_n]; first | assumption | rfl)) (by rfl) ?_
    refine z_ild1 (n := 61) (by decide +kernel) ?_
    refine z_putf (n := 64) (idx := 89) (ty := .int) (by decide +kernel) fl_X10_89 (by first | assumption | (simp (disch := omega) only [hu_s, hu_n]; first | assumption | rfl)) ⟨_, _, _, rfl, rfl, by decide +kernel⟩ rfl rfl (Nat.le_of_ble_eq_true rfl) ?_
    refine z_ald0 (n := 65) (by decide +kernel) ?_
    refine z_getf (n := 68) (idx := 23) (by decide +kernel) fl_X10_23 (by first | assumption | (simp (disch := omega) only [hu_s, hu_n]; first | assumption | rfl)) (by rfl) ?_
    refine z_ild2 (n := 69) (by decide +kernel) ?_
    refine z_putf (n := 72) (idx := 93) (ty := .int) (by decide +kernel) fl_X10_93 (by first | assumption | (simp (disch := omega) only [hu_s, hu_n]; first | assumption | rfl)) ⟨_, _, _, rfl, rfl, by decide +kernel⟩ rfl rfl (Nat.le_of_ble_eq_true rfl) ?_
    refine z_ald0 (n := 73) (by decide +kernel) ?_
    refine z_getf (n := 76) (idx := 23) (by decide +kernel) fl_X10_23 (by first | assumption | (simp (disch := omega) only [hu_s, hu_n]; first | assumption | rfl)) (by rfl) ?_
    refine z_ild3 (n := 77) (by decide +kernel) ?_
    refine z_putf (n := 80) (idx := 96) (ty := .int) (by decide +kernel) fl_X10_96 (by first | assumption | (simp (disch := omega) only [hu_s, hu_n]; first | assumption | rfl)) ⟨_, _, _, rfl, rfl, by decide +kernel⟩ rfl rfl (Nat.le_of_ble_eq_true rfl) ?_
    refine z_ald0 (n := 81) (by decide +kernel) ?_
    refine z_getf (n := 84) (idx := 23) (by decide +kernel) fl_X10_23 (by first | assumption | (simp (disch := omega) only [hu_s, hu_n]; first | assumption | rfl)) (by rfl) ?_
    refine z_ild4 (n := 86) (by decide +kernel) ?_
    refine z_putf (n := 89) (idx := 99) (ty := .int) (by decide +kernel) fl_X10_99 (by first | assumption | (simp (disch := omega) only [hu_s, hu_n]; first | assumption | rfl)) ⟨_, _, _, rfl, rfl, by decide +kernel⟩ rfl rfl (Nat.le_of_ble_eq_true rfl) ?_
    refine z_ild5 (n := 91) (by decide +kernel) ?_
    first | refine z_zr1 (by decide +kernel) rfl (Nat.le_refl _) ?_ | refine z_zr0 (by decide +kernel) rfl (Nat.le_refl _) ?_ | refine z_zrb (by decide +kernel) rfl (Nat.le_refl _) ?_
    exact ⟨rfl, by intro j9 hj9; simp (disch := omega) only [hu_n], cls_pap hc0 (by intro j9 hj9; simp (disch := omega) only [hu_n]) ⟨tl, ht, (by simp (disch := omega) only [hTn, hCr, hFl, hu_s, hu_n]; first | done | assumption | rfl), (by simp (disch := omega) only [hTn, hCr, hFl, hu_s, hu_n]; first | done | assumption | rfl), (by simp (disch := omega) only [hTn, hCr, hFl, hu_s, hu_n]; first | done | assumption | rfl), (by simp (disch := omega) only [hTn, hCr, hFl, hu_s, hu_n]; first | done | assumption | rfl), (by simp (disch := omega) only [hTn, hCr, hFl, hu_s, hu_n]; first | done | assumption | rfl), (by simp (disch := omega) only [hTn, hCr, hFl, hu_s, hu_n]; first | done | assumption | rfl), (by simp (disch := omega) only [hTn, hCr, hFl, hu_s, hu_n]; first | done | assumption | rfl), (by simp (disch := omega) only [hTn, hCr, hFl, hu_s, hu_n]; first | done | assumption | rfl), (by simp (disch := omega) only [hTn, hCr, hFl, hu_s, hu_n]; first | done | assumption | rfl), (by simp (disch := omega) only [hTn, hCr, hFl, hu_s, hu_n]; first | done | assumption | rfl), (by simp (disch := omega) only [hTn, hCr, hFl, hu_s, hu_n]; first | done | assumption | rfl), (by simp (disch := omega) only [hTn, hCr, hFl, hu_s, hu_n]; first | done | assumption | rfl), (by simp (disch := omega) only [hTn, hCr, hFl, hu_s, hu_n]; first | done | assumption | rfl)⟩⟩
  refine z_ild1 (n := 1) (by decide +kernel) ?_
  refine z_iconst (n := 2) (q := 0) (v := 0) (by decide +kernel) ?_
  refine z_sipush (n := 5) (q := 1000) (v := 1000) (by decide +kernel) ?_
  refine z_s3 (n := 8) (idx := 85) (by decide +kernel) ml_X10_85 (Nat.le_of_ble_eq_true rfl) (by omega) ⟨Nat.le_refl _, Nat.le_refl _⟩ (k_isWithin 0) ?_
  refine z_ifb_eq (n := 11) (off := 40) (tgt := 48) (by decide +kernel) (fun c8 => ?_) (fun c8 => ?_)
  · refine z_iconst (n := 49) (q := 0) (v := 0) (by decide +kernel) ?_
    refine z_ist5 (n := 51) (by decide +kernel) rfl ?_
    refine z_ild5 (n := 53) (by decide +kernel) ?_
    first | exact ya (by unfold rulB; simp only [c8, decide_true, decide_false, Bool.and_true, Bool.and_false, Bool.true_and, Bool.false_and, Bool.or_true, Bool.or_false, Bool.true_or, Bool.false_or, Bool.not_true, Bool.not_false, if_true, if_false]) | exact no (by unfold rulB; simp only [c8, decide_true, decide_false, Bool.and_true, Bool.and_false, Bool.true_and, Bool.false_and, Bool.or_true, Bool.or_false, Bool.true_or, Bool.false_or, Bool.not_true, Bool.not_false, if_true, if_false])
  · refine z_ild2 (n := 12) (by decide +kernel) ?_
    refine z_iconst (n := 13) (q := 0) (v := 0) (by decide +kernel) ?_
    refine z_sipush (n := 16) (q := 1000) (v := 1000) (by decide +kernel) ?_
    refine z_s3 (n := 19) (idx := 85) (by decide +kernel) ml_X10_85 (Nat.le_of_ble_eq_true rfl) (by omega) ⟨Nat.le_refl _, Nat.le_refl _⟩ (k_isWithin 0) ?_
    refine z_ifb_eq (n := 22) (off := 29) (tgt := 48) (by decide +kernel) (fun c19 => ?_) (fun c19 => ?_)
    · refine z_iconst (n := 49) (q := 0) (v := 0) (by decide +kernel) ?_
      refine z_ist5 (n := 51) (by decide +kernel) rfl ?_
      refine z_ild5 (n := 53) (by decide +kernel) ?_
      first | exact ya (by unfold rulB; simp only [c8, c19, decide_true, decide_false, Bool.and_true, Bool.and_false, Bool.true_and, Bool.false_and, Bool.or_true, Bool.or_false, Bool.true_or, Bool.false_or, Bool.not_true, Bool.not_false, if_true, if_false]) | exact no (by unfold rulB; simp only [c8, c19, decide_true, decide_false, Bool.and_true, Bool.and_false, Bool.true_and, Bool.false_and, Bool.or_true, Bool.or_false, Bool.true_or, Bool.false_or, Bool.not_true, Bool.not_false, if_true, if_false])
    · refine z_ild3 (n := 23) (by decide +kernel) ?_
      refine z_iconst (n := 24) (q := 1) (v := 1) (by decide +kernel) ?_
      refine z_sipush (n := 27) (q := 1000) (v := 1000) (by decide +kernel) ?_
      refine z_s3 (n := 30) (idx := 85) (by decide +kernel) ml_X10_85 (Nat.le_of_ble_eq_true rfl) (by omega) ⟨Nat.le_refl _, Nat.le_refl _⟩ (k_isWithin 0) ?_
      refine z_ifb_eq (n := 33) (off := 18) (tgt := 48) (by decide +kernel) (fun c30 => ?_) (fun c30 => ?_)
      · refine z_iconst (n := 49) (q := 0) (v := 0) (by decide +kernel) ?_
        refine z_ist5 (n := 51) (by decide +kernel) rfl ?_
        refine z_ild5 (n := 53) (by decide +kernel) ?_
        first | exact ya (by unfold rulB; simp only [c8, c19, c30, decide_true, decide_false, Bool.and_true, Bool.and_false, Bool.true_and, Bool.false_and, Bool.or_true, Bool.or_false, Bool.true_or, Bool.false_or, Bool.not_true, Bool.not_false, if_true, if_false]) | exact no (by unfold rulB; simp only [c8, c19, c30, decide_true, decide_false, Bool.and_true, Bool.and_false, Bool.true_and, Bool.false_and, Bool.or_true, Bool.or_false, Bool.true_or, Bool.false_or, Bool.not_true, Bool.not_false, if_true, if_false])
      · refine z_ild4 (n := 35) (by decide +kernel) ?_
        refine z_iconst (n := 36) (q := 1) (v := 1) (by decide +kernel) ?_
        refine z_bipush (n := 38) (q := 40) (v := 40) (by decide +kernel) ?_
        refine z_s3 (n := 41) (idx := 85) (by decide +kernel) ml_X10_85 (Nat.le_of_ble_eq_true rfl) (by omega) ⟨Nat.le_refl _, Nat.le_refl _⟩ (k_isWithin 0) ?_
        refine z_ifb_eq (n := 44) (off := 7) (tgt := 48) (by decide +kernel) (fun c41 => ?_) (fun c41 => ?_)
        · refine z_iconst (n := 49) (q := 0) (v := 0) (by decide +kernel) ?_
          refine z_ist5 (n := 51) (by decide +kernel) rfl ?_
          refine z_ild5 (n := 53) (by decide +kernel) ?_
          first | exact ya (by unfold rulB; simp only [c8, c19, c30, c41, decide_true, decide_false, Bool.and_true, Bool.and_false, Bool.true_and, Bool.false_and, Bool.or_true, Bool.or_false, Bool.true_or, Bool.false_or, Bool.not_true, Bool.not_false, if_true, if_false]) | exact no (by unfold rulB; simp only [c8, c19, c30, c41, decide_true, decide_false, Bool.and_true, Bool.and_false, Bool.true_and, Bool.false_and, Bool.or_true, Bool.or_false, Bool.true_or, Bool.false_or, Bool.not_true, Bool.not_false, if_true, if_false])
        · refine z_iconst (n := 45) (q := 1) (v := 1) (by decide +kernel) ?_
          refine z_goto (n := 48) (off := 4) (tgt := 49) (by decide +kernel) ?_
          refine z_ist5 (n := 51) (by decide +kernel) rfl ?_
          refine z_ild5 (n := 53) (by decide +kernel) ?_
          first | exact ya (by unfold rulB; simp only [c8, c19, c30, c41, decide_true, decide_false, Bool.and_true, Bool.and_false, Bool.true_and, Bool.false_and, Bool.or_true, Bool.or_false, Bool.true_or, Bool.false_or, Bool.not_true, Bool.not_false, if_true, if_false]) | exact no (by unfold rulB; simp only [c8, c19, c30, c41, decide_true, decide_false, Bool.and_true, Bool.and_false, Bool.true_and, Bool.false_and, Bool.or_true, Bool.or_false, Bool.true_or, Bool.false_or, Bool.not_true, Bool.not_false, if_true, if_false])
theorem k_fold {G : mG} {h : mH} {C n : Nat} {p po : pS} {e eo : eS} {y yo : yS} {ln : Nat} {bt : Nat → Int32} {wr : Bool} {fk fp sp x : Int32} {right : Bool} (d : Nat) (hd : 4 ≤ d) (hn : n + 1 < 2 ^ 31) (hc : clsP h C n p po e eo y yo ln bt wr fk fp sp) : EV G m_X10_fold d 0 0 [.ref C, .int x, .int (bI right)] h (fun r h' => r = some (.int (folP n x right p).1) ∧ frm h h' C (C + 102) ∧ clsP h' C n (folP n x right p).2 po e eo y yo ln bt wr fk fp sp) := by
  have hc0 := hc
  obtain ⟨hC, hp, -⟩ := hc
  have hB := hp.choose_spec.choose_spec.1
  refine ev_3_0 rfl rfl rfl (by decide +kernel) (by decide +kernel) ?_
  refine z_ald0 (n := 1) (by decide +kernel) ?_
  refine z_getf (n := 4) (idx := 23) (by decide +kernel) fl_X10_23 (by assumption) (by rfl) ?_
  refine z_ild1 (n := 5) (by decide +kernel) ?_
  refine z_ild2 (n := 6) (by decide +kernel) ?_
  refine z_w2 (n := 9) (idx := 102) (by decide +kernel) ml_X10_102 (by assumption) rfl (Nat.le_of_ble_eq_true rfl) (by omega) ⟨Nat.le_refl _, Nat.le_refl _⟩ (k_foldAt (n := n) 3 (by omega) hp hn) (fun h6 q6 => ?_)
  refine z_iret (by decide +kernel) rfl (Nat.le_refl _) ?_
  exact ⟨rfl, frm_wd q6.1 (by omega) (by omega), cls_pap hc0 q6.1 q6.2⟩
theorem k_hold {G : mG} {h : mH} {C n : Nat} {p po : pS} {e eo : eS} {y yo : yS} {ln : Nat} {bt : Nat → Int32} {wr : Bool} {fk fp sp x : Int32} (d : Nat) (hd : 4 ≤ d) (hn : n + 1 < 2 ^ 31) (hc : clsP h C n p po e eo y yo ln bt wr fk fp sp) : EV G m_X10_hold d 0 0 [.ref C, .int x] h (fun r h' => r = some (.int (if (hldP n x p).1 = true then (hldP n x p).2.1 4 else -1)) ∧ frm h h' C (C + 102) ∧ clsP h' C n (hldP n x p).2 po e eo y yo ln bt wr fk fp sp) := by
  have hc0 := hc
  obtain ⟨hC, hp, -⟩ := hc
  have hB := hp.choose_spec.choose_spec.1
  refine ev_2_0 rfl rfl (by decide +kernel) (by decide +kernel) ?_
  refine z_ald0 (n := 1) (by decide +kernel) ?_
  refine z_getf (n := 4) (idx := 23) (by decide +kernel) fl_X10_23 (by assumption) (by rfl) ?_
  refine z_ild1 (n := 5) (by decide +kernel) ?_
  refine z_w1 (n := 8) (idx := 106) (by decide +kernel) ml_X10_106 (by assumption) rfl (Nat.le_of_ble_eq_true rfl) (by omega) ⟨Nat.le_refl _, Nat.le_refl _⟩ (k_holdFor (n := n) 3 (by omega) hp hn) (fun h5 q5 => ?_)
  have hc1 := cls_pap hc0 q5.1 q5.2; have hC1 := hc1.1; have hB1 := q5.2.choose_spec.choose_spec.1
  refine z_ifb_eq (n := 11) (off := 13) (tgt := 21) (by decide +kernel) (fun c8 => ?_) (fun c8 => ?_)
  · refine z_iconst (n := 22) (q := -1) (v := -1) (by decide +kernel) ?_
    refine z_iret (by decide +kernel) rfl (Nat.le_refl _) ?_
    exact ⟨by simp only [c8, if_true]; try rfl, frm_wd q5.1 (by omega) (by omega), hc1⟩
  · refine z_ald0 (n := 12) (by decide +kernel) ?_
    refine z_getf (n := 15) (idx := 23) (by decide +kernel) fl_X10_23 (by assumption) (by rfl) ?_
    refine z_getf (n := 18) (idx := 110) (by decide +kernel) fl_X10_110 (by assumption) (by rfl) ?_
    refine z_goto (n := 21) (off := 4) (tgt := 22) (by decide +kernel) ?_
    refine z_iret (by decide +kernel) rfl (Nat.le_refl _) ?_
    exact ⟨by simp only [c8, if_true]; try rfl, frm_wd q5.1 (by omega) (by omega), hc1⟩
theorem k_open {G : mG} {h : mH} {C n : Nat} {p po : pS} {e eo : eS} {y yo : yS} {ln : Nat} {bt : Nat → Int32} {wr : Bool} {fk fp sp : Int32} (d : Nat) (hd : 4 ≤ d) (hn : n + 1 < 2 ^ 31) (hc : clsP h C n p po e eo y yo ln bt wr fk fp sp) : EV G m_X10_open d 0 0 [.ref C] h (fun r h' => r = some (.int (if (opnP n p).1 = true then (opnP n p).2.1 4 else -1)) ∧ frm h h' C (C + 102) ∧ clsP h' C n (opnP n p).2 po e eo y yo ln bt wr fk fp sp) := by
  have hc0 := hc
  obtain ⟨hC, hp, -⟩ := hc
  have hB := hp.choose_spec.choose_spec.1
  refine ev_1_0 rfl (by decide +kernel) (by decide +kernel) ?_
  refine z_ald0 (n := 1) (by decide +kernel) ?_
  refine z_getf (n := 4) (idx := 23) (by decide +kernel) fl_X10_23 (by assumption) (by rfl) ?_
  refine z_w0 (n := 7) (idx := 113) (by decide +kernel) ml_X10_113 (by assumption) rfl (Nat.le_of_ble_eq_true rfl) (by omega) ⟨Nat.le_refl _, Nat.le_refl _⟩ (k_openUp (n := n) 3 (by omega) hp hn) (fun h4 q4 => ?_)
  have hc1 := cls_pap hc0 q4.1 q4.2; have hC1 := hc1.1; have hB1 := q4.2.choose_spec.choose_spec.1
  refine z_ifb_eq (n := 10) (off := 13) (tgt := 20) (by decide +kernel) (fun c7 => ?_) (fun c7 => ?_)
  · refine z_iconst (n := 21) (q := -1) (v := -1) (by decide +kernel) ?_
    refine z_iret (by decide +kernel) rfl (Nat.le_refl _) ?_
    exact ⟨by simp only [c7, if_true]; try rfl, frm_wd q4.1 (by omega) (by omega), hc1⟩
  · refine z_ald0 (n := 11) (by decide +kernel) ?_
    refine z_getf (n := 14) (idx := 23) (by decide +kernel) fl_X10_23 (by assumption) (by rfl) ?_
    refine z_getf (n := 17) (idx := 110) (by decide +kernel) fl_X10_110 (by assumption) (by rfl) ?_
    refine z_goto (n := 20) (off := 4) (tgt := 21) (by decide +kernel) ?_
    refine z_iret (by decide +kernel) rfl (Nat.le_refl _) ?_
    exact ⟨by simp only [c7, if_true]; try rfl, frm_wd q4.1 (by omega) (by omega), hc1⟩
end
