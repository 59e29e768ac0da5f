section
-- ===== PART A: goes FIRST, ahead of the names: the tables' words, and 'selects' of the private methods out of them =====
/-- a private method of a class that the tables say can be made, by its rows of tables_1 -/
def lw_okq (q : MethodName × Nat) : Prop := (q.1.cls ≠ "java/lang/invoke/MethodHandle" ∧ q.1.cls ≠ "java/lang/invoke/VarHandle") ∧ Cond.instantiable q.1.cls q.2 ∈ tables_1 ∧ Cond.privateMethod q.1 ∈ tables_1 ∧ Cond.instanceMethod q.1 ∈ tables_1
theorem lw_p0 : lw_okq (⟨"EvePost", "found", "(I)I"⟩, 9) := ⟨⟨by decide +kernel, by decide +kernel⟩, List.mem_of_getElem? (i := 23) (by decide +kernel), List.mem_of_getElem? (i := 176) (by decide +kernel), List.mem_of_getElem? (i := 177) (by decide +kernel)⟩
theorem lw_p1 : lw_okq (⟨"EvePost", "fine", "(I)I"⟩, 9) := ⟨⟨by decide +kernel, by decide +kernel⟩, List.mem_of_getElem? (i := 23) (by decide +kernel), List.mem_of_getElem? (i := 190) (by decide +kernel), List.mem_of_getElem? (i := 191) (by decide +kernel)⟩
theorem lw_p2 : lw_okq (⟨"EvePost$Tape", "step", "()V"⟩, 8) := ⟨⟨by decide +kernel, by decide +kernel⟩, List.mem_of_getElem? (i := 50) (by decide +kernel), List.mem_of_getElem? (i := 260) (by decide +kernel), List.mem_of_getElem? (i := 261) (by decide +kernel)⟩
theorem lw_p3 : lw_okq (⟨"EvePost$Tape", "byteAt", "(I)I"⟩, 8) := ⟨⟨by decide +kernel, by decide +kernel⟩, List.mem_of_getElem? (i := 50) (by decide +kernel), List.mem_of_getElem? (i := 264) (by decide +kernel), List.mem_of_getElem? (i := 265) (by decide +kernel)⟩
theorem lw_p4 : lw_okq (⟨"EvePost$Tape", "readPerson", "()Z"⟩, 8) := ⟨⟨by decide +kernel, by decide +kernel⟩, List.mem_of_getElem? (i := 50) (by decide +kernel), List.mem_of_getElem? (i := 277) (by decide +kernel), List.mem_of_getElem? (i := 278) (by decide +kernel)⟩
theorem lw_p5 : lw_okq (⟨"EvePost$Tape", "isWord", "(Ljava/lang/String;)Z"⟩, 8) := ⟨⟨by decide +kernel, by decide +kernel⟩, List.mem_of_getElem? (i := 50) (by decide +kernel), List.mem_of_getElem? (i := 282) (by decide +kernel), List.mem_of_getElem? (i := 283) (by decide +kernel)⟩
theorem lw_p6 : lw_okq (⟨"EvePost$Tape", "faulty", "(I)Z"⟩, 8) := ⟨⟨by decide +kernel, by decide +kernel⟩, List.mem_of_getElem? (i := 50) (by decide +kernel), List.mem_of_getElem? (i := 334) (by decide +kernel), List.mem_of_getElem? (i := 335) (by decide +kernel)⟩
theorem lw_p7 : lw_okq (⟨"EvePost$Tape", "kindAtHand", "()I"⟩, 8) := ⟨⟨by decide +kernel, by decide +kernel⟩, List.mem_of_getElem? (i := 50) (by decide +kernel), List.mem_of_getElem? (i := 338) (by decide +kernel), List.mem_of_getElem? (i := 339) (by decide +kernel)⟩
theorem lw_p8 : lw_okq (⟨"EvePost$Tape", "isNumberUpTo", "(I)Z"⟩, 8) := ⟨⟨by decide +kernel, by decide +kernel⟩, List.mem_of_getElem? (i := 50) (by decide +kernel), List.mem_of_getElem? (i := 347) (by decide +kernel), List.mem_of_getElem? (i := 348) (by decide +kernel)⟩
theorem lw_p9 : lw_okq (⟨"EvePost$Tape", "numberAtHand", "()I"⟩, 8) := ⟨⟨by decide +kernel, by decide +kernel⟩, List.mem_of_getElem? (i := 50) (by decide +kernel), List.mem_of_getElem? (i := 351) (by decide +kernel), List.mem_of_getElem? (i := 352) (by decide +kernel)⟩
theorem lw_p10 : lw_okq (⟨"EvePost$Town", "learn", "()V"⟩, 6) := ⟨⟨by decide +kernel, by decide +kernel⟩, List.mem_of_getElem? (i := 84) (by decide +kernel), List.mem_of_getElem? (i := 448) (by decide +kernel), List.mem_of_getElem? (i := 449) (by decide +kernel)⟩
theorem lw_p11 : lw_okq (⟨"EvePost$Town", "freshOutcome", "(I)I"⟩, 6) := ⟨⟨by decide +kernel, by decide +kernel⟩, List.mem_of_getElem? (i := 84) (by decide +kernel), List.mem_of_getElem? (i := 461) (by decide +kernel), List.mem_of_getElem? (i := 462) (by decide +kernel)⟩
theorem lw_p12 : lw_okq (⟨"EvePost$Town", "outcomeAfter", "(II)I"⟩, 6) := ⟨⟨by decide +kernel, by decide +kernel⟩, List.mem_of_getElem? (i := 84) (by decide +kernel), List.mem_of_getElem? (i := 525) (by decide +kernel), List.mem_of_getElem? (i := 526) (by decide +kernel)⟩
theorem lw_p13 : lw_okq (⟨"EvePost", "act", "(I)V"⟩, 9) := ⟨⟨by decide +kernel, by decide +kernel⟩, List.mem_of_getElem? (i := 23) (by decide +kernel), List.mem_of_getElem? (i := 538) (by decide +kernel), List.mem_of_getElem? (i := 539) (by decide +kernel)⟩
theorem lw_p14 : lw_okq (⟨"EvePost", "refusalOfLetters", "(IIIII)I"⟩, 9) := ⟨⟨by decide +kernel, by decide +kernel⟩, List.mem_of_getElem? (i := 23) (by decide +kernel), List.mem_of_getElem? (i := 555) (by decide +kernel), List.mem_of_getElem? (i := 556) (by decide +kernel)⟩
theorem lw_p15 : lw_okq (⟨"EvePost$Foretold", "everybody", "(LEvePost$Town;)I"⟩, 1) := ⟨⟨by decide +kernel, by decide +kernel⟩, List.mem_of_getElem? (i := 111) (by decide +kernel), List.mem_of_getElem? (i := 611) (by decide +kernel), List.mem_of_getElem? (i := 612) (by decide +kernel)⟩
def lw_privs_1 : List (MethodName × Nat) := [(⟨"EvePost", "found", "(I)I"⟩, 9), (⟨"EvePost", "fine", "(I)I"⟩, 9), (⟨"EvePost$Tape", "step", "()V"⟩, 8), (⟨"EvePost$Tape", "byteAt", "(I)I"⟩, 8), (⟨"EvePost$Tape", "readPerson", "()Z"⟩, 8), (⟨"EvePost$Tape", "isWord", "(Ljava/lang/String;)Z"⟩, 8), (⟨"EvePost$Tape", "faulty", "(I)Z"⟩, 8), (⟨"EvePost$Tape", "kindAtHand", "()I"⟩, 8), (⟨"EvePost$Tape", "isNumberUpTo", "(I)Z"⟩, 8), (⟨"EvePost$Tape", "numberAtHand", "()I"⟩, 8), (⟨"EvePost$Town", "learn", "()V"⟩, 6), (⟨"EvePost$Town", "freshOutcome", "(I)I"⟩, 6), (⟨"EvePost$Town", "outcomeAfter", "(II)I"⟩, 6), (⟨"EvePost", "act", "(I)V"⟩, 9), (⟨"EvePost", "refusalOfLetters", "(IIIII)I"⟩, 9), (⟨"EvePost$Foretold", "everybody", "(LEvePost$Town;)I"⟩, 1)]
theorem lw_r1 : ∀ q ∈ lw_privs_1, lw_okq q := List.forall_mem_cons.mpr ⟨lw_p0, List.forall_mem_cons.mpr ⟨lw_p1, List.forall_mem_cons.mpr ⟨lw_p2, List.forall_mem_cons.mpr ⟨lw_p3, List.forall_mem_cons.mpr ⟨lw_p4, List.forall_mem_cons.mpr ⟨lw_p5, List.forall_mem_cons.mpr ⟨lw_p6, List.forall_mem_cons.mpr ⟨lw_p7, List.forall_mem_cons.mpr ⟨lw_p8, List.forall_mem_cons.mpr ⟨lw_p9, List.forall_mem_cons.mpr ⟨lw_p10, List.forall_mem_cons.mpr ⟨lw_p11, List.forall_mem_cons.mpr ⟨lw_p12, List.forall_mem_cons.mpr ⟨lw_p13, List.forall_mem_cons.mpr ⟨lw_p14, List.forall_mem_cons.mpr ⟨lw_p15, fun _ h => absurd h List.not_mem_nil⟩⟩⟩⟩⟩⟩⟩⟩⟩⟩⟩⟩⟩⟩⟩⟩
theorem lw_p16 : lw_okq (⟨"EvePost$Foretold", "someAgrees", "(LEvePost$Town;II)Z"⟩, 1) := ⟨⟨by decide +kernel, by decide +kernel⟩, List.mem_of_getElem? (i := 111) (by decide +kernel), List.mem_of_getElem? (i := 646) (by decide +kernel), List.mem_of_getElem? (i := 647) (by decide +kernel)⟩
theorem lw_p17 : lw_okq (⟨"EvePost$Foretold", "leastAgreeing", "(LEvePost$Town;II)I"⟩, 1) := ⟨⟨by decide +kernel, by decide +kernel⟩, List.mem_of_getElem? (i := 111) (by decide +kernel), List.mem_of_getElem? (i := 650) (by decide +kernel), List.mem_of_getElem? (i := 651) (by decide +kernel)⟩
theorem lw_p18 : lw_okq (⟨"EvePost$Foretold", "waysAfter", "(LEvePost$Town;II)I"⟩, 1) := ⟨⟨by decide +kernel, by decide +kernel⟩, List.mem_of_getElem? (i := 111) (by decide +kernel), List.mem_of_getElem? (i := 671) (by decide +kernel), List.mem_of_getElem? (i := 672) (by decide +kernel)⟩
theorem lw_p19 : lw_okq (⟨"EvePost$Foretold", "leastThatGoesOn", "(LEvePost$Town;II)I"⟩, 1) := ⟨⟨by decide +kernel, by decide +kernel⟩, List.mem_of_getElem? (i := 111) (by decide +kernel), List.mem_of_getElem? (i := 681) (by decide +kernel), List.mem_of_getElem? (i := 682) (by decide +kernel)⟩
theorem lw_p20 : lw_okq (⟨"EvePost", "imageAt", "(I)LEvePost$Town;"⟩, 9) := ⟨⟨by decide +kernel, by decide +kernel⟩, List.mem_of_getElem? (i := 23) (by decide +kernel), List.mem_of_getElem? (i := 757) (by decide +kernel), List.mem_of_getElem? (i := 758) (by decide +kernel)⟩
theorem lw_p21 : lw_okq (⟨"EvePostModel", "finding", "(I)I"⟩, 24) := ⟨⟨by decide +kernel, by decide +kernel⟩, List.mem_of_getElem? (i := 888) (by decide +kernel), List.mem_of_getElem? (i := 981) (by decide +kernel), List.mem_of_getElem? (i := 982) (by decide +kernel)⟩
theorem lw_p22 : lw_okq (⟨"EvePostModel", "begin", "()V"⟩, 24) := ⟨⟨by decide +kernel, by decide +kernel⟩, List.mem_of_getElem? (i := 888) (by decide +kernel), List.mem_of_getElem? (i := 1009) (by decide +kernel), List.mem_of_getElem? (i := 1010) (by decide +kernel)⟩
theorem lw_p23 : lw_okq (⟨"EvePostModel", "next", "()V"⟩, 24) := ⟨⟨by decide +kernel, by decide +kernel⟩, List.mem_of_getElem? (i := 888) (by decide +kernel), List.mem_of_getElem? (i := 1013) (by decide +kernel), List.mem_of_getElem? (i := 1014) (by decide +kernel)⟩
theorem lw_p24 : lw_okq (⟨"EvePostModel", "byteAt", "(I)I"⟩, 24) := ⟨⟨by decide +kernel, by decide +kernel⟩, List.mem_of_getElem? (i := 888) (by decide +kernel), List.mem_of_getElem? (i := 1017) (by decide +kernel), List.mem_of_getElem? (i := 1018) (by decide +kernel)⟩
theorem lw_p25 : lw_okq (⟨"EvePostModel", "name", "()J"⟩, 24) := ⟨⟨by decide +kernel, by decide +kernel⟩, List.mem_of_getElem? (i := 888) (by decide +kernel), List.mem_of_getElem? (i := 1028) (by decide +kernel), List.mem_of_getElem? (i := 1029) (by decide +kernel)⟩
theorem lw_p26 : lw_okq (⟨"EvePostModel", "bad", "(I)V"⟩, 24) := ⟨⟨by decide +kernel, by decide +kernel⟩, List.mem_of_getElem? (i := 888) (by decide +kernel), List.mem_of_getElem? (i := 1033) (by decide +kernel), List.mem_of_getElem? (i := 1034) (by decide +kernel)⟩
theorem lw_p27 : lw_okq (⟨"EvePostModel", "readPerson", "()V"⟩, 24) := ⟨⟨by decide +kernel, by decide +kernel⟩, List.mem_of_getElem? (i := 888) (by decide +kernel), List.mem_of_getElem? (i := 1037) (by decide +kernel), List.mem_of_getElem? (i := 1038) (by decide +kernel)⟩
theorem lw_p28 : lw_okq (⟨"EvePostModel", "must", "(Z)V"⟩, 24) := ⟨⟨by decide +kernel, by decide +kernel⟩, List.mem_of_getElem? (i := 888) (by decide +kernel), List.mem_of_getElem? (i := 1041) (by decide +kernel), List.mem_of_getElem? (i := 1042) (by decide +kernel)⟩
theorem lw_p29 : lw_okq (⟨"EvePostModel", "number", "(II)I"⟩, 24) := ⟨⟨by decide +kernel, by decide +kernel⟩, List.mem_of_getElem? (i := 888) (by decide +kernel), List.mem_of_getElem? (i := 1053) (by decide +kernel), List.mem_of_getElem? (i := 1054) (by decide +kernel)⟩
theorem lw_p30 : lw_okq (⟨"EvePostModel", "figures", "()I"⟩, 24) := ⟨⟨by decide +kernel, by decide +kernel⟩, List.mem_of_getElem? (i := 888) (by decide +kernel), List.mem_of_getElem? (i := 1057) (by decide +kernel), List.mem_of_getElem? (i := 1058) (by decide +kernel)⟩
theorem lw_p31 : lw_okq (⟨"EvePostModel", "isThere", "()Z"⟩, 24) := ⟨⟨by decide +kernel, by decide +kernel⟩, List.mem_of_getElem? (i := 888) (by decide +kernel), List.mem_of_getElem? (i := 1070) (by decide +kernel), List.mem_of_getElem? (i := 1071) (by decide +kernel)⟩
def lw_privs_2 : List (MethodName × Nat) := [(⟨"EvePost$Foretold", "someAgrees", "(LEvePost$Town;II)Z"⟩, 1), (⟨"EvePost$Foretold", "leastAgreeing", "(LEvePost$Town;II)I"⟩, 1), (⟨"EvePost$Foretold", "waysAfter", "(LEvePost$Town;II)I"⟩, 1), (⟨"EvePost$Foretold", "leastThatGoesOn", "(LEvePost$Town;II)I"⟩, 1), (⟨"EvePost", "imageAt", "(I)LEvePost$Town;"⟩, 9), (⟨"EvePostModel", "finding", "(I)I"⟩, 24), (⟨"EvePostModel", "begin", "()V"⟩, 24), (⟨"EvePostModel", "next", "()V"⟩, 24), (⟨"EvePostModel", "byteAt", "(I)I"⟩, 24), (⟨"EvePostModel", "name", "()J"⟩, 24), (⟨"EvePostModel", "bad", "(I)V"⟩, 24), (⟨"EvePostModel", "readPerson", "()V"⟩, 24), (⟨"EvePostModel", "must", "(Z)V"⟩, 24), (⟨"EvePostModel", "number", "(II)I"⟩, 24), (⟨"EvePostModel", "figures", "()I"⟩, 24), (⟨"EvePostModel", "isThere", "()Z"⟩, 24)]
theorem lw_r2 : ∀ q ∈ lw_privs_2, lw_okq q := List.forall_mem_cons.mpr ⟨lw_p16, List.forall_mem_cons.mpr ⟨lw_p17, List.forall_mem_cons.mpr ⟨lw_p18, List.forall_mem_cons.mpr ⟨lw_p19, List.forall_mem_cons.mpr ⟨lw_p20, List.forall_mem_cons.mpr ⟨lw_p21, List.forall_mem_cons.mpr ⟨lw_p22, List.forall_mem_cons.mpr ⟨lw_p23, List.forall_mem_cons.mpr ⟨lw_p24, List.forall_mem_cons.mpr ⟨lw_p25, List.forall_mem_cons.mpr ⟨lw_p26, List.forall_mem_cons.mpr ⟨lw_p27, List.forall_mem_cons.mpr ⟨lw_p28, List.forall_mem_cons.mpr ⟨lw_p29, List.forall_mem_cons.mpr ⟨lw_p30, List.forall_mem_cons.mpr ⟨lw_p31, fun _ h => absurd h List.not_mem_nil⟩⟩⟩⟩⟩⟩⟩⟩⟩⟩⟩⟩⟩⟩⟩⟩
theorem lw_p32 : lw_okq (⟨"EvePostModel", "isSet", "(I)Z"⟩, 24) := ⟨⟨by decide +kernel, by decide +kernel⟩, List.mem_of_getElem? (i := 888) (by decide +kernel), List.mem_of_getElem? (i := 1075) (by decide +kernel), List.mem_of_getElem? (i := 1076) (by decide +kernel)⟩
theorem lw_p33 : lw_okq (⟨"EvePostModel", "all", "()I"⟩, 24) := ⟨⟨by decide +kernel, by decide +kernel⟩, List.mem_of_getElem? (i := 888) (by decide +kernel), List.mem_of_getElem? (i := 1079) (by decide +kernel), List.mem_of_getElem? (i := 1080) (by decide +kernel)⟩
theorem lw_p34 : lw_okq (⟨"EvePostModel", "isAgreed", "(II)Z"⟩, 24) := ⟨⟨by decide +kernel, by decide +kernel⟩, List.mem_of_getElem? (i := 888) (by decide +kernel), List.mem_of_getElem? (i := 1083) (by decide +kernel), List.mem_of_getElem? (i := 1084) (by decide +kernel)⟩
theorem lw_p35 : lw_okq (⟨"EvePostModel", "doneBy", "(IIII)I"⟩, 24) := ⟨⟨by decide +kernel, by decide +kernel⟩, List.mem_of_getElem? (i := 888) (by decide +kernel), List.mem_of_getElem? (i := 1087) (by decide +kernel), List.mem_of_getElem? (i := 1088) (by decide +kernel)⟩
theorem lw_p36 : lw_okq (⟨"EvePostModel", "doesIt", "(III)Z"⟩, 24) := ⟨⟨by decide +kernel, by decide +kernel⟩, List.mem_of_getElem? (i := 888) (by decide +kernel), List.mem_of_getElem? (i := 1091) (by decide +kernel), List.mem_of_getElem? (i := 1092) (by decide +kernel)⟩
theorem lw_p37 : lw_okq (⟨"EvePostModel", "of", "(II)I"⟩, 24) := ⟨⟨by decide +kernel, by decide +kernel⟩, List.mem_of_getElem? (i := 888) (by decide +kernel), List.mem_of_getElem? (i := 1095) (by decide +kernel), List.mem_of_getElem? (i := 1096) (by decide +kernel)⟩
theorem lw_p38 : lw_okq (⟨"EvePostModel", "goDay", "(I)V"⟩, 24) := ⟨⟨by decide +kernel, by decide +kernel⟩, List.mem_of_getElem? (i := 888) (by decide +kernel), List.mem_of_getElem? (i := 1102) (by decide +kernel), List.mem_of_getElem? (i := 1103) (by decide +kernel)⟩
theorem lw_p39 : lw_okq (⟨"EvePostModel", "keep", "()V"⟩, 24) := ⟨⟨by decide +kernel, by decide +kernel⟩, List.mem_of_getElem? (i := 888) (by decide +kernel), List.mem_of_getElem? (i := 1106) (by decide +kernel), List.mem_of_getElem? (i := 1107) (by decide +kernel)⟩
theorem lw_p40 : lw_okq (⟨"EvePostModel", "lacks", "(III)I"⟩, 24) := ⟨⟨by decide +kernel, by decide +kernel⟩, List.mem_of_getElem? (i := 888) (by decide +kernel), List.mem_of_getElem? (i := 1115) (by decide +kernel), List.mem_of_getElem? (i := 1116) (by decide +kernel)⟩
theorem lw_p41 : lw_okq (⟨"EvePostModel", "areSets", "(II)Z"⟩, 24) := ⟨⟨by decide +kernel, by decide +kernel⟩, List.mem_of_getElem? (i := 888) (by decide +kernel), List.mem_of_getElem? (i := 1119) (by decide +kernel), List.mem_of_getElem? (i := 1120) (by decide +kernel)⟩
theorem lw_p42 : lw_okq (⟨"EvePostModel", "isPerson", "(I)Z"⟩, 24) := ⟨⟨by decide +kernel, by decide +kernel⟩, List.mem_of_getElem? (i := 888) (by decide +kernel), List.mem_of_getElem? (i := 1139) (by decide +kernel), List.mem_of_getElem? (i := 1140) (by decide +kernel)⟩
theorem lw_p43 : lw_okq (⟨"EvePostModel", "hasAny", "(II)Z"⟩, 24) := ⟨⟨by decide +kernel, by decide +kernel⟩, List.mem_of_getElem? (i := 888) (by decide +kernel), List.mem_of_getElem? (i := 1159) (by decide +kernel), List.mem_of_getElem? (i := 1160) (by decide +kernel)⟩
theorem lw_p44 : lw_okq (⟨"EvePostModel", "layChains", "()V"⟩, 24) := ⟨⟨by decide +kernel, by decide +kernel⟩, List.mem_of_getElem? (i := 888) (by decide +kernel), List.mem_of_getElem? (i := 1168) (by decide +kernel), List.mem_of_getElem? (i := 1169) (by decide +kernel)⟩
theorem lw_p45 : lw_okq (⟨"EvePostModel", "oddsOf", "(II)I"⟩, 24) := ⟨⟨by decide +kernel, by decide +kernel⟩, List.mem_of_getElem? (i := 888) (by decide +kernel), List.mem_of_getElem? (i := 1181) (by decide +kernel), List.mem_of_getElem? (i := 1182) (by decide +kernel)⟩
theorem lw_p46 : lw_okq (⟨"EvePostModel", "oddsIn", "()I"⟩, 24) := ⟨⟨by decide +kernel, by decide +kernel⟩, List.mem_of_getElem? (i := 888) (by decide +kernel), List.mem_of_getElem? (i := 1185) (by decide +kernel), List.mem_of_getElem? (i := 1186) (by decide +kernel)⟩
theorem lw_p47 : lw_okq (⟨"EvePostModel", "sizeOf", "(I)I"⟩, 24) := ⟨⟨by decide +kernel, by decide +kernel⟩, List.mem_of_getElem? (i := 888) (by decide +kernel), List.mem_of_getElem? (i := 1224) (by decide +kernel), List.mem_of_getElem? (i := 1225) (by decide +kernel)⟩
def lw_privs_3 : List (MethodName × Nat) := [(⟨"EvePostModel", "isSet", "(I)Z"⟩, 24), (⟨"EvePostModel", "all", "()I"⟩, 24), (⟨"EvePostModel", "isAgreed", "(II)Z"⟩, 24), (⟨"EvePostModel", "doneBy", "(IIII)I"⟩, 24), (⟨"EvePostModel", "doesIt", "(III)Z"⟩, 24), (⟨"EvePostModel", "of", "(II)I"⟩, 24), (⟨"EvePostModel", "goDay", "(I)V"⟩, 24), (⟨"EvePostModel", "keep", "()V"⟩, 24), (⟨"EvePostModel", "lacks", "(III)I"⟩, 24), (⟨"EvePostModel", "areSets", "(II)Z"⟩, 24), (⟨"EvePostModel", "isPerson", "(I)Z"⟩, 24), (⟨"EvePostModel", "hasAny", "(II)Z"⟩, 24), (⟨"EvePostModel", "layChains", "()V"⟩, 24), (⟨"EvePostModel", "oddsOf", "(II)I"⟩, 24), (⟨"EvePostModel", "oddsIn", "()I"⟩, 24), (⟨"EvePostModel", "sizeOf", "(I)I"⟩, 24)]
theorem lw_r3 : ∀ q ∈ lw_privs_3, lw_okq q := List.forall_mem_cons.mpr ⟨lw_p32, List.forall_mem_cons.mpr ⟨lw_p33, List.forall_mem_cons.mpr ⟨lw_p34, List.forall_mem_cons.mpr ⟨lw_p35, List.forall_mem_cons.mpr ⟨lw_p36, List.forall_mem_cons.mpr ⟨lw_p37, List.forall_mem_cons.mpr ⟨lw_p38, List.forall_mem_cons.mpr ⟨lw_p39, List.forall_mem_cons.mpr ⟨lw_p40, List.forall_mem_cons.mpr ⟨lw_p41, List.forall_mem_cons.mpr ⟨lw_p42, List.forall_mem_cons.mpr ⟨lw_p43, List.forall_mem_cons.mpr ⟨lw_p44, List.forall_mem_cons.mpr ⟨lw_p45, List.forall_mem_cons.mpr ⟨lw_p46, List.forall_mem_cons.mpr ⟨lw_p47, fun _ h => absurd h List.not_mem_nil⟩⟩⟩⟩⟩⟩⟩⟩⟩⟩⟩⟩⟩⟩⟩⟩
theorem lw_p48 : lw_okq (⟨"EvePostModel", "crowdSize", "(I)I"⟩, 24) := ⟨⟨by decide +kernel, by decide +kernel⟩, List.mem_of_getElem? (i := 888) (by decide +kernel), List.mem_of_getElem? (i := 1228) (by decide +kernel), List.mem_of_getElem? (i := 1229) (by decide +kernel)⟩
theorem lw_p49 : lw_okq (⟨"EvePostModel", "began", "(I)V"⟩, 24) := ⟨⟨by decide +kernel, by decide +kernel⟩, List.mem_of_getElem? (i := 888) (by decide +kernel), List.mem_of_getElem? (i := 1232) (by decide +kernel), List.mem_of_getElem? (i := 1233) (by decide +kernel)⟩
theorem lw_p50 : lw_okq (⟨"EvePostModel", "plainSize", "(I)I"⟩, 24) := ⟨⟨by decide +kernel, by decide +kernel⟩, List.mem_of_getElem? (i := 888) (by decide +kernel), List.mem_of_getElem? (i := 1236) (by decide +kernel), List.mem_of_getElem? (i := 1237) (by decide +kernel)⟩
theorem lw_p51 : lw_okq (⟨"EvePostModel", "markOf", "(I)I"⟩, 24) := ⟨⟨by decide +kernel, by decide +kernel⟩, List.mem_of_getElem? (i := 888) (by decide +kernel), List.mem_of_getElem? (i := 1240) (by decide +kernel), List.mem_of_getElem? (i := 1241) (by decide +kernel)⟩
def lw_privs_4 : List (MethodName × Nat) := [(⟨"EvePostModel", "crowdSize", "(I)I"⟩, 24), (⟨"EvePostModel", "began", "(I)V"⟩, 24), (⟨"EvePostModel", "plainSize", "(I)I"⟩, 24), (⟨"EvePostModel", "markOf", "(I)I"⟩, 24)]
theorem lw_r4 : ∀ q ∈ lw_privs_4, lw_okq q := List.forall_mem_cons.mpr ⟨lw_p48, List.forall_mem_cons.mpr ⟨lw_p49, List.forall_mem_cons.mpr ⟨lw_p50, List.forall_mem_cons.mpr ⟨lw_p51, fun _ h => absurd h List.not_mem_nil⟩⟩⟩⟩
def lw_privs : List (MethodName × Nat) := lw_privs_1 ++ (lw_privs_2 ++ (lw_privs_3 ++ (lw_privs_4)))
def lw_tbl : List Cond := k2_sels lw_privs ++ tables_1
theorem lw_privs_ok : ∀ q ∈ lw_privs, lw_okq q := by
  show ∀ q ∈ lw_privs_1 ++ (lw_privs_2 ++ (lw_privs_3 ++ (lw_privs_4))), lw_okq q
  exact List.forall_mem_append.mpr ⟨lw_r1, List.forall_mem_append.mpr ⟨lw_r2, List.forall_mem_append.mpr ⟨lw_r3, lw_r4⟩⟩⟩
end
section
def RX0 : String := "EvePost$CrossOne"
def TX0 : u_T := fun k => match k with
  | 0 => ("EvePost$Person", "number", "I", true)
  | 1 => ("EvePost$Person", "whom", "I", true)
  | _ => ("EvePost$Person", "many", "I", true)
def tyX0 : Nat → FieldType := fun k => match k with
  | 0 => .int
  | 1 => .int
  | _ => .int
abbrev wsX00 : List Cond := u_ws RX0 TX0 3
theorem nmX0 : ∀ a, a < 3 → ∀ b, b < 3 → a ≠ b → (TX0 a).2.1 ≠ (TX0 b).2.1 := by decide +kernel
theorem tyX0_ok : ∀ k, k < 3 → parseFieldDescriptor (TX0 k).2.2.1 = some (tyX0 k) := by decide +kernel
abbrev cX0_init : ByteArray := prog_2_method_1_code
def yX0_init : MethodName := ⟨RX0, "<init>", "(III)V"⟩
abbrev cX0_ownKind : ByteArray := prog_2_method_2_code
def yX0_ownKind : MethodName := ⟨RX0, "ownKind", "()I"⟩
abbrev cX0_doesIt : ByteArray := prog_2_method_3_code
def yX0_doesIt : MethodName := ⟨RX0, "doesIt", "(II)Z"⟩
abbrev cX0_size : ByteArray := prog_2_method_4_code
def yX0_size : MethodName := ⟨RX0, "size", "(LEvePost$Trail;)I"⟩
abbrev cX0_mark : ByteArray := prog_2_method_5_code
def yX0_mark : MethodName := ⟨RX0, "mark", "(LEvePost$Trail;)I"⟩
def RX1 : String := "EvePost$CrowdOne"
def TX1 : u_T := fun k => match k with
  | 0 => ("EvePost$Person", "number", "I", true)
  | 1 => ("EvePost$Person", "whom", "I", true)
  | _ => ("EvePost$Person", "many", "I", true)
def tyX1 : Nat → FieldType := fun k => match k with
  | 0 => .int
  | 1 => .int
  | _ => .int
abbrev wsX10 : List Cond := u_ws RX1 TX1 3
theorem nmX1 : ∀ a, a < 3 → ∀ b, b < 3 → a ≠ b → (TX1 a).2.1 ≠ (TX1 b).2.1 := by decide +kernel
theorem tyX1_ok : ∀ k, k < 3 → parseFieldDescriptor (TX1 k).2.2.1 = some (tyX1 k) := by decide +kernel
abbrev cX1_init : ByteArray := prog_3_method_1_code
def yX1_init : MethodName := ⟨RX1, "<init>", "(III)V"⟩
abbrev cX1_ownKind : ByteArray := prog_3_method_2_code
def yX1_ownKind : MethodName := ⟨RX1, "ownKind", "()I"⟩
abbrev cX1_doesIt : ByteArray := prog_3_method_3_code
def yX1_doesIt : MethodName := ⟨RX1, "doesIt", "(II)Z"⟩
abbrev cX1_size : ByteArray := prog_3_method_4_code
def yX1_size : MethodName := ⟨RX1, "size", "(LEvePost$Trail;)I"⟩
abbrev cX1_mark : ByteArray := prog_3_method_5_code
def yX1_mark : MethodName := ⟨RX1, "mark", "(LEvePost$Trail;)I"⟩
def RX2 : String := "EvePost$Foretold"
def TX2 : u_T := fun k => match k with
  | _ => ("EvePost$Foretold", "ways", "[[I", true)
def tyX2 : Nat → FieldType := fun k => match k with
  | _ => .array (.array .int)
abbrev wsX20 : List Cond := u_ws RX2 TX2 1
theorem nmX2 : ∀ a, a < 1 → ∀ b, b < 1 → a ≠ b → (TX2 a).2.1 ≠ (TX2 b).2.1 := by decide +kernel
theorem tyX2_ok : ∀ k, k < 1 → parseFieldDescriptor (TX2 k).2.2.1 = some (tyX2 k) := by decide +kernel
abbrev cX2_init : ByteArray := prog_4_method_1_code
def yX2_init : MethodName := ⟨RX2, "<init>", "()V"⟩
abbrev cX2_howManyAgree : ByteArray := prog_4_method_2_code
def yX2_howManyAgree : MethodName := ⟨RX2, "howManyAgree", "(LEvePost$Town;)I"⟩
abbrev cX2_agreeingLetter : ByteArray := prog_4_method_3_code
def yX2_agreeingLetter : MethodName := ⟨RX2, "agreeingLetter", "(LEvePost$Town;I)I"⟩
abbrev cX2_fullestLetter : ByteArray := prog_4_method_4_code
def yX2_fullestLetter : MethodName := ⟨RX2, "fullestLetter", "(LEvePost$Town;)I"⟩
abbrev cX2_likeliestLetter : ByteArray := prog_4_method_5_code
def yX2_likeliestLetter : MethodName := ⟨RX2, "likeliestLetter", "(LEvePost$Town;)I"⟩
abbrev cX2_whoHinders : ByteArray := prog_4_method_6_code
def yX2_whoHinders : MethodName := ⟨RX2, "whoHinders", "(LEvePost$Town;)I"⟩
abbrev cX2_whoCouldStop : ByteArray := prog_4_method_7_code
def yX2_whoCouldStop : MethodName := ⟨RX2, "whoCouldStop", "(LEvePost$Town;)I"⟩
abbrev cX2_howManyBring : ByteArray := prog_4_method_8_code
def yX2_howManyBring : MethodName := ⟨RX2, "howManyBring", "(LEvePost$Town;I)I"⟩
abbrev cX2_leastThatBrings : ByteArray := prog_4_method_9_code
def yX2_leastThatBrings : MethodName := ⟨RX2, "leastThatBrings", "(LEvePost$Town;I)I"⟩
abbrev cX2_howManyReadBy : ByteArray := prog_4_method_10_code
def yX2_howManyReadBy : MethodName := ⟨RX2, "howManyReadBy", "(LEvePost$Town;I)I"⟩
abbrev cX2_leastReadBy : ByteArray := prog_4_method_11_code
def yX2_leastReadBy : MethodName := ⟨RX2, "leastReadBy", "(LEvePost$Town;I)I"⟩
abbrev cX2_countChains : ByteArray := prog_4_method_12_code
def yX2_countChains : MethodName := ⟨RX2, "countChains", "(LEvePost$Town;I)I"⟩
abbrev cX2_letterOfFirstChain : ByteArray := prog_4_method_13_code
def yX2_letterOfFirstChain : MethodName := ⟨RX2, "letterOfFirstChain", "(LEvePost$Town;II)I"⟩
abbrev cX2_everybody : ByteArray := prog_4_method_14_code
def yX2_everybody : MethodName := ⟨RX2, "everybody", "(LEvePost$Town;)I"⟩
abbrev cX2_leastThatGoesOn : ByteArray := prog_4_method_15_code
def yX2_leastThatGoesOn : MethodName := ⟨RX2, "leastThatGoesOn", "(LEvePost$Town;II)I"⟩
abbrev cX2_waysAfter : ByteArray := prog_4_method_16_code
def yX2_waysAfter : MethodName := ⟨RX2, "waysAfter", "(LEvePost$Town;II)I"⟩
abbrev cX2_someAgrees : ByteArray := prog_4_method_17_code
def yX2_someAgrees : MethodName := ⟨RX2, "someAgrees", "(LEvePost$Town;II)Z"⟩
abbrev cX2_leastAgreeing : ByteArray := prog_4_method_18_code
def yX2_leastAgreeing : MethodName := ⟨RX2, "leastAgreeing", "(LEvePost$Town;II)I"⟩
def RX3 : String := "EvePost$LotOne"
def TX3 : u_T := fun k => match k with
  | 0 => ("EvePost$Person", "number", "I", true)
  | 1 => ("EvePost$Person", "whom", "I", true)
  | _ => ("EvePost$Person", "many", "I", true)
def tyX3 : Nat → FieldType := fun k => match k with
  | 0 => .int
  | 1 => .int
  | _ => .int
abbrev wsX30 : List Cond := u_ws RX3 TX3 3
theorem nmX3 : ∀ a, a < 3 → ∀ b, b < 3 → a ≠ b → (TX3 a).2.1 ≠ (TX3 b).2.1 := by decide +kernel
theorem tyX3_ok : ∀ k, k < 3 → parseFieldDescriptor (TX3 k).2.2.1 = some (tyX3 k) := by decide +kernel
abbrev cX3_init : ByteArray := prog_5_method_1_code
def yX3_init : MethodName := ⟨RX3, "<init>", "(III)V"⟩
abbrev cX3_ownKind : ByteArray := prog_5_method_2_code
def yX3_ownKind : MethodName := ⟨RX3, "ownKind", "()I"⟩
abbrev cX3_tenths : ByteArray := prog_5_method_3_code
def yX3_tenths : MethodName := ⟨RX3, "tenths", "(IIZ)I"⟩
abbrev cX3_turnsBy : ByteArray := prog_5_method_4_code
def yX3_turnsBy : MethodName := ⟨RX3, "turnsBy", "(J)Z"⟩
abbrev cX3_mark : ByteArray := prog_5_method_5_code
def yX3_mark : MethodName := ⟨RX3, "mark", "(LEvePost$Trail;)I"⟩
def RX4 : String := "EvePost$MoodyOne"
def TX4 : u_T := fun k => match k with
  | 0 => ("EvePost$Person", "number", "I", true)
  | 1 => ("EvePost$Person", "whom", "I", true)
  | _ => ("EvePost$Person", "many", "I", true)
def tyX4 : Nat → FieldType := fun k => match k with
  | 0 => .int
  | 1 => .int
  | _ => .int
abbrev wsX40 : List Cond := u_ws RX4 TX4 3
theorem nmX4 : ∀ a, a < 3 → ∀ b, b < 3 → a ≠ b → (TX4 a).2.1 ≠ (TX4 b).2.1 := by decide +kernel
theorem tyX4_ok : ∀ k, k < 3 → parseFieldDescriptor (TX4 k).2.2.1 = some (tyX4 k) := by decide +kernel
abbrev cX4_init : ByteArray := prog_6_method_1_code
def yX4_init : MethodName := ⟨RX4, "<init>", "(III)V"⟩
abbrev cX4_ownKind : ByteArray := prog_6_method_2_code
def yX4_ownKind : MethodName := ⟨RX4, "ownKind", "()I"⟩
abbrev cX4_doesIt : ByteArray := prog_6_method_3_code
def yX4_doesIt : MethodName := ⟨RX4, "doesIt", "(II)Z"⟩
abbrev cX4_size : ByteArray := prog_6_method_4_code
def yX4_size : MethodName := ⟨RX4, "size", "(LEvePost$Trail;)I"⟩
def RX5 : String := "EvePost$Person"
def TX5 : u_T := fun k => match k with
  | _ => ("", "", "", false)
def tyX5 : Nat → FieldType := fun k => match k with
  | _ => .int
abbrev wsX50 : List Cond := u_ws RX5 TX5 0
theorem nmX5 : ∀ a, a < 0 → ∀ b, b < 0 → a ≠ b → (TX5 a).2.1 ≠ (TX5 b).2.1 := by decide +kernel
theorem tyX5_ok : ∀ k, k < 0 → parseFieldDescriptor (TX5 k).2.2.1 = some (tyX5 k) := by decide +kernel
abbrev cX5_init : ByteArray := prog_7_method_1_code
def yX5_init : MethodName := ⟨RX5, "<init>", "(III)V"⟩
abbrev cX5_tenths : ByteArray := prog_7_method_4_code
def yX5_tenths : MethodName := ⟨RX5, "tenths", "(IIZ)I"⟩
abbrev cX5_size : ByteArray := prog_7_method_5_code
def yX5_size : MethodName := ⟨RX5, "size", "(LEvePost$Trail;)I"⟩
abbrev cX5_mark : ByteArray := prog_7_method_6_code
def yX5_mark : MethodName := ⟨RX5, "mark", "(LEvePost$Trail;)I"⟩
def RX6 : String := "EvePost$Rows"
def TX6 : u_T := fun k => match k with
  | 0 => ("EvePost$Rows", "items", "[[I", true)
  | 1 => ("EvePost$Rows", "lanes", "[I", true)
  | _ => ("EvePost$Rows", "sizes", "[I", true)
def tyX6 : Nat → FieldType := fun k => match k with
  | 0 => .array (.array .int)
  | 1 => .array .int
  | _ => .array .int
abbrev wsX60 : List Cond := u_ws RX6 TX6 3
theorem nmX6 : ∀ a, a < 3 → ∀ b, b < 3 → a ≠ b → (TX6 a).2.1 ≠ (TX6 b).2.1 := by decide +kernel
theorem tyX6_ok : ∀ k, k < 3 → parseFieldDescriptor (TX6 k).2.2.1 = some (tyX6 k) := by decide +kernel
abbrev cX6_init : ByteArray := prog_8_method_1_code
def yX6_init : MethodName := ⟨RX6, "<init>", "()V"⟩
abbrev cX6_isPlace : ByteArray := prog_8_method_2_code
def yX6_isPlace : MethodName := ⟨RX6, "isPlace", "(I)Z"⟩
abbrev cX6_isLane : ByteArray := prog_8_method_3_code
def yX6_isLane : MethodName := ⟨RX6, "isLane", "(I)Z"⟩
abbrev cX6_isMissing : ByteArray := prog_8_method_4_code
def yX6_isMissing : MethodName := ⟨RX6, "isMissing", "(I)Z"⟩
abbrev cX6_areAlike : ByteArray := prog_8_method_5_code
def yX6_areAlike : MethodName := ⟨RX6, "areAlike", "(II)Z"⟩
abbrev cX6_reaches : ByteArray := prog_8_method_6_code
def yX6_reaches : MethodName := ⟨RX6, "reaches", "(III)Z"⟩
abbrev cX6_howMany : ByteArray := prog_8_method_7_code
def yX6_howMany : MethodName := ⟨RX6, "howMany", "()I"⟩
abbrev cX6_put : ByteArray := prog_8_method_8_code
def yX6_put : MethodName := ⟨RX6, "put", "(III)V"⟩
abbrev cX6_take : ByteArray := prog_8_method_9_code
def yX6_take : MethodName := ⟨RX6, "take", "(I)I"⟩
abbrev cX6_item : ByteArray := prog_8_method_10_code
def yX6_item : MethodName := ⟨RX6, "item", "(II)I"⟩
abbrev cX6_write : ByteArray := prog_8_method_11_code
def yX6_write : MethodName := ⟨RX6, "write", "(III)I"⟩
abbrev cX6_carry : ByteArray := prog_8_method_12_code
def yX6_carry : MethodName := ⟨RX6, "carry", "(IIIII)V"⟩
abbrev cX6_narrowed : ByteArray := prog_8_method_13_code
def yX6_narrowed : MethodName := ⟨RX6, "narrowed", "(II)I"⟩
def RX7 : String := "EvePost$Tape"
def TX7 : u_T := fun k => match k with
  | 0 => ("EvePost$Tape", "bytes", "[B", true)
  | 1 => ("EvePost$Tape", "length", "I", false)
  | 2 => ("EvePost$Tape", "people", "[LEvePost$Person;", true)
  | 3 => ("EvePost$Tape", "peopleRead", "I", false)
  | 4 => ("EvePost$Tape", "fault", "I", false)
  | 5 => ("EvePost$Tape", "token", "I", false)
  | 6 => ("EvePost$Tape", "first", "I", false)
  | _ => ("EvePost$Tape", "behind", "I", false)
def tyX7 : Nat → FieldType := fun k => match k with
  | 0 => .array .byte
  | 1 => .int
  | 2 => .array (.object "EvePost$Person")
  | 3 => .int
  | 4 => .int
  | 5 => .int
  | 6 => .int
  | _ => .int
abbrev wsX70 : List Cond := u_ws RX7 TX7 8
theorem nmX7 : ∀ a, a < 8 → ∀ b, b < 8 → a ≠ b → (TX7 a).2.1 ≠ (TX7 b).2.1 := by decide +kernel
theorem tyX7_ok : ∀ k, k < 8 → parseFieldDescriptor (TX7 k).2.2.1 = some (tyX7 k) := by decide +kernel
abbrev cX7_init : ByteArray := prog_9_method_1_code
def yX7_init : MethodName := ⟨RX7, "<init>", "()V"⟩
abbrev cX7_size : ByteArray := prog_9_method_2_code
def yX7_size : MethodName := ⟨RX7, "size", "()I"⟩
abbrev cX7_latestFault : ByteArray := prog_9_method_3_code
def yX7_latestFault : MethodName := ⟨RX7, "latestFault", "()I"⟩
abbrev cX7_peopleRead : ByteArray := prog_9_method_4_code
def yX7_peopleRead : MethodName := ⟨RX7, "peopleRead", "()I"⟩
abbrev cX7_reading : ByteArray := prog_9_method_5_code
def yX7_reading : MethodName := ⟨RX7, "reading", "(I)LEvePost$Person;"⟩
abbrev cX7_hasRoom : ByteArray := prog_9_method_6_code
def yX7_hasRoom : MethodName := ⟨RX7, "hasRoom", "(I)Z"⟩
abbrev cX7_append : ByteArray := prog_9_method_7_code
def yX7_append : MethodName := ⟨RX7, "append", "(JI)I"⟩
abbrev cX7_read : ByteArray := prog_9_method_8_code
def yX7_read : MethodName := ⟨RX7, "read", "()I"⟩
abbrev cX7_readPerson : ByteArray := prog_9_method_9_code
def yX7_readPerson : MethodName := ⟨RX7, "readPerson", "()Z"⟩
abbrev cX7_faulty : ByteArray := prog_9_method_10_code
def yX7_faulty : MethodName := ⟨RX7, "faulty", "(I)Z"⟩
abbrev cX7_isNumberUpTo : ByteArray := prog_9_method_11_code
def yX7_isNumberUpTo : MethodName := ⟨RX7, "isNumberUpTo", "(I)Z"⟩
abbrev cX7_kindAtHand : ByteArray := prog_9_method_12_code
def yX7_kindAtHand : MethodName := ⟨RX7, "kindAtHand", "()I"⟩
abbrev cX7_newPerson : ByteArray := prog_9_method_13_code
def yX7_newPerson : MethodName := ⟨RX7, "newPerson", "(IIII)LEvePost$Person;"⟩
abbrev cX7_step : ByteArray := prog_9_method_14_code
def yX7_step : MethodName := ⟨RX7, "step", "()V"⟩
abbrev cX7_isWord : ByteArray := prog_9_method_15_code
def yX7_isWord : MethodName := ⟨RX7, "isWord", "(Ljava/lang/String;)Z"⟩
abbrev cX7_numberAtHand : ByteArray := prog_9_method_16_code
def yX7_numberAtHand : MethodName := ⟨RX7, "numberAtHand", "()I"⟩
abbrev cX7_byteAt : ByteArray := prog_9_method_17_code
def yX7_byteAt : MethodName := ⟨RX7, "byteAt", "(I)I"⟩
abbrev cX7_isBlank : ByteArray := prog_9_method_18_code
def yX7_isBlank : MethodName := ⟨RX7, "isBlank", "(I)Z"⟩
abbrev cX7_isLetter : ByteArray := prog_9_method_19_code
def yX7_isLetter : MethodName := ⟨RX7, "isLetter", "(I)Z"⟩
abbrev cX7_isFigure : ByteArray := prog_9_method_20_code
def yX7_isFigure : MethodName := ⟨RX7, "isFigure", "(I)Z"⟩
def RX8 : String := "EvePost$Town"
def TX8 : u_T := fun k => match k with
  | 0 => ("EvePost$Town", "people", "[LEvePost$Person;", true)
  | 1 => ("EvePost$Town", "size", "I", false)
  | 2 => ("EvePost$Town", "day", "I", false)
  | 3 => ("EvePost$Town", "before", "I", false)
  | 4 => ("EvePost$Town", "fresh", "[I", true)
  | _ => ("EvePost$Town", "moody", "I", false)
def tyX8 : Nat → FieldType := fun k => match k with
  | 0 => .array (.object "EvePost$Person")
  | 1 => .int
  | 2 => .int
  | 3 => .int
  | 4 => .array .int
  | _ => .int
abbrev wsX80 : List Cond := u_ws RX8 TX8 6
theorem nmX8 : ∀ a, a < 6 → ∀ b, b < 6 → a ≠ b → (TX8 a).2.1 ≠ (TX8 b).2.1 := by decide +kernel
theorem tyX8_ok : ∀ k, k < 6 → parseFieldDescriptor (TX8 k).2.2.1 = some (tyX8 k) := by decide +kernel
abbrev cX8_init : ByteArray := prog_10_method_1_code
def yX8_init : MethodName := ⟨RX8, "<init>", "()V"⟩
abbrev cX8_isNone : ByteArray := prog_10_method_2_code
def yX8_isNone : MethodName := ⟨RX8, "isNone", "()Z"⟩
abbrev cX8_size : ByteArray := prog_10_method_3_code
def yX8_size : MethodName := ⟨RX8, "size", "()I"⟩
abbrev cX8_day : ByteArray := prog_10_method_4_code
def yX8_day : MethodName := ⟨RX8, "day", "()I"⟩
abbrev cX8_before : ByteArray := prog_10_method_5_code
def yX8_before : MethodName := ⟨RX8, "before", "()I"⟩
abbrev cX8_letters : ByteArray := prog_10_method_6_code
def yX8_letters : MethodName := ⟨RX8, "letters", "()I"⟩
abbrev cX8_isSet : ByteArray := prog_10_method_7_code
def yX8_isSet : MethodName := ⟨RX8, "isSet", "(I)Z"⟩
abbrev cX8_one : ByteArray := prog_10_method_8_code
def yX8_one : MethodName := ⟨RX8, "one", "(I)LEvePost$Person;"⟩
abbrev cX8_settle : ByteArray := prog_10_method_9_code
def yX8_settle : MethodName := ⟨RX8, "settle", "(LEvePost$Tape;)V"⟩
abbrev cX8_become : ByteArray := prog_10_method_10_code
def yX8_become : MethodName := ⟨RX8, "become", "(LEvePost$Town;)V"⟩
abbrev cX8_goOn : ByteArray := prog_10_method_11_code
def yX8_goOn : MethodName := ⟨RX8, "goOn", "(I)V"⟩
abbrev cX8_goBack : ByteArray := prog_10_method_12_code
def yX8_goBack : MethodName := ⟨RX8, "goBack", "(I)V"⟩
abbrev cX8_outcome : ByteArray := prog_10_method_13_code
def yX8_outcome : MethodName := ⟨RX8, "outcome", "(I)I"⟩
abbrev cX8_agrees : ByteArray := prog_10_method_14_code
def yX8_agrees : MethodName := ⟨RX8, "agrees", "(I)Z"⟩
abbrev cX8_agreesAfter : ByteArray := prog_10_method_15_code
def yX8_agreesAfter : MethodName := ⟨RX8, "agreesAfter", "(II)Z"⟩
abbrev cX8_moodOf : ByteArray := prog_10_method_16_code
def yX8_moodOf : MethodName := ⟨RX8, "moodOf", "(I)I"⟩
abbrev cX8_moodyAmong : ByteArray := prog_10_method_17_code
def yX8_moodyAmong : MethodName := ⟨RX8, "moodyAmong", "(I)I"⟩
abbrev cX8_outcomeByLots : ByteArray := prog_10_method_18_code
def yX8_outcomeByLots : MethodName := ⟨RX8, "outcomeByLots", "(II)I"⟩
abbrev cX8_chances : ByteArray := prog_10_method_19_code
def yX8_chances : MethodName := ⟨RX8, "chances", "(II)I"⟩
abbrev cX8_allChances : ByteArray := prog_10_method_20_code
def yX8_allChances : MethodName := ⟨RX8, "allChances", "()I"⟩
abbrev cX8_outcomeAfter : ByteArray := prog_10_method_21_code
def yX8_outcomeAfter : MethodName := ⟨RX8, "outcomeAfter", "(II)I"⟩
abbrev cX8_learn : ByteArray := prog_10_method_22_code
def yX8_learn : MethodName := ⟨RX8, "learn", "()V"⟩
abbrev cX8_freshOutcome : ByteArray := prog_10_method_23_code
def yX8_freshOutcome : MethodName := ⟨RX8, "freshOutcome", "(I)I"⟩
def RX9 : String := "EvePost$Trail"
def TX9 : u_T := fun k => match k with
  | 0 => ("EvePost$Trail", "left", "[I", true)
  | _ => ("EvePost$Trail", "length", "I", false)
def tyX9 : Nat → FieldType := fun k => match k with
  | 0 => .array .int
  | _ => .int
abbrev wsX90 : List Cond := u_ws RX9 TX9 2
theorem nmX9 : ∀ a, a < 2 → ∀ b, b < 2 → a ≠ b → (TX9 a).2.1 ≠ (TX9 b).2.1 := by decide +kernel
theorem tyX9_ok : ∀ k, k < 2 → parseFieldDescriptor (TX9 k).2.2.1 = some (tyX9 k) := by decide +kernel
abbrev cX9_init : ByteArray := prog_11_method_1_code
def yX9_init : MethodName := ⟨RX9, "<init>", "()V"⟩
abbrev cX9_clear : ByteArray := prog_11_method_2_code
def yX9_clear : MethodName := ⟨RX9, "clear", "()V"⟩
abbrev cX9_leave : ByteArray := prog_11_method_3_code
def yX9_leave : MethodName := ⟨RX9, "leave", "(I)V"⟩
abbrev cX9_at : ByteArray := prog_11_method_4_code
def yX9_at : MethodName := ⟨RX9, "at", "(I)I"⟩
def RX10 : String := "EvePost$TrueOne"
def TX10 : u_T := fun k => match k with
  | 0 => ("EvePost$Person", "number", "I", true)
  | 1 => ("EvePost$Person", "whom", "I", true)
  | _ => ("EvePost$Person", "many", "I", true)
def tyX10 : Nat → FieldType := fun k => match k with
  | 0 => .int
  | 1 => .int
  | _ => .int
abbrev wsX100 : List Cond := u_ws RX10 TX10 3
theorem nmX10 : ∀ a, a < 3 → ∀ b, b < 3 → a ≠ b → (TX10 a).2.1 ≠ (TX10 b).2.1 := by decide +kernel
theorem tyX10_ok : ∀ k, k < 3 → parseFieldDescriptor (TX10 k).2.2.1 = some (tyX10 k) := by decide +kernel
abbrev cX10_init : ByteArray := prog_12_method_1_code
def yX10_init : MethodName := ⟨RX10, "<init>", "(III)V"⟩
abbrev cX10_ownKind : ByteArray := prog_12_method_2_code
def yX10_ownKind : MethodName := ⟨RX10, "ownKind", "()I"⟩
abbrev cX10_doesIt : ByteArray := prog_12_method_3_code
def yX10_doesIt : MethodName := ⟨RX10, "doesIt", "(II)Z"⟩
abbrev cX10_size : ByteArray := prog_12_method_4_code
def yX10_size : MethodName := ⟨RX10, "size", "(LEvePost$Trail;)I"⟩
abbrev cX10_mark : ByteArray := prog_12_method_5_code
def yX10_mark : MethodName := ⟨RX10, "mark", "(LEvePost$Trail;)I"⟩
def RX11 : String := "EvePost"
def TX11 : u_T := fun k => match k with
  | 0 => ("EvePost", "shelf", "LEvePost$Rows;", true)
  | 1 => ("EvePost", "tape", "LEvePost$Tape;", true)
  | 2 => ("EvePost", "now", "LEvePost$Town;", true)
  | 3 => ("EvePost", "images", "[LEvePost$Town;", true)
  | 4 => ("EvePost", "foretold", "LEvePost$Foretold;", true)
  | 5 => ("EvePost", "trail", "LEvePost$Trail;", true)
  | 6 => ("EvePost", "undoable", "[I", true)
  | 7 => ("EvePost", "acts", "I", false)
  | _ => ("EvePost", "finding", "I", false)
def tyX11 : Nat → FieldType := fun k => match k with
  | 0 => .object "EvePost$Rows"
  | 1 => .object "EvePost$Tape"
  | 2 => .object "EvePost$Town"
  | 3 => .array (.object "EvePost$Town")
  | 4 => .object "EvePost$Foretold"
  | 5 => .object "EvePost$Trail"
  | 6 => .array .int
  | 7 => .int
  | _ => .int
abbrev wsX110 : List Cond := u_ws RX11 TX11 9
theorem nmX11 : ∀ a, a < 9 → ∀ b, b < 9 → a ≠ b → (TX11 a).2.1 ≠ (TX11 b).2.1 := by decide +kernel
theorem tyX11_ok : ∀ k, k < 9 → parseFieldDescriptor (TX11 k).2.2.1 = some (tyX11 k) := by decide +kernel
abbrev cX11_init : ByteArray := prog_1_method_1_code
def yX11_init : MethodName := ⟨RX11, "<init>", "()V"⟩
abbrev cX11_row : ByteArray := prog_1_method_2_code
def yX11_row : MethodName := ⟨RX11, "row", "(III)I"⟩
abbrev cX11_set : ByteArray := prog_1_method_3_code
def yX11_set : MethodName := ⟨RX11, "set", "(III)I"⟩
abbrev cX11_copy : ByteArray := prog_1_method_4_code
def yX11_copy : MethodName := ⟨RX11, "copy", "(IIIII)I"⟩
abbrev cX11_drop : ByteArray := prog_1_method_5_code
def yX11_drop : MethodName := ⟨RX11, "drop", "(I)I"⟩
abbrev cX11_feed : ByteArray := prog_1_method_6_code
def yX11_feed : MethodName := ⟨RX11, "feed", "(JI)I"⟩
abbrev cX11_town : ByteArray := prog_1_method_7_code
def yX11_town : MethodName := ⟨RX11, "town", "()I"⟩
abbrev cX11_fault : ByteArray := prog_1_method_8_code
def yX11_fault : MethodName := ⟨RX11, "fault", "()I"⟩
abbrev cX11_post : ByteArray := prog_1_method_9_code
def yX11_post : MethodName := ⟨RX11, "post", "(I)I"⟩
abbrev cX11_posts : ByteArray := prog_1_method_10_code
def yX11_posts : MethodName := ⟨RX11, "posts", "(III)I"⟩
abbrev cX11_lots : ByteArray := prog_1_method_11_code
def yX11_lots : MethodName := ⟨RX11, "lots", "(II)I"⟩
abbrev cX11_undo : ByteArray := prog_1_method_12_code
def yX11_undo : MethodName := ⟨RX11, "undo", "()I"⟩
abbrev cX11_person : ByteArray := prog_1_method_13_code
def yX11_person : MethodName := ⟨RX11, "person", "(II)I"⟩
abbrev cX11_done : ByteArray := prog_1_method_14_code
def yX11_done : MethodName := ⟨RX11, "done", "(I)I"⟩
abbrev cX11_agreeing : ByteArray := prog_1_method_15_code
def yX11_agreeing : MethodName := ⟨RX11, "agreeing", "(I)I"⟩
abbrev cX11_fullest : ByteArray := prog_1_method_16_code
def yX11_fullest : MethodName := ⟨RX11, "fullest", "()I"⟩
abbrev cX11_culprits : ByteArray := prog_1_method_17_code
def yX11_culprits : MethodName := ⟨RX11, "culprits", "(I)I"⟩
abbrev cX11_chains : ByteArray := prog_1_method_18_code
def yX11_chains : MethodName := ⟨RX11, "chains", "(II)I"⟩
abbrev cX11_breaks : ByteArray := prog_1_method_19_code
def yX11_breaks : MethodName := ⟨RX11, "breaks", "(III)I"⟩
abbrev cX11_comes : ByteArray := prog_1_method_20_code
def yX11_comes : MethodName := ⟨RX11, "comes", "(III)I"⟩
abbrev cX11_likeliest : ByteArray := prog_1_method_21_code
def yX11_likeliest : MethodName := ⟨RX11, "likeliest", "()I"⟩
abbrev cX11_lost : ByteArray := prog_1_method_22_code
def yX11_lost : MethodName := ⟨RX11, "lost", "(II)I"⟩
abbrev cX11_readBy : ByteArray := prog_1_method_23_code
def yX11_readBy : MethodName := ⟨RX11, "readBy", "(II)I"⟩
abbrev cX11_image : ByteArray := prog_1_method_24_code
def yX11_image : MethodName := ⟨RX11, "image", "(I)I"⟩
abbrev cX11_restore : ByteArray := prog_1_method_25_code
def yX11_restore : MethodName := ⟨RX11, "restore", "(I)I"⟩
abbrev cX11_kind : ByteArray := prog_1_method_26_code
def yX11_kind : MethodName := ⟨RX11, "kind", "(I)I"⟩
abbrev cX11_as : ByteArray := prog_1_method_27_code
def yX11_as : MethodName := ⟨RX11, "as", "(II)I"⟩
abbrev cX11_ask : ByteArray := prog_1_method_28_code
def yX11_ask : MethodName := ⟨RX11, "ask", "(II)I"⟩
abbrev cX11_trace : ByteArray := prog_1_method_29_code
def yX11_trace : MethodName := ⟨RX11, "trace", "(I)I"⟩
abbrev cX11_count : ByteArray := prog_1_method_30_code
def yX11_count : MethodName := ⟨RX11, "count", "(I)I"⟩
abbrev cX11_status : ByteArray := prog_1_method_31_code
def yX11_status : MethodName := ⟨RX11, "status", "()I"⟩
abbrev cX11_found : ByteArray := prog_1_method_32_code
def yX11_found : MethodName := ⟨RX11, "found", "(I)I"⟩
abbrev cX11_fine : ByteArray := prog_1_method_33_code
def yX11_fine : MethodName := ⟨RX11, "fine", "(I)I"⟩
abbrev cX11_refusalOfLetters : ByteArray := prog_1_method_34_code
def yX11_refusalOfLetters : MethodName := ⟨RX11, "refusalOfLetters", "(IIIII)I"⟩
abbrev cX11_act : ByteArray := prog_1_method_35_code
def yX11_act : MethodName := ⟨RX11, "act", "(I)V"⟩
abbrev cX11_imageAt : ByteArray := prog_1_method_36_code
def yX11_imageAt : MethodName := ⟨RX11, "imageAt", "(I)LEvePost$Town;"⟩
abbrev cX11_holds : ByteArray := prog_1_method_37_code
def yX11_holds : MethodName := ⟨RX11, "holds", "(II)Z"⟩
abbrev cX11_isOf : ByteArray := prog_1_method_38_code
def yX11_isOf : MethodName := ⟨RX11, "isOf", "(LEvePost$Person;I)Z"⟩
abbrev cX11_commonDivisor : ByteArray := prog_1_method_39_code
def yX11_commonDivisor : MethodName := ⟨RX11, "commonDivisor", "(II)I"⟩
def RX12 : String := "EvePostModel"
def TX12 : u_T := fun k => match k with
  | 0 => ("EvePostModel", "thrown", "I", false)
  | 1 => ("EvePostModel", "status", "I", false)
  | 2 => ("EvePostModel", "lane", "[I", true)
  | 3 => ("EvePostModel", "many", "[I", true)
  | 4 => ("EvePostModel", "item", "[I", true)
  | 5 => ("EvePostModel", "town", "[I", true)
  | 6 => ("EvePostModel", "fresh", "[I", true)
  | 7 => ("EvePostModel", "was", "[I", true)
  | 8 => ("EvePostModel", "acts", "I", false)
  | 9 => ("EvePostModel", "tape", "[I", true)
  | 10 => ("EvePostModel", "taped", "I", false)
  | 11 => ("EvePostModel", "latest", "I", false)
  | 12 => ("EvePostModel", "length", "I", false)
  | 13 => ("EvePostModel", "cursor", "I", false)
  | 14 => ("EvePostModel", "token", "I", false)
  | 15 => ("EvePostModel", "start", "I", false)
  | 16 => ("EvePostModel", "till", "I", false)
  | 17 => ("EvePostModel", "fault", "I", false)
  | 18 => ("EvePostModel", "faultAt", "I", false)
  | 19 => ("EvePostModel", "chained", "[I", true)
  | 20 => ("EvePostModel", "isKept", "[Z", true)
  | 21 => ("EvePostModel", "kept", "[I", true)
  | 22 => ("EvePostModel", "trace", "[I", true)
  | _ => ("EvePostModel", "traced", "I", false)
def tyX12 : Nat → FieldType := fun k => match k with
  | 0 => .int
  | 1 => .int
  | 2 => .array .int
  | 3 => .array .int
  | 4 => .array .int
  | 5 => .array .int
  | 6 => .array .int
  | 7 => .array .int
  | 8 => .int
  | 9 => .array .int
  | 10 => .int
  | 11 => .int
  | 12 => .int
  | 13 => .int
  | 14 => .int
  | 15 => .int
  | 16 => .int
  | 17 => .int
  | 18 => .int
  | 19 => .array .int
  | 20 => .array .boolean
  | 21 => .array .int
  | 22 => .array .int
  | _ => .int
abbrev wsX120 : List Cond := u_ws RX12 TX12 24
theorem nmX12 : ∀ a, a < 24 → ∀ b, b < 24 → a ≠ b → (TX12 a).2.1 ≠ (TX12 b).2.1 := by decide +kernel
theorem tyX12_ok : ∀ k, k < 24 → parseFieldDescriptor (TX12 k).2.2.1 = some (tyX12 k) := by decide +kernel
abbrev cX12_init : ByteArray := prog_14_method_1_code
def yX12_init : MethodName := ⟨RX12, "<init>", "()V"⟩
abbrev cX12_in : ByteArray := prog_14_method_3_code
def yX12_in : MethodName := ⟨RX12, "in", "(JJJ)Z"⟩
abbrev cX12_finding : ByteArray := prog_14_method_4_code
def yX12_finding : MethodName := ⟨RX12, "finding", "(I)I"⟩
abbrev cX12_isRow : ByteArray := prog_14_method_5_code
def yX12_isRow : MethodName := ⟨RX12, "isRow", "(I)Z"⟩
abbrev cX12_row : ByteArray := prog_14_method_6_code
def yX12_row : MethodName := ⟨RX12, "row", "(III)I"⟩
abbrev cX12_set : ByteArray := prog_14_method_7_code
def yX12_set : MethodName := ⟨RX12, "set", "(III)I"⟩
abbrev cX12_copy : ByteArray := prog_14_method_8_code
def yX12_copy : MethodName := ⟨RX12, "copy", "(IIIII)I"⟩
abbrev cX12_drop : ByteArray := prog_14_method_9_code
def yX12_drop : MethodName := ⟨RX12, "drop", "(I)I"⟩
abbrev cX12_feed : ByteArray := prog_14_method_10_code
def yX12_feed : MethodName := ⟨RX12, "feed", "(JI)I"⟩
abbrev cX12_byteAt : ByteArray := prog_14_method_11_code
def yX12_byteAt : MethodName := ⟨RX12, "byteAt", "(I)I"⟩
abbrev cX12_isLetter : ByteArray := prog_14_method_12_code
def yX12_isLetter : MethodName := ⟨RX12, "isLetter", "(I)Z"⟩
abbrev cX12_isFigure : ByteArray := prog_14_method_13_code
def yX12_isFigure : MethodName := ⟨RX12, "isFigure", "(I)Z"⟩
abbrev cX12_next : ByteArray := prog_14_method_14_code
def yX12_next : MethodName := ⟨RX12, "next", "()V"⟩
abbrev cX12_begin : ByteArray := prog_14_method_15_code
def yX12_begin : MethodName := ⟨RX12, "begin", "()V"⟩
abbrev cX12_bad : ByteArray := prog_14_method_16_code
def yX12_bad : MethodName := ⟨RX12, "bad", "(I)V"⟩
abbrev cX12_must : ByteArray := prog_14_method_17_code
def yX12_must : MethodName := ⟨RX12, "must", "(Z)V"⟩
abbrev cX12_name : ByteArray := prog_14_method_18_code
def yX12_name : MethodName := ⟨RX12, "name", "()J"⟩
abbrev cX12_figures : ByteArray := prog_14_method_19_code
def yX12_figures : MethodName := ⟨RX12, "figures", "()I"⟩
abbrev cX12_number : ByteArray := prog_14_method_20_code
def yX12_number : MethodName := ⟨RX12, "number", "(II)I"⟩
abbrev cX12_kindBy : ByteArray := prog_14_method_21_code
def yX12_kindBy : MethodName := ⟨RX12, "kindBy", "(J)I"⟩
abbrev cX12_readPerson : ByteArray := prog_14_method_22_code
def yX12_readPerson : MethodName := ⟨RX12, "readPerson", "()V"⟩
abbrev cX12_town : ByteArray := prog_14_method_23_code
def yX12_town : MethodName := ⟨RX12, "town", "()I"⟩
abbrev cX12_fault : ByteArray := prog_14_method_24_code
def yX12_fault : MethodName := ⟨RX12, "fault", "()I"⟩
abbrev cX12_isThere : ByteArray := prog_14_method_25_code
def yX12_isThere : MethodName := ⟨RX12, "isThere", "()Z"⟩
abbrev cX12_isPerson : ByteArray := prog_14_method_26_code
def yX12_isPerson : MethodName := ⟨RX12, "isPerson", "(I)Z"⟩
abbrev cX12_all : ByteArray := prog_14_method_27_code
def yX12_all : MethodName := ⟨RX12, "all", "()I"⟩
abbrev cX12_isSet : ByteArray := prog_14_method_28_code
def yX12_isSet : MethodName := ⟨RX12, "isSet", "(I)Z"⟩
abbrev cX12_of : ByteArray := prog_14_method_29_code
def yX12_of : MethodName := ⟨RX12, "of", "(II)I"⟩
abbrev cX12_bits : ByteArray := prog_14_method_30_code
def yX12_bits : MethodName := ⟨RX12, "bits", "(I)I"⟩
abbrev cX12_doesIt : ByteArray := prog_14_method_31_code
def yX12_doesIt : MethodName := ⟨RX12, "doesIt", "(III)Z"⟩
abbrev cX12_doneBy : ByteArray := prog_14_method_32_code
def yX12_doneBy : MethodName := ⟨RX12, "doneBy", "(IIII)I"⟩
abbrev cX12_isAgreed : ByteArray := prog_14_method_33_code
def yX12_isAgreed : MethodName := ⟨RX12, "isAgreed", "(II)Z"⟩
abbrev cX12_keep : ByteArray := prog_14_method_34_code
def yX12_keep : MethodName := ⟨RX12, "keep", "()V"⟩
abbrev cX12_goDay : ByteArray := prog_14_method_35_code
def yX12_goDay : MethodName := ⟨RX12, "goDay", "(I)V"⟩
abbrev cX12_post : ByteArray := prog_14_method_36_code
def yX12_post : MethodName := ⟨RX12, "post", "(I)I"⟩
abbrev cX12_lacks : ByteArray := prog_14_method_37_code
def yX12_lacks : MethodName := ⟨RX12, "lacks", "(III)I"⟩
abbrev cX12_areSets : ByteArray := prog_14_method_38_code
def yX12_areSets : MethodName := ⟨RX12, "areSets", "(II)Z"⟩
abbrev cX12_posts : ByteArray := prog_14_method_39_code
def yX12_posts : MethodName := ⟨RX12, "posts", "(III)I"⟩
abbrev cX12_lots : ByteArray := prog_14_method_40_code
def yX12_lots : MethodName := ⟨RX12, "lots", "(II)I"⟩
abbrev cX12_undo : ByteArray := prog_14_method_41_code
def yX12_undo : MethodName := ⟨RX12, "undo", "()I"⟩
abbrev cX12_person : ByteArray := prog_14_method_42_code
def yX12_person : MethodName := ⟨RX12, "person", "(II)I"⟩
abbrev cX12_done : ByteArray := prog_14_method_43_code
def yX12_done : MethodName := ⟨RX12, "done", "(I)I"⟩
abbrev cX12_agreeing : ByteArray := prog_14_method_44_code
def yX12_agreeing : MethodName := ⟨RX12, "agreeing", "(I)I"⟩
abbrev cX12_fullest : ByteArray := prog_14_method_45_code
def yX12_fullest : MethodName := ⟨RX12, "fullest", "()I"⟩
abbrev cX12_hasAny : ByteArray := prog_14_method_46_code
def yX12_hasAny : MethodName := ⟨RX12, "hasAny", "(II)Z"⟩
abbrev cX12_culprits : ByteArray := prog_14_method_47_code
def yX12_culprits : MethodName := ⟨RX12, "culprits", "(I)I"⟩
abbrev cX12_layChains : ByteArray := prog_14_method_48_code
def yX12_layChains : MethodName := ⟨RX12, "layChains", "()V"⟩
abbrev cX12_chains : ByteArray := prog_14_method_49_code
def yX12_chains : MethodName := ⟨RX12, "chains", "(II)I"⟩
abbrev cX12_breaks : ByteArray := prog_14_method_50_code
def yX12_breaks : MethodName := ⟨RX12, "breaks", "(III)I"⟩
abbrev cX12_oddsOf : ByteArray := prog_14_method_51_code
def yX12_oddsOf : MethodName := ⟨RX12, "oddsOf", "(II)I"⟩
abbrev cX12_oddsIn : ByteArray := prog_14_method_52_code
def yX12_oddsIn : MethodName := ⟨RX12, "oddsIn", "()I"⟩
abbrev cX12_comes : ByteArray := prog_14_method_53_code
def yX12_comes : MethodName := ⟨RX12, "comes", "(III)I"⟩
abbrev cX12_likeliest : ByteArray := prog_14_method_54_code
def yX12_likeliest : MethodName := ⟨RX12, "likeliest", "()I"⟩
abbrev cX12_lost : ByteArray := prog_14_method_55_code
def yX12_lost : MethodName := ⟨RX12, "lost", "(II)I"⟩
abbrev cX12_readBy : ByteArray := prog_14_method_56_code
def yX12_readBy : MethodName := ⟨RX12, "readBy", "(II)I"⟩
abbrev cX12_image : ByteArray := prog_14_method_57_code
def yX12_image : MethodName := ⟨RX12, "image", "(I)I"⟩
abbrev cX12_restore : ByteArray := prog_14_method_58_code
def yX12_restore : MethodName := ⟨RX12, "restore", "(I)I"⟩
abbrev cX12_isOf : ByteArray := prog_14_method_59_code
def yX12_isOf : MethodName := ⟨RX12, "isOf", "(II)Z"⟩
abbrev cX12_kind : ByteArray := prog_14_method_60_code
def yX12_kind : MethodName := ⟨RX12, "kind", "(I)I"⟩
abbrev cX12_as : ByteArray := prog_14_method_61_code
def yX12_as : MethodName := ⟨RX12, "as", "(II)I"⟩
abbrev cX12_began : ByteArray := prog_14_method_62_code
def yX12_began : MethodName := ⟨RX12, "began", "(I)V"⟩
abbrev cX12_plainSize : ByteArray := prog_14_method_63_code
def yX12_plainSize : MethodName := ⟨RX12, "plainSize", "(I)I"⟩
abbrev cX12_crowdSize : ByteArray := prog_14_method_64_code
def yX12_crowdSize : MethodName := ⟨RX12, "crowdSize", "(I)I"⟩
abbrev cX12_markOf : ByteArray := prog_14_method_65_code
def yX12_markOf : MethodName := ⟨RX12, "markOf", "(I)I"⟩
abbrev cX12_sizeOf : ByteArray := prog_14_method_66_code
def yX12_sizeOf : MethodName := ⟨RX12, "sizeOf", "(I)I"⟩
abbrev cX12_ask : ByteArray := prog_14_method_67_code
def yX12_ask : MethodName := ⟨RX12, "ask", "(II)I"⟩
abbrev cX12_trace : ByteArray := prog_14_method_68_code
def yX12_trace : MethodName := ⟨RX12, "trace", "(I)I"⟩
abbrev cX12_count : ByteArray := prog_14_method_69_code
def yX12_count : MethodName := ⟨RX12, "count", "(I)I"⟩
abbrev cX12_status : ByteArray := prog_14_method_70_code
def yX12_status : MethodName := ⟨RX12, "status", "()I"⟩
def RJx145de : String := "java/io/Serializable"
def TJx145de : u_T := fun k => match k with
  | _ => ("", "", "", false)
def tyJx145de : Nat → FieldType := fun k => match k with
  | _ => .int
abbrev wsJx145de0 : List Cond := u_ws RJx145de TJx145de 0
theorem nmJx145de : ∀ a, a < 0 → ∀ b, b < 0 → a ≠ b → (TJx145de a).2.1 ≠ (TJx145de b).2.1 := by decide +kernel
theorem tyJx145de_ok : ∀ k, k < 0 → parseFieldDescriptor (TJx145de k).2.2.1 = some (tyJx145de k) := by decide +kernel
def RJx9f9b0 : String := "java/lang/CharSequence"
def TJx9f9b0 : u_T := fun k => match k with
  | _ => ("", "", "", false)
def tyJx9f9b0 : Nat → FieldType := fun k => match k with
  | _ => .int
abbrev wsJx9f9b00 : List Cond := u_ws RJx9f9b0 TJx9f9b0 0
theorem nmJx9f9b0 : ∀ a, a < 0 → ∀ b, b < 0 → a ≠ b → (TJx9f9b0 a).2.1 ≠ (TJx9f9b0 b).2.1 := by decide +kernel
theorem tyJx9f9b0_ok : ∀ k, k < 0 → parseFieldDescriptor (TJx9f9b0 k).2.2.1 = some (tyJx9f9b0 k) := by decide +kernel
def RJxb160c : String := "java/lang/Comparable"
def TJxb160c : u_T := fun k => match k with
  | _ => ("", "", "", false)
def tyJxb160c : Nat → FieldType := fun k => match k with
  | _ => .int
abbrev wsJxb160c0 : List Cond := u_ws RJxb160c TJxb160c 0
theorem nmJxb160c : ∀ a, a < 0 → ∀ b, b < 0 → a ≠ b → (TJxb160c a).2.1 ≠ (TJxb160c b).2.1 := by decide +kernel
theorem tyJxb160c_ok : ∀ k, k < 0 → parseFieldDescriptor (TJxb160c k).2.2.1 = some (tyJxb160c k) := by decide +kernel
def RJ6 : String := "java/lang/Integer"
def TJ6 : u_T := fun k => match k with
  | _ => ("", "", "", false)
def tyJ6 : Nat → FieldType := fun k => match k with
  | _ => .int
abbrev wsJ60 : List Cond := u_ws RJ6 TJ6 0
theorem nmJ6 : ∀ a, a < 0 → ∀ b, b < 0 → a ≠ b → (TJ6 a).2.1 ≠ (TJ6 b).2.1 := by decide +kernel
theorem tyJ6_ok : ∀ k, k < 0 → parseFieldDescriptor (TJ6 k).2.2.1 = some (tyJ6 k) := by decide +kernel
abbrev cJ6_bitCount_0f7a4 : ByteArray := prog_15_method_49_code
def yJ6_bitCount_0f7a4 : MethodName := ⟨RJ6, "bitCount", "(I)I"⟩
def RJ9 : String := "java/lang/Math"
def TJ9 : u_T := fun k => match k with
  | _ => ("", "", "", false)
def tyJ9 : Nat → FieldType := fun k => match k with
  | _ => .int
abbrev wsJ90 : List Cond := u_ws RJ9 TJ9 0
theorem nmJ9 : ∀ a, a < 0 → ∀ b, b < 0 → a ≠ b → (TJ9 a).2.1 ≠ (TJ9 b).2.1 := by decide +kernel
theorem tyJ9_ok : ∀ k, k < 0 → parseFieldDescriptor (TJ9 k).2.2.1 = some (tyJ9 k) := by decide +kernel
abbrev cJ9_min_7cf53 : ByteArray := prog_16_method_69_code
def yJ9_min_7cf53 : MethodName := ⟨RJ9, "min", "(II)I"⟩
def RJ0 : String := "java/lang/String"
def TJ0 : u_T := fun k => match k with
  | _ => ("", "", "", false)
def tyJ0 : Nat → FieldType := fun k => match k with
  | _ => .int
abbrev wsJ00 : List Cond := u_ws RJ0 TJ0 0
theorem nmJ0 : ∀ a, a < 0 → ∀ b, b < 0 → a ≠ b → (TJ0 a).2.1 ≠ (TJ0 b).2.1 := by decide +kernel
theorem tyJ0_ok : ∀ k, k < 0 → parseFieldDescriptor (TJ0 k).2.2.1 = some (tyJ0 k) := by decide +kernel
abbrev cJ0_length_8abf5 : ByteArray := prog_17_method_54_code
def yJ0_length_8abf5 : MethodName := ⟨RJ0, "length", "()I"⟩
abbrev cJ0_charAt_5068e : ByteArray := prog_17_method_56_code
def yJ0_charAt_5068e : MethodName := ⟨RJ0, "charAt", "(I)C"⟩
abbrev cJ0_coder_7d493 : ByteArray := prog_17_method_152_code
def yJ0_coder_7d493 : MethodName := ⟨RJ0, "coder", "()B"⟩
abbrev cJ0_isLatin1_aae02 : ByteArray := prog_17_method_154_code
def yJ0_isLatin1_aae02 : MethodName := ⟨RJ0, "isLatin1", "()Z"⟩
abbrev cJ0_checkIndex_df160 : ByteArray := prog_17_method_155_code
def yJ0_checkIndex_df160 : MethodName := ⟨RJ0, "checkIndex", "(II)V"⟩
def RJ1 : String := "java/lang/StringLatin1"
def TJ1 : u_T := fun k => match k with
  | _ => ("", "", "", false)
def tyJ1 : Nat → FieldType := fun k => match k with
  | _ => .int
abbrev wsJ10 : List Cond := u_ws RJ1 TJ1 0
theorem nmJ1 : ∀ a, a < 0 → ∀ b, b < 0 → a ≠ b → (TJ1 a).2.1 ≠ (TJ1 b).2.1 := by decide +kernel
theorem tyJ1_ok : ∀ k, k < 0 → parseFieldDescriptor (TJ1 k).2.2.1 = some (tyJ1 k) := by decide +kernel
abbrev cJ1_charAt_3b067 : ByteArray := prog_18_method_2_code
def yJ1_charAt_3b067 : MethodName := ⟨RJ1, "charAt", "([BI)C"⟩
def RJ2 : String := "java/lang/StringUTF16"
def TJ2 : u_T := fun k => match k with
  | _ => ("", "", "", false)
def tyJ2 : Nat → FieldType := fun k => match k with
  | _ => .int
abbrev wsJ20 : List Cond := u_ws RJ2 TJ2 0
theorem nmJ2 : ∀ a, a < 0 → ∀ b, b < 0 → a ≠ b → (TJ2 a).2.1 ≠ (TJ2 b).2.1 := by decide +kernel
theorem tyJ2_ok : ∀ k, k < 0 → parseFieldDescriptor (TJ2 k).2.2.1 = some (tyJ2 k) := by decide +kernel
abbrev cJ2_getChar_3b067 : ByteArray := prog_19_method_5_code
def yJ2_getChar_3b067 : MethodName := ⟨RJ2, "getChar", "([BI)C"⟩
abbrev cJ2_length_9d52b : ByteArray := prog_19_method_6_code
def yJ2_length_9d52b : MethodName := ⟨RJ2, "length", "([B)I"⟩
abbrev cJ2_charAt_3b067 : ByteArray := prog_19_method_83_code
def yJ2_charAt_3b067 : MethodName := ⟨RJ2, "charAt", "([BI)C"⟩
abbrev cJ2_checkIndex_2214a : ByteArray := prog_19_method_91_code
def yJ2_checkIndex_2214a : MethodName := ⟨RJ2, "checkIndex", "(I[B)V"⟩
def RJ10 : String := "java/lang/System"
def TJ10 : u_T := fun k => match k with
  | _ => ("", "", "", false)
def tyJ10 : Nat → FieldType := fun k => match k with
  | _ => .int
abbrev wsJ100 : List Cond := u_ws RJ10 TJ10 0
theorem nmJ10 : ∀ a, a < 0 → ∀ b, b < 0 → a ≠ b → (TJ10 a).2.1 ≠ (TJ10 b).2.1 := by decide +kernel
theorem tyJ10_ok : ∀ k, k < 0 → parseFieldDescriptor (TJ10 k).2.2.1 = some (tyJ10 k) := by decide +kernel
def RJxfd54e : String := "java/lang/constant/Constable"
def TJxfd54e : u_T := fun k => match k with
  | _ => ("", "", "", false)
def tyJxfd54e : Nat → FieldType := fun k => match k with
  | _ => .int
abbrev wsJxfd54e0 : List Cond := u_ws RJxfd54e TJxfd54e 0
theorem nmJxfd54e : ∀ a, a < 0 → ∀ b, b < 0 → a ≠ b → (TJxfd54e a).2.1 ≠ (TJxfd54e b).2.1 := by decide +kernel
theorem tyJxfd54e_ok : ∀ k, k < 0 → parseFieldDescriptor (TJxfd54e k).2.2.1 = some (tyJxfd54e k) := by decide +kernel
def RJx3cf43 : String := "java/lang/constant/ConstantDesc"
def TJx3cf43 : u_T := fun k => match k with
  | _ => ("", "", "", false)
def tyJx3cf43 : Nat → FieldType := fun k => match k with
  | _ => .int
abbrev wsJx3cf430 : List Cond := u_ws RJx3cf43 TJx3cf43 0
theorem nmJx3cf43 : ∀ a, a < 0 → ∀ b, b < 0 → a ≠ b → (TJx3cf43 a).2.1 ≠ (TJx3cf43 b).2.1 := by decide +kernel
theorem tyJx3cf43_ok : ∀ k, k < 0 → parseFieldDescriptor (TJx3cf43 k).2.2.1 = some (tyJx3cf43 k) := by decide +kernel
def RJ7 : String := "java/util/Arrays"
def TJ7 : u_T := fun k => match k with
  | _ => ("", "", "", false)
def tyJ7 : Nat → FieldType := fun k => match k with
  | _ => .int
abbrev wsJ70 : List Cond := u_ws RJ7 TJ7 0
theorem nmJ7 : ∀ a, a < 0 → ∀ b, b < 0 → a ≠ b → (TJ7 a).2.1 ≠ (TJ7 b).2.1 := by decide +kernel
theorem tyJ7_ok : ∀ k, k < 0 → parseFieldDescriptor (TJ7 k).2.2.1 = some (tyJ7 k) := by decide +kernel
abbrev cJ7_fill_53178 : ByteArray := prog_21_method_103_code
def yJ7_fill_53178 : MethodName := ⟨RJ7, "fill", "([II)V"⟩
def RJ3 : String := "jdk/internal/util/Preconditions"
def TJ3 : u_T := fun k => match k with
  | _ => ("", "", "", false)
def tyJ3 : Nat → FieldType := fun k => match k with
  | _ => .int
abbrev wsJ30 : List Cond := u_ws RJ3 TJ3 0
theorem nmJ3 : ∀ a, a < 0 → ∀ b, b < 0 → a ≠ b → (TJ3 a).2.1 ≠ (TJ3 b).2.1 := by decide +kernel
theorem tyJ3_ok : ∀ k, k < 0 → parseFieldDescriptor (TJ3 k).2.2.1 = some (tyJ3 k) := by decide +kernel
abbrev cJ3_checkIndex_8e157 : ByteArray := prog_22_method_11_code
def yJ3_checkIndex_8e157 : MethodName := ⟨RJ3, "checkIndex", "(IILjava/util/function/BiFunction;)I"⟩
def RL : String := "EvePostLaw"
abbrev cL_law : ByteArray := code
def yL_law : MethodName := ⟨RL, "law", "([I)Z"⟩
abbrev vwCl : List vw_C := [(RX0, TX0, 3), (RX1, TX1, 3), (RX2, TX2, 1), (RX3, TX3, 3), (RX4, TX4, 3), (RX6, TX6, 3), (RX7, TX7, 8), (RX8, TX8, 6), (RX9, TX9, 2), (RX10, TX10, 3), (RX11, TX11, 9), (RX12, TX12, 24)]
end
section
theorem dX0_init_0 : decode cX0_init 0 = .ok (.aload_n 0, 1) := by decide +kernel
theorem dX0_init_1 : decode cX0_init 1 = .ok (.iload_n 1, 1) := by decide +kernel
theorem dX0_init_2 : decode cX0_init 2 = .ok (.iload_n 2, 1) := by decide +kernel
theorem dX0_init_3 : decode cX0_init 3 = .ok (.iload_n 3, 1) := by decide +kernel
theorem dX0_init_4 : decode cX0_init 4 = .ok (.invokespecial 1, 3) := by decide +kernel
theorem dX0_init_7 : decode cX0_init 7 = .ok (.return_, 1) := by decide +kernel
theorem dX0_ownKind_0 : decode cX0_ownKind 0 = .ok (.iconst 2, 1) := by decide +kernel
theorem dX0_ownKind_1 : decode cX0_ownKind 1 = .ok (.ireturn, 1) := by decide +kernel
theorem dX0_doesIt_0 : decode cX0_doesIt 0 = .ok (.iload_n 1, 1) := by decide +kernel
theorem dX0_doesIt_1 : decode cX0_doesIt 1 = .ok (.aload_n 0, 1) := by decide +kernel
theorem dX0_doesIt_2 : decode cX0_doesIt 2 = .ok (.getfield 7, 3) := by decide +kernel
theorem dX0_doesIt_5 : decode cX0_doesIt 5 = .ok (.invokestatic 13, 3) := by decide +kernel
theorem dX0_doesIt_8 : decode cX0_doesIt 8 = .ok (.ifCond .ne 7, 3) := by decide +kernel
theorem dX0_doesIt_11 : decode cX0_doesIt 11 = .ok (.iconst 1, 1) := by decide +kernel
theorem dX0_doesIt_12 : decode cX0_doesIt 12 = .ok (.goto 4, 3) := by decide +kernel
theorem dX0_doesIt_15 : decode cX0_doesIt 15 = .ok (.iconst 0, 1) := by decide +kernel
theorem dX0_doesIt_16 : decode cX0_doesIt 16 = .ok (.ireturn, 1) := by decide +kernel
theorem dX0_size_0 : decode cX0_size 0 = .ok (.aload_n 1, 1) := by decide +kernel
theorem dX0_size_1 : decode cX0_size 1 = .ok (.bipush 12, 2) := by decide +kernel
theorem dX0_size_3 : decode cX0_size 3 = .ok (.invokevirtual 19, 3) := by decide +kernel
theorem dX0_size_6 : decode cX0_size 6 = .ok (.aload_n 0, 1) := by decide +kernel
theorem dX0_size_7 : decode cX0_size 7 = .ok (.aload_n 1, 1) := by decide +kernel
theorem dX0_size_8 : decode cX0_size 8 = .ok (.invokespecial 25, 3) := by decide +kernel
theorem dX0_size_11 : decode cX0_size 11 = .ok (.ineg, 1) := by decide +kernel
theorem dX0_size_12 : decode cX0_size 12 = .ok (.ireturn, 1) := by decide +kernel
theorem dX0_mark_0 : decode cX0_mark 0 = .ok (.aload_n 1, 1) := by decide +kernel
theorem dX0_mark_1 : decode cX0_mark 1 = .ok (.bipush 24, 2) := by decide +kernel
theorem dX0_mark_3 : decode cX0_mark 3 = .ok (.invokevirtual 19, 3) := by decide +kernel
theorem dX0_mark_6 : decode cX0_mark 6 = .ok (.iconst 2, 1) := by decide +kernel
theorem dX0_mark_7 : decode cX0_mark 7 = .ok (.aload_n 0, 1) := by decide +kernel
theorem dX0_mark_8 : decode cX0_mark 8 = .ok (.aload_n 1, 1) := by decide +kernel
theorem dX0_mark_9 : decode cX0_mark 9 = .ok (.invokespecial 29, 3) := by decide +kernel
theorem dX0_mark_12 : decode cX0_mark 12 = .ok (.imul, 1) := by decide +kernel
theorem dX0_mark_13 : decode cX0_mark 13 = .ok (.ireturn, 1) := by decide +kernel
theorem dX1_init_0 : decode cX1_init 0 = .ok (.aload_n 0, 1) := by decide +kernel
theorem dX1_init_1 : decode cX1_init 1 = .ok (.iload_n 1, 1) := by decide +kernel
theorem dX1_init_2 : decode cX1_init 2 = .ok (.iload_n 2, 1) := by decide +kernel
theorem dX1_init_3 : decode cX1_init 3 = .ok (.iload_n 3, 1) := by decide +kernel
theorem dX1_init_4 : decode cX1_init 4 = .ok (.invokespecial 1, 3) := by decide +kernel
theorem dX1_init_7 : decode cX1_init 7 = .ok (.return_, 1) := by decide +kernel
theorem dX1_ownKind_0 : decode cX1_ownKind 0 = .ok (.iconst 4, 1) := by decide +kernel
theorem dX1_ownKind_1 : decode cX1_ownKind 1 = .ok (.ireturn, 1) := by decide +kernel
theorem dX1_doesIt_0 : decode cX1_doesIt 0 = .ok (.iload_n 1, 1) := by decide +kernel
theorem dX1_doesIt_1 : decode cX1_doesIt 1 = .ok (.invokestatic 7, 3) := by decide +kernel
theorem dX1_doesIt_4 : decode cX1_doesIt 4 = .ok (.aload_n 0, 1) := by decide +kernel
theorem dX1_doesIt_5 : decode cX1_doesIt 5 = .ok (.getfield 13, 3) := by decide +kernel
theorem dX1_doesIt_8 : decode cX1_doesIt 8 = .ok (.if_icmp .lt 7, 3) := by decide +kernel
theorem dX1_doesIt_11 : decode cX1_doesIt 11 = .ok (.iconst 1, 1) := by decide +kernel
theorem dX1_doesIt_12 : decode cX1_doesIt 12 = .ok (.goto 4, 3) := by decide +kernel
theorem dX1_doesIt_15 : decode cX1_doesIt 15 = .ok (.iconst 0, 1) := by decide +kernel
theorem dX1_doesIt_16 : decode cX1_doesIt 16 = .ok (.ireturn, 1) := by decide +kernel
theorem dX1_size_0 : decode cX1_size 0 = .ok (.aload_n 1, 1) := by decide +kernel
theorem dX1_size_1 : decode cX1_size 1 = .ok (.bipush 13, 2) := by decide +kernel
theorem dX1_size_3 : decode cX1_size 3 = .ok (.invokevirtual 19, 3) := by decide +kernel
theorem dX1_size_6 : decode cX1_size 6 = .ok (.aload_n 0, 1) := by decide +kernel
theorem dX1_size_7 : decode cX1_size 7 = .ok (.aload_n 1, 1) := by decide +kernel
theorem dX1_size_8 : decode cX1_size 8 = .ok (.invokespecial 25, 3) := by decide +kernel
theorem dX1_size_11 : decode cX1_size 11 = .ok (.bipush 100, 2) := by decide +kernel
theorem dX1_size_13 : decode cX1_size 13 = .ok (.isub, 1) := by decide +kernel
theorem dX1_size_14 : decode cX1_size 14 = .ok (.ireturn, 1) := by decide +kernel
theorem dX1_mark_0 : decode cX1_mark 0 = .ok (.aload_n 1, 1) := by decide +kernel
theorem dX1_mark_1 : decode cX1_mark 1 = .ok (.bipush 23, 2) := by decide +kernel
theorem dX1_mark_3 : decode cX1_mark 3 = .ok (.invokevirtual 19, 3) := by decide +kernel
theorem dX1_mark_6 : decode cX1_mark 6 = .ok (.aload_n 0, 1) := by decide +kernel
theorem dX1_mark_7 : decode cX1_mark 7 = .ok (.aload_n 1, 1) := by decide +kernel
theorem dX1_mark_8 : decode cX1_mark 8 = .ok (.invokespecial 29, 3) := by decide +kernel
theorem dX1_mark_11 : decode cX1_mark 11 = .ok (.istore_n 2, 1) := by decide +kernel
theorem dX1_mark_12 : decode cX1_mark 12 = .ok (.iload_n 2, 1) := by decide +kernel
theorem dX1_mark_13 : decode cX1_mark 13 = .ok (.aload_n 0, 1) := by decide +kernel
theorem dX1_mark_14 : decode cX1_mark 14 = .ok (.aload_n 1, 1) := by decide +kernel
theorem dX1_mark_15 : decode cX1_mark 15 = .ok (.invokevirtual 32, 3) := by decide +kernel
theorem dX1_mark_18 : decode cX1_mark 18 = .ok (.isub, 1) := by decide +kernel
theorem dX1_mark_19 : decode cX1_mark 19 = .ok (.ireturn, 1) := by decide +kernel
theorem dX2_init_0 : decode cX2_init 0 = .ok (.aload_n 0, 1) := by decide +kernel
theorem dX2_init_1 : decode cX2_init 1 = .ok (.invokespecial 3, 3) := by decide +kernel
theorem dX2_init_4 : decode cX2_init 4 = .ok (.aload_n 0, 1) := by decide +kernel
theorem dX2_init_5 : decode cX2_init 5 = .ok (.bipush 6, 2) := by decide +kernel
theorem dX2_init_7 : decode cX2_init 7 = .ok (.bipush 64, 2) := by decide +kernel
theorem dX2_init_9 : decode cX2_init 9 = .ok (.multianewarray 9 2, 4) := by decide +kernel
theorem dX2_init_13 : decode cX2_init 13 = .ok (.putfield 11, 3) := by decide +kernel
theorem dX2_init_16 : decode cX2_init 16 = .ok (.return_, 1) := by decide +kernel
theorem dX2_howManyAgree_0 : decode cX2_howManyAgree 0 = .ok (.aload_n 0, 1) := by decide +kernel
theorem dX2_howManyAgree_1 : decode cX2_howManyAgree 1 = .ok (.aload_n 1, 1) := by decide +kernel
theorem dX2_howManyAgree_2 : decode cX2_howManyAgree 2 = .ok (.aload_n 0, 1) := by decide +kernel
theorem dX2_howManyAgree_3 : decode cX2_howManyAgree 3 = .ok (.aload_n 1, 1) := by decide +kernel
theorem dX2_howManyAgree_4 : decode cX2_howManyAgree 4 = .ok (.invokevirtual 16, 3) := by decide +kernel
theorem dX2_howManyAgree_7 : decode cX2_howManyAgree 7 = .ok (.invokevirtual 20, 3) := by decide +kernel
theorem dX2_howManyAgree_10 : decode cX2_howManyAgree 10 = .ok (.ireturn, 1) := by decide +kernel
theorem dX2_agreeingLetter_0 : decode cX2_agreeingLetter 0 = .ok (.iconst 0, 1) := by decide +kernel
theorem dX2_agreeingLetter_1 : decode cX2_agreeingLetter 1 = .ok (.istore_n 3, 1) := by decide +kernel
theorem dX2_agreeingLetter_2 : decode cX2_agreeingLetter 2 = .ok (.iconst 0, 1) := by decide +kernel
theorem dX2_agreeingLetter_3 : decode cX2_agreeingLetter 3 = .ok (.istore 4, 2) := by decide +kernel
theorem dX2_agreeingLetter_5 : decode cX2_agreeingLetter 5 = .ok (.iload 4, 2) := by decide +kernel
theorem dX2_agreeingLetter_7 : decode cX2_agreeingLetter 7 = .ok (.aload_n 1, 1) := by decide +kernel
theorem dX2_agreeingLetter_8 : decode cX2_agreeingLetter 8 = .ok (.invokevirtual 24, 3) := by decide +kernel
theorem dX2_agreeingLetter_11 : decode cX2_agreeingLetter 11 = .ok (.if_icmp .ge 29, 3) := by decide +kernel
theorem dX2_agreeingLetter_14 : decode cX2_agreeingLetter 14 = .ok (.aload_n 1, 1) := by decide +kernel
theorem dX2_agreeingLetter_15 : decode cX2_agreeingLetter 15 = .ok (.iload 4, 2) := by decide +kernel
theorem dX2_agreeingLetter_17 : decode cX2_agreeingLetter 17 = .ok (.invokevirtual 30, 3) := by decide +kernel
theorem dX2_agreeingLetter_20 : decode cX2_agreeingLetter 20 = .ok (.ifCond .eq 14, 3) := by decide +kernel
theorem dX2_agreeingLetter_23 : decode cX2_agreeingLetter 23 = .ok (.iload_n 3, 1) := by decide +kernel
theorem dX2_agreeingLetter_24 : decode cX2_agreeingLetter 24 = .ok (.iload_n 2, 1) := by decide +kernel
theorem dX2_agreeingLetter_25 : decode cX2_agreeingLetter 25 = .ok (.if_icmp .ne 6, 3) := by decide +kernel
theorem dX2_agreeingLetter_28 : decode cX2_agreeingLetter 28 = .ok (.iload 4, 2) := by decide +kernel
theorem dX2_agreeingLetter_30 : decode cX2_agreeingLetter 30 = .ok (.ireturn, 1) := by decide +kernel
theorem dX2_agreeingLetter_31 : decode cX2_agreeingLetter 31 = .ok (.iinc 3 1, 3) := by decide +kernel
theorem dX2_agreeingLetter_34 : decode cX2_agreeingLetter 34 = .ok (.iinc 4 1, 3) := by decide +kernel
theorem dX2_agreeingLetter_37 : decode cX2_agreeingLetter 37 = .ok (.goto (-32), 3) := by decide +kernel
theorem dX2_agreeingLetter_40 : decode cX2_agreeingLetter 40 = .ok (.ldc 34, 2) := by decide +kernel
theorem dX2_agreeingLetter_42 : decode cX2_agreeingLetter 42 = .ok (.ireturn, 1) := by decide +kernel
theorem dX2_fullestLetter_0 : decode cX2_fullestLetter 0 = .ok (.ldc 34, 2) := by decide +kernel
theorem dX2_fullestLetter_2 : decode cX2_fullestLetter 2 = .ok (.istore_n 2, 1) := by decide +kernel
theorem dX2_fullestLetter_3 : decode cX2_fullestLetter 3 = .ok (.iconst (-1), 1) := by decide +kernel
theorem dX2_fullestLetter_4 : decode cX2_fullestLetter 4 = .ok (.istore_n 3, 1) := by decide +kernel
theorem dX2_fullestLetter_5 : decode cX2_fullestLetter 5 = .ok (.iconst 0, 1) := by decide +kernel
theorem dX2_fullestLetter_6 : decode cX2_fullestLetter 6 = .ok (.istore 4, 2) := by decide +kernel
theorem dX2_fullestLetter_8 : decode cX2_fullestLetter 8 = .ok (.iload 4, 2) := by decide +kernel
theorem dX2_fullestLetter_10 : decode cX2_fullestLetter 10 = .ok (.aload_n 1, 1) := by decide +kernel
theorem dX2_fullestLetter_11 : decode cX2_fullestLetter 11 = .ok (.invokevirtual 24, 3) := by decide +kernel
theorem dX2_fullestLetter_14 : decode cX2_fullestLetter 14 = .ok (.if_icmp .ge 36, 3) := by decide +kernel
theorem dX2_fullestLetter_17 : decode cX2_fullestLetter 17 = .ok (.aload_n 1, 1) := by decide +kernel
theorem dX2_fullestLetter_18 : decode cX2_fullestLetter 18 = .ok (.iload 4, 2) := by decide +kernel
theorem dX2_fullestLetter_20 : decode cX2_fullestLetter 20 = .ok (.invokevirtual 30, 3) := by decide +kernel
theorem dX2_fullestLetter_23 : decode cX2_fullestLetter 23 = .ok (.ifCond .eq 21, 3) := by decide +kernel
theorem dX2_fullestLetter_26 : decode cX2_fullestLetter 26 = .ok (.iload 4, 2) := by decide +kernel
theorem dX2_fullestLetter_28 : decode cX2_fullestLetter 28 = .ok (.invokestatic 35, 3) := by decide +kernel
theorem dX2_fullestLetter_31 : decode cX2_fullestLetter 31 = .ok (.iload_n 3, 1) := by decide +kernel
theorem dX2_fullestLetter_32 : decode cX2_fullestLetter 32 = .ok (.if_icmp .le 12, 3) := by decide +kernel
theorem dX2_fullestLetter_35 : decode cX2_fullestLetter 35 = .ok (.iload 4, 2) := by decide +kernel
theorem dX2_fullestLetter_37 : decode cX2_fullestLetter 37 = .ok (.istore_n 2, 1) := by decide +kernel
theorem dX2_fullestLetter_38 : decode cX2_fullestLetter 38 = .ok (.iload 4, 2) := by decide +kernel
theorem dX2_fullestLetter_40 : decode cX2_fullestLetter 40 = .ok (.invokestatic 35, 3) := by decide +kernel
theorem dX2_fullestLetter_43 : decode cX2_fullestLetter 43 = .ok (.istore_n 3, 1) := by decide +kernel
theorem dX2_fullestLetter_44 : decode cX2_fullestLetter 44 = .ok (.iinc 4 1, 3) := by decide +kernel
theorem dX2_fullestLetter_47 : decode cX2_fullestLetter 47 = .ok (.goto (-39), 3) := by decide +kernel
theorem dX2_fullestLetter_50 : decode cX2_fullestLetter 50 = .ok (.iload_n 2, 1) := by decide +kernel
theorem dX2_fullestLetter_51 : decode cX2_fullestLetter 51 = .ok (.ireturn, 1) := by decide +kernel
theorem dX2_likeliestLetter_0 : decode cX2_likeliestLetter 0 = .ok (.iconst 0, 1) := by decide +kernel
theorem dX2_likeliestLetter_1 : decode cX2_likeliestLetter 1 = .ok (.istore_n 2, 1) := by decide +kernel
theorem dX2_likeliestLetter_2 : decode cX2_likeliestLetter 2 = .ok (.aload_n 1, 1) := by decide +kernel
theorem dX2_likeliestLetter_3 : decode cX2_likeliestLetter 3 = .ok (.iconst 0, 1) := by decide +kernel
theorem dX2_likeliestLetter_4 : decode cX2_likeliestLetter 4 = .ok (.iconst 0, 1) := by decide +kernel
theorem dX2_likeliestLetter_5 : decode cX2_likeliestLetter 5 = .ok (.invokevirtual 41, 3) := by decide +kernel
theorem dX2_likeliestLetter_8 : decode cX2_likeliestLetter 8 = .ok (.istore_n 3, 1) := by decide +kernel
theorem dX2_likeliestLetter_9 : decode cX2_likeliestLetter 9 = .ok (.iconst 1, 1) := by decide +kernel
theorem dX2_likeliestLetter_10 : decode cX2_likeliestLetter 10 = .ok (.istore 4, 2) := by decide +kernel
theorem dX2_likeliestLetter_12 : decode cX2_likeliestLetter 12 = .ok (.iload 4, 2) := by decide +kernel
theorem dX2_likeliestLetter_14 : decode cX2_likeliestLetter 14 = .ok (.aload_n 1, 1) := by decide +kernel
theorem dX2_likeliestLetter_15 : decode cX2_likeliestLetter 15 = .ok (.invokevirtual 24, 3) := by decide +kernel
theorem dX2_likeliestLetter_18 : decode cX2_likeliestLetter 18 = .ok (.if_icmp .ge 31, 3) := by decide +kernel
theorem dX2_likeliestLetter_21 : decode cX2_likeliestLetter 21 = .ok (.aload_n 1, 1) := by decide +kernel
theorem dX2_likeliestLetter_22 : decode cX2_likeliestLetter 22 = .ok (.iload 4, 2) := by decide +kernel
theorem dX2_likeliestLetter_24 : decode cX2_likeliestLetter 24 = .ok (.iload 4, 2) := by decide +kernel
theorem dX2_likeliestLetter_26 : decode cX2_likeliestLetter 26 = .ok (.invokevirtual 41, 3) := by decide +kernel
theorem dX2_likeliestLetter_29 : decode cX2_likeliestLetter 29 = .ok (.istore 5, 2) := by decide +kernel
theorem dX2_likeliestLetter_31 : decode cX2_likeliestLetter 31 = .ok (.iload 5, 2) := by decide +kernel
theorem dX2_likeliestLetter_33 : decode cX2_likeliestLetter 33 = .ok (.iload_n 3, 1) := by decide +kernel
theorem dX2_likeliestLetter_34 : decode cX2_likeliestLetter 34 = .ok (.if_icmp .le 9, 3) := by decide +kernel
theorem dX2_likeliestLetter_37 : decode cX2_likeliestLetter 37 = .ok (.iload 4, 2) := by decide +kernel
theorem dX2_likeliestLetter_39 : decode cX2_likeliestLetter 39 = .ok (.istore_n 2, 1) := by decide +kernel
theorem dX2_likeliestLetter_40 : decode cX2_likeliestLetter 40 = .ok (.iload 5, 2) := by decide +kernel
theorem dX2_likeliestLetter_42 : decode cX2_likeliestLetter 42 = .ok (.istore_n 3, 1) := by decide +kernel
theorem dX2_likeliestLetter_43 : decode cX2_likeliestLetter 43 = .ok (.iinc 4 1, 3) := by decide +kernel
theorem dX2_likeliestLetter_46 : decode cX2_likeliestLetter 46 = .ok (.goto (-34), 3) := by decide +kernel
theorem dX2_likeliestLetter_49 : decode cX2_likeliestLetter 49 = .ok (.iload_n 2, 1) := by decide +kernel
theorem dX2_likeliestLetter_50 : decode cX2_likeliestLetter 50 = .ok (.ireturn, 1) := by decide +kernel
theorem dX2_whoHinders_0 : decode cX2_whoHinders 0 = .ok (.iconst 0, 1) := by decide +kernel
theorem dX2_whoHinders_1 : decode cX2_whoHinders 1 = .ok (.istore_n 2, 1) := by decide +kernel
theorem dX2_whoHinders_2 : decode cX2_whoHinders 2 = .ok (.iconst 0, 1) := by decide +kernel
theorem dX2_whoHinders_3 : decode cX2_whoHinders 3 = .ok (.istore_n 3, 1) := by decide +kernel
theorem dX2_whoHinders_4 : decode cX2_whoHinders 4 = .ok (.iload_n 3, 1) := by decide +kernel
theorem dX2_whoHinders_5 : decode cX2_whoHinders 5 = .ok (.aload_n 1, 1) := by decide +kernel
theorem dX2_whoHinders_6 : decode cX2_whoHinders 6 = .ok (.invokevirtual 45, 3) := by decide +kernel
theorem dX2_whoHinders_9 : decode cX2_whoHinders 9 = .ok (.if_icmp .ge 42, 3) := by decide +kernel
theorem dX2_whoHinders_12 : decode cX2_whoHinders 12 = .ok (.iconst 1, 1) := by decide +kernel
theorem dX2_whoHinders_13 : decode cX2_whoHinders 13 = .ok (.iload_n 3, 1) := by decide +kernel
theorem dX2_whoHinders_14 : decode cX2_whoHinders 14 = .ok (.ishl, 1) := by decide +kernel
theorem dX2_whoHinders_15 : decode cX2_whoHinders 15 = .ok (.istore 4, 2) := by decide +kernel
theorem dX2_whoHinders_17 : decode cX2_whoHinders 17 = .ok (.aload_n 0, 1) := by decide +kernel
theorem dX2_whoHinders_18 : decode cX2_whoHinders 18 = .ok (.aload_n 1, 1) := by decide +kernel
theorem dX2_whoHinders_19 : decode cX2_whoHinders 19 = .ok (.iload 4, 2) := by decide +kernel
theorem dX2_whoHinders_21 : decode cX2_whoHinders 21 = .ok (.iload 4, 2) := by decide +kernel
theorem dX2_whoHinders_23 : decode cX2_whoHinders 23 = .ok (.invokevirtual 48, 3) := by decide +kernel
theorem dX2_whoHinders_26 : decode cX2_whoHinders 26 = .ok (.ifCond .ne 14, 3) := by decide +kernel
theorem dX2_whoHinders_29 : decode cX2_whoHinders 29 = .ok (.aload_n 0, 1) := by decide +kernel
theorem dX2_whoHinders_30 : decode cX2_whoHinders 30 = .ok (.aload_n 1, 1) := by decide +kernel
theorem dX2_whoHinders_31 : decode cX2_whoHinders 31 = .ok (.iload 4, 2) := by decide +kernel
theorem dX2_whoHinders_33 : decode cX2_whoHinders 33 = .ok (.iconst 0, 1) := by decide +kernel
theorem dX2_whoHinders_34 : decode cX2_whoHinders 34 = .ok (.invokevirtual 48, 3) := by decide +kernel
theorem dX2_whoHinders_37 : decode cX2_whoHinders 37 = .ok (.ifCond .eq 8, 3) := by decide +kernel
theorem dX2_whoHinders_40 : decode cX2_whoHinders 40 = .ok (.iload_n 2, 1) := by decide +kernel
theorem dX2_whoHinders_41 : decode cX2_whoHinders 41 = .ok (.iload 4, 2) := by decide +kernel
theorem dX2_whoHinders_43 : decode cX2_whoHinders 43 = .ok (.ior, 1) := by decide +kernel
theorem dX2_whoHinders_44 : decode cX2_whoHinders 44 = .ok (.istore_n 2, 1) := by decide +kernel
theorem dX2_whoHinders_45 : decode cX2_whoHinders 45 = .ok (.iinc 3 1, 3) := by decide +kernel
theorem dX2_whoHinders_48 : decode cX2_whoHinders 48 = .ok (.goto (-44), 3) := by decide +kernel
theorem dX2_whoHinders_51 : decode cX2_whoHinders 51 = .ok (.iload_n 2, 1) := by decide +kernel
theorem dX2_whoHinders_52 : decode cX2_whoHinders 52 = .ok (.ireturn, 1) := by decide +kernel
theorem dX2_whoCouldStop_0 : decode cX2_whoCouldStop 0 = .ok (.iconst 0, 1) := by decide +kernel
theorem dX2_whoCouldStop_1 : decode cX2_whoCouldStop 1 = .ok (.istore_n 2, 1) := by decide +kernel
theorem dX2_whoCouldStop_2 : decode cX2_whoCouldStop 2 = .ok (.iconst 0, 1) := by decide +kernel
theorem dX2_whoCouldStop_3 : decode cX2_whoCouldStop 3 = .ok (.istore_n 3, 1) := by decide +kernel
theorem dX2_whoCouldStop_4 : decode cX2_whoCouldStop 4 = .ok (.iload_n 3, 1) := by decide +kernel
theorem dX2_whoCouldStop_5 : decode cX2_whoCouldStop 5 = .ok (.aload_n 1, 1) := by decide +kernel
theorem dX2_whoCouldStop_6 : decode cX2_whoCouldStop 6 = .ok (.invokevirtual 45, 3) := by decide +kernel
theorem dX2_whoCouldStop_9 : decode cX2_whoCouldStop 9 = .ok (.if_icmp .ge 42, 3) := by decide +kernel
theorem dX2_whoCouldStop_12 : decode cX2_whoCouldStop 12 = .ok (.iconst 1, 1) := by decide +kernel
theorem dX2_whoCouldStop_13 : decode cX2_whoCouldStop 13 = .ok (.iload_n 3, 1) := by decide +kernel
theorem dX2_whoCouldStop_14 : decode cX2_whoCouldStop 14 = .ok (.ishl, 1) := by decide +kernel
theorem dX2_whoCouldStop_15 : decode cX2_whoCouldStop 15 = .ok (.istore 4, 2) := by decide +kernel
theorem dX2_whoCouldStop_17 : decode cX2_whoCouldStop 17 = .ok (.aload_n 0, 1) := by decide +kernel
theorem dX2_whoCouldStop_18 : decode cX2_whoCouldStop 18 = .ok (.aload_n 1, 1) := by decide +kernel
theorem dX2_whoCouldStop_19 : decode cX2_whoCouldStop 19 = .ok (.iload 4, 2) := by decide +kernel
theorem dX2_whoCouldStop_21 : decode cX2_whoCouldStop 21 = .ok (.iload 4, 2) := by decide +kernel
theorem dX2_whoCouldStop_23 : decode cX2_whoCouldStop 23 = .ok (.invokevirtual 48, 3) := by decide +kernel
theorem dX2_whoCouldStop_26 : decode cX2_whoCouldStop 26 = .ok (.ifCond .eq 14, 3) := by decide +kernel
theorem dX2_whoCouldStop_29 : decode cX2_whoCouldStop 29 = .ok (.aload_n 0, 1) := by decide +kernel
theorem dX2_whoCouldStop_30 : decode cX2_whoCouldStop 30 = .ok (.aload_n 1, 1) := by decide +kernel
theorem dX2_whoCouldStop_31 : decode cX2_whoCouldStop 31 = .ok (.iload 4, 2) := by decide +kernel
theorem dX2_whoCouldStop_33 : decode cX2_whoCouldStop 33 = .ok (.iconst 0, 1) := by decide +kernel
theorem dX2_whoCouldStop_34 : decode cX2_whoCouldStop 34 = .ok (.invokevirtual 48, 3) := by decide +kernel
theorem dX2_whoCouldStop_37 : decode cX2_whoCouldStop 37 = .ok (.ifCond .ne 8, 3) := by decide +kernel
theorem dX2_whoCouldStop_40 : decode cX2_whoCouldStop 40 = .ok (.iload_n 2, 1) := by decide +kernel
theorem dX2_whoCouldStop_41 : decode cX2_whoCouldStop 41 = .ok (.iload 4, 2) := by decide +kernel
theorem dX2_whoCouldStop_43 : decode cX2_whoCouldStop 43 = .ok (.ior, 1) := by decide +kernel
theorem dX2_whoCouldStop_44 : decode cX2_whoCouldStop 44 = .ok (.istore_n 2, 1) := by decide +kernel
theorem dX2_whoCouldStop_45 : decode cX2_whoCouldStop 45 = .ok (.iinc 3 1, 3) := by decide +kernel
theorem dX2_whoCouldStop_48 : decode cX2_whoCouldStop 48 = .ok (.goto (-44), 3) := by decide +kernel
theorem dX2_whoCouldStop_51 : decode cX2_whoCouldStop 51 = .ok (.iload_n 2, 1) := by decide +kernel
theorem dX2_whoCouldStop_52 : decode cX2_whoCouldStop 52 = .ok (.ireturn, 1) := by decide +kernel
theorem dX2_howManyBring_0 : decode cX2_howManyBring 0 = .ok (.iconst 0, 1) := by decide +kernel
theorem dX2_howManyBring_1 : decode cX2_howManyBring 1 = .ok (.istore_n 3, 1) := by decide +kernel
theorem dX2_howManyBring_2 : decode cX2_howManyBring 2 = .ok (.iconst 0, 1) := by decide +kernel
theorem dX2_howManyBring_3 : decode cX2_howManyBring 3 = .ok (.istore 4, 2) := by decide +kernel
theorem dX2_howManyBring_5 : decode cX2_howManyBring 5 = .ok (.iload 4, 2) := by decide +kernel
theorem dX2_howManyBring_7 : decode cX2_howManyBring 7 = .ok (.aload_n 1, 1) := by decide +kernel
theorem dX2_howManyBring_8 : decode cX2_howManyBring 8 = .ok (.invokevirtual 24, 3) := by decide +kernel
theorem dX2_howManyBring_11 : decode cX2_howManyBring 11 = .ok (.if_icmp .ge 22, 3) := by decide +kernel
theorem dX2_howManyBring_14 : decode cX2_howManyBring 14 = .ok (.aload_n 1, 1) := by decide +kernel
theorem dX2_howManyBring_15 : decode cX2_howManyBring 15 = .ok (.iload 4, 2) := by decide +kernel
theorem dX2_howManyBring_17 : decode cX2_howManyBring 17 = .ok (.invokevirtual 52, 3) := by decide +kernel
theorem dX2_howManyBring_20 : decode cX2_howManyBring 20 = .ok (.iload_n 2, 1) := by decide +kernel
theorem dX2_howManyBring_21 : decode cX2_howManyBring 21 = .ok (.if_icmp .ne 6, 3) := by decide +kernel
theorem dX2_howManyBring_24 : decode cX2_howManyBring 24 = .ok (.iinc 3 1, 3) := by decide +kernel
theorem dX2_howManyBring_27 : decode cX2_howManyBring 27 = .ok (.iinc 4 1, 3) := by decide +kernel
theorem dX2_howManyBring_30 : decode cX2_howManyBring 30 = .ok (.goto (-25), 3) := by decide +kernel
theorem dX2_howManyBring_33 : decode cX2_howManyBring 33 = .ok (.iload_n 3, 1) := by decide +kernel
theorem dX2_howManyBring_34 : decode cX2_howManyBring 34 = .ok (.ireturn, 1) := by decide +kernel
theorem dX2_leastThatBrings_0 : decode cX2_leastThatBrings 0 = .ok (.iconst 0, 1) := by decide +kernel
theorem dX2_leastThatBrings_1 : decode cX2_leastThatBrings 1 = .ok (.istore_n 3, 1) := by decide +kernel
theorem dX2_leastThatBrings_2 : decode cX2_leastThatBrings 2 = .ok (.iload_n 3, 1) := by decide +kernel
theorem dX2_leastThatBrings_3 : decode cX2_leastThatBrings 3 = .ok (.aload_n 1, 1) := by decide +kernel
theorem dX2_leastThatBrings_4 : decode cX2_leastThatBrings 4 = .ok (.invokevirtual 24, 3) := by decide +kernel
theorem dX2_leastThatBrings_7 : decode cX2_leastThatBrings 7 = .ok (.if_icmp .ge 20, 3) := by decide +kernel
theorem dX2_leastThatBrings_10 : decode cX2_leastThatBrings 10 = .ok (.aload_n 1, 1) := by decide +kernel
theorem dX2_leastThatBrings_11 : decode cX2_leastThatBrings 11 = .ok (.iload_n 3, 1) := by decide +kernel
theorem dX2_leastThatBrings_12 : decode cX2_leastThatBrings 12 = .ok (.invokevirtual 52, 3) := by decide +kernel
theorem dX2_leastThatBrings_15 : decode cX2_leastThatBrings 15 = .ok (.iload_n 2, 1) := by decide +kernel
theorem dX2_leastThatBrings_16 : decode cX2_leastThatBrings 16 = .ok (.if_icmp .ne 5, 3) := by decide +kernel
theorem dX2_leastThatBrings_19 : decode cX2_leastThatBrings 19 = .ok (.iload_n 3, 1) := by decide +kernel
theorem dX2_leastThatBrings_20 : decode cX2_leastThatBrings 20 = .ok (.ireturn, 1) := by decide +kernel
theorem dX2_leastThatBrings_21 : decode cX2_leastThatBrings 21 = .ok (.iinc 3 1, 3) := by decide +kernel
theorem dX2_leastThatBrings_24 : decode cX2_leastThatBrings 24 = .ok (.goto (-22), 3) := by decide +kernel
theorem dX2_leastThatBrings_27 : decode cX2_leastThatBrings 27 = .ok (.ldc 34, 2) := by decide +kernel
theorem dX2_leastThatBrings_29 : decode cX2_leastThatBrings 29 = .ok (.ireturn, 1) := by decide +kernel
theorem dX2_howManyReadBy_0 : decode cX2_howManyReadBy 0 = .ok (.aload_n 1, 1) := by decide +kernel
theorem dX2_howManyReadBy_1 : decode cX2_howManyReadBy 1 = .ok (.invokevirtual 55, 3) := by decide +kernel
theorem dX2_howManyReadBy_4 : decode cX2_howManyReadBy 4 = .ok (.iload_n 2, 1) := by decide +kernel
theorem dX2_howManyReadBy_5 : decode cX2_howManyReadBy 5 = .ok (.iconst (-1), 1) := by decide +kernel
theorem dX2_howManyReadBy_6 : decode cX2_howManyReadBy 6 = .ok (.ixor, 1) := by decide +kernel
theorem dX2_howManyReadBy_7 : decode cX2_howManyReadBy 7 = .ok (.iand, 1) := by decide +kernel
theorem dX2_howManyReadBy_8 : decode cX2_howManyReadBy 8 = .ok (.istore_n 3, 1) := by decide +kernel
theorem dX2_howManyReadBy_9 : decode cX2_howManyReadBy 9 = .ok (.iconst 0, 1) := by decide +kernel
theorem dX2_howManyReadBy_10 : decode cX2_howManyReadBy 10 = .ok (.istore 4, 2) := by decide +kernel
theorem dX2_howManyReadBy_12 : decode cX2_howManyReadBy 12 = .ok (.iconst 0, 1) := by decide +kernel
theorem dX2_howManyReadBy_13 : decode cX2_howManyReadBy 13 = .ok (.istore 5, 2) := by decide +kernel
theorem dX2_howManyReadBy_15 : decode cX2_howManyReadBy 15 = .ok (.iload 5, 2) := by decide +kernel
theorem dX2_howManyReadBy_17 : decode cX2_howManyReadBy 17 = .ok (.aload_n 1, 1) := by decide +kernel
theorem dX2_howManyReadBy_18 : decode cX2_howManyReadBy 18 = .ok (.invokevirtual 24, 3) := by decide +kernel
theorem dX2_howManyReadBy_21 : decode cX2_howManyReadBy 21 = .ok (.if_icmp .ge 27, 3) := by decide +kernel
theorem dX2_howManyReadBy_24 : decode cX2_howManyReadBy 24 = .ok (.aload_n 1, 1) := by decide +kernel
theorem dX2_howManyReadBy_25 : decode cX2_howManyReadBy 25 = .ok (.iload 5, 2) := by decide +kernel
theorem dX2_howManyReadBy_27 : decode cX2_howManyReadBy 27 = .ok (.invokevirtual 52, 3) := by decide +kernel
theorem dX2_howManyReadBy_30 : decode cX2_howManyReadBy 30 = .ok (.iload_n 2, 1) := by decide +kernel
theorem dX2_howManyReadBy_31 : decode cX2_howManyReadBy 31 = .ok (.iand, 1) := by decide +kernel
theorem dX2_howManyReadBy_32 : decode cX2_howManyReadBy 32 = .ok (.iload_n 3, 1) := by decide +kernel
theorem dX2_howManyReadBy_33 : decode cX2_howManyReadBy 33 = .ok (.ior, 1) := by decide +kernel
theorem dX2_howManyReadBy_34 : decode cX2_howManyReadBy 34 = .ok (.iload 5, 2) := by decide +kernel
theorem dX2_howManyReadBy_36 : decode cX2_howManyReadBy 36 = .ok (.if_icmp .ne 6, 3) := by decide +kernel
theorem dX2_howManyReadBy_39 : decode cX2_howManyReadBy 39 = .ok (.iinc 4 1, 3) := by decide +kernel
theorem dX2_howManyReadBy_42 : decode cX2_howManyReadBy 42 = .ok (.iinc 5 1, 3) := by decide +kernel
theorem dX2_howManyReadBy_45 : decode cX2_howManyReadBy 45 = .ok (.goto (-30), 3) := by decide +kernel
theorem dX2_howManyReadBy_48 : decode cX2_howManyReadBy 48 = .ok (.iload 4, 2) := by decide +kernel
theorem dX2_howManyReadBy_50 : decode cX2_howManyReadBy 50 = .ok (.ireturn, 1) := by decide +kernel
theorem dX2_leastReadBy_0 : decode cX2_leastReadBy 0 = .ok (.aload_n 0, 1) := by decide +kernel
theorem dX2_leastReadBy_1 : decode cX2_leastReadBy 1 = .ok (.aload_n 1, 1) := by decide +kernel
theorem dX2_leastReadBy_2 : decode cX2_leastReadBy 2 = .ok (.iload_n 2, 1) := by decide +kernel
theorem dX2_leastReadBy_3 : decode cX2_leastReadBy 3 = .ok (.aload_n 1, 1) := by decide +kernel
theorem dX2_leastReadBy_4 : decode cX2_leastReadBy 4 = .ok (.invokevirtual 55, 3) := by decide +kernel
theorem dX2_leastReadBy_7 : decode cX2_leastReadBy 7 = .ok (.iload_n 2, 1) := by decide +kernel
theorem dX2_leastReadBy_8 : decode cX2_leastReadBy 8 = .ok (.iconst (-1), 1) := by decide +kernel
theorem dX2_leastReadBy_9 : decode cX2_leastReadBy 9 = .ok (.ixor, 1) := by decide +kernel
theorem dX2_leastReadBy_10 : decode cX2_leastReadBy 10 = .ok (.iand, 1) := by decide +kernel
theorem dX2_leastReadBy_11 : decode cX2_leastReadBy 11 = .ok (.invokevirtual 58, 3) := by decide +kernel
theorem dX2_leastReadBy_14 : decode cX2_leastReadBy 14 = .ok (.ireturn, 1) := by decide +kernel
theorem dX2_countChains_0 : decode cX2_countChains 0 = .ok (.iload_n 2, 1) := by decide +kernel
theorem dX2_countChains_1 : decode cX2_countChains 1 = .ok (.iconst 1, 1) := by decide +kernel
theorem dX2_countChains_2 : decode cX2_countChains 2 = .ok (.if_icmp .lt 12, 3) := by decide +kernel
theorem dX2_countChains_5 : decode cX2_countChains 5 = .ok (.iload_n 2, 1) := by decide +kernel
theorem dX2_countChains_6 : decode cX2_countChains 6 = .ok (.aload_n 0, 1) := by decide +kernel
theorem dX2_countChains_7 : decode cX2_countChains 7 = .ok (.getfield 11, 3) := by decide +kernel
theorem dX2_countChains_10 : decode cX2_countChains 10 = .ok (.arraylength, 1) := by decide +kernel
theorem dX2_countChains_11 : decode cX2_countChains 11 = .ok (.if_icmp .lt 5, 3) := by decide +kernel
theorem dX2_countChains_14 : decode cX2_countChains 14 = .ok (.iconst 0, 1) := by decide +kernel
theorem dX2_countChains_15 : decode cX2_countChains 15 = .ok (.ireturn, 1) := by decide +kernel
theorem dX2_countChains_16 : decode cX2_countChains 16 = .ok (.aload_n 0, 1) := by decide +kernel
theorem dX2_countChains_17 : decode cX2_countChains 17 = .ok (.getfield 11, 3) := by decide +kernel
theorem dX2_countChains_20 : decode cX2_countChains 20 = .ok (.iconst 0, 1) := by decide +kernel
theorem dX2_countChains_21 : decode cX2_countChains 21 = .ok (.aaload, 1) := by decide +kernel
theorem dX2_countChains_22 : decode cX2_countChains 22 = .ok (.iconst 1, 1) := by decide +kernel
theorem dX2_countChains_23 : decode cX2_countChains 23 = .ok (.invokestatic 62, 3) := by decide +kernel
theorem dX2_countChains_26 : decode cX2_countChains 26 = .ok (.iconst 1, 1) := by decide +kernel
theorem dX2_countChains_27 : decode cX2_countChains 27 = .ok (.istore_n 3, 1) := by decide +kernel
theorem dX2_countChains_28 : decode cX2_countChains 28 = .ok (.iload_n 3, 1) := by decide +kernel
theorem dX2_countChains_29 : decode cX2_countChains 29 = .ok (.iload_n 2, 1) := by decide +kernel
theorem dX2_countChains_30 : decode cX2_countChains 30 = .ok (.if_icmp .gt 79, 3) := by decide +kernel
theorem dX2_countChains_33 : decode cX2_countChains 33 = .ok (.aload_n 0, 1) := by decide +kernel
theorem dX2_countChains_34 : decode cX2_countChains 34 = .ok (.getfield 11, 3) := by decide +kernel
theorem dX2_countChains_37 : decode cX2_countChains 37 = .ok (.iload_n 3, 1) := by decide +kernel
theorem dX2_countChains_38 : decode cX2_countChains 38 = .ok (.aaload, 1) := by decide +kernel
theorem dX2_countChains_39 : decode cX2_countChains 39 = .ok (.iconst 0, 1) := by decide +kernel
theorem dX2_countChains_40 : decode cX2_countChains 40 = .ok (.invokestatic 62, 3) := by decide +kernel
theorem dX2_countChains_43 : decode cX2_countChains 43 = .ok (.iconst 0, 1) := by decide +kernel
theorem dX2_countChains_44 : decode cX2_countChains 44 = .ok (.istore 4, 2) := by decide +kernel
theorem dX2_countChains_46 : decode cX2_countChains 46 = .ok (.iload 4, 2) := by decide +kernel
theorem dX2_countChains_48 : decode cX2_countChains 48 = .ok (.aload_n 1, 1) := by decide +kernel
theorem dX2_countChains_49 : decode cX2_countChains 49 = .ok (.invokevirtual 24, 3) := by decide +kernel
theorem dX2_countChains_52 : decode cX2_countChains 52 = .ok (.if_icmp .ge 51, 3) := by decide +kernel
theorem dX2_countChains_55 : decode cX2_countChains 55 = .ok (.aload_n 1, 1) := by decide +kernel
theorem dX2_countChains_56 : decode cX2_countChains 56 = .ok (.iload 4, 2) := by decide +kernel
theorem dX2_countChains_58 : decode cX2_countChains 58 = .ok (.invokevirtual 68, 3) := by decide +kernel
theorem dX2_countChains_61 : decode cX2_countChains 61 = .ok (.istore 5, 2) := by decide +kernel
theorem dX2_countChains_63 : decode cX2_countChains 63 = .ok (.iload 5, 2) := by decide +kernel
theorem dX2_countChains_65 : decode cX2_countChains 65 = .ok (.ifCond .lt 32, 3) := by decide +kernel
theorem dX2_countChains_68 : decode cX2_countChains 68 = .ok (.iload 5, 2) := by decide +kernel
theorem dX2_countChains_70 : decode cX2_countChains 70 = .ok (.bipush 64, 2) := by decide +kernel
theorem dX2_countChains_72 : decode cX2_countChains 72 = .ok (.if_icmp .ge 25, 3) := by decide +kernel
theorem dX2_countChains_75 : decode cX2_countChains 75 = .ok (.aload_n 0, 1) := by decide +kernel
theorem dX2_countChains_76 : decode cX2_countChains 76 = .ok (.getfield 11, 3) := by decide +kernel
theorem dX2_countChains_79 : decode cX2_countChains 79 = .ok (.iload_n 3, 1) := by decide +kernel
theorem dX2_countChains_80 : decode cX2_countChains 80 = .ok (.aaload, 1) := by decide +kernel
theorem dX2_countChains_81 : decode cX2_countChains 81 = .ok (.iload 5, 2) := by decide +kernel
theorem dX2_countChains_83 : decode cX2_countChains 83 = .ok (.dup2, 1) := by decide +kernel
theorem dX2_countChains_84 : decode cX2_countChains 84 = .ok (.iaload, 1) := by decide +kernel
theorem dX2_countChains_85 : decode cX2_countChains 85 = .ok (.aload_n 0, 1) := by decide +kernel
theorem dX2_countChains_86 : decode cX2_countChains 86 = .ok (.aload_n 1, 1) := by decide +kernel
theorem dX2_countChains_87 : decode cX2_countChains 87 = .ok (.iload_n 3, 1) := by decide +kernel
theorem dX2_countChains_88 : decode cX2_countChains 88 = .ok (.iconst 1, 1) := by decide +kernel
theorem dX2_countChains_89 : decode cX2_countChains 89 = .ok (.isub, 1) := by decide +kernel
theorem dX2_countChains_90 : decode cX2_countChains 90 = .ok (.iload 4, 2) := by decide +kernel
theorem dX2_countChains_92 : decode cX2_countChains 92 = .ok (.invokevirtual 71, 3) := by decide +kernel
theorem dX2_countChains_95 : decode cX2_countChains 95 = .ok (.iadd, 1) := by decide +kernel
theorem dX2_countChains_96 : decode cX2_countChains 96 = .ok (.iastore, 1) := by decide +kernel
theorem dX2_countChains_97 : decode cX2_countChains 97 = .ok (.iinc 4 1, 3) := by decide +kernel
theorem dX2_countChains_100 : decode cX2_countChains 100 = .ok (.goto (-54), 3) := by decide +kernel
theorem dX2_countChains_103 : decode cX2_countChains 103 = .ok (.iinc 3 1, 3) := by decide +kernel
theorem dX2_countChains_106 : decode cX2_countChains 106 = .ok (.goto (-78), 3) := by decide +kernel
theorem dX2_countChains_109 : decode cX2_countChains 109 = .ok (.aload_n 0, 1) := by decide +kernel
theorem dX2_countChains_110 : decode cX2_countChains 110 = .ok (.aload_n 1, 1) := by decide +kernel
theorem dX2_countChains_111 : decode cX2_countChains 111 = .ok (.iload_n 2, 1) := by decide +kernel
theorem dX2_countChains_112 : decode cX2_countChains 112 = .ok (.aload_n 1, 1) := by decide +kernel
theorem dX2_countChains_113 : decode cX2_countChains 113 = .ok (.invokevirtual 55, 3) := by decide +kernel
theorem dX2_countChains_116 : decode cX2_countChains 116 = .ok (.invokevirtual 71, 3) := by decide +kernel
theorem dX2_countChains_119 : decode cX2_countChains 119 = .ok (.ireturn, 1) := by decide +kernel
theorem dX2_letterOfFirstChain_0 : decode cX2_letterOfFirstChain 0 = .ok (.aload_n 1, 1) := by decide +kernel
theorem dX2_letterOfFirstChain_1 : decode cX2_letterOfFirstChain 1 = .ok (.invokevirtual 55, 3) := by decide +kernel
theorem dX2_letterOfFirstChain_4 : decode cX2_letterOfFirstChain 4 = .ok (.istore 4, 2) := by decide +kernel
theorem dX2_letterOfFirstChain_6 : decode cX2_letterOfFirstChain 6 = .ok (.iload_n 2, 1) := by decide +kernel
theorem dX2_letterOfFirstChain_7 : decode cX2_letterOfFirstChain 7 = .ok (.iconst 1, 1) := by decide +kernel
theorem dX2_letterOfFirstChain_8 : decode cX2_letterOfFirstChain 8 = .ok (.isub, 1) := by decide +kernel
theorem dX2_letterOfFirstChain_9 : decode cX2_letterOfFirstChain 9 = .ok (.istore 5, 2) := by decide +kernel
theorem dX2_letterOfFirstChain_11 : decode cX2_letterOfFirstChain 11 = .ok (.iload 5, 2) := by decide +kernel
theorem dX2_letterOfFirstChain_13 : decode cX2_letterOfFirstChain 13 = .ok (.iload_n 2, 1) := by decide +kernel
theorem dX2_letterOfFirstChain_14 : decode cX2_letterOfFirstChain 14 = .ok (.iconst 1, 1) := by decide +kernel
theorem dX2_letterOfFirstChain_15 : decode cX2_letterOfFirstChain 15 = .ok (.isub, 1) := by decide +kernel
theorem dX2_letterOfFirstChain_16 : decode cX2_letterOfFirstChain 16 = .ok (.iload_n 3, 1) := by decide +kernel
theorem dX2_letterOfFirstChain_17 : decode cX2_letterOfFirstChain 17 = .ok (.isub, 1) := by decide +kernel
theorem dX2_letterOfFirstChain_18 : decode cX2_letterOfFirstChain 18 = .ok (.if_icmp .lt 35, 3) := by decide +kernel
theorem dX2_letterOfFirstChain_21 : decode cX2_letterOfFirstChain 21 = .ok (.iload 5, 2) := by decide +kernel
theorem dX2_letterOfFirstChain_23 : decode cX2_letterOfFirstChain 23 = .ok (.ifCond .lt 30, 3) := by decide +kernel
theorem dX2_letterOfFirstChain_26 : decode cX2_letterOfFirstChain 26 = .ok (.aload_n 0, 1) := by decide +kernel
theorem dX2_letterOfFirstChain_27 : decode cX2_letterOfFirstChain 27 = .ok (.aload_n 1, 1) := by decide +kernel
theorem dX2_letterOfFirstChain_28 : decode cX2_letterOfFirstChain 28 = .ok (.iload 4, 2) := by decide +kernel
theorem dX2_letterOfFirstChain_30 : decode cX2_letterOfFirstChain 30 = .ok (.iload 5, 2) := by decide +kernel
theorem dX2_letterOfFirstChain_32 : decode cX2_letterOfFirstChain 32 = .ok (.invokevirtual 74, 3) := by decide +kernel
theorem dX2_letterOfFirstChain_35 : decode cX2_letterOfFirstChain 35 = .ok (.istore 4, 2) := by decide +kernel
theorem dX2_letterOfFirstChain_37 : decode cX2_letterOfFirstChain 37 = .ok (.iload 4, 2) := by decide +kernel
theorem dX2_letterOfFirstChain_39 : decode cX2_letterOfFirstChain 39 = .ok (.ldc 34, 2) := by decide +kernel
theorem dX2_letterOfFirstChain_41 : decode cX2_letterOfFirstChain 41 = .ok (.if_icmp .ne 6, 3) := by decide +kernel
theorem dX2_letterOfFirstChain_44 : decode cX2_letterOfFirstChain 44 = .ok (.ldc 34, 2) := by decide +kernel
theorem dX2_letterOfFirstChain_46 : decode cX2_letterOfFirstChain 46 = .ok (.ireturn, 1) := by decide +kernel
theorem dX2_letterOfFirstChain_47 : decode cX2_letterOfFirstChain 47 = .ok (.iinc 5 (-1), 3) := by decide +kernel
theorem dX2_letterOfFirstChain_50 : decode cX2_letterOfFirstChain 50 = .ok (.goto (-39), 3) := by decide +kernel
theorem dX2_letterOfFirstChain_53 : decode cX2_letterOfFirstChain 53 = .ok (.iload 4, 2) := by decide +kernel
theorem dX2_letterOfFirstChain_55 : decode cX2_letterOfFirstChain 55 = .ok (.ireturn, 1) := by decide +kernel
theorem dX2_everybody_0 : decode cX2_everybody 0 = .ok (.aload_n 1, 1) := by decide +kernel
theorem dX2_everybody_1 : decode cX2_everybody 1 = .ok (.invokevirtual 24, 3) := by decide +kernel
theorem dX2_everybody_4 : decode cX2_everybody 4 = .ok (.iconst 1, 1) := by decide +kernel
theorem dX2_everybody_5 : decode cX2_everybody 5 = .ok (.isub, 1) := by decide +kernel
theorem dX2_everybody_6 : decode cX2_everybody 6 = .ok (.ireturn, 1) := by decide +kernel
theorem dX2_leastThatGoesOn_0 : decode cX2_leastThatGoesOn 0 = .ok (.iconst 0, 1) := by decide +kernel
theorem dX2_leastThatGoesOn_1 : decode cX2_leastThatGoesOn 1 = .ok (.istore 4, 2) := by decide +kernel
theorem dX2_leastThatGoesOn_3 : decode cX2_leastThatGoesOn 3 = .ok (.iload 4, 2) := by decide +kernel
theorem dX2_leastThatGoesOn_5 : decode cX2_leastThatGoesOn 5 = .ok (.aload_n 1, 1) := by decide +kernel
theorem dX2_leastThatGoesOn_6 : decode cX2_leastThatGoesOn 6 = .ok (.invokevirtual 24, 3) := by decide +kernel
theorem dX2_leastThatGoesOn_9 : decode cX2_leastThatGoesOn 9 = .ok (.if_icmp .ge 33, 3) := by decide +kernel
theorem dX2_leastThatGoesOn_12 : decode cX2_leastThatGoesOn 12 = .ok (.aload_n 1, 1) := by decide +kernel
theorem dX2_leastThatGoesOn_13 : decode cX2_leastThatGoesOn 13 = .ok (.iload 4, 2) := by decide +kernel
theorem dX2_leastThatGoesOn_15 : decode cX2_leastThatGoesOn 15 = .ok (.iload_n 2, 1) := by decide +kernel
theorem dX2_leastThatGoesOn_16 : decode cX2_leastThatGoesOn 16 = .ok (.invokevirtual 77, 3) := by decide +kernel
theorem dX2_leastThatGoesOn_19 : decode cX2_leastThatGoesOn 19 = .ok (.ifCond .eq 17, 3) := by decide +kernel
theorem dX2_leastThatGoesOn_22 : decode cX2_leastThatGoesOn 22 = .ok (.aload_n 0, 1) := by decide +kernel
theorem dX2_leastThatGoesOn_23 : decode cX2_leastThatGoesOn 23 = .ok (.aload_n 1, 1) := by decide +kernel
theorem dX2_leastThatGoesOn_24 : decode cX2_leastThatGoesOn 24 = .ok (.iload_n 3, 1) := by decide +kernel
theorem dX2_leastThatGoesOn_25 : decode cX2_leastThatGoesOn 25 = .ok (.iload 4, 2) := by decide +kernel
theorem dX2_leastThatGoesOn_27 : decode cX2_leastThatGoesOn 27 = .ok (.invokevirtual 71, 3) := by decide +kernel
theorem dX2_leastThatGoesOn_30 : decode cX2_leastThatGoesOn 30 = .ok (.ifCond .le 6, 3) := by decide +kernel
theorem dX2_leastThatGoesOn_33 : decode cX2_leastThatGoesOn 33 = .ok (.iload 4, 2) := by decide +kernel
theorem dX2_leastThatGoesOn_35 : decode cX2_leastThatGoesOn 35 = .ok (.ireturn, 1) := by decide +kernel
theorem dX2_leastThatGoesOn_36 : decode cX2_leastThatGoesOn 36 = .ok (.iinc 4 1, 3) := by decide +kernel
theorem dX2_leastThatGoesOn_39 : decode cX2_leastThatGoesOn 39 = .ok (.goto (-36), 3) := by decide +kernel
theorem dX2_leastThatGoesOn_42 : decode cX2_leastThatGoesOn 42 = .ok (.ldc 34, 2) := by decide +kernel
theorem dX2_leastThatGoesOn_44 : decode cX2_leastThatGoesOn 44 = .ok (.ireturn, 1) := by decide +kernel
theorem dX2_waysAfter_0 : decode cX2_waysAfter 0 = .ok (.aload_n 1, 1) := by decide +kernel
theorem dX2_waysAfter_1 : decode cX2_waysAfter 1 = .ok (.iload_n 3, 1) := by decide +kernel
theorem dX2_waysAfter_2 : decode cX2_waysAfter 2 = .ok (.invokevirtual 81, 3) := by decide +kernel
theorem dX2_waysAfter_5 : decode cX2_waysAfter 5 = .ok (.istore 4, 2) := by decide +kernel
theorem dX2_waysAfter_7 : decode cX2_waysAfter 7 = .ok (.iload_n 2, 1) := by decide +kernel
theorem dX2_waysAfter_8 : decode cX2_waysAfter 8 = .ok (.ifCond .lt 24, 3) := by decide +kernel
theorem dX2_waysAfter_11 : decode cX2_waysAfter 11 = .ok (.iload_n 2, 1) := by decide +kernel
theorem dX2_waysAfter_12 : decode cX2_waysAfter 12 = .ok (.aload_n 0, 1) := by decide +kernel
theorem dX2_waysAfter_13 : decode cX2_waysAfter 13 = .ok (.getfield 11, 3) := by decide +kernel
theorem dX2_waysAfter_16 : decode cX2_waysAfter 16 = .ok (.arraylength, 1) := by decide +kernel
theorem dX2_waysAfter_17 : decode cX2_waysAfter 17 = .ok (.if_icmp .ge 15, 3) := by decide +kernel
theorem dX2_waysAfter_20 : decode cX2_waysAfter 20 = .ok (.iload 4, 2) := by decide +kernel
theorem dX2_waysAfter_22 : decode cX2_waysAfter 22 = .ok (.ifCond .lt 10, 3) := by decide +kernel
theorem dX2_waysAfter_25 : decode cX2_waysAfter 25 = .ok (.iload 4, 2) := by decide +kernel
theorem dX2_waysAfter_27 : decode cX2_waysAfter 27 = .ok (.bipush 64, 2) := by decide +kernel
theorem dX2_waysAfter_29 : decode cX2_waysAfter 29 = .ok (.if_icmp .lt 5, 3) := by decide +kernel
theorem dX2_waysAfter_32 : decode cX2_waysAfter 32 = .ok (.iconst 0, 1) := by decide +kernel
theorem dX2_waysAfter_33 : decode cX2_waysAfter 33 = .ok (.ireturn, 1) := by decide +kernel
theorem dX2_waysAfter_34 : decode cX2_waysAfter 34 = .ok (.aload_n 0, 1) := by decide +kernel
theorem dX2_waysAfter_35 : decode cX2_waysAfter 35 = .ok (.getfield 11, 3) := by decide +kernel
theorem dX2_waysAfter_38 : decode cX2_waysAfter 38 = .ok (.iload_n 2, 1) := by decide +kernel
theorem dX2_waysAfter_39 : decode cX2_waysAfter 39 = .ok (.aaload, 1) := by decide +kernel
theorem dX2_waysAfter_40 : decode cX2_waysAfter 40 = .ok (.iload 4, 2) := by decide +kernel
theorem dX2_waysAfter_42 : decode cX2_waysAfter 42 = .ok (.iaload, 1) := by decide +kernel
theorem dX2_waysAfter_43 : decode cX2_waysAfter 43 = .ok (.ireturn, 1) := by decide +kernel
theorem dX2_someAgrees_0 : decode cX2_someAgrees 0 = .ok (.aload_n 0, 1) := by decide +kernel
theorem dX2_someAgrees_1 : decode cX2_someAgrees 1 = .ok (.aload_n 1, 1) := by decide +kernel
theorem dX2_someAgrees_2 : decode cX2_someAgrees 2 = .ok (.iload_n 2, 1) := by decide +kernel
theorem dX2_someAgrees_3 : decode cX2_someAgrees 3 = .ok (.iconst (-1), 1) := by decide +kernel
theorem dX2_someAgrees_4 : decode cX2_someAgrees 4 = .ok (.ixor, 1) := by decide +kernel
theorem dX2_someAgrees_5 : decode cX2_someAgrees 5 = .ok (.iload_n 3, 1) := by decide +kernel
theorem dX2_someAgrees_6 : decode cX2_someAgrees 6 = .ok (.invokevirtual 58, 3) := by decide +kernel
theorem dX2_someAgrees_9 : decode cX2_someAgrees 9 = .ok (.ldc 34, 2) := by decide +kernel
theorem dX2_someAgrees_11 : decode cX2_someAgrees 11 = .ok (.if_icmp .eq 7, 3) := by decide +kernel
theorem dX2_someAgrees_14 : decode cX2_someAgrees 14 = .ok (.iconst 1, 1) := by decide +kernel
theorem dX2_someAgrees_15 : decode cX2_someAgrees 15 = .ok (.goto 4, 3) := by decide +kernel
theorem dX2_someAgrees_18 : decode cX2_someAgrees 18 = .ok (.iconst 0, 1) := by decide +kernel
theorem dX2_someAgrees_19 : decode cX2_someAgrees 19 = .ok (.ireturn, 1) := by decide +kernel
theorem dX2_leastAgreeing_0 : decode cX2_leastAgreeing 0 = .ok (.iconst 0, 1) := by decide +kernel
theorem dX2_leastAgreeing_1 : decode cX2_leastAgreeing 1 = .ok (.istore 4, 2) := by decide +kernel
theorem dX2_leastAgreeing_3 : decode cX2_leastAgreeing 3 = .ok (.iload 4, 2) := by decide +kernel
theorem dX2_leastAgreeing_5 : decode cX2_leastAgreeing 5 = .ok (.aload_n 1, 1) := by decide +kernel
theorem dX2_leastAgreeing_6 : decode cX2_leastAgreeing 6 = .ok (.invokevirtual 24, 3) := by decide +kernel
theorem dX2_leastAgreeing_9 : decode cX2_leastAgreeing 9 = .ok (.if_icmp .ge 27, 3) := by decide +kernel
theorem dX2_leastAgreeing_12 : decode cX2_leastAgreeing 12 = .ok (.aload_n 1, 1) := by decide +kernel
theorem dX2_leastAgreeing_13 : decode cX2_leastAgreeing 13 = .ok (.iload 4, 2) := by decide +kernel
theorem dX2_leastAgreeing_15 : decode cX2_leastAgreeing 15 = .ok (.invokevirtual 52, 3) := by decide +kernel
theorem dX2_leastAgreeing_18 : decode cX2_leastAgreeing 18 = .ok (.iload_n 2, 1) := by decide +kernel
theorem dX2_leastAgreeing_19 : decode cX2_leastAgreeing 19 = .ok (.iand, 1) := by decide +kernel
theorem dX2_leastAgreeing_20 : decode cX2_leastAgreeing 20 = .ok (.iload_n 3, 1) := by decide +kernel
theorem dX2_leastAgreeing_21 : decode cX2_leastAgreeing 21 = .ok (.ior, 1) := by decide +kernel
theorem dX2_leastAgreeing_22 : decode cX2_leastAgreeing 22 = .ok (.iload 4, 2) := by decide +kernel
theorem dX2_leastAgreeing_24 : decode cX2_leastAgreeing 24 = .ok (.if_icmp .ne 6, 3) := by decide +kernel
theorem dX2_leastAgreeing_27 : decode cX2_leastAgreeing 27 = .ok (.iload 4, 2) := by decide +kernel
theorem dX2_leastAgreeing_29 : decode cX2_leastAgreeing 29 = .ok (.ireturn, 1) := by decide +kernel
theorem dX2_leastAgreeing_30 : decode cX2_leastAgreeing 30 = .ok (.iinc 4 1, 3) := by decide +kernel
theorem dX2_leastAgreeing_33 : decode cX2_leastAgreeing 33 = .ok (.goto (-30), 3) := by decide +kernel
theorem dX2_leastAgreeing_36 : decode cX2_leastAgreeing 36 = .ok (.ldc 34, 2) := by decide +kernel
theorem dX2_leastAgreeing_38 : decode cX2_leastAgreeing 38 = .ok (.ireturn, 1) := by decide +kernel
theorem dX3_init_0 : decode cX3_init 0 = .ok (.aload_n 0, 1) := by decide +kernel
theorem dX3_init_1 : decode cX3_init 1 = .ok (.iload_n 1, 1) := by decide +kernel
theorem dX3_init_2 : decode cX3_init 2 = .ok (.iload_n 2, 1) := by decide +kernel
theorem dX3_init_3 : decode cX3_init 3 = .ok (.iload_n 3, 1) := by decide +kernel
theorem dX3_init_4 : decode cX3_init 4 = .ok (.invokespecial 1, 3) := by decide +kernel
theorem dX3_init_7 : decode cX3_init 7 = .ok (.return_, 1) := by decide +kernel
theorem dX3_ownKind_0 : decode cX3_ownKind 0 = .ok (.iconst 3, 1) := by decide +kernel
theorem dX3_ownKind_1 : decode cX3_ownKind 1 = .ok (.ireturn, 1) := by decide +kernel
theorem dX3_tenths_0 : decode cX3_tenths 0 = .ok (.aload_n 0, 1) := by decide +kernel
theorem dX3_tenths_1 : decode cX3_tenths 1 = .ok (.iload_n 1, 1) := by decide +kernel
theorem dX3_tenths_2 : decode cX3_tenths 2 = .ok (.iload_n 2, 1) := by decide +kernel
theorem dX3_tenths_3 : decode cX3_tenths 3 = .ok (.invokevirtual 7, 3) := by decide +kernel
theorem dX3_tenths_6 : decode cX3_tenths 6 = .ok (.iload_n 3, 1) := by decide +kernel
theorem dX3_tenths_7 : decode cX3_tenths 7 = .ok (.if_icmp .ne 13, 3) := by decide +kernel
theorem dX3_tenths_10 : decode cX3_tenths 10 = .ok (.bipush 10, 2) := by decide +kernel
theorem dX3_tenths_12 : decode cX3_tenths 12 = .ok (.aload_n 0, 1) := by decide +kernel
theorem dX3_tenths_13 : decode cX3_tenths 13 = .ok (.getfield 15, 3) := by decide +kernel
theorem dX3_tenths_16 : decode cX3_tenths 16 = .ok (.isub, 1) := by decide +kernel
theorem dX3_tenths_17 : decode cX3_tenths 17 = .ok (.goto 7, 3) := by decide +kernel
theorem dX3_tenths_20 : decode cX3_tenths 20 = .ok (.aload_n 0, 1) := by decide +kernel
theorem dX3_tenths_21 : decode cX3_tenths 21 = .ok (.getfield 15, 3) := by decide +kernel
theorem dX3_tenths_24 : decode cX3_tenths 24 = .ok (.ireturn, 1) := by decide +kernel
theorem dX3_turnsBy_0 : decode cX3_turnsBy 0 = .ok (.lload_n 1, 1) := by decide +kernel
theorem dX3_turnsBy_1 : decode cX3_turnsBy 1 = .ok (.ldc2_w 19, 3) := by decide +kernel
theorem dX3_turnsBy_4 : decode cX3_turnsBy 4 = .ok (.lrem, 1) := by decide +kernel
theorem dX3_turnsBy_5 : decode cX3_turnsBy 5 = .ok (.aload_n 0, 1) := by decide +kernel
theorem dX3_turnsBy_6 : decode cX3_turnsBy 6 = .ok (.getfield 15, 3) := by decide +kernel
theorem dX3_turnsBy_9 : decode cX3_turnsBy 9 = .ok (.i2l, 1) := by decide +kernel
theorem dX3_turnsBy_10 : decode cX3_turnsBy 10 = .ok (.lcmp, 1) := by decide +kernel
theorem dX3_turnsBy_11 : decode cX3_turnsBy 11 = .ok (.ifCond .ge 7, 3) := by decide +kernel
theorem dX3_turnsBy_14 : decode cX3_turnsBy 14 = .ok (.iconst 1, 1) := by decide +kernel
theorem dX3_turnsBy_15 : decode cX3_turnsBy 15 = .ok (.goto 4, 3) := by decide +kernel
theorem dX3_turnsBy_18 : decode cX3_turnsBy 18 = .ok (.iconst 0, 1) := by decide +kernel
theorem dX3_turnsBy_19 : decode cX3_turnsBy 19 = .ok (.ireturn, 1) := by decide +kernel
theorem dX3_mark_0 : decode cX3_mark 0 = .ok (.aload_n 1, 1) := by decide +kernel
theorem dX3_mark_1 : decode cX3_mark 1 = .ok (.bipush 22, 2) := by decide +kernel
theorem dX3_mark_3 : decode cX3_mark 3 = .ok (.invokevirtual 21, 3) := by decide +kernel
theorem dX3_mark_6 : decode cX3_mark 6 = .ok (.aload_n 0, 1) := by decide +kernel
theorem dX3_mark_7 : decode cX3_mark 7 = .ok (.aload_n 1, 1) := by decide +kernel
theorem dX3_mark_8 : decode cX3_mark 8 = .ok (.invokespecial 27, 3) := by decide +kernel
theorem dX3_mark_11 : decode cX3_mark 11 = .ok (.sipush 1000, 3) := by decide +kernel
theorem dX3_mark_14 : decode cX3_mark 14 = .ok (.isub, 1) := by decide +kernel
theorem dX3_mark_15 : decode cX3_mark 15 = .ok (.ireturn, 1) := by decide +kernel
theorem dX4_init_0 : decode cX4_init 0 = .ok (.aload_n 0, 1) := by decide +kernel
theorem dX4_init_1 : decode cX4_init 1 = .ok (.iload_n 1, 1) := by decide +kernel
theorem dX4_init_2 : decode cX4_init 2 = .ok (.iload_n 2, 1) := by decide +kernel
theorem dX4_init_3 : decode cX4_init 3 = .ok (.iload_n 3, 1) := by decide +kernel
theorem dX4_init_4 : decode cX4_init 4 = .ok (.invokespecial 1, 3) := by decide +kernel
theorem dX4_init_7 : decode cX4_init 7 = .ok (.return_, 1) := by decide +kernel
theorem dX4_ownKind_0 : decode cX4_ownKind 0 = .ok (.iconst 5, 1) := by decide +kernel
theorem dX4_ownKind_1 : decode cX4_ownKind 1 = .ok (.ireturn, 1) := by decide +kernel
theorem dX4_doesIt_0 : decode cX4_doesIt 0 = .ok (.iload_n 1, 1) := by decide +kernel
theorem dX4_doesIt_1 : decode cX4_doesIt 1 = .ok (.aload_n 0, 1) := by decide +kernel
theorem dX4_doesIt_2 : decode cX4_doesIt 2 = .ok (.getfield 7, 3) := by decide +kernel
theorem dX4_doesIt_5 : decode cX4_doesIt 5 = .ok (.invokestatic 13, 3) := by decide +kernel
theorem dX4_doesIt_8 : decode cX4_doesIt 8 = .ok (.iload_n 2, 1) := by decide +kernel
theorem dX4_doesIt_9 : decode cX4_doesIt 9 = .ok (.aload_n 0, 1) := by decide +kernel
theorem dX4_doesIt_10 : decode cX4_doesIt 10 = .ok (.getfield 19, 3) := by decide +kernel
theorem dX4_doesIt_13 : decode cX4_doesIt 13 = .ok (.invokestatic 13, 3) := by decide +kernel
theorem dX4_doesIt_16 : decode cX4_doesIt 16 = .ok (.if_icmp .ne 7, 3) := by decide +kernel
theorem dX4_doesIt_19 : decode cX4_doesIt 19 = .ok (.iconst 1, 1) := by decide +kernel
theorem dX4_doesIt_20 : decode cX4_doesIt 20 = .ok (.goto 4, 3) := by decide +kernel
theorem dX4_doesIt_23 : decode cX4_doesIt 23 = .ok (.iconst 0, 1) := by decide +kernel
theorem dX4_doesIt_24 : decode cX4_doesIt 24 = .ok (.ireturn, 1) := by decide +kernel
theorem dX4_size_0 : decode cX4_size 0 = .ok (.aload_n 1, 1) := by decide +kernel
theorem dX4_size_1 : decode cX4_size 1 = .ok (.bipush 14, 2) := by decide +kernel
theorem dX4_size_3 : decode cX4_size 3 = .ok (.invokevirtual 22, 3) := by decide +kernel
theorem dX4_size_6 : decode cX4_size 6 = .ok (.iconst 2, 1) := by decide +kernel
theorem dX4_size_7 : decode cX4_size 7 = .ok (.aload_n 0, 1) := by decide +kernel
theorem dX4_size_8 : decode cX4_size 8 = .ok (.aload_n 1, 1) := by decide +kernel
theorem dX4_size_9 : decode cX4_size 9 = .ok (.invokespecial 28, 3) := by decide +kernel
theorem dX4_size_12 : decode cX4_size 12 = .ok (.imul, 1) := by decide +kernel
theorem dX4_size_13 : decode cX4_size 13 = .ok (.ireturn, 1) := by decide +kernel
theorem dX5_init_0 : decode cX5_init 0 = .ok (.aload_n 0, 1) := by decide +kernel
theorem dX5_init_1 : decode cX5_init 1 = .ok (.invokespecial 1, 3) := by decide +kernel
theorem dX5_init_4 : decode cX5_init 4 = .ok (.aload_n 0, 1) := by decide +kernel
theorem dX5_init_5 : decode cX5_init 5 = .ok (.iload_n 1, 1) := by decide +kernel
theorem dX5_init_6 : decode cX5_init 6 = .ok (.putfield 7, 3) := by decide +kernel
theorem dX5_init_9 : decode cX5_init 9 = .ok (.aload_n 0, 1) := by decide +kernel
theorem dX5_init_10 : decode cX5_init 10 = .ok (.iload_n 2, 1) := by decide +kernel
theorem dX5_init_11 : decode cX5_init 11 = .ok (.putfield 13, 3) := by decide +kernel
theorem dX5_init_14 : decode cX5_init 14 = .ok (.aload_n 0, 1) := by decide +kernel
theorem dX5_init_15 : decode cX5_init 15 = .ok (.iload_n 3, 1) := by decide +kernel
theorem dX5_init_16 : decode cX5_init 16 = .ok (.putfield 16, 3) := by decide +kernel
theorem dX5_init_19 : decode cX5_init 19 = .ok (.return_, 1) := by decide +kernel
theorem dX5_tenths_0 : decode cX5_tenths 0 = .ok (.aload_n 0, 1) := by decide +kernel
theorem dX5_tenths_1 : decode cX5_tenths 1 = .ok (.iload_n 1, 1) := by decide +kernel
theorem dX5_tenths_2 : decode cX5_tenths 2 = .ok (.iload_n 2, 1) := by decide +kernel
theorem dX5_tenths_3 : decode cX5_tenths 3 = .ok (.invokevirtual 19, 3) := by decide +kernel
theorem dX5_tenths_6 : decode cX5_tenths 6 = .ok (.iload_n 3, 1) := by decide +kernel
theorem dX5_tenths_7 : decode cX5_tenths 7 = .ok (.if_icmp .ne 8, 3) := by decide +kernel
theorem dX5_tenths_10 : decode cX5_tenths 10 = .ok (.bipush 10, 2) := by decide +kernel
theorem dX5_tenths_12 : decode cX5_tenths 12 = .ok (.goto 4, 3) := by decide +kernel
theorem dX5_tenths_15 : decode cX5_tenths 15 = .ok (.iconst 0, 1) := by decide +kernel
theorem dX5_tenths_16 : decode cX5_tenths 16 = .ok (.ireturn, 1) := by decide +kernel
theorem dX5_size_0 : decode cX5_size 0 = .ok (.aload_n 1, 1) := by decide +kernel
theorem dX5_size_1 : decode cX5_size 1 = .ok (.bipush 10, 2) := by decide +kernel
theorem dX5_size_3 : decode cX5_size 3 = .ok (.invokevirtual 23, 3) := by decide +kernel
theorem dX5_size_6 : decode cX5_size 6 = .ok (.aload_n 0, 1) := by decide +kernel
theorem dX5_size_7 : decode cX5_size 7 = .ok (.getfield 16, 3) := by decide +kernel
theorem dX5_size_10 : decode cX5_size 10 = .ok (.ireturn, 1) := by decide +kernel
theorem dX5_mark_0 : decode cX5_mark 0 = .ok (.aload_n 1, 1) := by decide +kernel
theorem dX5_mark_1 : decode cX5_mark 1 = .ok (.bipush 20, 2) := by decide +kernel
theorem dX5_mark_3 : decode cX5_mark 3 = .ok (.invokevirtual 23, 3) := by decide +kernel
theorem dX5_mark_6 : decode cX5_mark 6 = .ok (.aload_n 0, 1) := by decide +kernel
theorem dX5_mark_7 : decode cX5_mark 7 = .ok (.getfield 7, 3) := by decide +kernel
theorem dX5_mark_10 : decode cX5_mark 10 = .ok (.ireturn, 1) := by decide +kernel
theorem dX6_init_0 : decode cX6_init 0 = .ok (.aload_n 0, 1) := by decide +kernel
theorem dX6_init_1 : decode cX6_init 1 = .ok (.invokespecial 3, 3) := by decide +kernel
theorem dX6_init_4 : decode cX6_init 4 = .ok (.aload_n 0, 1) := by decide +kernel
theorem dX6_init_5 : decode cX6_init 5 = .ok (.bipush 8, 2) := by decide +kernel
theorem dX6_init_7 : decode cX6_init 7 = .ok (.bipush 40, 2) := by decide +kernel
theorem dX6_init_9 : decode cX6_init 9 = .ok (.multianewarray 11 2, 4) := by decide +kernel
theorem dX6_init_13 : decode cX6_init 13 = .ok (.putfield 13, 3) := by decide +kernel
theorem dX6_init_16 : decode cX6_init 16 = .ok (.aload_n 0, 1) := by decide +kernel
theorem dX6_init_17 : decode cX6_init 17 = .ok (.bipush 8, 2) := by decide +kernel
theorem dX6_init_19 : decode cX6_init 19 = .ok (.newarray .int, 2) := by decide +kernel
theorem dX6_init_21 : decode cX6_init 21 = .ok (.putfield 16, 3) := by decide +kernel
theorem dX6_init_24 : decode cX6_init 24 = .ok (.aload_n 0, 1) := by decide +kernel
theorem dX6_init_25 : decode cX6_init 25 = .ok (.bipush 8, 2) := by decide +kernel
theorem dX6_init_27 : decode cX6_init 27 = .ok (.newarray .int, 2) := by decide +kernel
theorem dX6_init_29 : decode cX6_init 29 = .ok (.putfield 20, 3) := by decide +kernel
theorem dX6_init_32 : decode cX6_init 32 = .ok (.iconst 0, 1) := by decide +kernel
theorem dX6_init_33 : decode cX6_init 33 = .ok (.istore_n 1, 1) := by decide +kernel
theorem dX6_init_34 : decode cX6_init 34 = .ok (.iload_n 1, 1) := by decide +kernel
theorem dX6_init_35 : decode cX6_init 35 = .ok (.aload_n 0, 1) := by decide +kernel
theorem dX6_init_36 : decode cX6_init 36 = .ok (.getfield 20, 3) := by decide +kernel
theorem dX6_init_39 : decode cX6_init 39 = .ok (.arraylength, 1) := by decide +kernel
theorem dX6_init_40 : decode cX6_init 40 = .ok (.if_icmp .ge 16, 3) := by decide +kernel
theorem dX6_init_43 : decode cX6_init 43 = .ok (.aload_n 0, 1) := by decide +kernel
theorem dX6_init_44 : decode cX6_init 44 = .ok (.getfield 20, 3) := by decide +kernel
theorem dX6_init_47 : decode cX6_init 47 = .ok (.iload_n 1, 1) := by decide +kernel
theorem dX6_init_48 : decode cX6_init 48 = .ok (.iconst (-1), 1) := by decide +kernel
theorem dX6_init_49 : decode cX6_init 49 = .ok (.iastore, 1) := by decide +kernel
theorem dX6_init_50 : decode cX6_init 50 = .ok (.iinc 1 1, 3) := by decide +kernel
theorem dX6_init_53 : decode cX6_init 53 = .ok (.goto (-19), 3) := by decide +kernel
theorem dX6_init_56 : decode cX6_init 56 = .ok (.return_, 1) := by decide +kernel
theorem dX6_isPlace_0 : decode cX6_isPlace 0 = .ok (.iload_n 1, 1) := by decide +kernel
theorem dX6_isPlace_1 : decode cX6_isPlace 1 = .ok (.ifCond .lt 13, 3) := by decide +kernel
theorem dX6_isPlace_4 : decode cX6_isPlace 4 = .ok (.iload_n 1, 1) := by decide +kernel
theorem dX6_isPlace_5 : decode cX6_isPlace 5 = .ok (.bipush 8, 2) := by decide +kernel
theorem dX6_isPlace_7 : decode cX6_isPlace 7 = .ok (.if_icmp .ge 7, 3) := by decide +kernel
theorem dX6_isPlace_10 : decode cX6_isPlace 10 = .ok (.iconst 1, 1) := by decide +kernel
theorem dX6_isPlace_11 : decode cX6_isPlace 11 = .ok (.goto 4, 3) := by decide +kernel
theorem dX6_isPlace_14 : decode cX6_isPlace 14 = .ok (.iconst 0, 1) := by decide +kernel
theorem dX6_isPlace_15 : decode cX6_isPlace 15 = .ok (.ireturn, 1) := by decide +kernel
theorem dX6_isLane_0 : decode cX6_isLane 0 = .ok (.iload_n 1, 1) := by decide +kernel
theorem dX6_isLane_1 : decode cX6_isLane 1 = .ok (.ifCond .lt 12, 3) := by decide +kernel
theorem dX6_isLane_4 : decode cX6_isLane 4 = .ok (.iload_n 1, 1) := by decide +kernel
theorem dX6_isLane_5 : decode cX6_isLane 5 = .ok (.iconst 3, 1) := by decide +kernel
theorem dX6_isLane_6 : decode cX6_isLane 6 = .ok (.if_icmp .ge 7, 3) := by decide +kernel
theorem dX6_isLane_9 : decode cX6_isLane 9 = .ok (.iconst 1, 1) := by decide +kernel
theorem dX6_isLane_10 : decode cX6_isLane 10 = .ok (.goto 4, 3) := by decide +kernel
theorem dX6_isLane_13 : decode cX6_isLane 13 = .ok (.iconst 0, 1) := by decide +kernel
theorem dX6_isLane_14 : decode cX6_isLane 14 = .ok (.ireturn, 1) := by decide +kernel
theorem dX6_isMissing_0 : decode cX6_isMissing 0 = .ok (.aload_n 0, 1) := by decide +kernel
theorem dX6_isMissing_1 : decode cX6_isMissing 1 = .ok (.iload_n 1, 1) := by decide +kernel
theorem dX6_isMissing_2 : decode cX6_isMissing 2 = .ok (.invokevirtual 23, 3) := by decide +kernel
theorem dX6_isMissing_5 : decode cX6_isMissing 5 = .ok (.ifCond .eq 13, 3) := by decide +kernel
theorem dX6_isMissing_8 : decode cX6_isMissing 8 = .ok (.aload_n 0, 1) := by decide +kernel
theorem dX6_isMissing_9 : decode cX6_isMissing 9 = .ok (.getfield 20, 3) := by decide +kernel
theorem dX6_isMissing_12 : decode cX6_isMissing 12 = .ok (.iload_n 1, 1) := by decide +kernel
theorem dX6_isMissing_13 : decode cX6_isMissing 13 = .ok (.iaload, 1) := by decide +kernel
theorem dX6_isMissing_14 : decode cX6_isMissing 14 = .ok (.iconst (-1), 1) := by decide +kernel
theorem dX6_isMissing_15 : decode cX6_isMissing 15 = .ok (.if_icmp .ne 7, 3) := by decide +kernel
theorem dX6_isMissing_18 : decode cX6_isMissing 18 = .ok (.iconst 1, 1) := by decide +kernel
theorem dX6_isMissing_19 : decode cX6_isMissing 19 = .ok (.goto 4, 3) := by decide +kernel
theorem dX6_isMissing_22 : decode cX6_isMissing 22 = .ok (.iconst 0, 1) := by decide +kernel
theorem dX6_isMissing_23 : decode cX6_isMissing 23 = .ok (.ireturn, 1) := by decide +kernel
theorem dX6_areAlike_0 : decode cX6_areAlike 0 = .ok (.aload_n 0, 1) := by decide +kernel
theorem dX6_areAlike_1 : decode cX6_areAlike 1 = .ok (.iload_n 1, 1) := by decide +kernel
theorem dX6_areAlike_2 : decode cX6_areAlike 2 = .ok (.invokevirtual 23, 3) := by decide +kernel
theorem dX6_areAlike_5 : decode cX6_areAlike 5 = .ok (.ifCond .eq 30, 3) := by decide +kernel
theorem dX6_areAlike_8 : decode cX6_areAlike 8 = .ok (.aload_n 0, 1) := by decide +kernel
theorem dX6_areAlike_9 : decode cX6_areAlike 9 = .ok (.iload_n 2, 1) := by decide +kernel
theorem dX6_areAlike_10 : decode cX6_areAlike 10 = .ok (.invokevirtual 23, 3) := by decide +kernel
theorem dX6_areAlike_13 : decode cX6_areAlike 13 = .ok (.ifCond .eq 22, 3) := by decide +kernel
theorem dX6_areAlike_16 : decode cX6_areAlike 16 = .ok (.aload_n 0, 1) := by decide +kernel
theorem dX6_areAlike_17 : decode cX6_areAlike 17 = .ok (.getfield 16, 3) := by decide +kernel
theorem dX6_areAlike_20 : decode cX6_areAlike 20 = .ok (.iload_n 1, 1) := by decide +kernel
theorem dX6_areAlike_21 : decode cX6_areAlike 21 = .ok (.iaload, 1) := by decide +kernel
theorem dX6_areAlike_22 : decode cX6_areAlike 22 = .ok (.aload_n 0, 1) := by decide +kernel
theorem dX6_areAlike_23 : decode cX6_areAlike 23 = .ok (.getfield 16, 3) := by decide +kernel
theorem dX6_areAlike_26 : decode cX6_areAlike 26 = .ok (.iload_n 2, 1) := by decide +kernel
theorem dX6_areAlike_27 : decode cX6_areAlike 27 = .ok (.iaload, 1) := by decide +kernel
theorem dX6_areAlike_28 : decode cX6_areAlike 28 = .ok (.if_icmp .ne 7, 3) := by decide +kernel
theorem dX6_areAlike_31 : decode cX6_areAlike 31 = .ok (.iconst 1, 1) := by decide +kernel
theorem dX6_areAlike_32 : decode cX6_areAlike 32 = .ok (.goto 4, 3) := by decide +kernel
theorem dX6_areAlike_35 : decode cX6_areAlike 35 = .ok (.iconst 0, 1) := by decide +kernel
theorem dX6_areAlike_36 : decode cX6_areAlike 36 = .ok (.ireturn, 1) := by decide +kernel
theorem dX6_reaches_0 : decode cX6_reaches 0 = .ok (.aload_n 0, 1) := by decide +kernel
theorem dX6_reaches_1 : decode cX6_reaches 1 = .ok (.iload_n 1, 1) := by decide +kernel
theorem dX6_reaches_2 : decode cX6_reaches 2 = .ok (.invokevirtual 27, 3) := by decide +kernel
theorem dX6_reaches_5 : decode cX6_reaches 5 = .ok (.ifCond .ne 37, 3) := by decide +kernel
theorem dX6_reaches_8 : decode cX6_reaches 8 = .ok (.iload_n 2, 1) := by decide +kernel
theorem dX6_reaches_9 : decode cX6_reaches 9 = .ok (.ifCond .lt 33, 3) := by decide +kernel
theorem dX6_reaches_12 : decode cX6_reaches 12 = .ok (.iload_n 3, 1) := by decide +kernel
theorem dX6_reaches_13 : decode cX6_reaches 13 = .ok (.ifCond .lt 29, 3) := by decide +kernel
theorem dX6_reaches_16 : decode cX6_reaches 16 = .ok (.iload_n 3, 1) := by decide +kernel
theorem dX6_reaches_17 : decode cX6_reaches 17 = .ok (.aload_n 0, 1) := by decide +kernel
theorem dX6_reaches_18 : decode cX6_reaches 18 = .ok (.getfield 20, 3) := by decide +kernel
theorem dX6_reaches_21 : decode cX6_reaches 21 = .ok (.iload_n 1, 1) := by decide +kernel
theorem dX6_reaches_22 : decode cX6_reaches 22 = .ok (.iaload, 1) := by decide +kernel
theorem dX6_reaches_23 : decode cX6_reaches 23 = .ok (.if_icmp .gt 19, 3) := by decide +kernel
theorem dX6_reaches_26 : decode cX6_reaches 26 = .ok (.iload_n 2, 1) := by decide +kernel
theorem dX6_reaches_27 : decode cX6_reaches 27 = .ok (.aload_n 0, 1) := by decide +kernel
theorem dX6_reaches_28 : decode cX6_reaches 28 = .ok (.getfield 20, 3) := by decide +kernel
theorem dX6_reaches_31 : decode cX6_reaches 31 = .ok (.iload_n 1, 1) := by decide +kernel
theorem dX6_reaches_32 : decode cX6_reaches 32 = .ok (.iaload, 1) := by decide +kernel
theorem dX6_reaches_33 : decode cX6_reaches 33 = .ok (.iload_n 3, 1) := by decide +kernel
theorem dX6_reaches_34 : decode cX6_reaches 34 = .ok (.isub, 1) := by decide +kernel
theorem dX6_reaches_35 : decode cX6_reaches 35 = .ok (.if_icmp .gt 7, 3) := by decide +kernel
theorem dX6_reaches_38 : decode cX6_reaches 38 = .ok (.iconst 1, 1) := by decide +kernel
theorem dX6_reaches_39 : decode cX6_reaches 39 = .ok (.goto 4, 3) := by decide +kernel
theorem dX6_reaches_42 : decode cX6_reaches 42 = .ok (.iconst 0, 1) := by decide +kernel
theorem dX6_reaches_43 : decode cX6_reaches 43 = .ok (.ireturn, 1) := by decide +kernel
theorem dX6_howMany_0 : decode cX6_howMany 0 = .ok (.iconst 0, 1) := by decide +kernel
theorem dX6_howMany_1 : decode cX6_howMany 1 = .ok (.istore_n 1, 1) := by decide +kernel
theorem dX6_howMany_2 : decode cX6_howMany 2 = .ok (.iconst 0, 1) := by decide +kernel
theorem dX6_howMany_3 : decode cX6_howMany 3 = .ok (.istore_n 2, 1) := by decide +kernel
theorem dX6_howMany_4 : decode cX6_howMany 4 = .ok (.iload_n 2, 1) := by decide +kernel
theorem dX6_howMany_5 : decode cX6_howMany 5 = .ok (.bipush 8, 2) := by decide +kernel
theorem dX6_howMany_7 : decode cX6_howMany 7 = .ok (.if_icmp .ge 20, 3) := by decide +kernel
theorem dX6_howMany_10 : decode cX6_howMany 10 = .ok (.aload_n 0, 1) := by decide +kernel
theorem dX6_howMany_11 : decode cX6_howMany 11 = .ok (.iload_n 2, 1) := by decide +kernel
theorem dX6_howMany_12 : decode cX6_howMany 12 = .ok (.invokevirtual 27, 3) := by decide +kernel
theorem dX6_howMany_15 : decode cX6_howMany 15 = .ok (.ifCond .ne 6, 3) := by decide +kernel
theorem dX6_howMany_18 : decode cX6_howMany 18 = .ok (.iinc 1 1, 3) := by decide +kernel
theorem dX6_howMany_21 : decode cX6_howMany 21 = .ok (.iinc 2 1, 3) := by decide +kernel
theorem dX6_howMany_24 : decode cX6_howMany 24 = .ok (.goto (-20), 3) := by decide +kernel
theorem dX6_howMany_27 : decode cX6_howMany 27 = .ok (.iload_n 1, 1) := by decide +kernel
theorem dX6_howMany_28 : decode cX6_howMany 28 = .ok (.ireturn, 1) := by decide +kernel
theorem dX6_put_0 : decode cX6_put 0 = .ok (.aload_n 0, 1) := by decide +kernel
theorem dX6_put_1 : decode cX6_put 1 = .ok (.iload_n 1, 1) := by decide +kernel
theorem dX6_put_2 : decode cX6_put 2 = .ok (.invokevirtual 23, 3) := by decide +kernel
theorem dX6_put_5 : decode cX6_put 5 = .ok (.ifCond .eq 45, 3) := by decide +kernel
theorem dX6_put_8 : decode cX6_put 8 = .ok (.aload_n 0, 1) := by decide +kernel
theorem dX6_put_9 : decode cX6_put 9 = .ok (.iload_n 2, 1) := by decide +kernel
theorem dX6_put_10 : decode cX6_put 10 = .ok (.invokevirtual 30, 3) := by decide +kernel
theorem dX6_put_13 : decode cX6_put 13 = .ok (.ifCond .eq 37, 3) := by decide +kernel
theorem dX6_put_16 : decode cX6_put 16 = .ok (.iload_n 3, 1) := by decide +kernel
theorem dX6_put_17 : decode cX6_put 17 = .ok (.ifCond .lt 33, 3) := by decide +kernel
theorem dX6_put_20 : decode cX6_put 20 = .ok (.iload_n 3, 1) := by decide +kernel
theorem dX6_put_21 : decode cX6_put 21 = .ok (.bipush 40, 2) := by decide +kernel
theorem dX6_put_23 : decode cX6_put 23 = .ok (.if_icmp .gt 27, 3) := by decide +kernel
theorem dX6_put_26 : decode cX6_put 26 = .ok (.aload_n 0, 1) := by decide +kernel
theorem dX6_put_27 : decode cX6_put 27 = .ok (.getfield 13, 3) := by decide +kernel
theorem dX6_put_30 : decode cX6_put 30 = .ok (.iload_n 1, 1) := by decide +kernel
theorem dX6_put_31 : decode cX6_put 31 = .ok (.aaload, 1) := by decide +kernel
theorem dX6_put_32 : decode cX6_put 32 = .ok (.iconst 0, 1) := by decide +kernel
theorem dX6_put_33 : decode cX6_put 33 = .ok (.invokestatic 33, 3) := by decide +kernel
theorem dX6_put_36 : decode cX6_put 36 = .ok (.aload_n 0, 1) := by decide +kernel
theorem dX6_put_37 : decode cX6_put 37 = .ok (.getfield 16, 3) := by decide +kernel
theorem dX6_put_40 : decode cX6_put 40 = .ok (.iload_n 1, 1) := by decide +kernel
theorem dX6_put_41 : decode cX6_put 41 = .ok (.iload_n 2, 1) := by decide +kernel
theorem dX6_put_42 : decode cX6_put 42 = .ok (.iastore, 1) := by decide +kernel
theorem dX6_put_43 : decode cX6_put 43 = .ok (.aload_n 0, 1) := by decide +kernel
theorem dX6_put_44 : decode cX6_put 44 = .ok (.getfield 20, 3) := by decide +kernel
theorem dX6_put_47 : decode cX6_put 47 = .ok (.iload_n 1, 1) := by decide +kernel
theorem dX6_put_48 : decode cX6_put 48 = .ok (.iload_n 3, 1) := by decide +kernel
theorem dX6_put_49 : decode cX6_put 49 = .ok (.iastore, 1) := by decide +kernel
theorem dX6_put_50 : decode cX6_put 50 = .ok (.return_, 1) := by decide +kernel
theorem dX6_take_0 : decode cX6_take 0 = .ok (.aload_n 0, 1) := by decide +kernel
theorem dX6_take_1 : decode cX6_take 1 = .ok (.iload_n 1, 1) := by decide +kernel
theorem dX6_take_2 : decode cX6_take 2 = .ok (.invokevirtual 27, 3) := by decide +kernel
theorem dX6_take_5 : decode cX6_take 5 = .ok (.ifCond .eq 5, 3) := by decide +kernel
theorem dX6_take_8 : decode cX6_take 8 = .ok (.iconst 0, 1) := by decide +kernel
theorem dX6_take_9 : decode cX6_take 9 = .ok (.ireturn, 1) := by decide +kernel
theorem dX6_take_10 : decode cX6_take 10 = .ok (.aload_n 0, 1) := by decide +kernel
theorem dX6_take_11 : decode cX6_take 11 = .ok (.getfield 20, 3) := by decide +kernel
theorem dX6_take_14 : decode cX6_take 14 = .ok (.iload_n 1, 1) := by decide +kernel
theorem dX6_take_15 : decode cX6_take 15 = .ok (.iaload, 1) := by decide +kernel
theorem dX6_take_16 : decode cX6_take 16 = .ok (.istore_n 2, 1) := by decide +kernel
theorem dX6_take_17 : decode cX6_take 17 = .ok (.aload_n 0, 1) := by decide +kernel
theorem dX6_take_18 : decode cX6_take 18 = .ok (.getfield 20, 3) := by decide +kernel
theorem dX6_take_21 : decode cX6_take 21 = .ok (.iload_n 1, 1) := by decide +kernel
theorem dX6_take_22 : decode cX6_take 22 = .ok (.iconst (-1), 1) := by decide +kernel
theorem dX6_take_23 : decode cX6_take 23 = .ok (.iastore, 1) := by decide +kernel
theorem dX6_take_24 : decode cX6_take 24 = .ok (.iload_n 2, 1) := by decide +kernel
theorem dX6_take_25 : decode cX6_take 25 = .ok (.ireturn, 1) := by decide +kernel
theorem dX6_item_0 : decode cX6_item 0 = .ok (.aload_n 0, 1) := by decide +kernel
theorem dX6_item_1 : decode cX6_item 1 = .ok (.iload_n 1, 1) := by decide +kernel
theorem dX6_item_2 : decode cX6_item 2 = .ok (.iload_n 2, 1) := by decide +kernel
theorem dX6_item_3 : decode cX6_item 3 = .ok (.iconst 1, 1) := by decide +kernel
theorem dX6_item_4 : decode cX6_item 4 = .ok (.invokevirtual 39, 3) := by decide +kernel
theorem dX6_item_7 : decode cX6_item 7 = .ok (.ifCond .eq 14, 3) := by decide +kernel
theorem dX6_item_10 : decode cX6_item 10 = .ok (.aload_n 0, 1) := by decide +kernel
theorem dX6_item_11 : decode cX6_item 11 = .ok (.getfield 13, 3) := by decide +kernel
theorem dX6_item_14 : decode cX6_item 14 = .ok (.iload_n 1, 1) := by decide +kernel
theorem dX6_item_15 : decode cX6_item 15 = .ok (.aaload, 1) := by decide +kernel
theorem dX6_item_16 : decode cX6_item 16 = .ok (.iload_n 2, 1) := by decide +kernel
theorem dX6_item_17 : decode cX6_item 17 = .ok (.iaload, 1) := by decide +kernel
theorem dX6_item_18 : decode cX6_item 18 = .ok (.goto 5, 3) := by decide +kernel
theorem dX6_item_21 : decode cX6_item 21 = .ok (.ldc 43, 2) := by decide +kernel
theorem dX6_item_23 : decode cX6_item 23 = .ok (.ireturn, 1) := by decide +kernel
theorem dX6_write_0 : decode cX6_write 0 = .ok (.aload_n 0, 1) := by decide +kernel
theorem dX6_write_1 : decode cX6_write 1 = .ok (.iload_n 1, 1) := by decide +kernel
theorem dX6_write_2 : decode cX6_write 2 = .ok (.iload_n 2, 1) := by decide +kernel
theorem dX6_write_3 : decode cX6_write 3 = .ok (.iconst 1, 1) := by decide +kernel
theorem dX6_write_4 : decode cX6_write 4 = .ok (.invokevirtual 39, 3) := by decide +kernel
theorem dX6_write_7 : decode cX6_write 7 = .ok (.ifCond .ne 6, 3) := by decide +kernel
theorem dX6_write_10 : decode cX6_write 10 = .ok (.ldc 43, 2) := by decide +kernel
theorem dX6_write_12 : decode cX6_write 12 = .ok (.ireturn, 1) := by decide +kernel
theorem dX6_write_13 : decode cX6_write 13 = .ok (.aload_n 0, 1) := by decide +kernel
theorem dX6_write_14 : decode cX6_write 14 = .ok (.getfield 13, 3) := by decide +kernel
theorem dX6_write_17 : decode cX6_write 17 = .ok (.iload_n 1, 1) := by decide +kernel
theorem dX6_write_18 : decode cX6_write 18 = .ok (.aaload, 1) := by decide +kernel
theorem dX6_write_19 : decode cX6_write 19 = .ok (.iload_n 2, 1) := by decide +kernel
theorem dX6_write_20 : decode cX6_write 20 = .ok (.iload_n 3, 1) := by decide +kernel
theorem dX6_write_21 : decode cX6_write 21 = .ok (.aload_n 0, 1) := by decide +kernel
theorem dX6_write_22 : decode cX6_write 22 = .ok (.getfield 16, 3) := by decide +kernel
theorem dX6_write_25 : decode cX6_write 25 = .ok (.iload_n 1, 1) := by decide +kernel
theorem dX6_write_26 : decode cX6_write 26 = .ok (.iaload, 1) := by decide +kernel
theorem dX6_write_27 : decode cX6_write 27 = .ok (.invokestatic 44, 3) := by decide +kernel
theorem dX6_write_30 : decode cX6_write 30 = .ok (.iastore, 1) := by decide +kernel
theorem dX6_write_31 : decode cX6_write 31 = .ok (.aload_n 0, 1) := by decide +kernel
theorem dX6_write_32 : decode cX6_write 32 = .ok (.getfield 13, 3) := by decide +kernel
theorem dX6_write_35 : decode cX6_write 35 = .ok (.iload_n 1, 1) := by decide +kernel
theorem dX6_write_36 : decode cX6_write 36 = .ok (.aaload, 1) := by decide +kernel
theorem dX6_write_37 : decode cX6_write 37 = .ok (.iload_n 2, 1) := by decide +kernel
theorem dX6_write_38 : decode cX6_write 38 = .ok (.iaload, 1) := by decide +kernel
theorem dX6_write_39 : decode cX6_write 39 = .ok (.ireturn, 1) := by decide +kernel
theorem dX6_carry_0 : decode cX6_carry 0 = .ok (.aload_n 0, 1) := by decide +kernel
theorem dX6_carry_1 : decode cX6_carry 1 = .ok (.iload_n 1, 1) := by decide +kernel
theorem dX6_carry_2 : decode cX6_carry 2 = .ok (.iload_n 2, 1) := by decide +kernel
theorem dX6_carry_3 : decode cX6_carry 3 = .ok (.iload 5, 2) := by decide +kernel
theorem dX6_carry_5 : decode cX6_carry 5 = .ok (.invokevirtual 39, 3) := by decide +kernel
theorem dX6_carry_8 : decode cX6_carry 8 = .ok (.ifCond .eq 35, 3) := by decide +kernel
theorem dX6_carry_11 : decode cX6_carry 11 = .ok (.aload_n 0, 1) := by decide +kernel
theorem dX6_carry_12 : decode cX6_carry 12 = .ok (.iload_n 3, 1) := by decide +kernel
theorem dX6_carry_13 : decode cX6_carry 13 = .ok (.iload 4, 2) := by decide +kernel
theorem dX6_carry_15 : decode cX6_carry 15 = .ok (.iload 5, 2) := by decide +kernel
theorem dX6_carry_17 : decode cX6_carry 17 = .ok (.invokevirtual 39, 3) := by decide +kernel
theorem dX6_carry_20 : decode cX6_carry 20 = .ok (.ifCond .eq 23, 3) := by decide +kernel
theorem dX6_carry_23 : decode cX6_carry 23 = .ok (.aload_n 0, 1) := by decide +kernel
theorem dX6_carry_24 : decode cX6_carry 24 = .ok (.getfield 13, 3) := by decide +kernel
theorem dX6_carry_27 : decode cX6_carry 27 = .ok (.iload_n 1, 1) := by decide +kernel
theorem dX6_carry_28 : decode cX6_carry 28 = .ok (.aaload, 1) := by decide +kernel
theorem dX6_carry_29 : decode cX6_carry 29 = .ok (.iload_n 2, 1) := by decide +kernel
theorem dX6_carry_30 : decode cX6_carry 30 = .ok (.aload_n 0, 1) := by decide +kernel
theorem dX6_carry_31 : decode cX6_carry 31 = .ok (.getfield 13, 3) := by decide +kernel
theorem dX6_carry_34 : decode cX6_carry 34 = .ok (.iload_n 3, 1) := by decide +kernel
theorem dX6_carry_35 : decode cX6_carry 35 = .ok (.aaload, 1) := by decide +kernel
theorem dX6_carry_36 : decode cX6_carry 36 = .ok (.iload 4, 2) := by decide +kernel
theorem dX6_carry_38 : decode cX6_carry 38 = .ok (.iload 5, 2) := by decide +kernel
theorem dX6_carry_40 : decode cX6_carry 40 = .ok (.invokestatic 48, 3) := by decide +kernel
theorem dX6_carry_43 : decode cX6_carry 43 = .ok (.return_, 1) := by decide +kernel
theorem dX6_narrowed_0 : decode cX6_narrowed 0 = .ok (.iload_n 1, 1) := by decide +kernel
theorem dX6_narrowed_1 : decode cX6_narrowed 1 = .ok (.lookupswitch 33 #[(0, 27), (1, 30)], 27) := by decide +kernel
theorem dX6_narrowed_28 : decode cX6_narrowed 28 = .ok (.iload_n 0, 1) := by decide +kernel
theorem dX6_narrowed_29 : decode cX6_narrowed 29 = .ok (.i2b, 1) := by decide +kernel
theorem dX6_narrowed_30 : decode cX6_narrowed 30 = .ok (.ireturn, 1) := by decide +kernel
theorem dX6_narrowed_31 : decode cX6_narrowed 31 = .ok (.iload_n 0, 1) := by decide +kernel
theorem dX6_narrowed_32 : decode cX6_narrowed 32 = .ok (.i2s, 1) := by decide +kernel
theorem dX6_narrowed_33 : decode cX6_narrowed 33 = .ok (.ireturn, 1) := by decide +kernel
theorem dX6_narrowed_34 : decode cX6_narrowed 34 = .ok (.iload_n 0, 1) := by decide +kernel
theorem dX6_narrowed_35 : decode cX6_narrowed 35 = .ok (.ireturn, 1) := by decide +kernel
theorem dX7_init_0 : decode cX7_init 0 = .ok (.aload_n 0, 1) := by decide +kernel
theorem dX7_init_1 : decode cX7_init 1 = .ok (.invokespecial 3, 3) := by decide +kernel
theorem dX7_init_4 : decode cX7_init 4 = .ok (.aload_n 0, 1) := by decide +kernel
theorem dX7_init_5 : decode cX7_init 5 = .ok (.sipush 300, 3) := by decide +kernel
theorem dX7_init_8 : decode cX7_init 8 = .ok (.newarray .byte, 2) := by decide +kernel
theorem dX7_init_10 : decode cX7_init 10 = .ok (.putfield 11, 3) := by decide +kernel
theorem dX7_init_13 : decode cX7_init 13 = .ok (.aload_n 0, 1) := by decide +kernel
theorem dX7_init_14 : decode cX7_init 14 = .ok (.iconst 0, 1) := by decide +kernel
theorem dX7_init_15 : decode cX7_init 15 = .ok (.putfield 15, 3) := by decide +kernel
theorem dX7_init_18 : decode cX7_init 18 = .ok (.aload_n 0, 1) := by decide +kernel
theorem dX7_init_19 : decode cX7_init 19 = .ok (.bipush 6, 2) := by decide +kernel
theorem dX7_init_21 : decode cX7_init 21 = .ok (.anewarray 19, 3) := by decide +kernel
theorem dX7_init_24 : decode cX7_init 24 = .ok (.putfield 21, 3) := by decide +kernel
theorem dX7_init_27 : decode cX7_init 27 = .ok (.aload_n 0, 1) := by decide +kernel
theorem dX7_init_28 : decode cX7_init 28 = .ok (.iconst 0, 1) := by decide +kernel
theorem dX7_init_29 : decode cX7_init 29 = .ok (.putfield 25, 3) := by decide +kernel
theorem dX7_init_32 : decode cX7_init 32 = .ok (.aload_n 0, 1) := by decide +kernel
theorem dX7_init_33 : decode cX7_init 33 = .ok (.iconst 0, 1) := by decide +kernel
theorem dX7_init_34 : decode cX7_init 34 = .ok (.putfield 28, 3) := by decide +kernel
theorem dX7_init_37 : decode cX7_init 37 = .ok (.aload_n 0, 1) := by decide +kernel
theorem dX7_init_38 : decode cX7_init 38 = .ok (.iconst 0, 1) := by decide +kernel
theorem dX7_init_39 : decode cX7_init 39 = .ok (.putfield 31, 3) := by decide +kernel
theorem dX7_init_42 : decode cX7_init 42 = .ok (.aload_n 0, 1) := by decide +kernel
theorem dX7_init_43 : decode cX7_init 43 = .ok (.iconst 0, 1) := by decide +kernel
theorem dX7_init_44 : decode cX7_init 44 = .ok (.putfield 34, 3) := by decide +kernel
theorem dX7_init_47 : decode cX7_init 47 = .ok (.aload_n 0, 1) := by decide +kernel
theorem dX7_init_48 : decode cX7_init 48 = .ok (.iconst 0, 1) := by decide +kernel
theorem dX7_init_49 : decode cX7_init 49 = .ok (.putfield 37, 3) := by decide +kernel
theorem dX7_init_52 : decode cX7_init 52 = .ok (.return_, 1) := by decide +kernel
theorem dX7_size_0 : decode cX7_size 0 = .ok (.aload_n 0, 1) := by decide +kernel
theorem dX7_size_1 : decode cX7_size 1 = .ok (.getfield 15, 3) := by decide +kernel
theorem dX7_size_4 : decode cX7_size 4 = .ok (.ireturn, 1) := by decide +kernel
theorem dX7_latestFault_0 : decode cX7_latestFault 0 = .ok (.aload_n 0, 1) := by decide +kernel
theorem dX7_latestFault_1 : decode cX7_latestFault 1 = .ok (.getfield 28, 3) := by decide +kernel
theorem dX7_latestFault_4 : decode cX7_latestFault 4 = .ok (.ireturn, 1) := by decide +kernel
theorem dX7_peopleRead_0 : decode cX7_peopleRead 0 = .ok (.aload_n 0, 1) := by decide +kernel
theorem dX7_peopleRead_1 : decode cX7_peopleRead 1 = .ok (.getfield 25, 3) := by decide +kernel
theorem dX7_peopleRead_4 : decode cX7_peopleRead 4 = .ok (.ireturn, 1) := by decide +kernel
theorem dX7_reading_0 : decode cX7_reading 0 = .ok (.iload_n 1, 1) := by decide +kernel
theorem dX7_reading_1 : decode cX7_reading 1 = .ok (.ifCond .lt 20, 3) := by decide +kernel
theorem dX7_reading_4 : decode cX7_reading 4 = .ok (.iload_n 1, 1) := by decide +kernel
theorem dX7_reading_5 : decode cX7_reading 5 = .ok (.aload_n 0, 1) := by decide +kernel
theorem dX7_reading_6 : decode cX7_reading 6 = .ok (.getfield 25, 3) := by decide +kernel
theorem dX7_reading_9 : decode cX7_reading 9 = .ok (.if_icmp .ge 12, 3) := by decide +kernel
theorem dX7_reading_12 : decode cX7_reading 12 = .ok (.iload_n 1, 1) := by decide +kernel
theorem dX7_reading_13 : decode cX7_reading 13 = .ok (.aload_n 0, 1) := by decide +kernel
theorem dX7_reading_14 : decode cX7_reading 14 = .ok (.getfield 21, 3) := by decide +kernel
theorem dX7_reading_17 : decode cX7_reading 17 = .ok (.arraylength, 1) := by decide +kernel
theorem dX7_reading_18 : decode cX7_reading 18 = .ok (.if_icmp .lt 7, 3) := by decide +kernel
theorem dX7_reading_21 : decode cX7_reading 21 = .ok (.aconst_null, 1) := by decide +kernel
theorem dX7_reading_22 : decode cX7_reading 22 = .ok (.goto 9, 3) := by decide +kernel
theorem dX7_reading_25 : decode cX7_reading 25 = .ok (.aload_n 0, 1) := by decide +kernel
theorem dX7_reading_26 : decode cX7_reading 26 = .ok (.getfield 21, 3) := by decide +kernel
theorem dX7_reading_29 : decode cX7_reading 29 = .ok (.iload_n 1, 1) := by decide +kernel
theorem dX7_reading_30 : decode cX7_reading 30 = .ok (.aaload, 1) := by decide +kernel
theorem dX7_reading_31 : decode cX7_reading 31 = .ok (.areturn, 1) := by decide +kernel
theorem dX7_hasRoom_0 : decode cX7_hasRoom 0 = .ok (.iload_n 1, 1) := by decide +kernel
theorem dX7_hasRoom_1 : decode cX7_hasRoom 1 = .ok (.aload_n 0, 1) := by decide +kernel
theorem dX7_hasRoom_2 : decode cX7_hasRoom 2 = .ok (.getfield 11, 3) := by decide +kernel
theorem dX7_hasRoom_5 : decode cX7_hasRoom 5 = .ok (.arraylength, 1) := by decide +kernel
theorem dX7_hasRoom_6 : decode cX7_hasRoom 6 = .ok (.aload_n 0, 1) := by decide +kernel
theorem dX7_hasRoom_7 : decode cX7_hasRoom 7 = .ok (.getfield 15, 3) := by decide +kernel
theorem dX7_hasRoom_10 : decode cX7_hasRoom 10 = .ok (.isub, 1) := by decide +kernel
theorem dX7_hasRoom_11 : decode cX7_hasRoom 11 = .ok (.if_icmp .gt 7, 3) := by decide +kernel
theorem dX7_hasRoom_14 : decode cX7_hasRoom 14 = .ok (.iconst 1, 1) := by decide +kernel
theorem dX7_hasRoom_15 : decode cX7_hasRoom 15 = .ok (.goto 4, 3) := by decide +kernel
theorem dX7_hasRoom_18 : decode cX7_hasRoom 18 = .ok (.iconst 0, 1) := by decide +kernel
theorem dX7_hasRoom_19 : decode cX7_hasRoom 19 = .ok (.ireturn, 1) := by decide +kernel
theorem dX7_append_0 : decode cX7_append 0 = .ok (.iload_n 3, 1) := by decide +kernel
theorem dX7_append_1 : decode cX7_append 1 = .ok (.iconst 1, 1) := by decide +kernel
theorem dX7_append_2 : decode cX7_append 2 = .ok (.isub, 1) := by decide +kernel
theorem dX7_append_3 : decode cX7_append 3 = .ok (.istore 4, 2) := by decide +kernel
theorem dX7_append_5 : decode cX7_append 5 = .ok (.iload 4, 2) := by decide +kernel
theorem dX7_append_7 : decode cX7_append 7 = .ok (.ifCond .lt 49, 3) := by decide +kernel
theorem dX7_append_10 : decode cX7_append 10 = .ok (.aload_n 0, 1) := by decide +kernel
theorem dX7_append_11 : decode cX7_append 11 = .ok (.getfield 15, 3) := by decide +kernel
theorem dX7_append_14 : decode cX7_append 14 = .ok (.aload_n 0, 1) := by decide +kernel
theorem dX7_append_15 : decode cX7_append 15 = .ok (.getfield 11, 3) := by decide +kernel
theorem dX7_append_18 : decode cX7_append 18 = .ok (.arraylength, 1) := by decide +kernel
theorem dX7_append_19 : decode cX7_append 19 = .ok (.if_icmp .ge 37, 3) := by decide +kernel
theorem dX7_append_22 : decode cX7_append 22 = .ok (.aload_n 0, 1) := by decide +kernel
theorem dX7_append_23 : decode cX7_append 23 = .ok (.getfield 11, 3) := by decide +kernel
theorem dX7_append_26 : decode cX7_append 26 = .ok (.aload_n 0, 1) := by decide +kernel
theorem dX7_append_27 : decode cX7_append 27 = .ok (.getfield 15, 3) := by decide +kernel
theorem dX7_append_30 : decode cX7_append 30 = .ok (.lload_n 1, 1) := by decide +kernel
theorem dX7_append_31 : decode cX7_append 31 = .ok (.bipush 8, 2) := by decide +kernel
theorem dX7_append_33 : decode cX7_append 33 = .ok (.iload 4, 2) := by decide +kernel
theorem dX7_append_35 : decode cX7_append 35 = .ok (.imul, 1) := by decide +kernel
theorem dX7_append_36 : decode cX7_append 36 = .ok (.lushr, 1) := by decide +kernel
theorem dX7_append_37 : decode cX7_append 37 = .ok (.l2i, 1) := by decide +kernel
theorem dX7_append_38 : decode cX7_append 38 = .ok (.i2b, 1) := by decide +kernel
theorem dX7_append_39 : decode cX7_append 39 = .ok (.bastore, 1) := by decide +kernel
theorem dX7_append_40 : decode cX7_append 40 = .ok (.aload_n 0, 1) := by decide +kernel
theorem dX7_append_41 : decode cX7_append 41 = .ok (.dup, 1) := by decide +kernel
theorem dX7_append_42 : decode cX7_append 42 = .ok (.getfield 15, 3) := by decide +kernel
theorem dX7_append_45 : decode cX7_append 45 = .ok (.iconst 1, 1) := by decide +kernel
theorem dX7_append_46 : decode cX7_append 46 = .ok (.iadd, 1) := by decide +kernel
theorem dX7_append_47 : decode cX7_append 47 = .ok (.putfield 15, 3) := by decide +kernel
theorem dX7_append_50 : decode cX7_append 50 = .ok (.iinc 4 (-1), 3) := by decide +kernel
theorem dX7_append_53 : decode cX7_append 53 = .ok (.goto (-48), 3) := by decide +kernel
theorem dX7_append_56 : decode cX7_append 56 = .ok (.aload_n 0, 1) := by decide +kernel
theorem dX7_append_57 : decode cX7_append 57 = .ok (.getfield 15, 3) := by decide +kernel
theorem dX7_append_60 : decode cX7_append 60 = .ok (.ireturn, 1) := by decide +kernel
theorem dX7_read_0 : decode cX7_read 0 = .ok (.aload_n 0, 1) := by decide +kernel
theorem dX7_read_1 : decode cX7_read 1 = .ok (.iconst 0, 1) := by decide +kernel
theorem dX7_read_2 : decode cX7_read 2 = .ok (.putfield 25, 3) := by decide +kernel
theorem dX7_read_5 : decode cX7_read 5 = .ok (.aload_n 0, 1) := by decide +kernel
theorem dX7_read_6 : decode cX7_read 6 = .ok (.iconst 0, 1) := by decide +kernel
theorem dX7_read_7 : decode cX7_read 7 = .ok (.putfield 37, 3) := by decide +kernel
theorem dX7_read_10 : decode cX7_read 10 = .ok (.aload_n 0, 1) := by decide +kernel
theorem dX7_read_11 : decode cX7_read 11 = .ok (.invokevirtual 40, 3) := by decide +kernel
theorem dX7_read_14 : decode cX7_read 14 = .ok (.iconst 1, 1) := by decide +kernel
theorem dX7_read_15 : decode cX7_read 15 = .ok (.istore_n 1, 1) := by decide +kernel
theorem dX7_read_16 : decode cX7_read 16 = .ok (.iconst 0, 1) := by decide +kernel
theorem dX7_read_17 : decode cX7_read 17 = .ok (.istore_n 2, 1) := by decide +kernel
theorem dX7_read_18 : decode cX7_read 18 = .ok (.iload_n 2, 1) := by decide +kernel
theorem dX7_read_19 : decode cX7_read 19 = .ok (.bipush 6, 2) := by decide +kernel
theorem dX7_read_21 : decode cX7_read 21 = .ok (.if_icmp .gt 32, 3) := by decide +kernel
theorem dX7_read_24 : decode cX7_read 24 = .ok (.iload_n 1, 1) := by decide +kernel
theorem dX7_read_25 : decode cX7_read 25 = .ok (.ifCond .eq 28, 3) := by decide +kernel
theorem dX7_read_28 : decode cX7_read 28 = .ok (.iload_n 2, 1) := by decide +kernel
theorem dX7_read_29 : decode cX7_read 29 = .ok (.ifCond .le 13, 3) := by decide +kernel
theorem dX7_read_32 : decode cX7_read 32 = .ok (.aload_n 0, 1) := by decide +kernel
theorem dX7_read_33 : decode cX7_read 33 = .ok (.getfield 31, 3) := by decide +kernel
theorem dX7_read_36 : decode cX7_read 36 = .ok (.ifCond .ne 6, 3) := by decide +kernel
theorem dX7_read_39 : decode cX7_read 39 = .ok (.goto 14, 3) := by decide +kernel
theorem dX7_read_42 : decode cX7_read 42 = .ok (.aload_n 0, 1) := by decide +kernel
theorem dX7_read_43 : decode cX7_read 43 = .ok (.invokevirtual 43, 3) := by decide +kernel
theorem dX7_read_46 : decode cX7_read 46 = .ok (.istore_n 1, 1) := by decide +kernel
theorem dX7_read_47 : decode cX7_read 47 = .ok (.iinc 2 1, 3) := by decide +kernel
theorem dX7_read_50 : decode cX7_read 50 = .ok (.goto (-32), 3) := by decide +kernel
theorem dX7_read_53 : decode cX7_read 53 = .ok (.aload_n 0, 1) := by decide +kernel
theorem dX7_read_54 : decode cX7_read 54 = .ok (.iconst 0, 1) := by decide +kernel
theorem dX7_read_55 : decode cX7_read 55 = .ok (.putfield 15, 3) := by decide +kernel
theorem dX7_read_58 : decode cX7_read 58 = .ok (.iload_n 1, 1) := by decide +kernel
theorem dX7_read_59 : decode cX7_read 59 = .ok (.ifCond .eq 7, 3) := by decide +kernel
theorem dX7_read_62 : decode cX7_read 62 = .ok (.iconst (-1), 1) := by decide +kernel
theorem dX7_read_63 : decode cX7_read 63 = .ok (.goto 7, 3) := by decide +kernel
theorem dX7_read_66 : decode cX7_read 66 = .ok (.aload_n 0, 1) := by decide +kernel
theorem dX7_read_67 : decode cX7_read 67 = .ok (.getfield 34, 3) := by decide +kernel
theorem dX7_read_70 : decode cX7_read 70 = .ok (.ireturn, 1) := by decide +kernel
theorem dX7_readPerson_0 : decode cX7_readPerson 0 = .ok (.aload_n 0, 1) := by decide +kernel
theorem dX7_readPerson_1 : decode cX7_readPerson 1 = .ok (.ldc 47, 2) := by decide +kernel
theorem dX7_readPerson_3 : decode cX7_readPerson 3 = .ok (.invokevirtual 49, 3) := by decide +kernel
theorem dX7_readPerson_6 : decode cX7_readPerson 6 = .ok (.ifCond .ne 9, 3) := by decide +kernel
theorem dX7_readPerson_9 : decode cX7_readPerson 9 = .ok (.aload_n 0, 1) := by decide +kernel
theorem dX7_readPerson_10 : decode cX7_readPerson 10 = .ok (.iconst 1, 1) := by decide +kernel
theorem dX7_readPerson_11 : decode cX7_readPerson 11 = .ok (.invokevirtual 53, 3) := by decide +kernel
theorem dX7_readPerson_14 : decode cX7_readPerson 14 = .ok (.ireturn, 1) := by decide +kernel
theorem dX7_readPerson_15 : decode cX7_readPerson 15 = .ok (.aload_n 0, 1) := by decide +kernel
theorem dX7_readPerson_16 : decode cX7_readPerson 16 = .ok (.getfield 25, 3) := by decide +kernel
theorem dX7_readPerson_19 : decode cX7_readPerson 19 = .ok (.aload_n 0, 1) := by decide +kernel
theorem dX7_readPerson_20 : decode cX7_readPerson 20 = .ok (.getfield 21, 3) := by decide +kernel
theorem dX7_readPerson_23 : decode cX7_readPerson 23 = .ok (.arraylength, 1) := by decide +kernel
theorem dX7_readPerson_24 : decode cX7_readPerson 24 = .ok (.if_icmp .lt 9, 3) := by decide +kernel
theorem dX7_readPerson_27 : decode cX7_readPerson 27 = .ok (.aload_n 0, 1) := by decide +kernel
theorem dX7_readPerson_28 : decode cX7_readPerson 28 = .ok (.iconst 3, 1) := by decide +kernel
theorem dX7_readPerson_29 : decode cX7_readPerson 29 = .ok (.invokevirtual 53, 3) := by decide +kernel
theorem dX7_readPerson_32 : decode cX7_readPerson 32 = .ok (.ireturn, 1) := by decide +kernel
theorem dX7_readPerson_33 : decode cX7_readPerson 33 = .ok (.aload_n 0, 1) := by decide +kernel
theorem dX7_readPerson_34 : decode cX7_readPerson 34 = .ok (.invokevirtual 40, 3) := by decide +kernel
theorem dX7_readPerson_37 : decode cX7_readPerson 37 = .ok (.aload_n 0, 1) := by decide +kernel
theorem dX7_readPerson_38 : decode cX7_readPerson 38 = .ok (.invokevirtual 57, 3) := by decide +kernel
theorem dX7_readPerson_41 : decode cX7_readPerson 41 = .ok (.istore_n 1, 1) := by decide +kernel
theorem dX7_readPerson_42 : decode cX7_readPerson 42 = .ok (.iload_n 1, 1) := by decide +kernel
theorem dX7_readPerson_43 : decode cX7_readPerson 43 = .ok (.ifCond .ne 9, 3) := by decide +kernel
theorem dX7_readPerson_46 : decode cX7_readPerson 46 = .ok (.aload_n 0, 1) := by decide +kernel
theorem dX7_readPerson_47 : decode cX7_readPerson 47 = .ok (.iconst 1, 1) := by decide +kernel
theorem dX7_readPerson_48 : decode cX7_readPerson 48 = .ok (.invokevirtual 53, 3) := by decide +kernel
theorem dX7_readPerson_51 : decode cX7_readPerson 51 = .ok (.ireturn, 1) := by decide +kernel
theorem dX7_readPerson_52 : decode cX7_readPerson 52 = .ok (.aload_n 0, 1) := by decide +kernel
theorem dX7_readPerson_53 : decode cX7_readPerson 53 = .ok (.invokevirtual 40, 3) := by decide +kernel
theorem dX7_readPerson_56 : decode cX7_readPerson 56 = .ok (.aload_n 0, 1) := by decide +kernel
theorem dX7_readPerson_57 : decode cX7_readPerson 57 = .ok (.iconst 5, 1) := by decide +kernel
theorem dX7_readPerson_58 : decode cX7_readPerson 58 = .ok (.invokevirtual 61, 3) := by decide +kernel
theorem dX7_readPerson_61 : decode cX7_readPerson 61 = .ok (.ifCond .ne 5, 3) := by decide +kernel
theorem dX7_readPerson_64 : decode cX7_readPerson 64 = .ok (.iconst 0, 1) := by decide +kernel
theorem dX7_readPerson_65 : decode cX7_readPerson 65 = .ok (.ireturn, 1) := by decide +kernel
theorem dX7_readPerson_66 : decode cX7_readPerson 66 = .ok (.aload_n 0, 1) := by decide +kernel
theorem dX7_readPerson_67 : decode cX7_readPerson 67 = .ok (.invokevirtual 64, 3) := by decide +kernel
theorem dX7_readPerson_70 : decode cX7_readPerson 70 = .ok (.istore_n 2, 1) := by decide +kernel
theorem dX7_readPerson_71 : decode cX7_readPerson 71 = .ok (.aload_n 0, 1) := by decide +kernel
theorem dX7_readPerson_72 : decode cX7_readPerson 72 = .ok (.invokevirtual 40, 3) := by decide +kernel
theorem dX7_readPerson_75 : decode cX7_readPerson 75 = .ok (.aload_n 0, 1) := by decide +kernel
theorem dX7_readPerson_76 : decode cX7_readPerson 76 = .ok (.bipush 9, 2) := by decide +kernel
theorem dX7_readPerson_78 : decode cX7_readPerson 78 = .ok (.invokevirtual 61, 3) := by decide +kernel
theorem dX7_readPerson_81 : decode cX7_readPerson 81 = .ok (.ifCond .ne 5, 3) := by decide +kernel
theorem dX7_readPerson_84 : decode cX7_readPerson 84 = .ok (.iconst 0, 1) := by decide +kernel
theorem dX7_readPerson_85 : decode cX7_readPerson 85 = .ok (.ireturn, 1) := by decide +kernel
theorem dX7_readPerson_86 : decode cX7_readPerson 86 = .ok (.aload_n 0, 1) := by decide +kernel
theorem dX7_readPerson_87 : decode cX7_readPerson 87 = .ok (.invokevirtual 64, 3) := by decide +kernel
theorem dX7_readPerson_90 : decode cX7_readPerson 90 = .ok (.istore_n 3, 1) := by decide +kernel
theorem dX7_readPerson_91 : decode cX7_readPerson 91 = .ok (.aload_n 0, 1) := by decide +kernel
theorem dX7_readPerson_92 : decode cX7_readPerson 92 = .ok (.invokevirtual 40, 3) := by decide +kernel
theorem dX7_readPerson_95 : decode cX7_readPerson 95 = .ok (.aload_n 0, 1) := by decide +kernel
theorem dX7_readPerson_96 : decode cX7_readPerson 96 = .ok (.getfield 31, 3) := by decide +kernel
theorem dX7_readPerson_99 : decode cX7_readPerson 99 = .ok (.iconst 3, 1) := by decide +kernel
theorem dX7_readPerson_100 : decode cX7_readPerson 100 = .ok (.if_icmp .eq 9, 3) := by decide +kernel
theorem dX7_readPerson_103 : decode cX7_readPerson 103 = .ok (.aload_n 0, 1) := by decide +kernel
theorem dX7_readPerson_104 : decode cX7_readPerson 104 = .ok (.iconst 1, 1) := by decide +kernel
theorem dX7_readPerson_105 : decode cX7_readPerson 105 = .ok (.invokevirtual 53, 3) := by decide +kernel
theorem dX7_readPerson_108 : decode cX7_readPerson 108 = .ok (.ireturn, 1) := by decide +kernel
theorem dX7_readPerson_109 : decode cX7_readPerson 109 = .ok (.aload_n 0, 1) := by decide +kernel
theorem dX7_readPerson_110 : decode cX7_readPerson 110 = .ok (.getfield 21, 3) := by decide +kernel
theorem dX7_readPerson_113 : decode cX7_readPerson 113 = .ok (.aload_n 0, 1) := by decide +kernel
theorem dX7_readPerson_114 : decode cX7_readPerson 114 = .ok (.getfield 25, 3) := by decide +kernel
theorem dX7_readPerson_117 : decode cX7_readPerson 117 = .ok (.iload_n 1, 1) := by decide +kernel
theorem dX7_readPerson_118 : decode cX7_readPerson 118 = .ok (.aload_n 0, 1) := by decide +kernel
theorem dX7_readPerson_119 : decode cX7_readPerson 119 = .ok (.getfield 25, 3) := by decide +kernel
theorem dX7_readPerson_122 : decode cX7_readPerson 122 = .ok (.iload_n 2, 1) := by decide +kernel
theorem dX7_readPerson_123 : decode cX7_readPerson 123 = .ok (.iload_n 3, 1) := by decide +kernel
theorem dX7_readPerson_124 : decode cX7_readPerson 124 = .ok (.invokestatic 67, 3) := by decide +kernel
theorem dX7_readPerson_127 : decode cX7_readPerson 127 = .ok (.aastore, 1) := by decide +kernel
theorem dX7_readPerson_128 : decode cX7_readPerson 128 = .ok (.aload_n 0, 1) := by decide +kernel
theorem dX7_readPerson_129 : decode cX7_readPerson 129 = .ok (.dup, 1) := by decide +kernel
theorem dX7_readPerson_130 : decode cX7_readPerson 130 = .ok (.getfield 25, 3) := by decide +kernel
theorem dX7_readPerson_133 : decode cX7_readPerson 133 = .ok (.iconst 1, 1) := by decide +kernel
theorem dX7_readPerson_134 : decode cX7_readPerson 134 = .ok (.iadd, 1) := by decide +kernel
theorem dX7_readPerson_135 : decode cX7_readPerson 135 = .ok (.putfield 25, 3) := by decide +kernel
theorem dX7_readPerson_138 : decode cX7_readPerson 138 = .ok (.aload_n 0, 1) := by decide +kernel
theorem dX7_readPerson_139 : decode cX7_readPerson 139 = .ok (.invokevirtual 40, 3) := by decide +kernel
theorem dX7_readPerson_142 : decode cX7_readPerson 142 = .ok (.iconst 1, 1) := by decide +kernel
theorem dX7_readPerson_143 : decode cX7_readPerson 143 = .ok (.ireturn, 1) := by decide +kernel
theorem dX7_faulty_0 : decode cX7_faulty 0 = .ok (.aload_n 0, 1) := by decide +kernel
theorem dX7_faulty_1 : decode cX7_faulty 1 = .ok (.iload_n 1, 1) := by decide +kernel
theorem dX7_faulty_2 : decode cX7_faulty 2 = .ok (.putfield 28, 3) := by decide +kernel
theorem dX7_faulty_5 : decode cX7_faulty 5 = .ok (.iconst 0, 1) := by decide +kernel
theorem dX7_faulty_6 : decode cX7_faulty 6 = .ok (.ireturn, 1) := by decide +kernel
theorem dX7_isNumberUpTo_0 : decode cX7_isNumberUpTo 0 = .ok (.aload_n 0, 1) := by decide +kernel
theorem dX7_isNumberUpTo_1 : decode cX7_isNumberUpTo 1 = .ok (.getfield 31, 3) := by decide +kernel
theorem dX7_isNumberUpTo_4 : decode cX7_isNumberUpTo 4 = .ok (.iconst 2, 1) := by decide +kernel
theorem dX7_isNumberUpTo_5 : decode cX7_isNumberUpTo 5 = .ok (.if_icmp .eq 9, 3) := by decide +kernel
theorem dX7_isNumberUpTo_8 : decode cX7_isNumberUpTo 8 = .ok (.aload_n 0, 1) := by decide +kernel
theorem dX7_isNumberUpTo_9 : decode cX7_isNumberUpTo 9 = .ok (.iconst 1, 1) := by decide +kernel
theorem dX7_isNumberUpTo_10 : decode cX7_isNumberUpTo 10 = .ok (.invokevirtual 53, 3) := by decide +kernel
theorem dX7_isNumberUpTo_13 : decode cX7_isNumberUpTo 13 = .ok (.ireturn, 1) := by decide +kernel
theorem dX7_isNumberUpTo_14 : decode cX7_isNumberUpTo 14 = .ok (.aload_n 0, 1) := by decide +kernel
theorem dX7_isNumberUpTo_15 : decode cX7_isNumberUpTo 15 = .ok (.invokevirtual 64, 3) := by decide +kernel
theorem dX7_isNumberUpTo_18 : decode cX7_isNumberUpTo 18 = .ok (.iload_n 1, 1) := by decide +kernel
theorem dX7_isNumberUpTo_19 : decode cX7_isNumberUpTo 19 = .ok (.if_icmp .le 11, 3) := by decide +kernel
theorem dX7_isNumberUpTo_22 : decode cX7_isNumberUpTo 22 = .ok (.aload_n 0, 1) := by decide +kernel
theorem dX7_isNumberUpTo_23 : decode cX7_isNumberUpTo 23 = .ok (.iconst 2, 1) := by decide +kernel
theorem dX7_isNumberUpTo_24 : decode cX7_isNumberUpTo 24 = .ok (.invokevirtual 53, 3) := by decide +kernel
theorem dX7_isNumberUpTo_27 : decode cX7_isNumberUpTo 27 = .ok (.ifCond .eq 7, 3) := by decide +kernel
theorem dX7_isNumberUpTo_30 : decode cX7_isNumberUpTo 30 = .ok (.iconst 1, 1) := by decide +kernel
theorem dX7_isNumberUpTo_31 : decode cX7_isNumberUpTo 31 = .ok (.goto 4, 3) := by decide +kernel
theorem dX7_isNumberUpTo_34 : decode cX7_isNumberUpTo 34 = .ok (.iconst 0, 1) := by decide +kernel
theorem dX7_isNumberUpTo_35 : decode cX7_isNumberUpTo 35 = .ok (.ireturn, 1) := by decide +kernel
theorem dX7_kindAtHand_0 : decode cX7_kindAtHand 0 = .ok (.aload_n 0, 1) := by decide +kernel
theorem dX7_kindAtHand_1 : decode cX7_kindAtHand 1 = .ok (.ldc 71, 2) := by decide +kernel
theorem dX7_kindAtHand_3 : decode cX7_kindAtHand 3 = .ok (.invokevirtual 49, 3) := by decide +kernel
end
section
theorem dX7_kindAtHand_6 : decode cX7_kindAtHand 6 = .ok (.ifCond .eq 5, 3) := by decide +kernel
theorem dX7_kindAtHand_9 : decode cX7_kindAtHand 9 = .ok (.iconst 1, 1) := by decide +kernel
theorem dX7_kindAtHand_10 : decode cX7_kindAtHand 10 = .ok (.ireturn, 1) := by decide +kernel
theorem dX7_kindAtHand_11 : decode cX7_kindAtHand 11 = .ok (.aload_n 0, 1) := by decide +kernel
theorem dX7_kindAtHand_12 : decode cX7_kindAtHand 12 = .ok (.ldc 73, 2) := by decide +kernel
theorem dX7_kindAtHand_14 : decode cX7_kindAtHand 14 = .ok (.invokevirtual 49, 3) := by decide +kernel
theorem dX7_kindAtHand_17 : decode cX7_kindAtHand 17 = .ok (.ifCond .eq 5, 3) := by decide +kernel
theorem dX7_kindAtHand_20 : decode cX7_kindAtHand 20 = .ok (.iconst 2, 1) := by decide +kernel
theorem dX7_kindAtHand_21 : decode cX7_kindAtHand 21 = .ok (.ireturn, 1) := by decide +kernel
theorem dX7_kindAtHand_22 : decode cX7_kindAtHand 22 = .ok (.aload_n 0, 1) := by decide +kernel
theorem dX7_kindAtHand_23 : decode cX7_kindAtHand 23 = .ok (.ldc 75, 2) := by decide +kernel
theorem dX7_kindAtHand_25 : decode cX7_kindAtHand 25 = .ok (.invokevirtual 49, 3) := by decide +kernel
theorem dX7_kindAtHand_28 : decode cX7_kindAtHand 28 = .ok (.ifCond .eq 5, 3) := by decide +kernel
theorem dX7_kindAtHand_31 : decode cX7_kindAtHand 31 = .ok (.iconst 3, 1) := by decide +kernel
theorem dX7_kindAtHand_32 : decode cX7_kindAtHand 32 = .ok (.ireturn, 1) := by decide +kernel
theorem dX7_kindAtHand_33 : decode cX7_kindAtHand 33 = .ok (.aload_n 0, 1) := by decide +kernel
theorem dX7_kindAtHand_34 : decode cX7_kindAtHand 34 = .ok (.ldc 77, 2) := by decide +kernel
theorem dX7_kindAtHand_36 : decode cX7_kindAtHand 36 = .ok (.invokevirtual 49, 3) := by decide +kernel
theorem dX7_kindAtHand_39 : decode cX7_kindAtHand 39 = .ok (.ifCond .eq 5, 3) := by decide +kernel
theorem dX7_kindAtHand_42 : decode cX7_kindAtHand 42 = .ok (.iconst 4, 1) := by decide +kernel
theorem dX7_kindAtHand_43 : decode cX7_kindAtHand 43 = .ok (.ireturn, 1) := by decide +kernel
theorem dX7_kindAtHand_44 : decode cX7_kindAtHand 44 = .ok (.aload_n 0, 1) := by decide +kernel
theorem dX7_kindAtHand_45 : decode cX7_kindAtHand 45 = .ok (.ldc 79, 2) := by decide +kernel
theorem dX7_kindAtHand_47 : decode cX7_kindAtHand 47 = .ok (.invokevirtual 49, 3) := by decide +kernel
theorem dX7_kindAtHand_50 : decode cX7_kindAtHand 50 = .ok (.ifCond .eq 7, 3) := by decide +kernel
theorem dX7_kindAtHand_53 : decode cX7_kindAtHand 53 = .ok (.iconst 5, 1) := by decide +kernel
theorem dX7_kindAtHand_54 : decode cX7_kindAtHand 54 = .ok (.goto 4, 3) := by decide +kernel
theorem dX7_kindAtHand_57 : decode cX7_kindAtHand 57 = .ok (.iconst 0, 1) := by decide +kernel
theorem dX7_kindAtHand_58 : decode cX7_kindAtHand 58 = .ok (.ireturn, 1) := by decide +kernel
theorem dX7_newPerson_0 : decode cX7_newPerson 0 = .ok (.iload_n 0, 1) := by decide +kernel
theorem dX7_newPerson_1 : decode cX7_newPerson 1 = .ok (.tableswitch 75 1 4 #[31, 42, 53, 64], 31) := by decide +kernel
theorem dX7_newPerson_32 : decode cX7_newPerson 32 = .ok (.new 81, 3) := by decide +kernel
theorem dX7_newPerson_35 : decode cX7_newPerson 35 = .ok (.dup, 1) := by decide +kernel
theorem dX7_newPerson_36 : decode cX7_newPerson 36 = .ok (.iload_n 1, 1) := by decide +kernel
theorem dX7_newPerson_37 : decode cX7_newPerson 37 = .ok (.iload_n 2, 1) := by decide +kernel
theorem dX7_newPerson_38 : decode cX7_newPerson 38 = .ok (.iload_n 3, 1) := by decide +kernel
theorem dX7_newPerson_39 : decode cX7_newPerson 39 = .ok (.invokespecial 83, 3) := by decide +kernel
theorem dX7_newPerson_42 : decode cX7_newPerson 42 = .ok (.areturn, 1) := by decide +kernel
theorem dX7_newPerson_43 : decode cX7_newPerson 43 = .ok (.new 86, 3) := by decide +kernel
theorem dX7_newPerson_46 : decode cX7_newPerson 46 = .ok (.dup, 1) := by decide +kernel
theorem dX7_newPerson_47 : decode cX7_newPerson 47 = .ok (.iload_n 1, 1) := by decide +kernel
theorem dX7_newPerson_48 : decode cX7_newPerson 48 = .ok (.iload_n 2, 1) := by decide +kernel
theorem dX7_newPerson_49 : decode cX7_newPerson 49 = .ok (.iload_n 3, 1) := by decide +kernel
theorem dX7_newPerson_50 : decode cX7_newPerson 50 = .ok (.invokespecial 88, 3) := by decide +kernel
theorem dX7_newPerson_53 : decode cX7_newPerson 53 = .ok (.areturn, 1) := by decide +kernel
theorem dX7_newPerson_54 : decode cX7_newPerson 54 = .ok (.new 89, 3) := by decide +kernel
theorem dX7_newPerson_57 : decode cX7_newPerson 57 = .ok (.dup, 1) := by decide +kernel
theorem dX7_newPerson_58 : decode cX7_newPerson 58 = .ok (.iload_n 1, 1) := by decide +kernel
theorem dX7_newPerson_59 : decode cX7_newPerson 59 = .ok (.iload_n 2, 1) := by decide +kernel
theorem dX7_newPerson_60 : decode cX7_newPerson 60 = .ok (.iload_n 3, 1) := by decide +kernel
theorem dX7_newPerson_61 : decode cX7_newPerson 61 = .ok (.invokespecial 91, 3) := by decide +kernel
theorem dX7_newPerson_64 : decode cX7_newPerson 64 = .ok (.areturn, 1) := by decide +kernel
theorem dX7_newPerson_65 : decode cX7_newPerson 65 = .ok (.new 92, 3) := by decide +kernel
theorem dX7_newPerson_68 : decode cX7_newPerson 68 = .ok (.dup, 1) := by decide +kernel
theorem dX7_newPerson_69 : decode cX7_newPerson 69 = .ok (.iload_n 1, 1) := by decide +kernel
theorem dX7_newPerson_70 : decode cX7_newPerson 70 = .ok (.iload_n 2, 1) := by decide +kernel
theorem dX7_newPerson_71 : decode cX7_newPerson 71 = .ok (.iload_n 3, 1) := by decide +kernel
theorem dX7_newPerson_72 : decode cX7_newPerson 72 = .ok (.invokespecial 94, 3) := by decide +kernel
theorem dX7_newPerson_75 : decode cX7_newPerson 75 = .ok (.areturn, 1) := by decide +kernel
theorem dX7_newPerson_76 : decode cX7_newPerson 76 = .ok (.new 95, 3) := by decide +kernel
theorem dX7_newPerson_79 : decode cX7_newPerson 79 = .ok (.dup, 1) := by decide +kernel
theorem dX7_newPerson_80 : decode cX7_newPerson 80 = .ok (.iload_n 1, 1) := by decide +kernel
theorem dX7_newPerson_81 : decode cX7_newPerson 81 = .ok (.iload_n 2, 1) := by decide +kernel
theorem dX7_newPerson_82 : decode cX7_newPerson 82 = .ok (.iload_n 3, 1) := by decide +kernel
theorem dX7_newPerson_83 : decode cX7_newPerson 83 = .ok (.invokespecial 97, 3) := by decide +kernel
theorem dX7_newPerson_86 : decode cX7_newPerson 86 = .ok (.areturn, 1) := by decide +kernel
theorem dX7_step_0 : decode cX7_step 0 = .ok (.aload_n 0, 1) := by decide +kernel
theorem dX7_step_1 : decode cX7_step 1 = .ok (.aload_n 0, 1) := by decide +kernel
theorem dX7_step_2 : decode cX7_step 2 = .ok (.getfield 37, 3) := by decide +kernel
theorem dX7_step_5 : decode cX7_step 5 = .ok (.putfield 34, 3) := by decide +kernel
theorem dX7_step_8 : decode cX7_step 8 = .ok (.aload_n 0, 1) := by decide +kernel
theorem dX7_step_9 : decode cX7_step 9 = .ok (.getfield 34, 3) := by decide +kernel
theorem dX7_step_12 : decode cX7_step 12 = .ok (.aload_n 0, 1) := by decide +kernel
theorem dX7_step_13 : decode cX7_step 13 = .ok (.getfield 15, 3) := by decide +kernel
theorem dX7_step_16 : decode cX7_step 16 = .ok (.if_icmp .ge 30, 3) := by decide +kernel
theorem dX7_step_19 : decode cX7_step 19 = .ok (.aload_n 0, 1) := by decide +kernel
theorem dX7_step_20 : decode cX7_step 20 = .ok (.aload_n 0, 1) := by decide +kernel
theorem dX7_step_21 : decode cX7_step 21 = .ok (.getfield 34, 3) := by decide +kernel
theorem dX7_step_24 : decode cX7_step 24 = .ok (.invokevirtual 98, 3) := by decide +kernel
theorem dX7_step_27 : decode cX7_step 27 = .ok (.invokestatic 102, 3) := by decide +kernel
theorem dX7_step_30 : decode cX7_step 30 = .ok (.ifCond .eq 16, 3) := by decide +kernel
theorem dX7_step_33 : decode cX7_step 33 = .ok (.aload_n 0, 1) := by decide +kernel
theorem dX7_step_34 : decode cX7_step 34 = .ok (.dup, 1) := by decide +kernel
theorem dX7_step_35 : decode cX7_step 35 = .ok (.getfield 34, 3) := by decide +kernel
theorem dX7_step_38 : decode cX7_step 38 = .ok (.iconst 1, 1) := by decide +kernel
theorem dX7_step_39 : decode cX7_step 39 = .ok (.iadd, 1) := by decide +kernel
theorem dX7_step_40 : decode cX7_step 40 = .ok (.putfield 34, 3) := by decide +kernel
theorem dX7_step_43 : decode cX7_step 43 = .ok (.goto (-35), 3) := by decide +kernel
theorem dX7_step_46 : decode cX7_step 46 = .ok (.aload_n 0, 1) := by decide +kernel
theorem dX7_step_47 : decode cX7_step 47 = .ok (.aload_n 0, 1) := by decide +kernel
theorem dX7_step_48 : decode cX7_step 48 = .ok (.getfield 34, 3) := by decide +kernel
theorem dX7_step_51 : decode cX7_step 51 = .ok (.iconst 1, 1) := by decide +kernel
theorem dX7_step_52 : decode cX7_step 52 = .ok (.iadd, 1) := by decide +kernel
theorem dX7_step_53 : decode cX7_step 53 = .ok (.putfield 37, 3) := by decide +kernel
theorem dX7_step_56 : decode cX7_step 56 = .ok (.aload_n 0, 1) := by decide +kernel
theorem dX7_step_57 : decode cX7_step 57 = .ok (.getfield 34, 3) := by decide +kernel
theorem dX7_step_60 : decode cX7_step 60 = .ok (.aload_n 0, 1) := by decide +kernel
theorem dX7_step_61 : decode cX7_step 61 = .ok (.getfield 15, 3) := by decide +kernel
theorem dX7_step_64 : decode cX7_step 64 = .ok (.if_icmp .lt 19, 3) := by decide +kernel
theorem dX7_step_67 : decode cX7_step 67 = .ok (.aload_n 0, 1) := by decide +kernel
theorem dX7_step_68 : decode cX7_step 68 = .ok (.aload_n 0, 1) := by decide +kernel
theorem dX7_step_69 : decode cX7_step 69 = .ok (.getfield 34, 3) := by decide +kernel
theorem dX7_step_72 : decode cX7_step 72 = .ok (.putfield 37, 3) := by decide +kernel
theorem dX7_step_75 : decode cX7_step 75 = .ok (.aload_n 0, 1) := by decide +kernel
theorem dX7_step_76 : decode cX7_step 76 = .ok (.iconst 0, 1) := by decide +kernel
theorem dX7_step_77 : decode cX7_step 77 = .ok (.putfield 31, 3) := by decide +kernel
theorem dX7_step_80 : decode cX7_step 80 = .ok (.goto 162, 3) := by decide +kernel
theorem dX7_step_83 : decode cX7_step 83 = .ok (.aload_n 0, 1) := by decide +kernel
theorem dX7_step_84 : decode cX7_step 84 = .ok (.aload_n 0, 1) := by decide +kernel
theorem dX7_step_85 : decode cX7_step 85 = .ok (.getfield 34, 3) := by decide +kernel
theorem dX7_step_88 : decode cX7_step 88 = .ok (.invokevirtual 98, 3) := by decide +kernel
theorem dX7_step_91 : decode cX7_step 91 = .ok (.invokestatic 105, 3) := by decide +kernel
theorem dX7_step_94 : decode cX7_step 94 = .ok (.ifCond .eq 49, 3) := by decide +kernel
theorem dX7_step_97 : decode cX7_step 97 = .ok (.aload_n 0, 1) := by decide +kernel
theorem dX7_step_98 : decode cX7_step 98 = .ok (.getfield 37, 3) := by decide +kernel
theorem dX7_step_101 : decode cX7_step 101 = .ok (.aload_n 0, 1) := by decide +kernel
theorem dX7_step_102 : decode cX7_step 102 = .ok (.getfield 15, 3) := by decide +kernel
theorem dX7_step_105 : decode cX7_step 105 = .ok (.if_icmp .ge 30, 3) := by decide +kernel
theorem dX7_step_108 : decode cX7_step 108 = .ok (.aload_n 0, 1) := by decide +kernel
theorem dX7_step_109 : decode cX7_step 109 = .ok (.aload_n 0, 1) := by decide +kernel
theorem dX7_step_110 : decode cX7_step 110 = .ok (.getfield 37, 3) := by decide +kernel
theorem dX7_step_113 : decode cX7_step 113 = .ok (.invokevirtual 98, 3) := by decide +kernel
theorem dX7_step_116 : decode cX7_step 116 = .ok (.invokestatic 105, 3) := by decide +kernel
theorem dX7_step_119 : decode cX7_step 119 = .ok (.ifCond .eq 16, 3) := by decide +kernel
theorem dX7_step_122 : decode cX7_step 122 = .ok (.aload_n 0, 1) := by decide +kernel
theorem dX7_step_123 : decode cX7_step 123 = .ok (.dup, 1) := by decide +kernel
theorem dX7_step_124 : decode cX7_step 124 = .ok (.getfield 37, 3) := by decide +kernel
theorem dX7_step_127 : decode cX7_step 127 = .ok (.iconst 1, 1) := by decide +kernel
theorem dX7_step_128 : decode cX7_step 128 = .ok (.iadd, 1) := by decide +kernel
theorem dX7_step_129 : decode cX7_step 129 = .ok (.putfield 37, 3) := by decide +kernel
theorem dX7_step_132 : decode cX7_step 132 = .ok (.goto (-35), 3) := by decide +kernel
theorem dX7_step_135 : decode cX7_step 135 = .ok (.aload_n 0, 1) := by decide +kernel
theorem dX7_step_136 : decode cX7_step 136 = .ok (.iconst 1, 1) := by decide +kernel
theorem dX7_step_137 : decode cX7_step 137 = .ok (.putfield 31, 3) := by decide +kernel
theorem dX7_step_140 : decode cX7_step 140 = .ok (.goto 102, 3) := by decide +kernel
theorem dX7_step_143 : decode cX7_step 143 = .ok (.aload_n 0, 1) := by decide +kernel
theorem dX7_step_144 : decode cX7_step 144 = .ok (.aload_n 0, 1) := by decide +kernel
theorem dX7_step_145 : decode cX7_step 145 = .ok (.getfield 34, 3) := by decide +kernel
theorem dX7_step_148 : decode cX7_step 148 = .ok (.invokevirtual 98, 3) := by decide +kernel
theorem dX7_step_151 : decode cX7_step 151 = .ok (.invokestatic 108, 3) := by decide +kernel
theorem dX7_step_154 : decode cX7_step 154 = .ok (.ifCond .eq 66, 3) := by decide +kernel
theorem dX7_step_157 : decode cX7_step 157 = .ok (.aload_n 0, 1) := by decide +kernel
theorem dX7_step_158 : decode cX7_step 158 = .ok (.getfield 37, 3) := by decide +kernel
theorem dX7_step_161 : decode cX7_step 161 = .ok (.aload_n 0, 1) := by decide +kernel
theorem dX7_step_162 : decode cX7_step 162 = .ok (.getfield 15, 3) := by decide +kernel
theorem dX7_step_165 : decode cX7_step 165 = .ok (.if_icmp .ge 30, 3) := by decide +kernel
theorem dX7_step_168 : decode cX7_step 168 = .ok (.aload_n 0, 1) := by decide +kernel
theorem dX7_step_169 : decode cX7_step 169 = .ok (.aload_n 0, 1) := by decide +kernel
theorem dX7_step_170 : decode cX7_step 170 = .ok (.getfield 37, 3) := by decide +kernel
theorem dX7_step_173 : decode cX7_step 173 = .ok (.invokevirtual 98, 3) := by decide +kernel
theorem dX7_step_176 : decode cX7_step 176 = .ok (.invokestatic 108, 3) := by decide +kernel
theorem dX7_step_179 : decode cX7_step 179 = .ok (.ifCond .eq 16, 3) := by decide +kernel
theorem dX7_step_182 : decode cX7_step 182 = .ok (.aload_n 0, 1) := by decide +kernel
theorem dX7_step_183 : decode cX7_step 183 = .ok (.dup, 1) := by decide +kernel
theorem dX7_step_184 : decode cX7_step 184 = .ok (.getfield 37, 3) := by decide +kernel
theorem dX7_step_187 : decode cX7_step 187 = .ok (.iconst 1, 1) := by decide +kernel
theorem dX7_step_188 : decode cX7_step 188 = .ok (.iadd, 1) := by decide +kernel
theorem dX7_step_189 : decode cX7_step 189 = .ok (.putfield 37, 3) := by decide +kernel
theorem dX7_step_192 : decode cX7_step 192 = .ok (.goto (-35), 3) := by decide +kernel
theorem dX7_step_195 : decode cX7_step 195 = .ok (.aload_n 0, 1) := by decide +kernel
theorem dX7_step_196 : decode cX7_step 196 = .ok (.aload_n 0, 1) := by decide +kernel
theorem dX7_step_197 : decode cX7_step 197 = .ok (.getfield 37, 3) := by decide +kernel
theorem dX7_step_200 : decode cX7_step 200 = .ok (.aload_n 0, 1) := by decide +kernel
theorem dX7_step_201 : decode cX7_step 201 = .ok (.getfield 34, 3) := by decide +kernel
theorem dX7_step_204 : decode cX7_step 204 = .ok (.isub, 1) := by decide +kernel
theorem dX7_step_205 : decode cX7_step 205 = .ok (.iconst 3, 1) := by decide +kernel
theorem dX7_step_206 : decode cX7_step 206 = .ok (.if_icmp .gt 7, 3) := by decide +kernel
theorem dX7_step_209 : decode cX7_step 209 = .ok (.iconst 2, 1) := by decide +kernel
theorem dX7_step_210 : decode cX7_step 210 = .ok (.goto 4, 3) := by decide +kernel
theorem dX7_step_213 : decode cX7_step 213 = .ok (.iconst 4, 1) := by decide +kernel
theorem dX7_step_214 : decode cX7_step 214 = .ok (.putfield 31, 3) := by decide +kernel
theorem dX7_step_217 : decode cX7_step 217 = .ok (.goto 25, 3) := by decide +kernel
theorem dX7_step_220 : decode cX7_step 220 = .ok (.aload_n 0, 1) := by decide +kernel
theorem dX7_step_221 : decode cX7_step 221 = .ok (.aload_n 0, 1) := by decide +kernel
theorem dX7_step_222 : decode cX7_step 222 = .ok (.aload_n 0, 1) := by decide +kernel
theorem dX7_step_223 : decode cX7_step 223 = .ok (.getfield 34, 3) := by decide +kernel
theorem dX7_step_226 : decode cX7_step 226 = .ok (.invokevirtual 98, 3) := by decide +kernel
theorem dX7_step_229 : decode cX7_step 229 = .ok (.bipush 59, 2) := by decide +kernel
theorem dX7_step_231 : decode cX7_step 231 = .ok (.if_icmp .ne 7, 3) := by decide +kernel
theorem dX7_step_234 : decode cX7_step 234 = .ok (.iconst 3, 1) := by decide +kernel
theorem dX7_step_235 : decode cX7_step 235 = .ok (.goto 4, 3) := by decide +kernel
theorem dX7_step_238 : decode cX7_step 238 = .ok (.iconst 4, 1) := by decide +kernel
theorem dX7_step_239 : decode cX7_step 239 = .ok (.putfield 31, 3) := by decide +kernel
theorem dX7_step_242 : decode cX7_step 242 = .ok (.return_, 1) := by decide +kernel
theorem dX7_isWord_0 : decode cX7_isWord 0 = .ok (.aload_n 0, 1) := by decide +kernel
theorem dX7_isWord_1 : decode cX7_isWord 1 = .ok (.getfield 31, 3) := by decide +kernel
theorem dX7_isWord_4 : decode cX7_isWord 4 = .ok (.iconst 1, 1) := by decide +kernel
theorem dX7_isWord_5 : decode cX7_isWord 5 = .ok (.if_icmp .ne 19, 3) := by decide +kernel
theorem dX7_isWord_8 : decode cX7_isWord 8 = .ok (.aload_n 0, 1) := by decide +kernel
theorem dX7_isWord_9 : decode cX7_isWord 9 = .ok (.getfield 37, 3) := by decide +kernel
theorem dX7_isWord_12 : decode cX7_isWord 12 = .ok (.aload_n 0, 1) := by decide +kernel
theorem dX7_isWord_13 : decode cX7_isWord 13 = .ok (.getfield 34, 3) := by decide +kernel
theorem dX7_isWord_16 : decode cX7_isWord 16 = .ok (.isub, 1) := by decide +kernel
theorem dX7_isWord_17 : decode cX7_isWord 17 = .ok (.aload_n 1, 1) := by decide +kernel
theorem dX7_isWord_18 : decode cX7_isWord 18 = .ok (.invokevirtual 111, 3) := by decide +kernel
theorem dX7_isWord_21 : decode cX7_isWord 21 = .ok (.if_icmp .eq 5, 3) := by decide +kernel
theorem dX7_isWord_24 : decode cX7_isWord 24 = .ok (.iconst 0, 1) := by decide +kernel
theorem dX7_isWord_25 : decode cX7_isWord 25 = .ok (.ireturn, 1) := by decide +kernel
theorem dX7_isWord_26 : decode cX7_isWord 26 = .ok (.iconst 0, 1) := by decide +kernel
theorem dX7_isWord_27 : decode cX7_isWord 27 = .ok (.istore_n 2, 1) := by decide +kernel
theorem dX7_isWord_28 : decode cX7_isWord 28 = .ok (.iload_n 2, 1) := by decide +kernel
theorem dX7_isWord_29 : decode cX7_isWord 29 = .ok (.aload_n 1, 1) := by decide +kernel
theorem dX7_isWord_30 : decode cX7_isWord 30 = .ok (.invokevirtual 111, 3) := by decide +kernel
theorem dX7_isWord_33 : decode cX7_isWord 33 = .ok (.if_icmp .ge 29, 3) := by decide +kernel
theorem dX7_isWord_36 : decode cX7_isWord 36 = .ok (.aload_n 0, 1) := by decide +kernel
theorem dX7_isWord_37 : decode cX7_isWord 37 = .ok (.aload_n 0, 1) := by decide +kernel
theorem dX7_isWord_38 : decode cX7_isWord 38 = .ok (.getfield 34, 3) := by decide +kernel
theorem dX7_isWord_41 : decode cX7_isWord 41 = .ok (.iload_n 2, 1) := by decide +kernel
theorem dX7_isWord_42 : decode cX7_isWord 42 = .ok (.iadd, 1) := by decide +kernel
theorem dX7_isWord_43 : decode cX7_isWord 43 = .ok (.invokevirtual 98, 3) := by decide +kernel
theorem dX7_isWord_46 : decode cX7_isWord 46 = .ok (.aload_n 1, 1) := by decide +kernel
theorem dX7_isWord_47 : decode cX7_isWord 47 = .ok (.iload_n 2, 1) := by decide +kernel
theorem dX7_isWord_48 : decode cX7_isWord 48 = .ok (.invokevirtual 115, 3) := by decide +kernel
theorem dX7_isWord_51 : decode cX7_isWord 51 = .ok (.if_icmp .eq 5, 3) := by decide +kernel
theorem dX7_isWord_54 : decode cX7_isWord 54 = .ok (.iconst 0, 1) := by decide +kernel
theorem dX7_isWord_55 : decode cX7_isWord 55 = .ok (.ireturn, 1) := by decide +kernel
theorem dX7_isWord_56 : decode cX7_isWord 56 = .ok (.iinc 2 1, 3) := by decide +kernel
theorem dX7_isWord_59 : decode cX7_isWord 59 = .ok (.goto (-31), 3) := by decide +kernel
theorem dX7_isWord_62 : decode cX7_isWord 62 = .ok (.iconst 1, 1) := by decide +kernel
theorem dX7_isWord_63 : decode cX7_isWord 63 = .ok (.ireturn, 1) := by decide +kernel
theorem dX7_numberAtHand_0 : decode cX7_numberAtHand 0 = .ok (.iconst 0, 1) := by decide +kernel
theorem dX7_numberAtHand_1 : decode cX7_numberAtHand 1 = .ok (.istore_n 1, 1) := by decide +kernel
theorem dX7_numberAtHand_2 : decode cX7_numberAtHand 2 = .ok (.aload_n 0, 1) := by decide +kernel
theorem dX7_numberAtHand_3 : decode cX7_numberAtHand 3 = .ok (.getfield 34, 3) := by decide +kernel
theorem dX7_numberAtHand_6 : decode cX7_numberAtHand 6 = .ok (.istore_n 2, 1) := by decide +kernel
theorem dX7_numberAtHand_7 : decode cX7_numberAtHand 7 = .ok (.iload_n 2, 1) := by decide +kernel
theorem dX7_numberAtHand_8 : decode cX7_numberAtHand 8 = .ok (.aload_n 0, 1) := by decide +kernel
theorem dX7_numberAtHand_9 : decode cX7_numberAtHand 9 = .ok (.getfield 37, 3) := by decide +kernel
theorem dX7_numberAtHand_12 : decode cX7_numberAtHand 12 = .ok (.if_icmp .ge 23, 3) := by decide +kernel
theorem dX7_numberAtHand_15 : decode cX7_numberAtHand 15 = .ok (.bipush 10, 2) := by decide +kernel
theorem dX7_numberAtHand_17 : decode cX7_numberAtHand 17 = .ok (.iload_n 1, 1) := by decide +kernel
theorem dX7_numberAtHand_18 : decode cX7_numberAtHand 18 = .ok (.imul, 1) := by decide +kernel
theorem dX7_numberAtHand_19 : decode cX7_numberAtHand 19 = .ok (.aload_n 0, 1) := by decide +kernel
theorem dX7_numberAtHand_20 : decode cX7_numberAtHand 20 = .ok (.iload_n 2, 1) := by decide +kernel
theorem dX7_numberAtHand_21 : decode cX7_numberAtHand 21 = .ok (.invokevirtual 98, 3) := by decide +kernel
theorem dX7_numberAtHand_24 : decode cX7_numberAtHand 24 = .ok (.bipush 48, 2) := by decide +kernel
theorem dX7_numberAtHand_26 : decode cX7_numberAtHand 26 = .ok (.isub, 1) := by decide +kernel
theorem dX7_numberAtHand_27 : decode cX7_numberAtHand 27 = .ok (.iadd, 1) := by decide +kernel
theorem dX7_numberAtHand_28 : decode cX7_numberAtHand 28 = .ok (.istore_n 1, 1) := by decide +kernel
theorem dX7_numberAtHand_29 : decode cX7_numberAtHand 29 = .ok (.iinc 2 1, 3) := by decide +kernel
theorem dX7_numberAtHand_32 : decode cX7_numberAtHand 32 = .ok (.goto (-25), 3) := by decide +kernel
theorem dX7_numberAtHand_35 : decode cX7_numberAtHand 35 = .ok (.iload_n 1, 1) := by decide +kernel
theorem dX7_numberAtHand_36 : decode cX7_numberAtHand 36 = .ok (.ireturn, 1) := by decide +kernel
theorem dX7_byteAt_0 : decode cX7_byteAt 0 = .ok (.iload_n 1, 1) := by decide +kernel
theorem dX7_byteAt_1 : decode cX7_byteAt 1 = .ok (.ifCond .lt 20, 3) := by decide +kernel
theorem dX7_byteAt_4 : decode cX7_byteAt 4 = .ok (.iload_n 1, 1) := by decide +kernel
theorem dX7_byteAt_5 : decode cX7_byteAt 5 = .ok (.aload_n 0, 1) := by decide +kernel
theorem dX7_byteAt_6 : decode cX7_byteAt 6 = .ok (.getfield 15, 3) := by decide +kernel
theorem dX7_byteAt_9 : decode cX7_byteAt 9 = .ok (.if_icmp .ge 12, 3) := by decide +kernel
theorem dX7_byteAt_12 : decode cX7_byteAt 12 = .ok (.iload_n 1, 1) := by decide +kernel
theorem dX7_byteAt_13 : decode cX7_byteAt 13 = .ok (.aload_n 0, 1) := by decide +kernel
theorem dX7_byteAt_14 : decode cX7_byteAt 14 = .ok (.getfield 11, 3) := by decide +kernel
theorem dX7_byteAt_17 : decode cX7_byteAt 17 = .ok (.arraylength, 1) := by decide +kernel
theorem dX7_byteAt_18 : decode cX7_byteAt 18 = .ok (.if_icmp .lt 7, 3) := by decide +kernel
theorem dX7_byteAt_21 : decode cX7_byteAt 21 = .ok (.iconst 0, 1) := by decide +kernel
theorem dX7_byteAt_22 : decode cX7_byteAt 22 = .ok (.goto 9, 3) := by decide +kernel
theorem dX7_byteAt_25 : decode cX7_byteAt 25 = .ok (.aload_n 0, 1) := by decide +kernel
theorem dX7_byteAt_26 : decode cX7_byteAt 26 = .ok (.getfield 11, 3) := by decide +kernel
theorem dX7_byteAt_29 : decode cX7_byteAt 29 = .ok (.iload_n 1, 1) := by decide +kernel
theorem dX7_byteAt_30 : decode cX7_byteAt 30 = .ok (.baload, 1) := by decide +kernel
theorem dX7_byteAt_31 : decode cX7_byteAt 31 = .ok (.ireturn, 1) := by decide +kernel
theorem dX7_isBlank_0 : decode cX7_isBlank 0 = .ok (.iload_n 0, 1) := by decide +kernel
theorem dX7_isBlank_1 : decode cX7_isBlank 1 = .ok (.bipush 32, 2) := by decide +kernel
theorem dX7_isBlank_3 : decode cX7_isBlank 3 = .ok (.if_icmp .eq 9, 3) := by decide +kernel
theorem dX7_isBlank_6 : decode cX7_isBlank 6 = .ok (.iload_n 0, 1) := by decide +kernel
theorem dX7_isBlank_7 : decode cX7_isBlank 7 = .ok (.bipush 10, 2) := by decide +kernel
theorem dX7_isBlank_9 : decode cX7_isBlank 9 = .ok (.if_icmp .ne 7, 3) := by decide +kernel
theorem dX7_isBlank_12 : decode cX7_isBlank 12 = .ok (.iconst 1, 1) := by decide +kernel
theorem dX7_isBlank_13 : decode cX7_isBlank 13 = .ok (.goto 4, 3) := by decide +kernel
theorem dX7_isBlank_16 : decode cX7_isBlank 16 = .ok (.iconst 0, 1) := by decide +kernel
theorem dX7_isBlank_17 : decode cX7_isBlank 17 = .ok (.ireturn, 1) := by decide +kernel
theorem dX7_isLetter_0 : decode cX7_isLetter 0 = .ok (.iload_n 0, 1) := by decide +kernel
theorem dX7_isLetter_1 : decode cX7_isLetter 1 = .ok (.bipush 97, 2) := by decide +kernel
theorem dX7_isLetter_3 : decode cX7_isLetter 3 = .ok (.if_icmp .lt 13, 3) := by decide +kernel
theorem dX7_isLetter_6 : decode cX7_isLetter 6 = .ok (.iload_n 0, 1) := by decide +kernel
theorem dX7_isLetter_7 : decode cX7_isLetter 7 = .ok (.bipush 122, 2) := by decide +kernel
theorem dX7_isLetter_9 : decode cX7_isLetter 9 = .ok (.if_icmp .gt 7, 3) := by decide +kernel
theorem dX7_isLetter_12 : decode cX7_isLetter 12 = .ok (.iconst 1, 1) := by decide +kernel
theorem dX7_isLetter_13 : decode cX7_isLetter 13 = .ok (.goto 4, 3) := by decide +kernel
theorem dX7_isLetter_16 : decode cX7_isLetter 16 = .ok (.iconst 0, 1) := by decide +kernel
theorem dX7_isLetter_17 : decode cX7_isLetter 17 = .ok (.ireturn, 1) := by decide +kernel
theorem dX7_isFigure_0 : decode cX7_isFigure 0 = .ok (.iload_n 0, 1) := by decide +kernel
theorem dX7_isFigure_1 : decode cX7_isFigure 1 = .ok (.bipush 48, 2) := by decide +kernel
theorem dX7_isFigure_3 : decode cX7_isFigure 3 = .ok (.if_icmp .lt 13, 3) := by decide +kernel
theorem dX7_isFigure_6 : decode cX7_isFigure 6 = .ok (.iload_n 0, 1) := by decide +kernel
theorem dX7_isFigure_7 : decode cX7_isFigure 7 = .ok (.bipush 57, 2) := by decide +kernel
theorem dX7_isFigure_9 : decode cX7_isFigure 9 = .ok (.if_icmp .gt 7, 3) := by decide +kernel
theorem dX7_isFigure_12 : decode cX7_isFigure 12 = .ok (.iconst 1, 1) := by decide +kernel
theorem dX7_isFigure_13 : decode cX7_isFigure 13 = .ok (.goto 4, 3) := by decide +kernel
theorem dX7_isFigure_16 : decode cX7_isFigure 16 = .ok (.iconst 0, 1) := by decide +kernel
theorem dX7_isFigure_17 : decode cX7_isFigure 17 = .ok (.ireturn, 1) := by decide +kernel
theorem dX8_init_0 : decode cX8_init 0 = .ok (.aload_n 0, 1) := by decide +kernel
theorem dX8_init_1 : decode cX8_init 1 = .ok (.invokespecial 3, 3) := by decide +kernel
theorem dX8_init_4 : decode cX8_init 4 = .ok (.aload_n 0, 1) := by decide +kernel
theorem dX8_init_5 : decode cX8_init 5 = .ok (.bipush 6, 2) := by decide +kernel
theorem dX8_init_7 : decode cX8_init 7 = .ok (.anewarray 9, 3) := by decide +kernel
theorem dX8_init_10 : decode cX8_init 10 = .ok (.putfield 11, 3) := by decide +kernel
theorem dX8_init_13 : decode cX8_init 13 = .ok (.aload_n 0, 1) := by decide +kernel
theorem dX8_init_14 : decode cX8_init 14 = .ok (.iconst 0, 1) := by decide +kernel
theorem dX8_init_15 : decode cX8_init 15 = .ok (.putfield 17, 3) := by decide +kernel
theorem dX8_init_18 : decode cX8_init 18 = .ok (.aload_n 0, 1) := by decide +kernel
theorem dX8_init_19 : decode cX8_init 19 = .ok (.iconst 0, 1) := by decide +kernel
theorem dX8_init_20 : decode cX8_init 20 = .ok (.putfield 21, 3) := by decide +kernel
theorem dX8_init_23 : decode cX8_init 23 = .ok (.aload_n 0, 1) := by decide +kernel
theorem dX8_init_24 : decode cX8_init 24 = .ok (.iconst 0, 1) := by decide +kernel
theorem dX8_init_25 : decode cX8_init 25 = .ok (.putfield 24, 3) := by decide +kernel
theorem dX8_init_28 : decode cX8_init 28 = .ok (.aload_n 0, 1) := by decide +kernel
theorem dX8_init_29 : decode cX8_init 29 = .ok (.bipush 64, 2) := by decide +kernel
theorem dX8_init_31 : decode cX8_init 31 = .ok (.newarray .int, 2) := by decide +kernel
theorem dX8_init_33 : decode cX8_init 33 = .ok (.putfield 27, 3) := by decide +kernel
theorem dX8_init_36 : decode cX8_init 36 = .ok (.aload_n 0, 1) := by decide +kernel
theorem dX8_init_37 : decode cX8_init 37 = .ok (.iconst 0, 1) := by decide +kernel
theorem dX8_init_38 : decode cX8_init 38 = .ok (.putfield 31, 3) := by decide +kernel
theorem dX8_init_41 : decode cX8_init 41 = .ok (.return_, 1) := by decide +kernel
theorem dX8_isNone_0 : decode cX8_isNone 0 = .ok (.aload_n 0, 1) := by decide +kernel
theorem dX8_isNone_1 : decode cX8_isNone 1 = .ok (.getfield 17, 3) := by decide +kernel
theorem dX8_isNone_4 : decode cX8_isNone 4 = .ok (.ifCond .ne 7, 3) := by decide +kernel
theorem dX8_isNone_7 : decode cX8_isNone 7 = .ok (.iconst 1, 1) := by decide +kernel
theorem dX8_isNone_8 : decode cX8_isNone 8 = .ok (.goto 4, 3) := by decide +kernel
theorem dX8_isNone_11 : decode cX8_isNone 11 = .ok (.iconst 0, 1) := by decide +kernel
theorem dX8_isNone_12 : decode cX8_isNone 12 = .ok (.ireturn, 1) := by decide +kernel
theorem dX8_size_0 : decode cX8_size 0 = .ok (.aload_n 0, 1) := by decide +kernel
theorem dX8_size_1 : decode cX8_size 1 = .ok (.getfield 17, 3) := by decide +kernel
theorem dX8_size_4 : decode cX8_size 4 = .ok (.ireturn, 1) := by decide +kernel
theorem dX8_day_0 : decode cX8_day 0 = .ok (.aload_n 0, 1) := by decide +kernel
theorem dX8_day_1 : decode cX8_day 1 = .ok (.getfield 21, 3) := by decide +kernel
theorem dX8_day_4 : decode cX8_day 4 = .ok (.ireturn, 1) := by decide +kernel
theorem dX8_before_0 : decode cX8_before 0 = .ok (.aload_n 0, 1) := by decide +kernel
theorem dX8_before_1 : decode cX8_before 1 = .ok (.getfield 24, 3) := by decide +kernel
theorem dX8_before_4 : decode cX8_before 4 = .ok (.ireturn, 1) := by decide +kernel
theorem dX8_letters_0 : decode cX8_letters 0 = .ok (.iconst 1, 1) := by decide +kernel
theorem dX8_letters_1 : decode cX8_letters 1 = .ok (.aload_n 0, 1) := by decide +kernel
theorem dX8_letters_2 : decode cX8_letters 2 = .ok (.getfield 17, 3) := by decide +kernel
theorem dX8_letters_5 : decode cX8_letters 5 = .ok (.ishl, 1) := by decide +kernel
theorem dX8_letters_6 : decode cX8_letters 6 = .ok (.ireturn, 1) := by decide +kernel
theorem dX8_isSet_0 : decode cX8_isSet 0 = .ok (.iload_n 1, 1) := by decide +kernel
theorem dX8_isSet_1 : decode cX8_isSet 1 = .ok (.ifCond .lt 15, 3) := by decide +kernel
theorem dX8_isSet_4 : decode cX8_isSet 4 = .ok (.iload_n 1, 1) := by decide +kernel
theorem dX8_isSet_5 : decode cX8_isSet 5 = .ok (.aload_n 0, 1) := by decide +kernel
theorem dX8_isSet_6 : decode cX8_isSet 6 = .ok (.invokevirtual 34, 3) := by decide +kernel
theorem dX8_isSet_9 : decode cX8_isSet 9 = .ok (.if_icmp .ge 7, 3) := by decide +kernel
theorem dX8_isSet_12 : decode cX8_isSet 12 = .ok (.iconst 1, 1) := by decide +kernel
theorem dX8_isSet_13 : decode cX8_isSet 13 = .ok (.goto 4, 3) := by decide +kernel
theorem dX8_isSet_16 : decode cX8_isSet 16 = .ok (.iconst 0, 1) := by decide +kernel
theorem dX8_isSet_17 : decode cX8_isSet 17 = .ok (.ireturn, 1) := by decide +kernel
theorem dX8_one_0 : decode cX8_one 0 = .ok (.iload_n 1, 1) := by decide +kernel
theorem dX8_one_1 : decode cX8_one 1 = .ok (.ifCond .lt 20, 3) := by decide +kernel
theorem dX8_one_4 : decode cX8_one 4 = .ok (.iload_n 1, 1) := by decide +kernel
theorem dX8_one_5 : decode cX8_one 5 = .ok (.aload_n 0, 1) := by decide +kernel
theorem dX8_one_6 : decode cX8_one 6 = .ok (.getfield 17, 3) := by decide +kernel
theorem dX8_one_9 : decode cX8_one 9 = .ok (.if_icmp .ge 12, 3) := by decide +kernel
theorem dX8_one_12 : decode cX8_one 12 = .ok (.iload_n 1, 1) := by decide +kernel
theorem dX8_one_13 : decode cX8_one 13 = .ok (.aload_n 0, 1) := by decide +kernel
theorem dX8_one_14 : decode cX8_one 14 = .ok (.getfield 11, 3) := by decide +kernel
theorem dX8_one_17 : decode cX8_one 17 = .ok (.arraylength, 1) := by decide +kernel
theorem dX8_one_18 : decode cX8_one 18 = .ok (.if_icmp .lt 7, 3) := by decide +kernel
theorem dX8_one_21 : decode cX8_one 21 = .ok (.aconst_null, 1) := by decide +kernel
theorem dX8_one_22 : decode cX8_one 22 = .ok (.goto 9, 3) := by decide +kernel
theorem dX8_one_25 : decode cX8_one 25 = .ok (.aload_n 0, 1) := by decide +kernel
theorem dX8_one_26 : decode cX8_one 26 = .ok (.getfield 11, 3) := by decide +kernel
theorem dX8_one_29 : decode cX8_one 29 = .ok (.iload_n 1, 1) := by decide +kernel
theorem dX8_one_30 : decode cX8_one 30 = .ok (.aaload, 1) := by decide +kernel
theorem dX8_one_31 : decode cX8_one 31 = .ok (.areturn, 1) := by decide +kernel
theorem dX8_settle_0 : decode cX8_settle 0 = .ok (.aload_n 0, 1) := by decide +kernel
theorem dX8_settle_1 : decode cX8_settle 1 = .ok (.aload_n 1, 1) := by decide +kernel
theorem dX8_settle_2 : decode cX8_settle 2 = .ok (.invokevirtual 38, 3) := by decide +kernel
theorem dX8_settle_5 : decode cX8_settle 5 = .ok (.aload_n 0, 1) := by decide +kernel
theorem dX8_settle_6 : decode cX8_settle 6 = .ok (.getfield 11, 3) := by decide +kernel
theorem dX8_settle_9 : decode cX8_settle 9 = .ok (.arraylength, 1) := by decide +kernel
theorem dX8_settle_10 : decode cX8_settle 10 = .ok (.invokestatic 43, 3) := by decide +kernel
theorem dX8_settle_13 : decode cX8_settle 13 = .ok (.putfield 17, 3) := by decide +kernel
theorem dX8_settle_16 : decode cX8_settle 16 = .ok (.iconst 0, 1) := by decide +kernel
theorem dX8_settle_17 : decode cX8_settle 17 = .ok (.istore_n 2, 1) := by decide +kernel
theorem dX8_settle_18 : decode cX8_settle 18 = .ok (.iload_n 2, 1) := by decide +kernel
theorem dX8_settle_19 : decode cX8_settle 19 = .ok (.aload_n 0, 1) := by decide +kernel
theorem dX8_settle_20 : decode cX8_settle 20 = .ok (.getfield 17, 3) := by decide +kernel
theorem dX8_settle_23 : decode cX8_settle 23 = .ok (.if_icmp .ge 20, 3) := by decide +kernel
theorem dX8_settle_26 : decode cX8_settle 26 = .ok (.aload_n 0, 1) := by decide +kernel
theorem dX8_settle_27 : decode cX8_settle 27 = .ok (.getfield 11, 3) := by decide +kernel
theorem dX8_settle_30 : decode cX8_settle 30 = .ok (.iload_n 2, 1) := by decide +kernel
theorem dX8_settle_31 : decode cX8_settle 31 = .ok (.aload_n 1, 1) := by decide +kernel
theorem dX8_settle_32 : decode cX8_settle 32 = .ok (.iload_n 2, 1) := by decide +kernel
theorem dX8_settle_33 : decode cX8_settle 33 = .ok (.invokevirtual 49, 3) := by decide +kernel
theorem dX8_settle_36 : decode cX8_settle 36 = .ok (.aastore, 1) := by decide +kernel
theorem dX8_settle_37 : decode cX8_settle 37 = .ok (.iinc 2 1, 3) := by decide +kernel
theorem dX8_settle_40 : decode cX8_settle 40 = .ok (.goto (-22), 3) := by decide +kernel
theorem dX8_settle_43 : decode cX8_settle 43 = .ok (.aload_n 0, 1) := by decide +kernel
theorem dX8_settle_44 : decode cX8_settle 44 = .ok (.iconst 0, 1) := by decide +kernel
theorem dX8_settle_45 : decode cX8_settle 45 = .ok (.putfield 21, 3) := by decide +kernel
theorem dX8_settle_48 : decode cX8_settle 48 = .ok (.aload_n 0, 1) := by decide +kernel
theorem dX8_settle_49 : decode cX8_settle 49 = .ok (.iconst 0, 1) := by decide +kernel
theorem dX8_settle_50 : decode cX8_settle 50 = .ok (.putfield 24, 3) := by decide +kernel
theorem dX8_settle_53 : decode cX8_settle 53 = .ok (.aload_n 0, 1) := by decide +kernel
theorem dX8_settle_54 : decode cX8_settle 54 = .ok (.invokevirtual 53, 3) := by decide +kernel
theorem dX8_settle_57 : decode cX8_settle 57 = .ok (.return_, 1) := by decide +kernel
theorem dX8_become_0 : decode cX8_become 0 = .ok (.aload_n 1, 1) := by decide +kernel
theorem dX8_become_1 : decode cX8_become 1 = .ok (.getfield 11, 3) := by decide +kernel
theorem dX8_become_4 : decode cX8_become 4 = .ok (.iconst 0, 1) := by decide +kernel
theorem dX8_become_5 : decode cX8_become 5 = .ok (.aload_n 0, 1) := by decide +kernel
theorem dX8_become_6 : decode cX8_become 6 = .ok (.getfield 11, 3) := by decide +kernel
theorem dX8_become_9 : decode cX8_become 9 = .ok (.iconst 0, 1) := by decide +kernel
theorem dX8_become_10 : decode cX8_become 10 = .ok (.aload_n 0, 1) := by decide +kernel
theorem dX8_become_11 : decode cX8_become 11 = .ok (.getfield 11, 3) := by decide +kernel
theorem dX8_become_14 : decode cX8_become 14 = .ok (.arraylength, 1) := by decide +kernel
theorem dX8_become_15 : decode cX8_become 15 = .ok (.invokestatic 56, 3) := by decide +kernel
theorem dX8_become_18 : decode cX8_become 18 = .ok (.aload_n 1, 1) := by decide +kernel
theorem dX8_become_19 : decode cX8_become 19 = .ok (.getfield 27, 3) := by decide +kernel
theorem dX8_become_22 : decode cX8_become 22 = .ok (.iconst 0, 1) := by decide +kernel
theorem dX8_become_23 : decode cX8_become 23 = .ok (.aload_n 0, 1) := by decide +kernel
theorem dX8_become_24 : decode cX8_become 24 = .ok (.getfield 27, 3) := by decide +kernel
theorem dX8_become_27 : decode cX8_become 27 = .ok (.iconst 0, 1) := by decide +kernel
theorem dX8_become_28 : decode cX8_become 28 = .ok (.aload_n 0, 1) := by decide +kernel
theorem dX8_become_29 : decode cX8_become 29 = .ok (.getfield 27, 3) := by decide +kernel
theorem dX8_become_32 : decode cX8_become 32 = .ok (.arraylength, 1) := by decide +kernel
theorem dX8_become_33 : decode cX8_become 33 = .ok (.invokestatic 56, 3) := by decide +kernel
theorem dX8_become_36 : decode cX8_become 36 = .ok (.aload_n 0, 1) := by decide +kernel
theorem dX8_become_37 : decode cX8_become 37 = .ok (.aload_n 1, 1) := by decide +kernel
theorem dX8_become_38 : decode cX8_become 38 = .ok (.getfield 17, 3) := by decide +kernel
theorem dX8_become_41 : decode cX8_become 41 = .ok (.putfield 17, 3) := by decide +kernel
theorem dX8_become_44 : decode cX8_become 44 = .ok (.aload_n 0, 1) := by decide +kernel
theorem dX8_become_45 : decode cX8_become 45 = .ok (.aload_n 1, 1) := by decide +kernel
theorem dX8_become_46 : decode cX8_become 46 = .ok (.getfield 21, 3) := by decide +kernel
theorem dX8_become_49 : decode cX8_become 49 = .ok (.putfield 21, 3) := by decide +kernel
theorem dX8_become_52 : decode cX8_become 52 = .ok (.aload_n 0, 1) := by decide +kernel
theorem dX8_become_53 : decode cX8_become 53 = .ok (.aload_n 1, 1) := by decide +kernel
theorem dX8_become_54 : decode cX8_become 54 = .ok (.getfield 24, 3) := by decide +kernel
theorem dX8_become_57 : decode cX8_become 57 = .ok (.putfield 24, 3) := by decide +kernel
theorem dX8_become_60 : decode cX8_become 60 = .ok (.aload_n 0, 1) := by decide +kernel
theorem dX8_become_61 : decode cX8_become 61 = .ok (.aload_n 1, 1) := by decide +kernel
theorem dX8_become_62 : decode cX8_become 62 = .ok (.getfield 31, 3) := by decide +kernel
theorem dX8_become_65 : decode cX8_become 65 = .ok (.putfield 31, 3) := by decide +kernel
theorem dX8_become_68 : decode cX8_become 68 = .ok (.return_, 1) := by decide +kernel
theorem dX8_goOn_0 : decode cX8_goOn 0 = .ok (.aload_n 0, 1) := by decide +kernel
theorem dX8_goOn_1 : decode cX8_goOn 1 = .ok (.dup, 1) := by decide +kernel
theorem dX8_goOn_2 : decode cX8_goOn 2 = .ok (.getfield 21, 3) := by decide +kernel
theorem dX8_goOn_5 : decode cX8_goOn 5 = .ok (.iconst 1, 1) := by decide +kernel
theorem dX8_goOn_6 : decode cX8_goOn 6 = .ok (.iadd, 1) := by decide +kernel
theorem dX8_goOn_7 : decode cX8_goOn 7 = .ok (.putfield 21, 3) := by decide +kernel
theorem dX8_goOn_10 : decode cX8_goOn 10 = .ok (.aload_n 0, 1) := by decide +kernel
theorem dX8_goOn_11 : decode cX8_goOn 11 = .ok (.iload_n 1, 1) := by decide +kernel
theorem dX8_goOn_12 : decode cX8_goOn 12 = .ok (.putfield 24, 3) := by decide +kernel
theorem dX8_goOn_15 : decode cX8_goOn 15 = .ok (.return_, 1) := by decide +kernel
theorem dX8_goBack_0 : decode cX8_goBack 0 = .ok (.aload_n 0, 1) := by decide +kernel
theorem dX8_goBack_1 : decode cX8_goBack 1 = .ok (.dup, 1) := by decide +kernel
theorem dX8_goBack_2 : decode cX8_goBack 2 = .ok (.getfield 21, 3) := by decide +kernel
theorem dX8_goBack_5 : decode cX8_goBack 5 = .ok (.iconst 1, 1) := by decide +kernel
theorem dX8_goBack_6 : decode cX8_goBack 6 = .ok (.isub, 1) := by decide +kernel
theorem dX8_goBack_7 : decode cX8_goBack 7 = .ok (.putfield 21, 3) := by decide +kernel
theorem dX8_goBack_10 : decode cX8_goBack 10 = .ok (.aload_n 0, 1) := by decide +kernel
theorem dX8_goBack_11 : decode cX8_goBack 11 = .ok (.iload_n 1, 1) := by decide +kernel
theorem dX8_goBack_12 : decode cX8_goBack 12 = .ok (.putfield 24, 3) := by decide +kernel
theorem dX8_goBack_15 : decode cX8_goBack 15 = .ok (.return_, 1) := by decide +kernel
theorem dX8_outcome_0 : decode cX8_outcome 0 = .ok (.aload_n 0, 1) := by decide +kernel
theorem dX8_outcome_1 : decode cX8_outcome 1 = .ok (.iload_n 1, 1) := by decide +kernel
theorem dX8_outcome_2 : decode cX8_outcome 2 = .ok (.aload_n 0, 1) := by decide +kernel
theorem dX8_outcome_3 : decode cX8_outcome 3 = .ok (.getfield 24, 3) := by decide +kernel
theorem dX8_outcome_6 : decode cX8_outcome 6 = .ok (.invokevirtual 62, 3) := by decide +kernel
theorem dX8_outcome_9 : decode cX8_outcome 9 = .ok (.ireturn, 1) := by decide +kernel
theorem dX8_agrees_0 : decode cX8_agrees 0 = .ok (.aload_n 0, 1) := by decide +kernel
theorem dX8_agrees_1 : decode cX8_agrees 1 = .ok (.iload_n 1, 1) := by decide +kernel
theorem dX8_agrees_2 : decode cX8_agrees 2 = .ok (.aload_n 0, 1) := by decide +kernel
theorem dX8_agrees_3 : decode cX8_agrees 3 = .ok (.getfield 24, 3) := by decide +kernel
theorem dX8_agrees_6 : decode cX8_agrees 6 = .ok (.invokevirtual 65, 3) := by decide +kernel
theorem dX8_agrees_9 : decode cX8_agrees 9 = .ok (.ireturn, 1) := by decide +kernel
theorem dX8_agreesAfter_0 : decode cX8_agreesAfter 0 = .ok (.aload_n 0, 1) := by decide +kernel
theorem dX8_agreesAfter_1 : decode cX8_agreesAfter 1 = .ok (.iload_n 1, 1) := by decide +kernel
theorem dX8_agreesAfter_2 : decode cX8_agreesAfter 2 = .ok (.iload_n 2, 1) := by decide +kernel
theorem dX8_agreesAfter_3 : decode cX8_agreesAfter 3 = .ok (.invokevirtual 62, 3) := by decide +kernel
theorem dX8_agreesAfter_6 : decode cX8_agreesAfter 6 = .ok (.iload_n 1, 1) := by decide +kernel
theorem dX8_agreesAfter_7 : decode cX8_agreesAfter 7 = .ok (.if_icmp .ne 7, 3) := by decide +kernel
theorem dX8_agreesAfter_10 : decode cX8_agreesAfter 10 = .ok (.iconst 1, 1) := by decide +kernel
theorem dX8_agreesAfter_11 : decode cX8_agreesAfter 11 = .ok (.goto 4, 3) := by decide +kernel
theorem dX8_agreesAfter_14 : decode cX8_agreesAfter 14 = .ok (.iconst 0, 1) := by decide +kernel
theorem dX8_agreesAfter_15 : decode cX8_agreesAfter 15 = .ok (.ireturn, 1) := by decide +kernel
theorem dX8_moodOf_0 : decode cX8_moodOf 0 = .ok (.aload_n 0, 1) := by decide +kernel
theorem dX8_moodOf_1 : decode cX8_moodOf 1 = .ok (.iload_n 1, 1) := by decide +kernel
theorem dX8_moodOf_2 : decode cX8_moodOf 2 = .ok (.iconst 0, 1) := by decide +kernel
theorem dX8_moodOf_3 : decode cX8_moodOf 3 = .ok (.invokevirtual 62, 3) := by decide +kernel
theorem dX8_moodOf_6 : decode cX8_moodOf 6 = .ok (.iload_n 1, 1) := by decide +kernel
theorem dX8_moodOf_7 : decode cX8_moodOf 7 = .ok (.ixor, 1) := by decide +kernel
theorem dX8_moodOf_8 : decode cX8_moodOf 8 = .ok (.ireturn, 1) := by decide +kernel
theorem dX8_moodyAmong_0 : decode cX8_moodyAmong 0 = .ok (.iload_n 1, 1) := by decide +kernel
theorem dX8_moodyAmong_1 : decode cX8_moodyAmong 1 = .ok (.aload_n 0, 1) := by decide +kernel
theorem dX8_moodyAmong_2 : decode cX8_moodyAmong 2 = .ok (.getfield 31, 3) := by decide +kernel
theorem dX8_moodyAmong_5 : decode cX8_moodyAmong 5 = .ok (.iand, 1) := by decide +kernel
theorem dX8_moodyAmong_6 : decode cX8_moodyAmong 6 = .ok (.ireturn, 1) := by decide +kernel
theorem dX8_outcomeByLots_0 : decode cX8_outcomeByLots 0 = .ok (.aload_n 0, 1) := by decide +kernel
theorem dX8_outcomeByLots_1 : decode cX8_outcomeByLots 1 = .ok (.iload_n 1, 1) := by decide +kernel
theorem dX8_outcomeByLots_2 : decode cX8_outcomeByLots 2 = .ok (.invokevirtual 69, 3) := by decide +kernel
theorem dX8_outcomeByLots_5 : decode cX8_outcomeByLots 5 = .ok (.istore_n 3, 1) := by decide +kernel
theorem dX8_outcomeByLots_6 : decode cX8_outcomeByLots 6 = .ok (.iload_n 2, 1) := by decide +kernel
theorem dX8_outcomeByLots_7 : decode cX8_outcomeByLots 7 = .ok (.i2l, 1) := by decide +kernel
theorem dX8_outcomeByLots_8 : decode cX8_outcomeByLots 8 = .ok (.lstore 4, 2) := by decide +kernel
theorem dX8_outcomeByLots_10 : decode cX8_outcomeByLots 10 = .ok (.iconst 0, 1) := by decide +kernel
theorem dX8_outcomeByLots_11 : decode cX8_outcomeByLots 11 = .ok (.istore 6, 2) := by decide +kernel
theorem dX8_outcomeByLots_13 : decode cX8_outcomeByLots 13 = .ok (.iload 6, 2) := by decide +kernel
theorem dX8_outcomeByLots_15 : decode cX8_outcomeByLots 15 = .ok (.aload_n 0, 1) := by decide +kernel
theorem dX8_outcomeByLots_16 : decode cX8_outcomeByLots 16 = .ok (.getfield 17, 3) := by decide +kernel
theorem dX8_outcomeByLots_19 : decode cX8_outcomeByLots 19 = .ok (.if_icmp .ge 65, 3) := by decide +kernel
theorem dX8_outcomeByLots_22 : decode cX8_outcomeByLots 22 = .ok (.aload_n 0, 1) := by decide +kernel
theorem dX8_outcomeByLots_23 : decode cX8_outcomeByLots 23 = .ok (.iload 6, 2) := by decide +kernel
theorem dX8_outcomeByLots_25 : decode cX8_outcomeByLots 25 = .ok (.invokevirtual 73, 3) := by decide +kernel
theorem dX8_outcomeByLots_28 : decode cX8_outcomeByLots 28 = .ok (.astore 8, 2) := by decide +kernel
theorem dX8_outcomeByLots_30 : decode cX8_outcomeByLots 30 = .ok (.aload 8, 2) := by decide +kernel
theorem dX8_outcomeByLots_32 : decode cX8_outcomeByLots 32 = .ok (.instanceof 76, 3) := by decide +kernel
theorem dX8_outcomeByLots_35 : decode cX8_outcomeByLots 35 = .ok (.ifCond .eq 43, 3) := by decide +kernel
theorem dX8_outcomeByLots_38 : decode cX8_outcomeByLots 38 = .ok (.aload 8, 2) := by decide +kernel
theorem dX8_outcomeByLots_40 : decode cX8_outcomeByLots 40 = .ok (.checkcast 76, 3) := by decide +kernel
theorem dX8_outcomeByLots_43 : decode cX8_outcomeByLots 43 = .ok (.astore 7, 2) := by decide +kernel
theorem dX8_outcomeByLots_45 : decode cX8_outcomeByLots 45 = .ok (.lload 4, 2) := by decide +kernel
theorem dX8_outcomeByLots_47 : decode cX8_outcomeByLots 47 = .ok (.ldc2_w 78, 3) := by decide +kernel
theorem dX8_outcomeByLots_50 : decode cX8_outcomeByLots 50 = .ok (.lmul, 1) := by decide +kernel
theorem dX8_outcomeByLots_51 : decode cX8_outcomeByLots 51 = .ok (.ldc2_w 80, 3) := by decide +kernel
theorem dX8_outcomeByLots_54 : decode cX8_outcomeByLots 54 = .ok (.lrem, 1) := by decide +kernel
theorem dX8_outcomeByLots_55 : decode cX8_outcomeByLots 55 = .ok (.lstore 4, 2) := by decide +kernel
theorem dX8_outcomeByLots_57 : decode cX8_outcomeByLots 57 = .ok (.iload_n 3, 1) := by decide +kernel
theorem dX8_outcomeByLots_58 : decode cX8_outcomeByLots 58 = .ok (.aload 7, 2) := by decide +kernel
theorem dX8_outcomeByLots_60 : decode cX8_outcomeByLots 60 = .ok (.lload 4, 2) := by decide +kernel
theorem dX8_outcomeByLots_62 : decode cX8_outcomeByLots 62 = .ok (.invokevirtual 82, 3) := by decide +kernel
theorem dX8_outcomeByLots_65 : decode cX8_outcomeByLots 65 = .ok (.ifCond .eq 10, 3) := by decide +kernel
theorem dX8_outcomeByLots_68 : decode cX8_outcomeByLots 68 = .ok (.iconst 1, 1) := by decide +kernel
theorem dX8_outcomeByLots_69 : decode cX8_outcomeByLots 69 = .ok (.iload 6, 2) := by decide +kernel
theorem dX8_outcomeByLots_71 : decode cX8_outcomeByLots 71 = .ok (.ishl, 1) := by decide +kernel
theorem dX8_outcomeByLots_72 : decode cX8_outcomeByLots 72 = .ok (.goto 4, 3) := by decide +kernel
theorem dX8_outcomeByLots_75 : decode cX8_outcomeByLots 75 = .ok (.iconst 0, 1) := by decide +kernel
theorem dX8_outcomeByLots_76 : decode cX8_outcomeByLots 76 = .ok (.ixor, 1) := by decide +kernel
theorem dX8_outcomeByLots_77 : decode cX8_outcomeByLots 77 = .ok (.istore_n 3, 1) := by decide +kernel
theorem dX8_outcomeByLots_78 : decode cX8_outcomeByLots 78 = .ok (.iinc 6 1, 3) := by decide +kernel
theorem dX8_outcomeByLots_81 : decode cX8_outcomeByLots 81 = .ok (.goto (-68), 3) := by decide +kernel
theorem dX8_outcomeByLots_84 : decode cX8_outcomeByLots 84 = .ok (.iload_n 3, 1) := by decide +kernel
theorem dX8_outcomeByLots_85 : decode cX8_outcomeByLots 85 = .ok (.ireturn, 1) := by decide +kernel
theorem dX8_chances_0 : decode cX8_chances 0 = .ok (.iconst 1, 1) := by decide +kernel
theorem dX8_chances_1 : decode cX8_chances 1 = .ok (.istore_n 3, 1) := by decide +kernel
theorem dX8_chances_2 : decode cX8_chances 2 = .ok (.iconst 0, 1) := by decide +kernel
theorem dX8_chances_3 : decode cX8_chances 3 = .ok (.istore 4, 2) := by decide +kernel
theorem dX8_chances_5 : decode cX8_chances 5 = .ok (.iload 4, 2) := by decide +kernel
theorem dX8_chances_7 : decode cX8_chances 7 = .ok (.aload_n 0, 1) := by decide +kernel
theorem dX8_chances_8 : decode cX8_chances 8 = .ok (.getfield 17, 3) := by decide +kernel
theorem dX8_chances_11 : decode cX8_chances 11 = .ok (.if_icmp .ge 45, 3) := by decide +kernel
theorem dX8_chances_14 : decode cX8_chances 14 = .ok (.aload_n 0, 1) := by decide +kernel
theorem dX8_chances_15 : decode cX8_chances 15 = .ok (.iload 4, 2) := by decide +kernel
theorem dX8_chances_17 : decode cX8_chances 17 = .ok (.invokevirtual 73, 3) := by decide +kernel
theorem dX8_chances_20 : decode cX8_chances 20 = .ok (.astore 5, 2) := by decide +kernel
theorem dX8_chances_22 : decode cX8_chances 22 = .ok (.iload_n 3, 1) := by decide +kernel
theorem dX8_chances_23 : decode cX8_chances 23 = .ok (.aload 5, 2) := by decide +kernel
theorem dX8_chances_25 : decode cX8_chances 25 = .ok (.ifnonnull 7, 3) := by decide +kernel
theorem dX8_chances_28 : decode cX8_chances 28 = .ok (.iconst 0, 1) := by decide +kernel
theorem dX8_chances_29 : decode cX8_chances 29 = .ok (.goto 19, 3) := by decide +kernel
theorem dX8_chances_32 : decode cX8_chances 32 = .ok (.aload 5, 2) := by decide +kernel
theorem dX8_chances_34 : decode cX8_chances 34 = .ok (.iload_n 1, 1) := by decide +kernel
theorem dX8_chances_35 : decode cX8_chances 35 = .ok (.aload_n 0, 1) := by decide +kernel
theorem dX8_chances_36 : decode cX8_chances 36 = .ok (.getfield 24, 3) := by decide +kernel
theorem dX8_chances_39 : decode cX8_chances 39 = .ok (.iload_n 2, 1) := by decide +kernel
theorem dX8_chances_40 : decode cX8_chances 40 = .ok (.iload 4, 2) := by decide +kernel
theorem dX8_chances_42 : decode cX8_chances 42 = .ok (.invokestatic 86, 3) := by decide +kernel
theorem dX8_chances_45 : decode cX8_chances 45 = .ok (.invokevirtual 89, 3) := by decide +kernel
theorem dX8_chances_48 : decode cX8_chances 48 = .ok (.imul, 1) := by decide +kernel
theorem dX8_chances_49 : decode cX8_chances 49 = .ok (.istore_n 3, 1) := by decide +kernel
theorem dX8_chances_50 : decode cX8_chances 50 = .ok (.iinc 4 1, 3) := by decide +kernel
theorem dX8_chances_53 : decode cX8_chances 53 = .ok (.goto (-48), 3) := by decide +kernel
theorem dX8_chances_56 : decode cX8_chances 56 = .ok (.iload_n 3, 1) := by decide +kernel
theorem dX8_chances_57 : decode cX8_chances 57 = .ok (.ireturn, 1) := by decide +kernel
theorem dX8_allChances_0 : decode cX8_allChances 0 = .ok (.iconst 1, 1) := by decide +kernel
theorem dX8_allChances_1 : decode cX8_allChances 1 = .ok (.istore_n 1, 1) := by decide +kernel
theorem dX8_allChances_2 : decode cX8_allChances 2 = .ok (.iconst 0, 1) := by decide +kernel
theorem dX8_allChances_3 : decode cX8_allChances 3 = .ok (.istore_n 2, 1) := by decide +kernel
theorem dX8_allChances_4 : decode cX8_allChances 4 = .ok (.iload_n 2, 1) := by decide +kernel
theorem dX8_allChances_5 : decode cX8_allChances 5 = .ok (.aload_n 0, 1) := by decide +kernel
theorem dX8_allChances_6 : decode cX8_allChances 6 = .ok (.getfield 17, 3) := by decide +kernel
theorem dX8_allChances_9 : decode cX8_allChances 9 = .ok (.if_icmp .ge 14, 3) := by decide +kernel
theorem dX8_allChances_12 : decode cX8_allChances 12 = .ok (.iload_n 1, 1) := by decide +kernel
theorem dX8_allChances_13 : decode cX8_allChances 13 = .ok (.bipush 10, 2) := by decide +kernel
theorem dX8_allChances_15 : decode cX8_allChances 15 = .ok (.imul, 1) := by decide +kernel
theorem dX8_allChances_16 : decode cX8_allChances 16 = .ok (.istore_n 1, 1) := by decide +kernel
theorem dX8_allChances_17 : decode cX8_allChances 17 = .ok (.iinc 2 1, 3) := by decide +kernel
theorem dX8_allChances_20 : decode cX8_allChances 20 = .ok (.goto (-16), 3) := by decide +kernel
theorem dX8_allChances_23 : decode cX8_allChances 23 = .ok (.iload_n 1, 1) := by decide +kernel
theorem dX8_allChances_24 : decode cX8_allChances 24 = .ok (.ireturn, 1) := by decide +kernel
theorem dX8_outcomeAfter_0 : decode cX8_outcomeAfter 0 = .ok (.iload_n 1, 1) := by decide +kernel
theorem dX8_outcomeAfter_1 : decode cX8_outcomeAfter 1 = .ok (.ifCond .lt 12, 3) := by decide +kernel
theorem dX8_outcomeAfter_4 : decode cX8_outcomeAfter 4 = .ok (.iload_n 1, 1) := by decide +kernel
theorem dX8_outcomeAfter_5 : decode cX8_outcomeAfter 5 = .ok (.aload_n 0, 1) := by decide +kernel
theorem dX8_outcomeAfter_6 : decode cX8_outcomeAfter 6 = .ok (.getfield 27, 3) := by decide +kernel
theorem dX8_outcomeAfter_9 : decode cX8_outcomeAfter 9 = .ok (.arraylength, 1) := by decide +kernel
theorem dX8_outcomeAfter_10 : decode cX8_outcomeAfter 10 = .ok (.if_icmp .lt 6, 3) := by decide +kernel
theorem dX8_outcomeAfter_13 : decode cX8_outcomeAfter 13 = .ok (.ldc 93, 2) := by decide +kernel
theorem dX8_outcomeAfter_15 : decode cX8_outcomeAfter 15 = .ok (.ireturn, 1) := by decide +kernel
theorem dX8_outcomeAfter_16 : decode cX8_outcomeAfter 16 = .ok (.aload_n 0, 1) := by decide +kernel
theorem dX8_outcomeAfter_17 : decode cX8_outcomeAfter 17 = .ok (.getfield 27, 3) := by decide +kernel
theorem dX8_outcomeAfter_20 : decode cX8_outcomeAfter 20 = .ok (.iload_n 1, 1) := by decide +kernel
theorem dX8_outcomeAfter_21 : decode cX8_outcomeAfter 21 = .ok (.iaload, 1) := by decide +kernel
theorem dX8_outcomeAfter_22 : decode cX8_outcomeAfter 22 = .ok (.aload_n 0, 1) := by decide +kernel
theorem dX8_outcomeAfter_23 : decode cX8_outcomeAfter 23 = .ok (.iload_n 2, 1) := by decide +kernel
theorem dX8_outcomeAfter_24 : decode cX8_outcomeAfter 24 = .ok (.invokevirtual 94, 3) := by decide +kernel
theorem dX8_outcomeAfter_27 : decode cX8_outcomeAfter 27 = .ok (.ixor, 1) := by decide +kernel
theorem dX8_outcomeAfter_28 : decode cX8_outcomeAfter 28 = .ok (.ireturn, 1) := by decide +kernel
theorem dX8_learn_0 : decode cX8_learn 0 = .ok (.aload_n 0, 1) := by decide +kernel
theorem dX8_learn_1 : decode cX8_learn 1 = .ok (.iconst 0, 1) := by decide +kernel
theorem dX8_learn_2 : decode cX8_learn 2 = .ok (.putfield 31, 3) := by decide +kernel
theorem dX8_learn_5 : decode cX8_learn 5 = .ok (.iconst 0, 1) := by decide +kernel
theorem dX8_learn_6 : decode cX8_learn 6 = .ok (.istore_n 1, 1) := by decide +kernel
theorem dX8_learn_7 : decode cX8_learn 7 = .ok (.iload_n 1, 1) := by decide +kernel
theorem dX8_learn_8 : decode cX8_learn 8 = .ok (.aload_n 0, 1) := by decide +kernel
theorem dX8_learn_9 : decode cX8_learn 9 = .ok (.getfield 17, 3) := by decide +kernel
theorem dX8_learn_12 : decode cX8_learn 12 = .ok (.if_icmp .ge 36, 3) := by decide +kernel
theorem dX8_learn_15 : decode cX8_learn 15 = .ok (.aload_n 0, 1) := by decide +kernel
theorem dX8_learn_16 : decode cX8_learn 16 = .ok (.dup, 1) := by decide +kernel
theorem dX8_learn_17 : decode cX8_learn 17 = .ok (.getfield 31, 3) := by decide +kernel
theorem dX8_learn_20 : decode cX8_learn 20 = .ok (.aload_n 0, 1) := by decide +kernel
theorem dX8_learn_21 : decode cX8_learn 21 = .ok (.iload_n 1, 1) := by decide +kernel
theorem dX8_learn_22 : decode cX8_learn 22 = .ok (.invokevirtual 73, 3) := by decide +kernel
theorem dX8_learn_25 : decode cX8_learn 25 = .ok (.instanceof 97, 3) := by decide +kernel
theorem dX8_learn_28 : decode cX8_learn 28 = .ok (.ifCond .eq 9, 3) := by decide +kernel
theorem dX8_learn_31 : decode cX8_learn 31 = .ok (.iconst 1, 1) := by decide +kernel
theorem dX8_learn_32 : decode cX8_learn 32 = .ok (.iload_n 1, 1) := by decide +kernel
theorem dX8_learn_33 : decode cX8_learn 33 = .ok (.ishl, 1) := by decide +kernel
theorem dX8_learn_34 : decode cX8_learn 34 = .ok (.goto 4, 3) := by decide +kernel
theorem dX8_learn_37 : decode cX8_learn 37 = .ok (.iconst 0, 1) := by decide +kernel
theorem dX8_learn_38 : decode cX8_learn 38 = .ok (.ior, 1) := by decide +kernel
theorem dX8_learn_39 : decode cX8_learn 39 = .ok (.putfield 31, 3) := by decide +kernel
theorem dX8_learn_42 : decode cX8_learn 42 = .ok (.iinc 1 1, 3) := by decide +kernel
theorem dX8_learn_45 : decode cX8_learn 45 = .ok (.goto (-38), 3) := by decide +kernel
theorem dX8_learn_48 : decode cX8_learn 48 = .ok (.iconst 0, 1) := by decide +kernel
theorem dX8_learn_49 : decode cX8_learn 49 = .ok (.istore_n 1, 1) := by decide +kernel
theorem dX8_learn_50 : decode cX8_learn 50 = .ok (.iload_n 1, 1) := by decide +kernel
theorem dX8_learn_51 : decode cX8_learn 51 = .ok (.aload_n 0, 1) := by decide +kernel
theorem dX8_learn_52 : decode cX8_learn 52 = .ok (.invokevirtual 34, 3) := by decide +kernel
theorem dX8_learn_55 : decode cX8_learn 55 = .ok (.if_icmp .ge 29, 3) := by decide +kernel
theorem dX8_learn_58 : decode cX8_learn 58 = .ok (.iload_n 1, 1) := by decide +kernel
theorem dX8_learn_59 : decode cX8_learn 59 = .ok (.aload_n 0, 1) := by decide +kernel
theorem dX8_learn_60 : decode cX8_learn 60 = .ok (.getfield 27, 3) := by decide +kernel
theorem dX8_learn_63 : decode cX8_learn 63 = .ok (.arraylength, 1) := by decide +kernel
theorem dX8_learn_64 : decode cX8_learn 64 = .ok (.if_icmp .ge 20, 3) := by decide +kernel
theorem dX8_learn_67 : decode cX8_learn 67 = .ok (.aload_n 0, 1) := by decide +kernel
theorem dX8_learn_68 : decode cX8_learn 68 = .ok (.getfield 27, 3) := by decide +kernel
theorem dX8_learn_71 : decode cX8_learn 71 = .ok (.iload_n 1, 1) := by decide +kernel
theorem dX8_learn_72 : decode cX8_learn 72 = .ok (.aload_n 0, 1) := by decide +kernel
theorem dX8_learn_73 : decode cX8_learn 73 = .ok (.iload_n 1, 1) := by decide +kernel
theorem dX8_learn_74 : decode cX8_learn 74 = .ok (.invokevirtual 99, 3) := by decide +kernel
theorem dX8_learn_77 : decode cX8_learn 77 = .ok (.iastore, 1) := by decide +kernel
theorem dX8_learn_78 : decode cX8_learn 78 = .ok (.iinc 1 1, 3) := by decide +kernel
theorem dX8_learn_81 : decode cX8_learn 81 = .ok (.goto (-31), 3) := by decide +kernel
theorem dX8_learn_84 : decode cX8_learn 84 = .ok (.return_, 1) := by decide +kernel
theorem dX8_freshOutcome_0 : decode cX8_freshOutcome 0 = .ok (.iconst 0, 1) := by decide +kernel
theorem dX8_freshOutcome_1 : decode cX8_freshOutcome 1 = .ok (.istore_n 2, 1) := by decide +kernel
theorem dX8_freshOutcome_2 : decode cX8_freshOutcome 2 = .ok (.iconst 0, 1) := by decide +kernel
theorem dX8_freshOutcome_3 : decode cX8_freshOutcome 3 = .ok (.istore_n 3, 1) := by decide +kernel
theorem dX8_freshOutcome_4 : decode cX8_freshOutcome 4 = .ok (.iload_n 3, 1) := by decide +kernel
theorem dX8_freshOutcome_5 : decode cX8_freshOutcome 5 = .ok (.aload_n 0, 1) := by decide +kernel
theorem dX8_freshOutcome_6 : decode cX8_freshOutcome 6 = .ok (.getfield 17, 3) := by decide +kernel
theorem dX8_freshOutcome_9 : decode cX8_freshOutcome 9 = .ok (.if_icmp .ge 37, 3) := by decide +kernel
theorem dX8_freshOutcome_12 : decode cX8_freshOutcome 12 = .ok (.aload_n 0, 1) := by decide +kernel
theorem dX8_freshOutcome_13 : decode cX8_freshOutcome 13 = .ok (.iload_n 3, 1) := by decide +kernel
theorem dX8_freshOutcome_14 : decode cX8_freshOutcome 14 = .ok (.invokevirtual 73, 3) := by decide +kernel
theorem dX8_freshOutcome_17 : decode cX8_freshOutcome 17 = .ok (.astore 4, 2) := by decide +kernel
theorem dX8_freshOutcome_19 : decode cX8_freshOutcome 19 = .ok (.aload 4, 2) := by decide +kernel
theorem dX8_freshOutcome_21 : decode cX8_freshOutcome 21 = .ok (.ifnull 19, 3) := by decide +kernel
theorem dX8_freshOutcome_24 : decode cX8_freshOutcome 24 = .ok (.aload 4, 2) := by decide +kernel
theorem dX8_freshOutcome_26 : decode cX8_freshOutcome 26 = .ok (.iload_n 1, 1) := by decide +kernel
theorem dX8_freshOutcome_27 : decode cX8_freshOutcome 27 = .ok (.iconst 0, 1) := by decide +kernel
theorem dX8_freshOutcome_28 : decode cX8_freshOutcome 28 = .ok (.invokevirtual 102, 3) := by decide +kernel
theorem dX8_freshOutcome_31 : decode cX8_freshOutcome 31 = .ok (.ifCond .eq 9, 3) := by decide +kernel
theorem dX8_freshOutcome_34 : decode cX8_freshOutcome 34 = .ok (.iload_n 2, 1) := by decide +kernel
theorem dX8_freshOutcome_35 : decode cX8_freshOutcome 35 = .ok (.iconst 1, 1) := by decide +kernel
theorem dX8_freshOutcome_36 : decode cX8_freshOutcome 36 = .ok (.iload_n 3, 1) := by decide +kernel
theorem dX8_freshOutcome_37 : decode cX8_freshOutcome 37 = .ok (.ishl, 1) := by decide +kernel
theorem dX8_freshOutcome_38 : decode cX8_freshOutcome 38 = .ok (.ior, 1) := by decide +kernel
theorem dX8_freshOutcome_39 : decode cX8_freshOutcome 39 = .ok (.istore_n 2, 1) := by decide +kernel
theorem dX8_freshOutcome_40 : decode cX8_freshOutcome 40 = .ok (.iinc 3 1, 3) := by decide +kernel
theorem dX8_freshOutcome_43 : decode cX8_freshOutcome 43 = .ok (.goto (-39), 3) := by decide +kernel
theorem dX8_freshOutcome_46 : decode cX8_freshOutcome 46 = .ok (.iload_n 2, 1) := by decide +kernel
theorem dX8_freshOutcome_47 : decode cX8_freshOutcome 47 = .ok (.ireturn, 1) := by decide +kernel
theorem dX9_init_0 : decode cX9_init 0 = .ok (.aload_n 0, 1) := by decide +kernel
theorem dX9_init_1 : decode cX9_init 1 = .ok (.invokespecial 3, 3) := by decide +kernel
theorem dX9_init_4 : decode cX9_init 4 = .ok (.aload_n 0, 1) := by decide +kernel
theorem dX9_init_5 : decode cX9_init 5 = .ok (.bipush 16, 2) := by decide +kernel
theorem dX9_init_7 : decode cX9_init 7 = .ok (.newarray .int, 2) := by decide +kernel
theorem dX9_init_9 : decode cX9_init 9 = .ok (.putfield 11, 3) := by decide +kernel
theorem dX9_init_12 : decode cX9_init 12 = .ok (.aload_n 0, 1) := by decide +kernel
theorem dX9_init_13 : decode cX9_init 13 = .ok (.iconst 0, 1) := by decide +kernel
theorem dX9_init_14 : decode cX9_init 14 = .ok (.putfield 15, 3) := by decide +kernel
theorem dX9_init_17 : decode cX9_init 17 = .ok (.return_, 1) := by decide +kernel
theorem dX9_clear_0 : decode cX9_clear 0 = .ok (.aload_n 0, 1) := by decide +kernel
theorem dX9_clear_1 : decode cX9_clear 1 = .ok (.iconst 0, 1) := by decide +kernel
theorem dX9_clear_2 : decode cX9_clear 2 = .ok (.putfield 15, 3) := by decide +kernel
theorem dX9_clear_5 : decode cX9_clear 5 = .ok (.return_, 1) := by decide +kernel
theorem dX9_leave_0 : decode cX9_leave 0 = .ok (.aload_n 0, 1) := by decide +kernel
theorem dX9_leave_1 : decode cX9_leave 1 = .ok (.getfield 15, 3) := by decide +kernel
theorem dX9_leave_4 : decode cX9_leave 4 = .ok (.aload_n 0, 1) := by decide +kernel
theorem dX9_leave_5 : decode cX9_leave 5 = .ok (.getfield 11, 3) := by decide +kernel
theorem dX9_leave_8 : decode cX9_leave 8 = .ok (.arraylength, 1) := by decide +kernel
theorem dX9_leave_9 : decode cX9_leave 9 = .ok (.if_icmp .ge 23, 3) := by decide +kernel
theorem dX9_leave_12 : decode cX9_leave 12 = .ok (.aload_n 0, 1) := by decide +kernel
theorem dX9_leave_13 : decode cX9_leave 13 = .ok (.getfield 11, 3) := by decide +kernel
theorem dX9_leave_16 : decode cX9_leave 16 = .ok (.aload_n 0, 1) := by decide +kernel
theorem dX9_leave_17 : decode cX9_leave 17 = .ok (.getfield 15, 3) := by decide +kernel
theorem dX9_leave_20 : decode cX9_leave 20 = .ok (.iload_n 1, 1) := by decide +kernel
theorem dX9_leave_21 : decode cX9_leave 21 = .ok (.iastore, 1) := by decide +kernel
theorem dX9_leave_22 : decode cX9_leave 22 = .ok (.aload_n 0, 1) := by decide +kernel
theorem dX9_leave_23 : decode cX9_leave 23 = .ok (.dup, 1) := by decide +kernel
theorem dX9_leave_24 : decode cX9_leave 24 = .ok (.getfield 15, 3) := by decide +kernel
theorem dX9_leave_27 : decode cX9_leave 27 = .ok (.iconst 1, 1) := by decide +kernel
theorem dX9_leave_28 : decode cX9_leave 28 = .ok (.iadd, 1) := by decide +kernel
theorem dX9_leave_29 : decode cX9_leave 29 = .ok (.putfield 15, 3) := by decide +kernel
theorem dX9_leave_32 : decode cX9_leave 32 = .ok (.return_, 1) := by decide +kernel
theorem dX9_at_0 : decode cX9_at 0 = .ok (.iload_n 1, 1) := by decide +kernel
theorem dX9_at_1 : decode cX9_at 1 = .ok (.ifCond .lt 20, 3) := by decide +kernel
theorem dX9_at_4 : decode cX9_at 4 = .ok (.iload_n 1, 1) := by decide +kernel
theorem dX9_at_5 : decode cX9_at 5 = .ok (.aload_n 0, 1) := by decide +kernel
theorem dX9_at_6 : decode cX9_at 6 = .ok (.getfield 15, 3) := by decide +kernel
theorem dX9_at_9 : decode cX9_at 9 = .ok (.if_icmp .ge 12, 3) := by decide +kernel
theorem dX9_at_12 : decode cX9_at 12 = .ok (.iload_n 1, 1) := by decide +kernel
theorem dX9_at_13 : decode cX9_at 13 = .ok (.aload_n 0, 1) := by decide +kernel
theorem dX9_at_14 : decode cX9_at 14 = .ok (.getfield 11, 3) := by decide +kernel
theorem dX9_at_17 : decode cX9_at 17 = .ok (.arraylength, 1) := by decide +kernel
theorem dX9_at_18 : decode cX9_at 18 = .ok (.if_icmp .lt 8, 3) := by decide +kernel
theorem dX9_at_21 : decode cX9_at 21 = .ok (.ldc 19, 2) := by decide +kernel
theorem dX9_at_23 : decode cX9_at 23 = .ok (.goto 9, 3) := by decide +kernel
theorem dX9_at_26 : decode cX9_at 26 = .ok (.aload_n 0, 1) := by decide +kernel
theorem dX9_at_27 : decode cX9_at 27 = .ok (.getfield 11, 3) := by decide +kernel
theorem dX9_at_30 : decode cX9_at 30 = .ok (.iload_n 1, 1) := by decide +kernel
theorem dX9_at_31 : decode cX9_at 31 = .ok (.iaload, 1) := by decide +kernel
theorem dX9_at_32 : decode cX9_at 32 = .ok (.ireturn, 1) := by decide +kernel
theorem dX10_init_0 : decode cX10_init 0 = .ok (.aload_n 0, 1) := by decide +kernel
theorem dX10_init_1 : decode cX10_init 1 = .ok (.iload_n 1, 1) := by decide +kernel
theorem dX10_init_2 : decode cX10_init 2 = .ok (.iload_n 2, 1) := by decide +kernel
theorem dX10_init_3 : decode cX10_init 3 = .ok (.iload_n 3, 1) := by decide +kernel
theorem dX10_init_4 : decode cX10_init 4 = .ok (.invokespecial 1, 3) := by decide +kernel
theorem dX10_init_7 : decode cX10_init 7 = .ok (.return_, 1) := by decide +kernel
theorem dX10_ownKind_0 : decode cX10_ownKind 0 = .ok (.iconst 1, 1) := by decide +kernel
theorem dX10_ownKind_1 : decode cX10_ownKind 1 = .ok (.ireturn, 1) := by decide +kernel
theorem dX10_doesIt_0 : decode cX10_doesIt 0 = .ok (.iload_n 1, 1) := by decide +kernel
theorem dX10_doesIt_1 : decode cX10_doesIt 1 = .ok (.aload_n 0, 1) := by decide +kernel
theorem dX10_doesIt_2 : decode cX10_doesIt 2 = .ok (.getfield 7, 3) := by decide +kernel
theorem dX10_doesIt_5 : decode cX10_doesIt 5 = .ok (.invokestatic 13, 3) := by decide +kernel
theorem dX10_doesIt_8 : decode cX10_doesIt 8 = .ok (.ireturn, 1) := by decide +kernel
theorem dX10_size_0 : decode cX10_size 0 = .ok (.aload_n 1, 1) := by decide +kernel
theorem dX10_size_1 : decode cX10_size 1 = .ok (.bipush 11, 2) := by decide +kernel
theorem dX10_size_3 : decode cX10_size 3 = .ok (.invokevirtual 19, 3) := by decide +kernel
theorem dX10_size_6 : decode cX10_size 6 = .ok (.aload_n 0, 1) := by decide +kernel
theorem dX10_size_7 : decode cX10_size 7 = .ok (.aload_n 1, 1) := by decide +kernel
theorem dX10_size_8 : decode cX10_size 8 = .ok (.invokespecial 25, 3) := by decide +kernel
theorem dX10_size_11 : decode cX10_size 11 = .ok (.istore_n 2, 1) := by decide +kernel
theorem dX10_size_12 : decode cX10_size 12 = .ok (.iload_n 2, 1) := by decide +kernel
theorem dX10_size_13 : decode cX10_size 13 = .ok (.aload_n 0, 1) := by decide +kernel
theorem dX10_size_14 : decode cX10_size 14 = .ok (.aload_n 1, 1) := by decide +kernel
theorem dX10_size_15 : decode cX10_size 15 = .ok (.invokevirtual 29, 3) := by decide +kernel
theorem dX10_size_18 : decode cX10_size 18 = .ok (.iadd, 1) := by decide +kernel
theorem dX10_size_19 : decode cX10_size 19 = .ok (.ireturn, 1) := by decide +kernel
theorem dX10_mark_0 : decode cX10_mark 0 = .ok (.aload_n 1, 1) := by decide +kernel
theorem dX10_mark_1 : decode cX10_mark 1 = .ok (.bipush 21, 2) := by decide +kernel
theorem dX10_mark_3 : decode cX10_mark 3 = .ok (.invokevirtual 19, 3) := by decide +kernel
theorem dX10_mark_6 : decode cX10_mark 6 = .ok (.aload_n 0, 1) := by decide +kernel
theorem dX10_mark_7 : decode cX10_mark 7 = .ok (.aload_n 1, 1) := by decide +kernel
theorem dX10_mark_8 : decode cX10_mark 8 = .ok (.invokespecial 32, 3) := by decide +kernel
theorem dX10_mark_11 : decode cX10_mark 11 = .ok (.aload_n 0, 1) := by decide +kernel
theorem dX10_mark_12 : decode cX10_mark 12 = .ok (.getfield 7, 3) := by decide +kernel
theorem dX10_mark_15 : decode cX10_mark 15 = .ok (.iadd, 1) := by decide +kernel
theorem dX10_mark_16 : decode cX10_mark 16 = .ok (.ireturn, 1) := by decide +kernel
theorem dX11_init_0 : decode cX11_init 0 = .ok (.aload_n 0, 1) := by decide +kernel
theorem dX11_init_1 : decode cX11_init 1 = .ok (.invokespecial 3, 3) := by decide +kernel
theorem dX11_init_4 : decode cX11_init 4 = .ok (.aload_n 0, 1) := by decide +kernel
theorem dX11_init_5 : decode cX11_init 5 = .ok (.new 9, 3) := by decide +kernel
theorem dX11_init_8 : decode cX11_init 8 = .ok (.dup, 1) := by decide +kernel
theorem dX11_init_9 : decode cX11_init 9 = .ok (.invokespecial 11, 3) := by decide +kernel
theorem dX11_init_12 : decode cX11_init 12 = .ok (.putfield 12, 3) := by decide +kernel
theorem dX11_init_15 : decode cX11_init 15 = .ok (.aload_n 0, 1) := by decide +kernel
theorem dX11_init_16 : decode cX11_init 16 = .ok (.new 16, 3) := by decide +kernel
theorem dX11_init_19 : decode cX11_init 19 = .ok (.dup, 1) := by decide +kernel
theorem dX11_init_20 : decode cX11_init 20 = .ok (.invokespecial 18, 3) := by decide +kernel
theorem dX11_init_23 : decode cX11_init 23 = .ok (.putfield 19, 3) := by decide +kernel
theorem dX11_init_26 : decode cX11_init 26 = .ok (.aload_n 0, 1) := by decide +kernel
theorem dX11_init_27 : decode cX11_init 27 = .ok (.new 23, 3) := by decide +kernel
theorem dX11_init_30 : decode cX11_init 30 = .ok (.dup, 1) := by decide +kernel
theorem dX11_init_31 : decode cX11_init 31 = .ok (.invokespecial 25, 3) := by decide +kernel
theorem dX11_init_34 : decode cX11_init 34 = .ok (.putfield 26, 3) := by decide +kernel
theorem dX11_init_37 : decode cX11_init 37 = .ok (.aload_n 0, 1) := by decide +kernel
theorem dX11_init_38 : decode cX11_init 38 = .ok (.iconst 2, 1) := by decide +kernel
theorem dX11_init_39 : decode cX11_init 39 = .ok (.anewarray 23, 3) := by decide +kernel
theorem dX11_init_42 : decode cX11_init 42 = .ok (.putfield 30, 3) := by decide +kernel
theorem dX11_init_45 : decode cX11_init 45 = .ok (.aload_n 0, 1) := by decide +kernel
theorem dX11_init_46 : decode cX11_init 46 = .ok (.new 34, 3) := by decide +kernel
theorem dX11_init_49 : decode cX11_init 49 = .ok (.dup, 1) := by decide +kernel
theorem dX11_init_50 : decode cX11_init 50 = .ok (.invokespecial 36, 3) := by decide +kernel
theorem dX11_init_53 : decode cX11_init 53 = .ok (.putfield 37, 3) := by decide +kernel
theorem dX11_init_56 : decode cX11_init 56 = .ok (.aload_n 0, 1) := by decide +kernel
theorem dX11_init_57 : decode cX11_init 57 = .ok (.new 41, 3) := by decide +kernel
theorem dX11_init_60 : decode cX11_init 60 = .ok (.dup, 1) := by decide +kernel
theorem dX11_init_61 : decode cX11_init 61 = .ok (.invokespecial 43, 3) := by decide +kernel
theorem dX11_init_64 : decode cX11_init 64 = .ok (.putfield 44, 3) := by decide +kernel
theorem dX11_init_67 : decode cX11_init 67 = .ok (.aload_n 0, 1) := by decide +kernel
theorem dX11_init_68 : decode cX11_init 68 = .ok (.bipush 24, 2) := by decide +kernel
theorem dX11_init_70 : decode cX11_init 70 = .ok (.newarray .int, 2) := by decide +kernel
theorem dX11_init_72 : decode cX11_init 72 = .ok (.putfield 48, 3) := by decide +kernel
theorem dX11_init_75 : decode cX11_init 75 = .ok (.aload_n 0, 1) := by decide +kernel
theorem dX11_init_76 : decode cX11_init 76 = .ok (.iconst 0, 1) := by decide +kernel
theorem dX11_init_77 : decode cX11_init 77 = .ok (.putfield 52, 3) := by decide +kernel
theorem dX11_init_80 : decode cX11_init 80 = .ok (.aload_n 0, 1) := by decide +kernel
theorem dX11_init_81 : decode cX11_init 81 = .ok (.iconst 0, 1) := by decide +kernel
theorem dX11_init_82 : decode cX11_init 82 = .ok (.putfield 56, 3) := by decide +kernel
theorem dX11_init_85 : decode cX11_init 85 = .ok (.iconst 0, 1) := by decide +kernel
theorem dX11_init_86 : decode cX11_init 86 = .ok (.istore_n 1, 1) := by decide +kernel
theorem dX11_init_87 : decode cX11_init 87 = .ok (.iload_n 1, 1) := by decide +kernel
theorem dX11_init_88 : decode cX11_init 88 = .ok (.aload_n 0, 1) := by decide +kernel
theorem dX11_init_89 : decode cX11_init 89 = .ok (.getfield 30, 3) := by decide +kernel
theorem dX11_init_92 : decode cX11_init 92 = .ok (.arraylength, 1) := by decide +kernel
theorem dX11_init_93 : decode cX11_init 93 = .ok (.if_icmp .ge 22, 3) := by decide +kernel
theorem dX11_init_96 : decode cX11_init 96 = .ok (.aload_n 0, 1) := by decide +kernel
theorem dX11_init_97 : decode cX11_init 97 = .ok (.getfield 30, 3) := by decide +kernel
theorem dX11_init_100 : decode cX11_init 100 = .ok (.iload_n 1, 1) := by decide +kernel
theorem dX11_init_101 : decode cX11_init 101 = .ok (.new 23, 3) := by decide +kernel
theorem dX11_init_104 : decode cX11_init 104 = .ok (.dup, 1) := by decide +kernel
theorem dX11_init_105 : decode cX11_init 105 = .ok (.invokespecial 25, 3) := by decide +kernel
theorem dX11_init_108 : decode cX11_init 108 = .ok (.aastore, 1) := by decide +kernel
theorem dX11_init_109 : decode cX11_init 109 = .ok (.iinc 1 1, 3) := by decide +kernel
theorem dX11_init_112 : decode cX11_init 112 = .ok (.goto (-25), 3) := by decide +kernel
theorem dX11_init_115 : decode cX11_init 115 = .ok (.return_, 1) := by decide +kernel
theorem dX11_row_0 : decode cX11_row 0 = .ok (.aload_n 0, 1) := by decide +kernel
theorem dX11_row_1 : decode cX11_row 1 = .ok (.getfield 12, 3) := by decide +kernel
theorem dX11_row_4 : decode cX11_row 4 = .ok (.iload_n 1, 1) := by decide +kernel
theorem dX11_row_5 : decode cX11_row 5 = .ok (.invokevirtual 59, 3) := by decide +kernel
theorem dX11_row_8 : decode cX11_row 8 = .ok (.ifCond .eq 20, 3) := by decide +kernel
theorem dX11_row_11 : decode cX11_row 11 = .ok (.aload_n 0, 1) := by decide +kernel
theorem dX11_row_12 : decode cX11_row 12 = .ok (.getfield 12, 3) := by decide +kernel
theorem dX11_row_15 : decode cX11_row 15 = .ok (.iload_n 2, 1) := by decide +kernel
theorem dX11_row_16 : decode cX11_row 16 = .ok (.invokevirtual 63, 3) := by decide +kernel
theorem dX11_row_19 : decode cX11_row 19 = .ok (.ifCond .eq 9, 3) := by decide +kernel
theorem dX11_row_22 : decode cX11_row 22 = .ok (.iload_n 3, 1) := by decide +kernel
theorem dX11_row_23 : decode cX11_row 23 = .ok (.bipush 40, 2) := by decide +kernel
theorem dX11_row_25 : decode cX11_row 25 = .ok (.if_icmp .le 6, 3) := by decide +kernel
theorem dX11_row_28 : decode cX11_row 28 = .ok (.ldc 66, 2) := by decide +kernel
theorem dX11_row_30 : decode cX11_row 30 = .ok (.ireturn, 1) := by decide +kernel
theorem dX11_row_31 : decode cX11_row 31 = .ok (.iload_n 3, 1) := by decide +kernel
theorem dX11_row_32 : decode cX11_row 32 = .ok (.ifCond .ge 9, 3) := by decide +kernel
theorem dX11_row_35 : decode cX11_row 35 = .ok (.aload_n 0, 1) := by decide +kernel
theorem dX11_row_36 : decode cX11_row 36 = .ok (.iconst 4, 1) := by decide +kernel
theorem dX11_row_37 : decode cX11_row 37 = .ok (.invokevirtual 67, 3) := by decide +kernel
theorem dX11_row_40 : decode cX11_row 40 = .ok (.ireturn, 1) := by decide +kernel
theorem dX11_row_41 : decode cX11_row 41 = .ok (.aload_n 0, 1) := by decide +kernel
theorem dX11_row_42 : decode cX11_row 42 = .ok (.getfield 12, 3) := by decide +kernel
theorem dX11_row_45 : decode cX11_row 45 = .ok (.iload_n 1, 1) := by decide +kernel
theorem dX11_row_46 : decode cX11_row 46 = .ok (.iload_n 2, 1) := by decide +kernel
theorem dX11_row_47 : decode cX11_row 47 = .ok (.iload_n 3, 1) := by decide +kernel
theorem dX11_row_48 : decode cX11_row 48 = .ok (.invokevirtual 71, 3) := by decide +kernel
theorem dX11_row_51 : decode cX11_row 51 = .ok (.aload_n 0, 1) := by decide +kernel
theorem dX11_row_52 : decode cX11_row 52 = .ok (.iload_n 3, 1) := by decide +kernel
theorem dX11_row_53 : decode cX11_row 53 = .ok (.invokevirtual 75, 3) := by decide +kernel
theorem dX11_row_56 : decode cX11_row 56 = .ok (.ireturn, 1) := by decide +kernel
theorem dX11_set_0 : decode cX11_set 0 = .ok (.aload_n 0, 1) := by decide +kernel
theorem dX11_set_1 : decode cX11_set 1 = .ok (.getfield 12, 3) := by decide +kernel
theorem dX11_set_4 : decode cX11_set 4 = .ok (.iload_n 1, 1) := by decide +kernel
theorem dX11_set_5 : decode cX11_set 5 = .ok (.invokevirtual 59, 3) := by decide +kernel
theorem dX11_set_8 : decode cX11_set 8 = .ok (.ifCond .ne 6, 3) := by decide +kernel
theorem dX11_set_11 : decode cX11_set 11 = .ok (.ldc 66, 2) := by decide +kernel
theorem dX11_set_13 : decode cX11_set 13 = .ok (.ireturn, 1) := by decide +kernel
theorem dX11_set_14 : decode cX11_set 14 = .ok (.aload_n 0, 1) := by decide +kernel
theorem dX11_set_15 : decode cX11_set 15 = .ok (.getfield 12, 3) := by decide +kernel
theorem dX11_set_18 : decode cX11_set 18 = .ok (.iload_n 1, 1) := by decide +kernel
theorem dX11_set_19 : decode cX11_set 19 = .ok (.invokevirtual 78, 3) := by decide +kernel
theorem dX11_set_22 : decode cX11_set 22 = .ok (.ifCond .eq 9, 3) := by decide +kernel
theorem dX11_set_25 : decode cX11_set 25 = .ok (.aload_n 0, 1) := by decide +kernel
theorem dX11_set_26 : decode cX11_set 26 = .ok (.iconst 1, 1) := by decide +kernel
theorem dX11_set_27 : decode cX11_set 27 = .ok (.invokevirtual 67, 3) := by decide +kernel
theorem dX11_set_30 : decode cX11_set 30 = .ok (.ireturn, 1) := by decide +kernel
theorem dX11_set_31 : decode cX11_set 31 = .ok (.aload_n 0, 1) := by decide +kernel
theorem dX11_set_32 : decode cX11_set 32 = .ok (.getfield 12, 3) := by decide +kernel
theorem dX11_set_35 : decode cX11_set 35 = .ok (.iload_n 1, 1) := by decide +kernel
theorem dX11_set_36 : decode cX11_set 36 = .ok (.iload_n 2, 1) := by decide +kernel
theorem dX11_set_37 : decode cX11_set 37 = .ok (.iconst 1, 1) := by decide +kernel
theorem dX11_set_38 : decode cX11_set 38 = .ok (.invokevirtual 81, 3) := by decide +kernel
theorem dX11_set_41 : decode cX11_set 41 = .ok (.ifCond .ne 9, 3) := by decide +kernel
theorem dX11_set_44 : decode cX11_set 44 = .ok (.aload_n 0, 1) := by decide +kernel
theorem dX11_set_45 : decode cX11_set 45 = .ok (.iconst 2, 1) := by decide +kernel
theorem dX11_set_46 : decode cX11_set 46 = .ok (.invokevirtual 67, 3) := by decide +kernel
theorem dX11_set_49 : decode cX11_set 49 = .ok (.ireturn, 1) := by decide +kernel
theorem dX11_set_50 : decode cX11_set 50 = .ok (.aload_n 0, 1) := by decide +kernel
theorem dX11_set_51 : decode cX11_set 51 = .ok (.aload_n 0, 1) := by decide +kernel
theorem dX11_set_52 : decode cX11_set 52 = .ok (.getfield 12, 3) := by decide +kernel
theorem dX11_set_55 : decode cX11_set 55 = .ok (.iload_n 1, 1) := by decide +kernel
theorem dX11_set_56 : decode cX11_set 56 = .ok (.iload_n 2, 1) := by decide +kernel
theorem dX11_set_57 : decode cX11_set 57 = .ok (.iload_n 3, 1) := by decide +kernel
theorem dX11_set_58 : decode cX11_set 58 = .ok (.invokevirtual 85, 3) := by decide +kernel
theorem dX11_set_61 : decode cX11_set 61 = .ok (.invokevirtual 75, 3) := by decide +kernel
theorem dX11_set_64 : decode cX11_set 64 = .ok (.ireturn, 1) := by decide +kernel
theorem dX11_copy_0 : decode cX11_copy 0 = .ok (.aload_n 0, 1) := by decide +kernel
theorem dX11_copy_1 : decode cX11_copy 1 = .ok (.getfield 12, 3) := by decide +kernel
theorem dX11_copy_4 : decode cX11_copy 4 = .ok (.iload_n 1, 1) := by decide +kernel
theorem dX11_copy_5 : decode cX11_copy 5 = .ok (.invokevirtual 59, 3) := by decide +kernel
theorem dX11_copy_8 : decode cX11_copy 8 = .ok (.ifCond .eq 14, 3) := by decide +kernel
theorem dX11_copy_11 : decode cX11_copy 11 = .ok (.aload_n 0, 1) := by decide +kernel
theorem dX11_copy_12 : decode cX11_copy 12 = .ok (.getfield 12, 3) := by decide +kernel
theorem dX11_copy_15 : decode cX11_copy 15 = .ok (.iload_n 3, 1) := by decide +kernel
theorem dX11_copy_16 : decode cX11_copy 16 = .ok (.invokevirtual 59, 3) := by decide +kernel
theorem dX11_copy_19 : decode cX11_copy 19 = .ok (.ifCond .ne 6, 3) := by decide +kernel
theorem dX11_copy_22 : decode cX11_copy 22 = .ok (.ldc 66, 2) := by decide +kernel
theorem dX11_copy_24 : decode cX11_copy 24 = .ok (.ireturn, 1) := by decide +kernel
theorem dX11_copy_25 : decode cX11_copy 25 = .ok (.aload_n 0, 1) := by decide +kernel
theorem dX11_copy_26 : decode cX11_copy 26 = .ok (.getfield 12, 3) := by decide +kernel
theorem dX11_copy_29 : decode cX11_copy 29 = .ok (.iload_n 1, 1) := by decide +kernel
theorem dX11_copy_30 : decode cX11_copy 30 = .ok (.invokevirtual 78, 3) := by decide +kernel
theorem dX11_copy_33 : decode cX11_copy 33 = .ok (.ifCond .ne 14, 3) := by decide +kernel
theorem dX11_copy_36 : decode cX11_copy 36 = .ok (.aload_n 0, 1) := by decide +kernel
theorem dX11_copy_37 : decode cX11_copy 37 = .ok (.getfield 12, 3) := by decide +kernel
theorem dX11_copy_40 : decode cX11_copy 40 = .ok (.iload_n 3, 1) := by decide +kernel
theorem dX11_copy_41 : decode cX11_copy 41 = .ok (.invokevirtual 78, 3) := by decide +kernel
theorem dX11_copy_44 : decode cX11_copy 44 = .ok (.ifCond .eq 9, 3) := by decide +kernel
theorem dX11_copy_47 : decode cX11_copy 47 = .ok (.aload_n 0, 1) := by decide +kernel
theorem dX11_copy_48 : decode cX11_copy 48 = .ok (.iconst 1, 1) := by decide +kernel
theorem dX11_copy_49 : decode cX11_copy 49 = .ok (.invokevirtual 67, 3) := by decide +kernel
theorem dX11_copy_52 : decode cX11_copy 52 = .ok (.ireturn, 1) := by decide +kernel
theorem dX11_copy_53 : decode cX11_copy 53 = .ok (.aload_n 0, 1) := by decide +kernel
theorem dX11_copy_54 : decode cX11_copy 54 = .ok (.getfield 12, 3) := by decide +kernel
theorem dX11_copy_57 : decode cX11_copy 57 = .ok (.iload_n 1, 1) := by decide +kernel
theorem dX11_copy_58 : decode cX11_copy 58 = .ok (.iload_n 3, 1) := by decide +kernel
theorem dX11_copy_59 : decode cX11_copy 59 = .ok (.invokevirtual 89, 3) := by decide +kernel
theorem dX11_copy_62 : decode cX11_copy 62 = .ok (.ifCond .ne 9, 3) := by decide +kernel
theorem dX11_copy_65 : decode cX11_copy 65 = .ok (.aload_n 0, 1) := by decide +kernel
theorem dX11_copy_66 : decode cX11_copy 66 = .ok (.iconst 5, 1) := by decide +kernel
theorem dX11_copy_67 : decode cX11_copy 67 = .ok (.invokevirtual 67, 3) := by decide +kernel
theorem dX11_copy_70 : decode cX11_copy 70 = .ok (.ireturn, 1) := by decide +kernel
theorem dX11_copy_71 : decode cX11_copy 71 = .ok (.aload_n 0, 1) := by decide +kernel
theorem dX11_copy_72 : decode cX11_copy 72 = .ok (.getfield 12, 3) := by decide +kernel
theorem dX11_copy_75 : decode cX11_copy 75 = .ok (.iload_n 1, 1) := by decide +kernel
theorem dX11_copy_76 : decode cX11_copy 76 = .ok (.iload_n 2, 1) := by decide +kernel
theorem dX11_copy_77 : decode cX11_copy 77 = .ok (.iload 5, 2) := by decide +kernel
theorem dX11_copy_79 : decode cX11_copy 79 = .ok (.invokevirtual 81, 3) := by decide +kernel
theorem dX11_copy_82 : decode cX11_copy 82 = .ok (.ifCond .eq 18, 3) := by decide +kernel
theorem dX11_copy_85 : decode cX11_copy 85 = .ok (.aload_n 0, 1) := by decide +kernel
theorem dX11_copy_86 : decode cX11_copy 86 = .ok (.getfield 12, 3) := by decide +kernel
theorem dX11_copy_89 : decode cX11_copy 89 = .ok (.iload_n 3, 1) := by decide +kernel
theorem dX11_copy_90 : decode cX11_copy 90 = .ok (.iload 4, 2) := by decide +kernel
theorem dX11_copy_92 : decode cX11_copy 92 = .ok (.iload 5, 2) := by decide +kernel
theorem dX11_copy_94 : decode cX11_copy 94 = .ok (.invokevirtual 81, 3) := by decide +kernel
theorem dX11_copy_97 : decode cX11_copy 97 = .ok (.ifCond .ne 9, 3) := by decide +kernel
theorem dX11_copy_100 : decode cX11_copy 100 = .ok (.aload_n 0, 1) := by decide +kernel
theorem dX11_copy_101 : decode cX11_copy 101 = .ok (.iconst 2, 1) := by decide +kernel
theorem dX11_copy_102 : decode cX11_copy 102 = .ok (.invokevirtual 67, 3) := by decide +kernel
theorem dX11_copy_105 : decode cX11_copy 105 = .ok (.ireturn, 1) := by decide +kernel
theorem dX11_copy_106 : decode cX11_copy 106 = .ok (.aload_n 0, 1) := by decide +kernel
theorem dX11_copy_107 : decode cX11_copy 107 = .ok (.getfield 12, 3) := by decide +kernel
theorem dX11_copy_110 : decode cX11_copy 110 = .ok (.iload_n 1, 1) := by decide +kernel
theorem dX11_copy_111 : decode cX11_copy 111 = .ok (.iload_n 2, 1) := by decide +kernel
theorem dX11_copy_112 : decode cX11_copy 112 = .ok (.iload_n 3, 1) := by decide +kernel
theorem dX11_copy_113 : decode cX11_copy 113 = .ok (.iload 4, 2) := by decide +kernel
theorem dX11_copy_115 : decode cX11_copy 115 = .ok (.iload 5, 2) := by decide +kernel
theorem dX11_copy_117 : decode cX11_copy 117 = .ok (.invokevirtual 93, 3) := by decide +kernel
theorem dX11_copy_120 : decode cX11_copy 120 = .ok (.aload_n 0, 1) := by decide +kernel
theorem dX11_copy_121 : decode cX11_copy 121 = .ok (.iload 5, 2) := by decide +kernel
theorem dX11_copy_123 : decode cX11_copy 123 = .ok (.invokevirtual 75, 3) := by decide +kernel
theorem dX11_copy_126 : decode cX11_copy 126 = .ok (.ireturn, 1) := by decide +kernel
theorem dX11_drop_0 : decode cX11_drop 0 = .ok (.aload_n 0, 1) := by decide +kernel
theorem dX11_drop_1 : decode cX11_drop 1 = .ok (.getfield 12, 3) := by decide +kernel
theorem dX11_drop_4 : decode cX11_drop 4 = .ok (.iload_n 1, 1) := by decide +kernel
theorem dX11_drop_5 : decode cX11_drop 5 = .ok (.invokevirtual 59, 3) := by decide +kernel
theorem dX11_drop_8 : decode cX11_drop 8 = .ok (.ifCond .ne 6, 3) := by decide +kernel
theorem dX11_drop_11 : decode cX11_drop 11 = .ok (.ldc 66, 2) := by decide +kernel
theorem dX11_drop_13 : decode cX11_drop 13 = .ok (.ireturn, 1) := by decide +kernel
theorem dX11_drop_14 : decode cX11_drop 14 = .ok (.aload_n 0, 1) := by decide +kernel
theorem dX11_drop_15 : decode cX11_drop 15 = .ok (.getfield 12, 3) := by decide +kernel
theorem dX11_drop_18 : decode cX11_drop 18 = .ok (.iload_n 1, 1) := by decide +kernel
theorem dX11_drop_19 : decode cX11_drop 19 = .ok (.invokevirtual 78, 3) := by decide +kernel
theorem dX11_drop_22 : decode cX11_drop 22 = .ok (.ifCond .eq 9, 3) := by decide +kernel
theorem dX11_drop_25 : decode cX11_drop 25 = .ok (.aload_n 0, 1) := by decide +kernel
theorem dX11_drop_26 : decode cX11_drop 26 = .ok (.iconst 1, 1) := by decide +kernel
theorem dX11_drop_27 : decode cX11_drop 27 = .ok (.invokevirtual 67, 3) := by decide +kernel
theorem dX11_drop_30 : decode cX11_drop 30 = .ok (.ireturn, 1) := by decide +kernel
theorem dX11_drop_31 : decode cX11_drop 31 = .ok (.aload_n 0, 1) := by decide +kernel
theorem dX11_drop_32 : decode cX11_drop 32 = .ok (.aload_n 0, 1) := by decide +kernel
theorem dX11_drop_33 : decode cX11_drop 33 = .ok (.getfield 12, 3) := by decide +kernel
theorem dX11_drop_36 : decode cX11_drop 36 = .ok (.iload_n 1, 1) := by decide +kernel
theorem dX11_drop_37 : decode cX11_drop 37 = .ok (.invokevirtual 97, 3) := by decide +kernel
theorem dX11_drop_40 : decode cX11_drop 40 = .ok (.invokevirtual 75, 3) := by decide +kernel
theorem dX11_drop_43 : decode cX11_drop 43 = .ok (.ireturn, 1) := by decide +kernel
theorem dX11_feed_0 : decode cX11_feed 0 = .ok (.iload_n 3, 1) := by decide +kernel
theorem dX11_feed_1 : decode cX11_feed 1 = .ok (.iconst 1, 1) := by decide +kernel
theorem dX11_feed_2 : decode cX11_feed 2 = .ok (.if_icmp .lt 9, 3) := by decide +kernel
theorem dX11_feed_5 : decode cX11_feed 5 = .ok (.iload_n 3, 1) := by decide +kernel
theorem dX11_feed_6 : decode cX11_feed 6 = .ok (.bipush 8, 2) := by decide +kernel
theorem dX11_feed_8 : decode cX11_feed 8 = .ok (.if_icmp .le 6, 3) := by decide +kernel
theorem dX11_feed_11 : decode cX11_feed 11 = .ok (.ldc 66, 2) := by decide +kernel
theorem dX11_feed_13 : decode cX11_feed 13 = .ok (.ireturn, 1) := by decide +kernel
theorem dX11_feed_14 : decode cX11_feed 14 = .ok (.aload_n 0, 1) := by decide +kernel
theorem dX11_feed_15 : decode cX11_feed 15 = .ok (.getfield 19, 3) := by decide +kernel
theorem dX11_feed_18 : decode cX11_feed 18 = .ok (.iload_n 3, 1) := by decide +kernel
theorem dX11_feed_19 : decode cX11_feed 19 = .ok (.invokevirtual 100, 3) := by decide +kernel
theorem dX11_feed_22 : decode cX11_feed 22 = .ok (.ifCond .eq 15, 3) := by decide +kernel
theorem dX11_feed_25 : decode cX11_feed 25 = .ok (.aload_n 0, 1) := by decide +kernel
theorem dX11_feed_26 : decode cX11_feed 26 = .ok (.getfield 19, 3) := by decide +kernel
theorem dX11_feed_29 : decode cX11_feed 29 = .ok (.lload_n 1, 1) := by decide +kernel
theorem dX11_feed_30 : decode cX11_feed 30 = .ok (.iload_n 3, 1) := by decide +kernel
theorem dX11_feed_31 : decode cX11_feed 31 = .ok (.invokevirtual 103, 3) := by decide +kernel
theorem dX11_feed_34 : decode cX11_feed 34 = .ok (.goto 5, 3) := by decide +kernel
theorem dX11_feed_37 : decode cX11_feed 37 = .ok (.ldc 107, 2) := by decide +kernel
theorem dX11_feed_39 : decode cX11_feed 39 = .ok (.ireturn, 1) := by decide +kernel
theorem dX11_town_0 : decode cX11_town 0 = .ok (.aload_n 0, 1) := by decide +kernel
theorem dX11_town_1 : decode cX11_town 1 = .ok (.getfield 19, 3) := by decide +kernel
theorem dX11_town_4 : decode cX11_town 4 = .ok (.invokevirtual 108, 3) := by decide +kernel
theorem dX11_town_7 : decode cX11_town 7 = .ok (.istore_n 1, 1) := by decide +kernel
theorem dX11_town_8 : decode cX11_town 8 = .ok (.iload_n 1, 1) := by decide +kernel
theorem dX11_town_9 : decode cX11_town 9 = .ok (.iconst (-1), 1) := by decide +kernel
theorem dX11_town_10 : decode cX11_town 10 = .ok (.if_icmp .eq 8, 3) := by decide +kernel
theorem dX11_town_13 : decode cX11_town 13 = .ok (.ldc 112, 2) := by decide +kernel
theorem dX11_town_15 : decode cX11_town 15 = .ok (.iload_n 1, 1) := by decide +kernel
theorem dX11_town_16 : decode cX11_town 16 = .ok (.isub, 1) := by decide +kernel
theorem dX11_town_17 : decode cX11_town 17 = .ok (.ireturn, 1) := by decide +kernel
theorem dX11_town_18 : decode cX11_town 18 = .ok (.aload_n 0, 1) := by decide +kernel
theorem dX11_town_19 : decode cX11_town 19 = .ok (.getfield 26, 3) := by decide +kernel
theorem dX11_town_22 : decode cX11_town 22 = .ok (.aload_n 0, 1) := by decide +kernel
theorem dX11_town_23 : decode cX11_town 23 = .ok (.getfield 19, 3) := by decide +kernel
theorem dX11_town_26 : decode cX11_town 26 = .ok (.invokevirtual 113, 3) := by decide +kernel
theorem dX11_town_29 : decode cX11_town 29 = .ok (.aload_n 0, 1) := by decide +kernel
theorem dX11_town_30 : decode cX11_town 30 = .ok (.iconst 0, 1) := by decide +kernel
theorem dX11_town_31 : decode cX11_town 31 = .ok (.putfield 52, 3) := by decide +kernel
theorem dX11_town_34 : decode cX11_town 34 = .ok (.aload_n 0, 1) := by decide +kernel
theorem dX11_town_35 : decode cX11_town 35 = .ok (.getfield 26, 3) := by decide +kernel
theorem dX11_town_38 : decode cX11_town 38 = .ok (.invokevirtual 117, 3) := by decide +kernel
theorem dX11_town_41 : decode cX11_town 41 = .ok (.ireturn, 1) := by decide +kernel
theorem dX11_fault_0 : decode cX11_fault 0 = .ok (.aload_n 0, 1) := by decide +kernel
theorem dX11_fault_1 : decode cX11_fault 1 = .ok (.getfield 19, 3) := by decide +kernel
theorem dX11_fault_4 : decode cX11_fault 4 = .ok (.invokevirtual 120, 3) := by decide +kernel
theorem dX11_fault_7 : decode cX11_fault 7 = .ok (.ireturn, 1) := by decide +kernel
theorem dX11_post_0 : decode cX11_post 0 = .ok (.aload_n 0, 1) := by decide +kernel
theorem dX11_post_1 : decode cX11_post 1 = .ok (.getfield 26, 3) := by decide +kernel
theorem dX11_post_4 : decode cX11_post 4 = .ok (.invokevirtual 123, 3) := by decide +kernel
theorem dX11_post_7 : decode cX11_post 7 = .ok (.ifCond .eq 6, 3) := by decide +kernel
theorem dX11_post_10 : decode cX11_post 10 = .ok (.ldc 127, 2) := by decide +kernel
theorem dX11_post_12 : decode cX11_post 12 = .ok (.ireturn, 1) := by decide +kernel
theorem dX11_post_13 : decode cX11_post 13 = .ok (.aload_n 0, 1) := by decide +kernel
theorem dX11_post_14 : decode cX11_post 14 = .ok (.getfield 26, 3) := by decide +kernel
theorem dX11_post_17 : decode cX11_post 17 = .ok (.iload_n 1, 1) := by decide +kernel
theorem dX11_post_18 : decode cX11_post 18 = .ok (.invokevirtual 128, 3) := by decide +kernel
theorem dX11_post_21 : decode cX11_post 21 = .ok (.ifCond .ne 6, 3) := by decide +kernel
theorem dX11_post_24 : decode cX11_post 24 = .ok (.ldc 66, 2) := by decide +kernel
theorem dX11_post_26 : decode cX11_post 26 = .ok (.ireturn, 1) := by decide +kernel
theorem dX11_post_27 : decode cX11_post 27 = .ok (.aload_n 0, 1) := by decide +kernel
theorem dX11_post_28 : decode cX11_post 28 = .ok (.getfield 26, 3) := by decide +kernel
theorem dX11_post_31 : decode cX11_post 31 = .ok (.iload_n 1, 1) := by decide +kernel
theorem dX11_post_32 : decode cX11_post 32 = .ok (.invokevirtual 131, 3) := by decide +kernel
theorem dX11_post_35 : decode cX11_post 35 = .ok (.ifCond .ne 6, 3) := by decide +kernel
theorem dX11_post_38 : decode cX11_post 38 = .ok (.ldc 127, 2) := by decide +kernel
theorem dX11_post_40 : decode cX11_post 40 = .ok (.ireturn, 1) := by decide +kernel
theorem dX11_post_41 : decode cX11_post 41 = .ok (.aload_n 0, 1) := by decide +kernel
theorem dX11_post_42 : decode cX11_post 42 = .ok (.getfield 26, 3) := by decide +kernel
theorem dX11_post_45 : decode cX11_post 45 = .ok (.invokevirtual 134, 3) := by decide +kernel
theorem dX11_post_48 : decode cX11_post 48 = .ok (.sipush 9999, 3) := by decide +kernel
theorem dX11_post_51 : decode cX11_post 51 = .ok (.if_icmp .lt 6, 3) := by decide +kernel
theorem dX11_post_54 : decode cX11_post 54 = .ok (.ldc 107, 2) := by decide +kernel
theorem dX11_post_56 : decode cX11_post 56 = .ok (.ireturn, 1) := by decide +kernel
theorem dX11_post_57 : decode cX11_post 57 = .ok (.aload_n 0, 1) := by decide +kernel
theorem dX11_post_58 : decode cX11_post 58 = .ok (.iload_n 1, 1) := by decide +kernel
theorem dX11_post_59 : decode cX11_post 59 = .ok (.invokevirtual 137, 3) := by decide +kernel
theorem dX11_post_62 : decode cX11_post 62 = .ok (.aload_n 0, 1) := by decide +kernel
theorem dX11_post_63 : decode cX11_post 63 = .ok (.getfield 26, 3) := by decide +kernel
theorem dX11_post_66 : decode cX11_post 66 = .ok (.invokevirtual 134, 3) := by decide +kernel
theorem dX11_post_69 : decode cX11_post 69 = .ok (.ireturn, 1) := by decide +kernel
theorem dX11_posts_0 : decode cX11_posts 0 = .ok (.aload_n 0, 1) := by decide +kernel
theorem dX11_posts_1 : decode cX11_posts 1 = .ok (.iload_n 1, 1) := by decide +kernel
theorem dX11_posts_2 : decode cX11_posts 2 = .ok (.iload_n 2, 1) := by decide +kernel
theorem dX11_posts_3 : decode cX11_posts 3 = .ok (.iload_n 3, 1) := by decide +kernel
theorem dX11_posts_4 : decode cX11_posts 4 = .ok (.iconst 1, 1) := by decide +kernel
theorem dX11_posts_5 : decode cX11_posts 5 = .ok (.bipush 24, 2) := by decide +kernel
theorem dX11_posts_7 : decode cX11_posts 7 = .ok (.invokevirtual 141, 3) := by decide +kernel
theorem dX11_posts_10 : decode cX11_posts 10 = .ok (.istore 4, 2) := by decide +kernel
theorem dX11_posts_12 : decode cX11_posts 12 = .ok (.iload 4, 2) := by decide +kernel
theorem dX11_posts_14 : decode cX11_posts 14 = .ok (.ifCond .eq 6, 3) := by decide +kernel
theorem dX11_posts_17 : decode cX11_posts 17 = .ok (.iload 4, 2) := by decide +kernel
theorem dX11_posts_19 : decode cX11_posts 19 = .ok (.ireturn, 1) := by decide +kernel
theorem dX11_posts_20 : decode cX11_posts 20 = .ok (.aload_n 0, 1) := by decide +kernel
theorem dX11_posts_21 : decode cX11_posts 21 = .ok (.getfield 26, 3) := by decide +kernel
theorem dX11_posts_24 : decode cX11_posts 24 = .ok (.invokevirtual 134, 3) := by decide +kernel
theorem dX11_posts_27 : decode cX11_posts 27 = .ok (.sipush 9999, 3) := by decide +kernel
theorem dX11_posts_30 : decode cX11_posts 30 = .ok (.iload_n 3, 1) := by decide +kernel
theorem dX11_posts_31 : decode cX11_posts 31 = .ok (.isub, 1) := by decide +kernel
theorem dX11_posts_32 : decode cX11_posts 32 = .ok (.if_icmp .le 6, 3) := by decide +kernel
theorem dX11_posts_35 : decode cX11_posts 35 = .ok (.ldc 107, 2) := by decide +kernel
theorem dX11_posts_37 : decode cX11_posts 37 = .ok (.ireturn, 1) := by decide +kernel
theorem dX11_posts_38 : decode cX11_posts 38 = .ok (.iconst 0, 1) := by decide +kernel
theorem dX11_posts_39 : decode cX11_posts 39 = .ok (.istore 5, 2) := by decide +kernel
theorem dX11_posts_41 : decode cX11_posts 41 = .ok (.iload 5, 2) := by decide +kernel
theorem dX11_posts_43 : decode cX11_posts 43 = .ok (.iload_n 3, 1) := by decide +kernel
theorem dX11_posts_44 : decode cX11_posts 44 = .ok (.if_icmp .ge 47, 3) := by decide +kernel
theorem dX11_posts_47 : decode cX11_posts 47 = .ok (.aload_n 0, 1) := by decide +kernel
theorem dX11_posts_48 : decode cX11_posts 48 = .ok (.getfield 26, 3) := by decide +kernel
theorem dX11_posts_51 : decode cX11_posts 51 = .ok (.aload_n 0, 1) := by decide +kernel
theorem dX11_posts_52 : decode cX11_posts 52 = .ok (.getfield 12, 3) := by decide +kernel
theorem dX11_posts_55 : decode cX11_posts 55 = .ok (.iload_n 1, 1) := by decide +kernel
theorem dX11_posts_56 : decode cX11_posts 56 = .ok (.iload_n 2, 1) := by decide +kernel
theorem dX11_posts_57 : decode cX11_posts 57 = .ok (.iload 5, 2) := by decide +kernel
theorem dX11_posts_59 : decode cX11_posts 59 = .ok (.iadd, 1) := by decide +kernel
theorem dX11_posts_60 : decode cX11_posts 60 = .ok (.invokevirtual 145, 3) := by decide +kernel
theorem dX11_posts_63 : decode cX11_posts 63 = .ok (.invokevirtual 131, 3) := by decide +kernel
theorem dX11_posts_66 : decode cX11_posts 66 = .ok (.ifCond .eq 25, 3) := by decide +kernel
theorem dX11_posts_69 : decode cX11_posts 69 = .ok (.aload_n 0, 1) := by decide +kernel
theorem dX11_posts_70 : decode cX11_posts 70 = .ok (.aload_n 0, 1) := by decide +kernel
theorem dX11_posts_71 : decode cX11_posts 71 = .ok (.getfield 12, 3) := by decide +kernel
theorem dX11_posts_74 : decode cX11_posts 74 = .ok (.iload_n 1, 1) := by decide +kernel
theorem dX11_posts_75 : decode cX11_posts 75 = .ok (.iload_n 2, 1) := by decide +kernel
theorem dX11_posts_76 : decode cX11_posts 76 = .ok (.iload 5, 2) := by decide +kernel
theorem dX11_posts_78 : decode cX11_posts 78 = .ok (.iadd, 1) := by decide +kernel
theorem dX11_posts_79 : decode cX11_posts 79 = .ok (.invokevirtual 145, 3) := by decide +kernel
end
section
theorem dX11_posts_82 : decode cX11_posts 82 = .ok (.invokevirtual 137, 3) := by decide +kernel
theorem dX11_posts_85 : decode cX11_posts 85 = .ok (.iinc 5 1, 3) := by decide +kernel
theorem dX11_posts_88 : decode cX11_posts 88 = .ok (.goto (-47), 3) := by decide +kernel
theorem dX11_posts_91 : decode cX11_posts 91 = .ok (.aload_n 0, 1) := by decide +kernel
theorem dX11_posts_92 : decode cX11_posts 92 = .ok (.iload 5, 2) := by decide +kernel
theorem dX11_posts_94 : decode cX11_posts 94 = .ok (.invokevirtual 75, 3) := by decide +kernel
theorem dX11_posts_97 : decode cX11_posts 97 = .ok (.ireturn, 1) := by decide +kernel
theorem dX11_lots_0 : decode cX11_lots 0 = .ok (.aload_n 0, 1) := by decide +kernel
theorem dX11_lots_1 : decode cX11_lots 1 = .ok (.getfield 26, 3) := by decide +kernel
theorem dX11_lots_4 : decode cX11_lots 4 = .ok (.invokevirtual 123, 3) := by decide +kernel
theorem dX11_lots_7 : decode cX11_lots 7 = .ok (.ifCond .eq 6, 3) := by decide +kernel
theorem dX11_lots_10 : decode cX11_lots 10 = .ok (.ldc 127, 2) := by decide +kernel
theorem dX11_lots_12 : decode cX11_lots 12 = .ok (.ireturn, 1) := by decide +kernel
theorem dX11_lots_13 : decode cX11_lots 13 = .ok (.aload_n 0, 1) := by decide +kernel
theorem dX11_lots_14 : decode cX11_lots 14 = .ok (.getfield 26, 3) := by decide +kernel
theorem dX11_lots_17 : decode cX11_lots 17 = .ok (.iload_n 1, 1) := by decide +kernel
theorem dX11_lots_18 : decode cX11_lots 18 = .ok (.invokevirtual 128, 3) := by decide +kernel
theorem dX11_lots_21 : decode cX11_lots 21 = .ok (.ifCond .eq 14, 3) := by decide +kernel
theorem dX11_lots_24 : decode cX11_lots 24 = .ok (.iload_n 2, 1) := by decide +kernel
theorem dX11_lots_25 : decode cX11_lots 25 = .ok (.iconst 1, 1) := by decide +kernel
theorem dX11_lots_26 : decode cX11_lots 26 = .ok (.if_icmp .lt 9, 3) := by decide +kernel
theorem dX11_lots_29 : decode cX11_lots 29 = .ok (.iload_n 2, 1) := by decide +kernel
theorem dX11_lots_30 : decode cX11_lots 30 = .ok (.ldc 149, 2) := by decide +kernel
theorem dX11_lots_32 : decode cX11_lots 32 = .ok (.if_icmp .le 6, 3) := by decide +kernel
theorem dX11_lots_35 : decode cX11_lots 35 = .ok (.ldc 66, 2) := by decide +kernel
theorem dX11_lots_37 : decode cX11_lots 37 = .ok (.ireturn, 1) := by decide +kernel
theorem dX11_lots_38 : decode cX11_lots 38 = .ok (.aload_n 0, 1) := by decide +kernel
theorem dX11_lots_39 : decode cX11_lots 39 = .ok (.getfield 26, 3) := by decide +kernel
theorem dX11_lots_42 : decode cX11_lots 42 = .ok (.invokevirtual 134, 3) := by decide +kernel
theorem dX11_lots_45 : decode cX11_lots 45 = .ok (.sipush 9999, 3) := by decide +kernel
theorem dX11_lots_48 : decode cX11_lots 48 = .ok (.if_icmp .lt 6, 3) := by decide +kernel
theorem dX11_lots_51 : decode cX11_lots 51 = .ok (.ldc 107, 2) := by decide +kernel
theorem dX11_lots_53 : decode cX11_lots 53 = .ok (.ireturn, 1) := by decide +kernel
theorem dX11_lots_54 : decode cX11_lots 54 = .ok (.aload_n 0, 1) := by decide +kernel
theorem dX11_lots_55 : decode cX11_lots 55 = .ok (.aload_n 0, 1) := by decide +kernel
theorem dX11_lots_56 : decode cX11_lots 56 = .ok (.getfield 26, 3) := by decide +kernel
theorem dX11_lots_59 : decode cX11_lots 59 = .ok (.iload_n 1, 1) := by decide +kernel
theorem dX11_lots_60 : decode cX11_lots 60 = .ok (.iload_n 2, 1) := by decide +kernel
theorem dX11_lots_61 : decode cX11_lots 61 = .ok (.invokevirtual 150, 3) := by decide +kernel
theorem dX11_lots_64 : decode cX11_lots 64 = .ok (.invokevirtual 137, 3) := by decide +kernel
theorem dX11_lots_67 : decode cX11_lots 67 = .ok (.aload_n 0, 1) := by decide +kernel
theorem dX11_lots_68 : decode cX11_lots 68 = .ok (.getfield 26, 3) := by decide +kernel
theorem dX11_lots_71 : decode cX11_lots 71 = .ok (.invokevirtual 153, 3) := by decide +kernel
theorem dX11_lots_74 : decode cX11_lots 74 = .ok (.ireturn, 1) := by decide +kernel
theorem dX11_undo_0 : decode cX11_undo 0 = .ok (.aload_n 0, 1) := by decide +kernel
theorem dX11_undo_1 : decode cX11_undo 1 = .ok (.getfield 52, 3) := by decide +kernel
theorem dX11_undo_4 : decode cX11_undo 4 = .ok (.iconst 1, 1) := by decide +kernel
theorem dX11_undo_5 : decode cX11_undo 5 = .ok (.if_icmp .lt 15, 3) := by decide +kernel
theorem dX11_undo_8 : decode cX11_undo 8 = .ok (.aload_n 0, 1) := by decide +kernel
theorem dX11_undo_9 : decode cX11_undo 9 = .ok (.getfield 52, 3) := by decide +kernel
theorem dX11_undo_12 : decode cX11_undo 12 = .ok (.aload_n 0, 1) := by decide +kernel
theorem dX11_undo_13 : decode cX11_undo 13 = .ok (.getfield 48, 3) := by decide +kernel
theorem dX11_undo_16 : decode cX11_undo 16 = .ok (.arraylength, 1) := by decide +kernel
theorem dX11_undo_17 : decode cX11_undo 17 = .ok (.if_icmp .le 6, 3) := by decide +kernel
theorem dX11_undo_20 : decode cX11_undo 20 = .ok (.ldc 127, 2) := by decide +kernel
theorem dX11_undo_22 : decode cX11_undo 22 = .ok (.ireturn, 1) := by decide +kernel
theorem dX11_undo_23 : decode cX11_undo 23 = .ok (.aload_n 0, 1) := by decide +kernel
theorem dX11_undo_24 : decode cX11_undo 24 = .ok (.dup, 1) := by decide +kernel
theorem dX11_undo_25 : decode cX11_undo 25 = .ok (.getfield 52, 3) := by decide +kernel
theorem dX11_undo_28 : decode cX11_undo 28 = .ok (.iconst 1, 1) := by decide +kernel
theorem dX11_undo_29 : decode cX11_undo 29 = .ok (.isub, 1) := by decide +kernel
theorem dX11_undo_30 : decode cX11_undo 30 = .ok (.putfield 52, 3) := by decide +kernel
theorem dX11_undo_33 : decode cX11_undo 33 = .ok (.aload_n 0, 1) := by decide +kernel
theorem dX11_undo_34 : decode cX11_undo 34 = .ok (.getfield 26, 3) := by decide +kernel
theorem dX11_undo_37 : decode cX11_undo 37 = .ok (.aload_n 0, 1) := by decide +kernel
theorem dX11_undo_38 : decode cX11_undo 38 = .ok (.getfield 48, 3) := by decide +kernel
theorem dX11_undo_41 : decode cX11_undo 41 = .ok (.aload_n 0, 1) := by decide +kernel
theorem dX11_undo_42 : decode cX11_undo 42 = .ok (.getfield 52, 3) := by decide +kernel
theorem dX11_undo_45 : decode cX11_undo 45 = .ok (.iaload, 1) := by decide +kernel
theorem dX11_undo_46 : decode cX11_undo 46 = .ok (.invokevirtual 156, 3) := by decide +kernel
theorem dX11_undo_49 : decode cX11_undo 49 = .ok (.aload_n 0, 1) := by decide +kernel
theorem dX11_undo_50 : decode cX11_undo 50 = .ok (.getfield 52, 3) := by decide +kernel
theorem dX11_undo_53 : decode cX11_undo 53 = .ok (.ireturn, 1) := by decide +kernel
theorem dX11_person_0 : decode cX11_person 0 = .ok (.aload_n 0, 1) := by decide +kernel
theorem dX11_person_1 : decode cX11_person 1 = .ok (.getfield 26, 3) := by decide +kernel
theorem dX11_person_4 : decode cX11_person 4 = .ok (.iload_n 1, 1) := by decide +kernel
theorem dX11_person_5 : decode cX11_person 5 = .ok (.invokevirtual 159, 3) := by decide +kernel
theorem dX11_person_8 : decode cX11_person 8 = .ok (.astore_n 3, 1) := by decide +kernel
theorem dX11_person_9 : decode cX11_person 9 = .ok (.aload_n 3, 1) := by decide +kernel
theorem dX11_person_10 : decode cX11_person 10 = .ok (.ifnonnull 6, 3) := by decide +kernel
theorem dX11_person_13 : decode cX11_person 13 = .ok (.ldc 66, 2) := by decide +kernel
theorem dX11_person_15 : decode cX11_person 15 = .ok (.ireturn, 1) := by decide +kernel
theorem dX11_person_16 : decode cX11_person 16 = .ok (.iload_n 2, 1) := by decide +kernel
theorem dX11_person_17 : decode cX11_person 17 = .ok (.tableswitch 57 0 2 #[27, 32, 37], 27) := by decide +kernel
theorem dX11_person_44 : decode cX11_person 44 = .ok (.aload_n 3, 1) := by decide +kernel
theorem dX11_person_45 : decode cX11_person 45 = .ok (.getfield 163, 3) := by decide +kernel
theorem dX11_person_48 : decode cX11_person 48 = .ok (.ireturn, 1) := by decide +kernel
theorem dX11_person_49 : decode cX11_person 49 = .ok (.aload_n 3, 1) := by decide +kernel
theorem dX11_person_50 : decode cX11_person 50 = .ok (.getfield 168, 3) := by decide +kernel
theorem dX11_person_53 : decode cX11_person 53 = .ok (.ireturn, 1) := by decide +kernel
theorem dX11_person_54 : decode cX11_person 54 = .ok (.aload_n 0, 1) := by decide +kernel
theorem dX11_person_55 : decode cX11_person 55 = .ok (.getfield 26, 3) := by decide +kernel
theorem dX11_person_58 : decode cX11_person 58 = .ok (.invokevirtual 153, 3) := by decide +kernel
theorem dX11_person_61 : decode cX11_person 61 = .ok (.iload_n 1, 1) := by decide +kernel
theorem dX11_person_62 : decode cX11_person 62 = .ok (.invokestatic 171, 3) := by decide +kernel
theorem dX11_person_65 : decode cX11_person 65 = .ok (.ifCond .eq 7, 3) := by decide +kernel
theorem dX11_person_68 : decode cX11_person 68 = .ok (.iconst 1, 1) := by decide +kernel
theorem dX11_person_69 : decode cX11_person 69 = .ok (.goto 4, 3) := by decide +kernel
theorem dX11_person_72 : decode cX11_person 72 = .ok (.iconst 0, 1) := by decide +kernel
theorem dX11_person_73 : decode cX11_person 73 = .ok (.ireturn, 1) := by decide +kernel
theorem dX11_person_74 : decode cX11_person 74 = .ok (.ldc 66, 2) := by decide +kernel
theorem dX11_person_76 : decode cX11_person 76 = .ok (.ireturn, 1) := by decide +kernel
theorem dX11_done_0 : decode cX11_done 0 = .ok (.aload_n 0, 1) := by decide +kernel
theorem dX11_done_1 : decode cX11_done 1 = .ok (.getfield 26, 3) := by decide +kernel
theorem dX11_done_4 : decode cX11_done 4 = .ok (.invokevirtual 123, 3) := by decide +kernel
theorem dX11_done_7 : decode cX11_done 7 = .ok (.ifCond .eq 6, 3) := by decide +kernel
theorem dX11_done_10 : decode cX11_done 10 = .ok (.ldc 127, 2) := by decide +kernel
theorem dX11_done_12 : decode cX11_done 12 = .ok (.ireturn, 1) := by decide +kernel
theorem dX11_done_13 : decode cX11_done 13 = .ok (.aload_n 0, 1) := by decide +kernel
theorem dX11_done_14 : decode cX11_done 14 = .ok (.getfield 26, 3) := by decide +kernel
theorem dX11_done_17 : decode cX11_done 17 = .ok (.iload_n 1, 1) := by decide +kernel
theorem dX11_done_18 : decode cX11_done 18 = .ok (.invokevirtual 128, 3) := by decide +kernel
theorem dX11_done_21 : decode cX11_done 21 = .ok (.ifCond .eq 14, 3) := by decide +kernel
theorem dX11_done_24 : decode cX11_done 24 = .ok (.aload_n 0, 1) := by decide +kernel
theorem dX11_done_25 : decode cX11_done 25 = .ok (.getfield 26, 3) := by decide +kernel
theorem dX11_done_28 : decode cX11_done 28 = .ok (.iload_n 1, 1) := by decide +kernel
theorem dX11_done_29 : decode cX11_done 29 = .ok (.invokevirtual 174, 3) := by decide +kernel
theorem dX11_done_32 : decode cX11_done 32 = .ok (.goto 5, 3) := by decide +kernel
theorem dX11_done_35 : decode cX11_done 35 = .ok (.ldc 66, 2) := by decide +kernel
theorem dX11_done_37 : decode cX11_done 37 = .ok (.ireturn, 1) := by decide +kernel
theorem dX11_agreeing_0 : decode cX11_agreeing 0 = .ok (.aload_n 0, 1) := by decide +kernel
theorem dX11_agreeing_1 : decode cX11_agreeing 1 = .ok (.getfield 26, 3) := by decide +kernel
theorem dX11_agreeing_4 : decode cX11_agreeing 4 = .ok (.invokevirtual 123, 3) := by decide +kernel
theorem dX11_agreeing_7 : decode cX11_agreeing 7 = .ok (.ifCond .eq 6, 3) := by decide +kernel
theorem dX11_agreeing_10 : decode cX11_agreeing 10 = .ok (.ldc 127, 2) := by decide +kernel
theorem dX11_agreeing_12 : decode cX11_agreeing 12 = .ok (.ireturn, 1) := by decide +kernel
theorem dX11_agreeing_13 : decode cX11_agreeing 13 = .ok (.iload_n 1, 1) := by decide +kernel
theorem dX11_agreeing_14 : decode cX11_agreeing 14 = .ok (.iconst (-1), 1) := by decide +kernel
theorem dX11_agreeing_15 : decode cX11_agreeing 15 = .ok (.if_icmp .ge 6, 3) := by decide +kernel
theorem dX11_agreeing_18 : decode cX11_agreeing 18 = .ok (.ldc 66, 2) := by decide +kernel
theorem dX11_agreeing_20 : decode cX11_agreeing 20 = .ok (.ireturn, 1) := by decide +kernel
theorem dX11_agreeing_21 : decode cX11_agreeing 21 = .ok (.iload_n 1, 1) := by decide +kernel
theorem dX11_agreeing_22 : decode cX11_agreeing 22 = .ok (.iconst (-1), 1) := by decide +kernel
theorem dX11_agreeing_23 : decode cX11_agreeing 23 = .ok (.if_icmp .ne 17, 3) := by decide +kernel
theorem dX11_agreeing_26 : decode cX11_agreeing 26 = .ok (.aload_n 0, 1) := by decide +kernel
theorem dX11_agreeing_27 : decode cX11_agreeing 27 = .ok (.getfield 37, 3) := by decide +kernel
theorem dX11_agreeing_30 : decode cX11_agreeing 30 = .ok (.aload_n 0, 1) := by decide +kernel
theorem dX11_agreeing_31 : decode cX11_agreeing 31 = .ok (.getfield 26, 3) := by decide +kernel
theorem dX11_agreeing_34 : decode cX11_agreeing 34 = .ok (.invokevirtual 177, 3) := by decide +kernel
theorem dX11_agreeing_37 : decode cX11_agreeing 37 = .ok (.goto 15, 3) := by decide +kernel
theorem dX11_agreeing_40 : decode cX11_agreeing 40 = .ok (.aload_n 0, 1) := by decide +kernel
theorem dX11_agreeing_41 : decode cX11_agreeing 41 = .ok (.getfield 37, 3) := by decide +kernel
theorem dX11_agreeing_44 : decode cX11_agreeing 44 = .ok (.aload_n 0, 1) := by decide +kernel
theorem dX11_agreeing_45 : decode cX11_agreeing 45 = .ok (.getfield 26, 3) := by decide +kernel
theorem dX11_agreeing_48 : decode cX11_agreeing 48 = .ok (.iload_n 1, 1) := by decide +kernel
theorem dX11_agreeing_49 : decode cX11_agreeing 49 = .ok (.invokevirtual 181, 3) := by decide +kernel
theorem dX11_agreeing_52 : decode cX11_agreeing 52 = .ok (.ireturn, 1) := by decide +kernel
theorem dX11_fullest_0 : decode cX11_fullest 0 = .ok (.aload_n 0, 1) := by decide +kernel
theorem dX11_fullest_1 : decode cX11_fullest 1 = .ok (.getfield 26, 3) := by decide +kernel
theorem dX11_fullest_4 : decode cX11_fullest 4 = .ok (.invokevirtual 123, 3) := by decide +kernel
theorem dX11_fullest_7 : decode cX11_fullest 7 = .ok (.ifCond .eq 8, 3) := by decide +kernel
theorem dX11_fullest_10 : decode cX11_fullest 10 = .ok (.ldc 127, 2) := by decide +kernel
theorem dX11_fullest_12 : decode cX11_fullest 12 = .ok (.goto 14, 3) := by decide +kernel
theorem dX11_fullest_15 : decode cX11_fullest 15 = .ok (.aload_n 0, 1) := by decide +kernel
theorem dX11_fullest_16 : decode cX11_fullest 16 = .ok (.getfield 37, 3) := by decide +kernel
theorem dX11_fullest_19 : decode cX11_fullest 19 = .ok (.aload_n 0, 1) := by decide +kernel
theorem dX11_fullest_20 : decode cX11_fullest 20 = .ok (.getfield 26, 3) := by decide +kernel
theorem dX11_fullest_23 : decode cX11_fullest 23 = .ok (.invokevirtual 185, 3) := by decide +kernel
theorem dX11_fullest_26 : decode cX11_fullest 26 = .ok (.ireturn, 1) := by decide +kernel
theorem dX11_culprits_0 : decode cX11_culprits 0 = .ok (.aload_n 0, 1) := by decide +kernel
theorem dX11_culprits_1 : decode cX11_culprits 1 = .ok (.getfield 26, 3) := by decide +kernel
theorem dX11_culprits_4 : decode cX11_culprits 4 = .ok (.invokevirtual 123, 3) := by decide +kernel
theorem dX11_culprits_7 : decode cX11_culprits 7 = .ok (.ifCond .eq 6, 3) := by decide +kernel
theorem dX11_culprits_10 : decode cX11_culprits 10 = .ok (.ldc 127, 2) := by decide +kernel
theorem dX11_culprits_12 : decode cX11_culprits 12 = .ok (.ireturn, 1) := by decide +kernel
theorem dX11_culprits_13 : decode cX11_culprits 13 = .ok (.iload_n 1, 1) := by decide +kernel
theorem dX11_culprits_14 : decode cX11_culprits 14 = .ok (.lookupswitch 50 #[(0, 26), (1, 38)], 26) := by decide +kernel
theorem dX11_culprits_40 : decode cX11_culprits 40 = .ok (.aload_n 0, 1) := by decide +kernel
theorem dX11_culprits_41 : decode cX11_culprits 41 = .ok (.getfield 37, 3) := by decide +kernel
theorem dX11_culprits_44 : decode cX11_culprits 44 = .ok (.aload_n 0, 1) := by decide +kernel
theorem dX11_culprits_45 : decode cX11_culprits 45 = .ok (.getfield 26, 3) := by decide +kernel
theorem dX11_culprits_48 : decode cX11_culprits 48 = .ok (.invokevirtual 188, 3) := by decide +kernel
theorem dX11_culprits_51 : decode cX11_culprits 51 = .ok (.ireturn, 1) := by decide +kernel
theorem dX11_culprits_52 : decode cX11_culprits 52 = .ok (.aload_n 0, 1) := by decide +kernel
theorem dX11_culprits_53 : decode cX11_culprits 53 = .ok (.getfield 37, 3) := by decide +kernel
theorem dX11_culprits_56 : decode cX11_culprits 56 = .ok (.aload_n 0, 1) := by decide +kernel
theorem dX11_culprits_57 : decode cX11_culprits 57 = .ok (.getfield 26, 3) := by decide +kernel
theorem dX11_culprits_60 : decode cX11_culprits 60 = .ok (.invokevirtual 191, 3) := by decide +kernel
theorem dX11_culprits_63 : decode cX11_culprits 63 = .ok (.ireturn, 1) := by decide +kernel
theorem dX11_culprits_64 : decode cX11_culprits 64 = .ok (.ldc 66, 2) := by decide +kernel
theorem dX11_culprits_66 : decode cX11_culprits 66 = .ok (.ireturn, 1) := by decide +kernel
theorem dX11_chains_0 : decode cX11_chains 0 = .ok (.aload_n 0, 1) := by decide +kernel
theorem dX11_chains_1 : decode cX11_chains 1 = .ok (.getfield 26, 3) := by decide +kernel
theorem dX11_chains_4 : decode cX11_chains 4 = .ok (.invokevirtual 123, 3) := by decide +kernel
theorem dX11_chains_7 : decode cX11_chains 7 = .ok (.ifCond .eq 6, 3) := by decide +kernel
theorem dX11_chains_10 : decode cX11_chains 10 = .ok (.ldc 127, 2) := by decide +kernel
theorem dX11_chains_12 : decode cX11_chains 12 = .ok (.ireturn, 1) := by decide +kernel
theorem dX11_chains_13 : decode cX11_chains 13 = .ok (.iload_n 1, 1) := by decide +kernel
theorem dX11_chains_14 : decode cX11_chains 14 = .ok (.iconst 1, 1) := by decide +kernel
theorem dX11_chains_15 : decode cX11_chains 15 = .ok (.if_icmp .lt 13, 3) := by decide +kernel
theorem dX11_chains_18 : decode cX11_chains 18 = .ok (.iload_n 1, 1) := by decide +kernel
theorem dX11_chains_19 : decode cX11_chains 19 = .ok (.iconst 5, 1) := by decide +kernel
theorem dX11_chains_20 : decode cX11_chains 20 = .ok (.if_icmp .gt 8, 3) := by decide +kernel
theorem dX11_chains_23 : decode cX11_chains 23 = .ok (.iload_n 2, 1) := by decide +kernel
theorem dX11_chains_24 : decode cX11_chains 24 = .ok (.iconst (-1), 1) := by decide +kernel
theorem dX11_chains_25 : decode cX11_chains 25 = .ok (.if_icmp .ge 6, 3) := by decide +kernel
theorem dX11_chains_28 : decode cX11_chains 28 = .ok (.ldc 66, 2) := by decide +kernel
theorem dX11_chains_30 : decode cX11_chains 30 = .ok (.ireturn, 1) := by decide +kernel
theorem dX11_chains_31 : decode cX11_chains 31 = .ok (.aload_n 0, 1) := by decide +kernel
theorem dX11_chains_32 : decode cX11_chains 32 = .ok (.getfield 37, 3) := by decide +kernel
theorem dX11_chains_35 : decode cX11_chains 35 = .ok (.aload_n 0, 1) := by decide +kernel
theorem dX11_chains_36 : decode cX11_chains 36 = .ok (.getfield 26, 3) := by decide +kernel
theorem dX11_chains_39 : decode cX11_chains 39 = .ok (.iload_n 1, 1) := by decide +kernel
theorem dX11_chains_40 : decode cX11_chains 40 = .ok (.invokevirtual 194, 3) := by decide +kernel
theorem dX11_chains_43 : decode cX11_chains 43 = .ok (.istore_n 3, 1) := by decide +kernel
theorem dX11_chains_44 : decode cX11_chains 44 = .ok (.iload_n 2, 1) := by decide +kernel
theorem dX11_chains_45 : decode cX11_chains 45 = .ok (.iconst (-1), 1) := by decide +kernel
theorem dX11_chains_46 : decode cX11_chains 46 = .ok (.if_icmp .ne 5, 3) := by decide +kernel
theorem dX11_chains_49 : decode cX11_chains 49 = .ok (.iload_n 3, 1) := by decide +kernel
theorem dX11_chains_50 : decode cX11_chains 50 = .ok (.ireturn, 1) := by decide +kernel
theorem dX11_chains_51 : decode cX11_chains 51 = .ok (.iload_n 3, 1) := by decide +kernel
theorem dX11_chains_52 : decode cX11_chains 52 = .ok (.ifCond .eq 8, 3) := by decide +kernel
theorem dX11_chains_55 : decode cX11_chains 55 = .ok (.iload_n 2, 1) := by decide +kernel
theorem dX11_chains_56 : decode cX11_chains 56 = .ok (.iload_n 1, 1) := by decide +kernel
theorem dX11_chains_57 : decode cX11_chains 57 = .ok (.if_icmp .lt 8, 3) := by decide +kernel
theorem dX11_chains_60 : decode cX11_chains 60 = .ok (.ldc 197, 2) := by decide +kernel
theorem dX11_chains_62 : decode cX11_chains 62 = .ok (.goto 16, 3) := by decide +kernel
theorem dX11_chains_65 : decode cX11_chains 65 = .ok (.aload_n 0, 1) := by decide +kernel
theorem dX11_chains_66 : decode cX11_chains 66 = .ok (.getfield 37, 3) := by decide +kernel
theorem dX11_chains_69 : decode cX11_chains 69 = .ok (.aload_n 0, 1) := by decide +kernel
theorem dX11_chains_70 : decode cX11_chains 70 = .ok (.getfield 26, 3) := by decide +kernel
theorem dX11_chains_73 : decode cX11_chains 73 = .ok (.iload_n 1, 1) := by decide +kernel
theorem dX11_chains_74 : decode cX11_chains 74 = .ok (.iload_n 2, 1) := by decide +kernel
theorem dX11_chains_75 : decode cX11_chains 75 = .ok (.invokevirtual 198, 3) := by decide +kernel
theorem dX11_chains_78 : decode cX11_chains 78 = .ok (.ireturn, 1) := by decide +kernel
theorem dX11_breaks_0 : decode cX11_breaks 0 = .ok (.aload_n 0, 1) := by decide +kernel
theorem dX11_breaks_1 : decode cX11_breaks 1 = .ok (.iload_n 1, 1) := by decide +kernel
theorem dX11_breaks_2 : decode cX11_breaks 2 = .ok (.iload_n 2, 1) := by decide +kernel
theorem dX11_breaks_3 : decode cX11_breaks 3 = .ok (.iload_n 3, 1) := by decide +kernel
theorem dX11_breaks_4 : decode cX11_breaks 4 = .ok (.iconst 0, 1) := by decide +kernel
theorem dX11_breaks_5 : decode cX11_breaks 5 = .ok (.bipush 40, 2) := by decide +kernel
theorem dX11_breaks_7 : decode cX11_breaks 7 = .ok (.invokevirtual 141, 3) := by decide +kernel
theorem dX11_breaks_10 : decode cX11_breaks 10 = .ok (.istore 4, 2) := by decide +kernel
theorem dX11_breaks_12 : decode cX11_breaks 12 = .ok (.iload 4, 2) := by decide +kernel
theorem dX11_breaks_14 : decode cX11_breaks 14 = .ok (.ifCond .eq 6, 3) := by decide +kernel
theorem dX11_breaks_17 : decode cX11_breaks 17 = .ok (.iload 4, 2) := by decide +kernel
theorem dX11_breaks_19 : decode cX11_breaks 19 = .ok (.ireturn, 1) := by decide +kernel
theorem dX11_breaks_20 : decode cX11_breaks 20 = .ok (.aload_n 0, 1) := by decide +kernel
theorem dX11_breaks_21 : decode cX11_breaks 21 = .ok (.getfield 26, 3) := by decide +kernel
theorem dX11_breaks_24 : decode cX11_breaks 24 = .ok (.invokevirtual 153, 3) := by decide +kernel
theorem dX11_breaks_27 : decode cX11_breaks 27 = .ok (.istore 5, 2) := by decide +kernel
theorem dX11_breaks_29 : decode cX11_breaks 29 = .ok (.iconst 0, 1) := by decide +kernel
theorem dX11_breaks_30 : decode cX11_breaks 30 = .ok (.istore 6, 2) := by decide +kernel
theorem dX11_breaks_32 : decode cX11_breaks 32 = .ok (.iload 6, 2) := by decide +kernel
theorem dX11_breaks_34 : decode cX11_breaks 34 = .ok (.iload_n 3, 1) := by decide +kernel
theorem dX11_breaks_35 : decode cX11_breaks 35 = .ok (.if_icmp .ge 48, 3) := by decide +kernel
theorem dX11_breaks_38 : decode cX11_breaks 38 = .ok (.aload_n 0, 1) := by decide +kernel
theorem dX11_breaks_39 : decode cX11_breaks 39 = .ok (.getfield 12, 3) := by decide +kernel
theorem dX11_breaks_42 : decode cX11_breaks 42 = .ok (.iload_n 1, 1) := by decide +kernel
theorem dX11_breaks_43 : decode cX11_breaks 43 = .ok (.iload_n 2, 1) := by decide +kernel
theorem dX11_breaks_44 : decode cX11_breaks 44 = .ok (.iload 6, 2) := by decide +kernel
theorem dX11_breaks_46 : decode cX11_breaks 46 = .ok (.iadd, 1) := by decide +kernel
theorem dX11_breaks_47 : decode cX11_breaks 47 = .ok (.invokevirtual 145, 3) := by decide +kernel
theorem dX11_breaks_50 : decode cX11_breaks 50 = .ok (.istore 7, 2) := by decide +kernel
theorem dX11_breaks_52 : decode cX11_breaks 52 = .ok (.aload_n 0, 1) := by decide +kernel
theorem dX11_breaks_53 : decode cX11_breaks 53 = .ok (.getfield 26, 3) := by decide +kernel
theorem dX11_breaks_56 : decode cX11_breaks 56 = .ok (.iload 7, 2) := by decide +kernel
theorem dX11_breaks_58 : decode cX11_breaks 58 = .ok (.iload 5, 2) := by decide +kernel
theorem dX11_breaks_60 : decode cX11_breaks 60 = .ok (.invokevirtual 202, 3) := by decide +kernel
theorem dX11_breaks_63 : decode cX11_breaks 63 = .ok (.ifCond .ne 10, 3) := by decide +kernel
theorem dX11_breaks_66 : decode cX11_breaks 66 = .ok (.aload_n 0, 1) := by decide +kernel
theorem dX11_breaks_67 : decode cX11_breaks 67 = .ok (.iload 6, 2) := by decide +kernel
theorem dX11_breaks_69 : decode cX11_breaks 69 = .ok (.invokevirtual 75, 3) := by decide +kernel
theorem dX11_breaks_72 : decode cX11_breaks 72 = .ok (.ireturn, 1) := by decide +kernel
theorem dX11_breaks_73 : decode cX11_breaks 73 = .ok (.iload 7, 2) := by decide +kernel
theorem dX11_breaks_75 : decode cX11_breaks 75 = .ok (.istore 5, 2) := by decide +kernel
theorem dX11_breaks_77 : decode cX11_breaks 77 = .ok (.iinc 6 1, 3) := by decide +kernel
theorem dX11_breaks_80 : decode cX11_breaks 80 = .ok (.goto (-48), 3) := by decide +kernel
theorem dX11_breaks_83 : decode cX11_breaks 83 = .ok (.aload_n 0, 1) := by decide +kernel
theorem dX11_breaks_84 : decode cX11_breaks 84 = .ok (.ldc 197, 2) := by decide +kernel
theorem dX11_breaks_86 : decode cX11_breaks 86 = .ok (.invokevirtual 75, 3) := by decide +kernel
theorem dX11_breaks_89 : decode cX11_breaks 89 = .ok (.ireturn, 1) := by decide +kernel
theorem dX11_comes_0 : decode cX11_comes 0 = .ok (.aload_n 0, 1) := by decide +kernel
theorem dX11_comes_1 : decode cX11_comes 1 = .ok (.getfield 26, 3) := by decide +kernel
theorem dX11_comes_4 : decode cX11_comes 4 = .ok (.invokevirtual 123, 3) := by decide +kernel
theorem dX11_comes_7 : decode cX11_comes 7 = .ok (.ifCond .eq 6, 3) := by decide +kernel
theorem dX11_comes_10 : decode cX11_comes 10 = .ok (.ldc 127, 2) := by decide +kernel
theorem dX11_comes_12 : decode cX11_comes 12 = .ok (.ireturn, 1) := by decide +kernel
theorem dX11_comes_13 : decode cX11_comes 13 = .ok (.aload_n 0, 1) := by decide +kernel
theorem dX11_comes_14 : decode cX11_comes 14 = .ok (.getfield 26, 3) := by decide +kernel
theorem dX11_comes_17 : decode cX11_comes 17 = .ok (.iload_n 1, 1) := by decide +kernel
theorem dX11_comes_18 : decode cX11_comes 18 = .ok (.invokevirtual 128, 3) := by decide +kernel
theorem dX11_comes_21 : decode cX11_comes 21 = .ok (.ifCond .eq 23, 3) := by decide +kernel
theorem dX11_comes_24 : decode cX11_comes 24 = .ok (.aload_n 0, 1) := by decide +kernel
theorem dX11_comes_25 : decode cX11_comes 25 = .ok (.getfield 26, 3) := by decide +kernel
theorem dX11_comes_28 : decode cX11_comes 28 = .ok (.iload_n 2, 1) := by decide +kernel
theorem dX11_comes_29 : decode cX11_comes 29 = .ok (.invokevirtual 128, 3) := by decide +kernel
theorem dX11_comes_32 : decode cX11_comes 32 = .ok (.ifCond .eq 12, 3) := by decide +kernel
theorem dX11_comes_35 : decode cX11_comes 35 = .ok (.iload_n 3, 1) := by decide +kernel
theorem dX11_comes_36 : decode cX11_comes 36 = .ok (.ifCond .lt 8, 3) := by decide +kernel
theorem dX11_comes_39 : decode cX11_comes 39 = .ok (.iload_n 3, 1) := by decide +kernel
theorem dX11_comes_40 : decode cX11_comes 40 = .ok (.iconst 1, 1) := by decide +kernel
theorem dX11_comes_41 : decode cX11_comes 41 = .ok (.if_icmp .le 6, 3) := by decide +kernel
theorem dX11_comes_44 : decode cX11_comes 44 = .ok (.ldc 66, 2) := by decide +kernel
theorem dX11_comes_46 : decode cX11_comes 46 = .ok (.ireturn, 1) := by decide +kernel
theorem dX11_comes_47 : decode cX11_comes 47 = .ok (.aload_n 0, 1) := by decide +kernel
theorem dX11_comes_48 : decode cX11_comes 48 = .ok (.getfield 26, 3) := by decide +kernel
theorem dX11_comes_51 : decode cX11_comes 51 = .ok (.iload_n 1, 1) := by decide +kernel
theorem dX11_comes_52 : decode cX11_comes 52 = .ok (.iload_n 2, 1) := by decide +kernel
theorem dX11_comes_53 : decode cX11_comes 53 = .ok (.invokevirtual 205, 3) := by decide +kernel
theorem dX11_comes_56 : decode cX11_comes 56 = .ok (.istore 4, 2) := by decide +kernel
theorem dX11_comes_58 : decode cX11_comes 58 = .ok (.aload_n 0, 1) := by decide +kernel
theorem dX11_comes_59 : decode cX11_comes 59 = .ok (.getfield 26, 3) := by decide +kernel
theorem dX11_comes_62 : decode cX11_comes 62 = .ok (.invokevirtual 208, 3) := by decide +kernel
theorem dX11_comes_65 : decode cX11_comes 65 = .ok (.istore 5, 2) := by decide +kernel
theorem dX11_comes_67 : decode cX11_comes 67 = .ok (.iload 4, 2) := by decide +kernel
theorem dX11_comes_69 : decode cX11_comes 69 = .ok (.iload 5, 2) := by decide +kernel
theorem dX11_comes_71 : decode cX11_comes 71 = .ok (.invokestatic 211, 3) := by decide +kernel
theorem dX11_comes_74 : decode cX11_comes 74 = .ok (.istore 6, 2) := by decide +kernel
theorem dX11_comes_76 : decode cX11_comes 76 = .ok (.iload 6, 2) := by decide +kernel
theorem dX11_comes_78 : decode cX11_comes 78 = .ok (.iconst 1, 1) := by decide +kernel
theorem dX11_comes_79 : decode cX11_comes 79 = .ok (.if_icmp .ge 6, 3) := by decide +kernel
theorem dX11_comes_82 : decode cX11_comes 82 = .ok (.ldc 197, 2) := by decide +kernel
theorem dX11_comes_84 : decode cX11_comes 84 = .ok (.ireturn, 1) := by decide +kernel
theorem dX11_comes_85 : decode cX11_comes 85 = .ok (.iload_n 3, 1) := by decide +kernel
theorem dX11_comes_86 : decode cX11_comes 86 = .ok (.ifCond .ne 8, 3) := by decide +kernel
theorem dX11_comes_89 : decode cX11_comes 89 = .ok (.iload 4, 2) := by decide +kernel
theorem dX11_comes_91 : decode cX11_comes 91 = .ok (.goto 5, 3) := by decide +kernel
theorem dX11_comes_94 : decode cX11_comes 94 = .ok (.iload 5, 2) := by decide +kernel
theorem dX11_comes_96 : decode cX11_comes 96 = .ok (.iload 6, 2) := by decide +kernel
theorem dX11_comes_98 : decode cX11_comes 98 = .ok (.idiv, 1) := by decide +kernel
theorem dX11_comes_99 : decode cX11_comes 99 = .ok (.ireturn, 1) := by decide +kernel
theorem dX11_likeliest_0 : decode cX11_likeliest 0 = .ok (.aload_n 0, 1) := by decide +kernel
theorem dX11_likeliest_1 : decode cX11_likeliest 1 = .ok (.getfield 26, 3) := by decide +kernel
theorem dX11_likeliest_4 : decode cX11_likeliest 4 = .ok (.invokevirtual 123, 3) := by decide +kernel
theorem dX11_likeliest_7 : decode cX11_likeliest 7 = .ok (.ifCond .eq 8, 3) := by decide +kernel
theorem dX11_likeliest_10 : decode cX11_likeliest 10 = .ok (.ldc 127, 2) := by decide +kernel
theorem dX11_likeliest_12 : decode cX11_likeliest 12 = .ok (.goto 14, 3) := by decide +kernel
theorem dX11_likeliest_15 : decode cX11_likeliest 15 = .ok (.aload_n 0, 1) := by decide +kernel
theorem dX11_likeliest_16 : decode cX11_likeliest 16 = .ok (.getfield 37, 3) := by decide +kernel
theorem dX11_likeliest_19 : decode cX11_likeliest 19 = .ok (.aload_n 0, 1) := by decide +kernel
theorem dX11_likeliest_20 : decode cX11_likeliest 20 = .ok (.getfield 26, 3) := by decide +kernel
theorem dX11_likeliest_23 : decode cX11_likeliest 23 = .ok (.invokevirtual 214, 3) := by decide +kernel
theorem dX11_likeliest_26 : decode cX11_likeliest 26 = .ok (.ireturn, 1) := by decide +kernel
theorem dX11_lost_0 : decode cX11_lost 0 = .ok (.aload_n 0, 1) := by decide +kernel
theorem dX11_lost_1 : decode cX11_lost 1 = .ok (.getfield 26, 3) := by decide +kernel
theorem dX11_lost_4 : decode cX11_lost 4 = .ok (.invokevirtual 123, 3) := by decide +kernel
theorem dX11_lost_7 : decode cX11_lost 7 = .ok (.ifCond .eq 6, 3) := by decide +kernel
theorem dX11_lost_10 : decode cX11_lost 10 = .ok (.ldc 127, 2) := by decide +kernel
theorem dX11_lost_12 : decode cX11_lost 12 = .ok (.ireturn, 1) := by decide +kernel
theorem dX11_lost_13 : decode cX11_lost 13 = .ok (.aload_n 0, 1) := by decide +kernel
theorem dX11_lost_14 : decode cX11_lost 14 = .ok (.getfield 26, 3) := by decide +kernel
theorem dX11_lost_17 : decode cX11_lost 17 = .ok (.iload_n 1, 1) := by decide +kernel
theorem dX11_lost_18 : decode cX11_lost 18 = .ok (.invokevirtual 128, 3) := by decide +kernel
theorem dX11_lost_21 : decode cX11_lost 21 = .ok (.ifCond .eq 12, 3) := by decide +kernel
theorem dX11_lost_24 : decode cX11_lost 24 = .ok (.iload_n 2, 1) := by decide +kernel
theorem dX11_lost_25 : decode cX11_lost 25 = .ok (.ifCond .lt 8, 3) := by decide +kernel
theorem dX11_lost_28 : decode cX11_lost 28 = .ok (.iload_n 2, 1) := by decide +kernel
theorem dX11_lost_29 : decode cX11_lost 29 = .ok (.iconst 1, 1) := by decide +kernel
theorem dX11_lost_30 : decode cX11_lost 30 = .ok (.if_icmp .le 6, 3) := by decide +kernel
theorem dX11_lost_33 : decode cX11_lost 33 = .ok (.ldc 66, 2) := by decide +kernel
theorem dX11_lost_35 : decode cX11_lost 35 = .ok (.ireturn, 1) := by decide +kernel
theorem dX11_lost_36 : decode cX11_lost 36 = .ok (.iload_n 2, 1) := by decide +kernel
theorem dX11_lost_37 : decode cX11_lost 37 = .ok (.ifCond .ne 18, 3) := by decide +kernel
theorem dX11_lost_40 : decode cX11_lost 40 = .ok (.aload_n 0, 1) := by decide +kernel
theorem dX11_lost_41 : decode cX11_lost 41 = .ok (.getfield 37, 3) := by decide +kernel
theorem dX11_lost_44 : decode cX11_lost 44 = .ok (.aload_n 0, 1) := by decide +kernel
theorem dX11_lost_45 : decode cX11_lost 45 = .ok (.getfield 26, 3) := by decide +kernel
theorem dX11_lost_48 : decode cX11_lost 48 = .ok (.iload_n 1, 1) := by decide +kernel
theorem dX11_lost_49 : decode cX11_lost 49 = .ok (.invokevirtual 217, 3) := by decide +kernel
theorem dX11_lost_52 : decode cX11_lost 52 = .ok (.goto 15, 3) := by decide +kernel
theorem dX11_lost_55 : decode cX11_lost 55 = .ok (.aload_n 0, 1) := by decide +kernel
theorem dX11_lost_56 : decode cX11_lost 56 = .ok (.getfield 37, 3) := by decide +kernel
theorem dX11_lost_59 : decode cX11_lost 59 = .ok (.aload_n 0, 1) := by decide +kernel
theorem dX11_lost_60 : decode cX11_lost 60 = .ok (.getfield 26, 3) := by decide +kernel
theorem dX11_lost_63 : decode cX11_lost 63 = .ok (.iload_n 1, 1) := by decide +kernel
theorem dX11_lost_64 : decode cX11_lost 64 = .ok (.invokevirtual 220, 3) := by decide +kernel
theorem dX11_lost_67 : decode cX11_lost 67 = .ok (.ireturn, 1) := by decide +kernel
theorem dX11_readBy_0 : decode cX11_readBy 0 = .ok (.aload_n 0, 1) := by decide +kernel
theorem dX11_readBy_1 : decode cX11_readBy 1 = .ok (.getfield 26, 3) := by decide +kernel
theorem dX11_readBy_4 : decode cX11_readBy 4 = .ok (.invokevirtual 123, 3) := by decide +kernel
theorem dX11_readBy_7 : decode cX11_readBy 7 = .ok (.ifCond .eq 6, 3) := by decide +kernel
theorem dX11_readBy_10 : decode cX11_readBy 10 = .ok (.ldc 127, 2) := by decide +kernel
theorem dX11_readBy_12 : decode cX11_readBy 12 = .ok (.ireturn, 1) := by decide +kernel
theorem dX11_readBy_13 : decode cX11_readBy 13 = .ok (.aload_n 0, 1) := by decide +kernel
theorem dX11_readBy_14 : decode cX11_readBy 14 = .ok (.getfield 26, 3) := by decide +kernel
theorem dX11_readBy_17 : decode cX11_readBy 17 = .ok (.iload_n 1, 1) := by decide +kernel
theorem dX11_readBy_18 : decode cX11_readBy 18 = .ok (.invokevirtual 128, 3) := by decide +kernel
theorem dX11_readBy_21 : decode cX11_readBy 21 = .ok (.ifCond .eq 12, 3) := by decide +kernel
theorem dX11_readBy_24 : decode cX11_readBy 24 = .ok (.iload_n 2, 1) := by decide +kernel
theorem dX11_readBy_25 : decode cX11_readBy 25 = .ok (.ifCond .lt 8, 3) := by decide +kernel
theorem dX11_readBy_28 : decode cX11_readBy 28 = .ok (.iload_n 2, 1) := by decide +kernel
theorem dX11_readBy_29 : decode cX11_readBy 29 = .ok (.iconst 1, 1) := by decide +kernel
theorem dX11_readBy_30 : decode cX11_readBy 30 = .ok (.if_icmp .le 6, 3) := by decide +kernel
theorem dX11_readBy_33 : decode cX11_readBy 33 = .ok (.ldc 66, 2) := by decide +kernel
theorem dX11_readBy_35 : decode cX11_readBy 35 = .ok (.ireturn, 1) := by decide +kernel
theorem dX11_readBy_36 : decode cX11_readBy 36 = .ok (.iload_n 2, 1) := by decide +kernel
theorem dX11_readBy_37 : decode cX11_readBy 37 = .ok (.ifCond .ne 18, 3) := by decide +kernel
theorem dX11_readBy_40 : decode cX11_readBy 40 = .ok (.aload_n 0, 1) := by decide +kernel
theorem dX11_readBy_41 : decode cX11_readBy 41 = .ok (.getfield 37, 3) := by decide +kernel
theorem dX11_readBy_44 : decode cX11_readBy 44 = .ok (.aload_n 0, 1) := by decide +kernel
theorem dX11_readBy_45 : decode cX11_readBy 45 = .ok (.getfield 26, 3) := by decide +kernel
theorem dX11_readBy_48 : decode cX11_readBy 48 = .ok (.iload_n 1, 1) := by decide +kernel
theorem dX11_readBy_49 : decode cX11_readBy 49 = .ok (.invokevirtual 223, 3) := by decide +kernel
theorem dX11_readBy_52 : decode cX11_readBy 52 = .ok (.goto 15, 3) := by decide +kernel
theorem dX11_readBy_55 : decode cX11_readBy 55 = .ok (.aload_n 0, 1) := by decide +kernel
theorem dX11_readBy_56 : decode cX11_readBy 56 = .ok (.getfield 37, 3) := by decide +kernel
theorem dX11_readBy_59 : decode cX11_readBy 59 = .ok (.aload_n 0, 1) := by decide +kernel
theorem dX11_readBy_60 : decode cX11_readBy 60 = .ok (.getfield 26, 3) := by decide +kernel
theorem dX11_readBy_63 : decode cX11_readBy 63 = .ok (.iload_n 1, 1) := by decide +kernel
theorem dX11_readBy_64 : decode cX11_readBy 64 = .ok (.invokevirtual 226, 3) := by decide +kernel
theorem dX11_readBy_67 : decode cX11_readBy 67 = .ok (.ireturn, 1) := by decide +kernel
theorem dX11_image_0 : decode cX11_image 0 = .ok (.aload_n 0, 1) := by decide +kernel
theorem dX11_image_1 : decode cX11_image 1 = .ok (.iload_n 1, 1) := by decide +kernel
theorem dX11_image_2 : decode cX11_image 2 = .ok (.invokevirtual 229, 3) := by decide +kernel
theorem dX11_image_5 : decode cX11_image 5 = .ok (.astore_n 2, 1) := by decide +kernel
theorem dX11_image_6 : decode cX11_image 6 = .ok (.aload_n 2, 1) := by decide +kernel
theorem dX11_image_7 : decode cX11_image 7 = .ok (.ifnonnull 6, 3) := by decide +kernel
theorem dX11_image_10 : decode cX11_image 10 = .ok (.ldc 66, 2) := by decide +kernel
theorem dX11_image_12 : decode cX11_image 12 = .ok (.ireturn, 1) := by decide +kernel
theorem dX11_image_13 : decode cX11_image 13 = .ok (.aload_n 0, 1) := by decide +kernel
theorem dX11_image_14 : decode cX11_image 14 = .ok (.getfield 26, 3) := by decide +kernel
theorem dX11_image_17 : decode cX11_image 17 = .ok (.invokevirtual 123, 3) := by decide +kernel
theorem dX11_image_20 : decode cX11_image 20 = .ok (.ifCond .eq 6, 3) := by decide +kernel
theorem dX11_image_23 : decode cX11_image 23 = .ok (.ldc 127, 2) := by decide +kernel
theorem dX11_image_25 : decode cX11_image 25 = .ok (.ireturn, 1) := by decide +kernel
theorem dX11_image_26 : decode cX11_image 26 = .ok (.aload_n 2, 1) := by decide +kernel
theorem dX11_image_27 : decode cX11_image 27 = .ok (.aload_n 0, 1) := by decide +kernel
theorem dX11_image_28 : decode cX11_image 28 = .ok (.getfield 26, 3) := by decide +kernel
theorem dX11_image_31 : decode cX11_image 31 = .ok (.invokevirtual 233, 3) := by decide +kernel
theorem dX11_image_34 : decode cX11_image 34 = .ok (.iconst 1, 1) := by decide +kernel
theorem dX11_image_35 : decode cX11_image 35 = .ok (.ireturn, 1) := by decide +kernel
theorem dX11_restore_0 : decode cX11_restore 0 = .ok (.aload_n 0, 1) := by decide +kernel
theorem dX11_restore_1 : decode cX11_restore 1 = .ok (.iload_n 1, 1) := by decide +kernel
theorem dX11_restore_2 : decode cX11_restore 2 = .ok (.invokevirtual 229, 3) := by decide +kernel
theorem dX11_restore_5 : decode cX11_restore 5 = .ok (.astore_n 2, 1) := by decide +kernel
theorem dX11_restore_6 : decode cX11_restore 6 = .ok (.aload_n 2, 1) := by decide +kernel
theorem dX11_restore_7 : decode cX11_restore 7 = .ok (.ifnonnull 6, 3) := by decide +kernel
theorem dX11_restore_10 : decode cX11_restore 10 = .ok (.ldc 66, 2) := by decide +kernel
theorem dX11_restore_12 : decode cX11_restore 12 = .ok (.ireturn, 1) := by decide +kernel
theorem dX11_restore_13 : decode cX11_restore 13 = .ok (.aload_n 2, 1) := by decide +kernel
theorem dX11_restore_14 : decode cX11_restore 14 = .ok (.invokevirtual 123, 3) := by decide +kernel
theorem dX11_restore_17 : decode cX11_restore 17 = .ok (.ifCond .eq 6, 3) := by decide +kernel
theorem dX11_restore_20 : decode cX11_restore 20 = .ok (.ldc 127, 2) := by decide +kernel
theorem dX11_restore_22 : decode cX11_restore 22 = .ok (.ireturn, 1) := by decide +kernel
theorem dX11_restore_23 : decode cX11_restore 23 = .ok (.aload_n 0, 1) := by decide +kernel
theorem dX11_restore_24 : decode cX11_restore 24 = .ok (.getfield 26, 3) := by decide +kernel
theorem dX11_restore_27 : decode cX11_restore 27 = .ok (.aload_n 2, 1) := by decide +kernel
theorem dX11_restore_28 : decode cX11_restore 28 = .ok (.invokevirtual 233, 3) := by decide +kernel
theorem dX11_restore_31 : decode cX11_restore 31 = .ok (.aload_n 0, 1) := by decide +kernel
theorem dX11_restore_32 : decode cX11_restore 32 = .ok (.iconst 0, 1) := by decide +kernel
theorem dX11_restore_33 : decode cX11_restore 33 = .ok (.putfield 52, 3) := by decide +kernel
theorem dX11_restore_36 : decode cX11_restore 36 = .ok (.iconst 1, 1) := by decide +kernel
theorem dX11_restore_37 : decode cX11_restore 37 = .ok (.ireturn, 1) := by decide +kernel
theorem dX11_kind_0 : decode cX11_kind 0 = .ok (.aload_n 0, 1) := by decide +kernel
theorem dX11_kind_1 : decode cX11_kind 1 = .ok (.getfield 26, 3) := by decide +kernel
theorem dX11_kind_4 : decode cX11_kind 4 = .ok (.iload_n 1, 1) := by decide +kernel
theorem dX11_kind_5 : decode cX11_kind 5 = .ok (.invokevirtual 159, 3) := by decide +kernel
theorem dX11_kind_8 : decode cX11_kind 8 = .ok (.astore_n 2, 1) := by decide +kernel
theorem dX11_kind_9 : decode cX11_kind 9 = .ok (.aload_n 2, 1) := by decide +kernel
theorem dX11_kind_10 : decode cX11_kind 10 = .ok (.ifnonnull 8, 3) := by decide +kernel
theorem dX11_kind_13 : decode cX11_kind 13 = .ok (.ldc 66, 2) := by decide +kernel
theorem dX11_kind_15 : decode cX11_kind 15 = .ok (.goto 7, 3) := by decide +kernel
theorem dX11_kind_18 : decode cX11_kind 18 = .ok (.aload_n 2, 1) := by decide +kernel
theorem dX11_kind_19 : decode cX11_kind 19 = .ok (.invokevirtual 237, 3) := by decide +kernel
theorem dX11_kind_22 : decode cX11_kind 22 = .ok (.ireturn, 1) := by decide +kernel
theorem dX11_as_0 : decode cX11_as 0 = .ok (.aload_n 0, 1) := by decide +kernel
theorem dX11_as_1 : decode cX11_as 1 = .ok (.getfield 26, 3) := by decide +kernel
theorem dX11_as_4 : decode cX11_as 4 = .ok (.iload_n 1, 1) := by decide +kernel
theorem dX11_as_5 : decode cX11_as 5 = .ok (.invokevirtual 159, 3) := by decide +kernel
theorem dX11_as_8 : decode cX11_as 8 = .ok (.astore_n 3, 1) := by decide +kernel
theorem dX11_as_9 : decode cX11_as 9 = .ok (.aload_n 3, 1) := by decide +kernel
theorem dX11_as_10 : decode cX11_as 10 = .ok (.ifnull 12, 3) := by decide +kernel
theorem dX11_as_13 : decode cX11_as 13 = .ok (.iload_n 2, 1) := by decide +kernel
theorem dX11_as_14 : decode cX11_as 14 = .ok (.ifCond .lt 8, 3) := by decide +kernel
theorem dX11_as_17 : decode cX11_as 17 = .ok (.iload_n 2, 1) := by decide +kernel
theorem dX11_as_18 : decode cX11_as 18 = .ok (.iconst 5, 1) := by decide +kernel
theorem dX11_as_19 : decode cX11_as 19 = .ok (.if_icmp .le 6, 3) := by decide +kernel
theorem dX11_as_22 : decode cX11_as 22 = .ok (.ldc 66, 2) := by decide +kernel
theorem dX11_as_24 : decode cX11_as 24 = .ok (.ireturn, 1) := by decide +kernel
theorem dX11_as_25 : decode cX11_as 25 = .ok (.aload_n 3, 1) := by decide +kernel
theorem dX11_as_26 : decode cX11_as 26 = .ok (.iload_n 2, 1) := by decide +kernel
theorem dX11_as_27 : decode cX11_as 27 = .ok (.invokestatic 240, 3) := by decide +kernel
theorem dX11_as_30 : decode cX11_as 30 = .ok (.ifCond .eq 14, 3) := by decide +kernel
theorem dX11_as_33 : decode cX11_as 33 = .ok (.aload_n 0, 1) := by decide +kernel
theorem dX11_as_34 : decode cX11_as 34 = .ok (.aload_n 3, 1) := by decide +kernel
theorem dX11_as_35 : decode cX11_as 35 = .ok (.getfield 244, 3) := by decide +kernel
theorem dX11_as_38 : decode cX11_as 38 = .ok (.invokevirtual 75, 3) := by decide +kernel
theorem dX11_as_41 : decode cX11_as 41 = .ok (.goto 8, 3) := by decide +kernel
theorem dX11_as_44 : decode cX11_as 44 = .ok (.aload_n 0, 1) := by decide +kernel
theorem dX11_as_45 : decode cX11_as 45 = .ok (.iconst 3, 1) := by decide +kernel
theorem dX11_as_46 : decode cX11_as 46 = .ok (.invokevirtual 67, 3) := by decide +kernel
theorem dX11_as_49 : decode cX11_as 49 = .ok (.ireturn, 1) := by decide +kernel
theorem dX11_ask_0 : decode cX11_ask 0 = .ok (.aload_n 0, 1) := by decide +kernel
theorem dX11_ask_1 : decode cX11_ask 1 = .ok (.getfield 26, 3) := by decide +kernel
theorem dX11_ask_4 : decode cX11_ask 4 = .ok (.iload_n 1, 1) := by decide +kernel
theorem dX11_ask_5 : decode cX11_ask 5 = .ok (.invokevirtual 159, 3) := by decide +kernel
theorem dX11_ask_8 : decode cX11_ask 8 = .ok (.astore_n 3, 1) := by decide +kernel
theorem dX11_ask_9 : decode cX11_ask 9 = .ok (.aload_n 3, 1) := by decide +kernel
theorem dX11_ask_10 : decode cX11_ask 10 = .ok (.ifnull 12, 3) := by decide +kernel
theorem dX11_ask_13 : decode cX11_ask 13 = .ok (.iload_n 2, 1) := by decide +kernel
theorem dX11_ask_14 : decode cX11_ask 14 = .ok (.ifCond .lt 8, 3) := by decide +kernel
theorem dX11_ask_17 : decode cX11_ask 17 = .ok (.iload_n 2, 1) := by decide +kernel
theorem dX11_ask_18 : decode cX11_ask 18 = .ok (.iconst 1, 1) := by decide +kernel
theorem dX11_ask_19 : decode cX11_ask 19 = .ok (.if_icmp .le 6, 3) := by decide +kernel
theorem dX11_ask_22 : decode cX11_ask 22 = .ok (.ldc 66, 2) := by decide +kernel
theorem dX11_ask_24 : decode cX11_ask 24 = .ok (.ireturn, 1) := by decide +kernel
theorem dX11_ask_25 : decode cX11_ask 25 = .ok (.aload_n 0, 1) := by decide +kernel
theorem dX11_ask_26 : decode cX11_ask 26 = .ok (.getfield 44, 3) := by decide +kernel
theorem dX11_ask_29 : decode cX11_ask 29 = .ok (.invokevirtual 247, 3) := by decide +kernel
theorem dX11_ask_32 : decode cX11_ask 32 = .ok (.iload_n 2, 1) := by decide +kernel
theorem dX11_ask_33 : decode cX11_ask 33 = .ok (.ifCond .ne 14, 3) := by decide +kernel
theorem dX11_ask_36 : decode cX11_ask 36 = .ok (.aload_n 3, 1) := by decide +kernel
theorem dX11_ask_37 : decode cX11_ask 37 = .ok (.aload_n 0, 1) := by decide +kernel
theorem dX11_ask_38 : decode cX11_ask 38 = .ok (.getfield 44, 3) := by decide +kernel
theorem dX11_ask_41 : decode cX11_ask 41 = .ok (.invokevirtual 250, 3) := by decide +kernel
theorem dX11_ask_44 : decode cX11_ask 44 = .ok (.goto 11, 3) := by decide +kernel
theorem dX11_ask_47 : decode cX11_ask 47 = .ok (.aload_n 3, 1) := by decide +kernel
theorem dX11_ask_48 : decode cX11_ask 48 = .ok (.aload_n 0, 1) := by decide +kernel
theorem dX11_ask_49 : decode cX11_ask 49 = .ok (.getfield 44, 3) := by decide +kernel
theorem dX11_ask_52 : decode cX11_ask 52 = .ok (.invokevirtual 253, 3) := by decide +kernel
theorem dX11_ask_55 : decode cX11_ask 55 = .ok (.ireturn, 1) := by decide +kernel
theorem dX11_trace_0 : decode cX11_trace 0 = .ok (.aload_n 0, 1) := by decide +kernel
theorem dX11_trace_1 : decode cX11_trace 1 = .ok (.getfield 44, 3) := by decide +kernel
theorem dX11_trace_4 : decode cX11_trace 4 = .ok (.iload_n 1, 1) := by decide +kernel
theorem dX11_trace_5 : decode cX11_trace 5 = .ok (.invokevirtual 256, 3) := by decide +kernel
theorem dX11_trace_8 : decode cX11_trace 8 = .ok (.ireturn, 1) := by decide +kernel
theorem dX11_count_0 : decode cX11_count 0 = .ok (.iload_n 1, 1) := by decide +kernel
theorem dX11_count_1 : decode cX11_count 1 = .ok (.tableswitch 84 0 5 #[39, 47, 55, 63, 71, 76], 39) := by decide +kernel
theorem dX11_count_40 : decode cX11_count 40 = .ok (.aload_n 0, 1) := by decide +kernel
theorem dX11_count_41 : decode cX11_count 41 = .ok (.getfield 12, 3) := by decide +kernel
theorem dX11_count_44 : decode cX11_count 44 = .ok (.invokevirtual 259, 3) := by decide +kernel
theorem dX11_count_47 : decode cX11_count 47 = .ok (.ireturn, 1) := by decide +kernel
theorem dX11_count_48 : decode cX11_count 48 = .ok (.aload_n 0, 1) := by decide +kernel
theorem dX11_count_49 : decode cX11_count 49 = .ok (.getfield 26, 3) := by decide +kernel
theorem dX11_count_52 : decode cX11_count 52 = .ok (.invokevirtual 117, 3) := by decide +kernel
theorem dX11_count_55 : decode cX11_count 55 = .ok (.ireturn, 1) := by decide +kernel
theorem dX11_count_56 : decode cX11_count 56 = .ok (.aload_n 0, 1) := by decide +kernel
theorem dX11_count_57 : decode cX11_count 57 = .ok (.getfield 26, 3) := by decide +kernel
theorem dX11_count_60 : decode cX11_count 60 = .ok (.invokevirtual 134, 3) := by decide +kernel
theorem dX11_count_63 : decode cX11_count 63 = .ok (.ireturn, 1) := by decide +kernel
theorem dX11_count_64 : decode cX11_count 64 = .ok (.aload_n 0, 1) := by decide +kernel
theorem dX11_count_65 : decode cX11_count 65 = .ok (.getfield 26, 3) := by decide +kernel
theorem dX11_count_68 : decode cX11_count 68 = .ok (.invokevirtual 153, 3) := by decide +kernel
theorem dX11_count_71 : decode cX11_count 71 = .ok (.ireturn, 1) := by decide +kernel
theorem dX11_count_72 : decode cX11_count 72 = .ok (.aload_n 0, 1) := by decide +kernel
theorem dX11_count_73 : decode cX11_count 73 = .ok (.getfield 52, 3) := by decide +kernel
theorem dX11_count_76 : decode cX11_count 76 = .ok (.ireturn, 1) := by decide +kernel
theorem dX11_count_77 : decode cX11_count 77 = .ok (.aload_n 0, 1) := by decide +kernel
theorem dX11_count_78 : decode cX11_count 78 = .ok (.getfield 19, 3) := by decide +kernel
theorem dX11_count_81 : decode cX11_count 81 = .ok (.invokevirtual 262, 3) := by decide +kernel
theorem dX11_count_84 : decode cX11_count 84 = .ok (.ireturn, 1) := by decide +kernel
theorem dX11_count_85 : decode cX11_count 85 = .ok (.ldc 66, 2) := by decide +kernel
theorem dX11_count_87 : decode cX11_count 87 = .ok (.ireturn, 1) := by decide +kernel
theorem dX11_status_0 : decode cX11_status 0 = .ok (.aload_n 0, 1) := by decide +kernel
theorem dX11_status_1 : decode cX11_status 1 = .ok (.getfield 56, 3) := by decide +kernel
theorem dX11_status_4 : decode cX11_status 4 = .ok (.ireturn, 1) := by decide +kernel
theorem dX11_found_0 : decode cX11_found 0 = .ok (.aload_n 0, 1) := by decide +kernel
theorem dX11_found_1 : decode cX11_found 1 = .ok (.iload_n 1, 1) := by decide +kernel
theorem dX11_found_2 : decode cX11_found 2 = .ok (.putfield 56, 3) := by decide +kernel
theorem dX11_found_5 : decode cX11_found 5 = .ok (.ldc_w 263, 3) := by decide +kernel
theorem dX11_found_8 : decode cX11_found 8 = .ok (.iload_n 1, 1) := by decide +kernel
theorem dX11_found_9 : decode cX11_found 9 = .ok (.isub, 1) := by decide +kernel
theorem dX11_found_10 : decode cX11_found 10 = .ok (.ireturn, 1) := by decide +kernel
theorem dX11_fine_0 : decode cX11_fine 0 = .ok (.aload_n 0, 1) := by decide +kernel
theorem dX11_fine_1 : decode cX11_fine 1 = .ok (.iconst 0, 1) := by decide +kernel
theorem dX11_fine_2 : decode cX11_fine 2 = .ok (.putfield 56, 3) := by decide +kernel
theorem dX11_fine_5 : decode cX11_fine 5 = .ok (.iload_n 1, 1) := by decide +kernel
theorem dX11_fine_6 : decode cX11_fine 6 = .ok (.ireturn, 1) := by decide +kernel
theorem dX11_refusalOfLetters_0 : decode cX11_refusalOfLetters 0 = .ok (.aload_n 0, 1) := by decide +kernel
theorem dX11_refusalOfLetters_1 : decode cX11_refusalOfLetters 1 = .ok (.getfield 26, 3) := by decide +kernel
theorem dX11_refusalOfLetters_4 : decode cX11_refusalOfLetters 4 = .ok (.invokevirtual 123, 3) := by decide +kernel
theorem dX11_refusalOfLetters_7 : decode cX11_refusalOfLetters 7 = .ok (.ifCond .eq 6, 3) := by decide +kernel
theorem dX11_refusalOfLetters_10 : decode cX11_refusalOfLetters 10 = .ok (.ldc 127, 2) := by decide +kernel
theorem dX11_refusalOfLetters_12 : decode cX11_refusalOfLetters 12 = .ok (.ireturn, 1) := by decide +kernel
theorem dX11_refusalOfLetters_13 : decode cX11_refusalOfLetters 13 = .ok (.aload_n 0, 1) := by decide +kernel
theorem dX11_refusalOfLetters_14 : decode cX11_refusalOfLetters 14 = .ok (.getfield 12, 3) := by decide +kernel
theorem dX11_refusalOfLetters_17 : decode cX11_refusalOfLetters 17 = .ok (.iload_n 1, 1) := by decide +kernel
theorem dX11_refusalOfLetters_18 : decode cX11_refusalOfLetters 18 = .ok (.invokevirtual 59, 3) := by decide +kernel
theorem dX11_refusalOfLetters_21 : decode cX11_refusalOfLetters 21 = .ok (.ifCond .eq 15, 3) := by decide +kernel
theorem dX11_refusalOfLetters_24 : decode cX11_refusalOfLetters 24 = .ok (.iload_n 3, 1) := by decide +kernel
theorem dX11_refusalOfLetters_25 : decode cX11_refusalOfLetters 25 = .ok (.iload 4, 2) := by decide +kernel
theorem dX11_refusalOfLetters_27 : decode cX11_refusalOfLetters 27 = .ok (.if_icmp .lt 9, 3) := by decide +kernel
theorem dX11_refusalOfLetters_30 : decode cX11_refusalOfLetters 30 = .ok (.iload_n 3, 1) := by decide +kernel
theorem dX11_refusalOfLetters_31 : decode cX11_refusalOfLetters 31 = .ok (.iload 5, 2) := by decide +kernel
theorem dX11_refusalOfLetters_33 : decode cX11_refusalOfLetters 33 = .ok (.if_icmp .le 6, 3) := by decide +kernel
theorem dX11_refusalOfLetters_36 : decode cX11_refusalOfLetters 36 = .ok (.ldc 66, 2) := by decide +kernel
theorem dX11_refusalOfLetters_38 : decode cX11_refusalOfLetters 38 = .ok (.ireturn, 1) := by decide +kernel
theorem dX11_refusalOfLetters_39 : decode cX11_refusalOfLetters 39 = .ok (.aload_n 0, 1) := by decide +kernel
theorem dX11_refusalOfLetters_40 : decode cX11_refusalOfLetters 40 = .ok (.getfield 12, 3) := by decide +kernel
theorem dX11_refusalOfLetters_43 : decode cX11_refusalOfLetters 43 = .ok (.iload_n 1, 1) := by decide +kernel
theorem dX11_refusalOfLetters_44 : decode cX11_refusalOfLetters 44 = .ok (.invokevirtual 78, 3) := by decide +kernel
theorem dX11_refusalOfLetters_47 : decode cX11_refusalOfLetters 47 = .ok (.ifCond .eq 9, 3) := by decide +kernel
theorem dX11_refusalOfLetters_50 : decode cX11_refusalOfLetters 50 = .ok (.aload_n 0, 1) := by decide +kernel
theorem dX11_refusalOfLetters_51 : decode cX11_refusalOfLetters 51 = .ok (.iconst 1, 1) := by decide +kernel
theorem dX11_refusalOfLetters_52 : decode cX11_refusalOfLetters 52 = .ok (.invokevirtual 67, 3) := by decide +kernel
theorem dX11_refusalOfLetters_55 : decode cX11_refusalOfLetters 55 = .ok (.ireturn, 1) := by decide +kernel
theorem dX11_refusalOfLetters_56 : decode cX11_refusalOfLetters 56 = .ok (.aload_n 0, 1) := by decide +kernel
theorem dX11_refusalOfLetters_57 : decode cX11_refusalOfLetters 57 = .ok (.getfield 12, 3) := by decide +kernel
theorem dX11_refusalOfLetters_60 : decode cX11_refusalOfLetters 60 = .ok (.iload_n 1, 1) := by decide +kernel
theorem dX11_refusalOfLetters_61 : decode cX11_refusalOfLetters 61 = .ok (.iload_n 2, 1) := by decide +kernel
theorem dX11_refusalOfLetters_62 : decode cX11_refusalOfLetters 62 = .ok (.iload_n 3, 1) := by decide +kernel
theorem dX11_refusalOfLetters_63 : decode cX11_refusalOfLetters 63 = .ok (.invokevirtual 81, 3) := by decide +kernel
theorem dX11_refusalOfLetters_66 : decode cX11_refusalOfLetters 66 = .ok (.ifCond .ne 9, 3) := by decide +kernel
theorem dX11_refusalOfLetters_69 : decode cX11_refusalOfLetters 69 = .ok (.aload_n 0, 1) := by decide +kernel
theorem dX11_refusalOfLetters_70 : decode cX11_refusalOfLetters 70 = .ok (.iconst 2, 1) := by decide +kernel
theorem dX11_refusalOfLetters_71 : decode cX11_refusalOfLetters 71 = .ok (.invokevirtual 67, 3) := by decide +kernel
theorem dX11_refusalOfLetters_74 : decode cX11_refusalOfLetters 74 = .ok (.ireturn, 1) := by decide +kernel
theorem dX11_refusalOfLetters_75 : decode cX11_refusalOfLetters 75 = .ok (.iconst 0, 1) := by decide +kernel
theorem dX11_refusalOfLetters_76 : decode cX11_refusalOfLetters 76 = .ok (.istore 6, 2) := by decide +kernel
theorem dX11_refusalOfLetters_78 : decode cX11_refusalOfLetters 78 = .ok (.iload 6, 2) := by decide +kernel
theorem dX11_refusalOfLetters_80 : decode cX11_refusalOfLetters 80 = .ok (.iload_n 3, 1) := by decide +kernel
theorem dX11_refusalOfLetters_81 : decode cX11_refusalOfLetters 81 = .ok (.if_icmp .ge 34, 3) := by decide +kernel
theorem dX11_refusalOfLetters_84 : decode cX11_refusalOfLetters 84 = .ok (.aload_n 0, 1) := by decide +kernel
theorem dX11_refusalOfLetters_85 : decode cX11_refusalOfLetters 85 = .ok (.getfield 26, 3) := by decide +kernel
theorem dX11_refusalOfLetters_88 : decode cX11_refusalOfLetters 88 = .ok (.aload_n 0, 1) := by decide +kernel
theorem dX11_refusalOfLetters_89 : decode cX11_refusalOfLetters 89 = .ok (.getfield 12, 3) := by decide +kernel
theorem dX11_refusalOfLetters_92 : decode cX11_refusalOfLetters 92 = .ok (.iload_n 1, 1) := by decide +kernel
theorem dX11_refusalOfLetters_93 : decode cX11_refusalOfLetters 93 = .ok (.iload_n 2, 1) := by decide +kernel
theorem dX11_refusalOfLetters_94 : decode cX11_refusalOfLetters 94 = .ok (.iload 6, 2) := by decide +kernel
theorem dX11_refusalOfLetters_96 : decode cX11_refusalOfLetters 96 = .ok (.iadd, 1) := by decide +kernel
theorem dX11_refusalOfLetters_97 : decode cX11_refusalOfLetters 97 = .ok (.invokevirtual 145, 3) := by decide +kernel
theorem dX11_refusalOfLetters_100 : decode cX11_refusalOfLetters 100 = .ok (.invokevirtual 128, 3) := by decide +kernel
theorem dX11_refusalOfLetters_103 : decode cX11_refusalOfLetters 103 = .ok (.ifCond .ne 6, 3) := by decide +kernel
theorem dX11_refusalOfLetters_106 : decode cX11_refusalOfLetters 106 = .ok (.ldc 66, 2) := by decide +kernel
theorem dX11_refusalOfLetters_108 : decode cX11_refusalOfLetters 108 = .ok (.ireturn, 1) := by decide +kernel
theorem dX11_refusalOfLetters_109 : decode cX11_refusalOfLetters 109 = .ok (.iinc 6 1, 3) := by decide +kernel
theorem dX11_refusalOfLetters_112 : decode cX11_refusalOfLetters 112 = .ok (.goto (-34), 3) := by decide +kernel
theorem dX11_refusalOfLetters_115 : decode cX11_refusalOfLetters 115 = .ok (.iconst 0, 1) := by decide +kernel
theorem dX11_refusalOfLetters_116 : decode cX11_refusalOfLetters 116 = .ok (.ireturn, 1) := by decide +kernel
theorem dX11_act_0 : decode cX11_act 0 = .ok (.aload_n 0, 1) := by decide +kernel
theorem dX11_act_1 : decode cX11_act 1 = .ok (.getfield 52, 3) := by decide +kernel
theorem dX11_act_4 : decode cX11_act 4 = .ok (.aload_n 0, 1) := by decide +kernel
theorem dX11_act_5 : decode cX11_act 5 = .ok (.getfield 48, 3) := by decide +kernel
theorem dX11_act_8 : decode cX11_act 8 = .ok (.arraylength, 1) := by decide +kernel
theorem dX11_act_9 : decode cX11_act 9 = .ok (.if_icmp .lt 34, 3) := by decide +kernel
theorem dX11_act_12 : decode cX11_act 12 = .ok (.aload_n 0, 1) := by decide +kernel
theorem dX11_act_13 : decode cX11_act 13 = .ok (.getfield 48, 3) := by decide +kernel
theorem dX11_act_16 : decode cX11_act 16 = .ok (.iconst 1, 1) := by decide +kernel
theorem dX11_act_17 : decode cX11_act 17 = .ok (.aload_n 0, 1) := by decide +kernel
theorem dX11_act_18 : decode cX11_act 18 = .ok (.getfield 48, 3) := by decide +kernel
theorem dX11_act_21 : decode cX11_act 21 = .ok (.iconst 0, 1) := by decide +kernel
theorem dX11_act_22 : decode cX11_act 22 = .ok (.aload_n 0, 1) := by decide +kernel
theorem dX11_act_23 : decode cX11_act 23 = .ok (.getfield 48, 3) := by decide +kernel
theorem dX11_act_26 : decode cX11_act 26 = .ok (.arraylength, 1) := by decide +kernel
theorem dX11_act_27 : decode cX11_act 27 = .ok (.iconst 1, 1) := by decide +kernel
theorem dX11_act_28 : decode cX11_act 28 = .ok (.isub, 1) := by decide +kernel
theorem dX11_act_29 : decode cX11_act 29 = .ok (.invokestatic 264, 3) := by decide +kernel
theorem dX11_act_32 : decode cX11_act 32 = .ok (.aload_n 0, 1) := by decide +kernel
theorem dX11_act_33 : decode cX11_act 33 = .ok (.aload_n 0, 1) := by decide +kernel
theorem dX11_act_34 : decode cX11_act 34 = .ok (.getfield 48, 3) := by decide +kernel
theorem dX11_act_37 : decode cX11_act 37 = .ok (.arraylength, 1) := by decide +kernel
theorem dX11_act_38 : decode cX11_act 38 = .ok (.iconst 1, 1) := by decide +kernel
theorem dX11_act_39 : decode cX11_act 39 = .ok (.isub, 1) := by decide +kernel
theorem dX11_act_40 : decode cX11_act 40 = .ok (.putfield 52, 3) := by decide +kernel
theorem dX11_act_43 : decode cX11_act 43 = .ok (.aload_n 0, 1) := by decide +kernel
theorem dX11_act_44 : decode cX11_act 44 = .ok (.getfield 48, 3) := by decide +kernel
theorem dX11_act_47 : decode cX11_act 47 = .ok (.aload_n 0, 1) := by decide +kernel
theorem dX11_act_48 : decode cX11_act 48 = .ok (.getfield 52, 3) := by decide +kernel
theorem dX11_act_51 : decode cX11_act 51 = .ok (.aload_n 0, 1) := by decide +kernel
theorem dX11_act_52 : decode cX11_act 52 = .ok (.getfield 26, 3) := by decide +kernel
theorem dX11_act_55 : decode cX11_act 55 = .ok (.invokevirtual 153, 3) := by decide +kernel
theorem dX11_act_58 : decode cX11_act 58 = .ok (.iastore, 1) := by decide +kernel
theorem dX11_act_59 : decode cX11_act 59 = .ok (.aload_n 0, 1) := by decide +kernel
theorem dX11_act_60 : decode cX11_act 60 = .ok (.dup, 1) := by decide +kernel
theorem dX11_act_61 : decode cX11_act 61 = .ok (.getfield 52, 3) := by decide +kernel
theorem dX11_act_64 : decode cX11_act 64 = .ok (.iconst 1, 1) := by decide +kernel
theorem dX11_act_65 : decode cX11_act 65 = .ok (.iadd, 1) := by decide +kernel
theorem dX11_act_66 : decode cX11_act 66 = .ok (.putfield 52, 3) := by decide +kernel
theorem dX11_act_69 : decode cX11_act 69 = .ok (.aload_n 0, 1) := by decide +kernel
theorem dX11_act_70 : decode cX11_act 70 = .ok (.getfield 26, 3) := by decide +kernel
theorem dX11_act_73 : decode cX11_act 73 = .ok (.iload_n 1, 1) := by decide +kernel
theorem dX11_act_74 : decode cX11_act 74 = .ok (.invokevirtual 270, 3) := by decide +kernel
theorem dX11_act_77 : decode cX11_act 77 = .ok (.return_, 1) := by decide +kernel
theorem dX11_imageAt_0 : decode cX11_imageAt 0 = .ok (.iload_n 1, 1) := by decide +kernel
theorem dX11_imageAt_1 : decode cX11_imageAt 1 = .ok (.ifCond .lt 12, 3) := by decide +kernel
theorem dX11_imageAt_4 : decode cX11_imageAt 4 = .ok (.iload_n 1, 1) := by decide +kernel
theorem dX11_imageAt_5 : decode cX11_imageAt 5 = .ok (.aload_n 0, 1) := by decide +kernel
theorem dX11_imageAt_6 : decode cX11_imageAt 6 = .ok (.getfield 30, 3) := by decide +kernel
theorem dX11_imageAt_9 : decode cX11_imageAt 9 = .ok (.arraylength, 1) := by decide +kernel
theorem dX11_imageAt_10 : decode cX11_imageAt 10 = .ok (.if_icmp .lt 7, 3) := by decide +kernel
theorem dX11_imageAt_13 : decode cX11_imageAt 13 = .ok (.aconst_null, 1) := by decide +kernel
theorem dX11_imageAt_14 : decode cX11_imageAt 14 = .ok (.goto 9, 3) := by decide +kernel
theorem dX11_imageAt_17 : decode cX11_imageAt 17 = .ok (.aload_n 0, 1) := by decide +kernel
theorem dX11_imageAt_18 : decode cX11_imageAt 18 = .ok (.getfield 30, 3) := by decide +kernel
theorem dX11_imageAt_21 : decode cX11_imageAt 21 = .ok (.iload_n 1, 1) := by decide +kernel
theorem dX11_imageAt_22 : decode cX11_imageAt 22 = .ok (.aaload, 1) := by decide +kernel
theorem dX11_imageAt_23 : decode cX11_imageAt 23 = .ok (.areturn, 1) := by decide +kernel
theorem dX11_holds_0 : decode cX11_holds 0 = .ok (.iload_n 0, 1) := by decide +kernel
theorem dX11_holds_1 : decode cX11_holds 1 = .ok (.iload_n 1, 1) := by decide +kernel
theorem dX11_holds_2 : decode cX11_holds 2 = .ok (.ishr, 1) := by decide +kernel
theorem dX11_holds_3 : decode cX11_holds 3 = .ok (.iconst 1, 1) := by decide +kernel
theorem dX11_holds_4 : decode cX11_holds 4 = .ok (.iand, 1) := by decide +kernel
theorem dX11_holds_5 : decode cX11_holds 5 = .ok (.ifCond .eq 7, 3) := by decide +kernel
theorem dX11_holds_8 : decode cX11_holds 8 = .ok (.iconst 1, 1) := by decide +kernel
theorem dX11_holds_9 : decode cX11_holds 9 = .ok (.goto 4, 3) := by decide +kernel
theorem dX11_holds_12 : decode cX11_holds 12 = .ok (.iconst 0, 1) := by decide +kernel
theorem dX11_holds_13 : decode cX11_holds 13 = .ok (.ireturn, 1) := by decide +kernel
theorem dX11_isOf_0 : decode cX11_isOf 0 = .ok (.iload_n 1, 1) := by decide +kernel
theorem dX11_isOf_1 : decode cX11_isOf 1 = .ok (.tableswitch 66 0 5 #[39, 41, 46, 51, 56, 61], 39) := by decide +kernel
theorem dX11_isOf_40 : decode cX11_isOf 40 = .ok (.iconst 1, 1) := by decide +kernel
theorem dX11_isOf_41 : decode cX11_isOf 41 = .ok (.ireturn, 1) := by decide +kernel
theorem dX11_isOf_42 : decode cX11_isOf 42 = .ok (.aload_n 0, 1) := by decide +kernel
theorem dX11_isOf_43 : decode cX11_isOf 43 = .ok (.instanceof 273, 3) := by decide +kernel
theorem dX11_isOf_46 : decode cX11_isOf 46 = .ok (.ireturn, 1) := by decide +kernel
theorem dX11_isOf_47 : decode cX11_isOf 47 = .ok (.aload_n 0, 1) := by decide +kernel
theorem dX11_isOf_48 : decode cX11_isOf 48 = .ok (.instanceof 275, 3) := by decide +kernel
theorem dX11_isOf_51 : decode cX11_isOf 51 = .ok (.ireturn, 1) := by decide +kernel
theorem dX11_isOf_52 : decode cX11_isOf 52 = .ok (.aload_n 0, 1) := by decide +kernel
theorem dX11_isOf_53 : decode cX11_isOf 53 = .ok (.instanceof 277, 3) := by decide +kernel
theorem dX11_isOf_56 : decode cX11_isOf 56 = .ok (.ireturn, 1) := by decide +kernel
theorem dX11_isOf_57 : decode cX11_isOf 57 = .ok (.aload_n 0, 1) := by decide +kernel
theorem dX11_isOf_58 : decode cX11_isOf 58 = .ok (.instanceof 279, 3) := by decide +kernel
theorem dX11_isOf_61 : decode cX11_isOf 61 = .ok (.ireturn, 1) := by decide +kernel
theorem dX11_isOf_62 : decode cX11_isOf 62 = .ok (.aload_n 0, 1) := by decide +kernel
theorem dX11_isOf_63 : decode cX11_isOf 63 = .ok (.instanceof 281, 3) := by decide +kernel
theorem dX11_isOf_66 : decode cX11_isOf 66 = .ok (.ireturn, 1) := by decide +kernel
theorem dX11_isOf_67 : decode cX11_isOf 67 = .ok (.iconst 0, 1) := by decide +kernel
theorem dX11_isOf_68 : decode cX11_isOf 68 = .ok (.ireturn, 1) := by decide +kernel
theorem dX11_commonDivisor_0 : decode cX11_commonDivisor 0 = .ok (.iload_n 0, 1) := by decide +kernel
theorem dX11_commonDivisor_1 : decode cX11_commonDivisor 1 = .ok (.istore_n 2, 1) := by decide +kernel
theorem dX11_commonDivisor_2 : decode cX11_commonDivisor 2 = .ok (.iload_n 1, 1) := by decide +kernel
theorem dX11_commonDivisor_3 : decode cX11_commonDivisor 3 = .ok (.istore_n 3, 1) := by decide +kernel
theorem dX11_commonDivisor_4 : decode cX11_commonDivisor 4 = .ok (.iconst 0, 1) := by decide +kernel
theorem dX11_commonDivisor_5 : decode cX11_commonDivisor 5 = .ok (.istore 4, 2) := by decide +kernel
theorem dX11_commonDivisor_7 : decode cX11_commonDivisor 7 = .ok (.iload 4, 2) := by decide +kernel
theorem dX11_commonDivisor_9 : decode cX11_commonDivisor 9 = .ok (.bipush 64, 2) := by decide +kernel
theorem dX11_commonDivisor_11 : decode cX11_commonDivisor 11 = .ok (.if_icmp .ge 23, 3) := by decide +kernel
theorem dX11_commonDivisor_14 : decode cX11_commonDivisor 14 = .ok (.iload_n 3, 1) := by decide +kernel
theorem dX11_commonDivisor_15 : decode cX11_commonDivisor 15 = .ok (.ifCond .eq 19, 3) := by decide +kernel
theorem dX11_commonDivisor_18 : decode cX11_commonDivisor 18 = .ok (.iload_n 2, 1) := by decide +kernel
theorem dX11_commonDivisor_19 : decode cX11_commonDivisor 19 = .ok (.iload_n 3, 1) := by decide +kernel
theorem dX11_commonDivisor_20 : decode cX11_commonDivisor 20 = .ok (.irem, 1) := by decide +kernel
theorem dX11_commonDivisor_21 : decode cX11_commonDivisor 21 = .ok (.istore 5, 2) := by decide +kernel
theorem dX11_commonDivisor_23 : decode cX11_commonDivisor 23 = .ok (.iload_n 3, 1) := by decide +kernel
theorem dX11_commonDivisor_24 : decode cX11_commonDivisor 24 = .ok (.istore_n 2, 1) := by decide +kernel
theorem dX11_commonDivisor_25 : decode cX11_commonDivisor 25 = .ok (.iload 5, 2) := by decide +kernel
theorem dX11_commonDivisor_27 : decode cX11_commonDivisor 27 = .ok (.istore_n 3, 1) := by decide +kernel
theorem dX11_commonDivisor_28 : decode cX11_commonDivisor 28 = .ok (.iinc 4 1, 3) := by decide +kernel
theorem dX11_commonDivisor_31 : decode cX11_commonDivisor 31 = .ok (.goto (-24), 3) := by decide +kernel
theorem dX11_commonDivisor_34 : decode cX11_commonDivisor 34 = .ok (.iload_n 2, 1) := by decide +kernel
theorem dX11_commonDivisor_35 : decode cX11_commonDivisor 35 = .ok (.ireturn, 1) := by decide +kernel
theorem dX12_init_0 : decode cX12_init 0 = .ok (.aload_n 0, 1) := by decide +kernel
theorem dX12_init_1 : decode cX12_init 1 = .ok (.invokespecial 1, 3) := by decide +kernel
theorem dX12_init_4 : decode cX12_init 4 = .ok (.aload_n 0, 1) := by decide +kernel
theorem dX12_init_5 : decode cX12_init 5 = .ok (.bipush 8, 2) := by decide +kernel
theorem dX12_init_7 : decode cX12_init 7 = .ok (.newarray .int, 2) := by decide +kernel
theorem dX12_init_9 : decode cX12_init 9 = .ok (.dup, 1) := by decide +kernel
theorem dX12_init_10 : decode cX12_init 10 = .ok (.iconst 0, 1) := by decide +kernel
theorem dX12_init_11 : decode cX12_init 11 = .ok (.iconst (-1), 1) := by decide +kernel
theorem dX12_init_12 : decode cX12_init 12 = .ok (.iastore, 1) := by decide +kernel
theorem dX12_init_13 : decode cX12_init 13 = .ok (.dup, 1) := by decide +kernel
theorem dX12_init_14 : decode cX12_init 14 = .ok (.iconst 1, 1) := by decide +kernel
theorem dX12_init_15 : decode cX12_init 15 = .ok (.iconst (-1), 1) := by decide +kernel
theorem dX12_init_16 : decode cX12_init 16 = .ok (.iastore, 1) := by decide +kernel
theorem dX12_init_17 : decode cX12_init 17 = .ok (.dup, 1) := by decide +kernel
theorem dX12_init_18 : decode cX12_init 18 = .ok (.iconst 2, 1) := by decide +kernel
theorem dX12_init_19 : decode cX12_init 19 = .ok (.iconst (-1), 1) := by decide +kernel
theorem dX12_init_20 : decode cX12_init 20 = .ok (.iastore, 1) := by decide +kernel
theorem dX12_init_21 : decode cX12_init 21 = .ok (.dup, 1) := by decide +kernel
theorem dX12_init_22 : decode cX12_init 22 = .ok (.iconst 3, 1) := by decide +kernel
theorem dX12_init_23 : decode cX12_init 23 = .ok (.iconst (-1), 1) := by decide +kernel
theorem dX12_init_24 : decode cX12_init 24 = .ok (.iastore, 1) := by decide +kernel
theorem dX12_init_25 : decode cX12_init 25 = .ok (.dup, 1) := by decide +kernel
theorem dX12_init_26 : decode cX12_init 26 = .ok (.iconst 4, 1) := by decide +kernel
theorem dX12_init_27 : decode cX12_init 27 = .ok (.iconst (-1), 1) := by decide +kernel
theorem dX12_init_28 : decode cX12_init 28 = .ok (.iastore, 1) := by decide +kernel
theorem dX12_init_29 : decode cX12_init 29 = .ok (.dup, 1) := by decide +kernel
theorem dX12_init_30 : decode cX12_init 30 = .ok (.iconst 5, 1) := by decide +kernel
theorem dX12_init_31 : decode cX12_init 31 = .ok (.iconst (-1), 1) := by decide +kernel
theorem dX12_init_32 : decode cX12_init 32 = .ok (.iastore, 1) := by decide +kernel
theorem dX12_init_33 : decode cX12_init 33 = .ok (.dup, 1) := by decide +kernel
theorem dX12_init_34 : decode cX12_init 34 = .ok (.bipush 6, 2) := by decide +kernel
theorem dX12_init_36 : decode cX12_init 36 = .ok (.iconst (-1), 1) := by decide +kernel
theorem dX12_init_37 : decode cX12_init 37 = .ok (.iastore, 1) := by decide +kernel
theorem dX12_init_38 : decode cX12_init 38 = .ok (.dup, 1) := by decide +kernel
theorem dX12_init_39 : decode cX12_init 39 = .ok (.bipush 7, 2) := by decide +kernel
theorem dX12_init_41 : decode cX12_init 41 = .ok (.iconst (-1), 1) := by decide +kernel
theorem dX12_init_42 : decode cX12_init 42 = .ok (.iastore, 1) := by decide +kernel
theorem dX12_init_43 : decode cX12_init 43 = .ok (.putfield 7, 3) := by decide +kernel
theorem dX12_init_46 : decode cX12_init 46 = .ok (.aload_n 0, 1) := by decide +kernel
theorem dX12_init_47 : decode cX12_init 47 = .ok (.bipush 8, 2) := by decide +kernel
theorem dX12_init_49 : decode cX12_init 49 = .ok (.newarray .int, 2) := by decide +kernel
theorem dX12_init_51 : decode cX12_init 51 = .ok (.putfield 13, 3) := by decide +kernel
theorem dX12_init_54 : decode cX12_init 54 = .ok (.aload_n 0, 1) := by decide +kernel
theorem dX12_init_55 : decode cX12_init 55 = .ok (.sipush 320, 3) := by decide +kernel
theorem dX12_init_58 : decode cX12_init 58 = .ok (.newarray .int, 2) := by decide +kernel
theorem dX12_init_60 : decode cX12_init 60 = .ok (.putfield 16, 3) := by decide +kernel
theorem dX12_init_63 : decode cX12_init 63 = .ok (.aload_n 0, 1) := by decide +kernel
theorem dX12_init_64 : decode cX12_init 64 = .ok (.bipush 21, 2) := by decide +kernel
theorem dX12_init_66 : decode cX12_init 66 = .ok (.newarray .int, 2) := by decide +kernel
theorem dX12_init_68 : decode cX12_init 68 = .ok (.putfield 19, 3) := by decide +kernel
theorem dX12_init_71 : decode cX12_init 71 = .ok (.aload_n 0, 1) := by decide +kernel
theorem dX12_init_72 : decode cX12_init 72 = .ok (.bipush 21, 2) := by decide +kernel
theorem dX12_init_74 : decode cX12_init 74 = .ok (.newarray .int, 2) := by decide +kernel
theorem dX12_init_76 : decode cX12_init 76 = .ok (.putfield 22, 3) := by decide +kernel
theorem dX12_init_79 : decode cX12_init 79 = .ok (.aload_n 0, 1) := by decide +kernel
theorem dX12_init_80 : decode cX12_init 80 = .ok (.sipush 504, 3) := by decide +kernel
theorem dX12_init_83 : decode cX12_init 83 = .ok (.newarray .int, 2) := by decide +kernel
theorem dX12_init_85 : decode cX12_init 85 = .ok (.putfield 25, 3) := by decide +kernel
theorem dX12_init_88 : decode cX12_init 88 = .ok (.aload_n 0, 1) := by decide +kernel
theorem dX12_init_89 : decode cX12_init 89 = .ok (.sipush 300, 3) := by decide +kernel
theorem dX12_init_92 : decode cX12_init 92 = .ok (.newarray .int, 2) := by decide +kernel
theorem dX12_init_94 : decode cX12_init 94 = .ok (.putfield 28, 3) := by decide +kernel
theorem dX12_init_97 : decode cX12_init 97 = .ok (.aload_n 0, 1) := by decide +kernel
theorem dX12_init_98 : decode cX12_init 98 = .ok (.sipush 384, 3) := by decide +kernel
theorem dX12_init_101 : decode cX12_init 101 = .ok (.newarray .int, 2) := by decide +kernel
theorem dX12_init_103 : decode cX12_init 103 = .ok (.putfield 31, 3) := by decide +kernel
theorem dX12_init_106 : decode cX12_init 106 = .ok (.aload_n 0, 1) := by decide +kernel
theorem dX12_init_107 : decode cX12_init 107 = .ok (.iconst 2, 1) := by decide +kernel
theorem dX12_init_108 : decode cX12_init 108 = .ok (.newarray .boolean, 2) := by decide +kernel
theorem dX12_init_110 : decode cX12_init 110 = .ok (.putfield 34, 3) := by decide +kernel
theorem dX12_init_113 : decode cX12_init 113 = .ok (.aload_n 0, 1) := by decide +kernel
theorem dX12_init_114 : decode cX12_init 114 = .ok (.bipush 42, 2) := by decide +kernel
theorem dX12_init_116 : decode cX12_init 116 = .ok (.newarray .int, 2) := by decide +kernel
theorem dX12_init_118 : decode cX12_init 118 = .ok (.putfield 38, 3) := by decide +kernel
theorem dX12_init_121 : decode cX12_init 121 = .ok (.aload_n 0, 1) := by decide +kernel
theorem dX12_init_122 : decode cX12_init 122 = .ok (.bipush 16, 2) := by decide +kernel
theorem dX12_init_124 : decode cX12_init 124 = .ok (.newarray .int, 2) := by decide +kernel
theorem dX12_init_126 : decode cX12_init 126 = .ok (.putfield 41, 3) := by decide +kernel
theorem dX12_init_129 : decode cX12_init 129 = .ok (.return_, 1) := by decide +kernel
theorem dX12_in_0 : decode cX12_in 0 = .ok (.lload_n 0, 1) := by decide +kernel
theorem dX12_in_1 : decode cX12_in 1 = .ok (.lload_n 2, 1) := by decide +kernel
theorem dX12_in_2 : decode cX12_in 2 = .ok (.lcmp, 1) := by decide +kernel
theorem dX12_in_3 : decode cX12_in 3 = .ok (.ifCond .lt 14, 3) := by decide +kernel
theorem dX12_in_6 : decode cX12_in 6 = .ok (.lload_n 0, 1) := by decide +kernel
theorem dX12_in_7 : decode cX12_in 7 = .ok (.lload 4, 2) := by decide +kernel
theorem dX12_in_9 : decode cX12_in 9 = .ok (.lcmp, 1) := by decide +kernel
theorem dX12_in_10 : decode cX12_in 10 = .ok (.ifCond .gt 7, 3) := by decide +kernel
theorem dX12_in_13 : decode cX12_in 13 = .ok (.iconst 1, 1) := by decide +kernel
theorem dX12_in_14 : decode cX12_in 14 = .ok (.goto 4, 3) := by decide +kernel
theorem dX12_in_17 : decode cX12_in 17 = .ok (.iconst 0, 1) := by decide +kernel
theorem dX12_in_18 : decode cX12_in 18 = .ok (.ireturn, 1) := by decide +kernel
theorem dX12_finding_0 : decode cX12_finding 0 = .ok (.aload_n 0, 1) := by decide +kernel
theorem dX12_finding_1 : decode cX12_finding 1 = .ok (.iload_n 1, 1) := by decide +kernel
theorem dX12_finding_2 : decode cX12_finding 2 = .ok (.putfield 48, 3) := by decide +kernel
theorem dX12_finding_5 : decode cX12_finding 5 = .ok (.ldc 51, 2) := by decide +kernel
theorem dX12_finding_7 : decode cX12_finding 7 = .ok (.iload_n 1, 1) := by decide +kernel
theorem dX12_finding_8 : decode cX12_finding 8 = .ok (.isub, 1) := by decide +kernel
theorem dX12_finding_9 : decode cX12_finding 9 = .ok (.ireturn, 1) := by decide +kernel
theorem dX12_isRow_0 : decode cX12_isRow 0 = .ok (.iload_n 0, 1) := by decide +kernel
theorem dX12_isRow_1 : decode cX12_isRow 1 = .ok (.i2l, 1) := by decide +kernel
theorem dX12_isRow_2 : decode cX12_isRow 2 = .ok (.lconst 0, 1) := by decide +kernel
theorem dX12_isRow_3 : decode cX12_isRow 3 = .ok (.ldc2_w 52, 3) := by decide +kernel
theorem dX12_isRow_6 : decode cX12_isRow 6 = .ok (.invokestatic 54, 3) := by decide +kernel
theorem dX12_isRow_9 : decode cX12_isRow 9 = .ok (.ireturn, 1) := by decide +kernel
theorem dX12_row_0 : decode cX12_row 0 = .ok (.aload_n 0, 1) := by decide +kernel
theorem dX12_row_1 : decode cX12_row 1 = .ok (.iconst 0, 1) := by decide +kernel
theorem dX12_row_2 : decode cX12_row 2 = .ok (.putfield 44, 3) := by decide +kernel
theorem dX12_row_5 : decode cX12_row 5 = .ok (.iload_n 1, 1) := by decide +kernel
theorem dX12_row_6 : decode cX12_row 6 = .ok (.invokestatic 58, 3) := by decide +kernel
theorem dX12_row_9 : decode cX12_row 9 = .ok (.ifCond .eq 21, 3) := by decide +kernel
theorem dX12_row_12 : decode cX12_row 12 = .ok (.iload_n 2, 1) := by decide +kernel
theorem dX12_row_13 : decode cX12_row 13 = .ok (.i2l, 1) := by decide +kernel
theorem dX12_row_14 : decode cX12_row 14 = .ok (.lconst 0, 1) := by decide +kernel
theorem dX12_row_15 : decode cX12_row 15 = .ok (.ldc2_w 62, 3) := by decide +kernel
theorem dX12_row_18 : decode cX12_row 18 = .ok (.invokestatic 54, 3) := by decide +kernel
theorem dX12_row_21 : decode cX12_row 21 = .ok (.ifCond .eq 9, 3) := by decide +kernel
theorem dX12_row_24 : decode cX12_row 24 = .ok (.iload_n 3, 1) := by decide +kernel
theorem dX12_row_25 : decode cX12_row 25 = .ok (.bipush 40, 2) := by decide +kernel
theorem dX12_row_27 : decode cX12_row 27 = .ok (.if_icmp .le 6, 3) := by decide +kernel
theorem dX12_row_30 : decode cX12_row 30 = .ok (.ldc 64, 2) := by decide +kernel
theorem dX12_row_32 : decode cX12_row 32 = .ok (.ireturn, 1) := by decide +kernel
theorem dX12_row_33 : decode cX12_row 33 = .ok (.aload_n 0, 1) := by decide +kernel
theorem dX12_row_34 : decode cX12_row 34 = .ok (.iconst 0, 1) := by decide +kernel
theorem dX12_row_35 : decode cX12_row 35 = .ok (.putfield 48, 3) := by decide +kernel
theorem dX12_row_38 : decode cX12_row 38 = .ok (.iload_n 3, 1) := by decide +kernel
theorem dX12_row_39 : decode cX12_row 39 = .ok (.ifCond .ge 9, 3) := by decide +kernel
theorem dX12_row_42 : decode cX12_row 42 = .ok (.aload_n 0, 1) := by decide +kernel
theorem dX12_row_43 : decode cX12_row 43 = .ok (.iconst 4, 1) := by decide +kernel
theorem dX12_row_44 : decode cX12_row 44 = .ok (.invokevirtual 65, 3) := by decide +kernel
theorem dX12_row_47 : decode cX12_row 47 = .ok (.ireturn, 1) := by decide +kernel
theorem dX12_row_48 : decode cX12_row 48 = .ok (.aload_n 0, 1) := by decide +kernel
theorem dX12_row_49 : decode cX12_row 49 = .ok (.getfield 7, 3) := by decide +kernel
theorem dX12_row_52 : decode cX12_row 52 = .ok (.iload_n 1, 1) := by decide +kernel
theorem dX12_row_53 : decode cX12_row 53 = .ok (.iload_n 2, 1) := by decide +kernel
theorem dX12_row_54 : decode cX12_row 54 = .ok (.iastore, 1) := by decide +kernel
theorem dX12_row_55 : decode cX12_row 55 = .ok (.aload_n 0, 1) := by decide +kernel
theorem dX12_row_56 : decode cX12_row 56 = .ok (.getfield 13, 3) := by decide +kernel
theorem dX12_row_59 : decode cX12_row 59 = .ok (.iload_n 1, 1) := by decide +kernel
theorem dX12_row_60 : decode cX12_row 60 = .ok (.iload_n 3, 1) := by decide +kernel
theorem dX12_row_61 : decode cX12_row 61 = .ok (.iastore, 1) := by decide +kernel
theorem dX12_row_62 : decode cX12_row 62 = .ok (.iconst 0, 1) := by decide +kernel
theorem dX12_row_63 : decode cX12_row 63 = .ok (.istore 4, 2) := by decide +kernel
theorem dX12_row_65 : decode cX12_row 65 = .ok (.iload 4, 2) := by decide +kernel
theorem dX12_row_67 : decode cX12_row 67 = .ok (.bipush 40, 2) := by decide +kernel
theorem dX12_row_69 : decode cX12_row 69 = .ok (.if_icmp .ge 22, 3) := by decide +kernel
theorem dX12_row_72 : decode cX12_row 72 = .ok (.aload_n 0, 1) := by decide +kernel
theorem dX12_row_73 : decode cX12_row 73 = .ok (.getfield 16, 3) := by decide +kernel
theorem dX12_row_76 : decode cX12_row 76 = .ok (.bipush 40, 2) := by decide +kernel
theorem dX12_row_78 : decode cX12_row 78 = .ok (.iload_n 1, 1) := by decide +kernel
theorem dX12_row_79 : decode cX12_row 79 = .ok (.imul, 1) := by decide +kernel
theorem dX12_row_80 : decode cX12_row 80 = .ok (.iload 4, 2) := by decide +kernel
theorem dX12_row_82 : decode cX12_row 82 = .ok (.iadd, 1) := by decide +kernel
theorem dX12_row_83 : decode cX12_row 83 = .ok (.iconst 0, 1) := by decide +kernel
theorem dX12_row_84 : decode cX12_row 84 = .ok (.iastore, 1) := by decide +kernel
theorem dX12_row_85 : decode cX12_row 85 = .ok (.iinc 4 1, 3) := by decide +kernel
theorem dX12_row_88 : decode cX12_row 88 = .ok (.goto (-23), 3) := by decide +kernel
theorem dX12_row_91 : decode cX12_row 91 = .ok (.iload_n 3, 1) := by decide +kernel
theorem dX12_row_92 : decode cX12_row 92 = .ok (.ireturn, 1) := by decide +kernel
theorem dX12_set_0 : decode cX12_set 0 = .ok (.aload_n 0, 1) := by decide +kernel
theorem dX12_set_1 : decode cX12_set 1 = .ok (.iconst 0, 1) := by decide +kernel
theorem dX12_set_2 : decode cX12_set 2 = .ok (.putfield 44, 3) := by decide +kernel
theorem dX12_set_5 : decode cX12_set 5 = .ok (.iload_n 1, 1) := by decide +kernel
theorem dX12_set_6 : decode cX12_set 6 = .ok (.invokestatic 58, 3) := by decide +kernel
theorem dX12_set_9 : decode cX12_set 9 = .ok (.ifCond .ne 6, 3) := by decide +kernel
theorem dX12_set_12 : decode cX12_set 12 = .ok (.ldc 64, 2) := by decide +kernel
theorem dX12_set_14 : decode cX12_set 14 = .ok (.ireturn, 1) := by decide +kernel
theorem dX12_set_15 : decode cX12_set 15 = .ok (.aload_n 0, 1) := by decide +kernel
theorem dX12_set_16 : decode cX12_set 16 = .ok (.iconst 0, 1) := by decide +kernel
theorem dX12_set_17 : decode cX12_set 17 = .ok (.putfield 48, 3) := by decide +kernel
theorem dX12_set_20 : decode cX12_set 20 = .ok (.aload_n 0, 1) := by decide +kernel
theorem dX12_set_21 : decode cX12_set 21 = .ok (.getfield 7, 3) := by decide +kernel
theorem dX12_set_24 : decode cX12_set 24 = .ok (.iload_n 1, 1) := by decide +kernel
theorem dX12_set_25 : decode cX12_set 25 = .ok (.iaload, 1) := by decide +kernel
theorem dX12_set_26 : decode cX12_set 26 = .ok (.ifCond .ge 9, 3) := by decide +kernel
theorem dX12_set_29 : decode cX12_set 29 = .ok (.aload_n 0, 1) := by decide +kernel
theorem dX12_set_30 : decode cX12_set 30 = .ok (.iconst 1, 1) := by decide +kernel
theorem dX12_set_31 : decode cX12_set 31 = .ok (.invokevirtual 65, 3) := by decide +kernel
theorem dX12_set_34 : decode cX12_set 34 = .ok (.ireturn, 1) := by decide +kernel
theorem dX12_set_35 : decode cX12_set 35 = .ok (.iload_n 2, 1) := by decide +kernel
theorem dX12_set_36 : decode cX12_set 36 = .ok (.i2l, 1) := by decide +kernel
theorem dX12_set_37 : decode cX12_set 37 = .ok (.lconst 0, 1) := by decide +kernel
theorem dX12_set_38 : decode cX12_set 38 = .ok (.aload_n 0, 1) := by decide +kernel
theorem dX12_set_39 : decode cX12_set 39 = .ok (.getfield 13, 3) := by decide +kernel
theorem dX12_set_42 : decode cX12_set 42 = .ok (.iload_n 1, 1) := by decide +kernel
theorem dX12_set_43 : decode cX12_set 43 = .ok (.iaload, 1) := by decide +kernel
theorem dX12_set_44 : decode cX12_set 44 = .ok (.iconst 1, 1) := by decide +kernel
theorem dX12_set_45 : decode cX12_set 45 = .ok (.isub, 1) := by decide +kernel
theorem dX12_set_46 : decode cX12_set 46 = .ok (.i2l, 1) := by decide +kernel
theorem dX12_set_47 : decode cX12_set 47 = .ok (.invokestatic 54, 3) := by decide +kernel
theorem dX12_set_50 : decode cX12_set 50 = .ok (.ifCond .ne 9, 3) := by decide +kernel
theorem dX12_set_53 : decode cX12_set 53 = .ok (.aload_n 0, 1) := by decide +kernel
theorem dX12_set_54 : decode cX12_set 54 = .ok (.iconst 2, 1) := by decide +kernel
theorem dX12_set_55 : decode cX12_set 55 = .ok (.invokevirtual 65, 3) := by decide +kernel
theorem dX12_set_58 : decode cX12_set 58 = .ok (.ireturn, 1) := by decide +kernel
theorem dX12_set_59 : decode cX12_set 59 = .ok (.aload_n 0, 1) := by decide +kernel
theorem dX12_set_60 : decode cX12_set 60 = .ok (.getfield 16, 3) := by decide +kernel
theorem dX12_set_63 : decode cX12_set 63 = .ok (.bipush 40, 2) := by decide +kernel
theorem dX12_set_65 : decode cX12_set 65 = .ok (.iload_n 1, 1) := by decide +kernel
theorem dX12_set_66 : decode cX12_set 66 = .ok (.imul, 1) := by decide +kernel
theorem dX12_set_67 : decode cX12_set 67 = .ok (.iload_n 2, 1) := by decide +kernel
theorem dX12_set_68 : decode cX12_set 68 = .ok (.iadd, 1) := by decide +kernel
theorem dX12_set_69 : decode cX12_set 69 = .ok (.aload_n 0, 1) := by decide +kernel
theorem dX12_set_70 : decode cX12_set 70 = .ok (.getfield 7, 3) := by decide +kernel
theorem dX12_set_73 : decode cX12_set 73 = .ok (.iload_n 1, 1) := by decide +kernel
theorem dX12_set_74 : decode cX12_set 74 = .ok (.iaload, 1) := by decide +kernel
theorem dX12_set_75 : decode cX12_set 75 = .ok (.ifCond .ne 8, 3) := by decide +kernel
theorem dX12_set_78 : decode cX12_set 78 = .ok (.iload_n 3, 1) := by decide +kernel
theorem dX12_set_79 : decode cX12_set 79 = .ok (.i2b, 1) := by decide +kernel
theorem dX12_set_80 : decode cX12_set 80 = .ok (.goto 19, 3) := by decide +kernel
theorem dX12_set_83 : decode cX12_set 83 = .ok (.aload_n 0, 1) := by decide +kernel
theorem dX12_set_84 : decode cX12_set 84 = .ok (.getfield 7, 3) := by decide +kernel
theorem dX12_set_87 : decode cX12_set 87 = .ok (.iload_n 1, 1) := by decide +kernel
theorem dX12_set_88 : decode cX12_set 88 = .ok (.iaload, 1) := by decide +kernel
theorem dX12_set_89 : decode cX12_set 89 = .ok (.iconst 1, 1) := by decide +kernel
theorem dX12_set_90 : decode cX12_set 90 = .ok (.if_icmp .ne 8, 3) := by decide +kernel
theorem dX12_set_93 : decode cX12_set 93 = .ok (.iload_n 3, 1) := by decide +kernel
theorem dX12_set_94 : decode cX12_set 94 = .ok (.i2s, 1) := by decide +kernel
theorem dX12_set_95 : decode cX12_set 95 = .ok (.goto 4, 3) := by decide +kernel
theorem dX12_set_98 : decode cX12_set 98 = .ok (.iload_n 3, 1) := by decide +kernel
theorem dX12_set_99 : decode cX12_set 99 = .ok (.iastore, 1) := by decide +kernel
theorem dX12_set_100 : decode cX12_set 100 = .ok (.aload_n 0, 1) := by decide +kernel
theorem dX12_set_101 : decode cX12_set 101 = .ok (.getfield 16, 3) := by decide +kernel
theorem dX12_set_104 : decode cX12_set 104 = .ok (.bipush 40, 2) := by decide +kernel
theorem dX12_set_106 : decode cX12_set 106 = .ok (.iload_n 1, 1) := by decide +kernel
theorem dX12_set_107 : decode cX12_set 107 = .ok (.imul, 1) := by decide +kernel
theorem dX12_set_108 : decode cX12_set 108 = .ok (.iload_n 2, 1) := by decide +kernel
theorem dX12_set_109 : decode cX12_set 109 = .ok (.iadd, 1) := by decide +kernel
theorem dX12_set_110 : decode cX12_set 110 = .ok (.iaload, 1) := by decide +kernel
theorem dX12_set_111 : decode cX12_set 111 = .ok (.ireturn, 1) := by decide +kernel
theorem dX12_copy_0 : decode cX12_copy 0 = .ok (.aload_n 0, 1) := by decide +kernel
theorem dX12_copy_1 : decode cX12_copy 1 = .ok (.iconst 0, 1) := by decide +kernel
theorem dX12_copy_2 : decode cX12_copy 2 = .ok (.putfield 44, 3) := by decide +kernel
theorem dX12_copy_5 : decode cX12_copy 5 = .ok (.iload_n 1, 1) := by decide +kernel
theorem dX12_copy_6 : decode cX12_copy 6 = .ok (.invokestatic 58, 3) := by decide +kernel
theorem dX12_copy_9 : decode cX12_copy 9 = .ok (.ifCond .eq 10, 3) := by decide +kernel
theorem dX12_copy_12 : decode cX12_copy 12 = .ok (.iload_n 3, 1) := by decide +kernel
theorem dX12_copy_13 : decode cX12_copy 13 = .ok (.invokestatic 58, 3) := by decide +kernel
theorem dX12_copy_16 : decode cX12_copy 16 = .ok (.ifCond .ne 6, 3) := by decide +kernel
theorem dX12_copy_19 : decode cX12_copy 19 = .ok (.ldc 64, 2) := by decide +kernel
theorem dX12_copy_21 : decode cX12_copy 21 = .ok (.ireturn, 1) := by decide +kernel
theorem dX12_copy_22 : decode cX12_copy 22 = .ok (.aload_n 0, 1) := by decide +kernel
theorem dX12_copy_23 : decode cX12_copy 23 = .ok (.iconst 0, 1) := by decide +kernel
theorem dX12_copy_24 : decode cX12_copy 24 = .ok (.putfield 48, 3) := by decide +kernel
theorem dX12_copy_27 : decode cX12_copy 27 = .ok (.aload_n 0, 1) := by decide +kernel
theorem dX12_copy_28 : decode cX12_copy 28 = .ok (.getfield 7, 3) := by decide +kernel
theorem dX12_copy_31 : decode cX12_copy 31 = .ok (.iload_n 1, 1) := by decide +kernel
theorem dX12_copy_32 : decode cX12_copy 32 = .ok (.iaload, 1) := by decide +kernel
theorem dX12_copy_33 : decode cX12_copy 33 = .ok (.ifCond .lt 12, 3) := by decide +kernel
theorem dX12_copy_36 : decode cX12_copy 36 = .ok (.aload_n 0, 1) := by decide +kernel
theorem dX12_copy_37 : decode cX12_copy 37 = .ok (.getfield 7, 3) := by decide +kernel
theorem dX12_copy_40 : decode cX12_copy 40 = .ok (.iload_n 3, 1) := by decide +kernel
theorem dX12_copy_41 : decode cX12_copy 41 = .ok (.iaload, 1) := by decide +kernel
theorem dX12_copy_42 : decode cX12_copy 42 = .ok (.ifCond .ge 9, 3) := by decide +kernel
theorem dX12_copy_45 : decode cX12_copy 45 = .ok (.aload_n 0, 1) := by decide +kernel
theorem dX12_copy_46 : decode cX12_copy 46 = .ok (.iconst 1, 1) := by decide +kernel
theorem dX12_copy_47 : decode cX12_copy 47 = .ok (.invokevirtual 65, 3) := by decide +kernel
theorem dX12_copy_50 : decode cX12_copy 50 = .ok (.ireturn, 1) := by decide +kernel
theorem dX12_copy_51 : decode cX12_copy 51 = .ok (.aload_n 0, 1) := by decide +kernel
theorem dX12_copy_52 : decode cX12_copy 52 = .ok (.getfield 7, 3) := by decide +kernel
theorem dX12_copy_55 : decode cX12_copy 55 = .ok (.iload_n 1, 1) := by decide +kernel
theorem dX12_copy_56 : decode cX12_copy 56 = .ok (.iaload, 1) := by decide +kernel
theorem dX12_copy_57 : decode cX12_copy 57 = .ok (.aload_n 0, 1) := by decide +kernel
theorem dX12_copy_58 : decode cX12_copy 58 = .ok (.getfield 7, 3) := by decide +kernel
theorem dX12_copy_61 : decode cX12_copy 61 = .ok (.iload_n 3, 1) := by decide +kernel
theorem dX12_copy_62 : decode cX12_copy 62 = .ok (.iaload, 1) := by decide +kernel
theorem dX12_copy_63 : decode cX12_copy 63 = .ok (.if_icmp .eq 9, 3) := by decide +kernel
theorem dX12_copy_66 : decode cX12_copy 66 = .ok (.aload_n 0, 1) := by decide +kernel
theorem dX12_copy_67 : decode cX12_copy 67 = .ok (.iconst 5, 1) := by decide +kernel
theorem dX12_copy_68 : decode cX12_copy 68 = .ok (.invokevirtual 65, 3) := by decide +kernel
theorem dX12_copy_71 : decode cX12_copy 71 = .ok (.ireturn, 1) := by decide +kernel
theorem dX12_copy_72 : decode cX12_copy 72 = .ok (.iload_n 2, 1) := by decide +kernel
theorem dX12_copy_73 : decode cX12_copy 73 = .ok (.ifCond .lt 48, 3) := by decide +kernel
theorem dX12_copy_76 : decode cX12_copy 76 = .ok (.iload 4, 2) := by decide +kernel
theorem dX12_copy_78 : decode cX12_copy 78 = .ok (.ifCond .lt 43, 3) := by decide +kernel
theorem dX12_copy_81 : decode cX12_copy 81 = .ok (.iload 5, 2) := by decide +kernel
theorem dX12_copy_83 : decode cX12_copy 83 = .ok (.ifCond .lt 38, 3) := by decide +kernel
theorem dX12_copy_86 : decode cX12_copy 86 = .ok (.iload_n 2, 1) := by decide +kernel
theorem dX12_copy_87 : decode cX12_copy 87 = .ok (.i2l, 1) := by decide +kernel
theorem dX12_copy_88 : decode cX12_copy 88 = .ok (.iload 5, 2) := by decide +kernel
theorem dX12_copy_90 : decode cX12_copy 90 = .ok (.i2l, 1) := by decide +kernel
theorem dX12_copy_91 : decode cX12_copy 91 = .ok (.ladd, 1) := by decide +kernel
theorem dX12_copy_92 : decode cX12_copy 92 = .ok (.aload_n 0, 1) := by decide +kernel
theorem dX12_copy_93 : decode cX12_copy 93 = .ok (.getfield 13, 3) := by decide +kernel
theorem dX12_copy_96 : decode cX12_copy 96 = .ok (.iload_n 1, 1) := by decide +kernel
theorem dX12_copy_97 : decode cX12_copy 97 = .ok (.iaload, 1) := by decide +kernel
theorem dX12_copy_98 : decode cX12_copy 98 = .ok (.i2l, 1) := by decide +kernel
theorem dX12_copy_99 : decode cX12_copy 99 = .ok (.lcmp, 1) := by decide +kernel
theorem dX12_copy_100 : decode cX12_copy 100 = .ok (.ifCond .gt 21, 3) := by decide +kernel
theorem dX12_copy_103 : decode cX12_copy 103 = .ok (.iload 4, 2) := by decide +kernel
theorem dX12_copy_105 : decode cX12_copy 105 = .ok (.i2l, 1) := by decide +kernel
theorem dX12_copy_106 : decode cX12_copy 106 = .ok (.iload 5, 2) := by decide +kernel
theorem dX12_copy_108 : decode cX12_copy 108 = .ok (.i2l, 1) := by decide +kernel
theorem dX12_copy_109 : decode cX12_copy 109 = .ok (.ladd, 1) := by decide +kernel
theorem dX12_copy_110 : decode cX12_copy 110 = .ok (.aload_n 0, 1) := by decide +kernel
theorem dX12_copy_111 : decode cX12_copy 111 = .ok (.getfield 13, 3) := by decide +kernel
theorem dX12_copy_114 : decode cX12_copy 114 = .ok (.iload_n 3, 1) := by decide +kernel
theorem dX12_copy_115 : decode cX12_copy 115 = .ok (.iaload, 1) := by decide +kernel
theorem dX12_copy_116 : decode cX12_copy 116 = .ok (.i2l, 1) := by decide +kernel
theorem dX12_copy_117 : decode cX12_copy 117 = .ok (.lcmp, 1) := by decide +kernel
theorem dX12_copy_118 : decode cX12_copy 118 = .ok (.ifCond .le 9, 3) := by decide +kernel
theorem dX12_copy_121 : decode cX12_copy 121 = .ok (.aload_n 0, 1) := by decide +kernel
theorem dX12_copy_122 : decode cX12_copy 122 = .ok (.iconst 2, 1) := by decide +kernel
theorem dX12_copy_123 : decode cX12_copy 123 = .ok (.invokevirtual 65, 3) := by decide +kernel
theorem dX12_copy_126 : decode cX12_copy 126 = .ok (.ireturn, 1) := by decide +kernel
theorem dX12_copy_127 : decode cX12_copy 127 = .ok (.iload_n 2, 1) := by decide +kernel
theorem dX12_copy_128 : decode cX12_copy 128 = .ok (.iload 4, 2) := by decide +kernel
theorem dX12_copy_130 : decode cX12_copy 130 = .ok (.if_icmp .lt 7, 3) := by decide +kernel
theorem dX12_copy_133 : decode cX12_copy 133 = .ok (.iconst 1, 1) := by decide +kernel
theorem dX12_copy_134 : decode cX12_copy 134 = .ok (.goto 4, 3) := by decide +kernel
theorem dX12_copy_137 : decode cX12_copy 137 = .ok (.iconst 0, 1) := by decide +kernel
theorem dX12_copy_138 : decode cX12_copy 138 = .ok (.istore 6, 2) := by decide +kernel
theorem dX12_copy_140 : decode cX12_copy 140 = .ok (.iconst 0, 1) := by decide +kernel
theorem dX12_copy_141 : decode cX12_copy 141 = .ok (.istore 7, 2) := by decide +kernel
theorem dX12_copy_143 : decode cX12_copy 143 = .ok (.iload 7, 2) := by decide +kernel
theorem dX12_copy_145 : decode cX12_copy 145 = .ok (.iload 5, 2) := by decide +kernel
theorem dX12_copy_147 : decode cX12_copy 147 = .ok (.if_icmp .ge 57, 3) := by decide +kernel
theorem dX12_copy_150 : decode cX12_copy 150 = .ok (.iload 6, 2) := by decide +kernel
theorem dX12_copy_152 : decode cX12_copy 152 = .ok (.ifCond .eq 8, 3) := by decide +kernel
theorem dX12_copy_155 : decode cX12_copy 155 = .ok (.iload 7, 2) := by decide +kernel
theorem dX12_copy_157 : decode cX12_copy 157 = .ok (.goto 10, 3) := by decide +kernel
theorem dX12_copy_160 : decode cX12_copy 160 = .ok (.iload 5, 2) := by decide +kernel
theorem dX12_copy_162 : decode cX12_copy 162 = .ok (.iconst 1, 1) := by decide +kernel
theorem dX12_copy_163 : decode cX12_copy 163 = .ok (.isub, 1) := by decide +kernel
theorem dX12_copy_164 : decode cX12_copy 164 = .ok (.iload 7, 2) := by decide +kernel
theorem dX12_copy_166 : decode cX12_copy 166 = .ok (.isub, 1) := by decide +kernel
theorem dX12_copy_167 : decode cX12_copy 167 = .ok (.istore 8, 2) := by decide +kernel
theorem dX12_copy_169 : decode cX12_copy 169 = .ok (.aload_n 0, 1) := by decide +kernel
theorem dX12_copy_170 : decode cX12_copy 170 = .ok (.getfield 16, 3) := by decide +kernel
theorem dX12_copy_173 : decode cX12_copy 173 = .ok (.bipush 40, 2) := by decide +kernel
theorem dX12_copy_175 : decode cX12_copy 175 = .ok (.iload_n 3, 1) := by decide +kernel
theorem dX12_copy_176 : decode cX12_copy 176 = .ok (.imul, 1) := by decide +kernel
theorem dX12_copy_177 : decode cX12_copy 177 = .ok (.iload 4, 2) := by decide +kernel
theorem dX12_copy_179 : decode cX12_copy 179 = .ok (.iadd, 1) := by decide +kernel
theorem dX12_copy_180 : decode cX12_copy 180 = .ok (.iload 8, 2) := by decide +kernel
theorem dX12_copy_182 : decode cX12_copy 182 = .ok (.iadd, 1) := by decide +kernel
theorem dX12_copy_183 : decode cX12_copy 183 = .ok (.aload_n 0, 1) := by decide +kernel
theorem dX12_copy_184 : decode cX12_copy 184 = .ok (.getfield 16, 3) := by decide +kernel
theorem dX12_copy_187 : decode cX12_copy 187 = .ok (.bipush 40, 2) := by decide +kernel
theorem dX12_copy_189 : decode cX12_copy 189 = .ok (.iload_n 1, 1) := by decide +kernel
theorem dX12_copy_190 : decode cX12_copy 190 = .ok (.imul, 1) := by decide +kernel
theorem dX12_copy_191 : decode cX12_copy 191 = .ok (.iload_n 2, 1) := by decide +kernel
theorem dX12_copy_192 : decode cX12_copy 192 = .ok (.iadd, 1) := by decide +kernel
theorem dX12_copy_193 : decode cX12_copy 193 = .ok (.iload 8, 2) := by decide +kernel
theorem dX12_copy_195 : decode cX12_copy 195 = .ok (.iadd, 1) := by decide +kernel
theorem dX12_copy_196 : decode cX12_copy 196 = .ok (.iaload, 1) := by decide +kernel
theorem dX12_copy_197 : decode cX12_copy 197 = .ok (.iastore, 1) := by decide +kernel
theorem dX12_copy_198 : decode cX12_copy 198 = .ok (.iinc 7 1, 3) := by decide +kernel
theorem dX12_copy_201 : decode cX12_copy 201 = .ok (.goto (-58), 3) := by decide +kernel
theorem dX12_copy_204 : decode cX12_copy 204 = .ok (.iload 5, 2) := by decide +kernel
theorem dX12_copy_206 : decode cX12_copy 206 = .ok (.ireturn, 1) := by decide +kernel
theorem dX12_drop_0 : decode cX12_drop 0 = .ok (.aload_n 0, 1) := by decide +kernel
theorem dX12_drop_1 : decode cX12_drop 1 = .ok (.iconst 0, 1) := by decide +kernel
theorem dX12_drop_2 : decode cX12_drop 2 = .ok (.putfield 44, 3) := by decide +kernel
theorem dX12_drop_5 : decode cX12_drop 5 = .ok (.iload_n 1, 1) := by decide +kernel
theorem dX12_drop_6 : decode cX12_drop 6 = .ok (.invokestatic 58, 3) := by decide +kernel
theorem dX12_drop_9 : decode cX12_drop 9 = .ok (.ifCond .ne 6, 3) := by decide +kernel
theorem dX12_drop_12 : decode cX12_drop 12 = .ok (.ldc 64, 2) := by decide +kernel
theorem dX12_drop_14 : decode cX12_drop 14 = .ok (.ireturn, 1) := by decide +kernel
theorem dX12_drop_15 : decode cX12_drop 15 = .ok (.aload_n 0, 1) := by decide +kernel
theorem dX12_drop_16 : decode cX12_drop 16 = .ok (.iconst 0, 1) := by decide +kernel
theorem dX12_drop_17 : decode cX12_drop 17 = .ok (.putfield 48, 3) := by decide +kernel
theorem dX12_drop_20 : decode cX12_drop 20 = .ok (.aload_n 0, 1) := by decide +kernel
theorem dX12_drop_21 : decode cX12_drop 21 = .ok (.getfield 7, 3) := by decide +kernel
theorem dX12_drop_24 : decode cX12_drop 24 = .ok (.iload_n 1, 1) := by decide +kernel
theorem dX12_drop_25 : decode cX12_drop 25 = .ok (.iaload, 1) := by decide +kernel
theorem dX12_drop_26 : decode cX12_drop 26 = .ok (.ifCond .ge 9, 3) := by decide +kernel
theorem dX12_drop_29 : decode cX12_drop 29 = .ok (.aload_n 0, 1) := by decide +kernel
theorem dX12_drop_30 : decode cX12_drop 30 = .ok (.iconst 1, 1) := by decide +kernel
end
section
theorem dX12_drop_31 : decode cX12_drop 31 = .ok (.invokevirtual 65, 3) := by decide +kernel
theorem dX12_drop_34 : decode cX12_drop 34 = .ok (.ireturn, 1) := by decide +kernel
theorem dX12_drop_35 : decode cX12_drop 35 = .ok (.aload_n 0, 1) := by decide +kernel
theorem dX12_drop_36 : decode cX12_drop 36 = .ok (.getfield 7, 3) := by decide +kernel
theorem dX12_drop_39 : decode cX12_drop 39 = .ok (.iload_n 1, 1) := by decide +kernel
theorem dX12_drop_40 : decode cX12_drop 40 = .ok (.iconst (-1), 1) := by decide +kernel
theorem dX12_drop_41 : decode cX12_drop 41 = .ok (.iastore, 1) := by decide +kernel
theorem dX12_drop_42 : decode cX12_drop 42 = .ok (.aload_n 0, 1) := by decide +kernel
theorem dX12_drop_43 : decode cX12_drop 43 = .ok (.getfield 13, 3) := by decide +kernel
theorem dX12_drop_46 : decode cX12_drop 46 = .ok (.iload_n 1, 1) := by decide +kernel
theorem dX12_drop_47 : decode cX12_drop 47 = .ok (.iaload, 1) := by decide +kernel
theorem dX12_drop_48 : decode cX12_drop 48 = .ok (.ireturn, 1) := by decide +kernel
theorem dX12_feed_0 : decode cX12_feed 0 = .ok (.aload_n 0, 1) := by decide +kernel
theorem dX12_feed_1 : decode cX12_feed 1 = .ok (.iconst 0, 1) := by decide +kernel
theorem dX12_feed_2 : decode cX12_feed 2 = .ok (.putfield 44, 3) := by decide +kernel
theorem dX12_feed_5 : decode cX12_feed 5 = .ok (.iload_n 3, 1) := by decide +kernel
theorem dX12_feed_6 : decode cX12_feed 6 = .ok (.i2l, 1) := by decide +kernel
theorem dX12_feed_7 : decode cX12_feed 7 = .ok (.lconst 1, 1) := by decide +kernel
theorem dX12_feed_8 : decode cX12_feed 8 = .ok (.ldc2_w 69, 3) := by decide +kernel
theorem dX12_feed_11 : decode cX12_feed 11 = .ok (.invokestatic 54, 3) := by decide +kernel
theorem dX12_feed_14 : decode cX12_feed 14 = .ok (.ifCond .ne 6, 3) := by decide +kernel
theorem dX12_feed_17 : decode cX12_feed 17 = .ok (.ldc 64, 2) := by decide +kernel
theorem dX12_feed_19 : decode cX12_feed 19 = .ok (.ireturn, 1) := by decide +kernel
theorem dX12_feed_20 : decode cX12_feed 20 = .ok (.aload_n 0, 1) := by decide +kernel
theorem dX12_feed_21 : decode cX12_feed 21 = .ok (.getfield 71, 3) := by decide +kernel
theorem dX12_feed_24 : decode cX12_feed 24 = .ok (.iload_n 3, 1) := by decide +kernel
theorem dX12_feed_25 : decode cX12_feed 25 = .ok (.iadd, 1) := by decide +kernel
theorem dX12_feed_26 : decode cX12_feed 26 = .ok (.sipush 300, 3) := by decide +kernel
theorem dX12_feed_29 : decode cX12_feed 29 = .ok (.if_icmp .le 6, 3) := by decide +kernel
theorem dX12_feed_32 : decode cX12_feed 32 = .ok (.ldc 74, 2) := by decide +kernel
theorem dX12_feed_34 : decode cX12_feed 34 = .ok (.ireturn, 1) := by decide +kernel
theorem dX12_feed_35 : decode cX12_feed 35 = .ok (.iload_n 3, 1) := by decide +kernel
theorem dX12_feed_36 : decode cX12_feed 36 = .ok (.iconst 1, 1) := by decide +kernel
theorem dX12_feed_37 : decode cX12_feed 37 = .ok (.isub, 1) := by decide +kernel
theorem dX12_feed_38 : decode cX12_feed 38 = .ok (.istore 4, 2) := by decide +kernel
theorem dX12_feed_40 : decode cX12_feed 40 = .ok (.iload 4, 2) := by decide +kernel
theorem dX12_feed_42 : decode cX12_feed 42 = .ok (.ifCond .lt 40, 3) := by decide +kernel
theorem dX12_feed_45 : decode cX12_feed 45 = .ok (.aload_n 0, 1) := by decide +kernel
theorem dX12_feed_46 : decode cX12_feed 46 = .ok (.getfield 28, 3) := by decide +kernel
theorem dX12_feed_49 : decode cX12_feed 49 = .ok (.aload_n 0, 1) := by decide +kernel
theorem dX12_feed_50 : decode cX12_feed 50 = .ok (.getfield 71, 3) := by decide +kernel
theorem dX12_feed_53 : decode cX12_feed 53 = .ok (.lload_n 1, 1) := by decide +kernel
theorem dX12_feed_54 : decode cX12_feed 54 = .ok (.bipush 8, 2) := by decide +kernel
theorem dX12_feed_56 : decode cX12_feed 56 = .ok (.iload 4, 2) := by decide +kernel
theorem dX12_feed_58 : decode cX12_feed 58 = .ok (.imul, 1) := by decide +kernel
theorem dX12_feed_59 : decode cX12_feed 59 = .ok (.lshr, 1) := by decide +kernel
theorem dX12_feed_60 : decode cX12_feed 60 = .ok (.ldc2_w 75, 3) := by decide +kernel
theorem dX12_feed_63 : decode cX12_feed 63 = .ok (.land, 1) := by decide +kernel
theorem dX12_feed_64 : decode cX12_feed 64 = .ok (.l2i, 1) := by decide +kernel
theorem dX12_feed_65 : decode cX12_feed 65 = .ok (.iastore, 1) := by decide +kernel
theorem dX12_feed_66 : decode cX12_feed 66 = .ok (.aload_n 0, 1) := by decide +kernel
theorem dX12_feed_67 : decode cX12_feed 67 = .ok (.dup, 1) := by decide +kernel
theorem dX12_feed_68 : decode cX12_feed 68 = .ok (.getfield 71, 3) := by decide +kernel
theorem dX12_feed_71 : decode cX12_feed 71 = .ok (.iconst 1, 1) := by decide +kernel
theorem dX12_feed_72 : decode cX12_feed 72 = .ok (.iadd, 1) := by decide +kernel
theorem dX12_feed_73 : decode cX12_feed 73 = .ok (.putfield 71, 3) := by decide +kernel
theorem dX12_feed_76 : decode cX12_feed 76 = .ok (.iinc 4 (-1), 3) := by decide +kernel
theorem dX12_feed_79 : decode cX12_feed 79 = .ok (.goto (-39), 3) := by decide +kernel
theorem dX12_feed_82 : decode cX12_feed 82 = .ok (.aload_n 0, 1) := by decide +kernel
theorem dX12_feed_83 : decode cX12_feed 83 = .ok (.getfield 71, 3) := by decide +kernel
theorem dX12_feed_86 : decode cX12_feed 86 = .ok (.ireturn, 1) := by decide +kernel
theorem dX12_byteAt_0 : decode cX12_byteAt 0 = .ok (.iload_n 1, 1) := by decide +kernel
theorem dX12_byteAt_1 : decode cX12_byteAt 1 = .ok (.aload_n 0, 1) := by decide +kernel
theorem dX12_byteAt_2 : decode cX12_byteAt 2 = .ok (.getfield 77, 3) := by decide +kernel
theorem dX12_byteAt_5 : decode cX12_byteAt 5 = .ok (.if_icmp .ge 12, 3) := by decide +kernel
theorem dX12_byteAt_8 : decode cX12_byteAt 8 = .ok (.aload_n 0, 1) := by decide +kernel
theorem dX12_byteAt_9 : decode cX12_byteAt 9 = .ok (.getfield 28, 3) := by decide +kernel
theorem dX12_byteAt_12 : decode cX12_byteAt 12 = .ok (.iload_n 1, 1) := by decide +kernel
theorem dX12_byteAt_13 : decode cX12_byteAt 13 = .ok (.iaload, 1) := by decide +kernel
theorem dX12_byteAt_14 : decode cX12_byteAt 14 = .ok (.goto 5, 3) := by decide +kernel
theorem dX12_byteAt_17 : decode cX12_byteAt 17 = .ok (.ldc 80, 2) := by decide +kernel
theorem dX12_byteAt_19 : decode cX12_byteAt 19 = .ok (.ireturn, 1) := by decide +kernel
theorem dX12_isLetter_0 : decode cX12_isLetter 0 = .ok (.iload_n 0, 1) := by decide +kernel
theorem dX12_isLetter_1 : decode cX12_isLetter 1 = .ok (.bipush 97, 2) := by decide +kernel
theorem dX12_isLetter_3 : decode cX12_isLetter 3 = .ok (.if_icmp .lt 13, 3) := by decide +kernel
theorem dX12_isLetter_6 : decode cX12_isLetter 6 = .ok (.iload_n 0, 1) := by decide +kernel
theorem dX12_isLetter_7 : decode cX12_isLetter 7 = .ok (.bipush 122, 2) := by decide +kernel
theorem dX12_isLetter_9 : decode cX12_isLetter 9 = .ok (.if_icmp .gt 7, 3) := by decide +kernel
theorem dX12_isLetter_12 : decode cX12_isLetter 12 = .ok (.iconst 1, 1) := by decide +kernel
theorem dX12_isLetter_13 : decode cX12_isLetter 13 = .ok (.goto 4, 3) := by decide +kernel
theorem dX12_isLetter_16 : decode cX12_isLetter 16 = .ok (.iconst 0, 1) := by decide +kernel
theorem dX12_isLetter_17 : decode cX12_isLetter 17 = .ok (.ireturn, 1) := by decide +kernel
theorem dX12_isFigure_0 : decode cX12_isFigure 0 = .ok (.iload_n 0, 1) := by decide +kernel
theorem dX12_isFigure_1 : decode cX12_isFigure 1 = .ok (.bipush 48, 2) := by decide +kernel
theorem dX12_isFigure_3 : decode cX12_isFigure 3 = .ok (.if_icmp .lt 13, 3) := by decide +kernel
theorem dX12_isFigure_6 : decode cX12_isFigure 6 = .ok (.iload_n 0, 1) := by decide +kernel
theorem dX12_isFigure_7 : decode cX12_isFigure 7 = .ok (.bipush 57, 2) := by decide +kernel
theorem dX12_isFigure_9 : decode cX12_isFigure 9 = .ok (.if_icmp .gt 7, 3) := by decide +kernel
theorem dX12_isFigure_12 : decode cX12_isFigure 12 = .ok (.iconst 1, 1) := by decide +kernel
theorem dX12_isFigure_13 : decode cX12_isFigure 13 = .ok (.goto 4, 3) := by decide +kernel
theorem dX12_isFigure_16 : decode cX12_isFigure 16 = .ok (.iconst 0, 1) := by decide +kernel
theorem dX12_isFigure_17 : decode cX12_isFigure 17 = .ok (.ireturn, 1) := by decide +kernel
theorem dX12_next_0 : decode cX12_next 0 = .ok (.aload_n 0, 1) := by decide +kernel
theorem dX12_next_1 : decode cX12_next 1 = .ok (.aload_n 0, 1) := by decide +kernel
theorem dX12_next_2 : decode cX12_next 2 = .ok (.getfield 81, 3) := by decide +kernel
theorem dX12_next_5 : decode cX12_next 5 = .ok (.invokevirtual 84, 3) := by decide +kernel
theorem dX12_next_8 : decode cX12_next 8 = .ok (.bipush 32, 2) := by decide +kernel
theorem dX12_next_10 : decode cX12_next 10 = .ok (.if_icmp .eq 16, 3) := by decide +kernel
theorem dX12_next_13 : decode cX12_next 13 = .ok (.aload_n 0, 1) := by decide +kernel
theorem dX12_next_14 : decode cX12_next 14 = .ok (.aload_n 0, 1) := by decide +kernel
theorem dX12_next_15 : decode cX12_next 15 = .ok (.getfield 81, 3) := by decide +kernel
theorem dX12_next_18 : decode cX12_next 18 = .ok (.invokevirtual 84, 3) := by decide +kernel
theorem dX12_next_21 : decode cX12_next 21 = .ok (.bipush 10, 2) := by decide +kernel
theorem dX12_next_23 : decode cX12_next 23 = .ok (.if_icmp .ne 16, 3) := by decide +kernel
theorem dX12_next_26 : decode cX12_next 26 = .ok (.aload_n 0, 1) := by decide +kernel
theorem dX12_next_27 : decode cX12_next 27 = .ok (.dup, 1) := by decide +kernel
theorem dX12_next_28 : decode cX12_next 28 = .ok (.getfield 81, 3) := by decide +kernel
theorem dX12_next_31 : decode cX12_next 31 = .ok (.iconst 1, 1) := by decide +kernel
theorem dX12_next_32 : decode cX12_next 32 = .ok (.iadd, 1) := by decide +kernel
theorem dX12_next_33 : decode cX12_next 33 = .ok (.putfield 81, 3) := by decide +kernel
theorem dX12_next_36 : decode cX12_next 36 = .ok (.goto (-36), 3) := by decide +kernel
theorem dX12_next_39 : decode cX12_next 39 = .ok (.aload_n 0, 1) := by decide +kernel
theorem dX12_next_40 : decode cX12_next 40 = .ok (.aload_n 0, 1) := by decide +kernel
theorem dX12_next_41 : decode cX12_next 41 = .ok (.getfield 81, 3) := by decide +kernel
theorem dX12_next_44 : decode cX12_next 44 = .ok (.putfield 87, 3) := by decide +kernel
theorem dX12_next_47 : decode cX12_next 47 = .ok (.aload_n 0, 1) := by decide +kernel
theorem dX12_next_48 : decode cX12_next 48 = .ok (.aload_n 0, 1) := by decide +kernel
theorem dX12_next_49 : decode cX12_next 49 = .ok (.getfield 81, 3) := by decide +kernel
theorem dX12_next_52 : decode cX12_next 52 = .ok (.invokevirtual 84, 3) := by decide +kernel
theorem dX12_next_55 : decode cX12_next 55 = .ok (.istore_n 1, 1) := by decide +kernel
theorem dX12_next_56 : decode cX12_next 56 = .ok (.iload_n 1, 1) := by decide +kernel
theorem dX12_next_57 : decode cX12_next 57 = .ok (.ldc 80, 2) := by decide +kernel
theorem dX12_next_59 : decode cX12_next 59 = .ok (.if_icmp .ne 11, 3) := by decide +kernel
theorem dX12_next_62 : decode cX12_next 62 = .ok (.aload_n 0, 1) := by decide +kernel
theorem dX12_next_63 : decode cX12_next 63 = .ok (.iconst 1, 1) := by decide +kernel
theorem dX12_next_64 : decode cX12_next 64 = .ok (.putfield 90, 3) := by decide +kernel
theorem dX12_next_67 : decode cX12_next 67 = .ok (.goto 129, 3) := by decide +kernel
theorem dX12_next_70 : decode cX12_next 70 = .ok (.iload_n 1, 1) := by decide +kernel
theorem dX12_next_71 : decode cX12_next 71 = .ok (.invokestatic 93, 3) := by decide +kernel
theorem dX12_next_74 : decode cX12_next 74 = .ok (.ifCond .eq 38, 3) := by decide +kernel
theorem dX12_next_77 : decode cX12_next 77 = .ok (.aload_n 0, 1) := by decide +kernel
theorem dX12_next_78 : decode cX12_next 78 = .ok (.aload_n 0, 1) := by decide +kernel
theorem dX12_next_79 : decode cX12_next 79 = .ok (.getfield 81, 3) := by decide +kernel
theorem dX12_next_82 : decode cX12_next 82 = .ok (.invokevirtual 84, 3) := by decide +kernel
theorem dX12_next_85 : decode cX12_next 85 = .ok (.invokestatic 93, 3) := by decide +kernel
theorem dX12_next_88 : decode cX12_next 88 = .ok (.ifCond .eq 16, 3) := by decide +kernel
theorem dX12_next_91 : decode cX12_next 91 = .ok (.aload_n 0, 1) := by decide +kernel
theorem dX12_next_92 : decode cX12_next 92 = .ok (.dup, 1) := by decide +kernel
theorem dX12_next_93 : decode cX12_next 93 = .ok (.getfield 81, 3) := by decide +kernel
theorem dX12_next_96 : decode cX12_next 96 = .ok (.iconst 1, 1) := by decide +kernel
theorem dX12_next_97 : decode cX12_next 97 = .ok (.iadd, 1) := by decide +kernel
theorem dX12_next_98 : decode cX12_next 98 = .ok (.putfield 81, 3) := by decide +kernel
theorem dX12_next_101 : decode cX12_next 101 = .ok (.goto (-24), 3) := by decide +kernel
theorem dX12_next_104 : decode cX12_next 104 = .ok (.aload_n 0, 1) := by decide +kernel
theorem dX12_next_105 : decode cX12_next 105 = .ok (.iconst 2, 1) := by decide +kernel
theorem dX12_next_106 : decode cX12_next 106 = .ok (.putfield 90, 3) := by decide +kernel
theorem dX12_next_109 : decode cX12_next 109 = .ok (.goto 87, 3) := by decide +kernel
theorem dX12_next_112 : decode cX12_next 112 = .ok (.iload_n 1, 1) := by decide +kernel
theorem dX12_next_113 : decode cX12_next 113 = .ok (.invokestatic 96, 3) := by decide +kernel
theorem dX12_next_116 : decode cX12_next 116 = .ok (.ifCond .eq 55, 3) := by decide +kernel
theorem dX12_next_119 : decode cX12_next 119 = .ok (.aload_n 0, 1) := by decide +kernel
theorem dX12_next_120 : decode cX12_next 120 = .ok (.aload_n 0, 1) := by decide +kernel
theorem dX12_next_121 : decode cX12_next 121 = .ok (.getfield 81, 3) := by decide +kernel
theorem dX12_next_124 : decode cX12_next 124 = .ok (.invokevirtual 84, 3) := by decide +kernel
theorem dX12_next_127 : decode cX12_next 127 = .ok (.invokestatic 96, 3) := by decide +kernel
theorem dX12_next_130 : decode cX12_next 130 = .ok (.ifCond .eq 16, 3) := by decide +kernel
theorem dX12_next_133 : decode cX12_next 133 = .ok (.aload_n 0, 1) := by decide +kernel
theorem dX12_next_134 : decode cX12_next 134 = .ok (.dup, 1) := by decide +kernel
theorem dX12_next_135 : decode cX12_next 135 = .ok (.getfield 81, 3) := by decide +kernel
theorem dX12_next_138 : decode cX12_next 138 = .ok (.iconst 1, 1) := by decide +kernel
theorem dX12_next_139 : decode cX12_next 139 = .ok (.iadd, 1) := by decide +kernel
theorem dX12_next_140 : decode cX12_next 140 = .ok (.putfield 81, 3) := by decide +kernel
theorem dX12_next_143 : decode cX12_next 143 = .ok (.goto (-24), 3) := by decide +kernel
theorem dX12_next_146 : decode cX12_next 146 = .ok (.aload_n 0, 1) := by decide +kernel
theorem dX12_next_147 : decode cX12_next 147 = .ok (.aload_n 0, 1) := by decide +kernel
theorem dX12_next_148 : decode cX12_next 148 = .ok (.getfield 81, 3) := by decide +kernel
theorem dX12_next_151 : decode cX12_next 151 = .ok (.aload_n 0, 1) := by decide +kernel
theorem dX12_next_152 : decode cX12_next 152 = .ok (.getfield 87, 3) := by decide +kernel
theorem dX12_next_155 : decode cX12_next 155 = .ok (.isub, 1) := by decide +kernel
theorem dX12_next_156 : decode cX12_next 156 = .ok (.iconst 3, 1) := by decide +kernel
theorem dX12_next_157 : decode cX12_next 157 = .ok (.if_icmp .le 7, 3) := by decide +kernel
theorem dX12_next_160 : decode cX12_next 160 = .ok (.iconst 0, 1) := by decide +kernel
theorem dX12_next_161 : decode cX12_next 161 = .ok (.goto 4, 3) := by decide +kernel
theorem dX12_next_164 : decode cX12_next 164 = .ok (.iconst 3, 1) := by decide +kernel
theorem dX12_next_165 : decode cX12_next 165 = .ok (.putfield 90, 3) := by decide +kernel
theorem dX12_next_168 : decode cX12_next 168 = .ok (.goto 28, 3) := by decide +kernel
theorem dX12_next_171 : decode cX12_next 171 = .ok (.aload_n 0, 1) := by decide +kernel
theorem dX12_next_172 : decode cX12_next 172 = .ok (.dup, 1) := by decide +kernel
theorem dX12_next_173 : decode cX12_next 173 = .ok (.getfield 81, 3) := by decide +kernel
theorem dX12_next_176 : decode cX12_next 176 = .ok (.iconst 1, 1) := by decide +kernel
theorem dX12_next_177 : decode cX12_next 177 = .ok (.iadd, 1) := by decide +kernel
theorem dX12_next_178 : decode cX12_next 178 = .ok (.putfield 81, 3) := by decide +kernel
theorem dX12_next_181 : decode cX12_next 181 = .ok (.aload_n 0, 1) := by decide +kernel
theorem dX12_next_182 : decode cX12_next 182 = .ok (.iload_n 1, 1) := by decide +kernel
theorem dX12_next_183 : decode cX12_next 183 = .ok (.bipush 59, 2) := by decide +kernel
theorem dX12_next_185 : decode cX12_next 185 = .ok (.if_icmp .ne 7, 3) := by decide +kernel
theorem dX12_next_188 : decode cX12_next 188 = .ok (.iconst 4, 1) := by decide +kernel
theorem dX12_next_189 : decode cX12_next 189 = .ok (.goto 4, 3) := by decide +kernel
theorem dX12_next_192 : decode cX12_next 192 = .ok (.iconst 0, 1) := by decide +kernel
theorem dX12_next_193 : decode cX12_next 193 = .ok (.putfield 90, 3) := by decide +kernel
theorem dX12_next_196 : decode cX12_next 196 = .ok (.aload_n 0, 1) := by decide +kernel
theorem dX12_next_197 : decode cX12_next 197 = .ok (.aload_n 0, 1) := by decide +kernel
theorem dX12_next_198 : decode cX12_next 198 = .ok (.getfield 81, 3) := by decide +kernel
theorem dX12_next_201 : decode cX12_next 201 = .ok (.putfield 99, 3) := by decide +kernel
theorem dX12_next_204 : decode cX12_next 204 = .ok (.return_, 1) := by decide +kernel
theorem dX12_begin_0 : decode cX12_begin 0 = .ok (.aload_n 0, 1) := by decide +kernel
theorem dX12_begin_1 : decode cX12_begin 1 = .ok (.aload_n 0, 1) := by decide +kernel
theorem dX12_begin_2 : decode cX12_begin 2 = .ok (.getfield 71, 3) := by decide +kernel
theorem dX12_begin_5 : decode cX12_begin 5 = .ok (.putfield 77, 3) := by decide +kernel
theorem dX12_begin_8 : decode cX12_begin 8 = .ok (.aload_n 0, 1) := by decide +kernel
theorem dX12_begin_9 : decode cX12_begin 9 = .ok (.iconst 0, 1) := by decide +kernel
theorem dX12_begin_10 : decode cX12_begin 10 = .ok (.putfield 71, 3) := by decide +kernel
theorem dX12_begin_13 : decode cX12_begin 13 = .ok (.aload_n 0, 1) := by decide +kernel
theorem dX12_begin_14 : decode cX12_begin 14 = .ok (.iconst 0, 1) := by decide +kernel
theorem dX12_begin_15 : decode cX12_begin 15 = .ok (.putfield 81, 3) := by decide +kernel
theorem dX12_begin_18 : decode cX12_begin 18 = .ok (.aload_n 0, 1) := by decide +kernel
theorem dX12_begin_19 : decode cX12_begin 19 = .ok (.iconst 0, 1) := by decide +kernel
theorem dX12_begin_20 : decode cX12_begin 20 = .ok (.putfield 102, 3) := by decide +kernel
theorem dX12_begin_23 : decode cX12_begin 23 = .ok (.aload_n 0, 1) := by decide +kernel
theorem dX12_begin_24 : decode cX12_begin 24 = .ok (.invokevirtual 105, 3) := by decide +kernel
theorem dX12_begin_27 : decode cX12_begin 27 = .ok (.return_, 1) := by decide +kernel
theorem dX12_bad_0 : decode cX12_bad 0 = .ok (.aload_n 0, 1) := by decide +kernel
theorem dX12_bad_1 : decode cX12_bad 1 = .ok (.getfield 102, 3) := by decide +kernel
theorem dX12_bad_4 : decode cX12_bad 4 = .ok (.ifCond .ne 16, 3) := by decide +kernel
theorem dX12_bad_7 : decode cX12_bad 7 = .ok (.aload_n 0, 1) := by decide +kernel
theorem dX12_bad_8 : decode cX12_bad 8 = .ok (.iload_n 1, 1) := by decide +kernel
theorem dX12_bad_9 : decode cX12_bad 9 = .ok (.putfield 102, 3) := by decide +kernel
theorem dX12_bad_12 : decode cX12_bad 12 = .ok (.aload_n 0, 1) := by decide +kernel
theorem dX12_bad_13 : decode cX12_bad 13 = .ok (.aload_n 0, 1) := by decide +kernel
theorem dX12_bad_14 : decode cX12_bad 14 = .ok (.getfield 87, 3) := by decide +kernel
theorem dX12_bad_17 : decode cX12_bad 17 = .ok (.putfield 108, 3) := by decide +kernel
theorem dX12_bad_20 : decode cX12_bad 20 = .ok (.return_, 1) := by decide +kernel
theorem dX12_must_0 : decode cX12_must 0 = .ok (.iload_n 1, 1) := by decide +kernel
theorem dX12_must_1 : decode cX12_must 1 = .ok (.ifCond .ne 8, 3) := by decide +kernel
theorem dX12_must_4 : decode cX12_must 4 = .ok (.aload_n 0, 1) := by decide +kernel
theorem dX12_must_5 : decode cX12_must 5 = .ok (.iconst 1, 1) := by decide +kernel
theorem dX12_must_6 : decode cX12_must 6 = .ok (.invokevirtual 111, 3) := by decide +kernel
theorem dX12_must_9 : decode cX12_must 9 = .ok (.aload_n 0, 1) := by decide +kernel
theorem dX12_must_10 : decode cX12_must 10 = .ok (.getfield 102, 3) := by decide +kernel
theorem dX12_must_13 : decode cX12_must 13 = .ok (.ifCond .ne 7, 3) := by decide +kernel
theorem dX12_must_16 : decode cX12_must 16 = .ok (.aload_n 0, 1) := by decide +kernel
theorem dX12_must_17 : decode cX12_must 17 = .ok (.invokevirtual 105, 3) := by decide +kernel
theorem dX12_must_20 : decode cX12_must 20 = .ok (.return_, 1) := by decide +kernel
theorem dX12_name_0 : decode cX12_name 0 = .ok (.lconst 0, 1) := by decide +kernel
theorem dX12_name_1 : decode cX12_name 1 = .ok (.lstore_n 1, 1) := by decide +kernel
theorem dX12_name_2 : decode cX12_name 2 = .ok (.aload_n 0, 1) := by decide +kernel
theorem dX12_name_3 : decode cX12_name 3 = .ok (.getfield 87, 3) := by decide +kernel
theorem dX12_name_6 : decode cX12_name 6 = .ok (.istore_n 3, 1) := by decide +kernel
theorem dX12_name_7 : decode cX12_name 7 = .ok (.iload_n 3, 1) := by decide +kernel
theorem dX12_name_8 : decode cX12_name 8 = .ok (.aload_n 0, 1) := by decide +kernel
theorem dX12_name_9 : decode cX12_name 9 = .ok (.getfield 99, 3) := by decide +kernel
theorem dX12_name_12 : decode cX12_name 12 = .ok (.if_icmp .ge 44, 3) := by decide +kernel
theorem dX12_name_15 : decode cX12_name 15 = .ok (.aload_n 0, 1) := by decide +kernel
theorem dX12_name_16 : decode cX12_name 16 = .ok (.getfield 90, 3) := by decide +kernel
theorem dX12_name_19 : decode cX12_name 19 = .ok (.iconst 2, 1) := by decide +kernel
theorem dX12_name_20 : decode cX12_name 20 = .ok (.if_icmp .ne 36, 3) := by decide +kernel
theorem dX12_name_23 : decode cX12_name 23 = .ok (.aload_n 0, 1) := by decide +kernel
theorem dX12_name_24 : decode cX12_name 24 = .ok (.getfield 99, 3) := by decide +kernel
theorem dX12_name_27 : decode cX12_name 27 = .ok (.aload_n 0, 1) := by decide +kernel
theorem dX12_name_28 : decode cX12_name 28 = .ok (.getfield 87, 3) := by decide +kernel
theorem dX12_name_31 : decode cX12_name 31 = .ok (.isub, 1) := by decide +kernel
theorem dX12_name_32 : decode cX12_name 32 = .ok (.bipush 8, 2) := by decide +kernel
theorem dX12_name_34 : decode cX12_name 34 = .ok (.if_icmp .ge 22, 3) := by decide +kernel
theorem dX12_name_37 : decode cX12_name 37 = .ok (.lload_n 1, 1) := by decide +kernel
theorem dX12_name_38 : decode cX12_name 38 = .ok (.bipush 8, 2) := by decide +kernel
theorem dX12_name_40 : decode cX12_name 40 = .ok (.lshl, 1) := by decide +kernel
theorem dX12_name_41 : decode cX12_name 41 = .ok (.aload_n 0, 1) := by decide +kernel
theorem dX12_name_42 : decode cX12_name 42 = .ok (.getfield 28, 3) := by decide +kernel
theorem dX12_name_45 : decode cX12_name 45 = .ok (.iload_n 3, 1) := by decide +kernel
theorem dX12_name_46 : decode cX12_name 46 = .ok (.iaload, 1) := by decide +kernel
theorem dX12_name_47 : decode cX12_name 47 = .ok (.i2l, 1) := by decide +kernel
theorem dX12_name_48 : decode cX12_name 48 = .ok (.lor, 1) := by decide +kernel
theorem dX12_name_49 : decode cX12_name 49 = .ok (.lstore_n 1, 1) := by decide +kernel
theorem dX12_name_50 : decode cX12_name 50 = .ok (.iinc 3 1, 3) := by decide +kernel
theorem dX12_name_53 : decode cX12_name 53 = .ok (.goto (-46), 3) := by decide +kernel
theorem dX12_name_56 : decode cX12_name 56 = .ok (.aload_n 0, 1) := by decide +kernel
theorem dX12_name_57 : decode cX12_name 57 = .ok (.getfield 102, 3) := by decide +kernel
theorem dX12_name_60 : decode cX12_name 60 = .ok (.ifCond .ne 7, 3) := by decide +kernel
theorem dX12_name_63 : decode cX12_name 63 = .ok (.lload_n 1, 1) := by decide +kernel
theorem dX12_name_64 : decode cX12_name 64 = .ok (.goto 4, 3) := by decide +kernel
theorem dX12_name_67 : decode cX12_name 67 = .ok (.lconst 0, 1) := by decide +kernel
theorem dX12_name_68 : decode cX12_name 68 = .ok (.lreturn, 1) := by decide +kernel
theorem dX12_figures_0 : decode cX12_figures 0 = .ok (.iconst 0, 1) := by decide +kernel
theorem dX12_figures_1 : decode cX12_figures 1 = .ok (.istore_n 1, 1) := by decide +kernel
theorem dX12_figures_2 : decode cX12_figures 2 = .ok (.aload_n 0, 1) := by decide +kernel
theorem dX12_figures_3 : decode cX12_figures 3 = .ok (.getfield 87, 3) := by decide +kernel
theorem dX12_figures_6 : decode cX12_figures 6 = .ok (.istore_n 2, 1) := by decide +kernel
theorem dX12_figures_7 : decode cX12_figures 7 = .ok (.iload_n 2, 1) := by decide +kernel
theorem dX12_figures_8 : decode cX12_figures 8 = .ok (.aload_n 0, 1) := by decide +kernel
theorem dX12_figures_9 : decode cX12_figures 9 = .ok (.getfield 99, 3) := by decide +kernel
theorem dX12_figures_12 : decode cX12_figures 12 = .ok (.if_icmp .ge 32, 3) := by decide +kernel
theorem dX12_figures_15 : decode cX12_figures 15 = .ok (.aload_n 0, 1) := by decide +kernel
theorem dX12_figures_16 : decode cX12_figures 16 = .ok (.getfield 90, 3) := by decide +kernel
theorem dX12_figures_19 : decode cX12_figures 19 = .ok (.iconst 3, 1) := by decide +kernel
theorem dX12_figures_20 : decode cX12_figures 20 = .ok (.if_icmp .ne 24, 3) := by decide +kernel
theorem dX12_figures_23 : decode cX12_figures 23 = .ok (.bipush 10, 2) := by decide +kernel
theorem dX12_figures_25 : decode cX12_figures 25 = .ok (.iload_n 1, 1) := by decide +kernel
theorem dX12_figures_26 : decode cX12_figures 26 = .ok (.imul, 1) := by decide +kernel
theorem dX12_figures_27 : decode cX12_figures 27 = .ok (.aload_n 0, 1) := by decide +kernel
theorem dX12_figures_28 : decode cX12_figures 28 = .ok (.getfield 28, 3) := by decide +kernel
theorem dX12_figures_31 : decode cX12_figures 31 = .ok (.iload_n 2, 1) := by decide +kernel
theorem dX12_figures_32 : decode cX12_figures 32 = .ok (.iaload, 1) := by decide +kernel
theorem dX12_figures_33 : decode cX12_figures 33 = .ok (.iadd, 1) := by decide +kernel
theorem dX12_figures_34 : decode cX12_figures 34 = .ok (.bipush 48, 2) := by decide +kernel
theorem dX12_figures_36 : decode cX12_figures 36 = .ok (.isub, 1) := by decide +kernel
theorem dX12_figures_37 : decode cX12_figures 37 = .ok (.istore_n 1, 1) := by decide +kernel
theorem dX12_figures_38 : decode cX12_figures 38 = .ok (.iinc 2 1, 3) := by decide +kernel
theorem dX12_figures_41 : decode cX12_figures 41 = .ok (.goto (-34), 3) := by decide +kernel
theorem dX12_figures_44 : decode cX12_figures 44 = .ok (.iload_n 1, 1) := by decide +kernel
theorem dX12_figures_45 : decode cX12_figures 45 = .ok (.ireturn, 1) := by decide +kernel
theorem dX12_number_0 : decode cX12_number 0 = .ok (.aload_n 0, 1) := by decide +kernel
theorem dX12_number_1 : decode cX12_number 1 = .ok (.getfield 102, 3) := by decide +kernel
theorem dX12_number_4 : decode cX12_number 4 = .ok (.ifCond .le 5, 3) := by decide +kernel
theorem dX12_number_7 : decode cX12_number 7 = .ok (.iconst 0, 1) := by decide +kernel
theorem dX12_number_8 : decode cX12_number 8 = .ok (.ireturn, 1) := by decide +kernel
theorem dX12_number_9 : decode cX12_number 9 = .ok (.aload_n 0, 1) := by decide +kernel
theorem dX12_number_10 : decode cX12_number 10 = .ok (.invokevirtual 115, 3) := by decide +kernel
theorem dX12_number_13 : decode cX12_number 13 = .ok (.istore_n 3, 1) := by decide +kernel
theorem dX12_number_14 : decode cX12_number 14 = .ok (.aload_n 0, 1) := by decide +kernel
theorem dX12_number_15 : decode cX12_number 15 = .ok (.getfield 90, 3) := by decide +kernel
theorem dX12_number_18 : decode cX12_number 18 = .ok (.iconst 3, 1) := by decide +kernel
theorem dX12_number_19 : decode cX12_number 19 = .ok (.if_icmp .ne 20, 3) := by decide +kernel
theorem dX12_number_22 : decode cX12_number 22 = .ok (.iload_n 3, 1) := by decide +kernel
theorem dX12_number_23 : decode cX12_number 23 = .ok (.i2l, 1) := by decide +kernel
theorem dX12_number_24 : decode cX12_number 24 = .ok (.iload_n 1, 1) := by decide +kernel
theorem dX12_number_25 : decode cX12_number 25 = .ok (.i2l, 1) := by decide +kernel
theorem dX12_number_26 : decode cX12_number 26 = .ok (.iload_n 2, 1) := by decide +kernel
theorem dX12_number_27 : decode cX12_number 27 = .ok (.i2l, 1) := by decide +kernel
theorem dX12_number_28 : decode cX12_number 28 = .ok (.invokestatic 54, 3) := by decide +kernel
theorem dX12_number_31 : decode cX12_number 31 = .ok (.ifCond .ne 8, 3) := by decide +kernel
theorem dX12_number_34 : decode cX12_number 34 = .ok (.aload_n 0, 1) := by decide +kernel
theorem dX12_number_35 : decode cX12_number 35 = .ok (.iconst 2, 1) := by decide +kernel
theorem dX12_number_36 : decode cX12_number 36 = .ok (.invokevirtual 111, 3) := by decide +kernel
theorem dX12_number_39 : decode cX12_number 39 = .ok (.aload_n 0, 1) := by decide +kernel
theorem dX12_number_40 : decode cX12_number 40 = .ok (.aload_n 0, 1) := by decide +kernel
theorem dX12_number_41 : decode cX12_number 41 = .ok (.getfield 90, 3) := by decide +kernel
theorem dX12_number_44 : decode cX12_number 44 = .ok (.iconst 3, 1) := by decide +kernel
theorem dX12_number_45 : decode cX12_number 45 = .ok (.if_icmp .ne 7, 3) := by decide +kernel
theorem dX12_number_48 : decode cX12_number 48 = .ok (.iconst 1, 1) := by decide +kernel
theorem dX12_number_49 : decode cX12_number 49 = .ok (.goto 4, 3) := by decide +kernel
theorem dX12_number_52 : decode cX12_number 52 = .ok (.iconst 0, 1) := by decide +kernel
theorem dX12_number_53 : decode cX12_number 53 = .ok (.invokevirtual 119, 3) := by decide +kernel
theorem dX12_number_56 : decode cX12_number 56 = .ok (.iload_n 3, 1) := by decide +kernel
theorem dX12_number_57 : decode cX12_number 57 = .ok (.ireturn, 1) := by decide +kernel
theorem dX12_kindBy_0 : decode cX12_kindBy 0 = .ok (.lload_n 0, 1) := by decide +kernel
theorem dX12_kindBy_1 : decode cX12_kindBy 1 = .ok (.ldc2_w 123, 3) := by decide +kernel
theorem dX12_kindBy_4 : decode cX12_kindBy 4 = .ok (.lcmp, 1) := by decide +kernel
theorem dX12_kindBy_5 : decode cX12_kindBy 5 = .ok (.ifCond .ne 7, 3) := by decide +kernel
theorem dX12_kindBy_8 : decode cX12_kindBy 8 = .ok (.iconst 1, 1) := by decide +kernel
theorem dX12_kindBy_9 : decode cX12_kindBy 9 = .ok (.goto 53, 3) := by decide +kernel
theorem dX12_kindBy_12 : decode cX12_kindBy 12 = .ok (.lload_n 0, 1) := by decide +kernel
theorem dX12_kindBy_13 : decode cX12_kindBy 13 = .ok (.ldc2_w 125, 3) := by decide +kernel
theorem dX12_kindBy_16 : decode cX12_kindBy 16 = .ok (.lcmp, 1) := by decide +kernel
theorem dX12_kindBy_17 : decode cX12_kindBy 17 = .ok (.ifCond .ne 7, 3) := by decide +kernel
theorem dX12_kindBy_20 : decode cX12_kindBy 20 = .ok (.iconst 2, 1) := by decide +kernel
theorem dX12_kindBy_21 : decode cX12_kindBy 21 = .ok (.goto 41, 3) := by decide +kernel
theorem dX12_kindBy_24 : decode cX12_kindBy 24 = .ok (.lload_n 0, 1) := by decide +kernel
theorem dX12_kindBy_25 : decode cX12_kindBy 25 = .ok (.ldc2_w 127, 3) := by decide +kernel
theorem dX12_kindBy_28 : decode cX12_kindBy 28 = .ok (.lcmp, 1) := by decide +kernel
theorem dX12_kindBy_29 : decode cX12_kindBy 29 = .ok (.ifCond .ne 7, 3) := by decide +kernel
theorem dX12_kindBy_32 : decode cX12_kindBy 32 = .ok (.iconst 4, 1) := by decide +kernel
theorem dX12_kindBy_33 : decode cX12_kindBy 33 = .ok (.goto 29, 3) := by decide +kernel
theorem dX12_kindBy_36 : decode cX12_kindBy 36 = .ok (.lload_n 0, 1) := by decide +kernel
theorem dX12_kindBy_37 : decode cX12_kindBy 37 = .ok (.ldc2_w 129, 3) := by decide +kernel
theorem dX12_kindBy_40 : decode cX12_kindBy 40 = .ok (.lcmp, 1) := by decide +kernel
theorem dX12_kindBy_41 : decode cX12_kindBy 41 = .ok (.ifCond .ne 7, 3) := by decide +kernel
theorem dX12_kindBy_44 : decode cX12_kindBy 44 = .ok (.iconst 5, 1) := by decide +kernel
theorem dX12_kindBy_45 : decode cX12_kindBy 45 = .ok (.goto 17, 3) := by decide +kernel
theorem dX12_kindBy_48 : decode cX12_kindBy 48 = .ok (.lload_n 0, 1) := by decide +kernel
theorem dX12_kindBy_49 : decode cX12_kindBy 49 = .ok (.ldc2_w 131, 3) := by decide +kernel
theorem dX12_kindBy_52 : decode cX12_kindBy 52 = .ok (.lcmp, 1) := by decide +kernel
theorem dX12_kindBy_53 : decode cX12_kindBy 53 = .ok (.ifCond .ne 7, 3) := by decide +kernel
theorem dX12_kindBy_56 : decode cX12_kindBy 56 = .ok (.iconst 3, 1) := by decide +kernel
theorem dX12_kindBy_57 : decode cX12_kindBy 57 = .ok (.goto 5, 3) := by decide +kernel
theorem dX12_kindBy_60 : decode cX12_kindBy 60 = .ok (.ldc 80, 2) := by decide +kernel
theorem dX12_kindBy_62 : decode cX12_kindBy 62 = .ok (.ireturn, 1) := by decide +kernel
theorem dX12_readPerson_0 : decode cX12_readPerson 0 = .ok (.aload_n 0, 1) := by decide +kernel
theorem dX12_readPerson_1 : decode cX12_readPerson 1 = .ok (.getfield 22, 3) := by decide +kernel
theorem dX12_readPerson_4 : decode cX12_readPerson 4 = .ok (.iconst 0, 1) := by decide +kernel
theorem dX12_readPerson_5 : decode cX12_readPerson 5 = .ok (.iaload, 1) := by decide +kernel
theorem dX12_readPerson_6 : decode cX12_readPerson 6 = .ok (.bipush 6, 2) := by decide +kernel
theorem dX12_readPerson_8 : decode cX12_readPerson 8 = .ok (.if_icmp .ne 8, 3) := by decide +kernel
theorem dX12_readPerson_11 : decode cX12_readPerson 11 = .ok (.aload_n 0, 1) := by decide +kernel
theorem dX12_readPerson_12 : decode cX12_readPerson 12 = .ok (.iconst 3, 1) := by decide +kernel
theorem dX12_readPerson_13 : decode cX12_readPerson 13 = .ok (.invokevirtual 111, 3) := by decide +kernel
theorem dX12_readPerson_16 : decode cX12_readPerson 16 = .ok (.aload_n 0, 1) := by decide +kernel
theorem dX12_readPerson_17 : decode cX12_readPerson 17 = .ok (.iconst 1, 1) := by decide +kernel
theorem dX12_readPerson_18 : decode cX12_readPerson 18 = .ok (.invokevirtual 119, 3) := by decide +kernel
theorem dX12_readPerson_21 : decode cX12_readPerson 21 = .ok (.aload_n 0, 1) := by decide +kernel
theorem dX12_readPerson_22 : decode cX12_readPerson 22 = .ok (.invokevirtual 133, 3) := by decide +kernel
theorem dX12_readPerson_25 : decode cX12_readPerson 25 = .ok (.invokestatic 137, 3) := by decide +kernel
theorem dX12_readPerson_28 : decode cX12_readPerson 28 = .ok (.istore_n 1, 1) := by decide +kernel
theorem dX12_readPerson_29 : decode cX12_readPerson 29 = .ok (.aload_n 0, 1) := by decide +kernel
theorem dX12_readPerson_30 : decode cX12_readPerson 30 = .ok (.getfield 102, 3) := by decide +kernel
theorem dX12_readPerson_33 : decode cX12_readPerson 33 = .ok (.ifCond .ne 18, 3) := by decide +kernel
theorem dX12_readPerson_36 : decode cX12_readPerson 36 = .ok (.aload_n 0, 1) := by decide +kernel
theorem dX12_readPerson_37 : decode cX12_readPerson 37 = .ok (.iload_n 1, 1) := by decide +kernel
theorem dX12_readPerson_38 : decode cX12_readPerson 38 = .ok (.ldc 80, 2) := by decide +kernel
theorem dX12_readPerson_40 : decode cX12_readPerson 40 = .ok (.if_icmp .eq 7, 3) := by decide +kernel
theorem dX12_readPerson_43 : decode cX12_readPerson 43 = .ok (.iconst 1, 1) := by decide +kernel
theorem dX12_readPerson_44 : decode cX12_readPerson 44 = .ok (.goto 4, 3) := by decide +kernel
theorem dX12_readPerson_47 : decode cX12_readPerson 47 = .ok (.iconst 0, 1) := by decide +kernel
theorem dX12_readPerson_48 : decode cX12_readPerson 48 = .ok (.invokevirtual 119, 3) := by decide +kernel
theorem dX12_readPerson_51 : decode cX12_readPerson 51 = .ok (.aload_n 0, 1) := by decide +kernel
theorem dX12_readPerson_52 : decode cX12_readPerson 52 = .ok (.iconst 0, 1) := by decide +kernel
theorem dX12_readPerson_53 : decode cX12_readPerson 53 = .ok (.iconst 5, 1) := by decide +kernel
theorem dX12_readPerson_54 : decode cX12_readPerson 54 = .ok (.invokevirtual 141, 3) := by decide +kernel
theorem dX12_readPerson_57 : decode cX12_readPerson 57 = .ok (.istore_n 2, 1) := by decide +kernel
theorem dX12_readPerson_58 : decode cX12_readPerson 58 = .ok (.aload_n 0, 1) := by decide +kernel
theorem dX12_readPerson_59 : decode cX12_readPerson 59 = .ok (.iconst 0, 1) := by decide +kernel
theorem dX12_readPerson_60 : decode cX12_readPerson 60 = .ok (.bipush 9, 2) := by decide +kernel
theorem dX12_readPerson_62 : decode cX12_readPerson 62 = .ok (.invokevirtual 141, 3) := by decide +kernel
theorem dX12_readPerson_65 : decode cX12_readPerson 65 = .ok (.istore_n 3, 1) := by decide +kernel
theorem dX12_readPerson_66 : decode cX12_readPerson 66 = .ok (.aload_n 0, 1) := by decide +kernel
theorem dX12_readPerson_67 : decode cX12_readPerson 67 = .ok (.getfield 102, 3) := by decide +kernel
theorem dX12_readPerson_70 : decode cX12_readPerson 70 = .ok (.ifCond .ne 20, 3) := by decide +kernel
theorem dX12_readPerson_73 : decode cX12_readPerson 73 = .ok (.aload_n 0, 1) := by decide +kernel
theorem dX12_readPerson_74 : decode cX12_readPerson 74 = .ok (.aload_n 0, 1) := by decide +kernel
theorem dX12_readPerson_75 : decode cX12_readPerson 75 = .ok (.getfield 90, 3) := by decide +kernel
theorem dX12_readPerson_78 : decode cX12_readPerson 78 = .ok (.iconst 4, 1) := by decide +kernel
theorem dX12_readPerson_79 : decode cX12_readPerson 79 = .ok (.if_icmp .ne 7, 3) := by decide +kernel
theorem dX12_readPerson_82 : decode cX12_readPerson 82 = .ok (.iconst 1, 1) := by decide +kernel
theorem dX12_readPerson_83 : decode cX12_readPerson 83 = .ok (.goto 4, 3) := by decide +kernel
theorem dX12_readPerson_86 : decode cX12_readPerson 86 = .ok (.iconst 0, 1) := by decide +kernel
theorem dX12_readPerson_87 : decode cX12_readPerson 87 = .ok (.invokevirtual 119, 3) := by decide +kernel
theorem dX12_readPerson_90 : decode cX12_readPerson 90 = .ok (.aload_n 0, 1) := by decide +kernel
theorem dX12_readPerson_91 : decode cX12_readPerson 91 = .ok (.getfield 102, 3) := by decide +kernel
theorem dX12_readPerson_94 : decode cX12_readPerson 94 = .ok (.ifCond .ne 53, 3) := by decide +kernel
theorem dX12_readPerson_97 : decode cX12_readPerson 97 = .ok (.iconst 3, 1) := by decide +kernel
theorem dX12_readPerson_98 : decode cX12_readPerson 98 = .ok (.iconst 3, 1) := by decide +kernel
theorem dX12_readPerson_99 : decode cX12_readPerson 99 = .ok (.aload_n 0, 1) := by decide +kernel
theorem dX12_readPerson_100 : decode cX12_readPerson 100 = .ok (.getfield 22, 3) := by decide +kernel
theorem dX12_readPerson_103 : decode cX12_readPerson 103 = .ok (.iconst 0, 1) := by decide +kernel
theorem dX12_readPerson_104 : decode cX12_readPerson 104 = .ok (.iaload, 1) := by decide +kernel
theorem dX12_readPerson_105 : decode cX12_readPerson 105 = .ok (.imul, 1) := by decide +kernel
theorem dX12_readPerson_106 : decode cX12_readPerson 106 = .ok (.iadd, 1) := by decide +kernel
theorem dX12_readPerson_107 : decode cX12_readPerson 107 = .ok (.istore 4, 2) := by decide +kernel
theorem dX12_readPerson_109 : decode cX12_readPerson 109 = .ok (.aload_n 0, 1) := by decide +kernel
theorem dX12_readPerson_110 : decode cX12_readPerson 110 = .ok (.getfield 22, 3) := by decide +kernel
theorem dX12_readPerson_113 : decode cX12_readPerson 113 = .ok (.iload 4, 2) := by decide +kernel
theorem dX12_readPerson_115 : decode cX12_readPerson 115 = .ok (.iload_n 1, 1) := by decide +kernel
theorem dX12_readPerson_116 : decode cX12_readPerson 116 = .ok (.iastore, 1) := by decide +kernel
theorem dX12_readPerson_117 : decode cX12_readPerson 117 = .ok (.aload_n 0, 1) := by decide +kernel
theorem dX12_readPerson_118 : decode cX12_readPerson 118 = .ok (.getfield 22, 3) := by decide +kernel
theorem dX12_readPerson_121 : decode cX12_readPerson 121 = .ok (.iload 4, 2) := by decide +kernel
theorem dX12_readPerson_123 : decode cX12_readPerson 123 = .ok (.iconst 1, 1) := by decide +kernel
theorem dX12_readPerson_124 : decode cX12_readPerson 124 = .ok (.iadd, 1) := by decide +kernel
theorem dX12_readPerson_125 : decode cX12_readPerson 125 = .ok (.iload_n 2, 1) := by decide +kernel
theorem dX12_readPerson_126 : decode cX12_readPerson 126 = .ok (.iastore, 1) := by decide +kernel
theorem dX12_readPerson_127 : decode cX12_readPerson 127 = .ok (.aload_n 0, 1) := by decide +kernel
theorem dX12_readPerson_128 : decode cX12_readPerson 128 = .ok (.getfield 22, 3) := by decide +kernel
theorem dX12_readPerson_131 : decode cX12_readPerson 131 = .ok (.iload 4, 2) := by decide +kernel
theorem dX12_readPerson_133 : decode cX12_readPerson 133 = .ok (.iconst 2, 1) := by decide +kernel
theorem dX12_readPerson_134 : decode cX12_readPerson 134 = .ok (.iadd, 1) := by decide +kernel
theorem dX12_readPerson_135 : decode cX12_readPerson 135 = .ok (.iload_n 3, 1) := by decide +kernel
theorem dX12_readPerson_136 : decode cX12_readPerson 136 = .ok (.iastore, 1) := by decide +kernel
theorem dX12_readPerson_137 : decode cX12_readPerson 137 = .ok (.aload_n 0, 1) := by decide +kernel
theorem dX12_readPerson_138 : decode cX12_readPerson 138 = .ok (.getfield 22, 3) := by decide +kernel
theorem dX12_readPerson_141 : decode cX12_readPerson 141 = .ok (.iconst 0, 1) := by decide +kernel
theorem dX12_readPerson_142 : decode cX12_readPerson 142 = .ok (.dup2, 1) := by decide +kernel
theorem dX12_readPerson_143 : decode cX12_readPerson 143 = .ok (.iaload, 1) := by decide +kernel
theorem dX12_readPerson_144 : decode cX12_readPerson 144 = .ok (.iconst 1, 1) := by decide +kernel
theorem dX12_readPerson_145 : decode cX12_readPerson 145 = .ok (.iadd, 1) := by decide +kernel
theorem dX12_readPerson_146 : decode cX12_readPerson 146 = .ok (.iastore, 1) := by decide +kernel
theorem dX12_readPerson_147 : decode cX12_readPerson 147 = .ok (.return_, 1) := by decide +kernel
theorem dX12_town_0 : decode cX12_town 0 = .ok (.aload_n 0, 1) := by decide +kernel
theorem dX12_town_1 : decode cX12_town 1 = .ok (.iconst 0, 1) := by decide +kernel
theorem dX12_town_2 : decode cX12_town 2 = .ok (.putfield 44, 3) := by decide +kernel
theorem dX12_town_5 : decode cX12_town 5 = .ok (.aload_n 0, 1) := by decide +kernel
theorem dX12_town_6 : decode cX12_town 6 = .ok (.invokevirtual 145, 3) := by decide +kernel
theorem dX12_town_9 : decode cX12_town 9 = .ok (.iconst 0, 1) := by decide +kernel
theorem dX12_town_10 : decode cX12_town 10 = .ok (.istore_n 1, 1) := by decide +kernel
theorem dX12_town_11 : decode cX12_town 11 = .ok (.iload_n 1, 1) := by decide +kernel
theorem dX12_town_12 : decode cX12_town 12 = .ok (.bipush 21, 2) := by decide +kernel
theorem dX12_town_14 : decode cX12_town 14 = .ok (.if_icmp .ge 16, 3) := by decide +kernel
theorem dX12_town_17 : decode cX12_town 17 = .ok (.aload_n 0, 1) := by decide +kernel
theorem dX12_town_18 : decode cX12_town 18 = .ok (.getfield 22, 3) := by decide +kernel
theorem dX12_town_21 : decode cX12_town 21 = .ok (.iload_n 1, 1) := by decide +kernel
theorem dX12_town_22 : decode cX12_town 22 = .ok (.iconst 0, 1) := by decide +kernel
theorem dX12_town_23 : decode cX12_town 23 = .ok (.iastore, 1) := by decide +kernel
theorem dX12_town_24 : decode cX12_town 24 = .ok (.iinc 1 1, 3) := by decide +kernel
theorem dX12_town_27 : decode cX12_town 27 = .ok (.goto (-16), 3) := by decide +kernel
theorem dX12_town_30 : decode cX12_town 30 = .ok (.aload_n 0, 1) := by decide +kernel
theorem dX12_town_31 : decode cX12_town 31 = .ok (.invokevirtual 133, 3) := by decide +kernel
theorem dX12_town_34 : decode cX12_town 34 = .ok (.ldc2_w 148, 3) := by decide +kernel
theorem dX12_town_37 : decode cX12_town 37 = .ok (.lcmp, 1) := by decide +kernel
theorem dX12_town_38 : decode cX12_town 38 = .ok (.ifCond .eq 8, 3) := by decide +kernel
theorem dX12_town_41 : decode cX12_town 41 = .ok (.aload_n 0, 1) := by decide +kernel
theorem dX12_town_42 : decode cX12_town 42 = .ok (.iconst 1, 1) := by decide +kernel
theorem dX12_town_43 : decode cX12_town 43 = .ok (.invokevirtual 111, 3) := by decide +kernel
theorem dX12_town_46 : decode cX12_town 46 = .ok (.aload_n 0, 1) := by decide +kernel
theorem dX12_town_47 : decode cX12_town 47 = .ok (.invokevirtual 133, 3) := by decide +kernel
theorem dX12_town_50 : decode cX12_town 50 = .ok (.ldc2_w 148, 3) := by decide +kernel
theorem dX12_town_53 : decode cX12_town 53 = .ok (.lcmp, 1) := by decide +kernel
theorem dX12_town_54 : decode cX12_town 54 = .ok (.ifCond .ne 10, 3) := by decide +kernel
theorem dX12_town_57 : decode cX12_town 57 = .ok (.aload_n 0, 1) := by decide +kernel
theorem dX12_town_58 : decode cX12_town 58 = .ok (.invokevirtual 150, 3) := by decide +kernel
theorem dX12_town_61 : decode cX12_town 61 = .ok (.goto (-15), 3) := by decide +kernel
theorem dX12_town_64 : decode cX12_town 64 = .ok (.aload_n 0, 1) := by decide +kernel
theorem dX12_town_65 : decode cX12_town 65 = .ok (.getfield 102, 3) := by decide +kernel
theorem dX12_town_68 : decode cX12_town 68 = .ok (.ifCond .ne 16, 3) := by decide +kernel
theorem dX12_town_71 : decode cX12_town 71 = .ok (.aload_n 0, 1) := by decide +kernel
theorem dX12_town_72 : decode cX12_town 72 = .ok (.getfield 90, 3) := by decide +kernel
theorem dX12_town_75 : decode cX12_town 75 = .ok (.iconst 1, 1) := by decide +kernel
theorem dX12_town_76 : decode cX12_town 76 = .ok (.if_icmp .eq 8, 3) := by decide +kernel
theorem dX12_town_79 : decode cX12_town 79 = .ok (.aload_n 0, 1) := by decide +kernel
theorem dX12_town_80 : decode cX12_town 80 = .ok (.iconst 1, 1) := by decide +kernel
theorem dX12_town_81 : decode cX12_town 81 = .ok (.invokevirtual 111, 3) := by decide +kernel
theorem dX12_town_84 : decode cX12_town 84 = .ok (.aload_n 0, 1) := by decide +kernel
theorem dX12_town_85 : decode cX12_town 85 = .ok (.getfield 102, 3) := by decide +kernel
theorem dX12_town_88 : decode cX12_town 88 = .ok (.ifCond .le 19, 3) := by decide +kernel
theorem dX12_town_91 : decode cX12_town 91 = .ok (.aload_n 0, 1) := by decide +kernel
theorem dX12_town_92 : decode cX12_town 92 = .ok (.aload_n 0, 1) := by decide +kernel
theorem dX12_town_93 : decode cX12_town 93 = .ok (.getfield 102, 3) := by decide +kernel
theorem dX12_town_96 : decode cX12_town 96 = .ok (.putfield 153, 3) := by decide +kernel
theorem dX12_town_99 : decode cX12_town 99 = .ok (.ldc 156, 2) := by decide +kernel
theorem dX12_town_101 : decode cX12_town 101 = .ok (.aload_n 0, 1) := by decide +kernel
theorem dX12_town_102 : decode cX12_town 102 = .ok (.getfield 108, 3) := by decide +kernel
theorem dX12_town_105 : decode cX12_town 105 = .ok (.isub, 1) := by decide +kernel
theorem dX12_town_106 : decode cX12_town 106 = .ok (.ireturn, 1) := by decide +kernel
theorem dX12_town_107 : decode cX12_town 107 = .ok (.aload_n 0, 1) := by decide +kernel
theorem dX12_town_108 : decode cX12_town 108 = .ok (.iconst 0, 1) := by decide +kernel
theorem dX12_town_109 : decode cX12_town 109 = .ok (.putfield 157, 3) := by decide +kernel
theorem dX12_town_112 : decode cX12_town 112 = .ok (.iconst 0, 1) := by decide +kernel
theorem dX12_town_113 : decode cX12_town 113 = .ok (.istore_n 1, 1) := by decide +kernel
theorem dX12_town_114 : decode cX12_town 114 = .ok (.iload_n 1, 1) := by decide +kernel
theorem dX12_town_115 : decode cX12_town 115 = .ok (.bipush 21, 2) := by decide +kernel
theorem dX12_town_117 : decode cX12_town 117 = .ok (.if_icmp .ge 21, 3) := by decide +kernel
theorem dX12_town_120 : decode cX12_town 120 = .ok (.aload_n 0, 1) := by decide +kernel
theorem dX12_town_121 : decode cX12_town 121 = .ok (.getfield 19, 3) := by decide +kernel
theorem dX12_town_124 : decode cX12_town 124 = .ok (.iload_n 1, 1) := by decide +kernel
theorem dX12_town_125 : decode cX12_town 125 = .ok (.aload_n 0, 1) := by decide +kernel
theorem dX12_town_126 : decode cX12_town 126 = .ok (.getfield 22, 3) := by decide +kernel
theorem dX12_town_129 : decode cX12_town 129 = .ok (.iload_n 1, 1) := by decide +kernel
theorem dX12_town_130 : decode cX12_town 130 = .ok (.iaload, 1) := by decide +kernel
theorem dX12_town_131 : decode cX12_town 131 = .ok (.iastore, 1) := by decide +kernel
theorem dX12_town_132 : decode cX12_town 132 = .ok (.iinc 1 1, 3) := by decide +kernel
theorem dX12_town_135 : decode cX12_town 135 = .ok (.goto (-21), 3) := by decide +kernel
theorem dX12_town_138 : decode cX12_town 138 = .ok (.aload_n 0, 1) := by decide +kernel
theorem dX12_town_139 : decode cX12_town 139 = .ok (.getfield 19, 3) := by decide +kernel
theorem dX12_town_142 : decode cX12_town 142 = .ok (.iconst 0, 1) := by decide +kernel
theorem dX12_town_143 : decode cX12_town 143 = .ok (.iaload, 1) := by decide +kernel
theorem dX12_town_144 : decode cX12_town 144 = .ok (.ireturn, 1) := by decide +kernel
theorem dX12_fault_0 : decode cX12_fault 0 = .ok (.aload_n 0, 1) := by decide +kernel
theorem dX12_fault_1 : decode cX12_fault 1 = .ok (.iconst 0, 1) := by decide +kernel
theorem dX12_fault_2 : decode cX12_fault 2 = .ok (.putfield 44, 3) := by decide +kernel
theorem dX12_fault_5 : decode cX12_fault 5 = .ok (.aload_n 0, 1) := by decide +kernel
theorem dX12_fault_6 : decode cX12_fault 6 = .ok (.getfield 153, 3) := by decide +kernel
theorem dX12_fault_9 : decode cX12_fault 9 = .ok (.ireturn, 1) := by decide +kernel
theorem dX12_isThere_0 : decode cX12_isThere 0 = .ok (.aload_n 0, 1) := by decide +kernel
theorem dX12_isThere_1 : decode cX12_isThere 1 = .ok (.getfield 19, 3) := by decide +kernel
theorem dX12_isThere_4 : decode cX12_isThere 4 = .ok (.iconst 0, 1) := by decide +kernel
theorem dX12_isThere_5 : decode cX12_isThere 5 = .ok (.iaload, 1) := by decide +kernel
theorem dX12_isThere_6 : decode cX12_isThere 6 = .ok (.ifCond .le 7, 3) := by decide +kernel
theorem dX12_isThere_9 : decode cX12_isThere 9 = .ok (.iconst 1, 1) := by decide +kernel
theorem dX12_isThere_10 : decode cX12_isThere 10 = .ok (.goto 4, 3) := by decide +kernel
theorem dX12_isThere_13 : decode cX12_isThere 13 = .ok (.iconst 0, 1) := by decide +kernel
theorem dX12_isThere_14 : decode cX12_isThere 14 = .ok (.ireturn, 1) := by decide +kernel
theorem dX12_isPerson_0 : decode cX12_isPerson 0 = .ok (.iload_n 1, 1) := by decide +kernel
theorem dX12_isPerson_1 : decode cX12_isPerson 1 = .ok (.i2l, 1) := by decide +kernel
theorem dX12_isPerson_2 : decode cX12_isPerson 2 = .ok (.lconst 0, 1) := by decide +kernel
theorem dX12_isPerson_3 : decode cX12_isPerson 3 = .ok (.aload_n 0, 1) := by decide +kernel
theorem dX12_isPerson_4 : decode cX12_isPerson 4 = .ok (.getfield 19, 3) := by decide +kernel
theorem dX12_isPerson_7 : decode cX12_isPerson 7 = .ok (.iconst 0, 1) := by decide +kernel
theorem dX12_isPerson_8 : decode cX12_isPerson 8 = .ok (.iaload, 1) := by decide +kernel
theorem dX12_isPerson_9 : decode cX12_isPerson 9 = .ok (.iconst 1, 1) := by decide +kernel
theorem dX12_isPerson_10 : decode cX12_isPerson 10 = .ok (.isub, 1) := by decide +kernel
theorem dX12_isPerson_11 : decode cX12_isPerson 11 = .ok (.i2l, 1) := by decide +kernel
theorem dX12_isPerson_12 : decode cX12_isPerson 12 = .ok (.invokestatic 54, 3) := by decide +kernel
theorem dX12_isPerson_15 : decode cX12_isPerson 15 = .ok (.ireturn, 1) := by decide +kernel
theorem dX12_all_0 : decode cX12_all 0 = .ok (.iconst 1, 1) := by decide +kernel
theorem dX12_all_1 : decode cX12_all 1 = .ok (.aload_n 0, 1) := by decide +kernel
theorem dX12_all_2 : decode cX12_all 2 = .ok (.getfield 19, 3) := by decide +kernel
theorem dX12_all_5 : decode cX12_all 5 = .ok (.iconst 0, 1) := by decide +kernel
theorem dX12_all_6 : decode cX12_all 6 = .ok (.iaload, 1) := by decide +kernel
theorem dX12_all_7 : decode cX12_all 7 = .ok (.ishl, 1) := by decide +kernel
theorem dX12_all_8 : decode cX12_all 8 = .ok (.iconst 1, 1) := by decide +kernel
theorem dX12_all_9 : decode cX12_all 9 = .ok (.isub, 1) := by decide +kernel
theorem dX12_all_10 : decode cX12_all 10 = .ok (.ireturn, 1) := by decide +kernel
theorem dX12_isSet_0 : decode cX12_isSet 0 = .ok (.iload_n 1, 1) := by decide +kernel
theorem dX12_isSet_1 : decode cX12_isSet 1 = .ok (.i2l, 1) := by decide +kernel
theorem dX12_isSet_2 : decode cX12_isSet 2 = .ok (.lconst 0, 1) := by decide +kernel
theorem dX12_isSet_3 : decode cX12_isSet 3 = .ok (.aload_n 0, 1) := by decide +kernel
theorem dX12_isSet_4 : decode cX12_isSet 4 = .ok (.invokevirtual 160, 3) := by decide +kernel
theorem dX12_isSet_7 : decode cX12_isSet 7 = .ok (.i2l, 1) := by decide +kernel
theorem dX12_isSet_8 : decode cX12_isSet 8 = .ok (.invokestatic 54, 3) := by decide +kernel
theorem dX12_isSet_11 : decode cX12_isSet 11 = .ok (.ireturn, 1) := by decide +kernel
theorem dX12_of_0 : decode cX12_of 0 = .ok (.aload_n 0, 1) := by decide +kernel
theorem dX12_of_1 : decode cX12_of 1 = .ok (.getfield 19, 3) := by decide +kernel
theorem dX12_of_4 : decode cX12_of 4 = .ok (.iconst 3, 1) := by decide +kernel
theorem dX12_of_5 : decode cX12_of 5 = .ok (.iconst 3, 1) := by decide +kernel
theorem dX12_of_6 : decode cX12_of 6 = .ok (.iload_n 1, 1) := by decide +kernel
theorem dX12_of_7 : decode cX12_of 7 = .ok (.imul, 1) := by decide +kernel
theorem dX12_of_8 : decode cX12_of 8 = .ok (.iadd, 1) := by decide +kernel
theorem dX12_of_9 : decode cX12_of 9 = .ok (.iload_n 2, 1) := by decide +kernel
theorem dX12_of_10 : decode cX12_of 10 = .ok (.iadd, 1) := by decide +kernel
theorem dX12_of_11 : decode cX12_of 11 = .ok (.iaload, 1) := by decide +kernel
theorem dX12_of_12 : decode cX12_of 12 = .ok (.ireturn, 1) := by decide +kernel
theorem dX12_bits_0 : decode cX12_bits 0 = .ok (.iconst 0, 1) := by decide +kernel
theorem dX12_bits_1 : decode cX12_bits 1 = .ok (.istore_n 1, 1) := by decide +kernel
theorem dX12_bits_2 : decode cX12_bits 2 = .ok (.iconst 0, 1) := by decide +kernel
theorem dX12_bits_3 : decode cX12_bits 3 = .ok (.istore_n 2, 1) := by decide +kernel
theorem dX12_bits_4 : decode cX12_bits 4 = .ok (.iload_n 2, 1) := by decide +kernel
theorem dX12_bits_5 : decode cX12_bits 5 = .ok (.bipush 6, 2) := by decide +kernel
theorem dX12_bits_7 : decode cX12_bits 7 = .ok (.if_icmp .ge 17, 3) := by decide +kernel
theorem dX12_bits_10 : decode cX12_bits 10 = .ok (.iload_n 1, 1) := by decide +kernel
theorem dX12_bits_11 : decode cX12_bits 11 = .ok (.iload_n 0, 1) := by decide +kernel
theorem dX12_bits_12 : decode cX12_bits 12 = .ok (.iload_n 2, 1) := by decide +kernel
theorem dX12_bits_13 : decode cX12_bits 13 = .ok (.ishr, 1) := by decide +kernel
theorem dX12_bits_14 : decode cX12_bits 14 = .ok (.iconst 1, 1) := by decide +kernel
theorem dX12_bits_15 : decode cX12_bits 15 = .ok (.iand, 1) := by decide +kernel
theorem dX12_bits_16 : decode cX12_bits 16 = .ok (.iadd, 1) := by decide +kernel
theorem dX12_bits_17 : decode cX12_bits 17 = .ok (.istore_n 1, 1) := by decide +kernel
theorem dX12_bits_18 : decode cX12_bits 18 = .ok (.iinc 2 1, 3) := by decide +kernel
theorem dX12_bits_21 : decode cX12_bits 21 = .ok (.goto (-17), 3) := by decide +kernel
theorem dX12_bits_24 : decode cX12_bits 24 = .ok (.iload_n 1, 1) := by decide +kernel
theorem dX12_bits_25 : decode cX12_bits 25 = .ok (.ireturn, 1) := by decide +kernel
theorem dX12_doesIt_0 : decode cX12_doesIt 0 = .ok (.iload_n 2, 1) := by decide +kernel
theorem dX12_doesIt_1 : decode cX12_doesIt 1 = .ok (.aload_n 0, 1) := by decide +kernel
theorem dX12_doesIt_2 : decode cX12_doesIt 2 = .ok (.iload_n 1, 1) := by decide +kernel
theorem dX12_doesIt_3 : decode cX12_doesIt 3 = .ok (.iconst 1, 1) := by decide +kernel
theorem dX12_doesIt_4 : decode cX12_doesIt 4 = .ok (.invokevirtual 163, 3) := by decide +kernel
theorem dX12_doesIt_7 : decode cX12_doesIt 7 = .ok (.ishr, 1) := by decide +kernel
theorem dX12_doesIt_8 : decode cX12_doesIt 8 = .ok (.iconst 1, 1) := by decide +kernel
theorem dX12_doesIt_9 : decode cX12_doesIt 9 = .ok (.iand, 1) := by decide +kernel
theorem dX12_doesIt_10 : decode cX12_doesIt 10 = .ok (.iconst 1, 1) := by decide +kernel
theorem dX12_doesIt_11 : decode cX12_doesIt 11 = .ok (.if_icmp .ne 7, 3) := by decide +kernel
theorem dX12_doesIt_14 : decode cX12_doesIt 14 = .ok (.iconst 1, 1) := by decide +kernel
theorem dX12_doesIt_15 : decode cX12_doesIt 15 = .ok (.goto 4, 3) := by decide +kernel
theorem dX12_doesIt_18 : decode cX12_doesIt 18 = .ok (.iconst 0, 1) := by decide +kernel
theorem dX12_doesIt_19 : decode cX12_doesIt 19 = .ok (.istore 4, 2) := by decide +kernel
theorem dX12_doesIt_21 : decode cX12_doesIt 21 = .ok (.aload_n 0, 1) := by decide +kernel
theorem dX12_doesIt_22 : decode cX12_doesIt 22 = .ok (.iload_n 1, 1) := by decide +kernel
theorem dX12_doesIt_23 : decode cX12_doesIt 23 = .ok (.iconst 0, 1) := by decide +kernel
theorem dX12_doesIt_24 : decode cX12_doesIt 24 = .ok (.invokevirtual 163, 3) := by decide +kernel
theorem dX12_doesIt_27 : decode cX12_doesIt 27 = .ok (.tableswitch 84 2 5 #[29, 84, 40, 59], 29) := by decide +kernel
theorem dX12_doesIt_56 : decode cX12_doesIt 56 = .ok (.iload 4, 2) := by decide +kernel
theorem dX12_doesIt_58 : decode cX12_doesIt 58 = .ok (.ifCond .ne 7, 3) := by decide +kernel
theorem dX12_doesIt_61 : decode cX12_doesIt 61 = .ok (.iconst 1, 1) := by decide +kernel
theorem dX12_doesIt_62 : decode cX12_doesIt 62 = .ok (.goto 4, 3) := by decide +kernel
theorem dX12_doesIt_65 : decode cX12_doesIt 65 = .ok (.iconst 0, 1) := by decide +kernel
theorem dX12_doesIt_66 : decode cX12_doesIt 66 = .ok (.ireturn, 1) := by decide +kernel
theorem dX12_doesIt_67 : decode cX12_doesIt 67 = .ok (.iload_n 2, 1) := by decide +kernel
theorem dX12_doesIt_68 : decode cX12_doesIt 68 = .ok (.invokestatic 166, 3) := by decide +kernel
theorem dX12_doesIt_71 : decode cX12_doesIt 71 = .ok (.aload_n 0, 1) := by decide +kernel
theorem dX12_doesIt_72 : decode cX12_doesIt 72 = .ok (.iload_n 1, 1) := by decide +kernel
theorem dX12_doesIt_73 : decode cX12_doesIt 73 = .ok (.iconst 2, 1) := by decide +kernel
theorem dX12_doesIt_74 : decode cX12_doesIt 74 = .ok (.invokevirtual 163, 3) := by decide +kernel
theorem dX12_doesIt_77 : decode cX12_doesIt 77 = .ok (.if_icmp .lt 7, 3) := by decide +kernel
theorem dX12_doesIt_80 : decode cX12_doesIt 80 = .ok (.iconst 1, 1) := by decide +kernel
theorem dX12_doesIt_81 : decode cX12_doesIt 81 = .ok (.goto 4, 3) := by decide +kernel
theorem dX12_doesIt_84 : decode cX12_doesIt 84 = .ok (.iconst 0, 1) := by decide +kernel
theorem dX12_doesIt_85 : decode cX12_doesIt 85 = .ok (.ireturn, 1) := by decide +kernel
theorem dX12_doesIt_86 : decode cX12_doesIt 86 = .ok (.iload 4, 2) := by decide +kernel
theorem dX12_doesIt_88 : decode cX12_doesIt 88 = .ok (.iload_n 3, 1) := by decide +kernel
theorem dX12_doesIt_89 : decode cX12_doesIt 89 = .ok (.iload_n 1, 1) := by decide +kernel
theorem dX12_doesIt_90 : decode cX12_doesIt 90 = .ok (.ishr, 1) := by decide +kernel
theorem dX12_doesIt_91 : decode cX12_doesIt 91 = .ok (.iconst 1, 1) := by decide +kernel
theorem dX12_doesIt_92 : decode cX12_doesIt 92 = .ok (.iand, 1) := by decide +kernel
theorem dX12_doesIt_93 : decode cX12_doesIt 93 = .ok (.iconst 1, 1) := by decide +kernel
theorem dX12_doesIt_94 : decode cX12_doesIt 94 = .ok (.if_icmp .ne 7, 3) := by decide +kernel
theorem dX12_doesIt_97 : decode cX12_doesIt 97 = .ok (.iconst 1, 1) := by decide +kernel
theorem dX12_doesIt_98 : decode cX12_doesIt 98 = .ok (.goto 4, 3) := by decide +kernel
theorem dX12_doesIt_101 : decode cX12_doesIt 101 = .ok (.iconst 0, 1) := by decide +kernel
theorem dX12_doesIt_102 : decode cX12_doesIt 102 = .ok (.if_icmp .ne 7, 3) := by decide +kernel
theorem dX12_doesIt_105 : decode cX12_doesIt 105 = .ok (.iconst 1, 1) := by decide +kernel
theorem dX12_doesIt_106 : decode cX12_doesIt 106 = .ok (.goto 4, 3) := by decide +kernel
theorem dX12_doesIt_109 : decode cX12_doesIt 109 = .ok (.iconst 0, 1) := by decide +kernel
theorem dX12_doesIt_110 : decode cX12_doesIt 110 = .ok (.ireturn, 1) := by decide +kernel
theorem dX12_doesIt_111 : decode cX12_doesIt 111 = .ok (.iload 4, 2) := by decide +kernel
theorem dX12_doesIt_113 : decode cX12_doesIt 113 = .ok (.ireturn, 1) := by decide +kernel
theorem dX12_doneBy_0 : decode cX12_doneBy 0 = .ok (.iconst 0, 1) := by decide +kernel
theorem dX12_doneBy_1 : decode cX12_doneBy 1 = .ok (.istore 5, 2) := by decide +kernel
theorem dX12_doneBy_3 : decode cX12_doneBy 3 = .ok (.iconst 0, 1) := by decide +kernel
theorem dX12_doneBy_4 : decode cX12_doneBy 4 = .ok (.istore 6, 2) := by decide +kernel
theorem dX12_doneBy_6 : decode cX12_doneBy 6 = .ok (.iload 6, 2) := by decide +kernel
theorem dX12_doneBy_8 : decode cX12_doneBy 8 = .ok (.aload_n 0, 1) := by decide +kernel
theorem dX12_doneBy_9 : decode cX12_doneBy 9 = .ok (.getfield 19, 3) := by decide +kernel
theorem dX12_doneBy_12 : decode cX12_doneBy 12 = .ok (.iconst 0, 1) := by decide +kernel
theorem dX12_doneBy_13 : decode cX12_doneBy 13 = .ok (.iaload, 1) := by decide +kernel
theorem dX12_doneBy_14 : decode cX12_doneBy 14 = .ok (.if_icmp .ge 71, 3) := by decide +kernel
theorem dX12_doneBy_17 : decode cX12_doneBy 17 = .ok (.aload_n 0, 1) := by decide +kernel
theorem dX12_doneBy_18 : decode cX12_doneBy 18 = .ok (.iload 6, 2) := by decide +kernel
theorem dX12_doneBy_20 : decode cX12_doneBy 20 = .ok (.iload_n 1, 1) := by decide +kernel
theorem dX12_doneBy_21 : decode cX12_doneBy 21 = .ok (.iload_n 2, 1) := by decide +kernel
theorem dX12_doneBy_22 : decode cX12_doneBy 22 = .ok (.invokevirtual 169, 3) := by decide +kernel
theorem dX12_doneBy_25 : decode cX12_doneBy 25 = .ok (.istore 7, 2) := by decide +kernel
theorem dX12_doneBy_27 : decode cX12_doneBy 27 = .ok (.iload 6, 2) := by decide +kernel
theorem dX12_doneBy_29 : decode cX12_doneBy 29 = .ok (.iload_n 3, 1) := by decide +kernel
theorem dX12_doneBy_30 : decode cX12_doneBy 30 = .ok (.if_icmp .ne 31, 3) := by decide +kernel
theorem dX12_doneBy_33 : decode cX12_doneBy 33 = .ok (.iload 4, 2) := by decide +kernel
theorem dX12_doneBy_35 : decode cX12_doneBy 35 = .ok (.iconst 1, 1) := by decide +kernel
theorem dX12_doneBy_36 : decode cX12_doneBy 36 = .ok (.if_icmp .eq 18, 3) := by decide +kernel
theorem dX12_doneBy_39 : decode cX12_doneBy 39 = .ok (.iload 4, 2) := by decide +kernel
theorem dX12_doneBy_41 : decode cX12_doneBy 41 = .ok (.ifCond .ne 17, 3) := by decide +kernel
theorem dX12_doneBy_44 : decode cX12_doneBy 44 = .ok (.iload_n 1, 1) := by decide +kernel
theorem dX12_doneBy_45 : decode cX12_doneBy 45 = .ok (.iload 6, 2) := by decide +kernel
theorem dX12_doneBy_47 : decode cX12_doneBy 47 = .ok (.ishr, 1) := by decide +kernel
theorem dX12_doneBy_48 : decode cX12_doneBy 48 = .ok (.iconst 1, 1) := by decide +kernel
theorem dX12_doneBy_49 : decode cX12_doneBy 49 = .ok (.iand, 1) := by decide +kernel
theorem dX12_doneBy_50 : decode cX12_doneBy 50 = .ok (.iconst 1, 1) := by decide +kernel
theorem dX12_doneBy_51 : decode cX12_doneBy 51 = .ok (.if_icmp .ne 7, 3) := by decide +kernel
theorem dX12_doneBy_54 : decode cX12_doneBy 54 = .ok (.iconst 1, 1) := by decide +kernel
theorem dX12_doneBy_55 : decode cX12_doneBy 55 = .ok (.goto 4, 3) := by decide +kernel
theorem dX12_doneBy_58 : decode cX12_doneBy 58 = .ok (.iconst 0, 1) := by decide +kernel
theorem dX12_doneBy_59 : decode cX12_doneBy 59 = .ok (.istore 7, 2) := by decide +kernel
theorem dX12_doneBy_61 : decode cX12_doneBy 61 = .ok (.iload 5, 2) := by decide +kernel
theorem dX12_doneBy_63 : decode cX12_doneBy 63 = .ok (.iload 7, 2) := by decide +kernel
theorem dX12_doneBy_65 : decode cX12_doneBy 65 = .ok (.ifCond .eq 10, 3) := by decide +kernel
theorem dX12_doneBy_68 : decode cX12_doneBy 68 = .ok (.iconst 1, 1) := by decide +kernel
theorem dX12_doneBy_69 : decode cX12_doneBy 69 = .ok (.iload 6, 2) := by decide +kernel
theorem dX12_doneBy_71 : decode cX12_doneBy 71 = .ok (.ishl, 1) := by decide +kernel
theorem dX12_doneBy_72 : decode cX12_doneBy 72 = .ok (.goto 4, 3) := by decide +kernel
theorem dX12_doneBy_75 : decode cX12_doneBy 75 = .ok (.iconst 0, 1) := by decide +kernel
theorem dX12_doneBy_76 : decode cX12_doneBy 76 = .ok (.ior, 1) := by decide +kernel
theorem dX12_doneBy_77 : decode cX12_doneBy 77 = .ok (.istore 5, 2) := by decide +kernel
theorem dX12_doneBy_79 : decode cX12_doneBy 79 = .ok (.iinc 6 1, 3) := by decide +kernel
theorem dX12_doneBy_82 : decode cX12_doneBy 82 = .ok (.goto (-76), 3) := by decide +kernel
theorem dX12_doneBy_85 : decode cX12_doneBy 85 = .ok (.iload 5, 2) := by decide +kernel
theorem dX12_doneBy_87 : decode cX12_doneBy 87 = .ok (.ireturn, 1) := by decide +kernel
theorem dX12_isAgreed_0 : decode cX12_isAgreed 0 = .ok (.aload_n 0, 1) := by decide +kernel
theorem dX12_isAgreed_1 : decode cX12_isAgreed 1 = .ok (.iload_n 1, 1) := by decide +kernel
theorem dX12_isAgreed_2 : decode cX12_isAgreed 2 = .ok (.iload_n 2, 1) := by decide +kernel
theorem dX12_isAgreed_3 : decode cX12_isAgreed 3 = .ok (.iconst (-1), 1) := by decide +kernel
theorem dX12_isAgreed_4 : decode cX12_isAgreed 4 = .ok (.iconst 0, 1) := by decide +kernel
theorem dX12_isAgreed_5 : decode cX12_isAgreed 5 = .ok (.invokevirtual 173, 3) := by decide +kernel
theorem dX12_isAgreed_8 : decode cX12_isAgreed 8 = .ok (.iload_n 1, 1) := by decide +kernel
theorem dX12_isAgreed_9 : decode cX12_isAgreed 9 = .ok (.if_icmp .ne 7, 3) := by decide +kernel
theorem dX12_isAgreed_12 : decode cX12_isAgreed 12 = .ok (.iconst 1, 1) := by decide +kernel
theorem dX12_isAgreed_13 : decode cX12_isAgreed 13 = .ok (.goto 4, 3) := by decide +kernel
theorem dX12_isAgreed_16 : decode cX12_isAgreed 16 = .ok (.iconst 0, 1) := by decide +kernel
theorem dX12_isAgreed_17 : decode cX12_isAgreed 17 = .ok (.ireturn, 1) := by decide +kernel
theorem dX12_keep_0 : decode cX12_keep 0 = .ok (.aload_n 0, 1) := by decide +kernel
theorem dX12_keep_1 : decode cX12_keep 1 = .ok (.getfield 157, 3) := by decide +kernel
theorem dX12_keep_4 : decode cX12_keep 4 = .ok (.bipush 24, 2) := by decide +kernel
theorem dX12_keep_6 : decode cX12_keep 6 = .ok (.if_icmp .ne 43, 3) := by decide +kernel
theorem dX12_keep_9 : decode cX12_keep 9 = .ok (.iconst 0, 1) := by decide +kernel
theorem dX12_keep_10 : decode cX12_keep 10 = .ok (.istore_n 1, 1) := by decide +kernel
theorem dX12_keep_11 : decode cX12_keep 11 = .ok (.iload_n 1, 1) := by decide +kernel
theorem dX12_keep_12 : decode cX12_keep 12 = .ok (.sipush 483, 3) := by decide +kernel
theorem dX12_keep_15 : decode cX12_keep 15 = .ok (.if_icmp .ge 24, 3) := by decide +kernel
theorem dX12_keep_18 : decode cX12_keep 18 = .ok (.aload_n 0, 1) := by decide +kernel
theorem dX12_keep_19 : decode cX12_keep 19 = .ok (.getfield 25, 3) := by decide +kernel
theorem dX12_keep_22 : decode cX12_keep 22 = .ok (.iload_n 1, 1) := by decide +kernel
theorem dX12_keep_23 : decode cX12_keep 23 = .ok (.aload_n 0, 1) := by decide +kernel
theorem dX12_keep_24 : decode cX12_keep 24 = .ok (.getfield 25, 3) := by decide +kernel
theorem dX12_keep_27 : decode cX12_keep 27 = .ok (.iload_n 1, 1) := by decide +kernel
theorem dX12_keep_28 : decode cX12_keep 28 = .ok (.bipush 21, 2) := by decide +kernel
theorem dX12_keep_30 : decode cX12_keep 30 = .ok (.iadd, 1) := by decide +kernel
theorem dX12_keep_31 : decode cX12_keep 31 = .ok (.iaload, 1) := by decide +kernel
theorem dX12_keep_32 : decode cX12_keep 32 = .ok (.iastore, 1) := by decide +kernel
theorem dX12_keep_33 : decode cX12_keep 33 = .ok (.iinc 1 1, 3) := by decide +kernel
theorem dX12_keep_36 : decode cX12_keep 36 = .ok (.goto (-25), 3) := by decide +kernel
theorem dX12_keep_39 : decode cX12_keep 39 = .ok (.aload_n 0, 1) := by decide +kernel
theorem dX12_keep_40 : decode cX12_keep 40 = .ok (.dup, 1) := by decide +kernel
theorem dX12_keep_41 : decode cX12_keep 41 = .ok (.getfield 157, 3) := by decide +kernel
theorem dX12_keep_44 : decode cX12_keep 44 = .ok (.iconst 1, 1) := by decide +kernel
theorem dX12_keep_45 : decode cX12_keep 45 = .ok (.isub, 1) := by decide +kernel
theorem dX12_keep_46 : decode cX12_keep 46 = .ok (.putfield 157, 3) := by decide +kernel
theorem dX12_keep_49 : decode cX12_keep 49 = .ok (.iconst 0, 1) := by decide +kernel
theorem dX12_keep_50 : decode cX12_keep 50 = .ok (.istore_n 1, 1) := by decide +kernel
theorem dX12_keep_51 : decode cX12_keep 51 = .ok (.iload_n 1, 1) := by decide +kernel
theorem dX12_keep_52 : decode cX12_keep 52 = .ok (.bipush 21, 2) := by decide +kernel
theorem dX12_keep_54 : decode cX12_keep 54 = .ok (.if_icmp .ge 29, 3) := by decide +kernel
theorem dX12_keep_57 : decode cX12_keep 57 = .ok (.aload_n 0, 1) := by decide +kernel
theorem dX12_keep_58 : decode cX12_keep 58 = .ok (.getfield 25, 3) := by decide +kernel
theorem dX12_keep_61 : decode cX12_keep 61 = .ok (.bipush 21, 2) := by decide +kernel
theorem dX12_keep_63 : decode cX12_keep 63 = .ok (.aload_n 0, 1) := by decide +kernel
theorem dX12_keep_64 : decode cX12_keep 64 = .ok (.getfield 157, 3) := by decide +kernel
theorem dX12_keep_67 : decode cX12_keep 67 = .ok (.imul, 1) := by decide +kernel
theorem dX12_keep_68 : decode cX12_keep 68 = .ok (.iload_n 1, 1) := by decide +kernel
theorem dX12_keep_69 : decode cX12_keep 69 = .ok (.iadd, 1) := by decide +kernel
theorem dX12_keep_70 : decode cX12_keep 70 = .ok (.aload_n 0, 1) := by decide +kernel
theorem dX12_keep_71 : decode cX12_keep 71 = .ok (.getfield 19, 3) := by decide +kernel
theorem dX12_keep_74 : decode cX12_keep 74 = .ok (.iload_n 1, 1) := by decide +kernel
theorem dX12_keep_75 : decode cX12_keep 75 = .ok (.iaload, 1) := by decide +kernel
theorem dX12_keep_76 : decode cX12_keep 76 = .ok (.iastore, 1) := by decide +kernel
theorem dX12_keep_77 : decode cX12_keep 77 = .ok (.iinc 1 1, 3) := by decide +kernel
theorem dX12_keep_80 : decode cX12_keep 80 = .ok (.goto (-29), 3) := by decide +kernel
theorem dX12_keep_83 : decode cX12_keep 83 = .ok (.aload_n 0, 1) := by decide +kernel
theorem dX12_keep_84 : decode cX12_keep 84 = .ok (.dup, 1) := by decide +kernel
theorem dX12_keep_85 : decode cX12_keep 85 = .ok (.getfield 157, 3) := by decide +kernel
theorem dX12_keep_88 : decode cX12_keep 88 = .ok (.iconst 1, 1) := by decide +kernel
theorem dX12_keep_89 : decode cX12_keep 89 = .ok (.iadd, 1) := by decide +kernel
theorem dX12_keep_90 : decode cX12_keep 90 = .ok (.putfield 157, 3) := by decide +kernel
theorem dX12_keep_93 : decode cX12_keep 93 = .ok (.return_, 1) := by decide +kernel
theorem dX12_goDay_0 : decode cX12_goDay 0 = .ok (.aload_n 0, 1) := by decide +kernel
theorem dX12_goDay_1 : decode cX12_goDay 1 = .ok (.invokevirtual 177, 3) := by decide +kernel
theorem dX12_goDay_4 : decode cX12_goDay 4 = .ok (.aload_n 0, 1) := by decide +kernel
theorem dX12_goDay_5 : decode cX12_goDay 5 = .ok (.getfield 19, 3) := by decide +kernel
theorem dX12_goDay_8 : decode cX12_goDay 8 = .ok (.iconst 2, 1) := by decide +kernel
theorem dX12_goDay_9 : decode cX12_goDay 9 = .ok (.iload_n 1, 1) := by decide +kernel
theorem dX12_goDay_10 : decode cX12_goDay 10 = .ok (.iastore, 1) := by decide +kernel
theorem dX12_goDay_11 : decode cX12_goDay 11 = .ok (.aload_n 0, 1) := by decide +kernel
theorem dX12_goDay_12 : decode cX12_goDay 12 = .ok (.getfield 19, 3) := by decide +kernel
theorem dX12_goDay_15 : decode cX12_goDay 15 = .ok (.iconst 1, 1) := by decide +kernel
theorem dX12_goDay_16 : decode cX12_goDay 16 = .ok (.dup2, 1) := by decide +kernel
theorem dX12_goDay_17 : decode cX12_goDay 17 = .ok (.iaload, 1) := by decide +kernel
theorem dX12_goDay_18 : decode cX12_goDay 18 = .ok (.iconst 1, 1) := by decide +kernel
theorem dX12_goDay_19 : decode cX12_goDay 19 = .ok (.iadd, 1) := by decide +kernel
theorem dX12_goDay_20 : decode cX12_goDay 20 = .ok (.iastore, 1) := by decide +kernel
theorem dX12_goDay_21 : decode cX12_goDay 21 = .ok (.return_, 1) := by decide +kernel
theorem dX12_post_0 : decode cX12_post 0 = .ok (.aload_n 0, 1) := by decide +kernel
theorem dX12_post_1 : decode cX12_post 1 = .ok (.iconst 0, 1) := by decide +kernel
theorem dX12_post_2 : decode cX12_post 2 = .ok (.putfield 44, 3) := by decide +kernel
theorem dX12_post_5 : decode cX12_post 5 = .ok (.aload_n 0, 1) := by decide +kernel
theorem dX12_post_6 : decode cX12_post 6 = .ok (.invokevirtual 180, 3) := by decide +kernel
theorem dX12_post_9 : decode cX12_post 9 = .ok (.ifCond .ne 6, 3) := by decide +kernel
theorem dX12_post_12 : decode cX12_post 12 = .ok (.ldc 184, 2) := by decide +kernel
theorem dX12_post_14 : decode cX12_post 14 = .ok (.ireturn, 1) := by decide +kernel
theorem dX12_post_15 : decode cX12_post 15 = .ok (.aload_n 0, 1) := by decide +kernel
theorem dX12_post_16 : decode cX12_post 16 = .ok (.iload_n 1, 1) := by decide +kernel
theorem dX12_post_17 : decode cX12_post 17 = .ok (.invokevirtual 185, 3) := by decide +kernel
theorem dX12_post_20 : decode cX12_post 20 = .ok (.ifCond .ne 6, 3) := by decide +kernel
theorem dX12_post_23 : decode cX12_post 23 = .ok (.ldc 64, 2) := by decide +kernel
theorem dX12_post_25 : decode cX12_post 25 = .ok (.ireturn, 1) := by decide +kernel
theorem dX12_post_26 : decode cX12_post 26 = .ok (.aload_n 0, 1) := by decide +kernel
theorem dX12_post_27 : decode cX12_post 27 = .ok (.iload_n 1, 1) := by decide +kernel
theorem dX12_post_28 : decode cX12_post 28 = .ok (.aload_n 0, 1) := by decide +kernel
theorem dX12_post_29 : decode cX12_post 29 = .ok (.getfield 19, 3) := by decide +kernel
theorem dX12_post_32 : decode cX12_post 32 = .ok (.iconst 2, 1) := by decide +kernel
theorem dX12_post_33 : decode cX12_post 33 = .ok (.iaload, 1) := by decide +kernel
theorem dX12_post_34 : decode cX12_post 34 = .ok (.invokevirtual 188, 3) := by decide +kernel
theorem dX12_post_37 : decode cX12_post 37 = .ok (.ifCond .ne 6, 3) := by decide +kernel
theorem dX12_post_40 : decode cX12_post 40 = .ok (.ldc 184, 2) := by decide +kernel
theorem dX12_post_42 : decode cX12_post 42 = .ok (.ireturn, 1) := by decide +kernel
theorem dX12_post_43 : decode cX12_post 43 = .ok (.aload_n 0, 1) := by decide +kernel
theorem dX12_post_44 : decode cX12_post 44 = .ok (.getfield 19, 3) := by decide +kernel
theorem dX12_post_47 : decode cX12_post 47 = .ok (.iconst 1, 1) := by decide +kernel
theorem dX12_post_48 : decode cX12_post 48 = .ok (.iaload, 1) := by decide +kernel
theorem dX12_post_49 : decode cX12_post 49 = .ok (.sipush 9999, 3) := by decide +kernel
theorem dX12_post_52 : decode cX12_post 52 = .ok (.if_icmp .ne 6, 3) := by decide +kernel
theorem dX12_post_55 : decode cX12_post 55 = .ok (.ldc 74, 2) := by decide +kernel
theorem dX12_post_57 : decode cX12_post 57 = .ok (.ireturn, 1) := by decide +kernel
theorem dX12_post_58 : decode cX12_post 58 = .ok (.aload_n 0, 1) := by decide +kernel
theorem dX12_post_59 : decode cX12_post 59 = .ok (.iload_n 1, 1) := by decide +kernel
theorem dX12_post_60 : decode cX12_post 60 = .ok (.invokevirtual 192, 3) := by decide +kernel
theorem dX12_post_63 : decode cX12_post 63 = .ok (.aload_n 0, 1) := by decide +kernel
theorem dX12_post_64 : decode cX12_post 64 = .ok (.getfield 19, 3) := by decide +kernel
theorem dX12_post_67 : decode cX12_post 67 = .ok (.iconst 1, 1) := by decide +kernel
theorem dX12_post_68 : decode cX12_post 68 = .ok (.iaload, 1) := by decide +kernel
theorem dX12_post_69 : decode cX12_post 69 = .ok (.ireturn, 1) := by decide +kernel
theorem dX12_lacks_0 : decode cX12_lacks 0 = .ok (.aload_n 0, 1) := by decide +kernel
theorem dX12_lacks_1 : decode cX12_lacks 1 = .ok (.getfield 7, 3) := by decide +kernel
theorem dX12_lacks_4 : decode cX12_lacks 4 = .ok (.iload_n 1, 1) := by decide +kernel
theorem dX12_lacks_5 : decode cX12_lacks 5 = .ok (.iaload, 1) := by decide +kernel
theorem dX12_lacks_6 : decode cX12_lacks 6 = .ok (.ifCond .ge 7, 3) := by decide +kernel
theorem dX12_lacks_9 : decode cX12_lacks 9 = .ok (.iconst 1, 1) := by decide +kernel
theorem dX12_lacks_10 : decode cX12_lacks 10 = .ok (.goto 28, 3) := by decide +kernel
theorem dX12_lacks_13 : decode cX12_lacks 13 = .ok (.iload_n 2, 1) := by decide +kernel
theorem dX12_lacks_14 : decode cX12_lacks 14 = .ok (.ifCond .lt 19, 3) := by decide +kernel
theorem dX12_lacks_17 : decode cX12_lacks 17 = .ok (.iload_n 2, 1) := by decide +kernel
theorem dX12_lacks_18 : decode cX12_lacks 18 = .ok (.i2l, 1) := by decide +kernel
theorem dX12_lacks_19 : decode cX12_lacks 19 = .ok (.iload_n 3, 1) := by decide +kernel
theorem dX12_lacks_20 : decode cX12_lacks 20 = .ok (.i2l, 1) := by decide +kernel
theorem dX12_lacks_21 : decode cX12_lacks 21 = .ok (.ladd, 1) := by decide +kernel
theorem dX12_lacks_22 : decode cX12_lacks 22 = .ok (.aload_n 0, 1) := by decide +kernel
theorem dX12_lacks_23 : decode cX12_lacks 23 = .ok (.getfield 13, 3) := by decide +kernel
theorem dX12_lacks_26 : decode cX12_lacks 26 = .ok (.iload_n 1, 1) := by decide +kernel
theorem dX12_lacks_27 : decode cX12_lacks 27 = .ok (.iaload, 1) := by decide +kernel
theorem dX12_lacks_28 : decode cX12_lacks 28 = .ok (.i2l, 1) := by decide +kernel
theorem dX12_lacks_29 : decode cX12_lacks 29 = .ok (.lcmp, 1) := by decide +kernel
theorem dX12_lacks_30 : decode cX12_lacks 30 = .ok (.ifCond .le 7, 3) := by decide +kernel
theorem dX12_lacks_33 : decode cX12_lacks 33 = .ok (.iconst 2, 1) := by decide +kernel
theorem dX12_lacks_34 : decode cX12_lacks 34 = .ok (.goto 4, 3) := by decide +kernel
theorem dX12_lacks_37 : decode cX12_lacks 37 = .ok (.iconst 0, 1) := by decide +kernel
theorem dX12_lacks_38 : decode cX12_lacks 38 = .ok (.ireturn, 1) := by decide +kernel
theorem dX12_areSets_0 : decode cX12_areSets 0 = .ok (.iconst 1, 1) := by decide +kernel
theorem dX12_areSets_1 : decode cX12_areSets 1 = .ok (.istore_n 3, 1) := by decide +kernel
theorem dX12_areSets_2 : decode cX12_areSets 2 = .ok (.iconst 0, 1) := by decide +kernel
theorem dX12_areSets_3 : decode cX12_areSets 3 = .ok (.istore 4, 2) := by decide +kernel
theorem dX12_areSets_5 : decode cX12_areSets 5 = .ok (.iload 4, 2) := by decide +kernel
theorem dX12_areSets_7 : decode cX12_areSets 7 = .ok (.iload_n 2, 1) := by decide +kernel
theorem dX12_areSets_8 : decode cX12_areSets 8 = .ok (.if_icmp .ge 35, 3) := by decide +kernel
theorem dX12_areSets_11 : decode cX12_areSets 11 = .ok (.iload_n 3, 1) := by decide +kernel
theorem dX12_areSets_12 : decode cX12_areSets 12 = .ok (.ifCond .eq 23, 3) := by decide +kernel
theorem dX12_areSets_15 : decode cX12_areSets 15 = .ok (.aload_n 0, 1) := by decide +kernel
theorem dX12_areSets_16 : decode cX12_areSets 16 = .ok (.aload_n 0, 1) := by decide +kernel
theorem dX12_areSets_17 : decode cX12_areSets 17 = .ok (.getfield 16, 3) := by decide +kernel
theorem dX12_areSets_20 : decode cX12_areSets 20 = .ok (.iload_n 1, 1) := by decide +kernel
theorem dX12_areSets_21 : decode cX12_areSets 21 = .ok (.iload 4, 2) := by decide +kernel
theorem dX12_areSets_23 : decode cX12_areSets 23 = .ok (.iadd, 1) := by decide +kernel
theorem dX12_areSets_24 : decode cX12_areSets 24 = .ok (.iaload, 1) := by decide +kernel
theorem dX12_areSets_25 : decode cX12_areSets 25 = .ok (.invokevirtual 185, 3) := by decide +kernel
theorem dX12_areSets_28 : decode cX12_areSets 28 = .ok (.ifCond .eq 7, 3) := by decide +kernel
theorem dX12_areSets_31 : decode cX12_areSets 31 = .ok (.iconst 1, 1) := by decide +kernel
theorem dX12_areSets_32 : decode cX12_areSets 32 = .ok (.goto 4, 3) := by decide +kernel
theorem dX12_areSets_35 : decode cX12_areSets 35 = .ok (.iconst 0, 1) := by decide +kernel
theorem dX12_areSets_36 : decode cX12_areSets 36 = .ok (.istore_n 3, 1) := by decide +kernel
theorem dX12_areSets_37 : decode cX12_areSets 37 = .ok (.iinc 4 1, 3) := by decide +kernel
theorem dX12_areSets_40 : decode cX12_areSets 40 = .ok (.goto (-35), 3) := by decide +kernel
theorem dX12_areSets_43 : decode cX12_areSets 43 = .ok (.iload_n 3, 1) := by decide +kernel
theorem dX12_areSets_44 : decode cX12_areSets 44 = .ok (.ireturn, 1) := by decide +kernel
theorem dX12_posts_0 : decode cX12_posts 0 = .ok (.aload_n 0, 1) := by decide +kernel
theorem dX12_posts_1 : decode cX12_posts 1 = .ok (.iconst 0, 1) := by decide +kernel
theorem dX12_posts_2 : decode cX12_posts 2 = .ok (.putfield 44, 3) := by decide +kernel
theorem dX12_posts_5 : decode cX12_posts 5 = .ok (.aload_n 0, 1) := by decide +kernel
theorem dX12_posts_6 : decode cX12_posts 6 = .ok (.invokevirtual 180, 3) := by decide +kernel
theorem dX12_posts_9 : decode cX12_posts 9 = .ok (.ifCond .ne 6, 3) := by decide +kernel
theorem dX12_posts_12 : decode cX12_posts 12 = .ok (.ldc 184, 2) := by decide +kernel
theorem dX12_posts_14 : decode cX12_posts 14 = .ok (.ireturn, 1) := by decide +kernel
theorem dX12_posts_15 : decode cX12_posts 15 = .ok (.iload_n 1, 1) := by decide +kernel
theorem dX12_posts_16 : decode cX12_posts 16 = .ok (.invokestatic 58, 3) := by decide +kernel
theorem dX12_posts_19 : decode cX12_posts 19 = .ok (.ifCond .eq 15, 3) := by decide +kernel
theorem dX12_posts_22 : decode cX12_posts 22 = .ok (.iload_n 3, 1) := by decide +kernel
theorem dX12_posts_23 : decode cX12_posts 23 = .ok (.i2l, 1) := by decide +kernel
theorem dX12_posts_24 : decode cX12_posts 24 = .ok (.lconst 1, 1) := by decide +kernel
theorem dX12_posts_25 : decode cX12_posts 25 = .ok (.ldc2_w 195, 3) := by decide +kernel
theorem dX12_posts_28 : decode cX12_posts 28 = .ok (.invokestatic 54, 3) := by decide +kernel
theorem dX12_posts_31 : decode cX12_posts 31 = .ok (.ifCond .ne 6, 3) := by decide +kernel
theorem dX12_posts_34 : decode cX12_posts 34 = .ok (.ldc 64, 2) := by decide +kernel
theorem dX12_posts_36 : decode cX12_posts 36 = .ok (.ireturn, 1) := by decide +kernel
theorem dX12_posts_37 : decode cX12_posts 37 = .ok (.aload_n 0, 1) := by decide +kernel
theorem dX12_posts_38 : decode cX12_posts 38 = .ok (.iload_n 1, 1) := by decide +kernel
theorem dX12_posts_39 : decode cX12_posts 39 = .ok (.iload_n 2, 1) := by decide +kernel
theorem dX12_posts_40 : decode cX12_posts 40 = .ok (.iload_n 3, 1) := by decide +kernel
theorem dX12_posts_41 : decode cX12_posts 41 = .ok (.invokevirtual 197, 3) := by decide +kernel
theorem dX12_posts_44 : decode cX12_posts 44 = .ok (.istore 4, 2) := by decide +kernel
theorem dX12_posts_46 : decode cX12_posts 46 = .ok (.iload 4, 2) := by decide +kernel
theorem dX12_posts_48 : decode cX12_posts 48 = .ok (.ifCond .le 10, 3) := by decide +kernel
theorem dX12_posts_51 : decode cX12_posts 51 = .ok (.aload_n 0, 1) := by decide +kernel
theorem dX12_posts_52 : decode cX12_posts 52 = .ok (.iload 4, 2) := by decide +kernel
theorem dX12_posts_54 : decode cX12_posts 54 = .ok (.invokevirtual 65, 3) := by decide +kernel
theorem dX12_posts_57 : decode cX12_posts 57 = .ok (.ireturn, 1) := by decide +kernel
theorem dX12_posts_58 : decode cX12_posts 58 = .ok (.bipush 40, 2) := by decide +kernel
theorem dX12_posts_60 : decode cX12_posts 60 = .ok (.iload_n 1, 1) := by decide +kernel
theorem dX12_posts_61 : decode cX12_posts 61 = .ok (.imul, 1) := by decide +kernel
theorem dX12_posts_62 : decode cX12_posts 62 = .ok (.iload_n 2, 1) := by decide +kernel
theorem dX12_posts_63 : decode cX12_posts 63 = .ok (.iadd, 1) := by decide +kernel
theorem dX12_posts_64 : decode cX12_posts 64 = .ok (.istore 5, 2) := by decide +kernel
theorem dX12_posts_66 : decode cX12_posts 66 = .ok (.aload_n 0, 1) := by decide +kernel
theorem dX12_posts_67 : decode cX12_posts 67 = .ok (.iload 5, 2) := by decide +kernel
theorem dX12_posts_69 : decode cX12_posts 69 = .ok (.iload_n 3, 1) := by decide +kernel
theorem dX12_posts_70 : decode cX12_posts 70 = .ok (.invokevirtual 201, 3) := by decide +kernel
theorem dX12_posts_73 : decode cX12_posts 73 = .ok (.ifCond .ne 6, 3) := by decide +kernel
theorem dX12_posts_76 : decode cX12_posts 76 = .ok (.ldc 64, 2) := by decide +kernel
theorem dX12_posts_78 : decode cX12_posts 78 = .ok (.ireturn, 1) := by decide +kernel
theorem dX12_posts_79 : decode cX12_posts 79 = .ok (.aload_n 0, 1) := by decide +kernel
theorem dX12_posts_80 : decode cX12_posts 80 = .ok (.getfield 19, 3) := by decide +kernel
theorem dX12_posts_83 : decode cX12_posts 83 = .ok (.iconst 1, 1) := by decide +kernel
theorem dX12_posts_84 : decode cX12_posts 84 = .ok (.iaload, 1) := by decide +kernel
theorem dX12_posts_85 : decode cX12_posts 85 = .ok (.iload_n 3, 1) := by decide +kernel
theorem dX12_posts_86 : decode cX12_posts 86 = .ok (.iadd, 1) := by decide +kernel
theorem dX12_posts_87 : decode cX12_posts 87 = .ok (.sipush 9999, 3) := by decide +kernel
theorem dX12_posts_90 : decode cX12_posts 90 = .ok (.if_icmp .le 6, 3) := by decide +kernel
theorem dX12_posts_93 : decode cX12_posts 93 = .ok (.ldc 74, 2) := by decide +kernel
theorem dX12_posts_95 : decode cX12_posts 95 = .ok (.ireturn, 1) := by decide +kernel
theorem dX12_posts_96 : decode cX12_posts 96 = .ok (.aload_n 0, 1) := by decide +kernel
theorem dX12_posts_97 : decode cX12_posts 97 = .ok (.iconst 0, 1) := by decide +kernel
theorem dX12_posts_98 : decode cX12_posts 98 = .ok (.putfield 48, 3) := by decide +kernel
theorem dX12_posts_101 : decode cX12_posts 101 = .ok (.iconst 0, 1) := by decide +kernel
theorem dX12_posts_102 : decode cX12_posts 102 = .ok (.istore 6, 2) := by decide +kernel
theorem dX12_posts_104 : decode cX12_posts 104 = .ok (.iload 6, 2) := by decide +kernel
theorem dX12_posts_106 : decode cX12_posts 106 = .ok (.iload_n 3, 1) := by decide +kernel
theorem dX12_posts_107 : decode cX12_posts 107 = .ok (.if_icmp .ge 46, 3) := by decide +kernel
theorem dX12_posts_110 : decode cX12_posts 110 = .ok (.aload_n 0, 1) := by decide +kernel
theorem dX12_posts_111 : decode cX12_posts 111 = .ok (.aload_n 0, 1) := by decide +kernel
theorem dX12_posts_112 : decode cX12_posts 112 = .ok (.getfield 16, 3) := by decide +kernel
theorem dX12_posts_115 : decode cX12_posts 115 = .ok (.iload 5, 2) := by decide +kernel
theorem dX12_posts_117 : decode cX12_posts 117 = .ok (.iload 6, 2) := by decide +kernel
theorem dX12_posts_119 : decode cX12_posts 119 = .ok (.iadd, 1) := by decide +kernel
theorem dX12_posts_120 : decode cX12_posts 120 = .ok (.iaload, 1) := by decide +kernel
theorem dX12_posts_121 : decode cX12_posts 121 = .ok (.aload_n 0, 1) := by decide +kernel
theorem dX12_posts_122 : decode cX12_posts 122 = .ok (.getfield 19, 3) := by decide +kernel
theorem dX12_posts_125 : decode cX12_posts 125 = .ok (.iconst 2, 1) := by decide +kernel
theorem dX12_posts_126 : decode cX12_posts 126 = .ok (.iaload, 1) := by decide +kernel
theorem dX12_posts_127 : decode cX12_posts 127 = .ok (.invokevirtual 188, 3) := by decide +kernel
theorem dX12_posts_130 : decode cX12_posts 130 = .ok (.ifCond .eq 23, 3) := by decide +kernel
theorem dX12_posts_133 : decode cX12_posts 133 = .ok (.aload_n 0, 1) := by decide +kernel
theorem dX12_posts_134 : decode cX12_posts 134 = .ok (.aload_n 0, 1) := by decide +kernel
theorem dX12_posts_135 : decode cX12_posts 135 = .ok (.getfield 16, 3) := by decide +kernel
theorem dX12_posts_138 : decode cX12_posts 138 = .ok (.iload 5, 2) := by decide +kernel
theorem dX12_posts_140 : decode cX12_posts 140 = .ok (.iload 6, 2) := by decide +kernel
theorem dX12_posts_142 : decode cX12_posts 142 = .ok (.iadd, 1) := by decide +kernel
theorem dX12_posts_143 : decode cX12_posts 143 = .ok (.iaload, 1) := by decide +kernel
theorem dX12_posts_144 : decode cX12_posts 144 = .ok (.invokevirtual 192, 3) := by decide +kernel
theorem dX12_posts_147 : decode cX12_posts 147 = .ok (.iinc 6 1, 3) := by decide +kernel
theorem dX12_posts_150 : decode cX12_posts 150 = .ok (.goto (-46), 3) := by decide +kernel
theorem dX12_posts_153 : decode cX12_posts 153 = .ok (.iload 6, 2) := by decide +kernel
theorem dX12_posts_155 : decode cX12_posts 155 = .ok (.ireturn, 1) := by decide +kernel
theorem dX12_lots_0 : decode cX12_lots 0 = .ok (.aload_n 0, 1) := by decide +kernel
theorem dX12_lots_1 : decode cX12_lots 1 = .ok (.iconst 0, 1) := by decide +kernel
theorem dX12_lots_2 : decode cX12_lots 2 = .ok (.putfield 44, 3) := by decide +kernel
theorem dX12_lots_5 : decode cX12_lots 5 = .ok (.aload_n 0, 1) := by decide +kernel
theorem dX12_lots_6 : decode cX12_lots 6 = .ok (.invokevirtual 180, 3) := by decide +kernel
theorem dX12_lots_9 : decode cX12_lots 9 = .ok (.ifCond .ne 6, 3) := by decide +kernel
theorem dX12_lots_12 : decode cX12_lots 12 = .ok (.ldc 184, 2) := by decide +kernel
theorem dX12_lots_14 : decode cX12_lots 14 = .ok (.ireturn, 1) := by decide +kernel
theorem dX12_lots_15 : decode cX12_lots 15 = .ok (.aload_n 0, 1) := by decide +kernel
theorem dX12_lots_16 : decode cX12_lots 16 = .ok (.iload_n 1, 1) := by decide +kernel
theorem dX12_lots_17 : decode cX12_lots 17 = .ok (.invokevirtual 185, 3) := by decide +kernel
theorem dX12_lots_20 : decode cX12_lots 20 = .ok (.ifCond .eq 15, 3) := by decide +kernel
theorem dX12_lots_23 : decode cX12_lots 23 = .ok (.iload_n 2, 1) := by decide +kernel
theorem dX12_lots_24 : decode cX12_lots 24 = .ok (.i2l, 1) := by decide +kernel
theorem dX12_lots_25 : decode cX12_lots 25 = .ok (.lconst 1, 1) := by decide +kernel
theorem dX12_lots_26 : decode cX12_lots 26 = .ok (.ldc2_w 204, 3) := by decide +kernel
theorem dX12_lots_29 : decode cX12_lots 29 = .ok (.invokestatic 54, 3) := by decide +kernel
theorem dX12_lots_32 : decode cX12_lots 32 = .ok (.ifCond .ne 6, 3) := by decide +kernel
theorem dX12_lots_35 : decode cX12_lots 35 = .ok (.ldc 64, 2) := by decide +kernel
theorem dX12_lots_37 : decode cX12_lots 37 = .ok (.ireturn, 1) := by decide +kernel
theorem dX12_lots_38 : decode cX12_lots 38 = .ok (.aload_n 0, 1) := by decide +kernel
theorem dX12_lots_39 : decode cX12_lots 39 = .ok (.getfield 19, 3) := by decide +kernel
theorem dX12_lots_42 : decode cX12_lots 42 = .ok (.iconst 1, 1) := by decide +kernel
theorem dX12_lots_43 : decode cX12_lots 43 = .ok (.iaload, 1) := by decide +kernel
theorem dX12_lots_44 : decode cX12_lots 44 = .ok (.sipush 9999, 3) := by decide +kernel
theorem dX12_lots_47 : decode cX12_lots 47 = .ok (.if_icmp .ne 6, 3) := by decide +kernel
theorem dX12_lots_50 : decode cX12_lots 50 = .ok (.ldc 74, 2) := by decide +kernel
theorem dX12_lots_52 : decode cX12_lots 52 = .ok (.ireturn, 1) := by decide +kernel
theorem dX12_lots_53 : decode cX12_lots 53 = .ok (.aload_n 0, 1) := by decide +kernel
theorem dX12_lots_54 : decode cX12_lots 54 = .ok (.iload_n 1, 1) := by decide +kernel
theorem dX12_lots_55 : decode cX12_lots 55 = .ok (.aload_n 0, 1) := by decide +kernel
theorem dX12_lots_56 : decode cX12_lots 56 = .ok (.getfield 19, 3) := by decide +kernel
theorem dX12_lots_59 : decode cX12_lots 59 = .ok (.iconst 2, 1) := by decide +kernel
theorem dX12_lots_60 : decode cX12_lots 60 = .ok (.iaload, 1) := by decide +kernel
theorem dX12_lots_61 : decode cX12_lots 61 = .ok (.iconst (-1), 1) := by decide +kernel
theorem dX12_lots_62 : decode cX12_lots 62 = .ok (.iconst 0, 1) := by decide +kernel
theorem dX12_lots_63 : decode cX12_lots 63 = .ok (.invokevirtual 173, 3) := by decide +kernel
theorem dX12_lots_66 : decode cX12_lots 66 = .ok (.istore_n 3, 1) := by decide +kernel
theorem dX12_lots_67 : decode cX12_lots 67 = .ok (.iload_n 2, 1) := by decide +kernel
theorem dX12_lots_68 : decode cX12_lots 68 = .ok (.i2l, 1) := by decide +kernel
theorem dX12_lots_69 : decode cX12_lots 69 = .ok (.lstore 4, 2) := by decide +kernel
theorem dX12_lots_71 : decode cX12_lots 71 = .ok (.iconst 0, 1) := by decide +kernel
theorem dX12_lots_72 : decode cX12_lots 72 = .ok (.istore 6, 2) := by decide +kernel
theorem dX12_lots_74 : decode cX12_lots 74 = .ok (.iload 6, 2) := by decide +kernel
theorem dX12_lots_76 : decode cX12_lots 76 = .ok (.aload_n 0, 1) := by decide +kernel
theorem dX12_lots_77 : decode cX12_lots 77 = .ok (.getfield 19, 3) := by decide +kernel
theorem dX12_lots_80 : decode cX12_lots 80 = .ok (.iconst 0, 1) := by decide +kernel
theorem dX12_lots_81 : decode cX12_lots 81 = .ok (.iaload, 1) := by decide +kernel
theorem dX12_lots_82 : decode cX12_lots 82 = .ok (.if_icmp .ge 61, 3) := by decide +kernel
theorem dX12_lots_85 : decode cX12_lots 85 = .ok (.aload_n 0, 1) := by decide +kernel
theorem dX12_lots_86 : decode cX12_lots 86 = .ok (.iload 6, 2) := by decide +kernel
theorem dX12_lots_88 : decode cX12_lots 88 = .ok (.iconst 0, 1) := by decide +kernel
theorem dX12_lots_89 : decode cX12_lots 89 = .ok (.invokevirtual 163, 3) := by decide +kernel
theorem dX12_lots_92 : decode cX12_lots 92 = .ok (.iconst 3, 1) := by decide +kernel
theorem dX12_lots_93 : decode cX12_lots 93 = .ok (.if_icmp .ne 44, 3) := by decide +kernel
theorem dX12_lots_96 : decode cX12_lots 96 = .ok (.lload 4, 2) := by decide +kernel
theorem dX12_lots_98 : decode cX12_lots 98 = .ok (.ldc2_w 206, 3) := by decide +kernel
theorem dX12_lots_101 : decode cX12_lots 101 = .ok (.lmul, 1) := by decide +kernel
theorem dX12_lots_102 : decode cX12_lots 102 = .ok (.ldc2_w 208, 3) := by decide +kernel
theorem dX12_lots_105 : decode cX12_lots 105 = .ok (.lrem, 1) := by decide +kernel
theorem dX12_lots_106 : decode cX12_lots 106 = .ok (.lstore 4, 2) := by decide +kernel
theorem dX12_lots_108 : decode cX12_lots 108 = .ok (.iload_n 3, 1) := by decide +kernel
theorem dX12_lots_109 : decode cX12_lots 109 = .ok (.lload 4, 2) := by decide +kernel
theorem dX12_lots_111 : decode cX12_lots 111 = .ok (.ldc2_w 210, 3) := by decide +kernel
theorem dX12_lots_114 : decode cX12_lots 114 = .ok (.lrem, 1) := by decide +kernel
theorem dX12_lots_115 : decode cX12_lots 115 = .ok (.aload_n 0, 1) := by decide +kernel
theorem dX12_lots_116 : decode cX12_lots 116 = .ok (.iload 6, 2) := by decide +kernel
theorem dX12_lots_118 : decode cX12_lots 118 = .ok (.iconst 2, 1) := by decide +kernel
theorem dX12_lots_119 : decode cX12_lots 119 = .ok (.invokevirtual 163, 3) := by decide +kernel
theorem dX12_lots_122 : decode cX12_lots 122 = .ok (.i2l, 1) := by decide +kernel
theorem dX12_lots_123 : decode cX12_lots 123 = .ok (.lcmp, 1) := by decide +kernel
theorem dX12_lots_124 : decode cX12_lots 124 = .ok (.ifCond .ge 10, 3) := by decide +kernel
theorem dX12_lots_127 : decode cX12_lots 127 = .ok (.iconst 1, 1) := by decide +kernel
theorem dX12_lots_128 : decode cX12_lots 128 = .ok (.iload 6, 2) := by decide +kernel
theorem dX12_lots_130 : decode cX12_lots 130 = .ok (.ishl, 1) := by decide +kernel
theorem dX12_lots_131 : decode cX12_lots 131 = .ok (.goto 4, 3) := by decide +kernel
theorem dX12_lots_134 : decode cX12_lots 134 = .ok (.iconst 0, 1) := by decide +kernel
theorem dX12_lots_135 : decode cX12_lots 135 = .ok (.ixor, 1) := by decide +kernel
theorem dX12_lots_136 : decode cX12_lots 136 = .ok (.istore_n 3, 1) := by decide +kernel
theorem dX12_lots_137 : decode cX12_lots 137 = .ok (.iinc 6 1, 3) := by decide +kernel
theorem dX12_lots_140 : decode cX12_lots 140 = .ok (.goto (-66), 3) := by decide +kernel
theorem dX12_lots_143 : decode cX12_lots 143 = .ok (.aload_n 0, 1) := by decide +kernel
theorem dX12_lots_144 : decode cX12_lots 144 = .ok (.iload_n 3, 1) := by decide +kernel
theorem dX12_lots_145 : decode cX12_lots 145 = .ok (.invokevirtual 192, 3) := by decide +kernel
theorem dX12_lots_148 : decode cX12_lots 148 = .ok (.iload_n 3, 1) := by decide +kernel
theorem dX12_lots_149 : decode cX12_lots 149 = .ok (.ireturn, 1) := by decide +kernel
theorem dX12_undo_0 : decode cX12_undo 0 = .ok (.aload_n 0, 1) := by decide +kernel
theorem dX12_undo_1 : decode cX12_undo 1 = .ok (.iconst 0, 1) := by decide +kernel
theorem dX12_undo_2 : decode cX12_undo 2 = .ok (.putfield 44, 3) := by decide +kernel
theorem dX12_undo_5 : decode cX12_undo 5 = .ok (.aload_n 0, 1) := by decide +kernel
theorem dX12_undo_6 : decode cX12_undo 6 = .ok (.getfield 157, 3) := by decide +kernel
theorem dX12_undo_9 : decode cX12_undo 9 = .ok (.ifCond .ne 6, 3) := by decide +kernel
theorem dX12_undo_12 : decode cX12_undo 12 = .ok (.ldc 184, 2) := by decide +kernel
theorem dX12_undo_14 : decode cX12_undo 14 = .ok (.ireturn, 1) := by decide +kernel
theorem dX12_undo_15 : decode cX12_undo 15 = .ok (.aload_n 0, 1) := by decide +kernel
theorem dX12_undo_16 : decode cX12_undo 16 = .ok (.dup, 1) := by decide +kernel
theorem dX12_undo_17 : decode cX12_undo 17 = .ok (.getfield 157, 3) := by decide +kernel
theorem dX12_undo_20 : decode cX12_undo 20 = .ok (.iconst 1, 1) := by decide +kernel
theorem dX12_undo_21 : decode cX12_undo 21 = .ok (.isub, 1) := by decide +kernel
theorem dX12_undo_22 : decode cX12_undo 22 = .ok (.putfield 157, 3) := by decide +kernel
theorem dX12_undo_25 : decode cX12_undo 25 = .ok (.iconst 0, 1) := by decide +kernel
theorem dX12_undo_26 : decode cX12_undo 26 = .ok (.istore_n 1, 1) := by decide +kernel
theorem dX12_undo_27 : decode cX12_undo 27 = .ok (.iload_n 1, 1) := by decide +kernel
theorem dX12_undo_28 : decode cX12_undo 28 = .ok (.bipush 21, 2) := by decide +kernel
theorem dX12_undo_30 : decode cX12_undo 30 = .ok (.if_icmp .ge 29, 3) := by decide +kernel
theorem dX12_undo_33 : decode cX12_undo 33 = .ok (.aload_n 0, 1) := by decide +kernel
theorem dX12_undo_34 : decode cX12_undo 34 = .ok (.getfield 19, 3) := by decide +kernel
theorem dX12_undo_37 : decode cX12_undo 37 = .ok (.iload_n 1, 1) := by decide +kernel
theorem dX12_undo_38 : decode cX12_undo 38 = .ok (.aload_n 0, 1) := by decide +kernel
theorem dX12_undo_39 : decode cX12_undo 39 = .ok (.getfield 25, 3) := by decide +kernel
theorem dX12_undo_42 : decode cX12_undo 42 = .ok (.bipush 21, 2) := by decide +kernel
theorem dX12_undo_44 : decode cX12_undo 44 = .ok (.aload_n 0, 1) := by decide +kernel
theorem dX12_undo_45 : decode cX12_undo 45 = .ok (.getfield 157, 3) := by decide +kernel
theorem dX12_undo_48 : decode cX12_undo 48 = .ok (.imul, 1) := by decide +kernel
theorem dX12_undo_49 : decode cX12_undo 49 = .ok (.iload_n 1, 1) := by decide +kernel
theorem dX12_undo_50 : decode cX12_undo 50 = .ok (.iadd, 1) := by decide +kernel
theorem dX12_undo_51 : decode cX12_undo 51 = .ok (.iaload, 1) := by decide +kernel
theorem dX12_undo_52 : decode cX12_undo 52 = .ok (.iastore, 1) := by decide +kernel
theorem dX12_undo_53 : decode cX12_undo 53 = .ok (.iinc 1 1, 3) := by decide +kernel
theorem dX12_undo_56 : decode cX12_undo 56 = .ok (.goto (-29), 3) := by decide +kernel
theorem dX12_undo_59 : decode cX12_undo 59 = .ok (.aload_n 0, 1) := by decide +kernel
theorem dX12_undo_60 : decode cX12_undo 60 = .ok (.getfield 157, 3) := by decide +kernel
theorem dX12_undo_63 : decode cX12_undo 63 = .ok (.ireturn, 1) := by decide +kernel
theorem dX12_person_0 : decode cX12_person 0 = .ok (.aload_n 0, 1) := by decide +kernel
theorem dX12_person_1 : decode cX12_person 1 = .ok (.iconst 0, 1) := by decide +kernel
theorem dX12_person_2 : decode cX12_person 2 = .ok (.putfield 44, 3) := by decide +kernel
theorem dX12_person_5 : decode cX12_person 5 = .ok (.aload_n 0, 1) := by decide +kernel
theorem dX12_person_6 : decode cX12_person 6 = .ok (.iload_n 1, 1) := by decide +kernel
theorem dX12_person_7 : decode cX12_person 7 = .ok (.invokevirtual 212, 3) := by decide +kernel
theorem dX12_person_10 : decode cX12_person 10 = .ok (.ifCond .eq 15, 3) := by decide +kernel
end
section
theorem dX12_person_13 : decode cX12_person 13 = .ok (.iload_n 2, 1) := by decide +kernel
theorem dX12_person_14 : decode cX12_person 14 = .ok (.i2l, 1) := by decide +kernel
theorem dX12_person_15 : decode cX12_person 15 = .ok (.lconst 0, 1) := by decide +kernel
theorem dX12_person_16 : decode cX12_person 16 = .ok (.ldc2_w 62, 3) := by decide +kernel
theorem dX12_person_19 : decode cX12_person 19 = .ok (.invokestatic 54, 3) := by decide +kernel
theorem dX12_person_22 : decode cX12_person 22 = .ok (.ifCond .ne 6, 3) := by decide +kernel
theorem dX12_person_25 : decode cX12_person 25 = .ok (.ldc 64, 2) := by decide +kernel
theorem dX12_person_27 : decode cX12_person 27 = .ok (.ireturn, 1) := by decide +kernel
theorem dX12_person_28 : decode cX12_person 28 = .ok (.iload_n 2, 1) := by decide +kernel
theorem dX12_person_29 : decode cX12_person 29 = .ok (.iconst 2, 1) := by decide +kernel
theorem dX12_person_30 : decode cX12_person 30 = .ok (.if_icmp .ne 16, 3) := by decide +kernel
theorem dX12_person_33 : decode cX12_person 33 = .ok (.aload_n 0, 1) := by decide +kernel
theorem dX12_person_34 : decode cX12_person 34 = .ok (.getfield 19, 3) := by decide +kernel
theorem dX12_person_37 : decode cX12_person 37 = .ok (.iconst 2, 1) := by decide +kernel
theorem dX12_person_38 : decode cX12_person 38 = .ok (.iaload, 1) := by decide +kernel
theorem dX12_person_39 : decode cX12_person 39 = .ok (.iload_n 1, 1) := by decide +kernel
theorem dX12_person_40 : decode cX12_person 40 = .ok (.ishr, 1) := by decide +kernel
theorem dX12_person_41 : decode cX12_person 41 = .ok (.iconst 1, 1) := by decide +kernel
theorem dX12_person_42 : decode cX12_person 42 = .ok (.iand, 1) := by decide +kernel
theorem dX12_person_43 : decode cX12_person 43 = .ok (.goto 11, 3) := by decide +kernel
theorem dX12_person_46 : decode cX12_person 46 = .ok (.aload_n 0, 1) := by decide +kernel
theorem dX12_person_47 : decode cX12_person 47 = .ok (.iload_n 1, 1) := by decide +kernel
theorem dX12_person_48 : decode cX12_person 48 = .ok (.iconst 1, 1) := by decide +kernel
theorem dX12_person_49 : decode cX12_person 49 = .ok (.iload_n 2, 1) := by decide +kernel
theorem dX12_person_50 : decode cX12_person 50 = .ok (.iadd, 1) := by decide +kernel
theorem dX12_person_51 : decode cX12_person 51 = .ok (.invokevirtual 163, 3) := by decide +kernel
theorem dX12_person_54 : decode cX12_person 54 = .ok (.ireturn, 1) := by decide +kernel
theorem dX12_done_0 : decode cX12_done 0 = .ok (.aload_n 0, 1) := by decide +kernel
theorem dX12_done_1 : decode cX12_done 1 = .ok (.iconst 0, 1) := by decide +kernel
theorem dX12_done_2 : decode cX12_done 2 = .ok (.putfield 44, 3) := by decide +kernel
theorem dX12_done_5 : decode cX12_done 5 = .ok (.aload_n 0, 1) := by decide +kernel
theorem dX12_done_6 : decode cX12_done 6 = .ok (.invokevirtual 180, 3) := by decide +kernel
theorem dX12_done_9 : decode cX12_done 9 = .ok (.ifCond .ne 8, 3) := by decide +kernel
theorem dX12_done_12 : decode cX12_done 12 = .ok (.ldc 184, 2) := by decide +kernel
theorem dX12_done_14 : decode cX12_done 14 = .ok (.goto 29, 3) := by decide +kernel
theorem dX12_done_17 : decode cX12_done 17 = .ok (.aload_n 0, 1) := by decide +kernel
theorem dX12_done_18 : decode cX12_done 18 = .ok (.iload_n 1, 1) := by decide +kernel
theorem dX12_done_19 : decode cX12_done 19 = .ok (.invokevirtual 185, 3) := by decide +kernel
theorem dX12_done_22 : decode cX12_done 22 = .ok (.ifCond .eq 19, 3) := by decide +kernel
theorem dX12_done_25 : decode cX12_done 25 = .ok (.aload_n 0, 1) := by decide +kernel
theorem dX12_done_26 : decode cX12_done 26 = .ok (.iload_n 1, 1) := by decide +kernel
theorem dX12_done_27 : decode cX12_done 27 = .ok (.aload_n 0, 1) := by decide +kernel
theorem dX12_done_28 : decode cX12_done 28 = .ok (.getfield 19, 3) := by decide +kernel
theorem dX12_done_31 : decode cX12_done 31 = .ok (.iconst 2, 1) := by decide +kernel
theorem dX12_done_32 : decode cX12_done 32 = .ok (.iaload, 1) := by decide +kernel
theorem dX12_done_33 : decode cX12_done 33 = .ok (.iconst (-1), 1) := by decide +kernel
theorem dX12_done_34 : decode cX12_done 34 = .ok (.iconst 0, 1) := by decide +kernel
theorem dX12_done_35 : decode cX12_done 35 = .ok (.invokevirtual 173, 3) := by decide +kernel
theorem dX12_done_38 : decode cX12_done 38 = .ok (.goto 5, 3) := by decide +kernel
theorem dX12_done_41 : decode cX12_done 41 = .ok (.ldc 64, 2) := by decide +kernel
theorem dX12_done_43 : decode cX12_done 43 = .ok (.ireturn, 1) := by decide +kernel
theorem dX12_agreeing_0 : decode cX12_agreeing 0 = .ok (.aload_n 0, 1) := by decide +kernel
theorem dX12_agreeing_1 : decode cX12_agreeing 1 = .ok (.iconst 0, 1) := by decide +kernel
theorem dX12_agreeing_2 : decode cX12_agreeing 2 = .ok (.putfield 44, 3) := by decide +kernel
theorem dX12_agreeing_5 : decode cX12_agreeing 5 = .ok (.aload_n 0, 1) := by decide +kernel
theorem dX12_agreeing_6 : decode cX12_agreeing 6 = .ok (.invokevirtual 180, 3) := by decide +kernel
theorem dX12_agreeing_9 : decode cX12_agreeing 9 = .ok (.ifCond .ne 6, 3) := by decide +kernel
theorem dX12_agreeing_12 : decode cX12_agreeing 12 = .ok (.ldc 184, 2) := by decide +kernel
theorem dX12_agreeing_14 : decode cX12_agreeing 14 = .ok (.ireturn, 1) := by decide +kernel
theorem dX12_agreeing_15 : decode cX12_agreeing 15 = .ok (.iload_n 1, 1) := by decide +kernel
theorem dX12_agreeing_16 : decode cX12_agreeing 16 = .ok (.iconst (-1), 1) := by decide +kernel
theorem dX12_agreeing_17 : decode cX12_agreeing 17 = .ok (.if_icmp .ge 6, 3) := by decide +kernel
theorem dX12_agreeing_20 : decode cX12_agreeing 20 = .ok (.ldc 64, 2) := by decide +kernel
theorem dX12_agreeing_22 : decode cX12_agreeing 22 = .ok (.ireturn, 1) := by decide +kernel
theorem dX12_agreeing_23 : decode cX12_agreeing 23 = .ok (.iconst 0, 1) := by decide +kernel
theorem dX12_agreeing_24 : decode cX12_agreeing 24 = .ok (.istore_n 2, 1) := by decide +kernel
theorem dX12_agreeing_25 : decode cX12_agreeing 25 = .ok (.iconst 0, 1) := by decide +kernel
theorem dX12_agreeing_26 : decode cX12_agreeing 26 = .ok (.istore_n 3, 1) := by decide +kernel
theorem dX12_agreeing_27 : decode cX12_agreeing 27 = .ok (.iload_n 3, 1) := by decide +kernel
theorem dX12_agreeing_28 : decode cX12_agreeing 28 = .ok (.aload_n 0, 1) := by decide +kernel
theorem dX12_agreeing_29 : decode cX12_agreeing 29 = .ok (.invokevirtual 160, 3) := by decide +kernel
theorem dX12_agreeing_32 : decode cX12_agreeing 32 = .ok (.if_icmp .gt 33, 3) := by decide +kernel
theorem dX12_agreeing_35 : decode cX12_agreeing 35 = .ok (.aload_n 0, 1) := by decide +kernel
theorem dX12_agreeing_36 : decode cX12_agreeing 36 = .ok (.iload_n 3, 1) := by decide +kernel
theorem dX12_agreeing_37 : decode cX12_agreeing 37 = .ok (.aload_n 0, 1) := by decide +kernel
theorem dX12_agreeing_38 : decode cX12_agreeing 38 = .ok (.getfield 19, 3) := by decide +kernel
theorem dX12_agreeing_41 : decode cX12_agreeing 41 = .ok (.iconst 2, 1) := by decide +kernel
theorem dX12_agreeing_42 : decode cX12_agreeing 42 = .ok (.iaload, 1) := by decide +kernel
theorem dX12_agreeing_43 : decode cX12_agreeing 43 = .ok (.invokevirtual 188, 3) := by decide +kernel
theorem dX12_agreeing_46 : decode cX12_agreeing 46 = .ok (.ifCond .eq 13, 3) := by decide +kernel
theorem dX12_agreeing_49 : decode cX12_agreeing 49 = .ok (.iload_n 2, 1) := by decide +kernel
theorem dX12_agreeing_50 : decode cX12_agreeing 50 = .ok (.iload_n 1, 1) := by decide +kernel
theorem dX12_agreeing_51 : decode cX12_agreeing 51 = .ok (.if_icmp .ne 5, 3) := by decide +kernel
theorem dX12_agreeing_54 : decode cX12_agreeing 54 = .ok (.iload_n 3, 1) := by decide +kernel
theorem dX12_agreeing_55 : decode cX12_agreeing 55 = .ok (.ireturn, 1) := by decide +kernel
theorem dX12_agreeing_56 : decode cX12_agreeing 56 = .ok (.iinc 2 1, 3) := by decide +kernel
theorem dX12_agreeing_59 : decode cX12_agreeing 59 = .ok (.iinc 3 1, 3) := by decide +kernel
theorem dX12_agreeing_62 : decode cX12_agreeing 62 = .ok (.goto (-35), 3) := by decide +kernel
theorem dX12_agreeing_65 : decode cX12_agreeing 65 = .ok (.iload_n 1, 1) := by decide +kernel
theorem dX12_agreeing_66 : decode cX12_agreeing 66 = .ok (.ifCond .ge 7, 3) := by decide +kernel
theorem dX12_agreeing_69 : decode cX12_agreeing 69 = .ok (.iload_n 2, 1) := by decide +kernel
theorem dX12_agreeing_70 : decode cX12_agreeing 70 = .ok (.goto 5, 3) := by decide +kernel
theorem dX12_agreeing_73 : decode cX12_agreeing 73 = .ok (.ldc 80, 2) := by decide +kernel
theorem dX12_agreeing_75 : decode cX12_agreeing 75 = .ok (.ireturn, 1) := by decide +kernel
theorem dX12_fullest_0 : decode cX12_fullest 0 = .ok (.aload_n 0, 1) := by decide +kernel
theorem dX12_fullest_1 : decode cX12_fullest 1 = .ok (.iconst 0, 1) := by decide +kernel
theorem dX12_fullest_2 : decode cX12_fullest 2 = .ok (.putfield 44, 3) := by decide +kernel
theorem dX12_fullest_5 : decode cX12_fullest 5 = .ok (.aload_n 0, 1) := by decide +kernel
theorem dX12_fullest_6 : decode cX12_fullest 6 = .ok (.invokevirtual 180, 3) := by decide +kernel
theorem dX12_fullest_9 : decode cX12_fullest 9 = .ok (.ifCond .ne 6, 3) := by decide +kernel
theorem dX12_fullest_12 : decode cX12_fullest 12 = .ok (.ldc 184, 2) := by decide +kernel
theorem dX12_fullest_14 : decode cX12_fullest 14 = .ok (.ireturn, 1) := by decide +kernel
theorem dX12_fullest_15 : decode cX12_fullest 15 = .ok (.ldc 80, 2) := by decide +kernel
theorem dX12_fullest_17 : decode cX12_fullest 17 = .ok (.istore_n 1, 1) := by decide +kernel
theorem dX12_fullest_18 : decode cX12_fullest 18 = .ok (.iconst 0, 1) := by decide +kernel
theorem dX12_fullest_19 : decode cX12_fullest 19 = .ok (.istore_n 2, 1) := by decide +kernel
theorem dX12_fullest_20 : decode cX12_fullest 20 = .ok (.iload_n 2, 1) := by decide +kernel
theorem dX12_fullest_21 : decode cX12_fullest 21 = .ok (.aload_n 0, 1) := by decide +kernel
theorem dX12_fullest_22 : decode cX12_fullest 22 = .ok (.invokevirtual 160, 3) := by decide +kernel
theorem dX12_fullest_25 : decode cX12_fullest 25 = .ok (.if_icmp .gt 42, 3) := by decide +kernel
theorem dX12_fullest_28 : decode cX12_fullest 28 = .ok (.aload_n 0, 1) := by decide +kernel
theorem dX12_fullest_29 : decode cX12_fullest 29 = .ok (.iload_n 2, 1) := by decide +kernel
theorem dX12_fullest_30 : decode cX12_fullest 30 = .ok (.aload_n 0, 1) := by decide +kernel
theorem dX12_fullest_31 : decode cX12_fullest 31 = .ok (.getfield 19, 3) := by decide +kernel
theorem dX12_fullest_34 : decode cX12_fullest 34 = .ok (.iconst 2, 1) := by decide +kernel
theorem dX12_fullest_35 : decode cX12_fullest 35 = .ok (.iaload, 1) := by decide +kernel
theorem dX12_fullest_36 : decode cX12_fullest 36 = .ok (.invokevirtual 188, 3) := by decide +kernel
theorem dX12_fullest_39 : decode cX12_fullest 39 = .ok (.ifCond .eq 22, 3) := by decide +kernel
theorem dX12_fullest_42 : decode cX12_fullest 42 = .ok (.iload_n 1, 1) := by decide +kernel
theorem dX12_fullest_43 : decode cX12_fullest 43 = .ok (.ldc 80, 2) := by decide +kernel
theorem dX12_fullest_45 : decode cX12_fullest 45 = .ok (.if_icmp .eq 14, 3) := by decide +kernel
theorem dX12_fullest_48 : decode cX12_fullest 48 = .ok (.iload_n 2, 1) := by decide +kernel
theorem dX12_fullest_49 : decode cX12_fullest 49 = .ok (.invokestatic 166, 3) := by decide +kernel
theorem dX12_fullest_52 : decode cX12_fullest 52 = .ok (.iload_n 1, 1) := by decide +kernel
theorem dX12_fullest_53 : decode cX12_fullest 53 = .ok (.invokestatic 166, 3) := by decide +kernel
theorem dX12_fullest_56 : decode cX12_fullest 56 = .ok (.if_icmp .le 5, 3) := by decide +kernel
theorem dX12_fullest_59 : decode cX12_fullest 59 = .ok (.iload_n 2, 1) := by decide +kernel
theorem dX12_fullest_60 : decode cX12_fullest 60 = .ok (.istore_n 1, 1) := by decide +kernel
theorem dX12_fullest_61 : decode cX12_fullest 61 = .ok (.iinc 2 1, 3) := by decide +kernel
theorem dX12_fullest_64 : decode cX12_fullest 64 = .ok (.goto (-44), 3) := by decide +kernel
theorem dX12_fullest_67 : decode cX12_fullest 67 = .ok (.iload_n 1, 1) := by decide +kernel
theorem dX12_fullest_68 : decode cX12_fullest 68 = .ok (.ireturn, 1) := by decide +kernel
theorem dX12_hasAny_0 : decode cX12_hasAny 0 = .ok (.iconst 0, 1) := by decide +kernel
theorem dX12_hasAny_1 : decode cX12_hasAny 1 = .ok (.istore_n 3, 1) := by decide +kernel
theorem dX12_hasAny_2 : decode cX12_hasAny 2 = .ok (.iconst 0, 1) := by decide +kernel
theorem dX12_hasAny_3 : decode cX12_hasAny 3 = .ok (.istore 4, 2) := by decide +kernel
theorem dX12_hasAny_5 : decode cX12_hasAny 5 = .ok (.iload 4, 2) := by decide +kernel
theorem dX12_hasAny_7 : decode cX12_hasAny 7 = .ok (.aload_n 0, 1) := by decide +kernel
theorem dX12_hasAny_8 : decode cX12_hasAny 8 = .ok (.invokevirtual 160, 3) := by decide +kernel
theorem dX12_hasAny_11 : decode cX12_hasAny 11 = .ok (.if_icmp .gt 38, 3) := by decide +kernel
theorem dX12_hasAny_14 : decode cX12_hasAny 14 = .ok (.iload_n 3, 1) := by decide +kernel
theorem dX12_hasAny_15 : decode cX12_hasAny 15 = .ok (.ifCond .ne 34, 3) := by decide +kernel
theorem dX12_hasAny_18 : decode cX12_hasAny 18 = .ok (.aload_n 0, 1) := by decide +kernel
theorem dX12_hasAny_19 : decode cX12_hasAny 19 = .ok (.iload 4, 2) := by decide +kernel
theorem dX12_hasAny_21 : decode cX12_hasAny 21 = .ok (.aload_n 0, 1) := by decide +kernel
theorem dX12_hasAny_22 : decode cX12_hasAny 22 = .ok (.getfield 19, 3) := by decide +kernel
theorem dX12_hasAny_25 : decode cX12_hasAny 25 = .ok (.iconst 2, 1) := by decide +kernel
theorem dX12_hasAny_26 : decode cX12_hasAny 26 = .ok (.iaload, 1) := by decide +kernel
theorem dX12_hasAny_27 : decode cX12_hasAny 27 = .ok (.iload_n 1, 1) := by decide +kernel
theorem dX12_hasAny_28 : decode cX12_hasAny 28 = .ok (.iload_n 2, 1) := by decide +kernel
theorem dX12_hasAny_29 : decode cX12_hasAny 29 = .ok (.invokevirtual 173, 3) := by decide +kernel
theorem dX12_hasAny_32 : decode cX12_hasAny 32 = .ok (.iload 4, 2) := by decide +kernel
theorem dX12_hasAny_34 : decode cX12_hasAny 34 = .ok (.if_icmp .ne 7, 3) := by decide +kernel
theorem dX12_hasAny_37 : decode cX12_hasAny 37 = .ok (.iconst 1, 1) := by decide +kernel
theorem dX12_hasAny_38 : decode cX12_hasAny 38 = .ok (.goto 4, 3) := by decide +kernel
theorem dX12_hasAny_41 : decode cX12_hasAny 41 = .ok (.iconst 0, 1) := by decide +kernel
theorem dX12_hasAny_42 : decode cX12_hasAny 42 = .ok (.istore_n 3, 1) := by decide +kernel
theorem dX12_hasAny_43 : decode cX12_hasAny 43 = .ok (.iinc 4 1, 3) := by decide +kernel
theorem dX12_hasAny_46 : decode cX12_hasAny 46 = .ok (.goto (-41), 3) := by decide +kernel
theorem dX12_hasAny_49 : decode cX12_hasAny 49 = .ok (.iload_n 3, 1) := by decide +kernel
theorem dX12_hasAny_50 : decode cX12_hasAny 50 = .ok (.ireturn, 1) := by decide +kernel
theorem dX12_culprits_0 : decode cX12_culprits 0 = .ok (.aload_n 0, 1) := by decide +kernel
theorem dX12_culprits_1 : decode cX12_culprits 1 = .ok (.iconst 0, 1) := by decide +kernel
theorem dX12_culprits_2 : decode cX12_culprits 2 = .ok (.putfield 44, 3) := by decide +kernel
theorem dX12_culprits_5 : decode cX12_culprits 5 = .ok (.aload_n 0, 1) := by decide +kernel
theorem dX12_culprits_6 : decode cX12_culprits 6 = .ok (.invokevirtual 180, 3) := by decide +kernel
theorem dX12_culprits_9 : decode cX12_culprits 9 = .ok (.ifCond .ne 6, 3) := by decide +kernel
theorem dX12_culprits_12 : decode cX12_culprits 12 = .ok (.ldc 184, 2) := by decide +kernel
theorem dX12_culprits_14 : decode cX12_culprits 14 = .ok (.ireturn, 1) := by decide +kernel
theorem dX12_culprits_15 : decode cX12_culprits 15 = .ok (.iload_n 1, 1) := by decide +kernel
theorem dX12_culprits_16 : decode cX12_culprits 16 = .ok (.i2l, 1) := by decide +kernel
theorem dX12_culprits_17 : decode cX12_culprits 17 = .ok (.lconst 0, 1) := by decide +kernel
theorem dX12_culprits_18 : decode cX12_culprits 18 = .ok (.lconst 1, 1) := by decide +kernel
theorem dX12_culprits_19 : decode cX12_culprits 19 = .ok (.invokestatic 54, 3) := by decide +kernel
theorem dX12_culprits_22 : decode cX12_culprits 22 = .ok (.ifCond .ne 6, 3) := by decide +kernel
theorem dX12_culprits_25 : decode cX12_culprits 25 = .ok (.ldc 64, 2) := by decide +kernel
theorem dX12_culprits_27 : decode cX12_culprits 27 = .ok (.ireturn, 1) := by decide +kernel
theorem dX12_culprits_28 : decode cX12_culprits 28 = .ok (.iconst 0, 1) := by decide +kernel
theorem dX12_culprits_29 : decode cX12_culprits 29 = .ok (.istore_n 2, 1) := by decide +kernel
theorem dX12_culprits_30 : decode cX12_culprits 30 = .ok (.iconst 0, 1) := by decide +kernel
theorem dX12_culprits_31 : decode cX12_culprits 31 = .ok (.istore_n 3, 1) := by decide +kernel
theorem dX12_culprits_32 : decode cX12_culprits 32 = .ok (.iload_n 3, 1) := by decide +kernel
theorem dX12_culprits_33 : decode cX12_culprits 33 = .ok (.aload_n 0, 1) := by decide +kernel
theorem dX12_culprits_34 : decode cX12_culprits 34 = .ok (.getfield 19, 3) := by decide +kernel
theorem dX12_culprits_37 : decode cX12_culprits 37 = .ok (.iconst 0, 1) := by decide +kernel
theorem dX12_culprits_38 : decode cX12_culprits 38 = .ok (.iaload, 1) := by decide +kernel
theorem dX12_culprits_39 : decode cX12_culprits 39 = .ok (.if_icmp .ge 62, 3) := by decide +kernel
theorem dX12_culprits_42 : decode cX12_culprits 42 = .ok (.iload_n 1, 1) := by decide +kernel
theorem dX12_culprits_43 : decode cX12_culprits 43 = .ok (.ifCond .ne 12, 3) := by decide +kernel
theorem dX12_culprits_46 : decode cX12_culprits 46 = .ok (.aload_n 0, 1) := by decide +kernel
theorem dX12_culprits_47 : decode cX12_culprits 47 = .ok (.iload_n 3, 1) := by decide +kernel
theorem dX12_culprits_48 : decode cX12_culprits 48 = .ok (.iconst 0, 1) := by decide +kernel
theorem dX12_culprits_49 : decode cX12_culprits 49 = .ok (.invokevirtual 215, 3) := by decide +kernel
theorem dX12_culprits_52 : decode cX12_culprits 52 = .ok (.goto 26, 3) := by decide +kernel
theorem dX12_culprits_55 : decode cX12_culprits 55 = .ok (.aload_n 0, 1) := by decide +kernel
theorem dX12_culprits_56 : decode cX12_culprits 56 = .ok (.iload_n 3, 1) := by decide +kernel
theorem dX12_culprits_57 : decode cX12_culprits 57 = .ok (.iconst 1, 1) := by decide +kernel
theorem dX12_culprits_58 : decode cX12_culprits 58 = .ok (.invokevirtual 215, 3) := by decide +kernel
theorem dX12_culprits_61 : decode cX12_culprits 61 = .ok (.ifCond .eq 12, 3) := by decide +kernel
theorem dX12_culprits_64 : decode cX12_culprits 64 = .ok (.aload_n 0, 1) := by decide +kernel
theorem dX12_culprits_65 : decode cX12_culprits 65 = .ok (.iload_n 3, 1) := by decide +kernel
theorem dX12_culprits_66 : decode cX12_culprits 66 = .ok (.iconst 2, 1) := by decide +kernel
theorem dX12_culprits_67 : decode cX12_culprits 67 = .ok (.invokevirtual 215, 3) := by decide +kernel
theorem dX12_culprits_70 : decode cX12_culprits 70 = .ok (.ifCond .ne 7, 3) := by decide +kernel
theorem dX12_culprits_73 : decode cX12_culprits 73 = .ok (.iconst 1, 1) := by decide +kernel
theorem dX12_culprits_74 : decode cX12_culprits 74 = .ok (.goto 4, 3) := by decide +kernel
theorem dX12_culprits_77 : decode cX12_culprits 77 = .ok (.iconst 0, 1) := by decide +kernel
theorem dX12_culprits_78 : decode cX12_culprits 78 = .ok (.istore 4, 2) := by decide +kernel
theorem dX12_culprits_80 : decode cX12_culprits 80 = .ok (.iload_n 2, 1) := by decide +kernel
theorem dX12_culprits_81 : decode cX12_culprits 81 = .ok (.iload 4, 2) := by decide +kernel
theorem dX12_culprits_83 : decode cX12_culprits 83 = .ok (.ifCond .eq 9, 3) := by decide +kernel
theorem dX12_culprits_86 : decode cX12_culprits 86 = .ok (.iconst 1, 1) := by decide +kernel
theorem dX12_culprits_87 : decode cX12_culprits 87 = .ok (.iload_n 3, 1) := by decide +kernel
theorem dX12_culprits_88 : decode cX12_culprits 88 = .ok (.ishl, 1) := by decide +kernel
theorem dX12_culprits_89 : decode cX12_culprits 89 = .ok (.goto 4, 3) := by decide +kernel
theorem dX12_culprits_92 : decode cX12_culprits 92 = .ok (.iconst 0, 1) := by decide +kernel
theorem dX12_culprits_93 : decode cX12_culprits 93 = .ok (.ior, 1) := by decide +kernel
theorem dX12_culprits_94 : decode cX12_culprits 94 = .ok (.istore_n 2, 1) := by decide +kernel
theorem dX12_culprits_95 : decode cX12_culprits 95 = .ok (.iinc 3 1, 3) := by decide +kernel
theorem dX12_culprits_98 : decode cX12_culprits 98 = .ok (.goto (-66), 3) := by decide +kernel
theorem dX12_culprits_101 : decode cX12_culprits 101 = .ok (.iload_n 2, 1) := by decide +kernel
theorem dX12_culprits_102 : decode cX12_culprits 102 = .ok (.ireturn, 1) := by decide +kernel
theorem dX12_layChains_0 : decode cX12_layChains 0 = .ok (.iconst 0, 1) := by decide +kernel
theorem dX12_layChains_1 : decode cX12_layChains 1 = .ok (.istore_n 1, 1) := by decide +kernel
theorem dX12_layChains_2 : decode cX12_layChains 2 = .ok (.iload_n 1, 1) := by decide +kernel
theorem dX12_layChains_3 : decode cX12_layChains 3 = .ok (.aload_n 0, 1) := by decide +kernel
theorem dX12_layChains_4 : decode cX12_layChains 4 = .ok (.invokevirtual 160, 3) := by decide +kernel
theorem dX12_layChains_7 : decode cX12_layChains 7 = .ok (.if_icmp .gt 16, 3) := by decide +kernel
theorem dX12_layChains_10 : decode cX12_layChains 10 = .ok (.aload_n 0, 1) := by decide +kernel
theorem dX12_layChains_11 : decode cX12_layChains 11 = .ok (.getfield 31, 3) := by decide +kernel
theorem dX12_layChains_14 : decode cX12_layChains 14 = .ok (.iload_n 1, 1) := by decide +kernel
theorem dX12_layChains_15 : decode cX12_layChains 15 = .ok (.iconst 1, 1) := by decide +kernel
theorem dX12_layChains_16 : decode cX12_layChains 16 = .ok (.iastore, 1) := by decide +kernel
theorem dX12_layChains_17 : decode cX12_layChains 17 = .ok (.iinc 1 1, 3) := by decide +kernel
theorem dX12_layChains_20 : decode cX12_layChains 20 = .ok (.goto (-18), 3) := by decide +kernel
theorem dX12_layChains_23 : decode cX12_layChains 23 = .ok (.iconst 1, 1) := by decide +kernel
theorem dX12_layChains_24 : decode cX12_layChains 24 = .ok (.istore_n 1, 1) := by decide +kernel
theorem dX12_layChains_25 : decode cX12_layChains 25 = .ok (.iload_n 1, 1) := by decide +kernel
theorem dX12_layChains_26 : decode cX12_layChains 26 = .ok (.iconst 5, 1) := by decide +kernel
theorem dX12_layChains_27 : decode cX12_layChains 27 = .ok (.if_icmp .gt 88, 3) := by decide +kernel
theorem dX12_layChains_30 : decode cX12_layChains 30 = .ok (.iconst 0, 1) := by decide +kernel
theorem dX12_layChains_31 : decode cX12_layChains 31 = .ok (.istore_n 2, 1) := by decide +kernel
theorem dX12_layChains_32 : decode cX12_layChains 32 = .ok (.iload_n 2, 1) := by decide +kernel
theorem dX12_layChains_33 : decode cX12_layChains 33 = .ok (.aload_n 0, 1) := by decide +kernel
theorem dX12_layChains_34 : decode cX12_layChains 34 = .ok (.invokevirtual 160, 3) := by decide +kernel
theorem dX12_layChains_37 : decode cX12_layChains 37 = .ok (.if_icmp .gt 72, 3) := by decide +kernel
theorem dX12_layChains_40 : decode cX12_layChains 40 = .ok (.iconst 0, 1) := by decide +kernel
theorem dX12_layChains_41 : decode cX12_layChains 41 = .ok (.istore_n 3, 1) := by decide +kernel
theorem dX12_layChains_42 : decode cX12_layChains 42 = .ok (.iconst 0, 1) := by decide +kernel
theorem dX12_layChains_43 : decode cX12_layChains 43 = .ok (.istore 4, 2) := by decide +kernel
theorem dX12_layChains_45 : decode cX12_layChains 45 = .ok (.iload 4, 2) := by decide +kernel
theorem dX12_layChains_47 : decode cX12_layChains 47 = .ok (.aload_n 0, 1) := by decide +kernel
theorem dX12_layChains_48 : decode cX12_layChains 48 = .ok (.invokevirtual 160, 3) := by decide +kernel
theorem dX12_layChains_51 : decode cX12_layChains 51 = .ok (.if_icmp .gt 40, 3) := by decide +kernel
theorem dX12_layChains_54 : decode cX12_layChains 54 = .ok (.iload_n 3, 1) := by decide +kernel
theorem dX12_layChains_55 : decode cX12_layChains 55 = .ok (.aload_n 0, 1) := by decide +kernel
theorem dX12_layChains_56 : decode cX12_layChains 56 = .ok (.iload 4, 2) := by decide +kernel
theorem dX12_layChains_58 : decode cX12_layChains 58 = .ok (.iload_n 2, 1) := by decide +kernel
theorem dX12_layChains_59 : decode cX12_layChains 59 = .ok (.invokevirtual 188, 3) := by decide +kernel
theorem dX12_layChains_62 : decode cX12_layChains 62 = .ok (.ifCond .eq 20, 3) := by decide +kernel
theorem dX12_layChains_65 : decode cX12_layChains 65 = .ok (.aload_n 0, 1) := by decide +kernel
theorem dX12_layChains_66 : decode cX12_layChains 66 = .ok (.getfield 31, 3) := by decide +kernel
theorem dX12_layChains_69 : decode cX12_layChains 69 = .ok (.bipush 64, 2) := by decide +kernel
theorem dX12_layChains_71 : decode cX12_layChains 71 = .ok (.iload_n 1, 1) := by decide +kernel
theorem dX12_layChains_72 : decode cX12_layChains 72 = .ok (.iconst 1, 1) := by decide +kernel
theorem dX12_layChains_73 : decode cX12_layChains 73 = .ok (.isub, 1) := by decide +kernel
theorem dX12_layChains_74 : decode cX12_layChains 74 = .ok (.imul, 1) := by decide +kernel
theorem dX12_layChains_75 : decode cX12_layChains 75 = .ok (.iload 4, 2) := by decide +kernel
theorem dX12_layChains_77 : decode cX12_layChains 77 = .ok (.iadd, 1) := by decide +kernel
theorem dX12_layChains_78 : decode cX12_layChains 78 = .ok (.iaload, 1) := by decide +kernel
theorem dX12_layChains_79 : decode cX12_layChains 79 = .ok (.goto 4, 3) := by decide +kernel
theorem dX12_layChains_82 : decode cX12_layChains 82 = .ok (.iconst 0, 1) := by decide +kernel
theorem dX12_layChains_83 : decode cX12_layChains 83 = .ok (.iadd, 1) := by decide +kernel
theorem dX12_layChains_84 : decode cX12_layChains 84 = .ok (.istore_n 3, 1) := by decide +kernel
theorem dX12_layChains_85 : decode cX12_layChains 85 = .ok (.iinc 4 1, 3) := by decide +kernel
theorem dX12_layChains_88 : decode cX12_layChains 88 = .ok (.goto (-43), 3) := by decide +kernel
theorem dX12_layChains_91 : decode cX12_layChains 91 = .ok (.aload_n 0, 1) := by decide +kernel
theorem dX12_layChains_92 : decode cX12_layChains 92 = .ok (.getfield 31, 3) := by decide +kernel
theorem dX12_layChains_95 : decode cX12_layChains 95 = .ok (.bipush 64, 2) := by decide +kernel
theorem dX12_layChains_97 : decode cX12_layChains 97 = .ok (.iload_n 1, 1) := by decide +kernel
theorem dX12_layChains_98 : decode cX12_layChains 98 = .ok (.imul, 1) := by decide +kernel
theorem dX12_layChains_99 : decode cX12_layChains 99 = .ok (.iload_n 2, 1) := by decide +kernel
theorem dX12_layChains_100 : decode cX12_layChains 100 = .ok (.iadd, 1) := by decide +kernel
theorem dX12_layChains_101 : decode cX12_layChains 101 = .ok (.iload_n 3, 1) := by decide +kernel
theorem dX12_layChains_102 : decode cX12_layChains 102 = .ok (.iastore, 1) := by decide +kernel
theorem dX12_layChains_103 : decode cX12_layChains 103 = .ok (.iinc 2 1, 3) := by decide +kernel
theorem dX12_layChains_106 : decode cX12_layChains 106 = .ok (.goto (-74), 3) := by decide +kernel
theorem dX12_layChains_109 : decode cX12_layChains 109 = .ok (.iinc 1 1, 3) := by decide +kernel
theorem dX12_layChains_112 : decode cX12_layChains 112 = .ok (.goto (-87), 3) := by decide +kernel
theorem dX12_layChains_115 : decode cX12_layChains 115 = .ok (.return_, 1) := by decide +kernel
theorem dX12_chains_0 : decode cX12_chains 0 = .ok (.aload_n 0, 1) := by decide +kernel
theorem dX12_chains_1 : decode cX12_chains 1 = .ok (.iconst 0, 1) := by decide +kernel
theorem dX12_chains_2 : decode cX12_chains 2 = .ok (.putfield 44, 3) := by decide +kernel
theorem dX12_chains_5 : decode cX12_chains 5 = .ok (.aload_n 0, 1) := by decide +kernel
theorem dX12_chains_6 : decode cX12_chains 6 = .ok (.invokevirtual 180, 3) := by decide +kernel
theorem dX12_chains_9 : decode cX12_chains 9 = .ok (.ifCond .ne 6, 3) := by decide +kernel
theorem dX12_chains_12 : decode cX12_chains 12 = .ok (.ldc 184, 2) := by decide +kernel
theorem dX12_chains_14 : decode cX12_chains 14 = .ok (.ireturn, 1) := by decide +kernel
theorem dX12_chains_15 : decode cX12_chains 15 = .ok (.iload_n 1, 1) := by decide +kernel
theorem dX12_chains_16 : decode cX12_chains 16 = .ok (.i2l, 1) := by decide +kernel
theorem dX12_chains_17 : decode cX12_chains 17 = .ok (.lconst 1, 1) := by decide +kernel
theorem dX12_chains_18 : decode cX12_chains 18 = .ok (.ldc2_w 218, 3) := by decide +kernel
theorem dX12_chains_21 : decode cX12_chains 21 = .ok (.invokestatic 54, 3) := by decide +kernel
theorem dX12_chains_24 : decode cX12_chains 24 = .ok (.ifCond .eq 8, 3) := by decide +kernel
theorem dX12_chains_27 : decode cX12_chains 27 = .ok (.iload_n 2, 1) := by decide +kernel
theorem dX12_chains_28 : decode cX12_chains 28 = .ok (.iconst (-1), 1) := by decide +kernel
theorem dX12_chains_29 : decode cX12_chains 29 = .ok (.if_icmp .ge 6, 3) := by decide +kernel
theorem dX12_chains_32 : decode cX12_chains 32 = .ok (.ldc 64, 2) := by decide +kernel
theorem dX12_chains_34 : decode cX12_chains 34 = .ok (.ireturn, 1) := by decide +kernel
theorem dX12_chains_35 : decode cX12_chains 35 = .ok (.aload_n 0, 1) := by decide +kernel
theorem dX12_chains_36 : decode cX12_chains 36 = .ok (.invokevirtual 220, 3) := by decide +kernel
theorem dX12_chains_39 : decode cX12_chains 39 = .ok (.aload_n 0, 1) := by decide +kernel
theorem dX12_chains_40 : decode cX12_chains 40 = .ok (.getfield 19, 3) := by decide +kernel
theorem dX12_chains_43 : decode cX12_chains 43 = .ok (.iconst 2, 1) := by decide +kernel
theorem dX12_chains_44 : decode cX12_chains 44 = .ok (.iaload, 1) := by decide +kernel
theorem dX12_chains_45 : decode cX12_chains 45 = .ok (.istore_n 3, 1) := by decide +kernel
theorem dX12_chains_46 : decode cX12_chains 46 = .ok (.iload_n 2, 1) := by decide +kernel
theorem dX12_chains_47 : decode cX12_chains 47 = .ok (.ifCond .ge 15, 3) := by decide +kernel
theorem dX12_chains_50 : decode cX12_chains 50 = .ok (.aload_n 0, 1) := by decide +kernel
theorem dX12_chains_51 : decode cX12_chains 51 = .ok (.getfield 31, 3) := by decide +kernel
theorem dX12_chains_54 : decode cX12_chains 54 = .ok (.bipush 64, 2) := by decide +kernel
theorem dX12_chains_56 : decode cX12_chains 56 = .ok (.iload_n 1, 1) := by decide +kernel
theorem dX12_chains_57 : decode cX12_chains 57 = .ok (.imul, 1) := by decide +kernel
theorem dX12_chains_58 : decode cX12_chains 58 = .ok (.iload_n 3, 1) := by decide +kernel
theorem dX12_chains_59 : decode cX12_chains 59 = .ok (.iadd, 1) := by decide +kernel
theorem dX12_chains_60 : decode cX12_chains 60 = .ok (.iaload, 1) := by decide +kernel
theorem dX12_chains_61 : decode cX12_chains 61 = .ok (.ireturn, 1) := by decide +kernel
theorem dX12_chains_62 : decode cX12_chains 62 = .ok (.iload_n 2, 1) := by decide +kernel
theorem dX12_chains_63 : decode cX12_chains 63 = .ok (.iload_n 1, 1) := by decide +kernel
theorem dX12_chains_64 : decode cX12_chains 64 = .ok (.if_icmp .ge 17, 3) := by decide +kernel
theorem dX12_chains_67 : decode cX12_chains 67 = .ok (.aload_n 0, 1) := by decide +kernel
theorem dX12_chains_68 : decode cX12_chains 68 = .ok (.getfield 31, 3) := by decide +kernel
theorem dX12_chains_71 : decode cX12_chains 71 = .ok (.bipush 64, 2) := by decide +kernel
theorem dX12_chains_73 : decode cX12_chains 73 = .ok (.iload_n 1, 1) := by decide +kernel
theorem dX12_chains_74 : decode cX12_chains 74 = .ok (.imul, 1) := by decide +kernel
theorem dX12_chains_75 : decode cX12_chains 75 = .ok (.iload_n 3, 1) := by decide +kernel
theorem dX12_chains_76 : decode cX12_chains 76 = .ok (.iadd, 1) := by decide +kernel
theorem dX12_chains_77 : decode cX12_chains 77 = .ok (.iaload, 1) := by decide +kernel
theorem dX12_chains_78 : decode cX12_chains 78 = .ok (.ifCond .ne 6, 3) := by decide +kernel
theorem dX12_chains_81 : decode cX12_chains 81 = .ok (.ldc 80, 2) := by decide +kernel
theorem dX12_chains_83 : decode cX12_chains 83 = .ok (.ireturn, 1) := by decide +kernel
theorem dX12_chains_84 : decode cX12_chains 84 = .ok (.iconst 0, 1) := by decide +kernel
theorem dX12_chains_85 : decode cX12_chains 85 = .ok (.istore 4, 2) := by decide +kernel
theorem dX12_chains_87 : decode cX12_chains 87 = .ok (.iload 4, 2) := by decide +kernel
theorem dX12_chains_89 : decode cX12_chains 89 = .ok (.iload_n 2, 1) := by decide +kernel
theorem dX12_chains_90 : decode cX12_chains 90 = .ok (.if_icmp .gt 51, 3) := by decide +kernel
theorem dX12_chains_93 : decode cX12_chains 93 = .ok (.iconst 0, 1) := by decide +kernel
theorem dX12_chains_94 : decode cX12_chains 94 = .ok (.istore 5, 2) := by decide +kernel
theorem dX12_chains_96 : decode cX12_chains 96 = .ok (.aload_n 0, 1) := by decide +kernel
theorem dX12_chains_97 : decode cX12_chains 97 = .ok (.iload 5, 2) := by decide +kernel
theorem dX12_chains_99 : decode cX12_chains 99 = .ok (.iload_n 3, 1) := by decide +kernel
theorem dX12_chains_100 : decode cX12_chains 100 = .ok (.invokevirtual 188, 3) := by decide +kernel
theorem dX12_chains_103 : decode cX12_chains 103 = .ok (.ifCond .eq 23, 3) := by decide +kernel
theorem dX12_chains_106 : decode cX12_chains 106 = .ok (.aload_n 0, 1) := by decide +kernel
theorem dX12_chains_107 : decode cX12_chains 107 = .ok (.getfield 31, 3) := by decide +kernel
theorem dX12_chains_110 : decode cX12_chains 110 = .ok (.bipush 64, 2) := by decide +kernel
theorem dX12_chains_112 : decode cX12_chains 112 = .ok (.iload_n 1, 1) := by decide +kernel
theorem dX12_chains_113 : decode cX12_chains 113 = .ok (.iload 4, 2) := by decide +kernel
theorem dX12_chains_115 : decode cX12_chains 115 = .ok (.isub, 1) := by decide +kernel
theorem dX12_chains_116 : decode cX12_chains 116 = .ok (.iconst 1, 1) := by decide +kernel
theorem dX12_chains_117 : decode cX12_chains 117 = .ok (.isub, 1) := by decide +kernel
theorem dX12_chains_118 : decode cX12_chains 118 = .ok (.imul, 1) := by decide +kernel
theorem dX12_chains_119 : decode cX12_chains 119 = .ok (.iload 5, 2) := by decide +kernel
theorem dX12_chains_121 : decode cX12_chains 121 = .ok (.iadd, 1) := by decide +kernel
theorem dX12_chains_122 : decode cX12_chains 122 = .ok (.iaload, 1) := by decide +kernel
theorem dX12_chains_123 : decode cX12_chains 123 = .ok (.ifCond .ne 9, 3) := by decide +kernel
theorem dX12_chains_126 : decode cX12_chains 126 = .ok (.iinc 5 1, 3) := by decide +kernel
theorem dX12_chains_129 : decode cX12_chains 129 = .ok (.goto (-33), 3) := by decide +kernel
theorem dX12_chains_132 : decode cX12_chains 132 = .ok (.iload 5, 2) := by decide +kernel
theorem dX12_chains_134 : decode cX12_chains 134 = .ok (.istore_n 3, 1) := by decide +kernel
theorem dX12_chains_135 : decode cX12_chains 135 = .ok (.iinc 4 1, 3) := by decide +kernel
theorem dX12_chains_138 : decode cX12_chains 138 = .ok (.goto (-51), 3) := by decide +kernel
theorem dX12_chains_141 : decode cX12_chains 141 = .ok (.iload_n 3, 1) := by decide +kernel
theorem dX12_chains_142 : decode cX12_chains 142 = .ok (.ireturn, 1) := by decide +kernel
theorem dX12_breaks_0 : decode cX12_breaks 0 = .ok (.aload_n 0, 1) := by decide +kernel
theorem dX12_breaks_1 : decode cX12_breaks 1 = .ok (.iconst 0, 1) := by decide +kernel
theorem dX12_breaks_2 : decode cX12_breaks 2 = .ok (.putfield 44, 3) := by decide +kernel
theorem dX12_breaks_5 : decode cX12_breaks 5 = .ok (.aload_n 0, 1) := by decide +kernel
theorem dX12_breaks_6 : decode cX12_breaks 6 = .ok (.invokevirtual 180, 3) := by decide +kernel
theorem dX12_breaks_9 : decode cX12_breaks 9 = .ok (.ifCond .ne 6, 3) := by decide +kernel
theorem dX12_breaks_12 : decode cX12_breaks 12 = .ok (.ldc 184, 2) := by decide +kernel
theorem dX12_breaks_14 : decode cX12_breaks 14 = .ok (.ireturn, 1) := by decide +kernel
theorem dX12_breaks_15 : decode cX12_breaks 15 = .ok (.iload_n 1, 1) := by decide +kernel
theorem dX12_breaks_16 : decode cX12_breaks 16 = .ok (.invokestatic 58, 3) := by decide +kernel
theorem dX12_breaks_19 : decode cX12_breaks 19 = .ok (.ifCond .eq 15, 3) := by decide +kernel
theorem dX12_breaks_22 : decode cX12_breaks 22 = .ok (.iload_n 3, 1) := by decide +kernel
theorem dX12_breaks_23 : decode cX12_breaks 23 = .ok (.i2l, 1) := by decide +kernel
theorem dX12_breaks_24 : decode cX12_breaks 24 = .ok (.lconst 0, 1) := by decide +kernel
theorem dX12_breaks_25 : decode cX12_breaks 25 = .ok (.ldc2_w 223, 3) := by decide +kernel
theorem dX12_breaks_28 : decode cX12_breaks 28 = .ok (.invokestatic 54, 3) := by decide +kernel
theorem dX12_breaks_31 : decode cX12_breaks 31 = .ok (.ifCond .ne 6, 3) := by decide +kernel
theorem dX12_breaks_34 : decode cX12_breaks 34 = .ok (.ldc 64, 2) := by decide +kernel
theorem dX12_breaks_36 : decode cX12_breaks 36 = .ok (.ireturn, 1) := by decide +kernel
theorem dX12_breaks_37 : decode cX12_breaks 37 = .ok (.aload_n 0, 1) := by decide +kernel
theorem dX12_breaks_38 : decode cX12_breaks 38 = .ok (.iload_n 1, 1) := by decide +kernel
theorem dX12_breaks_39 : decode cX12_breaks 39 = .ok (.iload_n 2, 1) := by decide +kernel
theorem dX12_breaks_40 : decode cX12_breaks 40 = .ok (.iload_n 3, 1) := by decide +kernel
theorem dX12_breaks_41 : decode cX12_breaks 41 = .ok (.invokevirtual 197, 3) := by decide +kernel
theorem dX12_breaks_44 : decode cX12_breaks 44 = .ok (.istore 4, 2) := by decide +kernel
theorem dX12_breaks_46 : decode cX12_breaks 46 = .ok (.iload 4, 2) := by decide +kernel
theorem dX12_breaks_48 : decode cX12_breaks 48 = .ok (.ifCond .le 10, 3) := by decide +kernel
theorem dX12_breaks_51 : decode cX12_breaks 51 = .ok (.aload_n 0, 1) := by decide +kernel
theorem dX12_breaks_52 : decode cX12_breaks 52 = .ok (.iload 4, 2) := by decide +kernel
theorem dX12_breaks_54 : decode cX12_breaks 54 = .ok (.invokevirtual 65, 3) := by decide +kernel
theorem dX12_breaks_57 : decode cX12_breaks 57 = .ok (.ireturn, 1) := by decide +kernel
theorem dX12_breaks_58 : decode cX12_breaks 58 = .ok (.bipush 40, 2) := by decide +kernel
theorem dX12_breaks_60 : decode cX12_breaks 60 = .ok (.iload_n 1, 1) := by decide +kernel
theorem dX12_breaks_61 : decode cX12_breaks 61 = .ok (.imul, 1) := by decide +kernel
theorem dX12_breaks_62 : decode cX12_breaks 62 = .ok (.iload_n 2, 1) := by decide +kernel
theorem dX12_breaks_63 : decode cX12_breaks 63 = .ok (.iadd, 1) := by decide +kernel
theorem dX12_breaks_64 : decode cX12_breaks 64 = .ok (.istore 5, 2) := by decide +kernel
theorem dX12_breaks_66 : decode cX12_breaks 66 = .ok (.aload_n 0, 1) := by decide +kernel
theorem dX12_breaks_67 : decode cX12_breaks 67 = .ok (.iload 5, 2) := by decide +kernel
theorem dX12_breaks_69 : decode cX12_breaks 69 = .ok (.iload_n 3, 1) := by decide +kernel
theorem dX12_breaks_70 : decode cX12_breaks 70 = .ok (.invokevirtual 201, 3) := by decide +kernel
theorem dX12_breaks_73 : decode cX12_breaks 73 = .ok (.ifCond .ne 6, 3) := by decide +kernel
theorem dX12_breaks_76 : decode cX12_breaks 76 = .ok (.ldc 64, 2) := by decide +kernel
theorem dX12_breaks_78 : decode cX12_breaks 78 = .ok (.ireturn, 1) := by decide +kernel
theorem dX12_breaks_79 : decode cX12_breaks 79 = .ok (.aload_n 0, 1) := by decide +kernel
theorem dX12_breaks_80 : decode cX12_breaks 80 = .ok (.iconst 0, 1) := by decide +kernel
theorem dX12_breaks_81 : decode cX12_breaks 81 = .ok (.putfield 48, 3) := by decide +kernel
theorem dX12_breaks_84 : decode cX12_breaks 84 = .ok (.aload_n 0, 1) := by decide +kernel
theorem dX12_breaks_85 : decode cX12_breaks 85 = .ok (.getfield 19, 3) := by decide +kernel
theorem dX12_breaks_88 : decode cX12_breaks 88 = .ok (.iconst 2, 1) := by decide +kernel
theorem dX12_breaks_89 : decode cX12_breaks 89 = .ok (.iaload, 1) := by decide +kernel
theorem dX12_breaks_90 : decode cX12_breaks 90 = .ok (.istore 6, 2) := by decide +kernel
theorem dX12_breaks_92 : decode cX12_breaks 92 = .ok (.iconst 0, 1) := by decide +kernel
theorem dX12_breaks_93 : decode cX12_breaks 93 = .ok (.istore 7, 2) := by decide +kernel
theorem dX12_breaks_95 : decode cX12_breaks 95 = .ok (.iload 7, 2) := by decide +kernel
theorem dX12_breaks_97 : decode cX12_breaks 97 = .ok (.iload_n 3, 1) := by decide +kernel
theorem dX12_breaks_98 : decode cX12_breaks 98 = .ok (.if_icmp .ge 43, 3) := by decide +kernel
theorem dX12_breaks_101 : decode cX12_breaks 101 = .ok (.aload_n 0, 1) := by decide +kernel
theorem dX12_breaks_102 : decode cX12_breaks 102 = .ok (.aload_n 0, 1) := by decide +kernel
theorem dX12_breaks_103 : decode cX12_breaks 103 = .ok (.getfield 16, 3) := by decide +kernel
theorem dX12_breaks_106 : decode cX12_breaks 106 = .ok (.iload 5, 2) := by decide +kernel
theorem dX12_breaks_108 : decode cX12_breaks 108 = .ok (.iload 7, 2) := by decide +kernel
theorem dX12_breaks_110 : decode cX12_breaks 110 = .ok (.iadd, 1) := by decide +kernel
theorem dX12_breaks_111 : decode cX12_breaks 111 = .ok (.iaload, 1) := by decide +kernel
theorem dX12_breaks_112 : decode cX12_breaks 112 = .ok (.iload 6, 2) := by decide +kernel
theorem dX12_breaks_114 : decode cX12_breaks 114 = .ok (.invokevirtual 188, 3) := by decide +kernel
theorem dX12_breaks_117 : decode cX12_breaks 117 = .ok (.ifCond .ne 6, 3) := by decide +kernel
theorem dX12_breaks_120 : decode cX12_breaks 120 = .ok (.iload 7, 2) := by decide +kernel
theorem dX12_breaks_122 : decode cX12_breaks 122 = .ok (.ireturn, 1) := by decide +kernel
theorem dX12_breaks_123 : decode cX12_breaks 123 = .ok (.aload_n 0, 1) := by decide +kernel
theorem dX12_breaks_124 : decode cX12_breaks 124 = .ok (.getfield 16, 3) := by decide +kernel
theorem dX12_breaks_127 : decode cX12_breaks 127 = .ok (.iload 5, 2) := by decide +kernel
theorem dX12_breaks_129 : decode cX12_breaks 129 = .ok (.iload 7, 2) := by decide +kernel
theorem dX12_breaks_131 : decode cX12_breaks 131 = .ok (.iadd, 1) := by decide +kernel
theorem dX12_breaks_132 : decode cX12_breaks 132 = .ok (.iaload, 1) := by decide +kernel
theorem dX12_breaks_133 : decode cX12_breaks 133 = .ok (.istore 6, 2) := by decide +kernel
theorem dX12_breaks_135 : decode cX12_breaks 135 = .ok (.iinc 7 1, 3) := by decide +kernel
theorem dX12_breaks_138 : decode cX12_breaks 138 = .ok (.goto (-43), 3) := by decide +kernel
theorem dX12_breaks_141 : decode cX12_breaks 141 = .ok (.ldc 80, 2) := by decide +kernel
theorem dX12_breaks_143 : decode cX12_breaks 143 = .ok (.ireturn, 1) := by decide +kernel
theorem dX12_oddsOf_0 : decode cX12_oddsOf 0 = .ok (.aload_n 0, 1) := by decide +kernel
theorem dX12_oddsOf_1 : decode cX12_oddsOf 1 = .ok (.iload_n 1, 1) := by decide +kernel
theorem dX12_oddsOf_2 : decode cX12_oddsOf 2 = .ok (.aload_n 0, 1) := by decide +kernel
theorem dX12_oddsOf_3 : decode cX12_oddsOf 3 = .ok (.getfield 19, 3) := by decide +kernel
theorem dX12_oddsOf_6 : decode cX12_oddsOf 6 = .ok (.iconst 2, 1) := by decide +kernel
theorem dX12_oddsOf_7 : decode cX12_oddsOf 7 = .ok (.iaload, 1) := by decide +kernel
theorem dX12_oddsOf_8 : decode cX12_oddsOf 8 = .ok (.iconst (-1), 1) := by decide +kernel
theorem dX12_oddsOf_9 : decode cX12_oddsOf 9 = .ok (.iconst 0, 1) := by decide +kernel
theorem dX12_oddsOf_10 : decode cX12_oddsOf 10 = .ok (.invokevirtual 173, 3) := by decide +kernel
theorem dX12_oddsOf_13 : decode cX12_oddsOf 13 = .ok (.istore_n 3, 1) := by decide +kernel
theorem dX12_oddsOf_14 : decode cX12_oddsOf 14 = .ok (.iconst 1, 1) := by decide +kernel
theorem dX12_oddsOf_15 : decode cX12_oddsOf 15 = .ok (.istore 4, 2) := by decide +kernel
theorem dX12_oddsOf_17 : decode cX12_oddsOf 17 = .ok (.iconst 0, 1) := by decide +kernel
theorem dX12_oddsOf_18 : decode cX12_oddsOf 18 = .ok (.istore 5, 2) := by decide +kernel
theorem dX12_oddsOf_20 : decode cX12_oddsOf 20 = .ok (.iload 5, 2) := by decide +kernel
theorem dX12_oddsOf_22 : decode cX12_oddsOf 22 = .ok (.aload_n 0, 1) := by decide +kernel
theorem dX12_oddsOf_23 : decode cX12_oddsOf 23 = .ok (.getfield 19, 3) := by decide +kernel
theorem dX12_oddsOf_26 : decode cX12_oddsOf 26 = .ok (.iconst 0, 1) := by decide +kernel
theorem dX12_oddsOf_27 : decode cX12_oddsOf 27 = .ok (.iaload, 1) := by decide +kernel
theorem dX12_oddsOf_28 : decode cX12_oddsOf 28 = .ok (.if_icmp .ge 89, 3) := by decide +kernel
theorem dX12_oddsOf_31 : decode cX12_oddsOf 31 = .ok (.iload_n 3, 1) := by decide +kernel
theorem dX12_oddsOf_32 : decode cX12_oddsOf 32 = .ok (.iload 5, 2) := by decide +kernel
theorem dX12_oddsOf_34 : decode cX12_oddsOf 34 = .ok (.ishr, 1) := by decide +kernel
theorem dX12_oddsOf_35 : decode cX12_oddsOf 35 = .ok (.iconst 1, 1) := by decide +kernel
theorem dX12_oddsOf_36 : decode cX12_oddsOf 36 = .ok (.iand, 1) := by decide +kernel
theorem dX12_oddsOf_37 : decode cX12_oddsOf 37 = .ok (.iload_n 2, 1) := by decide +kernel
theorem dX12_oddsOf_38 : decode cX12_oddsOf 38 = .ok (.iload 5, 2) := by decide +kernel
theorem dX12_oddsOf_40 : decode cX12_oddsOf 40 = .ok (.ishr, 1) := by decide +kernel
theorem dX12_oddsOf_41 : decode cX12_oddsOf 41 = .ok (.iconst 1, 1) := by decide +kernel
theorem dX12_oddsOf_42 : decode cX12_oddsOf 42 = .ok (.iand, 1) := by decide +kernel
theorem dX12_oddsOf_43 : decode cX12_oddsOf 43 = .ok (.if_icmp .ne 7, 3) := by decide +kernel
theorem dX12_oddsOf_46 : decode cX12_oddsOf 46 = .ok (.iconst 1, 1) := by decide +kernel
theorem dX12_oddsOf_47 : decode cX12_oddsOf 47 = .ok (.goto 4, 3) := by decide +kernel
theorem dX12_oddsOf_50 : decode cX12_oddsOf 50 = .ok (.iconst 0, 1) := by decide +kernel
theorem dX12_oddsOf_51 : decode cX12_oddsOf 51 = .ok (.istore 6, 2) := by decide +kernel
theorem dX12_oddsOf_53 : decode cX12_oddsOf 53 = .ok (.aload_n 0, 1) := by decide +kernel
theorem dX12_oddsOf_54 : decode cX12_oddsOf 54 = .ok (.iload 5, 2) := by decide +kernel
theorem dX12_oddsOf_56 : decode cX12_oddsOf 56 = .ok (.iconst 0, 1) := by decide +kernel
theorem dX12_oddsOf_57 : decode cX12_oddsOf 57 = .ok (.invokevirtual 163, 3) := by decide +kernel
theorem dX12_oddsOf_60 : decode cX12_oddsOf 60 = .ok (.iconst 3, 1) := by decide +kernel
theorem dX12_oddsOf_61 : decode cX12_oddsOf 61 = .ok (.if_icmp .ne 31, 3) := by decide +kernel
theorem dX12_oddsOf_64 : decode cX12_oddsOf 64 = .ok (.iload 6, 2) := by decide +kernel
theorem dX12_oddsOf_66 : decode cX12_oddsOf 66 = .ok (.ifCond .eq 16, 3) := by decide +kernel
theorem dX12_oddsOf_69 : decode cX12_oddsOf 69 = .ok (.bipush 10, 2) := by decide +kernel
theorem dX12_oddsOf_71 : decode cX12_oddsOf 71 = .ok (.aload_n 0, 1) := by decide +kernel
theorem dX12_oddsOf_72 : decode cX12_oddsOf 72 = .ok (.iload 5, 2) := by decide +kernel
theorem dX12_oddsOf_74 : decode cX12_oddsOf 74 = .ok (.iconst 2, 1) := by decide +kernel
theorem dX12_oddsOf_75 : decode cX12_oddsOf 75 = .ok (.invokevirtual 163, 3) := by decide +kernel
theorem dX12_oddsOf_78 : decode cX12_oddsOf 78 = .ok (.isub, 1) := by decide +kernel
theorem dX12_oddsOf_79 : decode cX12_oddsOf 79 = .ok (.goto 23, 3) := by decide +kernel
theorem dX12_oddsOf_82 : decode cX12_oddsOf 82 = .ok (.aload_n 0, 1) := by decide +kernel
theorem dX12_oddsOf_83 : decode cX12_oddsOf 83 = .ok (.iload 5, 2) := by decide +kernel
theorem dX12_oddsOf_85 : decode cX12_oddsOf 85 = .ok (.iconst 2, 1) := by decide +kernel
theorem dX12_oddsOf_86 : decode cX12_oddsOf 86 = .ok (.invokevirtual 163, 3) := by decide +kernel
theorem dX12_oddsOf_89 : decode cX12_oddsOf 89 = .ok (.goto 13, 3) := by decide +kernel
theorem dX12_oddsOf_92 : decode cX12_oddsOf 92 = .ok (.iload 6, 2) := by decide +kernel
theorem dX12_oddsOf_94 : decode cX12_oddsOf 94 = .ok (.ifCond .eq 7, 3) := by decide +kernel
theorem dX12_oddsOf_97 : decode cX12_oddsOf 97 = .ok (.iconst 1, 1) := by decide +kernel
theorem dX12_oddsOf_98 : decode cX12_oddsOf 98 = .ok (.goto 4, 3) := by decide +kernel
theorem dX12_oddsOf_101 : decode cX12_oddsOf 101 = .ok (.iconst 0, 1) := by decide +kernel
theorem dX12_oddsOf_102 : decode cX12_oddsOf 102 = .ok (.istore 7, 2) := by decide +kernel
theorem dX12_oddsOf_104 : decode cX12_oddsOf 104 = .ok (.iload 4, 2) := by decide +kernel
theorem dX12_oddsOf_106 : decode cX12_oddsOf 106 = .ok (.iload 7, 2) := by decide +kernel
theorem dX12_oddsOf_108 : decode cX12_oddsOf 108 = .ok (.imul, 1) := by decide +kernel
theorem dX12_oddsOf_109 : decode cX12_oddsOf 109 = .ok (.istore 4, 2) := by decide +kernel
theorem dX12_oddsOf_111 : decode cX12_oddsOf 111 = .ok (.iinc 5 1, 3) := by decide +kernel
theorem dX12_oddsOf_114 : decode cX12_oddsOf 114 = .ok (.goto (-94), 3) := by decide +kernel
theorem dX12_oddsOf_117 : decode cX12_oddsOf 117 = .ok (.iload 4, 2) := by decide +kernel
theorem dX12_oddsOf_119 : decode cX12_oddsOf 119 = .ok (.ireturn, 1) := by decide +kernel
theorem dX12_oddsIn_0 : decode cX12_oddsIn 0 = .ok (.iconst 1, 1) := by decide +kernel
theorem dX12_oddsIn_1 : decode cX12_oddsIn 1 = .ok (.istore_n 1, 1) := by decide +kernel
theorem dX12_oddsIn_2 : decode cX12_oddsIn 2 = .ok (.iconst 0, 1) := by decide +kernel
theorem dX12_oddsIn_3 : decode cX12_oddsIn 3 = .ok (.istore_n 2, 1) := by decide +kernel
theorem dX12_oddsIn_4 : decode cX12_oddsIn 4 = .ok (.iload_n 2, 1) := by decide +kernel
theorem dX12_oddsIn_5 : decode cX12_oddsIn 5 = .ok (.aload_n 0, 1) := by decide +kernel
theorem dX12_oddsIn_6 : decode cX12_oddsIn 6 = .ok (.getfield 19, 3) := by decide +kernel
theorem dX12_oddsIn_9 : decode cX12_oddsIn 9 = .ok (.iconst 0, 1) := by decide +kernel
theorem dX12_oddsIn_10 : decode cX12_oddsIn 10 = .ok (.iaload, 1) := by decide +kernel
theorem dX12_oddsIn_11 : decode cX12_oddsIn 11 = .ok (.if_icmp .ge 28, 3) := by decide +kernel
theorem dX12_oddsIn_14 : decode cX12_oddsIn 14 = .ok (.iload_n 1, 1) := by decide +kernel
theorem dX12_oddsIn_15 : decode cX12_oddsIn 15 = .ok (.aload_n 0, 1) := by decide +kernel
theorem dX12_oddsIn_16 : decode cX12_oddsIn 16 = .ok (.iload_n 2, 1) := by decide +kernel
theorem dX12_oddsIn_17 : decode cX12_oddsIn 17 = .ok (.iconst 0, 1) := by decide +kernel
theorem dX12_oddsIn_18 : decode cX12_oddsIn 18 = .ok (.invokevirtual 163, 3) := by decide +kernel
theorem dX12_oddsIn_21 : decode cX12_oddsIn 21 = .ok (.iconst 3, 1) := by decide +kernel
theorem dX12_oddsIn_22 : decode cX12_oddsIn 22 = .ok (.if_icmp .ne 8, 3) := by decide +kernel
theorem dX12_oddsIn_25 : decode cX12_oddsIn 25 = .ok (.bipush 10, 2) := by decide +kernel
theorem dX12_oddsIn_27 : decode cX12_oddsIn 27 = .ok (.goto 4, 3) := by decide +kernel
theorem dX12_oddsIn_30 : decode cX12_oddsIn 30 = .ok (.iconst 1, 1) := by decide +kernel
theorem dX12_oddsIn_31 : decode cX12_oddsIn 31 = .ok (.imul, 1) := by decide +kernel
theorem dX12_oddsIn_32 : decode cX12_oddsIn 32 = .ok (.istore_n 1, 1) := by decide +kernel
theorem dX12_oddsIn_33 : decode cX12_oddsIn 33 = .ok (.iinc 2 1, 3) := by decide +kernel
theorem dX12_oddsIn_36 : decode cX12_oddsIn 36 = .ok (.goto (-32), 3) := by decide +kernel
theorem dX12_oddsIn_39 : decode cX12_oddsIn 39 = .ok (.iload_n 1, 1) := by decide +kernel
theorem dX12_oddsIn_40 : decode cX12_oddsIn 40 = .ok (.ireturn, 1) := by decide +kernel
theorem dX12_comes_0 : decode cX12_comes 0 = .ok (.aload_n 0, 1) := by decide +kernel
theorem dX12_comes_1 : decode cX12_comes 1 = .ok (.iconst 0, 1) := by decide +kernel
theorem dX12_comes_2 : decode cX12_comes 2 = .ok (.putfield 44, 3) := by decide +kernel
theorem dX12_comes_5 : decode cX12_comes 5 = .ok (.aload_n 0, 1) := by decide +kernel
theorem dX12_comes_6 : decode cX12_comes 6 = .ok (.invokevirtual 180, 3) := by decide +kernel
theorem dX12_comes_9 : decode cX12_comes 9 = .ok (.ifCond .ne 6, 3) := by decide +kernel
theorem dX12_comes_12 : decode cX12_comes 12 = .ok (.ldc 184, 2) := by decide +kernel
theorem dX12_comes_14 : decode cX12_comes 14 = .ok (.ireturn, 1) := by decide +kernel
theorem dX12_comes_15 : decode cX12_comes 15 = .ok (.aload_n 0, 1) := by decide +kernel
theorem dX12_comes_16 : decode cX12_comes 16 = .ok (.iload_n 1, 1) := by decide +kernel
theorem dX12_comes_17 : decode cX12_comes 17 = .ok (.invokevirtual 185, 3) := by decide +kernel
theorem dX12_comes_20 : decode cX12_comes 20 = .ok (.ifCond .eq 21, 3) := by decide +kernel
theorem dX12_comes_23 : decode cX12_comes 23 = .ok (.aload_n 0, 1) := by decide +kernel
theorem dX12_comes_24 : decode cX12_comes 24 = .ok (.iload_n 2, 1) := by decide +kernel
theorem dX12_comes_25 : decode cX12_comes 25 = .ok (.invokevirtual 185, 3) := by decide +kernel
theorem dX12_comes_28 : decode cX12_comes 28 = .ok (.ifCond .eq 13, 3) := by decide +kernel
theorem dX12_comes_31 : decode cX12_comes 31 = .ok (.iload_n 3, 1) := by decide +kernel
theorem dX12_comes_32 : decode cX12_comes 32 = .ok (.i2l, 1) := by decide +kernel
theorem dX12_comes_33 : decode cX12_comes 33 = .ok (.lconst 0, 1) := by decide +kernel
theorem dX12_comes_34 : decode cX12_comes 34 = .ok (.lconst 1, 1) := by decide +kernel
theorem dX12_comes_35 : decode cX12_comes 35 = .ok (.invokestatic 54, 3) := by decide +kernel
theorem dX12_comes_38 : decode cX12_comes 38 = .ok (.ifCond .ne 6, 3) := by decide +kernel
theorem dX12_comes_41 : decode cX12_comes 41 = .ok (.ldc 64, 2) := by decide +kernel
theorem dX12_comes_43 : decode cX12_comes 43 = .ok (.ireturn, 1) := by decide +kernel
theorem dX12_comes_44 : decode cX12_comes 44 = .ok (.aload_n 0, 1) := by decide +kernel
theorem dX12_comes_45 : decode cX12_comes 45 = .ok (.iload_n 1, 1) := by decide +kernel
theorem dX12_comes_46 : decode cX12_comes 46 = .ok (.iload_n 2, 1) := by decide +kernel
theorem dX12_comes_47 : decode cX12_comes 47 = .ok (.invokevirtual 225, 3) := by decide +kernel
theorem dX12_comes_50 : decode cX12_comes 50 = .ok (.istore 4, 2) := by decide +kernel
theorem dX12_comes_52 : decode cX12_comes 52 = .ok (.iload 4, 2) := by decide +kernel
theorem dX12_comes_54 : decode cX12_comes 54 = .ok (.istore 5, 2) := by decide +kernel
theorem dX12_comes_56 : decode cX12_comes 56 = .ok (.aload_n 0, 1) := by decide +kernel
theorem dX12_comes_57 : decode cX12_comes 57 = .ok (.invokevirtual 228, 3) := by decide +kernel
theorem dX12_comes_60 : decode cX12_comes 60 = .ok (.istore 6, 2) := by decide +kernel
theorem dX12_comes_62 : decode cX12_comes 62 = .ok (.iload 6, 2) := by decide +kernel
theorem dX12_comes_64 : decode cX12_comes 64 = .ok (.ifCond .eq 21, 3) := by decide +kernel
theorem dX12_comes_67 : decode cX12_comes 67 = .ok (.iload 5, 2) := by decide +kernel
theorem dX12_comes_69 : decode cX12_comes 69 = .ok (.iload 6, 2) := by decide +kernel
theorem dX12_comes_71 : decode cX12_comes 71 = .ok (.irem, 1) := by decide +kernel
theorem dX12_comes_72 : decode cX12_comes 72 = .ok (.istore 7, 2) := by decide +kernel
theorem dX12_comes_74 : decode cX12_comes 74 = .ok (.iload 6, 2) := by decide +kernel
theorem dX12_comes_76 : decode cX12_comes 76 = .ok (.istore 5, 2) := by decide +kernel
theorem dX12_comes_78 : decode cX12_comes 78 = .ok (.iload 7, 2) := by decide +kernel
theorem dX12_comes_80 : decode cX12_comes 80 = .ok (.istore 6, 2) := by decide +kernel
theorem dX12_comes_82 : decode cX12_comes 82 = .ok (.goto (-20), 3) := by decide +kernel
theorem dX12_comes_85 : decode cX12_comes 85 = .ok (.iload_n 3, 1) := by decide +kernel
theorem dX12_comes_86 : decode cX12_comes 86 = .ok (.ifCond .ne 8, 3) := by decide +kernel
theorem dX12_comes_89 : decode cX12_comes 89 = .ok (.iload 4, 2) := by decide +kernel
theorem dX12_comes_91 : decode cX12_comes 91 = .ok (.goto 7, 3) := by decide +kernel
theorem dX12_comes_94 : decode cX12_comes 94 = .ok (.aload_n 0, 1) := by decide +kernel
theorem dX12_comes_95 : decode cX12_comes 95 = .ok (.invokevirtual 228, 3) := by decide +kernel
theorem dX12_comes_98 : decode cX12_comes 98 = .ok (.iload 5, 2) := by decide +kernel
theorem dX12_comes_100 : decode cX12_comes 100 = .ok (.idiv, 1) := by decide +kernel
theorem dX12_comes_101 : decode cX12_comes 101 = .ok (.ireturn, 1) := by decide +kernel
theorem dX12_likeliest_0 : decode cX12_likeliest 0 = .ok (.aload_n 0, 1) := by decide +kernel
theorem dX12_likeliest_1 : decode cX12_likeliest 1 = .ok (.iconst 0, 1) := by decide +kernel
theorem dX12_likeliest_2 : decode cX12_likeliest 2 = .ok (.putfield 44, 3) := by decide +kernel
theorem dX12_likeliest_5 : decode cX12_likeliest 5 = .ok (.aload_n 0, 1) := by decide +kernel
theorem dX12_likeliest_6 : decode cX12_likeliest 6 = .ok (.invokevirtual 180, 3) := by decide +kernel
theorem dX12_likeliest_9 : decode cX12_likeliest 9 = .ok (.ifCond .ne 6, 3) := by decide +kernel
theorem dX12_likeliest_12 : decode cX12_likeliest 12 = .ok (.ldc 184, 2) := by decide +kernel
theorem dX12_likeliest_14 : decode cX12_likeliest 14 = .ok (.ireturn, 1) := by decide +kernel
theorem dX12_likeliest_15 : decode cX12_likeliest 15 = .ok (.iconst 0, 1) := by decide +kernel
theorem dX12_likeliest_16 : decode cX12_likeliest 16 = .ok (.istore_n 1, 1) := by decide +kernel
theorem dX12_likeliest_17 : decode cX12_likeliest 17 = .ok (.iconst 1, 1) := by decide +kernel
theorem dX12_likeliest_18 : decode cX12_likeliest 18 = .ok (.istore_n 2, 1) := by decide +kernel
theorem dX12_likeliest_19 : decode cX12_likeliest 19 = .ok (.iload_n 2, 1) := by decide +kernel
theorem dX12_likeliest_20 : decode cX12_likeliest 20 = .ok (.aload_n 0, 1) := by decide +kernel
theorem dX12_likeliest_21 : decode cX12_likeliest 21 = .ok (.invokevirtual 160, 3) := by decide +kernel
theorem dX12_likeliest_24 : decode cX12_likeliest 24 = .ok (.if_icmp .gt 30, 3) := by decide +kernel
theorem dX12_likeliest_27 : decode cX12_likeliest 27 = .ok (.aload_n 0, 1) := by decide +kernel
theorem dX12_likeliest_28 : decode cX12_likeliest 28 = .ok (.iload_n 2, 1) := by decide +kernel
theorem dX12_likeliest_29 : decode cX12_likeliest 29 = .ok (.iload_n 2, 1) := by decide +kernel
theorem dX12_likeliest_30 : decode cX12_likeliest 30 = .ok (.invokevirtual 225, 3) := by decide +kernel
theorem dX12_likeliest_33 : decode cX12_likeliest 33 = .ok (.aload_n 0, 1) := by decide +kernel
theorem dX12_likeliest_34 : decode cX12_likeliest 34 = .ok (.iload_n 1, 1) := by decide +kernel
theorem dX12_likeliest_35 : decode cX12_likeliest 35 = .ok (.iload_n 1, 1) := by decide +kernel
theorem dX12_likeliest_36 : decode cX12_likeliest 36 = .ok (.invokevirtual 225, 3) := by decide +kernel
theorem dX12_likeliest_39 : decode cX12_likeliest 39 = .ok (.if_icmp .le 7, 3) := by decide +kernel
theorem dX12_likeliest_42 : decode cX12_likeliest 42 = .ok (.iload_n 2, 1) := by decide +kernel
theorem dX12_likeliest_43 : decode cX12_likeliest 43 = .ok (.goto 4, 3) := by decide +kernel
theorem dX12_likeliest_46 : decode cX12_likeliest 46 = .ok (.iload_n 1, 1) := by decide +kernel
theorem dX12_likeliest_47 : decode cX12_likeliest 47 = .ok (.istore_n 1, 1) := by decide +kernel
theorem dX12_likeliest_48 : decode cX12_likeliest 48 = .ok (.iinc 2 1, 3) := by decide +kernel
theorem dX12_likeliest_51 : decode cX12_likeliest 51 = .ok (.goto (-32), 3) := by decide +kernel
theorem dX12_likeliest_54 : decode cX12_likeliest 54 = .ok (.iload_n 1, 1) := by decide +kernel
theorem dX12_likeliest_55 : decode cX12_likeliest 55 = .ok (.ireturn, 1) := by decide +kernel
theorem dX12_lost_0 : decode cX12_lost 0 = .ok (.aload_n 0, 1) := by decide +kernel
theorem dX12_lost_1 : decode cX12_lost 1 = .ok (.iconst 0, 1) := by decide +kernel
theorem dX12_lost_2 : decode cX12_lost 2 = .ok (.putfield 44, 3) := by decide +kernel
theorem dX12_lost_5 : decode cX12_lost 5 = .ok (.aload_n 0, 1) := by decide +kernel
theorem dX12_lost_6 : decode cX12_lost 6 = .ok (.invokevirtual 180, 3) := by decide +kernel
theorem dX12_lost_9 : decode cX12_lost 9 = .ok (.ifCond .ne 6, 3) := by decide +kernel
theorem dX12_lost_12 : decode cX12_lost 12 = .ok (.ldc 184, 2) := by decide +kernel
theorem dX12_lost_14 : decode cX12_lost 14 = .ok (.ireturn, 1) := by decide +kernel
theorem dX12_lost_15 : decode cX12_lost 15 = .ok (.aload_n 0, 1) := by decide +kernel
theorem dX12_lost_16 : decode cX12_lost 16 = .ok (.iload_n 1, 1) := by decide +kernel
theorem dX12_lost_17 : decode cX12_lost 17 = .ok (.invokevirtual 185, 3) := by decide +kernel
theorem dX12_lost_20 : decode cX12_lost 20 = .ok (.ifCond .eq 13, 3) := by decide +kernel
theorem dX12_lost_23 : decode cX12_lost 23 = .ok (.iload_n 2, 1) := by decide +kernel
theorem dX12_lost_24 : decode cX12_lost 24 = .ok (.i2l, 1) := by decide +kernel
theorem dX12_lost_25 : decode cX12_lost 25 = .ok (.lconst 0, 1) := by decide +kernel
theorem dX12_lost_26 : decode cX12_lost 26 = .ok (.lconst 1, 1) := by decide +kernel
theorem dX12_lost_27 : decode cX12_lost 27 = .ok (.invokestatic 54, 3) := by decide +kernel
theorem dX12_lost_30 : decode cX12_lost 30 = .ok (.ifCond .ne 6, 3) := by decide +kernel
theorem dX12_lost_33 : decode cX12_lost 33 = .ok (.ldc 64, 2) := by decide +kernel
theorem dX12_lost_35 : decode cX12_lost 35 = .ok (.ireturn, 1) := by decide +kernel
theorem dX12_lost_36 : decode cX12_lost 36 = .ok (.iconst 0, 1) := by decide +kernel
theorem dX12_lost_37 : decode cX12_lost 37 = .ok (.istore_n 3, 1) := by decide +kernel
theorem dX12_lost_38 : decode cX12_lost 38 = .ok (.ldc 80, 2) := by decide +kernel
theorem dX12_lost_40 : decode cX12_lost 40 = .ok (.istore 4, 2) := by decide +kernel
theorem dX12_lost_42 : decode cX12_lost 42 = .ok (.aload_n 0, 1) := by decide +kernel
theorem dX12_lost_43 : decode cX12_lost 43 = .ok (.invokevirtual 160, 3) := by decide +kernel
theorem dX12_lost_46 : decode cX12_lost 46 = .ok (.istore 5, 2) := by decide +kernel
theorem dX12_lost_48 : decode cX12_lost 48 = .ok (.iload 5, 2) := by decide +kernel
theorem dX12_lost_50 : decode cX12_lost 50 = .ok (.ifCond .lt 34, 3) := by decide +kernel
theorem dX12_lost_53 : decode cX12_lost 53 = .ok (.aload_n 0, 1) := by decide +kernel
theorem dX12_lost_54 : decode cX12_lost 54 = .ok (.iload 5, 2) := by decide +kernel
theorem dX12_lost_56 : decode cX12_lost 56 = .ok (.aload_n 0, 1) := by decide +kernel
theorem dX12_lost_57 : decode cX12_lost 57 = .ok (.getfield 19, 3) := by decide +kernel
theorem dX12_lost_60 : decode cX12_lost 60 = .ok (.iconst 2, 1) := by decide +kernel
theorem dX12_lost_61 : decode cX12_lost 61 = .ok (.iaload, 1) := by decide +kernel
theorem dX12_lost_62 : decode cX12_lost 62 = .ok (.iconst (-1), 1) := by decide +kernel
theorem dX12_lost_63 : decode cX12_lost 63 = .ok (.iconst 0, 1) := by decide +kernel
theorem dX12_lost_64 : decode cX12_lost 64 = .ok (.invokevirtual 173, 3) := by decide +kernel
theorem dX12_lost_67 : decode cX12_lost 67 = .ok (.iload_n 1, 1) := by decide +kernel
theorem dX12_lost_68 : decode cX12_lost 68 = .ok (.if_icmp .ne 10, 3) := by decide +kernel
theorem dX12_lost_71 : decode cX12_lost 71 = .ok (.iinc 3 1, 3) := by decide +kernel
theorem dX12_lost_74 : decode cX12_lost 74 = .ok (.iload 5, 2) := by decide +kernel
theorem dX12_lost_76 : decode cX12_lost 76 = .ok (.istore 4, 2) := by decide +kernel
theorem dX12_lost_78 : decode cX12_lost 78 = .ok (.iinc 5 (-1), 3) := by decide +kernel
theorem dX12_lost_81 : decode cX12_lost 81 = .ok (.goto (-33), 3) := by decide +kernel
theorem dX12_lost_84 : decode cX12_lost 84 = .ok (.iload_n 2, 1) := by decide +kernel
theorem dX12_lost_85 : decode cX12_lost 85 = .ok (.ifCond .ne 7, 3) := by decide +kernel
theorem dX12_lost_88 : decode cX12_lost 88 = .ok (.iload_n 3, 1) := by decide +kernel
theorem dX12_lost_89 : decode cX12_lost 89 = .ok (.goto 5, 3) := by decide +kernel
theorem dX12_lost_92 : decode cX12_lost 92 = .ok (.iload 4, 2) := by decide +kernel
theorem dX12_lost_94 : decode cX12_lost 94 = .ok (.ireturn, 1) := by decide +kernel
theorem dX12_readBy_0 : decode cX12_readBy 0 = .ok (.aload_n 0, 1) := by decide +kernel
theorem dX12_readBy_1 : decode cX12_readBy 1 = .ok (.iconst 0, 1) := by decide +kernel
theorem dX12_readBy_2 : decode cX12_readBy 2 = .ok (.putfield 44, 3) := by decide +kernel
theorem dX12_readBy_5 : decode cX12_readBy 5 = .ok (.aload_n 0, 1) := by decide +kernel
theorem dX12_readBy_6 : decode cX12_readBy 6 = .ok (.invokevirtual 180, 3) := by decide +kernel
theorem dX12_readBy_9 : decode cX12_readBy 9 = .ok (.ifCond .ne 6, 3) := by decide +kernel
theorem dX12_readBy_12 : decode cX12_readBy 12 = .ok (.ldc 184, 2) := by decide +kernel
theorem dX12_readBy_14 : decode cX12_readBy 14 = .ok (.ireturn, 1) := by decide +kernel
theorem dX12_readBy_15 : decode cX12_readBy 15 = .ok (.aload_n 0, 1) := by decide +kernel
theorem dX12_readBy_16 : decode cX12_readBy 16 = .ok (.iload_n 1, 1) := by decide +kernel
theorem dX12_readBy_17 : decode cX12_readBy 17 = .ok (.invokevirtual 185, 3) := by decide +kernel
theorem dX12_readBy_20 : decode cX12_readBy 20 = .ok (.ifCond .eq 13, 3) := by decide +kernel
theorem dX12_readBy_23 : decode cX12_readBy 23 = .ok (.iload_n 2, 1) := by decide +kernel
theorem dX12_readBy_24 : decode cX12_readBy 24 = .ok (.i2l, 1) := by decide +kernel
theorem dX12_readBy_25 : decode cX12_readBy 25 = .ok (.lconst 0, 1) := by decide +kernel
theorem dX12_readBy_26 : decode cX12_readBy 26 = .ok (.lconst 1, 1) := by decide +kernel
theorem dX12_readBy_27 : decode cX12_readBy 27 = .ok (.invokestatic 54, 3) := by decide +kernel
theorem dX12_readBy_30 : decode cX12_readBy 30 = .ok (.ifCond .ne 6, 3) := by decide +kernel
theorem dX12_readBy_33 : decode cX12_readBy 33 = .ok (.ldc 64, 2) := by decide +kernel
theorem dX12_readBy_35 : decode cX12_readBy 35 = .ok (.ireturn, 1) := by decide +kernel
theorem dX12_readBy_36 : decode cX12_readBy 36 = .ok (.iconst 0, 1) := by decide +kernel
theorem dX12_readBy_37 : decode cX12_readBy 37 = .ok (.istore_n 3, 1) := by decide +kernel
theorem dX12_readBy_38 : decode cX12_readBy 38 = .ok (.ldc 80, 2) := by decide +kernel
theorem dX12_readBy_40 : decode cX12_readBy 40 = .ok (.istore 4, 2) := by decide +kernel
theorem dX12_readBy_42 : decode cX12_readBy 42 = .ok (.aload_n 0, 1) := by decide +kernel
theorem dX12_readBy_43 : decode cX12_readBy 43 = .ok (.invokevirtual 160, 3) := by decide +kernel
theorem dX12_readBy_46 : decode cX12_readBy 46 = .ok (.istore 5, 2) := by decide +kernel
theorem dX12_readBy_48 : decode cX12_readBy 48 = .ok (.iload 5, 2) := by decide +kernel
theorem dX12_readBy_50 : decode cX12_readBy 50 = .ok (.ifCond .lt 52, 3) := by decide +kernel
theorem dX12_readBy_53 : decode cX12_readBy 53 = .ok (.aload_n 0, 1) := by decide +kernel
theorem dX12_readBy_54 : decode cX12_readBy 54 = .ok (.iload 5, 2) := by decide +kernel
theorem dX12_readBy_56 : decode cX12_readBy 56 = .ok (.aload_n 0, 1) := by decide +kernel
theorem dX12_readBy_57 : decode cX12_readBy 57 = .ok (.getfield 19, 3) := by decide +kernel
theorem dX12_readBy_60 : decode cX12_readBy 60 = .ok (.iconst 2, 1) := by decide +kernel
theorem dX12_readBy_61 : decode cX12_readBy 61 = .ok (.iaload, 1) := by decide +kernel
theorem dX12_readBy_62 : decode cX12_readBy 62 = .ok (.iconst (-1), 1) := by decide +kernel
theorem dX12_readBy_63 : decode cX12_readBy 63 = .ok (.iconst 0, 1) := by decide +kernel
theorem dX12_readBy_64 : decode cX12_readBy 64 = .ok (.invokevirtual 173, 3) := by decide +kernel
theorem dX12_readBy_67 : decode cX12_readBy 67 = .ok (.iload_n 1, 1) := by decide +kernel
theorem dX12_readBy_68 : decode cX12_readBy 68 = .ok (.iand, 1) := by decide +kernel
theorem dX12_readBy_69 : decode cX12_readBy 69 = .ok (.aload_n 0, 1) := by decide +kernel
theorem dX12_readBy_70 : decode cX12_readBy 70 = .ok (.getfield 19, 3) := by decide +kernel
theorem dX12_readBy_73 : decode cX12_readBy 73 = .ok (.iconst 2, 1) := by decide +kernel
theorem dX12_readBy_74 : decode cX12_readBy 74 = .ok (.iaload, 1) := by decide +kernel
theorem dX12_readBy_75 : decode cX12_readBy 75 = .ok (.iload_n 1, 1) := by decide +kernel
theorem dX12_readBy_76 : decode cX12_readBy 76 = .ok (.iconst (-1), 1) := by decide +kernel
theorem dX12_readBy_77 : decode cX12_readBy 77 = .ok (.ixor, 1) := by decide +kernel
theorem dX12_readBy_78 : decode cX12_readBy 78 = .ok (.iand, 1) := by decide +kernel
theorem dX12_readBy_79 : decode cX12_readBy 79 = .ok (.ior, 1) := by decide +kernel
theorem dX12_readBy_80 : decode cX12_readBy 80 = .ok (.istore 6, 2) := by decide +kernel
theorem dX12_readBy_82 : decode cX12_readBy 82 = .ok (.iload 6, 2) := by decide +kernel
theorem dX12_readBy_84 : decode cX12_readBy 84 = .ok (.iload 5, 2) := by decide +kernel
theorem dX12_readBy_86 : decode cX12_readBy 86 = .ok (.if_icmp .ne 10, 3) := by decide +kernel
theorem dX12_readBy_89 : decode cX12_readBy 89 = .ok (.iinc 3 1, 3) := by decide +kernel
theorem dX12_readBy_92 : decode cX12_readBy 92 = .ok (.iload 5, 2) := by decide +kernel
theorem dX12_readBy_94 : decode cX12_readBy 94 = .ok (.istore 4, 2) := by decide +kernel
theorem dX12_readBy_96 : decode cX12_readBy 96 = .ok (.iinc 5 (-1), 3) := by decide +kernel
theorem dX12_readBy_99 : decode cX12_readBy 99 = .ok (.goto (-51), 3) := by decide +kernel
theorem dX12_readBy_102 : decode cX12_readBy 102 = .ok (.iload_n 2, 1) := by decide +kernel
theorem dX12_readBy_103 : decode cX12_readBy 103 = .ok (.ifCond .ne 7, 3) := by decide +kernel
theorem dX12_readBy_106 : decode cX12_readBy 106 = .ok (.iload_n 3, 1) := by decide +kernel
theorem dX12_readBy_107 : decode cX12_readBy 107 = .ok (.goto 5, 3) := by decide +kernel
theorem dX12_readBy_110 : decode cX12_readBy 110 = .ok (.iload 4, 2) := by decide +kernel
theorem dX12_readBy_112 : decode cX12_readBy 112 = .ok (.ireturn, 1) := by decide +kernel
theorem dX12_image_0 : decode cX12_image 0 = .ok (.aload_n 0, 1) := by decide +kernel
theorem dX12_image_1 : decode cX12_image 1 = .ok (.iconst 0, 1) := by decide +kernel
theorem dX12_image_2 : decode cX12_image 2 = .ok (.putfield 44, 3) := by decide +kernel
theorem dX12_image_5 : decode cX12_image 5 = .ok (.iload_n 1, 1) := by decide +kernel
theorem dX12_image_6 : decode cX12_image 6 = .ok (.i2l, 1) := by decide +kernel
theorem dX12_image_7 : decode cX12_image 7 = .ok (.lconst 0, 1) := by decide +kernel
theorem dX12_image_8 : decode cX12_image 8 = .ok (.lconst 1, 1) := by decide +kernel
theorem dX12_image_9 : decode cX12_image 9 = .ok (.invokestatic 54, 3) := by decide +kernel
theorem dX12_image_12 : decode cX12_image 12 = .ok (.ifCond .ne 6, 3) := by decide +kernel
theorem dX12_image_15 : decode cX12_image 15 = .ok (.ldc 64, 2) := by decide +kernel
theorem dX12_image_17 : decode cX12_image 17 = .ok (.ireturn, 1) := by decide +kernel
theorem dX12_image_18 : decode cX12_image 18 = .ok (.aload_n 0, 1) := by decide +kernel
theorem dX12_image_19 : decode cX12_image 19 = .ok (.invokevirtual 180, 3) := by decide +kernel
theorem dX12_image_22 : decode cX12_image 22 = .ok (.ifCond .ne 6, 3) := by decide +kernel
theorem dX12_image_25 : decode cX12_image 25 = .ok (.ldc 184, 2) := by decide +kernel
theorem dX12_image_27 : decode cX12_image 27 = .ok (.ireturn, 1) := by decide +kernel
theorem dX12_image_28 : decode cX12_image 28 = .ok (.iconst 0, 1) := by decide +kernel
theorem dX12_image_29 : decode cX12_image 29 = .ok (.istore_n 2, 1) := by decide +kernel
theorem dX12_image_30 : decode cX12_image 30 = .ok (.iload_n 2, 1) := by decide +kernel
theorem dX12_image_31 : decode cX12_image 31 = .ok (.bipush 21, 2) := by decide +kernel
theorem dX12_image_33 : decode cX12_image 33 = .ok (.if_icmp .ge 26, 3) := by decide +kernel
theorem dX12_image_36 : decode cX12_image 36 = .ok (.aload_n 0, 1) := by decide +kernel
theorem dX12_image_37 : decode cX12_image 37 = .ok (.getfield 38, 3) := by decide +kernel
theorem dX12_image_40 : decode cX12_image 40 = .ok (.bipush 21, 2) := by decide +kernel
theorem dX12_image_42 : decode cX12_image 42 = .ok (.iload_n 1, 1) := by decide +kernel
theorem dX12_image_43 : decode cX12_image 43 = .ok (.imul, 1) := by decide +kernel
theorem dX12_image_44 : decode cX12_image 44 = .ok (.iload_n 2, 1) := by decide +kernel
theorem dX12_image_45 : decode cX12_image 45 = .ok (.iadd, 1) := by decide +kernel
theorem dX12_image_46 : decode cX12_image 46 = .ok (.aload_n 0, 1) := by decide +kernel
theorem dX12_image_47 : decode cX12_image 47 = .ok (.getfield 19, 3) := by decide +kernel
theorem dX12_image_50 : decode cX12_image 50 = .ok (.iload_n 2, 1) := by decide +kernel
theorem dX12_image_51 : decode cX12_image 51 = .ok (.iaload, 1) := by decide +kernel
theorem dX12_image_52 : decode cX12_image 52 = .ok (.iastore, 1) := by decide +kernel
theorem dX12_image_53 : decode cX12_image 53 = .ok (.iinc 2 1, 3) := by decide +kernel
theorem dX12_image_56 : decode cX12_image 56 = .ok (.goto (-26), 3) := by decide +kernel
theorem dX12_image_59 : decode cX12_image 59 = .ok (.aload_n 0, 1) := by decide +kernel
theorem dX12_image_60 : decode cX12_image 60 = .ok (.getfield 34, 3) := by decide +kernel
theorem dX12_image_63 : decode cX12_image 63 = .ok (.iload_n 1, 1) := by decide +kernel
theorem dX12_image_64 : decode cX12_image 64 = .ok (.iconst 1, 1) := by decide +kernel
theorem dX12_image_65 : decode cX12_image 65 = .ok (.bastore, 1) := by decide +kernel
theorem dX12_image_66 : decode cX12_image 66 = .ok (.iconst 1, 1) := by decide +kernel
theorem dX12_image_67 : decode cX12_image 67 = .ok (.ireturn, 1) := by decide +kernel
theorem dX12_restore_0 : decode cX12_restore 0 = .ok (.aload_n 0, 1) := by decide +kernel
theorem dX12_restore_1 : decode cX12_restore 1 = .ok (.iconst 0, 1) := by decide +kernel
theorem dX12_restore_2 : decode cX12_restore 2 = .ok (.putfield 44, 3) := by decide +kernel
theorem dX12_restore_5 : decode cX12_restore 5 = .ok (.iload_n 1, 1) := by decide +kernel
theorem dX12_restore_6 : decode cX12_restore 6 = .ok (.i2l, 1) := by decide +kernel
theorem dX12_restore_7 : decode cX12_restore 7 = .ok (.lconst 0, 1) := by decide +kernel
theorem dX12_restore_8 : decode cX12_restore 8 = .ok (.lconst 1, 1) := by decide +kernel
theorem dX12_restore_9 : decode cX12_restore 9 = .ok (.invokestatic 54, 3) := by decide +kernel
theorem dX12_restore_12 : decode cX12_restore 12 = .ok (.ifCond .ne 6, 3) := by decide +kernel
theorem dX12_restore_15 : decode cX12_restore 15 = .ok (.ldc 64, 2) := by decide +kernel
theorem dX12_restore_17 : decode cX12_restore 17 = .ok (.ireturn, 1) := by decide +kernel
theorem dX12_restore_18 : decode cX12_restore 18 = .ok (.aload_n 0, 1) := by decide +kernel
theorem dX12_restore_19 : decode cX12_restore 19 = .ok (.getfield 34, 3) := by decide +kernel
theorem dX12_restore_22 : decode cX12_restore 22 = .ok (.iload_n 1, 1) := by decide +kernel
theorem dX12_restore_23 : decode cX12_restore 23 = .ok (.baload, 1) := by decide +kernel
theorem dX12_restore_24 : decode cX12_restore 24 = .ok (.ifCond .ne 6, 3) := by decide +kernel
theorem dX12_restore_27 : decode cX12_restore 27 = .ok (.ldc 184, 2) := by decide +kernel
theorem dX12_restore_29 : decode cX12_restore 29 = .ok (.ireturn, 1) := by decide +kernel
theorem dX12_restore_30 : decode cX12_restore 30 = .ok (.iconst 0, 1) := by decide +kernel
theorem dX12_restore_31 : decode cX12_restore 31 = .ok (.istore_n 2, 1) := by decide +kernel
theorem dX12_restore_32 : decode cX12_restore 32 = .ok (.iload_n 2, 1) := by decide +kernel
theorem dX12_restore_33 : decode cX12_restore 33 = .ok (.bipush 21, 2) := by decide +kernel
theorem dX12_restore_35 : decode cX12_restore 35 = .ok (.if_icmp .ge 26, 3) := by decide +kernel
theorem dX12_restore_38 : decode cX12_restore 38 = .ok (.aload_n 0, 1) := by decide +kernel
theorem dX12_restore_39 : decode cX12_restore 39 = .ok (.getfield 19, 3) := by decide +kernel
theorem dX12_restore_42 : decode cX12_restore 42 = .ok (.iload_n 2, 1) := by decide +kernel
theorem dX12_restore_43 : decode cX12_restore 43 = .ok (.aload_n 0, 1) := by decide +kernel
theorem dX12_restore_44 : decode cX12_restore 44 = .ok (.getfield 38, 3) := by decide +kernel
theorem dX12_restore_47 : decode cX12_restore 47 = .ok (.bipush 21, 2) := by decide +kernel
theorem dX12_restore_49 : decode cX12_restore 49 = .ok (.iload_n 1, 1) := by decide +kernel
theorem dX12_restore_50 : decode cX12_restore 50 = .ok (.imul, 1) := by decide +kernel
theorem dX12_restore_51 : decode cX12_restore 51 = .ok (.iload_n 2, 1) := by decide +kernel
theorem dX12_restore_52 : decode cX12_restore 52 = .ok (.iadd, 1) := by decide +kernel
theorem dX12_restore_53 : decode cX12_restore 53 = .ok (.iaload, 1) := by decide +kernel
theorem dX12_restore_54 : decode cX12_restore 54 = .ok (.iastore, 1) := by decide +kernel
theorem dX12_restore_55 : decode cX12_restore 55 = .ok (.iinc 2 1, 3) := by decide +kernel
theorem dX12_restore_58 : decode cX12_restore 58 = .ok (.goto (-26), 3) := by decide +kernel
theorem dX12_restore_61 : decode cX12_restore 61 = .ok (.aload_n 0, 1) := by decide +kernel
theorem dX12_restore_62 : decode cX12_restore 62 = .ok (.iconst 0, 1) := by decide +kernel
theorem dX12_restore_63 : decode cX12_restore 63 = .ok (.putfield 157, 3) := by decide +kernel
theorem dX12_restore_66 : decode cX12_restore 66 = .ok (.iconst 1, 1) := by decide +kernel
theorem dX12_restore_67 : decode cX12_restore 67 = .ok (.ireturn, 1) := by decide +kernel
theorem dX12_isOf_0 : decode cX12_isOf 0 = .ok (.iload_n 1, 1) := by decide +kernel
theorem dX12_isOf_1 : decode cX12_isOf 1 = .ok (.ifCond .eq 28, 3) := by decide +kernel
theorem dX12_isOf_4 : decode cX12_isOf 4 = .ok (.iload_n 0, 1) := by decide +kernel
theorem dX12_isOf_5 : decode cX12_isOf 5 = .ok (.iload_n 1, 1) := by decide +kernel
theorem dX12_isOf_6 : decode cX12_isOf 6 = .ok (.if_icmp .eq 23, 3) := by decide +kernel
theorem dX12_isOf_9 : decode cX12_isOf 9 = .ok (.iload_n 1, 1) := by decide +kernel
theorem dX12_isOf_10 : decode cX12_isOf 10 = .ok (.iconst 1, 1) := by decide +kernel
theorem dX12_isOf_11 : decode cX12_isOf 11 = .ok (.if_icmp .ne 8, 3) := by decide +kernel
theorem dX12_isOf_14 : decode cX12_isOf 14 = .ok (.iload_n 0, 1) := by decide +kernel
theorem dX12_isOf_15 : decode cX12_isOf 15 = .ok (.iconst 4, 1) := by decide +kernel
theorem dX12_isOf_16 : decode cX12_isOf 16 = .ok (.if_icmp .lt 13, 3) := by decide +kernel
theorem dX12_isOf_19 : decode cX12_isOf 19 = .ok (.iload_n 1, 1) := by decide +kernel
theorem dX12_isOf_20 : decode cX12_isOf 20 = .ok (.iconst 4, 1) := by decide +kernel
theorem dX12_isOf_21 : decode cX12_isOf 21 = .ok (.if_icmp .ne 12, 3) := by decide +kernel
theorem dX12_isOf_24 : decode cX12_isOf 24 = .ok (.iload_n 0, 1) := by decide +kernel
theorem dX12_isOf_25 : decode cX12_isOf 25 = .ok (.iconst 5, 1) := by decide +kernel
theorem dX12_isOf_26 : decode cX12_isOf 26 = .ok (.if_icmp .ne 7, 3) := by decide +kernel
theorem dX12_isOf_29 : decode cX12_isOf 29 = .ok (.iconst 1, 1) := by decide +kernel
theorem dX12_isOf_30 : decode cX12_isOf 30 = .ok (.goto 4, 3) := by decide +kernel
theorem dX12_isOf_33 : decode cX12_isOf 33 = .ok (.iconst 0, 1) := by decide +kernel
theorem dX12_isOf_34 : decode cX12_isOf 34 = .ok (.ireturn, 1) := by decide +kernel
theorem dX12_kind_0 : decode cX12_kind 0 = .ok (.aload_n 0, 1) := by decide +kernel
theorem dX12_kind_1 : decode cX12_kind 1 = .ok (.iconst 0, 1) := by decide +kernel
theorem dX12_kind_2 : decode cX12_kind 2 = .ok (.putfield 44, 3) := by decide +kernel
theorem dX12_kind_5 : decode cX12_kind 5 = .ok (.aload_n 0, 1) := by decide +kernel
theorem dX12_kind_6 : decode cX12_kind 6 = .ok (.iload_n 1, 1) := by decide +kernel
theorem dX12_kind_7 : decode cX12_kind 7 = .ok (.invokevirtual 212, 3) := by decide +kernel
theorem dX12_kind_10 : decode cX12_kind 10 = .ok (.ifCond .eq 12, 3) := by decide +kernel
theorem dX12_kind_13 : decode cX12_kind 13 = .ok (.aload_n 0, 1) := by decide +kernel
theorem dX12_kind_14 : decode cX12_kind 14 = .ok (.iload_n 1, 1) := by decide +kernel
theorem dX12_kind_15 : decode cX12_kind 15 = .ok (.iconst 0, 1) := by decide +kernel
theorem dX12_kind_16 : decode cX12_kind 16 = .ok (.invokevirtual 163, 3) := by decide +kernel
theorem dX12_kind_19 : decode cX12_kind 19 = .ok (.goto 5, 3) := by decide +kernel
theorem dX12_kind_22 : decode cX12_kind 22 = .ok (.ldc 64, 2) := by decide +kernel
theorem dX12_kind_24 : decode cX12_kind 24 = .ok (.ireturn, 1) := by decide +kernel
theorem dX12_as_0 : decode cX12_as 0 = .ok (.aload_n 0, 1) := by decide +kernel
theorem dX12_as_1 : decode cX12_as 1 = .ok (.iconst 0, 1) := by decide +kernel
theorem dX12_as_2 : decode cX12_as 2 = .ok (.putfield 44, 3) := by decide +kernel
theorem dX12_as_5 : decode cX12_as 5 = .ok (.aload_n 0, 1) := by decide +kernel
theorem dX12_as_6 : decode cX12_as 6 = .ok (.iload_n 1, 1) := by decide +kernel
theorem dX12_as_7 : decode cX12_as 7 = .ok (.invokevirtual 212, 3) := by decide +kernel
theorem dX12_as_10 : decode cX12_as 10 = .ok (.ifCond .eq 15, 3) := by decide +kernel
theorem dX12_as_13 : decode cX12_as 13 = .ok (.iload_n 2, 1) := by decide +kernel
theorem dX12_as_14 : decode cX12_as 14 = .ok (.i2l, 1) := by decide +kernel
theorem dX12_as_15 : decode cX12_as 15 = .ok (.lconst 0, 1) := by decide +kernel
theorem dX12_as_16 : decode cX12_as 16 = .ok (.ldc2_w 218, 3) := by decide +kernel
theorem dX12_as_19 : decode cX12_as 19 = .ok (.invokestatic 54, 3) := by decide +kernel
theorem dX12_as_22 : decode cX12_as 22 = .ok (.ifCond .ne 6, 3) := by decide +kernel
theorem dX12_as_25 : decode cX12_as 25 = .ok (.ldc 64, 2) := by decide +kernel
theorem dX12_as_27 : decode cX12_as 27 = .ok (.ireturn, 1) := by decide +kernel
theorem dX12_as_28 : decode cX12_as 28 = .ok (.aload_n 0, 1) := by decide +kernel
theorem dX12_as_29 : decode cX12_as 29 = .ok (.iconst 0, 1) := by decide +kernel
theorem dX12_as_30 : decode cX12_as 30 = .ok (.putfield 48, 3) := by decide +kernel
theorem dX12_as_33 : decode cX12_as 33 = .ok (.aload_n 0, 1) := by decide +kernel
theorem dX12_as_34 : decode cX12_as 34 = .ok (.iload_n 1, 1) := by decide +kernel
theorem dX12_as_35 : decode cX12_as 35 = .ok (.iconst 0, 1) := by decide +kernel
theorem dX12_as_36 : decode cX12_as 36 = .ok (.invokevirtual 163, 3) := by decide +kernel
theorem dX12_as_39 : decode cX12_as 39 = .ok (.iload_n 2, 1) := by decide +kernel
theorem dX12_as_40 : decode cX12_as 40 = .ok (.invokestatic 231, 3) := by decide +kernel
theorem dX12_as_43 : decode cX12_as 43 = .ok (.ifCond .eq 7, 3) := by decide +kernel
theorem dX12_as_46 : decode cX12_as 46 = .ok (.iload_n 1, 1) := by decide +kernel
theorem dX12_as_47 : decode cX12_as 47 = .ok (.goto 8, 3) := by decide +kernel
theorem dX12_as_50 : decode cX12_as 50 = .ok (.aload_n 0, 1) := by decide +kernel
theorem dX12_as_51 : decode cX12_as 51 = .ok (.iconst 3, 1) := by decide +kernel
theorem dX12_as_52 : decode cX12_as 52 = .ok (.invokevirtual 65, 3) := by decide +kernel
theorem dX12_as_55 : decode cX12_as 55 = .ok (.ireturn, 1) := by decide +kernel
theorem dX12_began_0 : decode cX12_began 0 = .ok (.aload_n 0, 1) := by decide +kernel
theorem dX12_began_1 : decode cX12_began 1 = .ok (.getfield 234, 3) := by decide +kernel
theorem dX12_began_4 : decode cX12_began 4 = .ok (.bipush 16, 2) := by decide +kernel
theorem dX12_began_6 : decode cX12_began 6 = .ok (.if_icmp .ge 23, 3) := by decide +kernel
theorem dX12_began_9 : decode cX12_began 9 = .ok (.aload_n 0, 1) := by decide +kernel
theorem dX12_began_10 : decode cX12_began 10 = .ok (.getfield 41, 3) := by decide +kernel
theorem dX12_began_13 : decode cX12_began 13 = .ok (.aload_n 0, 1) := by decide +kernel
theorem dX12_began_14 : decode cX12_began 14 = .ok (.getfield 234, 3) := by decide +kernel
theorem dX12_began_17 : decode cX12_began 17 = .ok (.iload_n 1, 1) := by decide +kernel
theorem dX12_began_18 : decode cX12_began 18 = .ok (.iastore, 1) := by decide +kernel
theorem dX12_began_19 : decode cX12_began 19 = .ok (.aload_n 0, 1) := by decide +kernel
theorem dX12_began_20 : decode cX12_began 20 = .ok (.dup, 1) := by decide +kernel
theorem dX12_began_21 : decode cX12_began 21 = .ok (.getfield 234, 3) := by decide +kernel
theorem dX12_began_24 : decode cX12_began 24 = .ok (.iconst 1, 1) := by decide +kernel
theorem dX12_began_25 : decode cX12_began 25 = .ok (.iadd, 1) := by decide +kernel
theorem dX12_began_26 : decode cX12_began 26 = .ok (.putfield 234, 3) := by decide +kernel
theorem dX12_began_29 : decode cX12_began 29 = .ok (.return_, 1) := by decide +kernel
theorem dX12_plainSize_0 : decode cX12_plainSize 0 = .ok (.aload_n 0, 1) := by decide +kernel
theorem dX12_plainSize_1 : decode cX12_plainSize 1 = .ok (.bipush 10, 2) := by decide +kernel
theorem dX12_plainSize_3 : decode cX12_plainSize 3 = .ok (.invokevirtual 237, 3) := by decide +kernel
theorem dX12_plainSize_6 : decode cX12_plainSize 6 = .ok (.aload_n 0, 1) := by decide +kernel
theorem dX12_plainSize_7 : decode cX12_plainSize 7 = .ok (.iload_n 1, 1) := by decide +kernel
theorem dX12_plainSize_8 : decode cX12_plainSize 8 = .ok (.iconst 2, 1) := by decide +kernel
theorem dX12_plainSize_9 : decode cX12_plainSize 9 = .ok (.invokevirtual 163, 3) := by decide +kernel
theorem dX12_plainSize_12 : decode cX12_plainSize 12 = .ok (.ireturn, 1) := by decide +kernel
theorem dX12_crowdSize_0 : decode cX12_crowdSize 0 = .ok (.aload_n 0, 1) := by decide +kernel
theorem dX12_crowdSize_1 : decode cX12_crowdSize 1 = .ok (.iload_n 1, 1) := by decide +kernel
theorem dX12_crowdSize_2 : decode cX12_crowdSize 2 = .ok (.iconst 0, 1) := by decide +kernel
theorem dX12_crowdSize_3 : decode cX12_crowdSize 3 = .ok (.invokevirtual 163, 3) := by decide +kernel
theorem dX12_crowdSize_6 : decode cX12_crowdSize 6 = .ok (.iconst 5, 1) := by decide +kernel
theorem dX12_crowdSize_7 : decode cX12_crowdSize 7 = .ok (.if_icmp .ne 9, 3) := by decide +kernel
theorem dX12_crowdSize_10 : decode cX12_crowdSize 10 = .ok (.aload_n 0, 1) := by decide +kernel
theorem dX12_crowdSize_11 : decode cX12_crowdSize 11 = .ok (.bipush 14, 2) := by decide +kernel
theorem dX12_crowdSize_13 : decode cX12_crowdSize 13 = .ok (.invokevirtual 237, 3) := by decide +kernel
theorem dX12_crowdSize_16 : decode cX12_crowdSize 16 = .ok (.aload_n 0, 1) := by decide +kernel
theorem dX12_crowdSize_17 : decode cX12_crowdSize 17 = .ok (.bipush 13, 2) := by decide +kernel
theorem dX12_crowdSize_19 : decode cX12_crowdSize 19 = .ok (.invokevirtual 237, 3) := by decide +kernel
theorem dX12_crowdSize_22 : decode cX12_crowdSize 22 = .ok (.aload_n 0, 1) := by decide +kernel
theorem dX12_crowdSize_23 : decode cX12_crowdSize 23 = .ok (.iload_n 1, 1) := by decide +kernel
theorem dX12_crowdSize_24 : decode cX12_crowdSize 24 = .ok (.invokevirtual 240, 3) := by decide +kernel
theorem dX12_crowdSize_27 : decode cX12_crowdSize 27 = .ok (.bipush 100, 2) := by decide +kernel
theorem dX12_crowdSize_29 : decode cX12_crowdSize 29 = .ok (.isub, 1) := by decide +kernel
theorem dX12_crowdSize_30 : decode cX12_crowdSize 30 = .ok (.istore_n 2, 1) := by decide +kernel
theorem dX12_crowdSize_31 : decode cX12_crowdSize 31 = .ok (.aload_n 0, 1) := by decide +kernel
theorem dX12_crowdSize_32 : decode cX12_crowdSize 32 = .ok (.iload_n 1, 1) := by decide +kernel
theorem dX12_crowdSize_33 : decode cX12_crowdSize 33 = .ok (.iconst 0, 1) := by decide +kernel
theorem dX12_crowdSize_34 : decode cX12_crowdSize 34 = .ok (.invokevirtual 163, 3) := by decide +kernel
theorem dX12_crowdSize_37 : decode cX12_crowdSize 37 = .ok (.iconst 5, 1) := by decide +kernel
theorem dX12_crowdSize_38 : decode cX12_crowdSize 38 = .ok (.if_icmp .ne 9, 3) := by decide +kernel
theorem dX12_crowdSize_41 : decode cX12_crowdSize 41 = .ok (.iconst 2, 1) := by decide +kernel
theorem dX12_crowdSize_42 : decode cX12_crowdSize 42 = .ok (.iload_n 2, 1) := by decide +kernel
theorem dX12_crowdSize_43 : decode cX12_crowdSize 43 = .ok (.imul, 1) := by decide +kernel
theorem dX12_crowdSize_44 : decode cX12_crowdSize 44 = .ok (.goto 4, 3) := by decide +kernel
theorem dX12_crowdSize_47 : decode cX12_crowdSize 47 = .ok (.iload_n 2, 1) := by decide +kernel
theorem dX12_crowdSize_48 : decode cX12_crowdSize 48 = .ok (.ireturn, 1) := by decide +kernel
theorem dX12_markOf_0 : decode cX12_markOf 0 = .ok (.aload_n 0, 1) := by decide +kernel
theorem dX12_markOf_1 : decode cX12_markOf 1 = .ok (.iload_n 1, 1) := by decide +kernel
theorem dX12_markOf_2 : decode cX12_markOf 2 = .ok (.iconst 0, 1) := by decide +kernel
theorem dX12_markOf_3 : decode cX12_markOf 3 = .ok (.invokevirtual 163, 3) := by decide +kernel
theorem dX12_markOf_6 : decode cX12_markOf 6 = .ok (.istore_n 2, 1) := by decide +kernel
theorem dX12_markOf_7 : decode cX12_markOf 7 = .ok (.iload_n 2, 1) := by decide +kernel
theorem dX12_markOf_8 : decode cX12_markOf 8 = .ok (.iconst 4, 1) := by decide +kernel
theorem dX12_markOf_9 : decode cX12_markOf 9 = .ok (.if_icmp .lt 23, 3) := by decide +kernel
theorem dX12_markOf_12 : decode cX12_markOf 12 = .ok (.aload_n 0, 1) := by decide +kernel
theorem dX12_markOf_13 : decode cX12_markOf 13 = .ok (.bipush 23, 2) := by decide +kernel
theorem dX12_markOf_15 : decode cX12_markOf 15 = .ok (.invokevirtual 237, 3) := by decide +kernel
theorem dX12_markOf_18 : decode cX12_markOf 18 = .ok (.aload_n 0, 1) := by decide +kernel
theorem dX12_markOf_19 : decode cX12_markOf 19 = .ok (.bipush 20, 2) := by decide +kernel
theorem dX12_markOf_21 : decode cX12_markOf 21 = .ok (.invokevirtual 237, 3) := by decide +kernel
theorem dX12_markOf_24 : decode cX12_markOf 24 = .ok (.iload_n 1, 1) := by decide +kernel
theorem dX12_markOf_25 : decode cX12_markOf 25 = .ok (.aload_n 0, 1) := by decide +kernel
theorem dX12_markOf_26 : decode cX12_markOf 26 = .ok (.iload_n 1, 1) := by decide +kernel
theorem dX12_markOf_27 : decode cX12_markOf 27 = .ok (.invokevirtual 243, 3) := by decide +kernel
theorem dX12_markOf_30 : decode cX12_markOf 30 = .ok (.isub, 1) := by decide +kernel
theorem dX12_markOf_31 : decode cX12_markOf 31 = .ok (.ireturn, 1) := by decide +kernel
theorem dX12_markOf_32 : decode cX12_markOf 32 = .ok (.iload_n 2, 1) := by decide +kernel
theorem dX12_markOf_33 : decode cX12_markOf 33 = .ok (.iconst 1, 1) := by decide +kernel
theorem dX12_markOf_34 : decode cX12_markOf 34 = .ok (.if_icmp .eq 19, 3) := by decide +kernel
theorem dX12_markOf_37 : decode cX12_markOf 37 = .ok (.aload_n 0, 1) := by decide +kernel
theorem dX12_markOf_38 : decode cX12_markOf 38 = .ok (.iload_n 2, 1) := by decide +kernel
theorem dX12_markOf_39 : decode cX12_markOf 39 = .ok (.iconst 3, 1) := by decide +kernel
theorem dX12_markOf_40 : decode cX12_markOf 40 = .ok (.if_icmp .ne 8, 3) := by decide +kernel
theorem dX12_markOf_43 : decode cX12_markOf 43 = .ok (.bipush 22, 2) := by decide +kernel
theorem dX12_markOf_45 : decode cX12_markOf 45 = .ok (.goto 5, 3) := by decide +kernel
theorem dX12_markOf_48 : decode cX12_markOf 48 = .ok (.bipush 24, 2) := by decide +kernel
theorem dX12_markOf_50 : decode cX12_markOf 50 = .ok (.invokevirtual 237, 3) := by decide +kernel
theorem dX12_markOf_53 : decode cX12_markOf 53 = .ok (.aload_n 0, 1) := by decide +kernel
theorem dX12_markOf_54 : decode cX12_markOf 54 = .ok (.bipush 21, 2) := by decide +kernel
theorem dX12_markOf_56 : decode cX12_markOf 56 = .ok (.invokevirtual 237, 3) := by decide +kernel
theorem dX12_markOf_59 : decode cX12_markOf 59 = .ok (.aload_n 0, 1) := by decide +kernel
theorem dX12_markOf_60 : decode cX12_markOf 60 = .ok (.bipush 20, 2) := by decide +kernel
theorem dX12_markOf_62 : decode cX12_markOf 62 = .ok (.invokevirtual 237, 3) := by decide +kernel
theorem dX12_markOf_65 : decode cX12_markOf 65 = .ok (.iload_n 1, 1) := by decide +kernel
theorem dX12_markOf_66 : decode cX12_markOf 66 = .ok (.aload_n 0, 1) := by decide +kernel
theorem dX12_markOf_67 : decode cX12_markOf 67 = .ok (.iload_n 1, 1) := by decide +kernel
theorem dX12_markOf_68 : decode cX12_markOf 68 = .ok (.iconst 1, 1) := by decide +kernel
theorem dX12_markOf_69 : decode cX12_markOf 69 = .ok (.invokevirtual 163, 3) := by decide +kernel
theorem dX12_markOf_72 : decode cX12_markOf 72 = .ok (.iadd, 1) := by decide +kernel
theorem dX12_markOf_73 : decode cX12_markOf 73 = .ok (.istore_n 3, 1) := by decide +kernel
theorem dX12_markOf_74 : decode cX12_markOf 74 = .ok (.iload_n 2, 1) := by decide +kernel
theorem dX12_markOf_75 : decode cX12_markOf 75 = .ok (.iconst 1, 1) := by decide +kernel
theorem dX12_markOf_76 : decode cX12_markOf 76 = .ok (.if_icmp .ne 7, 3) := by decide +kernel
theorem dX12_markOf_79 : decode cX12_markOf 79 = .ok (.iload_n 3, 1) := by decide +kernel
theorem dX12_markOf_80 : decode cX12_markOf 80 = .ok (.goto 19, 3) := by decide +kernel
theorem dX12_markOf_83 : decode cX12_markOf 83 = .ok (.iload_n 2, 1) := by decide +kernel
theorem dX12_markOf_84 : decode cX12_markOf 84 = .ok (.iconst 3, 1) := by decide +kernel
theorem dX12_markOf_85 : decode cX12_markOf 85 = .ok (.if_icmp .ne 11, 3) := by decide +kernel
theorem dX12_markOf_88 : decode cX12_markOf 88 = .ok (.iload_n 3, 1) := by decide +kernel
theorem dX12_markOf_89 : decode cX12_markOf 89 = .ok (.sipush 1000, 3) := by decide +kernel
theorem dX12_markOf_92 : decode cX12_markOf 92 = .ok (.isub, 1) := by decide +kernel
theorem dX12_markOf_93 : decode cX12_markOf 93 = .ok (.goto 6, 3) := by decide +kernel
theorem dX12_markOf_96 : decode cX12_markOf 96 = .ok (.iconst 2, 1) := by decide +kernel
theorem dX12_markOf_97 : decode cX12_markOf 97 = .ok (.iload_n 3, 1) := by decide +kernel
theorem dX12_markOf_98 : decode cX12_markOf 98 = .ok (.imul, 1) := by decide +kernel
theorem dX12_markOf_99 : decode cX12_markOf 99 = .ok (.ireturn, 1) := by decide +kernel
theorem dX12_sizeOf_0 : decode cX12_sizeOf 0 = .ok (.aload_n 0, 1) := by decide +kernel
theorem dX12_sizeOf_1 : decode cX12_sizeOf 1 = .ok (.iload_n 1, 1) := by decide +kernel
theorem dX12_sizeOf_2 : decode cX12_sizeOf 2 = .ok (.iconst 0, 1) := by decide +kernel
theorem dX12_sizeOf_3 : decode cX12_sizeOf 3 = .ok (.invokevirtual 163, 3) := by decide +kernel
theorem dX12_sizeOf_6 : decode cX12_sizeOf 6 = .ok (.istore_n 2, 1) := by decide +kernel
theorem dX12_sizeOf_7 : decode cX12_sizeOf 7 = .ok (.iload_n 2, 1) := by decide +kernel
theorem dX12_sizeOf_8 : decode cX12_sizeOf 8 = .ok (.iconst 4, 1) := by decide +kernel
theorem dX12_sizeOf_9 : decode cX12_sizeOf 9 = .ok (.if_icmp .lt 9, 3) := by decide +kernel
theorem dX12_sizeOf_12 : decode cX12_sizeOf 12 = .ok (.aload_n 0, 1) := by decide +kernel
theorem dX12_sizeOf_13 : decode cX12_sizeOf 13 = .ok (.iload_n 1, 1) := by decide +kernel
theorem dX12_sizeOf_14 : decode cX12_sizeOf 14 = .ok (.invokevirtual 243, 3) := by decide +kernel
theorem dX12_sizeOf_17 : decode cX12_sizeOf 17 = .ok (.ireturn, 1) := by decide +kernel
theorem dX12_sizeOf_18 : decode cX12_sizeOf 18 = .ok (.iload_n 2, 1) := by decide +kernel
theorem dX12_sizeOf_19 : decode cX12_sizeOf 19 = .ok (.iconst 2, 1) := by decide +kernel
theorem dX12_sizeOf_20 : decode cX12_sizeOf 20 = .ok (.if_icmp .ne 9, 3) := by decide +kernel
theorem dX12_sizeOf_23 : decode cX12_sizeOf 23 = .ok (.aload_n 0, 1) := by decide +kernel
theorem dX12_sizeOf_24 : decode cX12_sizeOf 24 = .ok (.bipush 12, 2) := by decide +kernel
theorem dX12_sizeOf_26 : decode cX12_sizeOf 26 = .ok (.invokevirtual 237, 3) := by decide +kernel
theorem dX12_sizeOf_29 : decode cX12_sizeOf 29 = .ok (.aload_n 0, 1) := by decide +kernel
theorem dX12_sizeOf_30 : decode cX12_sizeOf 30 = .ok (.bipush 11, 2) := by decide +kernel
theorem dX12_sizeOf_32 : decode cX12_sizeOf 32 = .ok (.invokevirtual 237, 3) := by decide +kernel
theorem dX12_sizeOf_35 : decode cX12_sizeOf 35 = .ok (.aload_n 0, 1) := by decide +kernel
theorem dX12_sizeOf_36 : decode cX12_sizeOf 36 = .ok (.iload_n 1, 1) := by decide +kernel
theorem dX12_sizeOf_37 : decode cX12_sizeOf 37 = .ok (.invokevirtual 240, 3) := by decide +kernel
theorem dX12_sizeOf_40 : decode cX12_sizeOf 40 = .ok (.istore_n 3, 1) := by decide +kernel
theorem dX12_sizeOf_41 : decode cX12_sizeOf 41 = .ok (.iload_n 3, 1) := by decide +kernel
theorem dX12_sizeOf_42 : decode cX12_sizeOf 42 = .ok (.aload_n 0, 1) := by decide +kernel
theorem dX12_sizeOf_43 : decode cX12_sizeOf 43 = .ok (.iload_n 1, 1) := by decide +kernel
theorem dX12_sizeOf_44 : decode cX12_sizeOf 44 = .ok (.invokevirtual 246, 3) := by decide +kernel
theorem dX12_sizeOf_47 : decode cX12_sizeOf 47 = .ok (.iadd, 1) := by decide +kernel
theorem dX12_sizeOf_48 : decode cX12_sizeOf 48 = .ok (.istore_n 3, 1) := by decide +kernel
theorem dX12_sizeOf_49 : decode cX12_sizeOf 49 = .ok (.iload_n 2, 1) := by decide +kernel
theorem dX12_sizeOf_50 : decode cX12_sizeOf 50 = .ok (.iconst 2, 1) := by decide +kernel
theorem dX12_sizeOf_51 : decode cX12_sizeOf 51 = .ok (.if_icmp .ne 8, 3) := by decide +kernel
theorem dX12_sizeOf_54 : decode cX12_sizeOf 54 = .ok (.iload_n 3, 1) := by decide +kernel
theorem dX12_sizeOf_55 : decode cX12_sizeOf 55 = .ok (.ineg, 1) := by decide +kernel
theorem dX12_sizeOf_56 : decode cX12_sizeOf 56 = .ok (.goto 4, 3) := by decide +kernel
theorem dX12_sizeOf_59 : decode cX12_sizeOf 59 = .ok (.iload_n 3, 1) := by decide +kernel
theorem dX12_sizeOf_60 : decode cX12_sizeOf 60 = .ok (.ireturn, 1) := by decide +kernel
theorem dX12_ask_0 : decode cX12_ask 0 = .ok (.aload_n 0, 1) := by decide +kernel
theorem dX12_ask_1 : decode cX12_ask 1 = .ok (.iconst 0, 1) := by decide +kernel
theorem dX12_ask_2 : decode cX12_ask 2 = .ok (.putfield 44, 3) := by decide +kernel
theorem dX12_ask_5 : decode cX12_ask 5 = .ok (.aload_n 0, 1) := by decide +kernel
theorem dX12_ask_6 : decode cX12_ask 6 = .ok (.iload_n 1, 1) := by decide +kernel
theorem dX12_ask_7 : decode cX12_ask 7 = .ok (.invokevirtual 212, 3) := by decide +kernel
theorem dX12_ask_10 : decode cX12_ask 10 = .ok (.ifCond .eq 13, 3) := by decide +kernel
theorem dX12_ask_13 : decode cX12_ask 13 = .ok (.iload_n 2, 1) := by decide +kernel
theorem dX12_ask_14 : decode cX12_ask 14 = .ok (.i2l, 1) := by decide +kernel
theorem dX12_ask_15 : decode cX12_ask 15 = .ok (.lconst 0, 1) := by decide +kernel
theorem dX12_ask_16 : decode cX12_ask 16 = .ok (.lconst 1, 1) := by decide +kernel
theorem dX12_ask_17 : decode cX12_ask 17 = .ok (.invokestatic 54, 3) := by decide +kernel
theorem dX12_ask_20 : decode cX12_ask 20 = .ok (.ifCond .ne 6, 3) := by decide +kernel
theorem dX12_ask_23 : decode cX12_ask 23 = .ok (.ldc 64, 2) := by decide +kernel
theorem dX12_ask_25 : decode cX12_ask 25 = .ok (.ireturn, 1) := by decide +kernel
theorem dX12_ask_26 : decode cX12_ask 26 = .ok (.aload_n 0, 1) := by decide +kernel
theorem dX12_ask_27 : decode cX12_ask 27 = .ok (.iconst 0, 1) := by decide +kernel
theorem dX12_ask_28 : decode cX12_ask 28 = .ok (.putfield 234, 3) := by decide +kernel
theorem dX12_ask_31 : decode cX12_ask 31 = .ok (.iload_n 2, 1) := by decide +kernel
theorem dX12_ask_32 : decode cX12_ask 32 = .ok (.ifCond .ne 11, 3) := by decide +kernel
theorem dX12_ask_35 : decode cX12_ask 35 = .ok (.aload_n 0, 1) := by decide +kernel
theorem dX12_ask_36 : decode cX12_ask 36 = .ok (.iload_n 1, 1) := by decide +kernel
theorem dX12_ask_37 : decode cX12_ask 37 = .ok (.invokevirtual 249, 3) := by decide +kernel
theorem dX12_ask_40 : decode cX12_ask 40 = .ok (.goto 8, 3) := by decide +kernel
theorem dX12_ask_43 : decode cX12_ask 43 = .ok (.aload_n 0, 1) := by decide +kernel
theorem dX12_ask_44 : decode cX12_ask 44 = .ok (.iload_n 1, 1) := by decide +kernel
theorem dX12_ask_45 : decode cX12_ask 45 = .ok (.invokevirtual 246, 3) := by decide +kernel
theorem dX12_ask_48 : decode cX12_ask 48 = .ok (.ireturn, 1) := by decide +kernel
theorem dX12_trace_0 : decode cX12_trace 0 = .ok (.aload_n 0, 1) := by decide +kernel
theorem dX12_trace_1 : decode cX12_trace 1 = .ok (.iconst 0, 1) := by decide +kernel
theorem dX12_trace_2 : decode cX12_trace 2 = .ok (.putfield 44, 3) := by decide +kernel
theorem dX12_trace_5 : decode cX12_trace 5 = .ok (.iload_n 1, 1) := by decide +kernel
theorem dX12_trace_6 : decode cX12_trace 6 = .ok (.i2l, 1) := by decide +kernel
theorem dX12_trace_7 : decode cX12_trace 7 = .ok (.lconst 0, 1) := by decide +kernel
theorem dX12_trace_8 : decode cX12_trace 8 = .ok (.aload_n 0, 1) := by decide +kernel
theorem dX12_trace_9 : decode cX12_trace 9 = .ok (.getfield 234, 3) := by decide +kernel
theorem dX12_trace_12 : decode cX12_trace 12 = .ok (.iconst 1, 1) := by decide +kernel
theorem dX12_trace_13 : decode cX12_trace 13 = .ok (.isub, 1) := by decide +kernel
theorem dX12_trace_14 : decode cX12_trace 14 = .ok (.i2l, 1) := by decide +kernel
theorem dX12_trace_15 : decode cX12_trace 15 = .ok (.invokestatic 54, 3) := by decide +kernel
theorem dX12_trace_18 : decode cX12_trace 18 = .ok (.ifCond .eq 12, 3) := by decide +kernel
theorem dX12_trace_21 : decode cX12_trace 21 = .ok (.aload_n 0, 1) := by decide +kernel
theorem dX12_trace_22 : decode cX12_trace 22 = .ok (.getfield 41, 3) := by decide +kernel
theorem dX12_trace_25 : decode cX12_trace 25 = .ok (.iload_n 1, 1) := by decide +kernel
theorem dX12_trace_26 : decode cX12_trace 26 = .ok (.iaload, 1) := by decide +kernel
end
section
theorem dX12_trace_27 : decode cX12_trace 27 = .ok (.goto 5, 3) := by decide +kernel
theorem dX12_trace_30 : decode cX12_trace 30 = .ok (.ldc 80, 2) := by decide +kernel
theorem dX12_trace_32 : decode cX12_trace 32 = .ok (.ireturn, 1) := by decide +kernel
theorem dX12_count_0 : decode cX12_count 0 = .ok (.aload_n 0, 1) := by decide +kernel
theorem dX12_count_1 : decode cX12_count 1 = .ok (.iconst 0, 1) := by decide +kernel
theorem dX12_count_2 : decode cX12_count 2 = .ok (.putfield 44, 3) := by decide +kernel
theorem dX12_count_5 : decode cX12_count 5 = .ok (.iconst 0, 1) := by decide +kernel
theorem dX12_count_6 : decode cX12_count 6 = .ok (.istore_n 2, 1) := by decide +kernel
theorem dX12_count_7 : decode cX12_count 7 = .ok (.iload_n 1, 1) := by decide +kernel
theorem dX12_count_8 : decode cX12_count 8 = .ok (.tableswitch 92 0 5 #[40, 73, 73, 73, 82, 87], 40) := by decide +kernel
theorem dX12_count_48 : decode cX12_count 48 = .ok (.iconst 0, 1) := by decide +kernel
theorem dX12_count_49 : decode cX12_count 49 = .ok (.istore_n 3, 1) := by decide +kernel
theorem dX12_count_50 : decode cX12_count 50 = .ok (.iload_n 3, 1) := by decide +kernel
theorem dX12_count_51 : decode cX12_count 51 = .ok (.bipush 8, 2) := by decide +kernel
theorem dX12_count_53 : decode cX12_count 53 = .ok (.if_icmp .ge 26, 3) := by decide +kernel
theorem dX12_count_56 : decode cX12_count 56 = .ok (.iload_n 2, 1) := by decide +kernel
theorem dX12_count_57 : decode cX12_count 57 = .ok (.aload_n 0, 1) := by decide +kernel
theorem dX12_count_58 : decode cX12_count 58 = .ok (.getfield 7, 3) := by decide +kernel
theorem dX12_count_61 : decode cX12_count 61 = .ok (.iload_n 3, 1) := by decide +kernel
theorem dX12_count_62 : decode cX12_count 62 = .ok (.iaload, 1) := by decide +kernel
theorem dX12_count_63 : decode cX12_count 63 = .ok (.ifCond .lt 7, 3) := by decide +kernel
theorem dX12_count_66 : decode cX12_count 66 = .ok (.iconst 1, 1) := by decide +kernel
theorem dX12_count_67 : decode cX12_count 67 = .ok (.goto 4, 3) := by decide +kernel
theorem dX12_count_70 : decode cX12_count 70 = .ok (.iconst 0, 1) := by decide +kernel
theorem dX12_count_71 : decode cX12_count 71 = .ok (.iadd, 1) := by decide +kernel
theorem dX12_count_72 : decode cX12_count 72 = .ok (.istore_n 2, 1) := by decide +kernel
theorem dX12_count_73 : decode cX12_count 73 = .ok (.iinc 3 1, 3) := by decide +kernel
theorem dX12_count_76 : decode cX12_count 76 = .ok (.goto (-26), 3) := by decide +kernel
theorem dX12_count_79 : decode cX12_count 79 = .ok (.iload_n 2, 1) := by decide +kernel
theorem dX12_count_80 : decode cX12_count 80 = .ok (.ireturn, 1) := by decide +kernel
theorem dX12_count_81 : decode cX12_count 81 = .ok (.aload_n 0, 1) := by decide +kernel
theorem dX12_count_82 : decode cX12_count 82 = .ok (.getfield 19, 3) := by decide +kernel
theorem dX12_count_85 : decode cX12_count 85 = .ok (.iload_n 1, 1) := by decide +kernel
theorem dX12_count_86 : decode cX12_count 86 = .ok (.iconst 1, 1) := by decide +kernel
theorem dX12_count_87 : decode cX12_count 87 = .ok (.isub, 1) := by decide +kernel
theorem dX12_count_88 : decode cX12_count 88 = .ok (.iaload, 1) := by decide +kernel
theorem dX12_count_89 : decode cX12_count 89 = .ok (.ireturn, 1) := by decide +kernel
theorem dX12_count_90 : decode cX12_count 90 = .ok (.aload_n 0, 1) := by decide +kernel
theorem dX12_count_91 : decode cX12_count 91 = .ok (.getfield 157, 3) := by decide +kernel
theorem dX12_count_94 : decode cX12_count 94 = .ok (.ireturn, 1) := by decide +kernel
theorem dX12_count_95 : decode cX12_count 95 = .ok (.aload_n 0, 1) := by decide +kernel
theorem dX12_count_96 : decode cX12_count 96 = .ok (.getfield 71, 3) := by decide +kernel
theorem dX12_count_99 : decode cX12_count 99 = .ok (.ireturn, 1) := by decide +kernel
theorem dX12_count_100 : decode cX12_count 100 = .ok (.ldc 64, 2) := by decide +kernel
theorem dX12_count_102 : decode cX12_count 102 = .ok (.ireturn, 1) := by decide +kernel
theorem dX12_status_0 : decode cX12_status 0 = .ok (.aload_n 0, 1) := by decide +kernel
theorem dX12_status_1 : decode cX12_status 1 = .ok (.iconst 0, 1) := by decide +kernel
theorem dX12_status_2 : decode cX12_status 2 = .ok (.putfield 44, 3) := by decide +kernel
theorem dX12_status_5 : decode cX12_status 5 = .ok (.aload_n 0, 1) := by decide +kernel
theorem dX12_status_6 : decode cX12_status 6 = .ok (.getfield 48, 3) := by decide +kernel
theorem dX12_status_9 : decode cX12_status 9 = .ok (.ireturn, 1) := by decide +kernel
theorem dJ6_bitCount_0f7a4_0 : decode cJ6_bitCount_0f7a4 0 = .ok (.iload_n 0, 1) := by decide +kernel
theorem dJ6_bitCount_0f7a4_1 : decode cJ6_bitCount_0f7a4 1 = .ok (.iload_n 0, 1) := by decide +kernel
theorem dJ6_bitCount_0f7a4_2 : decode cJ6_bitCount_0f7a4 2 = .ok (.iconst 1, 1) := by decide +kernel
theorem dJ6_bitCount_0f7a4_3 : decode cJ6_bitCount_0f7a4 3 = .ok (.iushr, 1) := by decide +kernel
theorem dJ6_bitCount_0f7a4_4 : decode cJ6_bitCount_0f7a4 4 = .ok (.ldc_w 265, 3) := by decide +kernel
theorem dJ6_bitCount_0f7a4_7 : decode cJ6_bitCount_0f7a4 7 = .ok (.iand, 1) := by decide +kernel
theorem dJ6_bitCount_0f7a4_8 : decode cJ6_bitCount_0f7a4 8 = .ok (.isub, 1) := by decide +kernel
theorem dJ6_bitCount_0f7a4_9 : decode cJ6_bitCount_0f7a4 9 = .ok (.istore_n 0, 1) := by decide +kernel
theorem dJ6_bitCount_0f7a4_10 : decode cJ6_bitCount_0f7a4 10 = .ok (.iload_n 0, 1) := by decide +kernel
theorem dJ6_bitCount_0f7a4_11 : decode cJ6_bitCount_0f7a4 11 = .ok (.ldc_w 266, 3) := by decide +kernel
theorem dJ6_bitCount_0f7a4_14 : decode cJ6_bitCount_0f7a4 14 = .ok (.iand, 1) := by decide +kernel
theorem dJ6_bitCount_0f7a4_15 : decode cJ6_bitCount_0f7a4 15 = .ok (.iload_n 0, 1) := by decide +kernel
theorem dJ6_bitCount_0f7a4_16 : decode cJ6_bitCount_0f7a4 16 = .ok (.iconst 2, 1) := by decide +kernel
theorem dJ6_bitCount_0f7a4_17 : decode cJ6_bitCount_0f7a4 17 = .ok (.iushr, 1) := by decide +kernel
theorem dJ6_bitCount_0f7a4_18 : decode cJ6_bitCount_0f7a4 18 = .ok (.ldc_w 266, 3) := by decide +kernel
theorem dJ6_bitCount_0f7a4_21 : decode cJ6_bitCount_0f7a4 21 = .ok (.iand, 1) := by decide +kernel
theorem dJ6_bitCount_0f7a4_22 : decode cJ6_bitCount_0f7a4 22 = .ok (.iadd, 1) := by decide +kernel
theorem dJ6_bitCount_0f7a4_23 : decode cJ6_bitCount_0f7a4 23 = .ok (.istore_n 0, 1) := by decide +kernel
theorem dJ6_bitCount_0f7a4_24 : decode cJ6_bitCount_0f7a4 24 = .ok (.iload_n 0, 1) := by decide +kernel
theorem dJ6_bitCount_0f7a4_25 : decode cJ6_bitCount_0f7a4 25 = .ok (.iload_n 0, 1) := by decide +kernel
theorem dJ6_bitCount_0f7a4_26 : decode cJ6_bitCount_0f7a4 26 = .ok (.iconst 4, 1) := by decide +kernel
theorem dJ6_bitCount_0f7a4_27 : decode cJ6_bitCount_0f7a4 27 = .ok (.iushr, 1) := by decide +kernel
theorem dJ6_bitCount_0f7a4_28 : decode cJ6_bitCount_0f7a4 28 = .ok (.iadd, 1) := by decide +kernel
theorem dJ6_bitCount_0f7a4_29 : decode cJ6_bitCount_0f7a4 29 = .ok (.ldc_w 267, 3) := by decide +kernel
theorem dJ6_bitCount_0f7a4_32 : decode cJ6_bitCount_0f7a4 32 = .ok (.iand, 1) := by decide +kernel
theorem dJ6_bitCount_0f7a4_33 : decode cJ6_bitCount_0f7a4 33 = .ok (.istore_n 0, 1) := by decide +kernel
theorem dJ6_bitCount_0f7a4_34 : decode cJ6_bitCount_0f7a4 34 = .ok (.iload_n 0, 1) := by decide +kernel
theorem dJ6_bitCount_0f7a4_35 : decode cJ6_bitCount_0f7a4 35 = .ok (.iload_n 0, 1) := by decide +kernel
theorem dJ6_bitCount_0f7a4_36 : decode cJ6_bitCount_0f7a4 36 = .ok (.bipush 8, 2) := by decide +kernel
theorem dJ6_bitCount_0f7a4_38 : decode cJ6_bitCount_0f7a4 38 = .ok (.iushr, 1) := by decide +kernel
theorem dJ6_bitCount_0f7a4_39 : decode cJ6_bitCount_0f7a4 39 = .ok (.iadd, 1) := by decide +kernel
theorem dJ6_bitCount_0f7a4_40 : decode cJ6_bitCount_0f7a4 40 = .ok (.istore_n 0, 1) := by decide +kernel
theorem dJ6_bitCount_0f7a4_41 : decode cJ6_bitCount_0f7a4 41 = .ok (.iload_n 0, 1) := by decide +kernel
theorem dJ6_bitCount_0f7a4_42 : decode cJ6_bitCount_0f7a4 42 = .ok (.iload_n 0, 1) := by decide +kernel
theorem dJ6_bitCount_0f7a4_43 : decode cJ6_bitCount_0f7a4 43 = .ok (.bipush 16, 2) := by decide +kernel
theorem dJ6_bitCount_0f7a4_45 : decode cJ6_bitCount_0f7a4 45 = .ok (.iushr, 1) := by decide +kernel
theorem dJ6_bitCount_0f7a4_46 : decode cJ6_bitCount_0f7a4 46 = .ok (.iadd, 1) := by decide +kernel
theorem dJ6_bitCount_0f7a4_47 : decode cJ6_bitCount_0f7a4 47 = .ok (.istore_n 0, 1) := by decide +kernel
theorem dJ6_bitCount_0f7a4_48 : decode cJ6_bitCount_0f7a4 48 = .ok (.iload_n 0, 1) := by decide +kernel
theorem dJ6_bitCount_0f7a4_49 : decode cJ6_bitCount_0f7a4 49 = .ok (.bipush 63, 2) := by decide +kernel
theorem dJ6_bitCount_0f7a4_51 : decode cJ6_bitCount_0f7a4 51 = .ok (.iand, 1) := by decide +kernel
theorem dJ6_bitCount_0f7a4_52 : decode cJ6_bitCount_0f7a4 52 = .ok (.ireturn, 1) := by decide +kernel
theorem dJ9_min_7cf53_0 : decode cJ9_min_7cf53 0 = .ok (.iload_n 0, 1) := by decide +kernel
theorem dJ9_min_7cf53_1 : decode cJ9_min_7cf53 1 = .ok (.iload_n 1, 1) := by decide +kernel
theorem dJ9_min_7cf53_2 : decode cJ9_min_7cf53 2 = .ok (.if_icmp .gt 7, 3) := by decide +kernel
theorem dJ9_min_7cf53_5 : decode cJ9_min_7cf53 5 = .ok (.iload_n 0, 1) := by decide +kernel
theorem dJ9_min_7cf53_6 : decode cJ9_min_7cf53 6 = .ok (.goto 4, 3) := by decide +kernel
theorem dJ9_min_7cf53_9 : decode cJ9_min_7cf53 9 = .ok (.iload_n 1, 1) := by decide +kernel
theorem dJ9_min_7cf53_10 : decode cJ9_min_7cf53 10 = .ok (.ireturn, 1) := by decide +kernel
theorem dJ0_length_8abf5_0 : decode cJ0_length_8abf5 0 = .ok (.aload_n 0, 1) := by decide +kernel
theorem dJ0_length_8abf5_1 : decode cJ0_length_8abf5 1 = .ok (.getfield 9, 3) := by decide +kernel
theorem dJ0_length_8abf5_4 : decode cJ0_length_8abf5 4 = .ok (.arraylength, 1) := by decide +kernel
theorem dJ0_length_8abf5_5 : decode cJ0_length_8abf5 5 = .ok (.aload_n 0, 1) := by decide +kernel
theorem dJ0_length_8abf5_6 : decode cJ0_length_8abf5 6 = .ok (.invokevirtual 335, 3) := by decide +kernel
theorem dJ0_length_8abf5_9 : decode cJ0_length_8abf5 9 = .ok (.ishr, 1) := by decide +kernel
theorem dJ0_length_8abf5_10 : decode cJ0_length_8abf5 10 = .ok (.ireturn, 1) := by decide +kernel
theorem dJ0_charAt_5068e_0 : decode cJ0_charAt_5068e 0 = .ok (.aload_n 0, 1) := by decide +kernel
theorem dJ0_charAt_5068e_1 : decode cJ0_charAt_5068e 1 = .ok (.invokevirtual 492, 3) := by decide +kernel
theorem dJ0_charAt_5068e_4 : decode cJ0_charAt_5068e 4 = .ok (.ifCond .eq 12, 3) := by decide +kernel
theorem dJ0_charAt_5068e_7 : decode cJ0_charAt_5068e 7 = .ok (.aload_n 0, 1) := by decide +kernel
theorem dJ0_charAt_5068e_8 : decode cJ0_charAt_5068e 8 = .ok (.getfield 9, 3) := by decide +kernel
theorem dJ0_charAt_5068e_11 : decode cJ0_charAt_5068e 11 = .ok (.iload_n 1, 1) := by decide +kernel
theorem dJ0_charAt_5068e_12 : decode cJ0_charAt_5068e 12 = .ok (.invokestatic 495, 3) := by decide +kernel
theorem dJ0_charAt_5068e_15 : decode cJ0_charAt_5068e 15 = .ok (.ireturn, 1) := by decide +kernel
theorem dJ0_charAt_5068e_16 : decode cJ0_charAt_5068e 16 = .ok (.aload_n 0, 1) := by decide +kernel
theorem dJ0_charAt_5068e_17 : decode cJ0_charAt_5068e 17 = .ok (.getfield 9, 3) := by decide +kernel
theorem dJ0_charAt_5068e_20 : decode cJ0_charAt_5068e 20 = .ok (.iload_n 1, 1) := by decide +kernel
theorem dJ0_charAt_5068e_21 : decode cJ0_charAt_5068e 21 = .ok (.invokestatic 498, 3) := by decide +kernel
theorem dJ0_charAt_5068e_24 : decode cJ0_charAt_5068e 24 = .ok (.ireturn, 1) := by decide +kernel
theorem dJ0_coder_7d493_0 : decode cJ0_coder_7d493 0 = .ok (.getstatic 38, 3) := by decide +kernel
theorem dJ0_coder_7d493_3 : decode cJ0_coder_7d493 3 = .ok (.ifCond .eq 10, 3) := by decide +kernel
theorem dJ0_coder_7d493_6 : decode cJ0_coder_7d493 6 = .ok (.aload_n 0, 1) := by decide +kernel
theorem dJ0_coder_7d493_7 : decode cJ0_coder_7d493 7 = .ok (.getfield 15, 3) := by decide +kernel
theorem dJ0_coder_7d493_10 : decode cJ0_coder_7d493 10 = .ok (.goto 4, 3) := by decide +kernel
theorem dJ0_coder_7d493_13 : decode cJ0_coder_7d493 13 = .ok (.iconst 1, 1) := by decide +kernel
theorem dJ0_coder_7d493_14 : decode cJ0_coder_7d493 14 = .ok (.ireturn, 1) := by decide +kernel
theorem dJ0_isLatin1_aae02_0 : decode cJ0_isLatin1_aae02 0 = .ok (.getstatic 38, 3) := by decide +kernel
theorem dJ0_isLatin1_aae02_3 : decode cJ0_isLatin1_aae02 3 = .ok (.ifCond .eq 14, 3) := by decide +kernel
theorem dJ0_isLatin1_aae02_6 : decode cJ0_isLatin1_aae02 6 = .ok (.aload_n 0, 1) := by decide +kernel
theorem dJ0_isLatin1_aae02_7 : decode cJ0_isLatin1_aae02 7 = .ok (.getfield 15, 3) := by decide +kernel
theorem dJ0_isLatin1_aae02_10 : decode cJ0_isLatin1_aae02 10 = .ok (.ifCond .ne 7, 3) := by decide +kernel
theorem dJ0_isLatin1_aae02_13 : decode cJ0_isLatin1_aae02 13 = .ok (.iconst 1, 1) := by decide +kernel
theorem dJ0_isLatin1_aae02_14 : decode cJ0_isLatin1_aae02 14 = .ok (.goto 4, 3) := by decide +kernel
theorem dJ0_isLatin1_aae02_17 : decode cJ0_isLatin1_aae02 17 = .ok (.iconst 0, 1) := by decide +kernel
theorem dJ0_isLatin1_aae02_18 : decode cJ0_isLatin1_aae02 18 = .ok (.ireturn, 1) := by decide +kernel
theorem dJ0_checkIndex_df160_0 : decode cJ0_checkIndex_df160 0 = .ok (.iload_n 0, 1) := by decide +kernel
theorem dJ0_checkIndex_df160_1 : decode cJ0_checkIndex_df160 1 = .ok (.iload_n 1, 1) := by decide +kernel
theorem dJ0_checkIndex_df160_2 : decode cJ0_checkIndex_df160 2 = .ok (.getstatic 1053, 3) := by decide +kernel
theorem dJ0_checkIndex_df160_5 : decode cJ0_checkIndex_df160 5 = .ok (.invokestatic 1059, 3) := by decide +kernel
theorem dJ0_checkIndex_df160_8 : decode cJ0_checkIndex_df160 8 = .ok (.pop, 1) := by decide +kernel
theorem dJ0_checkIndex_df160_9 : decode cJ0_checkIndex_df160 9 = .ok (.return_, 1) := by decide +kernel
theorem dJ1_charAt_3b067_0 : decode cJ1_charAt_3b067 0 = .ok (.iload_n 1, 1) := by decide +kernel
theorem dJ1_charAt_3b067_1 : decode cJ1_charAt_3b067 1 = .ok (.aload_n 0, 1) := by decide +kernel
theorem dJ1_charAt_3b067_2 : decode cJ1_charAt_3b067 2 = .ok (.arraylength, 1) := by decide +kernel
theorem dJ1_charAt_3b067_3 : decode cJ1_charAt_3b067 3 = .ok (.invokestatic 9, 3) := by decide +kernel
theorem dJ1_charAt_3b067_6 : decode cJ1_charAt_3b067 6 = .ok (.aload_n 0, 1) := by decide +kernel
theorem dJ1_charAt_3b067_7 : decode cJ1_charAt_3b067 7 = .ok (.iload_n 1, 1) := by decide +kernel
theorem dJ1_charAt_3b067_8 : decode cJ1_charAt_3b067 8 = .ok (.baload, 1) := by decide +kernel
theorem dJ1_charAt_3b067_9 : decode cJ1_charAt_3b067 9 = .ok (.sipush 255, 3) := by decide +kernel
theorem dJ1_charAt_3b067_12 : decode cJ1_charAt_3b067 12 = .ok (.iand, 1) := by decide +kernel
theorem dJ1_charAt_3b067_13 : decode cJ1_charAt_3b067 13 = .ok (.i2c, 1) := by decide +kernel
theorem dJ1_charAt_3b067_14 : decode cJ1_charAt_3b067 14 = .ok (.ireturn, 1) := by decide +kernel
theorem dJ2_getChar_3b067_0 : decode cJ2_getChar_3b067 0 = .ok (.getstatic 44, 3) := by decide +kernel
theorem dJ2_getChar_3b067_3 : decode cJ2_getChar_3b067 3 = .ok (.ifCond .ne 25, 3) := by decide +kernel
theorem dJ2_getChar_3b067_6 : decode cJ2_getChar_3b067 6 = .ok (.iload_n 1, 1) := by decide +kernel
theorem dJ2_getChar_3b067_7 : decode cJ2_getChar_3b067 7 = .ok (.ifCond .lt 11, 3) := by decide +kernel
theorem dJ2_getChar_3b067_10 : decode cJ2_getChar_3b067 10 = .ok (.iload_n 1, 1) := by decide +kernel
theorem dJ2_getChar_3b067_11 : decode cJ2_getChar_3b067 11 = .ok (.aload_n 0, 1) := by decide +kernel
theorem dJ2_getChar_3b067_12 : decode cJ2_getChar_3b067 12 = .ok (.invokestatic 48, 3) := by decide +kernel
theorem dJ2_getChar_3b067_15 : decode cJ2_getChar_3b067 15 = .ok (.if_icmp .lt 13, 3) := by decide +kernel
theorem dJ2_getChar_3b067_18 : decode cJ2_getChar_3b067 18 = .ok (.new 52, 3) := by decide +kernel
theorem dJ2_getChar_3b067_21 : decode cJ2_getChar_3b067 21 = .ok (.dup, 1) := by decide +kernel
theorem dJ2_getChar_3b067_22 : decode cJ2_getChar_3b067 22 = .ok (.ldc 54, 2) := by decide +kernel
theorem dJ2_getChar_3b067_24 : decode cJ2_getChar_3b067 24 = .ok (.invokespecial 56, 3) := by decide +kernel
theorem dJ2_getChar_3b067_27 : decode cJ2_getChar_3b067 27 = .ok (.athrow, 1) := by decide +kernel
theorem dJ2_getChar_3b067_28 : decode cJ2_getChar_3b067 28 = .ok (.iload_n 1, 1) := by decide +kernel
theorem dJ2_getChar_3b067_29 : decode cJ2_getChar_3b067 29 = .ok (.iconst 1, 1) := by decide +kernel
theorem dJ2_getChar_3b067_30 : decode cJ2_getChar_3b067 30 = .ok (.ishl, 1) := by decide +kernel
theorem dJ2_getChar_3b067_31 : decode cJ2_getChar_3b067 31 = .ok (.istore_n 1, 1) := by decide +kernel
theorem dJ2_getChar_3b067_32 : decode cJ2_getChar_3b067 32 = .ok (.aload_n 0, 1) := by decide +kernel
theorem dJ2_getChar_3b067_33 : decode cJ2_getChar_3b067 33 = .ok (.iload_n 1, 1) := by decide +kernel
theorem dJ2_getChar_3b067_34 : decode cJ2_getChar_3b067 34 = .ok (.iinc 1 1, 3) := by decide +kernel
theorem dJ2_getChar_3b067_37 : decode cJ2_getChar_3b067 37 = .ok (.baload, 1) := by decide +kernel
theorem dJ2_getChar_3b067_38 : decode cJ2_getChar_3b067 38 = .ok (.sipush 255, 3) := by decide +kernel
theorem dJ2_getChar_3b067_41 : decode cJ2_getChar_3b067 41 = .ok (.iand, 1) := by decide +kernel
theorem dJ2_getChar_3b067_42 : decode cJ2_getChar_3b067 42 = .ok (.getstatic 59, 3) := by decide +kernel
theorem dJ2_getChar_3b067_45 : decode cJ2_getChar_3b067 45 = .ok (.ishl, 1) := by decide +kernel
theorem dJ2_getChar_3b067_46 : decode cJ2_getChar_3b067 46 = .ok (.aload_n 0, 1) := by decide +kernel
theorem dJ2_getChar_3b067_47 : decode cJ2_getChar_3b067 47 = .ok (.iload_n 1, 1) := by decide +kernel
theorem dJ2_getChar_3b067_48 : decode cJ2_getChar_3b067 48 = .ok (.baload, 1) := by decide +kernel
theorem dJ2_getChar_3b067_49 : decode cJ2_getChar_3b067 49 = .ok (.sipush 255, 3) := by decide +kernel
theorem dJ2_getChar_3b067_52 : decode cJ2_getChar_3b067 52 = .ok (.iand, 1) := by decide +kernel
theorem dJ2_getChar_3b067_53 : decode cJ2_getChar_3b067 53 = .ok (.getstatic 63, 3) := by decide +kernel
theorem dJ2_getChar_3b067_56 : decode cJ2_getChar_3b067 56 = .ok (.ishl, 1) := by decide +kernel
theorem dJ2_getChar_3b067_57 : decode cJ2_getChar_3b067 57 = .ok (.ior, 1) := by decide +kernel
theorem dJ2_getChar_3b067_58 : decode cJ2_getChar_3b067 58 = .ok (.i2c, 1) := by decide +kernel
theorem dJ2_getChar_3b067_59 : decode cJ2_getChar_3b067 59 = .ok (.ireturn, 1) := by decide +kernel
theorem dJ2_length_9d52b_0 : decode cJ2_length_9d52b 0 = .ok (.aload_n 0, 1) := by decide +kernel
theorem dJ2_length_9d52b_1 : decode cJ2_length_9d52b 1 = .ok (.arraylength, 1) := by decide +kernel
theorem dJ2_length_9d52b_2 : decode cJ2_length_9d52b 2 = .ok (.iconst 1, 1) := by decide +kernel
theorem dJ2_length_9d52b_3 : decode cJ2_length_9d52b 3 = .ok (.ishr, 1) := by decide +kernel
theorem dJ2_length_9d52b_4 : decode cJ2_length_9d52b 4 = .ok (.ireturn, 1) := by decide +kernel
theorem dJ2_charAt_3b067_0 : decode cJ2_charAt_3b067 0 = .ok (.iload_n 1, 1) := by decide +kernel
theorem dJ2_charAt_3b067_1 : decode cJ2_charAt_3b067 1 = .ok (.aload_n 0, 1) := by decide +kernel
theorem dJ2_charAt_3b067_2 : decode cJ2_charAt_3b067 2 = .ok (.invokestatic 67, 3) := by decide +kernel
theorem dJ2_charAt_3b067_5 : decode cJ2_charAt_3b067 5 = .ok (.aload_n 0, 1) := by decide +kernel
theorem dJ2_charAt_3b067_6 : decode cJ2_charAt_3b067 6 = .ok (.iload_n 1, 1) := by decide +kernel
theorem dJ2_charAt_3b067_7 : decode cJ2_charAt_3b067 7 = .ok (.invokestatic 71, 3) := by decide +kernel
theorem dJ2_charAt_3b067_10 : decode cJ2_charAt_3b067 10 = .ok (.ireturn, 1) := by decide +kernel
theorem dJ2_checkIndex_2214a_0 : decode cJ2_checkIndex_2214a 0 = .ok (.iload_n 0, 1) := by decide +kernel
theorem dJ2_checkIndex_2214a_1 : decode cJ2_checkIndex_2214a 1 = .ok (.aload_n 1, 1) := by decide +kernel
theorem dJ2_checkIndex_2214a_2 : decode cJ2_checkIndex_2214a 2 = .ok (.invokestatic 48, 3) := by decide +kernel
theorem dJ2_checkIndex_2214a_5 : decode cJ2_checkIndex_2214a 5 = .ok (.invokestatic 414, 3) := by decide +kernel
theorem dJ2_checkIndex_2214a_8 : decode cJ2_checkIndex_2214a 8 = .ok (.return_, 1) := by decide +kernel
theorem dJ7_fill_53178_0 : decode cJ7_fill_53178 0 = .ok (.iconst 0, 1) := by decide +kernel
theorem dJ7_fill_53178_1 : decode cJ7_fill_53178 1 = .ok (.istore_n 2, 1) := by decide +kernel
theorem dJ7_fill_53178_2 : decode cJ7_fill_53178 2 = .ok (.aload_n 0, 1) := by decide +kernel
theorem dJ7_fill_53178_3 : decode cJ7_fill_53178 3 = .ok (.arraylength, 1) := by decide +kernel
theorem dJ7_fill_53178_4 : decode cJ7_fill_53178 4 = .ok (.istore_n 3, 1) := by decide +kernel
theorem dJ7_fill_53178_5 : decode cJ7_fill_53178 5 = .ok (.iload_n 2, 1) := by decide +kernel
theorem dJ7_fill_53178_6 : decode cJ7_fill_53178 6 = .ok (.iload_n 3, 1) := by decide +kernel
theorem dJ7_fill_53178_7 : decode cJ7_fill_53178 7 = .ok (.if_icmp .ge 13, 3) := by decide +kernel
theorem dJ7_fill_53178_10 : decode cJ7_fill_53178 10 = .ok (.aload_n 0, 1) := by decide +kernel
theorem dJ7_fill_53178_11 : decode cJ7_fill_53178 11 = .ok (.iload_n 2, 1) := by decide +kernel
theorem dJ7_fill_53178_12 : decode cJ7_fill_53178 12 = .ok (.iload_n 1, 1) := by decide +kernel
theorem dJ7_fill_53178_13 : decode cJ7_fill_53178 13 = .ok (.iastore, 1) := by decide +kernel
theorem dJ7_fill_53178_14 : decode cJ7_fill_53178 14 = .ok (.iinc 2 1, 3) := by decide +kernel
theorem dJ7_fill_53178_17 : decode cJ7_fill_53178 17 = .ok (.goto (-12), 3) := by decide +kernel
theorem dJ7_fill_53178_20 : decode cJ7_fill_53178 20 = .ok (.return_, 1) := by decide +kernel
theorem dJ3_checkIndex_8e157_0 : decode cJ3_checkIndex_8e157 0 = .ok (.iload_n 0, 1) := by decide +kernel
theorem dJ3_checkIndex_8e157_1 : decode cJ3_checkIndex_8e157 1 = .ok (.ifCond .lt 8, 3) := by decide +kernel
theorem dJ3_checkIndex_8e157_4 : decode cJ3_checkIndex_8e157 4 = .ok (.iload_n 0, 1) := by decide +kernel
theorem dJ3_checkIndex_8e157_5 : decode cJ3_checkIndex_8e157 5 = .ok (.iload_n 1, 1) := by decide +kernel
theorem dJ3_checkIndex_8e157_6 : decode cJ3_checkIndex_8e157 6 = .ok (.if_icmp .lt 10, 3) := by decide +kernel
theorem dJ3_checkIndex_8e157_9 : decode cJ3_checkIndex_8e157 9 = .ok (.aload_n 2, 1) := by decide +kernel
theorem dJ3_checkIndex_8e157_10 : decode cJ3_checkIndex_8e157 10 = .ok (.iload_n 0, 1) := by decide +kernel
theorem dJ3_checkIndex_8e157_11 : decode cJ3_checkIndex_8e157 11 = .ok (.iload_n 1, 1) := by decide +kernel
theorem dJ3_checkIndex_8e157_12 : decode cJ3_checkIndex_8e157 12 = .ok (.invokestatic 95, 3) := by decide +kernel
theorem dJ3_checkIndex_8e157_15 : decode cJ3_checkIndex_8e157 15 = .ok (.athrow, 1) := by decide +kernel
theorem dJ3_checkIndex_8e157_16 : decode cJ3_checkIndex_8e157 16 = .ok (.iload_n 0, 1) := by decide +kernel
theorem dJ3_checkIndex_8e157_17 : decode cJ3_checkIndex_8e157 17 = .ok (.ireturn, 1) := by decide +kernel
theorem dL_law_0 : decode cL_law 0 = .ok (.new 7, 3) := by decide +kernel
theorem dL_law_3 : decode cL_law 3 = .ok (.dup, 1) := by decide +kernel
theorem dL_law_4 : decode cL_law 4 = .ok (.invokespecial 9, 3) := by decide +kernel
theorem dL_law_7 : decode cL_law 7 = .ok (.astore_n 1, 1) := by decide +kernel
theorem dL_law_8 : decode cL_law 8 = .ok (.new 10, 3) := by decide +kernel
theorem dL_law_11 : decode cL_law 11 = .ok (.dup, 1) := by decide +kernel
theorem dL_law_12 : decode cL_law 12 = .ok (.invokespecial 12, 3) := by decide +kernel
theorem dL_law_15 : decode cL_law 15 = .ok (.astore_n 2, 1) := by decide +kernel
theorem dL_law_16 : decode cL_law 16 = .ok (.iconst 0, 1) := by decide +kernel
theorem dL_law_17 : decode cL_law 17 = .ok (.istore_n 3, 1) := by decide +kernel
theorem dL_law_18 : decode cL_law 18 = .ok (.iload_n 3, 1) := by decide +kernel
theorem dL_law_19 : decode cL_law 19 = .ok (.aload_n 0, 1) := by decide +kernel
theorem dL_law_20 : decode cL_law 20 = .ok (.arraylength, 1) := by decide +kernel
theorem dL_law_21 : decode cL_law 21 = .ok (.bipush 6, 2) := by decide +kernel
theorem dL_law_23 : decode cL_law 23 = .ok (.isub, 1) := by decide +kernel
theorem dL_law_24 : decode cL_law 24 = .ok (.if_icmp .gt 1030, 3) := by decide +kernel
theorem dL_law_27 : decode cL_law 27 = .ok (.aload_n 0, 1) := by decide +kernel
theorem dL_law_28 : decode cL_law 28 = .ok (.iload_n 3, 1) := by decide +kernel
theorem dL_law_29 : decode cL_law 29 = .ok (.iaload, 1) := by decide +kernel
theorem dL_law_30 : decode cL_law 30 = .ok (.bipush 31, 2) := by decide +kernel
theorem dL_law_32 : decode cL_law 32 = .ok (.iand, 1) := by decide +kernel
theorem dL_law_33 : decode cL_law 33 = .ok (.tableswitch 1015 0 29 #[135, 178, 221, 284, 307, 370, 383, 396, 419, 462, 495, 508, 541, 564, 587, 600, 623, 656, 699, 742, 755, 788, 821, 844, 867, 890, 923, 956, 979, 1002], 135) := by decide +kernel
theorem dL_law_168 : decode cL_law 168 = .ok (.aload_n 1, 1) := by decide +kernel
theorem dL_law_169 : decode cL_law 169 = .ok (.aload_n 0, 1) := by decide +kernel
theorem dL_law_170 : decode cL_law 170 = .ok (.iload_n 3, 1) := by decide +kernel
theorem dL_law_171 : decode cL_law 171 = .ok (.iconst 1, 1) := by decide +kernel
theorem dL_law_172 : decode cL_law 172 = .ok (.iadd, 1) := by decide +kernel
theorem dL_law_173 : decode cL_law 173 = .ok (.iaload, 1) := by decide +kernel
theorem dL_law_174 : decode cL_law 174 = .ok (.aload_n 0, 1) := by decide +kernel
theorem dL_law_175 : decode cL_law 175 = .ok (.iload_n 3, 1) := by decide +kernel
theorem dL_law_176 : decode cL_law 176 = .ok (.iconst 2, 1) := by decide +kernel
theorem dL_law_177 : decode cL_law 177 = .ok (.iadd, 1) := by decide +kernel
theorem dL_law_178 : decode cL_law 178 = .ok (.iaload, 1) := by decide +kernel
theorem dL_law_179 : decode cL_law 179 = .ok (.aload_n 0, 1) := by decide +kernel
theorem dL_law_180 : decode cL_law 180 = .ok (.iload_n 3, 1) := by decide +kernel
theorem dL_law_181 : decode cL_law 181 = .ok (.iconst 3, 1) := by decide +kernel
theorem dL_law_182 : decode cL_law 182 = .ok (.iadd, 1) := by decide +kernel
theorem dL_law_183 : decode cL_law 183 = .ok (.iaload, 1) := by decide +kernel
theorem dL_law_184 : decode cL_law 184 = .ok (.invokevirtual 13, 3) := by decide +kernel
theorem dL_law_187 : decode cL_law 187 = .ok (.aload_n 2, 1) := by decide +kernel
theorem dL_law_188 : decode cL_law 188 = .ok (.aload_n 0, 1) := by decide +kernel
theorem dL_law_189 : decode cL_law 189 = .ok (.iload_n 3, 1) := by decide +kernel
theorem dL_law_190 : decode cL_law 190 = .ok (.iconst 1, 1) := by decide +kernel
theorem dL_law_191 : decode cL_law 191 = .ok (.iadd, 1) := by decide +kernel
theorem dL_law_192 : decode cL_law 192 = .ok (.iaload, 1) := by decide +kernel
theorem dL_law_193 : decode cL_law 193 = .ok (.aload_n 0, 1) := by decide +kernel
theorem dL_law_194 : decode cL_law 194 = .ok (.iload_n 3, 1) := by decide +kernel
theorem dL_law_195 : decode cL_law 195 = .ok (.iconst 2, 1) := by decide +kernel
theorem dL_law_196 : decode cL_law 196 = .ok (.iadd, 1) := by decide +kernel
theorem dL_law_197 : decode cL_law 197 = .ok (.iaload, 1) := by decide +kernel
theorem dL_law_198 : decode cL_law 198 = .ok (.aload_n 0, 1) := by decide +kernel
theorem dL_law_199 : decode cL_law 199 = .ok (.iload_n 3, 1) := by decide +kernel
theorem dL_law_200 : decode cL_law 200 = .ok (.iconst 3, 1) := by decide +kernel
theorem dL_law_201 : decode cL_law 201 = .ok (.iadd, 1) := by decide +kernel
theorem dL_law_202 : decode cL_law 202 = .ok (.iaload, 1) := by decide +kernel
theorem dL_law_203 : decode cL_law 203 = .ok (.invokevirtual 17, 3) := by decide +kernel
theorem dL_law_206 : decode cL_law 206 = .ok (.if_icmp .eq 842, 3) := by decide +kernel
theorem dL_law_209 : decode cL_law 209 = .ok (.iconst 0, 1) := by decide +kernel
theorem dL_law_210 : decode cL_law 210 = .ok (.ireturn, 1) := by decide +kernel
theorem dL_law_211 : decode cL_law 211 = .ok (.aload_n 1, 1) := by decide +kernel
theorem dL_law_212 : decode cL_law 212 = .ok (.aload_n 0, 1) := by decide +kernel
theorem dL_law_213 : decode cL_law 213 = .ok (.iload_n 3, 1) := by decide +kernel
theorem dL_law_214 : decode cL_law 214 = .ok (.iconst 1, 1) := by decide +kernel
theorem dL_law_215 : decode cL_law 215 = .ok (.iadd, 1) := by decide +kernel
theorem dL_law_216 : decode cL_law 216 = .ok (.iaload, 1) := by decide +kernel
theorem dL_law_217 : decode cL_law 217 = .ok (.aload_n 0, 1) := by decide +kernel
theorem dL_law_218 : decode cL_law 218 = .ok (.iload_n 3, 1) := by decide +kernel
theorem dL_law_219 : decode cL_law 219 = .ok (.iconst 2, 1) := by decide +kernel
theorem dL_law_220 : decode cL_law 220 = .ok (.iadd, 1) := by decide +kernel
theorem dL_law_221 : decode cL_law 221 = .ok (.iaload, 1) := by decide +kernel
theorem dL_law_222 : decode cL_law 222 = .ok (.aload_n 0, 1) := by decide +kernel
theorem dL_law_223 : decode cL_law 223 = .ok (.iload_n 3, 1) := by decide +kernel
theorem dL_law_224 : decode cL_law 224 = .ok (.iconst 3, 1) := by decide +kernel
theorem dL_law_225 : decode cL_law 225 = .ok (.iadd, 1) := by decide +kernel
theorem dL_law_226 : decode cL_law 226 = .ok (.iaload, 1) := by decide +kernel
theorem dL_law_227 : decode cL_law 227 = .ok (.invokevirtual 18, 3) := by decide +kernel
theorem dL_law_230 : decode cL_law 230 = .ok (.aload_n 2, 1) := by decide +kernel
theorem dL_law_231 : decode cL_law 231 = .ok (.aload_n 0, 1) := by decide +kernel
theorem dL_law_232 : decode cL_law 232 = .ok (.iload_n 3, 1) := by decide +kernel
theorem dL_law_233 : decode cL_law 233 = .ok (.iconst 1, 1) := by decide +kernel
theorem dL_law_234 : decode cL_law 234 = .ok (.iadd, 1) := by decide +kernel
theorem dL_law_235 : decode cL_law 235 = .ok (.iaload, 1) := by decide +kernel
theorem dL_law_236 : decode cL_law 236 = .ok (.aload_n 0, 1) := by decide +kernel
theorem dL_law_237 : decode cL_law 237 = .ok (.iload_n 3, 1) := by decide +kernel
theorem dL_law_238 : decode cL_law 238 = .ok (.iconst 2, 1) := by decide +kernel
theorem dL_law_239 : decode cL_law 239 = .ok (.iadd, 1) := by decide +kernel
theorem dL_law_240 : decode cL_law 240 = .ok (.iaload, 1) := by decide +kernel
theorem dL_law_241 : decode cL_law 241 = .ok (.aload_n 0, 1) := by decide +kernel
theorem dL_law_242 : decode cL_law 242 = .ok (.iload_n 3, 1) := by decide +kernel
theorem dL_law_243 : decode cL_law 243 = .ok (.iconst 3, 1) := by decide +kernel
theorem dL_law_244 : decode cL_law 244 = .ok (.iadd, 1) := by decide +kernel
theorem dL_law_245 : decode cL_law 245 = .ok (.iaload, 1) := by decide +kernel
theorem dL_law_246 : decode cL_law 246 = .ok (.invokevirtual 21, 3) := by decide +kernel
theorem dL_law_249 : decode cL_law 249 = .ok (.if_icmp .eq 799, 3) := by decide +kernel
theorem dL_law_252 : decode cL_law 252 = .ok (.iconst 0, 1) := by decide +kernel
theorem dL_law_253 : decode cL_law 253 = .ok (.ireturn, 1) := by decide +kernel
theorem dL_law_254 : decode cL_law 254 = .ok (.aload_n 1, 1) := by decide +kernel
theorem dL_law_255 : decode cL_law 255 = .ok (.aload_n 0, 1) := by decide +kernel
theorem dL_law_256 : decode cL_law 256 = .ok (.iload_n 3, 1) := by decide +kernel
theorem dL_law_257 : decode cL_law 257 = .ok (.iconst 1, 1) := by decide +kernel
theorem dL_law_258 : decode cL_law 258 = .ok (.iadd, 1) := by decide +kernel
theorem dL_law_259 : decode cL_law 259 = .ok (.iaload, 1) := by decide +kernel
theorem dL_law_260 : decode cL_law 260 = .ok (.aload_n 0, 1) := by decide +kernel
theorem dL_law_261 : decode cL_law 261 = .ok (.iload_n 3, 1) := by decide +kernel
theorem dL_law_262 : decode cL_law 262 = .ok (.iconst 2, 1) := by decide +kernel
theorem dL_law_263 : decode cL_law 263 = .ok (.iadd, 1) := by decide +kernel
theorem dL_law_264 : decode cL_law 264 = .ok (.iaload, 1) := by decide +kernel
theorem dL_law_265 : decode cL_law 265 = .ok (.aload_n 0, 1) := by decide +kernel
theorem dL_law_266 : decode cL_law 266 = .ok (.iload_n 3, 1) := by decide +kernel
theorem dL_law_267 : decode cL_law 267 = .ok (.iconst 3, 1) := by decide +kernel
theorem dL_law_268 : decode cL_law 268 = .ok (.iadd, 1) := by decide +kernel
theorem dL_law_269 : decode cL_law 269 = .ok (.iaload, 1) := by decide +kernel
theorem dL_law_270 : decode cL_law 270 = .ok (.aload_n 0, 1) := by decide +kernel
theorem dL_law_271 : decode cL_law 271 = .ok (.iload_n 3, 1) := by decide +kernel
theorem dL_law_272 : decode cL_law 272 = .ok (.iconst 4, 1) := by decide +kernel
theorem dL_law_273 : decode cL_law 273 = .ok (.iadd, 1) := by decide +kernel
theorem dL_law_274 : decode cL_law 274 = .ok (.iaload, 1) := by decide +kernel
theorem dL_law_275 : decode cL_law 275 = .ok (.aload_n 0, 1) := by decide +kernel
theorem dL_law_276 : decode cL_law 276 = .ok (.iload_n 3, 1) := by decide +kernel
theorem dL_law_277 : decode cL_law 277 = .ok (.iconst 5, 1) := by decide +kernel
theorem dL_law_278 : decode cL_law 278 = .ok (.iadd, 1) := by decide +kernel
theorem dL_law_279 : decode cL_law 279 = .ok (.iaload, 1) := by decide +kernel
theorem dL_law_280 : decode cL_law 280 = .ok (.invokevirtual 22, 3) := by decide +kernel
theorem dL_law_283 : decode cL_law 283 = .ok (.aload_n 2, 1) := by decide +kernel
theorem dL_law_284 : decode cL_law 284 = .ok (.aload_n 0, 1) := by decide +kernel
theorem dL_law_285 : decode cL_law 285 = .ok (.iload_n 3, 1) := by decide +kernel
theorem dL_law_286 : decode cL_law 286 = .ok (.iconst 1, 1) := by decide +kernel
theorem dL_law_287 : decode cL_law 287 = .ok (.iadd, 1) := by decide +kernel
theorem dL_law_288 : decode cL_law 288 = .ok (.iaload, 1) := by decide +kernel
theorem dL_law_289 : decode cL_law 289 = .ok (.aload_n 0, 1) := by decide +kernel
theorem dL_law_290 : decode cL_law 290 = .ok (.iload_n 3, 1) := by decide +kernel
theorem dL_law_291 : decode cL_law 291 = .ok (.iconst 2, 1) := by decide +kernel
theorem dL_law_292 : decode cL_law 292 = .ok (.iadd, 1) := by decide +kernel
theorem dL_law_293 : decode cL_law 293 = .ok (.iaload, 1) := by decide +kernel
theorem dL_law_294 : decode cL_law 294 = .ok (.aload_n 0, 1) := by decide +kernel
theorem dL_law_295 : decode cL_law 295 = .ok (.iload_n 3, 1) := by decide +kernel
theorem dL_law_296 : decode cL_law 296 = .ok (.iconst 3, 1) := by decide +kernel
theorem dL_law_297 : decode cL_law 297 = .ok (.iadd, 1) := by decide +kernel
theorem dL_law_298 : decode cL_law 298 = .ok (.iaload, 1) := by decide +kernel
theorem dL_law_299 : decode cL_law 299 = .ok (.aload_n 0, 1) := by decide +kernel
theorem dL_law_300 : decode cL_law 300 = .ok (.iload_n 3, 1) := by decide +kernel
theorem dL_law_301 : decode cL_law 301 = .ok (.iconst 4, 1) := by decide +kernel
theorem dL_law_302 : decode cL_law 302 = .ok (.iadd, 1) := by decide +kernel
theorem dL_law_303 : decode cL_law 303 = .ok (.iaload, 1) := by decide +kernel
theorem dL_law_304 : decode cL_law 304 = .ok (.aload_n 0, 1) := by decide +kernel
theorem dL_law_305 : decode cL_law 305 = .ok (.iload_n 3, 1) := by decide +kernel
theorem dL_law_306 : decode cL_law 306 = .ok (.iconst 5, 1) := by decide +kernel
theorem dL_law_307 : decode cL_law 307 = .ok (.iadd, 1) := by decide +kernel
theorem dL_law_308 : decode cL_law 308 = .ok (.iaload, 1) := by decide +kernel
theorem dL_law_309 : decode cL_law 309 = .ok (.invokevirtual 26, 3) := by decide +kernel
theorem dL_law_312 : decode cL_law 312 = .ok (.if_icmp .eq 736, 3) := by decide +kernel
theorem dL_law_315 : decode cL_law 315 = .ok (.iconst 0, 1) := by decide +kernel
theorem dL_law_316 : decode cL_law 316 = .ok (.ireturn, 1) := by decide +kernel
theorem dL_law_317 : decode cL_law 317 = .ok (.aload_n 1, 1) := by decide +kernel
theorem dL_law_318 : decode cL_law 318 = .ok (.aload_n 0, 1) := by decide +kernel
theorem dL_law_319 : decode cL_law 319 = .ok (.iload_n 3, 1) := by decide +kernel
theorem dL_law_320 : decode cL_law 320 = .ok (.iconst 1, 1) := by decide +kernel
theorem dL_law_321 : decode cL_law 321 = .ok (.iadd, 1) := by decide +kernel
theorem dL_law_322 : decode cL_law 322 = .ok (.iaload, 1) := by decide +kernel
theorem dL_law_323 : decode cL_law 323 = .ok (.invokevirtual 27, 3) := by decide +kernel
theorem dL_law_326 : decode cL_law 326 = .ok (.aload_n 2, 1) := by decide +kernel
theorem dL_law_327 : decode cL_law 327 = .ok (.aload_n 0, 1) := by decide +kernel
theorem dL_law_328 : decode cL_law 328 = .ok (.iload_n 3, 1) := by decide +kernel
theorem dL_law_329 : decode cL_law 329 = .ok (.iconst 1, 1) := by decide +kernel
theorem dL_law_330 : decode cL_law 330 = .ok (.iadd, 1) := by decide +kernel
theorem dL_law_331 : decode cL_law 331 = .ok (.iaload, 1) := by decide +kernel
theorem dL_law_332 : decode cL_law 332 = .ok (.invokevirtual 31, 3) := by decide +kernel
theorem dL_law_335 : decode cL_law 335 = .ok (.if_icmp .eq 713, 3) := by decide +kernel
theorem dL_law_338 : decode cL_law 338 = .ok (.iconst 0, 1) := by decide +kernel
theorem dL_law_339 : decode cL_law 339 = .ok (.ireturn, 1) := by decide +kernel
theorem dL_law_340 : decode cL_law 340 = .ok (.aload_n 1, 1) := by decide +kernel
theorem dL_law_341 : decode cL_law 341 = .ok (.aload_n 0, 1) := by decide +kernel
theorem dL_law_342 : decode cL_law 342 = .ok (.iload_n 3, 1) := by decide +kernel
theorem dL_law_343 : decode cL_law 343 = .ok (.iconst 1, 1) := by decide +kernel
theorem dL_law_344 : decode cL_law 344 = .ok (.iadd, 1) := by decide +kernel
theorem dL_law_345 : decode cL_law 345 = .ok (.iaload, 1) := by decide +kernel
theorem dL_law_346 : decode cL_law 346 = .ok (.i2l, 1) := by decide +kernel
theorem dL_law_347 : decode cL_law 347 = .ok (.bipush 32, 2) := by decide +kernel
theorem dL_law_349 : decode cL_law 349 = .ok (.lshl, 1) := by decide +kernel
theorem dL_law_350 : decode cL_law 350 = .ok (.aload_n 0, 1) := by decide +kernel
theorem dL_law_351 : decode cL_law 351 = .ok (.iload_n 3, 1) := by decide +kernel
theorem dL_law_352 : decode cL_law 352 = .ok (.iconst 2, 1) := by decide +kernel
theorem dL_law_353 : decode cL_law 353 = .ok (.iadd, 1) := by decide +kernel
theorem dL_law_354 : decode cL_law 354 = .ok (.iaload, 1) := by decide +kernel
theorem dL_law_355 : decode cL_law 355 = .ok (.i2l, 1) := by decide +kernel
theorem dL_law_356 : decode cL_law 356 = .ok (.ldc2_w 32, 3) := by decide +kernel
theorem dL_law_359 : decode cL_law 359 = .ok (.land, 1) := by decide +kernel
theorem dL_law_360 : decode cL_law 360 = .ok (.lor, 1) := by decide +kernel
theorem dL_law_361 : decode cL_law 361 = .ok (.aload_n 0, 1) := by decide +kernel
theorem dL_law_362 : decode cL_law 362 = .ok (.iload_n 3, 1) := by decide +kernel
theorem dL_law_363 : decode cL_law 363 = .ok (.iconst 3, 1) := by decide +kernel
theorem dL_law_364 : decode cL_law 364 = .ok (.iadd, 1) := by decide +kernel
theorem dL_law_365 : decode cL_law 365 = .ok (.iaload, 1) := by decide +kernel
theorem dL_law_366 : decode cL_law 366 = .ok (.invokevirtual 34, 3) := by decide +kernel
theorem dL_law_369 : decode cL_law 369 = .ok (.aload_n 2, 1) := by decide +kernel
theorem dL_law_370 : decode cL_law 370 = .ok (.aload_n 0, 1) := by decide +kernel
theorem dL_law_371 : decode cL_law 371 = .ok (.iload_n 3, 1) := by decide +kernel
theorem dL_law_372 : decode cL_law 372 = .ok (.iconst 1, 1) := by decide +kernel
theorem dL_law_373 : decode cL_law 373 = .ok (.iadd, 1) := by decide +kernel
theorem dL_law_374 : decode cL_law 374 = .ok (.iaload, 1) := by decide +kernel
theorem dL_law_375 : decode cL_law 375 = .ok (.i2l, 1) := by decide +kernel
theorem dL_law_376 : decode cL_law 376 = .ok (.bipush 32, 2) := by decide +kernel
theorem dL_law_378 : decode cL_law 378 = .ok (.lshl, 1) := by decide +kernel
theorem dL_law_379 : decode cL_law 379 = .ok (.aload_n 0, 1) := by decide +kernel
theorem dL_law_380 : decode cL_law 380 = .ok (.iload_n 3, 1) := by decide +kernel
theorem dL_law_381 : decode cL_law 381 = .ok (.iconst 2, 1) := by decide +kernel
theorem dL_law_382 : decode cL_law 382 = .ok (.iadd, 1) := by decide +kernel
theorem dL_law_383 : decode cL_law 383 = .ok (.iaload, 1) := by decide +kernel
theorem dL_law_384 : decode cL_law 384 = .ok (.i2l, 1) := by decide +kernel
theorem dL_law_385 : decode cL_law 385 = .ok (.ldc2_w 32, 3) := by decide +kernel
theorem dL_law_388 : decode cL_law 388 = .ok (.land, 1) := by decide +kernel
theorem dL_law_389 : decode cL_law 389 = .ok (.lor, 1) := by decide +kernel
theorem dL_law_390 : decode cL_law 390 = .ok (.aload_n 0, 1) := by decide +kernel
theorem dL_law_391 : decode cL_law 391 = .ok (.iload_n 3, 1) := by decide +kernel
theorem dL_law_392 : decode cL_law 392 = .ok (.iconst 3, 1) := by decide +kernel
theorem dL_law_393 : decode cL_law 393 = .ok (.iadd, 1) := by decide +kernel
theorem dL_law_394 : decode cL_law 394 = .ok (.iaload, 1) := by decide +kernel
theorem dL_law_395 : decode cL_law 395 = .ok (.invokevirtual 38, 3) := by decide +kernel
theorem dL_law_398 : decode cL_law 398 = .ok (.if_icmp .eq 650, 3) := by decide +kernel
theorem dL_law_401 : decode cL_law 401 = .ok (.iconst 0, 1) := by decide +kernel
theorem dL_law_402 : decode cL_law 402 = .ok (.ireturn, 1) := by decide +kernel
theorem dL_law_403 : decode cL_law 403 = .ok (.aload_n 1, 1) := by decide +kernel
theorem dL_law_404 : decode cL_law 404 = .ok (.invokevirtual 39, 3) := by decide +kernel
theorem dL_law_407 : decode cL_law 407 = .ok (.aload_n 2, 1) := by decide +kernel
theorem dL_law_408 : decode cL_law 408 = .ok (.invokevirtual 43, 3) := by decide +kernel
theorem dL_law_411 : decode cL_law 411 = .ok (.if_icmp .eq 637, 3) := by decide +kernel
theorem dL_law_414 : decode cL_law 414 = .ok (.iconst 0, 1) := by decide +kernel
theorem dL_law_415 : decode cL_law 415 = .ok (.ireturn, 1) := by decide +kernel
theorem dL_law_416 : decode cL_law 416 = .ok (.aload_n 1, 1) := by decide +kernel
theorem dL_law_417 : decode cL_law 417 = .ok (.invokevirtual 44, 3) := by decide +kernel
theorem dL_law_420 : decode cL_law 420 = .ok (.aload_n 2, 1) := by decide +kernel
theorem dL_law_421 : decode cL_law 421 = .ok (.invokevirtual 47, 3) := by decide +kernel
theorem dL_law_424 : decode cL_law 424 = .ok (.if_icmp .eq 624, 3) := by decide +kernel
theorem dL_law_427 : decode cL_law 427 = .ok (.iconst 0, 1) := by decide +kernel
theorem dL_law_428 : decode cL_law 428 = .ok (.ireturn, 1) := by decide +kernel
theorem dL_law_429 : decode cL_law 429 = .ok (.aload_n 1, 1) := by decide +kernel
theorem dL_law_430 : decode cL_law 430 = .ok (.aload_n 0, 1) := by decide +kernel
theorem dL_law_431 : decode cL_law 431 = .ok (.iload_n 3, 1) := by decide +kernel
theorem dL_law_432 : decode cL_law 432 = .ok (.iconst 1, 1) := by decide +kernel
theorem dL_law_433 : decode cL_law 433 = .ok (.iadd, 1) := by decide +kernel
theorem dL_law_434 : decode cL_law 434 = .ok (.iaload, 1) := by decide +kernel
theorem dL_law_435 : decode cL_law 435 = .ok (.invokevirtual 48, 3) := by decide +kernel
theorem dL_law_438 : decode cL_law 438 = .ok (.aload_n 2, 1) := by decide +kernel
theorem dL_law_439 : decode cL_law 439 = .ok (.aload_n 0, 1) := by decide +kernel
theorem dL_law_440 : decode cL_law 440 = .ok (.iload_n 3, 1) := by decide +kernel
theorem dL_law_441 : decode cL_law 441 = .ok (.iconst 1, 1) := by decide +kernel
theorem dL_law_442 : decode cL_law 442 = .ok (.iadd, 1) := by decide +kernel
theorem dL_law_443 : decode cL_law 443 = .ok (.iaload, 1) := by decide +kernel
theorem dL_law_444 : decode cL_law 444 = .ok (.invokevirtual 51, 3) := by decide +kernel
theorem dL_law_447 : decode cL_law 447 = .ok (.if_icmp .eq 601, 3) := by decide +kernel
theorem dL_law_450 : decode cL_law 450 = .ok (.iconst 0, 1) := by decide +kernel
theorem dL_law_451 : decode cL_law 451 = .ok (.ireturn, 1) := by decide +kernel
theorem dL_law_452 : decode cL_law 452 = .ok (.aload_n 1, 1) := by decide +kernel
theorem dL_law_453 : decode cL_law 453 = .ok (.aload_n 0, 1) := by decide +kernel
theorem dL_law_454 : decode cL_law 454 = .ok (.iload_n 3, 1) := by decide +kernel
theorem dL_law_455 : decode cL_law 455 = .ok (.iconst 1, 1) := by decide +kernel
theorem dL_law_456 : decode cL_law 456 = .ok (.iadd, 1) := by decide +kernel
theorem dL_law_457 : decode cL_law 457 = .ok (.iaload, 1) := by decide +kernel
theorem dL_law_458 : decode cL_law 458 = .ok (.aload_n 0, 1) := by decide +kernel
theorem dL_law_459 : decode cL_law 459 = .ok (.iload_n 3, 1) := by decide +kernel
theorem dL_law_460 : decode cL_law 460 = .ok (.iconst 2, 1) := by decide +kernel
theorem dL_law_461 : decode cL_law 461 = .ok (.iadd, 1) := by decide +kernel
theorem dL_law_462 : decode cL_law 462 = .ok (.iaload, 1) := by decide +kernel
theorem dL_law_463 : decode cL_law 463 = .ok (.aload_n 0, 1) := by decide +kernel
theorem dL_law_464 : decode cL_law 464 = .ok (.iload_n 3, 1) := by decide +kernel
theorem dL_law_465 : decode cL_law 465 = .ok (.iconst 3, 1) := by decide +kernel
theorem dL_law_466 : decode cL_law 466 = .ok (.iadd, 1) := by decide +kernel
theorem dL_law_467 : decode cL_law 467 = .ok (.iaload, 1) := by decide +kernel
theorem dL_law_468 : decode cL_law 468 = .ok (.invokevirtual 52, 3) := by decide +kernel
theorem dL_law_471 : decode cL_law 471 = .ok (.aload_n 2, 1) := by decide +kernel
theorem dL_law_472 : decode cL_law 472 = .ok (.aload_n 0, 1) := by decide +kernel
theorem dL_law_473 : decode cL_law 473 = .ok (.iload_n 3, 1) := by decide +kernel
theorem dL_law_474 : decode cL_law 474 = .ok (.iconst 1, 1) := by decide +kernel
theorem dL_law_475 : decode cL_law 475 = .ok (.iadd, 1) := by decide +kernel
theorem dL_law_476 : decode cL_law 476 = .ok (.iaload, 1) := by decide +kernel
theorem dL_law_477 : decode cL_law 477 = .ok (.aload_n 0, 1) := by decide +kernel
theorem dL_law_478 : decode cL_law 478 = .ok (.iload_n 3, 1) := by decide +kernel
theorem dL_law_479 : decode cL_law 479 = .ok (.iconst 2, 1) := by decide +kernel
theorem dL_law_480 : decode cL_law 480 = .ok (.iadd, 1) := by decide +kernel
theorem dL_law_481 : decode cL_law 481 = .ok (.iaload, 1) := by decide +kernel
theorem dL_law_482 : decode cL_law 482 = .ok (.aload_n 0, 1) := by decide +kernel
theorem dL_law_483 : decode cL_law 483 = .ok (.iload_n 3, 1) := by decide +kernel
theorem dL_law_484 : decode cL_law 484 = .ok (.iconst 3, 1) := by decide +kernel
theorem dL_law_485 : decode cL_law 485 = .ok (.iadd, 1) := by decide +kernel
theorem dL_law_486 : decode cL_law 486 = .ok (.iaload, 1) := by decide +kernel
theorem dL_law_487 : decode cL_law 487 = .ok (.invokevirtual 55, 3) := by decide +kernel
theorem dL_law_490 : decode cL_law 490 = .ok (.if_icmp .eq 558, 3) := by decide +kernel
theorem dL_law_493 : decode cL_law 493 = .ok (.iconst 0, 1) := by decide +kernel
theorem dL_law_494 : decode cL_law 494 = .ok (.ireturn, 1) := by decide +kernel
theorem dL_law_495 : decode cL_law 495 = .ok (.aload_n 1, 1) := by decide +kernel
theorem dL_law_496 : decode cL_law 496 = .ok (.aload_n 0, 1) := by decide +kernel
theorem dL_law_497 : decode cL_law 497 = .ok (.iload_n 3, 1) := by decide +kernel
theorem dL_law_498 : decode cL_law 498 = .ok (.iconst 1, 1) := by decide +kernel
theorem dL_law_499 : decode cL_law 499 = .ok (.iadd, 1) := by decide +kernel
theorem dL_law_500 : decode cL_law 500 = .ok (.iaload, 1) := by decide +kernel
theorem dL_law_501 : decode cL_law 501 = .ok (.aload_n 0, 1) := by decide +kernel
theorem dL_law_502 : decode cL_law 502 = .ok (.iload_n 3, 1) := by decide +kernel
theorem dL_law_503 : decode cL_law 503 = .ok (.iconst 2, 1) := by decide +kernel
theorem dL_law_504 : decode cL_law 504 = .ok (.iadd, 1) := by decide +kernel
theorem dL_law_505 : decode cL_law 505 = .ok (.iaload, 1) := by decide +kernel
theorem dL_law_506 : decode cL_law 506 = .ok (.invokevirtual 56, 3) := by decide +kernel
theorem dL_law_509 : decode cL_law 509 = .ok (.aload_n 2, 1) := by decide +kernel
theorem dL_law_510 : decode cL_law 510 = .ok (.aload_n 0, 1) := by decide +kernel
theorem dL_law_511 : decode cL_law 511 = .ok (.iload_n 3, 1) := by decide +kernel
theorem dL_law_512 : decode cL_law 512 = .ok (.iconst 1, 1) := by decide +kernel
theorem dL_law_513 : decode cL_law 513 = .ok (.iadd, 1) := by decide +kernel
theorem dL_law_514 : decode cL_law 514 = .ok (.iaload, 1) := by decide +kernel
theorem dL_law_515 : decode cL_law 515 = .ok (.aload_n 0, 1) := by decide +kernel
theorem dL_law_516 : decode cL_law 516 = .ok (.iload_n 3, 1) := by decide +kernel
theorem dL_law_517 : decode cL_law 517 = .ok (.iconst 2, 1) := by decide +kernel
theorem dL_law_518 : decode cL_law 518 = .ok (.iadd, 1) := by decide +kernel
theorem dL_law_519 : decode cL_law 519 = .ok (.iaload, 1) := by decide +kernel
theorem dL_law_520 : decode cL_law 520 = .ok (.invokevirtual 60, 3) := by decide +kernel
theorem dL_law_523 : decode cL_law 523 = .ok (.if_icmp .eq 525, 3) := by decide +kernel
theorem dL_law_526 : decode cL_law 526 = .ok (.iconst 0, 1) := by decide +kernel
theorem dL_law_527 : decode cL_law 527 = .ok (.ireturn, 1) := by decide +kernel
theorem dL_law_528 : decode cL_law 528 = .ok (.aload_n 1, 1) := by decide +kernel
theorem dL_law_529 : decode cL_law 529 = .ok (.invokevirtual 61, 3) := by decide +kernel
theorem dL_law_532 : decode cL_law 532 = .ok (.aload_n 2, 1) := by decide +kernel
theorem dL_law_533 : decode cL_law 533 = .ok (.invokevirtual 64, 3) := by decide +kernel
theorem dL_law_536 : decode cL_law 536 = .ok (.if_icmp .eq 512, 3) := by decide +kernel
theorem dL_law_539 : decode cL_law 539 = .ok (.iconst 0, 1) := by decide +kernel
theorem dL_law_540 : decode cL_law 540 = .ok (.ireturn, 1) := by decide +kernel
theorem dL_law_541 : decode cL_law 541 = .ok (.aload_n 1, 1) := by decide +kernel
theorem dL_law_542 : decode cL_law 542 = .ok (.aload_n 0, 1) := by decide +kernel
theorem dL_law_543 : decode cL_law 543 = .ok (.iload_n 3, 1) := by decide +kernel
theorem dL_law_544 : decode cL_law 544 = .ok (.iconst 1, 1) := by decide +kernel
theorem dL_law_545 : decode cL_law 545 = .ok (.iadd, 1) := by decide +kernel
theorem dL_law_546 : decode cL_law 546 = .ok (.iaload, 1) := by decide +kernel
theorem dL_law_547 : decode cL_law 547 = .ok (.aload_n 0, 1) := by decide +kernel
theorem dL_law_548 : decode cL_law 548 = .ok (.iload_n 3, 1) := by decide +kernel
theorem dL_law_549 : decode cL_law 549 = .ok (.iconst 2, 1) := by decide +kernel
theorem dL_law_550 : decode cL_law 550 = .ok (.iadd, 1) := by decide +kernel
theorem dL_law_551 : decode cL_law 551 = .ok (.iaload, 1) := by decide +kernel
theorem dL_law_552 : decode cL_law 552 = .ok (.invokevirtual 65, 3) := by decide +kernel
theorem dL_law_555 : decode cL_law 555 = .ok (.aload_n 2, 1) := by decide +kernel
theorem dL_law_556 : decode cL_law 556 = .ok (.aload_n 0, 1) := by decide +kernel
theorem dL_law_557 : decode cL_law 557 = .ok (.iload_n 3, 1) := by decide +kernel
theorem dL_law_558 : decode cL_law 558 = .ok (.iconst 1, 1) := by decide +kernel
theorem dL_law_559 : decode cL_law 559 = .ok (.iadd, 1) := by decide +kernel
theorem dL_law_560 : decode cL_law 560 = .ok (.iaload, 1) := by decide +kernel
theorem dL_law_561 : decode cL_law 561 = .ok (.aload_n 0, 1) := by decide +kernel
theorem dL_law_562 : decode cL_law 562 = .ok (.iload_n 3, 1) := by decide +kernel
theorem dL_law_563 : decode cL_law 563 = .ok (.iconst 2, 1) := by decide +kernel
theorem dL_law_564 : decode cL_law 564 = .ok (.iadd, 1) := by decide +kernel
theorem dL_law_565 : decode cL_law 565 = .ok (.iaload, 1) := by decide +kernel
theorem dL_law_566 : decode cL_law 566 = .ok (.invokevirtual 68, 3) := by decide +kernel
theorem dL_law_569 : decode cL_law 569 = .ok (.if_icmp .eq 479, 3) := by decide +kernel
theorem dL_law_572 : decode cL_law 572 = .ok (.iconst 0, 1) := by decide +kernel
theorem dL_law_573 : decode cL_law 573 = .ok (.ireturn, 1) := by decide +kernel
theorem dL_law_574 : decode cL_law 574 = .ok (.aload_n 1, 1) := by decide +kernel
theorem dL_law_575 : decode cL_law 575 = .ok (.aload_n 0, 1) := by decide +kernel
theorem dL_law_576 : decode cL_law 576 = .ok (.iload_n 3, 1) := by decide +kernel
theorem dL_law_577 : decode cL_law 577 = .ok (.iconst 1, 1) := by decide +kernel
theorem dL_law_578 : decode cL_law 578 = .ok (.iadd, 1) := by decide +kernel
theorem dL_law_579 : decode cL_law 579 = .ok (.iaload, 1) := by decide +kernel
theorem dL_law_580 : decode cL_law 580 = .ok (.invokevirtual 69, 3) := by decide +kernel
theorem dL_law_583 : decode cL_law 583 = .ok (.aload_n 2, 1) := by decide +kernel
theorem dL_law_584 : decode cL_law 584 = .ok (.aload_n 0, 1) := by decide +kernel
theorem dL_law_585 : decode cL_law 585 = .ok (.iload_n 3, 1) := by decide +kernel
theorem dL_law_586 : decode cL_law 586 = .ok (.iconst 1, 1) := by decide +kernel
theorem dL_law_587 : decode cL_law 587 = .ok (.iadd, 1) := by decide +kernel
theorem dL_law_588 : decode cL_law 588 = .ok (.iaload, 1) := by decide +kernel
theorem dL_law_589 : decode cL_law 589 = .ok (.invokevirtual 72, 3) := by decide +kernel
theorem dL_law_592 : decode cL_law 592 = .ok (.if_icmp .eq 456, 3) := by decide +kernel
theorem dL_law_595 : decode cL_law 595 = .ok (.iconst 0, 1) := by decide +kernel
theorem dL_law_596 : decode cL_law 596 = .ok (.ireturn, 1) := by decide +kernel
theorem dL_law_597 : decode cL_law 597 = .ok (.aload_n 1, 1) := by decide +kernel
theorem dL_law_598 : decode cL_law 598 = .ok (.aload_n 0, 1) := by decide +kernel
theorem dL_law_599 : decode cL_law 599 = .ok (.iload_n 3, 1) := by decide +kernel
theorem dL_law_600 : decode cL_law 600 = .ok (.iconst 1, 1) := by decide +kernel
theorem dL_law_601 : decode cL_law 601 = .ok (.iadd, 1) := by decide +kernel
theorem dL_law_602 : decode cL_law 602 = .ok (.iaload, 1) := by decide +kernel
theorem dL_law_603 : decode cL_law 603 = .ok (.invokevirtual 73, 3) := by decide +kernel
theorem dL_law_606 : decode cL_law 606 = .ok (.aload_n 2, 1) := by decide +kernel
theorem dL_law_607 : decode cL_law 607 = .ok (.aload_n 0, 1) := by decide +kernel
theorem dL_law_608 : decode cL_law 608 = .ok (.iload_n 3, 1) := by decide +kernel
theorem dL_law_609 : decode cL_law 609 = .ok (.iconst 1, 1) := by decide +kernel
theorem dL_law_610 : decode cL_law 610 = .ok (.iadd, 1) := by decide +kernel
theorem dL_law_611 : decode cL_law 611 = .ok (.iaload, 1) := by decide +kernel
theorem dL_law_612 : decode cL_law 612 = .ok (.invokevirtual 76, 3) := by decide +kernel
theorem dL_law_615 : decode cL_law 615 = .ok (.if_icmp .eq 433, 3) := by decide +kernel
theorem dL_law_618 : decode cL_law 618 = .ok (.iconst 0, 1) := by decide +kernel
theorem dL_law_619 : decode cL_law 619 = .ok (.ireturn, 1) := by decide +kernel
theorem dL_law_620 : decode cL_law 620 = .ok (.aload_n 1, 1) := by decide +kernel
theorem dL_law_621 : decode cL_law 621 = .ok (.invokevirtual 77, 3) := by decide +kernel
theorem dL_law_624 : decode cL_law 624 = .ok (.aload_n 2, 1) := by decide +kernel
theorem dL_law_625 : decode cL_law 625 = .ok (.invokevirtual 80, 3) := by decide +kernel
theorem dL_law_628 : decode cL_law 628 = .ok (.if_icmp .eq 420, 3) := by decide +kernel
theorem dL_law_631 : decode cL_law 631 = .ok (.iconst 0, 1) := by decide +kernel
theorem dL_law_632 : decode cL_law 632 = .ok (.ireturn, 1) := by decide +kernel
theorem dL_law_633 : decode cL_law 633 = .ok (.aload_n 1, 1) := by decide +kernel
theorem dL_law_634 : decode cL_law 634 = .ok (.aload_n 0, 1) := by decide +kernel
theorem dL_law_635 : decode cL_law 635 = .ok (.iload_n 3, 1) := by decide +kernel
theorem dL_law_636 : decode cL_law 636 = .ok (.iconst 1, 1) := by decide +kernel
theorem dL_law_637 : decode cL_law 637 = .ok (.iadd, 1) := by decide +kernel
theorem dL_law_638 : decode cL_law 638 = .ok (.iaload, 1) := by decide +kernel
theorem dL_law_639 : decode cL_law 639 = .ok (.invokevirtual 81, 3) := by decide +kernel
theorem dL_law_642 : decode cL_law 642 = .ok (.aload_n 2, 1) := by decide +kernel
theorem dL_law_643 : decode cL_law 643 = .ok (.aload_n 0, 1) := by decide +kernel
theorem dL_law_644 : decode cL_law 644 = .ok (.iload_n 3, 1) := by decide +kernel
theorem dL_law_645 : decode cL_law 645 = .ok (.iconst 1, 1) := by decide +kernel
theorem dL_law_646 : decode cL_law 646 = .ok (.iadd, 1) := by decide +kernel
theorem dL_law_647 : decode cL_law 647 = .ok (.iaload, 1) := by decide +kernel
theorem dL_law_648 : decode cL_law 648 = .ok (.invokevirtual 84, 3) := by decide +kernel
theorem dL_law_651 : decode cL_law 651 = .ok (.if_icmp .eq 397, 3) := by decide +kernel
theorem dL_law_654 : decode cL_law 654 = .ok (.iconst 0, 1) := by decide +kernel
theorem dL_law_655 : decode cL_law 655 = .ok (.ireturn, 1) := by decide +kernel
theorem dL_law_656 : decode cL_law 656 = .ok (.aload_n 1, 1) := by decide +kernel
theorem dL_law_657 : decode cL_law 657 = .ok (.aload_n 0, 1) := by decide +kernel
theorem dL_law_658 : decode cL_law 658 = .ok (.iload_n 3, 1) := by decide +kernel
theorem dL_law_659 : decode cL_law 659 = .ok (.iconst 1, 1) := by decide +kernel
theorem dL_law_660 : decode cL_law 660 = .ok (.iadd, 1) := by decide +kernel
theorem dL_law_661 : decode cL_law 661 = .ok (.iaload, 1) := by decide +kernel
theorem dL_law_662 : decode cL_law 662 = .ok (.aload_n 0, 1) := by decide +kernel
theorem dL_law_663 : decode cL_law 663 = .ok (.iload_n 3, 1) := by decide +kernel
theorem dL_law_664 : decode cL_law 664 = .ok (.iconst 2, 1) := by decide +kernel
theorem dL_law_665 : decode cL_law 665 = .ok (.iadd, 1) := by decide +kernel
theorem dL_law_666 : decode cL_law 666 = .ok (.iaload, 1) := by decide +kernel
theorem dL_law_667 : decode cL_law 667 = .ok (.invokevirtual 85, 3) := by decide +kernel
theorem dL_law_670 : decode cL_law 670 = .ok (.aload_n 2, 1) := by decide +kernel
theorem dL_law_671 : decode cL_law 671 = .ok (.aload_n 0, 1) := by decide +kernel
theorem dL_law_672 : decode cL_law 672 = .ok (.iload_n 3, 1) := by decide +kernel
theorem dL_law_673 : decode cL_law 673 = .ok (.iconst 1, 1) := by decide +kernel
theorem dL_law_674 : decode cL_law 674 = .ok (.iadd, 1) := by decide +kernel
theorem dL_law_675 : decode cL_law 675 = .ok (.iaload, 1) := by decide +kernel
theorem dL_law_676 : decode cL_law 676 = .ok (.aload_n 0, 1) := by decide +kernel
theorem dL_law_677 : decode cL_law 677 = .ok (.iload_n 3, 1) := by decide +kernel
theorem dL_law_678 : decode cL_law 678 = .ok (.iconst 2, 1) := by decide +kernel
theorem dL_law_679 : decode cL_law 679 = .ok (.iadd, 1) := by decide +kernel
theorem dL_law_680 : decode cL_law 680 = .ok (.iaload, 1) := by decide +kernel
theorem dL_law_681 : decode cL_law 681 = .ok (.invokevirtual 88, 3) := by decide +kernel
theorem dL_law_684 : decode cL_law 684 = .ok (.if_icmp .eq 364, 3) := by decide +kernel
theorem dL_law_687 : decode cL_law 687 = .ok (.iconst 0, 1) := by decide +kernel
theorem dL_law_688 : decode cL_law 688 = .ok (.ireturn, 1) := by decide +kernel
theorem dL_law_689 : decode cL_law 689 = .ok (.aload_n 1, 1) := by decide +kernel
theorem dL_law_690 : decode cL_law 690 = .ok (.aload_n 0, 1) := by decide +kernel
theorem dL_law_691 : decode cL_law 691 = .ok (.iload_n 3, 1) := by decide +kernel
theorem dL_law_692 : decode cL_law 692 = .ok (.iconst 1, 1) := by decide +kernel
theorem dL_law_693 : decode cL_law 693 = .ok (.iadd, 1) := by decide +kernel
theorem dL_law_694 : decode cL_law 694 = .ok (.iaload, 1) := by decide +kernel
theorem dL_law_695 : decode cL_law 695 = .ok (.aload_n 0, 1) := by decide +kernel
theorem dL_law_696 : decode cL_law 696 = .ok (.iload_n 3, 1) := by decide +kernel
theorem dL_law_697 : decode cL_law 697 = .ok (.iconst 2, 1) := by decide +kernel
theorem dL_law_698 : decode cL_law 698 = .ok (.iadd, 1) := by decide +kernel
theorem dL_law_699 : decode cL_law 699 = .ok (.iaload, 1) := by decide +kernel
theorem dL_law_700 : decode cL_law 700 = .ok (.aload_n 0, 1) := by decide +kernel
theorem dL_law_701 : decode cL_law 701 = .ok (.iload_n 3, 1) := by decide +kernel
theorem dL_law_702 : decode cL_law 702 = .ok (.iconst 3, 1) := by decide +kernel
theorem dL_law_703 : decode cL_law 703 = .ok (.iadd, 1) := by decide +kernel
theorem dL_law_704 : decode cL_law 704 = .ok (.iaload, 1) := by decide +kernel
theorem dL_law_705 : decode cL_law 705 = .ok (.invokevirtual 89, 3) := by decide +kernel
theorem dL_law_708 : decode cL_law 708 = .ok (.aload_n 2, 1) := by decide +kernel
theorem dL_law_709 : decode cL_law 709 = .ok (.aload_n 0, 1) := by decide +kernel
theorem dL_law_710 : decode cL_law 710 = .ok (.iload_n 3, 1) := by decide +kernel
theorem dL_law_711 : decode cL_law 711 = .ok (.iconst 1, 1) := by decide +kernel
theorem dL_law_712 : decode cL_law 712 = .ok (.iadd, 1) := by decide +kernel
theorem dL_law_713 : decode cL_law 713 = .ok (.iaload, 1) := by decide +kernel
theorem dL_law_714 : decode cL_law 714 = .ok (.aload_n 0, 1) := by decide +kernel
theorem dL_law_715 : decode cL_law 715 = .ok (.iload_n 3, 1) := by decide +kernel
theorem dL_law_716 : decode cL_law 716 = .ok (.iconst 2, 1) := by decide +kernel
theorem dL_law_717 : decode cL_law 717 = .ok (.iadd, 1) := by decide +kernel
theorem dL_law_718 : decode cL_law 718 = .ok (.iaload, 1) := by decide +kernel
theorem dL_law_719 : decode cL_law 719 = .ok (.aload_n 0, 1) := by decide +kernel
theorem dL_law_720 : decode cL_law 720 = .ok (.iload_n 3, 1) := by decide +kernel
theorem dL_law_721 : decode cL_law 721 = .ok (.iconst 3, 1) := by decide +kernel
theorem dL_law_722 : decode cL_law 722 = .ok (.iadd, 1) := by decide +kernel
theorem dL_law_723 : decode cL_law 723 = .ok (.iaload, 1) := by decide +kernel
theorem dL_law_724 : decode cL_law 724 = .ok (.invokevirtual 92, 3) := by decide +kernel
theorem dL_law_727 : decode cL_law 727 = .ok (.if_icmp .eq 321, 3) := by decide +kernel
theorem dL_law_730 : decode cL_law 730 = .ok (.iconst 0, 1) := by decide +kernel
theorem dL_law_731 : decode cL_law 731 = .ok (.ireturn, 1) := by decide +kernel
theorem dL_law_732 : decode cL_law 732 = .ok (.aload_n 1, 1) := by decide +kernel
theorem dL_law_733 : decode cL_law 733 = .ok (.aload_n 0, 1) := by decide +kernel
theorem dL_law_734 : decode cL_law 734 = .ok (.iload_n 3, 1) := by decide +kernel
theorem dL_law_735 : decode cL_law 735 = .ok (.iconst 1, 1) := by decide +kernel
theorem dL_law_736 : decode cL_law 736 = .ok (.iadd, 1) := by decide +kernel
theorem dL_law_737 : decode cL_law 737 = .ok (.iaload, 1) := by decide +kernel
theorem dL_law_738 : decode cL_law 738 = .ok (.aload_n 0, 1) := by decide +kernel
theorem dL_law_739 : decode cL_law 739 = .ok (.iload_n 3, 1) := by decide +kernel
theorem dL_law_740 : decode cL_law 740 = .ok (.iconst 2, 1) := by decide +kernel
theorem dL_law_741 : decode cL_law 741 = .ok (.iadd, 1) := by decide +kernel
theorem dL_law_742 : decode cL_law 742 = .ok (.iaload, 1) := by decide +kernel
theorem dL_law_743 : decode cL_law 743 = .ok (.aload_n 0, 1) := by decide +kernel
theorem dL_law_744 : decode cL_law 744 = .ok (.iload_n 3, 1) := by decide +kernel
theorem dL_law_745 : decode cL_law 745 = .ok (.iconst 3, 1) := by decide +kernel
theorem dL_law_746 : decode cL_law 746 = .ok (.iadd, 1) := by decide +kernel
theorem dL_law_747 : decode cL_law 747 = .ok (.iaload, 1) := by decide +kernel
theorem dL_law_748 : decode cL_law 748 = .ok (.invokevirtual 93, 3) := by decide +kernel
theorem dL_law_751 : decode cL_law 751 = .ok (.aload_n 2, 1) := by decide +kernel
theorem dL_law_752 : decode cL_law 752 = .ok (.aload_n 0, 1) := by decide +kernel
theorem dL_law_753 : decode cL_law 753 = .ok (.iload_n 3, 1) := by decide +kernel
theorem dL_law_754 : decode cL_law 754 = .ok (.iconst 1, 1) := by decide +kernel
theorem dL_law_755 : decode cL_law 755 = .ok (.iadd, 1) := by decide +kernel
theorem dL_law_756 : decode cL_law 756 = .ok (.iaload, 1) := by decide +kernel
theorem dL_law_757 : decode cL_law 757 = .ok (.aload_n 0, 1) := by decide +kernel
theorem dL_law_758 : decode cL_law 758 = .ok (.iload_n 3, 1) := by decide +kernel
theorem dL_law_759 : decode cL_law 759 = .ok (.iconst 2, 1) := by decide +kernel
theorem dL_law_760 : decode cL_law 760 = .ok (.iadd, 1) := by decide +kernel
theorem dL_law_761 : decode cL_law 761 = .ok (.iaload, 1) := by decide +kernel
theorem dL_law_762 : decode cL_law 762 = .ok (.aload_n 0, 1) := by decide +kernel
theorem dL_law_763 : decode cL_law 763 = .ok (.iload_n 3, 1) := by decide +kernel
theorem dL_law_764 : decode cL_law 764 = .ok (.iconst 3, 1) := by decide +kernel
theorem dL_law_765 : decode cL_law 765 = .ok (.iadd, 1) := by decide +kernel
theorem dL_law_766 : decode cL_law 766 = .ok (.iaload, 1) := by decide +kernel
theorem dL_law_767 : decode cL_law 767 = .ok (.invokevirtual 96, 3) := by decide +kernel
theorem dL_law_770 : decode cL_law 770 = .ok (.if_icmp .eq 278, 3) := by decide +kernel
theorem dL_law_773 : decode cL_law 773 = .ok (.iconst 0, 1) := by decide +kernel
theorem dL_law_774 : decode cL_law 774 = .ok (.ireturn, 1) := by decide +kernel
theorem dL_law_775 : decode cL_law 775 = .ok (.aload_n 1, 1) := by decide +kernel
theorem dL_law_776 : decode cL_law 776 = .ok (.invokevirtual 97, 3) := by decide +kernel
theorem dL_law_779 : decode cL_law 779 = .ok (.aload_n 2, 1) := by decide +kernel
theorem dL_law_780 : decode cL_law 780 = .ok (.invokevirtual 100, 3) := by decide +kernel
theorem dL_law_783 : decode cL_law 783 = .ok (.if_icmp .eq 265, 3) := by decide +kernel
theorem dL_law_786 : decode cL_law 786 = .ok (.iconst 0, 1) := by decide +kernel
theorem dL_law_787 : decode cL_law 787 = .ok (.ireturn, 1) := by decide +kernel
theorem dL_law_788 : decode cL_law 788 = .ok (.aload_n 1, 1) := by decide +kernel
theorem dL_law_789 : decode cL_law 789 = .ok (.aload_n 0, 1) := by decide +kernel
theorem dL_law_790 : decode cL_law 790 = .ok (.iload_n 3, 1) := by decide +kernel
theorem dL_law_791 : decode cL_law 791 = .ok (.iconst 1, 1) := by decide +kernel
theorem dL_law_792 : decode cL_law 792 = .ok (.iadd, 1) := by decide +kernel
theorem dL_law_793 : decode cL_law 793 = .ok (.iaload, 1) := by decide +kernel
theorem dL_law_794 : decode cL_law 794 = .ok (.aload_n 0, 1) := by decide +kernel
theorem dL_law_795 : decode cL_law 795 = .ok (.iload_n 3, 1) := by decide +kernel
theorem dL_law_796 : decode cL_law 796 = .ok (.iconst 2, 1) := by decide +kernel
theorem dL_law_797 : decode cL_law 797 = .ok (.iadd, 1) := by decide +kernel
theorem dL_law_798 : decode cL_law 798 = .ok (.iaload, 1) := by decide +kernel
theorem dL_law_799 : decode cL_law 799 = .ok (.invokevirtual 101, 3) := by decide +kernel
theorem dL_law_802 : decode cL_law 802 = .ok (.aload_n 2, 1) := by decide +kernel
theorem dL_law_803 : decode cL_law 803 = .ok (.aload_n 0, 1) := by decide +kernel
theorem dL_law_804 : decode cL_law 804 = .ok (.iload_n 3, 1) := by decide +kernel
theorem dL_law_805 : decode cL_law 805 = .ok (.iconst 1, 1) := by decide +kernel
theorem dL_law_806 : decode cL_law 806 = .ok (.iadd, 1) := by decide +kernel
theorem dL_law_807 : decode cL_law 807 = .ok (.iaload, 1) := by decide +kernel
theorem dL_law_808 : decode cL_law 808 = .ok (.aload_n 0, 1) := by decide +kernel
theorem dL_law_809 : decode cL_law 809 = .ok (.iload_n 3, 1) := by decide +kernel
theorem dL_law_810 : decode cL_law 810 = .ok (.iconst 2, 1) := by decide +kernel
theorem dL_law_811 : decode cL_law 811 = .ok (.iadd, 1) := by decide +kernel
theorem dL_law_812 : decode cL_law 812 = .ok (.iaload, 1) := by decide +kernel
theorem dL_law_813 : decode cL_law 813 = .ok (.invokevirtual 104, 3) := by decide +kernel
theorem dL_law_816 : decode cL_law 816 = .ok (.if_icmp .eq 232, 3) := by decide +kernel
theorem dL_law_819 : decode cL_law 819 = .ok (.iconst 0, 1) := by decide +kernel
theorem dL_law_820 : decode cL_law 820 = .ok (.ireturn, 1) := by decide +kernel
theorem dL_law_821 : decode cL_law 821 = .ok (.aload_n 1, 1) := by decide +kernel
theorem dL_law_822 : decode cL_law 822 = .ok (.aload_n 0, 1) := by decide +kernel
theorem dL_law_823 : decode cL_law 823 = .ok (.iload_n 3, 1) := by decide +kernel
theorem dL_law_824 : decode cL_law 824 = .ok (.iconst 1, 1) := by decide +kernel
theorem dL_law_825 : decode cL_law 825 = .ok (.iadd, 1) := by decide +kernel
theorem dL_law_826 : decode cL_law 826 = .ok (.iaload, 1) := by decide +kernel
theorem dL_law_827 : decode cL_law 827 = .ok (.aload_n 0, 1) := by decide +kernel
theorem dL_law_828 : decode cL_law 828 = .ok (.iload_n 3, 1) := by decide +kernel
theorem dL_law_829 : decode cL_law 829 = .ok (.iconst 2, 1) := by decide +kernel
theorem dL_law_830 : decode cL_law 830 = .ok (.iadd, 1) := by decide +kernel
theorem dL_law_831 : decode cL_law 831 = .ok (.iaload, 1) := by decide +kernel
theorem dL_law_832 : decode cL_law 832 = .ok (.invokevirtual 105, 3) := by decide +kernel
theorem dL_law_835 : decode cL_law 835 = .ok (.aload_n 2, 1) := by decide +kernel
theorem dL_law_836 : decode cL_law 836 = .ok (.aload_n 0, 1) := by decide +kernel
theorem dL_law_837 : decode cL_law 837 = .ok (.iload_n 3, 1) := by decide +kernel
theorem dL_law_838 : decode cL_law 838 = .ok (.iconst 1, 1) := by decide +kernel
theorem dL_law_839 : decode cL_law 839 = .ok (.iadd, 1) := by decide +kernel
theorem dL_law_840 : decode cL_law 840 = .ok (.iaload, 1) := by decide +kernel
theorem dL_law_841 : decode cL_law 841 = .ok (.aload_n 0, 1) := by decide +kernel
theorem dL_law_842 : decode cL_law 842 = .ok (.iload_n 3, 1) := by decide +kernel
theorem dL_law_843 : decode cL_law 843 = .ok (.iconst 2, 1) := by decide +kernel
theorem dL_law_844 : decode cL_law 844 = .ok (.iadd, 1) := by decide +kernel
theorem dL_law_845 : decode cL_law 845 = .ok (.iaload, 1) := by decide +kernel
theorem dL_law_846 : decode cL_law 846 = .ok (.invokevirtual 108, 3) := by decide +kernel
theorem dL_law_849 : decode cL_law 849 = .ok (.if_icmp .eq 199, 3) := by decide +kernel
theorem dL_law_852 : decode cL_law 852 = .ok (.iconst 0, 1) := by decide +kernel
theorem dL_law_853 : decode cL_law 853 = .ok (.ireturn, 1) := by decide +kernel
theorem dL_law_854 : decode cL_law 854 = .ok (.aload_n 1, 1) := by decide +kernel
theorem dL_law_855 : decode cL_law 855 = .ok (.aload_n 0, 1) := by decide +kernel
theorem dL_law_856 : decode cL_law 856 = .ok (.iload_n 3, 1) := by decide +kernel
theorem dL_law_857 : decode cL_law 857 = .ok (.iconst 1, 1) := by decide +kernel
theorem dL_law_858 : decode cL_law 858 = .ok (.iadd, 1) := by decide +kernel
theorem dL_law_859 : decode cL_law 859 = .ok (.iaload, 1) := by decide +kernel
theorem dL_law_860 : decode cL_law 860 = .ok (.invokevirtual 109, 3) := by decide +kernel
theorem dL_law_863 : decode cL_law 863 = .ok (.aload_n 2, 1) := by decide +kernel
theorem dL_law_864 : decode cL_law 864 = .ok (.aload_n 0, 1) := by decide +kernel
theorem dL_law_865 : decode cL_law 865 = .ok (.iload_n 3, 1) := by decide +kernel
theorem dL_law_866 : decode cL_law 866 = .ok (.iconst 1, 1) := by decide +kernel
theorem dL_law_867 : decode cL_law 867 = .ok (.iadd, 1) := by decide +kernel
theorem dL_law_868 : decode cL_law 868 = .ok (.iaload, 1) := by decide +kernel
theorem dL_law_869 : decode cL_law 869 = .ok (.invokevirtual 112, 3) := by decide +kernel
theorem dL_law_872 : decode cL_law 872 = .ok (.if_icmp .eq 176, 3) := by decide +kernel
theorem dL_law_875 : decode cL_law 875 = .ok (.iconst 0, 1) := by decide +kernel
theorem dL_law_876 : decode cL_law 876 = .ok (.ireturn, 1) := by decide +kernel
theorem dL_law_877 : decode cL_law 877 = .ok (.aload_n 1, 1) := by decide +kernel
theorem dL_law_878 : decode cL_law 878 = .ok (.aload_n 0, 1) := by decide +kernel
theorem dL_law_879 : decode cL_law 879 = .ok (.iload_n 3, 1) := by decide +kernel
theorem dL_law_880 : decode cL_law 880 = .ok (.iconst 1, 1) := by decide +kernel
theorem dL_law_881 : decode cL_law 881 = .ok (.iadd, 1) := by decide +kernel
theorem dL_law_882 : decode cL_law 882 = .ok (.iaload, 1) := by decide +kernel
theorem dL_law_883 : decode cL_law 883 = .ok (.invokevirtual 113, 3) := by decide +kernel
theorem dL_law_886 : decode cL_law 886 = .ok (.aload_n 2, 1) := by decide +kernel
theorem dL_law_887 : decode cL_law 887 = .ok (.aload_n 0, 1) := by decide +kernel
theorem dL_law_888 : decode cL_law 888 = .ok (.iload_n 3, 1) := by decide +kernel
theorem dL_law_889 : decode cL_law 889 = .ok (.iconst 1, 1) := by decide +kernel
theorem dL_law_890 : decode cL_law 890 = .ok (.iadd, 1) := by decide +kernel
theorem dL_law_891 : decode cL_law 891 = .ok (.iaload, 1) := by decide +kernel
theorem dL_law_892 : decode cL_law 892 = .ok (.invokevirtual 116, 3) := by decide +kernel
theorem dL_law_895 : decode cL_law 895 = .ok (.if_icmp .eq 153, 3) := by decide +kernel
theorem dL_law_898 : decode cL_law 898 = .ok (.iconst 0, 1) := by decide +kernel
theorem dL_law_899 : decode cL_law 899 = .ok (.ireturn, 1) := by decide +kernel
theorem dL_law_900 : decode cL_law 900 = .ok (.aload_n 1, 1) := by decide +kernel
theorem dL_law_901 : decode cL_law 901 = .ok (.aload_n 0, 1) := by decide +kernel
theorem dL_law_902 : decode cL_law 902 = .ok (.iload_n 3, 1) := by decide +kernel
theorem dL_law_903 : decode cL_law 903 = .ok (.iconst 1, 1) := by decide +kernel
theorem dL_law_904 : decode cL_law 904 = .ok (.iadd, 1) := by decide +kernel
theorem dL_law_905 : decode cL_law 905 = .ok (.iaload, 1) := by decide +kernel
theorem dL_law_906 : decode cL_law 906 = .ok (.invokevirtual 117, 3) := by decide +kernel
theorem dL_law_909 : decode cL_law 909 = .ok (.aload_n 2, 1) := by decide +kernel
theorem dL_law_910 : decode cL_law 910 = .ok (.aload_n 0, 1) := by decide +kernel
theorem dL_law_911 : decode cL_law 911 = .ok (.iload_n 3, 1) := by decide +kernel
theorem dL_law_912 : decode cL_law 912 = .ok (.iconst 1, 1) := by decide +kernel
theorem dL_law_913 : decode cL_law 913 = .ok (.iadd, 1) := by decide +kernel
theorem dL_law_914 : decode cL_law 914 = .ok (.iaload, 1) := by decide +kernel
theorem dL_law_915 : decode cL_law 915 = .ok (.invokevirtual 120, 3) := by decide +kernel
theorem dL_law_918 : decode cL_law 918 = .ok (.if_icmp .eq 130, 3) := by decide +kernel
theorem dL_law_921 : decode cL_law 921 = .ok (.iconst 0, 1) := by decide +kernel
theorem dL_law_922 : decode cL_law 922 = .ok (.ireturn, 1) := by decide +kernel
theorem dL_law_923 : decode cL_law 923 = .ok (.aload_n 1, 1) := by decide +kernel
theorem dL_law_924 : decode cL_law 924 = .ok (.aload_n 0, 1) := by decide +kernel
theorem dL_law_925 : decode cL_law 925 = .ok (.iload_n 3, 1) := by decide +kernel
theorem dL_law_926 : decode cL_law 926 = .ok (.iconst 1, 1) := by decide +kernel
theorem dL_law_927 : decode cL_law 927 = .ok (.iadd, 1) := by decide +kernel
theorem dL_law_928 : decode cL_law 928 = .ok (.iaload, 1) := by decide +kernel
theorem dL_law_929 : decode cL_law 929 = .ok (.aload_n 0, 1) := by decide +kernel
theorem dL_law_930 : decode cL_law 930 = .ok (.iload_n 3, 1) := by decide +kernel
theorem dL_law_931 : decode cL_law 931 = .ok (.iconst 2, 1) := by decide +kernel
theorem dL_law_932 : decode cL_law 932 = .ok (.iadd, 1) := by decide +kernel
theorem dL_law_933 : decode cL_law 933 = .ok (.iaload, 1) := by decide +kernel
theorem dL_law_934 : decode cL_law 934 = .ok (.invokevirtual 121, 3) := by decide +kernel
theorem dL_law_937 : decode cL_law 937 = .ok (.aload_n 2, 1) := by decide +kernel
theorem dL_law_938 : decode cL_law 938 = .ok (.aload_n 0, 1) := by decide +kernel
theorem dL_law_939 : decode cL_law 939 = .ok (.iload_n 3, 1) := by decide +kernel
theorem dL_law_940 : decode cL_law 940 = .ok (.iconst 1, 1) := by decide +kernel
theorem dL_law_941 : decode cL_law 941 = .ok (.iadd, 1) := by decide +kernel
theorem dL_law_942 : decode cL_law 942 = .ok (.iaload, 1) := by decide +kernel
theorem dL_law_943 : decode cL_law 943 = .ok (.aload_n 0, 1) := by decide +kernel
theorem dL_law_944 : decode cL_law 944 = .ok (.iload_n 3, 1) := by decide +kernel
theorem dL_law_945 : decode cL_law 945 = .ok (.iconst 2, 1) := by decide +kernel
theorem dL_law_946 : decode cL_law 946 = .ok (.iadd, 1) := by decide +kernel
theorem dL_law_947 : decode cL_law 947 = .ok (.iaload, 1) := by decide +kernel
theorem dL_law_948 : decode cL_law 948 = .ok (.invokevirtual 124, 3) := by decide +kernel
theorem dL_law_951 : decode cL_law 951 = .ok (.if_icmp .eq 97, 3) := by decide +kernel
theorem dL_law_954 : decode cL_law 954 = .ok (.iconst 0, 1) := by decide +kernel
theorem dL_law_955 : decode cL_law 955 = .ok (.ireturn, 1) := by decide +kernel
theorem dL_law_956 : decode cL_law 956 = .ok (.aload_n 1, 1) := by decide +kernel
theorem dL_law_957 : decode cL_law 957 = .ok (.aload_n 0, 1) := by decide +kernel
theorem dL_law_958 : decode cL_law 958 = .ok (.iload_n 3, 1) := by decide +kernel
theorem dL_law_959 : decode cL_law 959 = .ok (.iconst 1, 1) := by decide +kernel
theorem dL_law_960 : decode cL_law 960 = .ok (.iadd, 1) := by decide +kernel
theorem dL_law_961 : decode cL_law 961 = .ok (.iaload, 1) := by decide +kernel
theorem dL_law_962 : decode cL_law 962 = .ok (.aload_n 0, 1) := by decide +kernel
theorem dL_law_963 : decode cL_law 963 = .ok (.iload_n 3, 1) := by decide +kernel
theorem dL_law_964 : decode cL_law 964 = .ok (.iconst 2, 1) := by decide +kernel
theorem dL_law_965 : decode cL_law 965 = .ok (.iadd, 1) := by decide +kernel
theorem dL_law_966 : decode cL_law 966 = .ok (.iaload, 1) := by decide +kernel
theorem dL_law_967 : decode cL_law 967 = .ok (.invokevirtual 125, 3) := by decide +kernel
theorem dL_law_970 : decode cL_law 970 = .ok (.aload_n 2, 1) := by decide +kernel
theorem dL_law_971 : decode cL_law 971 = .ok (.aload_n 0, 1) := by decide +kernel
theorem dL_law_972 : decode cL_law 972 = .ok (.iload_n 3, 1) := by decide +kernel
theorem dL_law_973 : decode cL_law 973 = .ok (.iconst 1, 1) := by decide +kernel
theorem dL_law_974 : decode cL_law 974 = .ok (.iadd, 1) := by decide +kernel
theorem dL_law_975 : decode cL_law 975 = .ok (.iaload, 1) := by decide +kernel
theorem dL_law_976 : decode cL_law 976 = .ok (.aload_n 0, 1) := by decide +kernel
theorem dL_law_977 : decode cL_law 977 = .ok (.iload_n 3, 1) := by decide +kernel
theorem dL_law_978 : decode cL_law 978 = .ok (.iconst 2, 1) := by decide +kernel
theorem dL_law_979 : decode cL_law 979 = .ok (.iadd, 1) := by decide +kernel
theorem dL_law_980 : decode cL_law 980 = .ok (.iaload, 1) := by decide +kernel
theorem dL_law_981 : decode cL_law 981 = .ok (.invokevirtual 128, 3) := by decide +kernel
theorem dL_law_984 : decode cL_law 984 = .ok (.if_icmp .eq 64, 3) := by decide +kernel
theorem dL_law_987 : decode cL_law 987 = .ok (.iconst 0, 1) := by decide +kernel
theorem dL_law_988 : decode cL_law 988 = .ok (.ireturn, 1) := by decide +kernel
theorem dL_law_989 : decode cL_law 989 = .ok (.aload_n 1, 1) := by decide +kernel
theorem dL_law_990 : decode cL_law 990 = .ok (.aload_n 0, 1) := by decide +kernel
theorem dL_law_991 : decode cL_law 991 = .ok (.iload_n 3, 1) := by decide +kernel
theorem dL_law_992 : decode cL_law 992 = .ok (.iconst 1, 1) := by decide +kernel
theorem dL_law_993 : decode cL_law 993 = .ok (.iadd, 1) := by decide +kernel
theorem dL_law_994 : decode cL_law 994 = .ok (.iaload, 1) := by decide +kernel
theorem dL_law_995 : decode cL_law 995 = .ok (.invokevirtual 129, 3) := by decide +kernel
theorem dL_law_998 : decode cL_law 998 = .ok (.aload_n 2, 1) := by decide +kernel
theorem dL_law_999 : decode cL_law 999 = .ok (.aload_n 0, 1) := by decide +kernel
theorem dL_law_1000 : decode cL_law 1000 = .ok (.iload_n 3, 1) := by decide +kernel
theorem dL_law_1001 : decode cL_law 1001 = .ok (.iconst 1, 1) := by decide +kernel
theorem dL_law_1002 : decode cL_law 1002 = .ok (.iadd, 1) := by decide +kernel
theorem dL_law_1003 : decode cL_law 1003 = .ok (.iaload, 1) := by decide +kernel
theorem dL_law_1004 : decode cL_law 1004 = .ok (.invokevirtual 132, 3) := by decide +kernel
theorem dL_law_1007 : decode cL_law 1007 = .ok (.if_icmp .eq 41, 3) := by decide +kernel
theorem dL_law_1010 : decode cL_law 1010 = .ok (.iconst 0, 1) := by decide +kernel
theorem dL_law_1011 : decode cL_law 1011 = .ok (.ireturn, 1) := by decide +kernel
theorem dL_law_1012 : decode cL_law 1012 = .ok (.aload_n 1, 1) := by decide +kernel
theorem dL_law_1013 : decode cL_law 1013 = .ok (.aload_n 0, 1) := by decide +kernel
theorem dL_law_1014 : decode cL_law 1014 = .ok (.iload_n 3, 1) := by decide +kernel
theorem dL_law_1015 : decode cL_law 1015 = .ok (.iconst 1, 1) := by decide +kernel
theorem dL_law_1016 : decode cL_law 1016 = .ok (.iadd, 1) := by decide +kernel
theorem dL_law_1017 : decode cL_law 1017 = .ok (.iaload, 1) := by decide +kernel
theorem dL_law_1018 : decode cL_law 1018 = .ok (.invokevirtual 133, 3) := by decide +kernel
theorem dL_law_1021 : decode cL_law 1021 = .ok (.aload_n 2, 1) := by decide +kernel
theorem dL_law_1022 : decode cL_law 1022 = .ok (.aload_n 0, 1) := by decide +kernel
theorem dL_law_1023 : decode cL_law 1023 = .ok (.iload_n 3, 1) := by decide +kernel
theorem dL_law_1024 : decode cL_law 1024 = .ok (.iconst 1, 1) := by decide +kernel
theorem dL_law_1025 : decode cL_law 1025 = .ok (.iadd, 1) := by decide +kernel
theorem dL_law_1026 : decode cL_law 1026 = .ok (.iaload, 1) := by decide +kernel
theorem dL_law_1027 : decode cL_law 1027 = .ok (.invokevirtual 136, 3) := by decide +kernel
theorem dL_law_1030 : decode cL_law 1030 = .ok (.if_icmp .eq 18, 3) := by decide +kernel
theorem dL_law_1033 : decode cL_law 1033 = .ok (.iconst 0, 1) := by decide +kernel
theorem dL_law_1034 : decode cL_law 1034 = .ok (.ireturn, 1) := by decide +kernel
theorem dL_law_1035 : decode cL_law 1035 = .ok (.aload_n 1, 1) := by decide +kernel
theorem dL_law_1036 : decode cL_law 1036 = .ok (.invokevirtual 137, 3) := by decide +kernel
theorem dL_law_1039 : decode cL_law 1039 = .ok (.aload_n 2, 1) := by decide +kernel
theorem dL_law_1040 : decode cL_law 1040 = .ok (.invokevirtual 140, 3) := by decide +kernel
theorem dL_law_1043 : decode cL_law 1043 = .ok (.if_icmp .eq 5, 3) := by decide +kernel
theorem dL_law_1046 : decode cL_law 1046 = .ok (.iconst 0, 1) := by decide +kernel
theorem dL_law_1047 : decode cL_law 1047 = .ok (.ireturn, 1) := by decide +kernel
theorem dL_law_1048 : decode cL_law 1048 = .ok (.iinc 3 6, 3) := by decide +kernel
theorem dL_law_1051 : decode cL_law 1051 = .ok (.goto (-1033), 3) := by decide +kernel
theorem dL_law_1054 : decode cL_law 1054 = .ok (.iconst 1, 1) := by decide +kernel
theorem dL_law_1055 : decode cL_law 1055 = .ok (.ireturn, 1) := by decide +kernel
end
section
/-! THE LAYER: cells by address as a function (xH); xR: the heap holds them; xG: the machine at a program point with locals, stack and cells; xC: a method's contract as a function of its arguments and cells. -/
abbrev xE : Type := (FieldType × vp_A) ⊕ (Nat × List Value)
abbrev xH : Type := Nat → Option xE
/-- the constants of a run: class numbers and slots, the first address that is ours, the addresses of the String constants and of their bytes -/
abbrev xW : Type := va_G × Nat × (Nat → Nat) × (Nat → Nat)
def xu (h : xH) (a : Nat) (e : xE) : xH := fun q => if q = a then some e else h q
theorem xu_s (h : xH) (a : Nat) (e : xE) : xu h a e a = some e := if_pos rfl
theorem xu_n {h : xH} {a q : Nat} {e : xE} (n : q ≠ a) : xu h a e q = h q := if_neg n
theorem xu_at {h : xH} {a q : Nat} {e : xE} {o : Option xE} (n : q ≠ a) (g : h q = o) : xu h a e q = o := (if_neg n).trans g
theorem xu_uu (h : xH) (a : Nat) (e f : xE) : xu (xu h a e) a f = xu h a f := by
  funext q
  unfold xu
  by_cases hq : q = a
  · rw [if_pos hq, if_pos hq]
  · rw [if_neg hq, if_neg hq, if_neg hq]
theorem xu_id {h : xH} {a : Nat} {e : xE} (g : h a = some e) : xu h a e = h := by
  funext q
  unfold xu
  by_cases hq : q = a
  · rw [if_pos hq, hq, g]
  · rw [if_neg hq]
theorem xu_comm (h : xH) {a b : Nat} (n : a ≠ b) (e f : xE) : xu (xu h a e) b f = xu (xu h b f) a e := by
  funext q
  unfold xu
  by_cases hq : q = b
  · by_cases hq2 : q = a
    · exact absurd (hq2.symm.trans hq) n
    · rw [if_pos hq, if_neg hq2, if_pos hq]
  · by_cases hq2 : q = a
    · rw [if_neg hq, if_pos hq2, if_pos hq2]
    · rw [if_neg hq, if_neg hq2, if_neg hq2, if_neg hq]
def xAt (D : va_G) (U : State) (a : Nat) (e : xE) (H : Heap) : Prop := match e with
  | .inl x => ∃ cA : ClassId, ArrOfT U cA x.1 ∧ va_RA U cA x.1 ∧ H[a]? = some (vp_cell cA x.2)
  | .inr o => ∃ r : vw_C, vwCl[o.1]? = some r ∧ t_OB a (D.1 o.1) r.2.2 (D.2 o.1) H (vp_V o.2)
theorem xAt.moved {D : va_G} {u U : State} {a : Nat} {e : xE} {H : Heap} (hvm : u.vm.Alike U.vm) (h : xAt D u a e H) : xAt D U a e H := by
  cases e with
  | inl x =>
    obtain ⟨cA, h1, h2, h3⟩ := h
    exact ⟨cA, arrOfT_moved hvm h1, h2.moved hvm, h3⟩
  | inr o => exact h
theorem xAt.kept {D : va_G} {U : State} {a : Nat} {e : xE} {H H1 : Heap} (h : xAt D U a e H) (hq : H1[a]? = H[a]?) : xAt D U a e H1 := by
  cases e with
  | inl x =>
    obtain ⟨cA, h1, h2, h3⟩ := h
    exact ⟨cA, h1, h2, hq.trans h3⟩
  | inr o =>
    obtain ⟨r, h1, h2⟩ := h
    exact ⟨r, h1, h2.kept hq⟩
theorem xAt.lt {D : va_G} {U : State} {a : Nat} {e : xE} {H : Heap} (h : xAt D U a e H) : a < H.size := by
  cases e with
  | inl x =>
    obtain ⟨cA, h1, h2, h3⟩ := h
    exact (Array.getElem?_eq_some_iff.mp h3).1
  | inr o =>
    obtain ⟨r, h1, cell, h2, -⟩ := h
    exact (Array.getElem?_eq_some_iff.mp h2).1
def xR (Ω : xW) (U : State) (h : xH) (H : Heap) : Prop := ∀ (a : Nat) (e : xE), h a = some e → Ω.2.1 ≤ a ∧ xAt Ω.1 U a e H
theorem xR.moved {Ω : xW} {u U : State} {h : xH} {H : Heap} (hvm : u.vm.Alike U.vm) (g : xR Ω u h H) : xR Ω U h H := fun a e q => ⟨(g a e q).1, (g a e q).2.moved hvm⟩
theorem xR.put {Ω : xW} {U : State} {h : xH} {H H1 : Heap} {a : Nat} {e : xE} (g : xR Ω U h H) (hb : Ω.2.1 ≤ a) (he : xAt Ω.1 U a e H1) (oq : ∀ q : Nat, q ≠ a → H1[q]? = H[q]?) : xR Ω U (xu h a e) H1 := by
  intro q f hq
  by_cases hqa : q = a
  · subst hqa
    rw [xu_s] at hq
    cases hq
    exact ⟨hb, he⟩
  · rw [xu_n hqa] at hq
    exact ⟨(g q f hq).1, (g q f hq).2.kept (oq q hqa)⟩
theorem xR.new {Ω : xW} {U : State} {h : xH} {H H1 : Heap} {e : xE} (g : xR Ω U h H) (hb : Ω.2.1 ≤ H.size) (he : xAt Ω.1 U H.size e H1) (oq : ∀ q : Nat, q < H.size → H1[q]? = H[q]?) : xR Ω U (xu h H.size e) H1 := by
  intro q f hq
  by_cases hqa : q = H.size
  · subst hqa
    rw [xu_s] at hq
    cases hq
    exact ⟨hb, he⟩
  · rw [xu_n hqa] at hq
    exact ⟨(g q f hq).1, (g q f hq).2.kept (oq q ((g q f hq).2.lt))⟩
/-- an address is taken: it lies below the heap's end -/
theorem xR.lt {Ω : xW} {U : State} {h : xH} {H : Heap} (g : xR Ω U h H) {a : Nat} {e : xE} (q : h a = some e) : a < H.size := (g a e q).2.lt
/-- the words, the good ones alone -/
def x_big : List Cond := lw_tbl.filter goodWord
theorem x_bigG : GoodIn x_big x_big := fun _ h => ⟨h, good_of_word (List.mem_filter.mp h).2⟩
theorem x_in {w : Cond} (i : Nat) (h : (lw_tbl[i]? == some w && goodWord w) = true) : w ∈ x_big := by
  simp only [Bool.and_eq_true, beq_iff_eq] at h
  exact List.mem_filter.mpr ⟨List.mem_of_getElem? h.1, h.2⟩
theorem x_bigC {y : MethodName} {cc : ByteArray} {n : Nat} {ret : Option FieldType} (h : Cond.code y cc n ret ∈ x_big) : GoodIn x_big (.code y cc n ret :: x_big) := fun w hw => by
  rcases List.mem_cons.mp hw with e | e
  · rw [e]; exact x_bigG _ h
  · exact x_bigG _ e
theorem xk_oi : Cond.instanceMethod objectInit ∈ x_big := x_in 80 (by decide +kernel)
theorem xk_oc : Cond.code objectInit ⟨#[0xb1]⟩ 1 none ∈ x_big := x_in 81 (by decide +kernel)
/-- the odd words: they hold of a state, and of all later ones -/
def x_nM : List (String × Nat × MethodName × String) := [("EvePost", 18, ⟨"EvePost$Tape", "<init>", "()V"⟩, "EvePost"), ("EvePost", 25, ⟨"EvePost$Town", "<init>", "()V"⟩, "EvePost"), ("EvePost", 36, ⟨"EvePost$Foretold", "<init>", "()V"⟩, "EvePost"), ("EvePost", 43, ⟨"EvePost$Trail", "<init>", "()V"⟩, "EvePost"), ("EvePost$CrossOne", 13, ⟨"EvePost", "holds", "(II)Z"⟩, "EvePost"), ("EvePost$TrueOne", 13, ⟨"EvePost", "holds", "(II)Z"⟩, "EvePost"), ("EvePost$MoodyOne", 13, ⟨"EvePost", "holds", "(II)Z"⟩, "EvePost"), ("EvePost$Town", 86, ⟨"EvePost", "holds", "(II)Z"⟩, "EvePost")]
def x_cast : List (String × String) := [("EvePost$CrossOne", "EvePost$TrueOne"), ("EvePost$LotOne", "EvePost$TrueOne"), ("EvePost$MoodyOne", "EvePost$CrowdOne"), ("EvePost$TrueOne", "EvePost$Person"), ("EvePost$CrossOne", "EvePost$Person"), ("EvePost$LotOne", "EvePost$Person"), ("EvePost$CrowdOne", "EvePost$Person"), ("EvePost$MoodyOne", "EvePost$Person")]
def x_decl : List MethodName := [⟨"EvePost$Person", "doesIt", "(II)Z"⟩, ⟨"EvePost$TrueOne", "doesIt", "(II)Z"⟩, ⟨"EvePost$Person", "ownKind", "()I"⟩]
def x_nc : List (String × String) := [("EvePost$TrueOne", "EvePost$MoodyOne"), ("EvePost$CrossOne", "EvePost$MoodyOne"), ("EvePost$LotOne", "EvePost$MoodyOne"), ("EvePost$CrowdOne", "EvePost$MoodyOne"), ("EvePost$TrueOne", "EvePost$LotOne"), ("EvePost$CrossOne", "EvePost$LotOne"), ("EvePost$CrowdOne", "EvePost$LotOne"), ("EvePost$MoodyOne", "EvePost$LotOne"), ("EvePost$CrowdOne", "EvePost$TrueOne"), ("EvePost$MoodyOne", "EvePost$TrueOne"), ("EvePost$TrueOne", "EvePost$CrossOne"), ("EvePost$LotOne", "EvePost$CrossOne"), ("EvePost$CrowdOne", "EvePost$CrossOne"), ("EvePost$MoodyOne", "EvePost$CrossOne"), ("EvePost$TrueOne", "EvePost$CrowdOne"), ("EvePost$CrossOne", "EvePost$CrowdOne"), ("EvePost$LotOne", "EvePost$CrowdOne")]
def x_ao : List String := ["EvePost$Person", "EvePost$Town"]
def x_txt : List (Nat × String) := [(47, "person"), (71, "true"), (73, "cross"), (75, "lot"), (77, "crowd"), (79, "moody")]
def x_len : List Nat := [6, 4, 5, 3, 5, 5]
def x_byt : List (List Int32) := [[112, 101, 114, 115, 111, 110], [116, 114, 117, 101], [99, 114, 111, 115, 115], [108, 111, 116], [99, 114, 111, 119, 100], [109, 111, 111, 100, 121]]
def xAOA (U : State) : Prop := (Cond.arrayOver (.array .int)).before #[] U = true
def xO (Ω : xW) (U : State) : Prop := (∀ q ∈ x_nM, va_Nw (.methodLinkNest q.1 q.2.1 q.2.2.1 q.2.2.2) U) ∧ (∀ q ∈ x_cast, va_Nw (.castable q.1 q.2) U) ∧ (∀ q ∈ x_decl, va_Nw (.declares q) U) ∧ (∀ q ∈ x_nc, va_Nc q.1 q.2 U) ∧ (∀ C ∈ x_ao, va_AO C U) ∧ xAOA U ∧ (∀ (i : Nat) (q : Nat × String), x_txt[i]? = some q → vk_R "EvePost$Tape" q.1 q.2 (Ω.2.2.1 i) U)
/-- what lies below our own cells, and stays -/
def xV (Ω : xW) (U : State) (H : Heap) : Prop := vk_S 6 x_len x_byt Ω.2.2.1 Ω.2.2.2 (fun q => Ω.2.1 ≤ q) U H ∧ va_Z "java/lang/String" "COMPACT_STRINGS" "Z" (.int 1) (fun q => Ω.2.1 ≤ q) U H ∧ va_Zq "jdk/internal/util/Preconditions" "SIOOBE_FORMATTER" "Ljava/util/function/BiFunction;" (fun q => Ω.2.1 ≤ q) U H
theorem xV.moved {Ω : xW} {u U : State} {H : Heap} (hvm : u.vm.Alike U.vm) (h : xV Ω u H) : xV Ω U H := ⟨vk_S.moved hvm h.1, va_Z.moved hvm h.2.1, va_Zq.moved hvm h.2.2⟩
theorem xV.kept {Ω : xW} {U : State} {H H1 : Heap} (h : xV Ω U H) (hq : ∀ a : Nat, a < H.size → ¬ Ω.2.1 ≤ a → H1[a]? = H[a]?) : xV Ω U H1 := ⟨h.1.kept hq, h.2.1.kept hq, h.2.2.kept hq⟩
theorem xAOA.moved {u U : State} (hvm : u.vm.Alike U.vm) (h : xAOA u) : xAOA U := by
  unfold xAOA Cond.before Cond.holds at h ⊢
  simp only [Cond.value] at h ⊢
  cases h1 : u.vm.findClass (FieldType.array .int).toString with
  | none => rw [h1] at h; simp at h
  | some comp =>
    rw [h1, Option.bind_some] at h
    cases h2 : (u.vm.classes.findIdx? fun (x : Class) => match x.kind with | .array component _ => component == comp | _ => false) with
    | none =>
      have e := congrArg (fun o : Option Nat => (o.bind (fun c => (u.vm.classes[c]?).map fun (k : Class) => match k.kind with | .array _ ty => decide (ty = FieldType.array .int) && decide (u.vm.findClass ("[" ++ (FieldType.array .int).toString) = some c) | _ => false) == some true)) h2
      have h9 := e.symm.trans h
      simp at h9
    | some c =>
      have e := congrArg (fun o : Option Nat => (o.bind (fun c => (u.vm.classes[c]?).map fun (k : Class) => match k.kind with | .array _ ty => decide (ty = FieldType.array .int) && decide (u.vm.findClass ("[" ++ (FieldType.array .int).toString) = some c) | _ => false) == some true)) h2
      have h := e.symm.trans h
      cases h3 : u.vm.classes[c]? with
      | none => simp [h3] at h
      | some k =>
        obtain ⟨k', hk', he⟩ := hvm.2.2 _ _ h3
        have hi : (U.vm.classes.findIdx? fun (x : Class) => match x.kind with | .array component _ => component == comp | _ => false) = some c := by
          refine (va_idx_bare U.vm comp).symm.trans ?_
          first | rw [hvm.bare_eq] | rw [← hvm.bare_eq]
          exact (va_idx_bare u.vm comp).trans h2
        have f1 : U.vm.findClass (FieldType.array .int).toString = some comp := by rw [hvm.findClass]; exact h1
        have hkind : k'.kind = k.kind := by rw [he]
        rw [f1, Option.bind_some]
        refine (congrArg (fun o : Option Nat => (o.bind (fun c => (U.vm.classes[c]?).map fun (k : Class) => match k.kind with | .array _ ty => decide (ty = FieldType.array .int) && decide (U.vm.findClass ("[" ++ (FieldType.array .int).toString) = some c) | _ => false) == some true)) hi).trans ?_
        rw [hvm.findClass]
        simp only [h3, Option.bind_some, Option.map_some] at h
        simp only [hk', Option.bind_some, Option.map_some, hkind]
        exact h
theorem xO.warm {Ω : xW} {s U : State} (hW : s.WarmedH U.vm) (h : xO Ω s) : xO Ω U :=
  ⟨fun q hq => va_Nw.warmM hW (h.1 q hq), fun q hq => va_Nw.warmC hW (h.2.1 q hq), fun q hq => va_Nw.warmD hW (h.2.2.1 q hq), fun q hq => va_Nc.moved hW.alike (h.2.2.2.1 q hq), fun C hC => va_AO.moved hW.alike (h.2.2.2.2.1 C hC), xAOA.moved hW.alike h.2.2.2.2.2.1, fun i q hq => vk_R.warm hW (h.2.2.2.2.2.2 i q hq)⟩
theorem xO.same {Ω : xW} {u U : State} (hv : u.vm = U.vm) (h : xO Ω u) : xO Ω U :=
  ⟨fun q hq => va_Nw.same rfl hv (h.1 q hq), fun q hq => va_Nw.same rfl hv (h.2.1 q hq), fun q hq => va_Nw.same rfl hv (h.2.2.1 q hq), fun q hq => va_Nc.moved (hv ▸ Vm.Alike.refl u.vm) (h.2.2.2.1 q hq), fun C hC => va_AO.moved (hv ▸ Vm.Alike.refl u.vm) (h.2.2.2.2.1 C hC), xAOA.moved (hv ▸ Vm.Alike.refl u.vm) h.2.2.2.2.2.1, fun i q hq => vk_R.same hv.symm (h.2.2.2.2.2.2 i q hq)⟩
/-- the machine's side of a walk -/
abbrev xΓ : Type := Program × Launch × Env × Room × State × MethodId × Array Value × List Frame × Method × Code
def xX (Γ : xΓ) (Ω : xW) (cc : ByteArray) (nL : Nat) (own nm : String) (ret : Option FieldType) (rf rl rc rs : Nat) : Prop := match Γ with
  | (p, _, _, R, s, m, args, _, meth, c) => p.tables.exec = Jvm.exec ∧ c.code = cc ∧ c.maxLocals = nL ∧ s.vm.findClass own = some m.cls ∧ (∀ w ∈ x_big, w.before args s = true) ∧ va_K Ω.1 vwCl [] s ∧ xO Ω s ∧ xV Ω s s.heap ∧ Ω.2.1 ≤ s.heap.size ∧ meth.locks = false ∧ meth.name = nm ∧ meth.sig.returnType = ret ∧ R = ({ frames := rf, cells := rc, slots := rs, locals := rl } : Room)
def xG (Γ : xΓ) (Ω : xW) (nL : Nat) (Q : State → Prop) (pc : Nat) (lv : List (Nat × Value)) (st : List Value) (h : xH) (sz k n : Nat) : Prop := match Γ with
  | (p, l, e, R, s, m, args, below, meth, c) => ∀ (H : Heap) (locs : List Loc) (ls : Array Slot), H.size = sz → xR Ω s h H → va_S (fun q => Ω.2.1 ≤ q) s.heap H locs → lv_has ls nL lv → W p l e R s m args below meth c H locs k n Q (F0 m pc ls st)
def xPre (Ω : xW) (av : List Value) (h : xH) (sz : Nat) : Array Value → State → Prop := va_Pc av (fun U => U.heap.size = sz ∧ Ω.2.1 ≤ sz ∧ xR Ω U h U.heap ∧ va_K Ω.1 vwCl [] U ∧ xO Ω U ∧ xV Ω U U.heap)
def xPost (Ω : xW) (r : Option Value) (h : xH) (sz : Nat) : Array Value → State → Outcome → State → Prop := fun _ st oc t => oc = .returned r ∧ t.heap.size = sz ∧ xR Ω t h t.heap ∧ va_F (fun q => Ω.2.1 ≤ q) st t
abbrev xrm (d mc ms : Nat) : Room := { frames := d, cells := mc, slots := ms, locals := 35 * d }
/-- a method's contract: from these arguments, cells and heap size it answers r, and leaves the cells h', the size sz' -/
def xC (l : Launch) (Ω : xW) (y : MethodName) (cc : ByteArray) (maxL : Nat) (ret : Option FieldType) (d mc ms : Nat) (av : List Value) (h : xH) (sz : Nat) (r : Option Value) (h' : xH) (sz' : Nat) : Prop :=
  Met l y (.code y cc maxL ret :: x_big) (xrm d mc ms) (xPre Ω av h sz) (xPost Ω r h' sz') mc ms (fun q => Ω.2.1 ≤ q)
def xQ (Γ : xΓ) (Ω : xW) (r : Option Value) (h' : xH) (sz' mc ms : Nat) : State → Prop := match Γ with
  | (_, _, _, _, s, _, args, below, _, _) => MQ below (xPost Ω r h' sz') args s mc ms (fun q => Ω.2.1 ≤ q)
theorem xC_of {l : Launch} {Ω : xW} {y : MethodName} {cc : ByteArray} {maxL : Nat} {ret : Option FieldType} {d mc ms : Nat} {av : List Value} {h : xH} {sz : Nat} {r : Option Value} {h' : xH} {sz' : Nat} (hy : plainName y.cls = true) (hav : Nat.ble (lg_sl av).length maxL = true) {lv : List (Nat × Value)} (hlv : lv_args 0 av = lv)
    (body : ∀ Γ : xΓ, xX Γ Ω cc maxL y.cls y.name ret d (35 * d) mc ms → Γ.2.1 = l → Ω.2.1 ≤ sz → xG Γ Ω maxL (xQ Γ Ω r h' sz' mc ms) 0 lv [] h sz 0 0) : xC l Ω y cc maxL ret d mc ms av h sz r h' sz' := by
  refine Met.ofW (cc := cc) (maxL := maxL) (ret := ret) hy rfl ?_
  intro p e s m args below meth c s₁ B hml hv
  obtain ⟨rfl, hsz, hbs, hR, hK, hO, hV⟩ := hv
  have hts := atoms_spec (ws := .code y cc maxL ret :: x_big) B.pre
  have hown : s.vm.findClass y.cls = some m.cls := findClass_of_methodNamed B.named
  have hnm : meth.name = y.name := (name_of_methodNamed B.named B.method).1
  have hl := lv_entry av (n := maxL) (Nat.le_of_ble_eq_true hav)
  rw [lg_entry_eq]
  rw [hlv] at hl
  have X : xX (p, l, e, (headSpec (.code y cc maxL ret :: x_big) (xrm d mc ms)).room, s, m, av.toArray, below, meth, c) Ω cc maxL y.cls y.name ret d (35 * d) mc ms :=
    ⟨B.exec, B.bytes, hml, hown, fun w hw => hts w (List.mem_cons_of_mem _ hw), hK, hO, hV, by rw [hsz]; exact hbs, B.notSynchronized, hnm, B.returns, rfl⟩
  exact body _ X rfl hbs s.heap [] _ hsz hR va_S.rf hl
section XROWS
variable {Γ : xΓ} {Ω : xW} {cc : ByteArray} {nL : Nat} {own nm : String} {ret : Option FieldType} {rf rl rc rs : Nat} {Q : State → Prop} {pc : Nat} {lv : List (Nat × Value)} {st : List Value} {h : xH} {sz k n : Nat}
theorem xr_iconst (X : xX Γ Ω cc nL own nm ret rf rl rc rs) {i : Int} {v : Int32} (d : decode cc pc = .ok (.iconst i, 1)) (hv : Int32.ofInt i = v) (kk : xG Γ Ω nL Q (pc + 1) lv (.int v :: st) h sz k n) : xG Γ Ω nL Q (pc) lv (st) h sz k n := by
  obtain ⟨p, l, e, R, s, m, args, below, meth, c⟩ := Γ
  obtain ⟨hx, hb, hml, hown, hts, hK, hO, hV, hbs, hlk, hnm, hrt, hRm⟩ := X
  intro H locs ls hz hR hS hl
  exact lv_iconst hx hb d hv (kk H locs ls hz hR hS hl)
theorem xr_bipush (X : xX Γ Ω cc nL own nm ret rf rl rc rs) {i : Int} {v : Int32} (d : decode cc pc = .ok (.bipush i, 2)) (hv : (Int8.ofInt i).toInt32 = v) (kk : xG Γ Ω nL Q (pc + 2) lv (.int v :: st) h sz k n) : xG Γ Ω nL Q (pc) lv (st) h sz k n := by
  obtain ⟨p, l, e, R, s, m, args, below, meth, c⟩ := Γ
  obtain ⟨hx, hb, hml, hown, hts, hK, hO, hV, hbs, hlk, hnm, hrt, hRm⟩ := X
  intro H locs ls hz hR hS hl
  exact lv_bipush hx hb d hv (kk H locs ls hz hR hS hl)
theorem xr_sipush (X : xX Γ Ω cc nL own nm ret rf rl rc rs) {i : Int} {v : Int32} (d : decode cc pc = .ok (.sipush i, 3)) (hv : (Int16.ofInt i).toInt32 = v) (kk : xG Γ Ω nL Q (pc + 3) lv (.int v :: st) h sz k n) : xG Γ Ω nL Q (pc) lv (st) h sz k n := by
  obtain ⟨p, l, e, R, s, m, args, below, meth, c⟩ := Γ
  obtain ⟨hx, hb, hml, hown, hts, hK, hO, hV, hbs, hlk, hnm, hrt, hRm⟩ := X
  intro H locs ls hz hR hS hl
  exact lv_sipush hx hb d hv (kk H locs ls hz hR hS hl)
theorem xr_lconst (X : xX Γ Ω cc nL own nm ret rf rl rc rs) {i : Fin 2} {v : Int64} (d : decode cc pc = .ok (.lconst i, 1)) (hv : Int64.ofNat (i : Nat) = v) (kk : xG Γ Ω nL Q (pc + 1) lv (.long v :: st) h sz k n) : xG Γ Ω nL Q (pc) lv (st) h sz k n := by
  obtain ⟨p, l, e, R, s, m, args, below, meth, c⟩ := Γ
  obtain ⟨hx, hb, hml, hown, hts, hK, hO, hV, hbs, hlk, hnm, hrt, hRm⟩ := X
  intro H locs ls hz hR hS hl
  exact lv_lconst hx hb d hv (kk H locs ls hz hR hS hl)
theorem xr_ldc (X : xX Γ Ω cc nL own nm ret rf rl rc rs) {i : Nat} {v : Int32} (hw : Cond.constant own i v ∈ x_big) (d : decode cc pc = .ok (.ldc i, 2)) (kk : xG Γ Ω nL Q (pc + 2) lv (.int v :: st) h sz k n) : xG Γ Ω nL Q (pc) lv (st) h sz k n := by
  obtain ⟨p, l, e, R, s, m, args, below, meth, c⟩ := Γ
  obtain ⟨hx, hb, hml, hown, hts, hK, hO, hV, hbs, hlk, hnm, hrt, hRm⟩ := X
  intro H locs ls hz hR hS hl
  exact lv_ldc hx hb hown (hts _ hw) d (kk H locs ls hz hR hS hl)
theorem xr_ldcw (X : xX Γ Ω cc nL own nm ret rf rl rc rs) {i : Nat} {v : Int32} (hw : Cond.constant own i v ∈ x_big) (d : decode cc pc = .ok (.ldc_w i, 3)) (kk : xG Γ Ω nL Q (pc + 3) lv (.int v :: st) h sz k n) : xG Γ Ω nL Q (pc) lv (st) h sz k n := by
  obtain ⟨p, l, e, R, s, m, args, below, meth, c⟩ := Γ
  obtain ⟨hx, hb, hml, hown, hts, hK, hO, hV, hbs, hlk, hnm, hrt, hRm⟩ := X
  intro H locs ls hz hR hS hl
  exact lv_ldcw hx hb hown (hts _ hw) d (kk H locs ls hz hR hS hl)
theorem xr_ldc2 (X : xX Γ Ω cc nL own nm ret rf rl rc rs) {i : Nat} {v : Int64} (hw : Cond.constantLong own i v ∈ x_big) (d : decode cc pc = .ok (.ldc2_w i, 3)) (kk : xG Γ Ω nL Q (pc + 3) lv (.long v :: st) h sz k n) : xG Γ Ω nL Q (pc) lv (st) h sz k n := by
  obtain ⟨p, l, e, R, s, m, args, below, meth, c⟩ := Γ
  obtain ⟨hx, hb, hml, hown, hts, hK, hO, hV, hbs, hlk, hnm, hrt, hRm⟩ := X
  intro H locs ls hz hR hS hl
  exact lv_ldc2 hx hb hown (hts _ hw) d (kk H locs ls hz hR hS hl)
theorem xr_null (X : xX Γ Ω cc nL own nm ret rf rl rc rs) (d : decode cc pc = .ok (.aconst_null, 1)) (kk : xG Γ Ω nL Q (pc + 1) lv (.null :: st) h sz k n) : xG Γ Ω nL Q (pc) lv (st) h sz k n := by
  obtain ⟨p, l, e, R, s, m, args, below, meth, c⟩ := Γ
  obtain ⟨hx, hb, hml, hown, hts, hK, hO, hV, hbs, hlk, hnm, hrt, hRm⟩ := X
  intro H locs ls hz hR hS hl
  exact lv_null hx hb d (kk H locs ls hz hR hS hl)
theorem xr_iload_n (X : xX Γ Ω cc nL own nm ret rf rl rc rs) {q : Fin 4} {i : Nat} {x : Int32} (j : Nat) (d : decode cc pc = .ok (.iload_n q, 1)) (hi : (q : Nat) = i) (hj : lv[j]? = some (i, .int x)) (kk : xG Γ Ω nL Q (pc + 1) lv (.int x :: st) h sz k n) : xG Γ Ω nL Q (pc) lv (st) h sz k n := by
  obtain ⟨p, l, e, R, s, m, args, below, meth, c⟩ := Γ
  obtain ⟨hx, hb, hml, hown, hts, hK, hO, hV, hbs, hlk, hnm, hrt, hRm⟩ := X
  intro H locs ls hz hR hS hl
  exact lv_iload_n hx hb d hi (lv_at hl j hj) (kk H locs ls hz hR hS hl)
theorem xr_iload (X : xX Γ Ω cc nL own nm ret rf rl rc rs) {i : Nat} {x : Int32} (j : Nat) (d : decode cc pc = .ok (.iload i, 2)) (hj : lv[j]? = some (i, .int x)) (kk : xG Γ Ω nL Q (pc + 2) lv (.int x :: st) h sz k n) : xG Γ Ω nL Q (pc) lv (st) h sz k n := by
  obtain ⟨p, l, e, R, s, m, args, below, meth, c⟩ := Γ
  obtain ⟨hx, hb, hml, hown, hts, hK, hO, hV, hbs, hlk, hnm, hrt, hRm⟩ := X
  intro H locs ls hz hR hS hl
  exact lv_iload hx hb d (lv_at hl j hj) (kk H locs ls hz hR hS hl)
theorem xr_lload_n (X : xX Γ Ω cc nL own nm ret rf rl rc rs) {q : Fin 4} {i : Nat} {x : Int64} (j : Nat) (d : decode cc pc = .ok (.lload_n q, 1)) (hi : (q : Nat) = i) (hj : lv[j]? = some (i, .long x)) (kk : xG Γ Ω nL Q (pc + 1) lv (.long x :: st) h sz k n) : xG Γ Ω nL Q (pc) lv (st) h sz k n := by
  obtain ⟨p, l, e, R, s, m, args, below, meth, c⟩ := Γ
  obtain ⟨hx, hb, hml, hown, hts, hK, hO, hV, hbs, hlk, hnm, hrt, hRm⟩ := X
  intro H locs ls hz hR hS hl
  exact lv_lload_n hx hb d hi (lv_at hl j hj) (kk H locs ls hz hR hS hl)
theorem xr_lload (X : xX Γ Ω cc nL own nm ret rf rl rc rs) {i : Nat} {x : Int64} (j : Nat) (d : decode cc pc = .ok (.lload i, 2)) (hj : lv[j]? = some (i, .long x)) (kk : xG Γ Ω nL Q (pc + 2) lv (.long x :: st) h sz k n) : xG Γ Ω nL Q (pc) lv (st) h sz k n := by
  obtain ⟨p, l, e, R, s, m, args, below, meth, c⟩ := Γ
  obtain ⟨hx, hb, hml, hown, hts, hK, hO, hV, hbs, hlk, hnm, hrt, hRm⟩ := X
  intro H locs ls hz hR hS hl
  exact lv_lload hx hb d (lv_at hl j hj) (kk H locs ls hz hR hS hl)
theorem xr_aload_n (X : xX Γ Ω cc nL own nm ret rf rl rc rs) {q : Fin 4} {i : Nat} {x : Nat} (j : Nat) (d : decode cc pc = .ok (.aload_n q, 1)) (hi : (q : Nat) = i) (hj : lv[j]? = some (i, .ref x)) (kk : xG Γ Ω nL Q (pc + 1) lv (.ref x :: st) h sz k n) : xG Γ Ω nL Q (pc) lv (st) h sz k n := by
  obtain ⟨p, l, e, R, s, m, args, below, meth, c⟩ := Γ
  obtain ⟨hx, hb, hml, hown, hts, hK, hO, hV, hbs, hlk, hnm, hrt, hRm⟩ := X
  intro H locs ls hz hR hS hl
  exact lv_aload_n hx hb d hi (lv_at hl j hj) (kk H locs ls hz hR hS hl)
theorem xr_aload (X : xX Γ Ω cc nL own nm ret rf rl rc rs) {i : Nat} {x : Nat} (j : Nat) (d : decode cc pc = .ok (.aload i, 2)) (hj : lv[j]? = some (i, .ref x)) (kk : xG Γ Ω nL Q (pc + 2) lv (.ref x :: st) h sz k n) : xG Γ Ω nL Q (pc) lv (st) h sz k n := by
  obtain ⟨p, l, e, R, s, m, args, below, meth, c⟩ := Γ
  obtain ⟨hx, hb, hml, hown, hts, hK, hO, hV, hbs, hlk, hnm, hrt, hRm⟩ := X
  intro H locs ls hz hR hS hl
  exact lv_aload hx hb d (lv_at hl j hj) (kk H locs ls hz hR hS hl)
theorem xr_aload_nN (X : xX Γ Ω cc nL own nm ret rf rl rc rs) {q : Fin 4} {i : Nat} (j : Nat) (d : decode cc pc = .ok (.aload_n q, 1)) (hi : (q : Nat) = i) (hj : lv[j]? = some (i, .null)) (kk : xG Γ Ω nL Q (pc + 1) lv (.null :: st) h sz k n) : xG Γ Ω nL Q (pc) lv (st) h sz k n := by
  obtain ⟨p, l, e, R, s, m, args, below, meth, c⟩ := Γ
  obtain ⟨hx, hb, hml, hown, hts, hK, hO, hV, hbs, hlk, hnm, hrt, hRm⟩ := X
  intro H locs ls hz hR hS hl
  exact lv_aload_nN hx hb d hi (lv_at hl j hj) (kk H locs ls hz hR hS hl)
theorem xr_aloadN (X : xX Γ Ω cc nL own nm ret rf rl rc rs) {i : Nat} (j : Nat) (d : decode cc pc = .ok (.aload i, 2)) (hj : lv[j]? = some (i, .null)) (kk : xG Γ Ω nL Q (pc + 2) lv (.null :: st) h sz k n) : xG Γ Ω nL Q (pc) lv (st) h sz k n := by
  obtain ⟨p, l, e, R, s, m, args, below, meth, c⟩ := Γ
  obtain ⟨hx, hb, hml, hown, hts, hK, hO, hV, hbs, hlk, hnm, hrt, hRm⟩ := X
  intro H locs ls hz hR hS hl
  exact lv_aloadN hx hb d (lv_at hl j hj) (kk H locs ls hz hR hS hl)
theorem xr_istore_n (X : xX Γ Ω cc nL own nm ret rf rl rc rs) {q : Fin 4} {i : Nat} {x : Int32} {lv' : List (Nat × Value)} (d : decode cc pc = .ok (.istore_n q, 1)) (hi : (q : Nat) = i) (hn : Nat.ble (i + 1) nL = true) (hf : (i, Value.int x) :: lv.filter (fun q => !(q.1 == i) && !(q.1 + 1 == i && q.2.category == 2)) = lv') (kk : xG Γ Ω nL Q (pc + 1) lv' (st) h sz k n) : xG Γ Ω nL Q (pc) lv (Value.int x :: st) h sz k n := by
  obtain ⟨p, l, e, R, s, m, args, below, meth, c⟩ := Γ
  obtain ⟨hx, hb, hml, hown, hts, hK, hO, hV, hbs, hlk, hnm, hrt, hRm⟩ := X
  intro H locs ls hz hR hS hl
  exact lv_istore_n hx hb d hi hl (Nat.le_of_ble_eq_true hn) hf (fun ls2 hl2 => kk H locs ls2 hz hR hS hl2)
theorem xr_istore (X : xX Γ Ω cc nL own nm ret rf rl rc rs) {i : Nat} {x : Int32} {lv' : List (Nat × Value)} (d : decode cc pc = .ok (.istore i, 2)) (hn : Nat.ble (i + 1) nL = true) (hf : (i, Value.int x) :: lv.filter (fun q => !(q.1 == i) && !(q.1 + 1 == i && q.2.category == 2)) = lv') (kk : xG Γ Ω nL Q (pc + 2) lv' (st) h sz k n) : xG Γ Ω nL Q (pc) lv (Value.int x :: st) h sz k n := by
  obtain ⟨p, l, e, R, s, m, args, below, meth, c⟩ := Γ
  obtain ⟨hx, hb, hml, hown, hts, hK, hO, hV, hbs, hlk, hnm, hrt, hRm⟩ := X
  intro H locs ls hz hR hS hl
  exact lv_istore hx hb d hl (Nat.le_of_ble_eq_true hn) hf (fun ls2 hl2 => kk H locs ls2 hz hR hS hl2)
theorem xr_lstore_n (X : xX Γ Ω cc nL own nm ret rf rl rc rs) {q : Fin 4} {i : Nat} {x : Int64} {lv' : List (Nat × Value)} (d : decode cc pc = .ok (.lstore_n q, 1)) (hi : (q : Nat) = i) (hn : Nat.ble (i + 2) nL = true) (hf : (i, Value.long x) :: lv.filter (fun q => !(q.1 == i) && (!(q.1 == i + 1) && !(q.1 + 1 == i && q.2.category == 2))) = lv') (kk : xG Γ Ω nL Q (pc + 1) lv' (st) h sz k n) : xG Γ Ω nL Q (pc) lv (Value.long x :: st) h sz k n := by
  obtain ⟨p, l, e, R, s, m, args, below, meth, c⟩ := Γ
  obtain ⟨hx, hb, hml, hown, hts, hK, hO, hV, hbs, hlk, hnm, hrt, hRm⟩ := X
  intro H locs ls hz hR hS hl
  exact lv_lstore_n hx hb d hi hl (Nat.le_of_ble_eq_true hn) hf (fun ls2 hl2 => kk H locs ls2 hz hR hS hl2)
theorem xr_lstore (X : xX Γ Ω cc nL own nm ret rf rl rc rs) {i : Nat} {x : Int64} {lv' : List (Nat × Value)} (d : decode cc pc = .ok (.lstore i, 2)) (hn : Nat.ble (i + 2) nL = true) (hf : (i, Value.long x) :: lv.filter (fun q => !(q.1 == i) && (!(q.1 == i + 1) && !(q.1 + 1 == i && q.2.category == 2))) = lv') (kk : xG Γ Ω nL Q (pc + 2) lv' (st) h sz k n) : xG Γ Ω nL Q (pc) lv (Value.long x :: st) h sz k n := by
  obtain ⟨p, l, e, R, s, m, args, below, meth, c⟩ := Γ
  obtain ⟨hx, hb, hml, hown, hts, hK, hO, hV, hbs, hlk, hnm, hrt, hRm⟩ := X
  intro H locs ls hz hR hS hl
  exact lv_lstore hx hb d hl (Nat.le_of_ble_eq_true hn) hf (fun ls2 hl2 => kk H locs ls2 hz hR hS hl2)
theorem xr_astore_n (X : xX Γ Ω cc nL own nm ret rf rl rc rs) {q : Fin 4} {i : Nat} {x : Nat} {lv' : List (Nat × Value)} (d : decode cc pc = .ok (.astore_n q, 1)) (hi : (q : Nat) = i) (hn : Nat.ble (i + 1) nL = true) (hf : (i, Value.ref x) :: lv.filter (fun q => !(q.1 == i) && !(q.1 + 1 == i && q.2.category == 2)) = lv') (kk : xG Γ Ω nL Q (pc + 1) lv' (st) h sz k n) : xG Γ Ω nL Q (pc) lv (Value.ref x :: st) h sz k n := by
  obtain ⟨p, l, e, R, s, m, args, below, meth, c⟩ := Γ
  obtain ⟨hx, hb, hml, hown, hts, hK, hO, hV, hbs, hlk, hnm, hrt, hRm⟩ := X
  intro H locs ls hz hR hS hl
  exact lv_astore_n hx hb d hi hl (Nat.le_of_ble_eq_true hn) hf (fun ls2 hl2 => kk H locs ls2 hz hR hS hl2)
theorem xr_astore (X : xX Γ Ω cc nL own nm ret rf rl rc rs) {i : Nat} {x : Nat} {lv' : List (Nat × Value)} (d : decode cc pc = .ok (.astore i, 2)) (hn : Nat.ble (i + 1) nL = true) (hf : (i, Value.ref x) :: lv.filter (fun q => !(q.1 == i) && !(q.1 + 1 == i && q.2.category == 2)) = lv') (kk : xG Γ Ω nL Q (pc + 2) lv' (st) h sz k n) : xG Γ Ω nL Q (pc) lv (Value.ref x :: st) h sz k n := by
  obtain ⟨p, l, e, R, s, m, args, below, meth, c⟩ := Γ
  obtain ⟨hx, hb, hml, hown, hts, hK, hO, hV, hbs, hlk, hnm, hrt, hRm⟩ := X
  intro H locs ls hz hR hS hl
  exact lv_astore hx hb d hl (Nat.le_of_ble_eq_true hn) hf (fun ls2 hl2 => kk H locs ls2 hz hR hS hl2)
theorem xr_astore_nN (X : xX Γ Ω cc nL own nm ret rf rl rc rs) {q : Fin 4} {i : Nat} {lv' : List (Nat × Value)} (d : decode cc pc = .ok (.astore_n q, 1)) (hi : (q : Nat) = i) (hn : Nat.ble (i + 1) nL = true) (hf : (i, Value.null) :: lv.filter (fun q => !(q.1 == i) && !(q.1 + 1 == i && q.2.category == 2)) = lv') (kk : xG Γ Ω nL Q (pc + 1) lv' (st) h sz k n) : xG Γ Ω nL Q (pc) lv (Value.null :: st) h sz k n := by
  obtain ⟨p, l, e, R, s, m, args, below, meth, c⟩ := Γ
  obtain ⟨hx, hb, hml, hown, hts, hK, hO, hV, hbs, hlk, hnm, hrt, hRm⟩ := X
  intro H locs ls hz hR hS hl
  exact lv_astore_nN hx hb d hi hl (Nat.le_of_ble_eq_true hn) hf (fun ls2 hl2 => kk H locs ls2 hz hR hS hl2)
theorem xr_astoreN (X : xX Γ Ω cc nL own nm ret rf rl rc rs) {i : Nat} {lv' : List (Nat × Value)} (d : decode cc pc = .ok (.astore i, 2)) (hn : Nat.ble (i + 1) nL = true) (hf : (i, Value.null) :: lv.filter (fun q => !(q.1 == i) && !(q.1 + 1 == i && q.2.category == 2)) = lv') (kk : xG Γ Ω nL Q (pc + 2) lv' (st) h sz k n) : xG Γ Ω nL Q (pc) lv (Value.null :: st) h sz k n := by
  obtain ⟨p, l, e, R, s, m, args, below, meth, c⟩ := Γ
  obtain ⟨hx, hb, hml, hown, hts, hK, hO, hV, hbs, hlk, hnm, hrt, hRm⟩ := X
  intro H locs ls hz hR hS hl
  exact lv_astoreN hx hb d hl (Nat.le_of_ble_eq_true hn) hf (fun ls2 hl2 => kk H locs ls2 hz hR hS hl2)
theorem xr_iinc (X : xX Γ Ω cc nL own nm ret rf rl rc rs) {i : Nat} {z : Int} {x v : Int32} {lv' : List (Nat × Value)} (j : Nat) (d : decode cc pc = .ok (.iinc i z, 3)) (hj : lv[j]? = some (i, .int x)) (hv : x + Int32.ofInt z = v) (hn : Nat.ble (i + 1) nL = true) (hf : (i, Value.int v) :: lv.filter (fun q => !(q.1 == i) && !(q.1 + 1 == i && q.2.category == 2)) = lv') (kk : xG Γ Ω nL Q (pc + 3) lv' (st) h sz k n) : xG Γ Ω nL Q (pc) lv (st) h sz k n := by
  obtain ⟨p, l, e, R, s, m, args, below, meth, c⟩ := Γ
  obtain ⟨hx, hb, hml, hown, hts, hK, hO, hV, hbs, hlk, hnm, hrt, hRm⟩ := X
  intro H locs ls hz hR hS hl
  exact lv_iinc hx hb d hl hj hv (Nat.le_of_ble_eq_true hn) hf (fun ls2 hl2 => kk H locs ls2 hz hR hS hl2)
theorem xr_iadd (X : xX Γ Ω cc nL own nm ret rf rl rc rs) {x y : Int32} (d : decode cc pc = .ok (.iadd, 1)) (kk : xG Γ Ω nL Q (pc + 1) lv (.int (x + y) :: st) h sz k n) : xG Γ Ω nL Q (pc) lv (.int y :: .int x :: st) h sz k n := by
  obtain ⟨p, l, e, R, s, m, args, below, meth, c⟩ := Γ
  obtain ⟨hx, hb, hml, hown, hts, hK, hO, hV, hbs, hlk, hnm, hrt, hRm⟩ := X
  intro H locs ls hz hR hS hl
  exact lv_iadd hx hb d (kk H locs ls hz hR hS hl)
theorem xr_isub (X : xX Γ Ω cc nL own nm ret rf rl rc rs) {x y : Int32} (d : decode cc pc = .ok (.isub, 1)) (kk : xG Γ Ω nL Q (pc + 1) lv (.int (x - y) :: st) h sz k n) : xG Γ Ω nL Q (pc) lv (.int y :: .int x :: st) h sz k n := by
  obtain ⟨p, l, e, R, s, m, args, below, meth, c⟩ := Γ
  obtain ⟨hx, hb, hml, hown, hts, hK, hO, hV, hbs, hlk, hnm, hrt, hRm⟩ := X
  intro H locs ls hz hR hS hl
  exact lv_isub hx hb d (kk H locs ls hz hR hS hl)
theorem xr_imul (X : xX Γ Ω cc nL own nm ret rf rl rc rs) {x y : Int32} (d : decode cc pc = .ok (.imul, 1)) (kk : xG Γ Ω nL Q (pc + 1) lv (.int (x * y) :: st) h sz k n) : xG Γ Ω nL Q (pc) lv (.int y :: .int x :: st) h sz k n := by
  obtain ⟨p, l, e, R, s, m, args, below, meth, c⟩ := Γ
  obtain ⟨hx, hb, hml, hown, hts, hK, hO, hV, hbs, hlk, hnm, hrt, hRm⟩ := X
  intro H locs ls hz hR hS hl
  exact lv_imul hx hb d (kk H locs ls hz hR hS hl)
theorem xr_iand (X : xX Γ Ω cc nL own nm ret rf rl rc rs) {x y : Int32} (d : decode cc pc = .ok (.iand, 1)) (kk : xG Γ Ω nL Q (pc + 1) lv (.int (x &&& y) :: st) h sz k n) : xG Γ Ω nL Q (pc) lv (.int y :: .int x :: st) h sz k n := by
  obtain ⟨p, l, e, R, s, m, args, below, meth, c⟩ := Γ
  obtain ⟨hx, hb, hml, hown, hts, hK, hO, hV, hbs, hlk, hnm, hrt, hRm⟩ := X
  intro H locs ls hz hR hS hl
  exact lv_iand hx hb d (kk H locs ls hz hR hS hl)
theorem xr_ior (X : xX Γ Ω cc nL own nm ret rf rl rc rs) {x y : Int32} (d : decode cc pc = .ok (.ior, 1)) (kk : xG Γ Ω nL Q (pc + 1) lv (.int (x ||| y) :: st) h sz k n) : xG Γ Ω nL Q (pc) lv (.int y :: .int x :: st) h sz k n := by
  obtain ⟨p, l, e, R, s, m, args, below, meth, c⟩ := Γ
  obtain ⟨hx, hb, hml, hown, hts, hK, hO, hV, hbs, hlk, hnm, hrt, hRm⟩ := X
  intro H locs ls hz hR hS hl
  exact lv_ior hx hb d (kk H locs ls hz hR hS hl)
theorem xr_ixor (X : xX Γ Ω cc nL own nm ret rf rl rc rs) {x y : Int32} (d : decode cc pc = .ok (.ixor, 1)) (kk : xG Γ Ω nL Q (pc + 1) lv (.int (x ^^^ y) :: st) h sz k n) : xG Γ Ω nL Q (pc) lv (.int y :: .int x :: st) h sz k n := by
  obtain ⟨p, l, e, R, s, m, args, below, meth, c⟩ := Γ
  obtain ⟨hx, hb, hml, hown, hts, hK, hO, hV, hbs, hlk, hnm, hrt, hRm⟩ := X
  intro H locs ls hz hR hS hl
  exact lv_ixor hx hb d (kk H locs ls hz hR hS hl)
theorem xr_ishl (X : xX Γ Ω cc nL own nm ret rf rl rc rs) {x y : Int32} (d : decode cc pc = .ok (.ishl, 1)) (kk : xG Γ Ω nL Q (pc + 1) lv (.int (x <<< (y &&& 31)) :: st) h sz k n) : xG Γ Ω nL Q (pc) lv (.int y :: .int x :: st) h sz k n := by
  obtain ⟨p, l, e, R, s, m, args, below, meth, c⟩ := Γ
  obtain ⟨hx, hb, hml, hown, hts, hK, hO, hV, hbs, hlk, hnm, hrt, hRm⟩ := X
  intro H locs ls hz hR hS hl
  exact lv_ishl hx hb d (kk H locs ls hz hR hS hl)
theorem xr_ishr (X : xX Γ Ω cc nL own nm ret rf rl rc rs) {x y : Int32} (d : decode cc pc = .ok (.ishr, 1)) (kk : xG Γ Ω nL Q (pc + 1) lv (.int (x >>> (y &&& 31)) :: st) h sz k n) : xG Γ Ω nL Q (pc) lv (.int y :: .int x :: st) h sz k n := by
  obtain ⟨p, l, e, R, s, m, args, below, meth, c⟩ := Γ
  obtain ⟨hx, hb, hml, hown, hts, hK, hO, hV, hbs, hlk, hnm, hrt, hRm⟩ := X
  intro H locs ls hz hR hS hl
  exact lv_ishr hx hb d (kk H locs ls hz hR hS hl)
theorem xr_iushr (X : xX Γ Ω cc nL own nm ret rf rl rc rs) {x y : Int32} (d : decode cc pc = .ok (.iushr, 1)) (kk : xG Γ Ω nL Q (pc + 1) lv (.int ((x.toUInt32 >>> (y.toUInt32 &&& Int32.toUInt32 31)).toInt32) :: st) h sz k n) : xG Γ Ω nL Q (pc) lv (.int y :: .int x :: st) h sz k n := by
  obtain ⟨p, l, e, R, s, m, args, below, meth, c⟩ := Γ
  obtain ⟨hx, hb, hml, hown, hts, hK, hO, hV, hbs, hlk, hnm, hrt, hRm⟩ := X
  intro H locs ls hz hR hS hl
  exact lv_iushr hx hb d rfl (kk H locs ls hz hR hS hl)
theorem xr_idiv (X : xX Γ Ω cc nL own nm ret rf rl rc rs) {x y : Int32} (d : decode cc pc = .ok (.idiv, 1)) (hne : ¬ y = 0) (kk : xG Γ Ω nL Q (pc + 1) lv (.int (x / y) :: st) h sz k n) : xG Γ Ω nL Q (pc) lv (.int y :: .int x :: st) h sz k n := by
  obtain ⟨p, l, e, R, s, m, args, below, meth, c⟩ := Γ
  obtain ⟨hx, hb, hml, hown, hts, hK, hO, hV, hbs, hlk, hnm, hrt, hRm⟩ := X
  intro H locs ls hz hR hS hl
  exact lv_idiv hx hb d hne (kk H locs ls hz hR hS hl)
theorem xr_irem (X : xX Γ Ω cc nL own nm ret rf rl rc rs) {x y : Int32} (d : decode cc pc = .ok (.irem, 1)) (hne : ¬ y = 0) (kk : xG Γ Ω nL Q (pc + 1) lv (.int (x - x / y * y) :: st) h sz k n) : xG Γ Ω nL Q (pc) lv (.int y :: .int x :: st) h sz k n := by
  obtain ⟨p, l, e, R, s, m, args, below, meth, c⟩ := Γ
  obtain ⟨hx, hb, hml, hown, hts, hK, hO, hV, hbs, hlk, hnm, hrt, hRm⟩ := X
  intro H locs ls hz hR hS hl
  exact lv_irem hx hb d hne (kk H locs ls hz hR hS hl)
theorem xr_ineg (X : xX Γ Ω cc nL own nm ret rf rl rc rs) {x : Int32} (d : decode cc pc = .ok (.ineg, 1)) (kk : xG Γ Ω nL Q (pc + 1) lv (.int (-x) :: st) h sz k n) : xG Γ Ω nL Q (pc) lv (.int x :: st) h sz k n := by
  obtain ⟨p, l, e, R, s, m, args, below, meth, c⟩ := Γ
  obtain ⟨hx, hb, hml, hown, hts, hK, hO, hV, hbs, hlk, hnm, hrt, hRm⟩ := X
  intro H locs ls hz hR hS hl
  exact lv_ineg hx hb d (kk H locs ls hz hR hS hl)
theorem xr_ladd (X : xX Γ Ω cc nL own nm ret rf rl rc rs) {x y : Int64} (d : decode cc pc = .ok (.ladd, 1)) (kk : xG Γ Ω nL Q (pc + 1) lv (.long (x + y) :: st) h sz k n) : xG Γ Ω nL Q (pc) lv (.long y :: .long x :: st) h sz k n := by
  obtain ⟨p, l, e, R, s, m, args, below, meth, c⟩ := Γ
  obtain ⟨hx, hb, hml, hown, hts, hK, hO, hV, hbs, hlk, hnm, hrt, hRm⟩ := X
  intro H locs ls hz hR hS hl
  exact lv_ladd hx hb d (kk H locs ls hz hR hS hl)
theorem xr_lsub (X : xX Γ Ω cc nL own nm ret rf rl rc rs) {x y : Int64} (d : decode cc pc = .ok (.lsub, 1)) (kk : xG Γ Ω nL Q (pc + 1) lv (.long (x - y) :: st) h sz k n) : xG Γ Ω nL Q (pc) lv (.long y :: .long x :: st) h sz k n := by
  obtain ⟨p, l, e, R, s, m, args, below, meth, c⟩ := Γ
  obtain ⟨hx, hb, hml, hown, hts, hK, hO, hV, hbs, hlk, hnm, hrt, hRm⟩ := X
  intro H locs ls hz hR hS hl
  exact lv_lsub hx hb d (kk H locs ls hz hR hS hl)
theorem xr_lmul (X : xX Γ Ω cc nL own nm ret rf rl rc rs) {x y : Int64} (d : decode cc pc = .ok (.lmul, 1)) (kk : xG Γ Ω nL Q (pc + 1) lv (.long (x * y) :: st) h sz k n) : xG Γ Ω nL Q (pc) lv (.long y :: .long x :: st) h sz k n := by
  obtain ⟨p, l, e, R, s, m, args, below, meth, c⟩ := Γ
  obtain ⟨hx, hb, hml, hown, hts, hK, hO, hV, hbs, hlk, hnm, hrt, hRm⟩ := X
  intro H locs ls hz hR hS hl
  exact lv_lmul hx hb d (kk H locs ls hz hR hS hl)
theorem xr_land (X : xX Γ Ω cc nL own nm ret rf rl rc rs) {x y : Int64} (d : decode cc pc = .ok (.land, 1)) (kk : xG Γ Ω nL Q (pc + 1) lv (.long (x &&& y) :: st) h sz k n) : xG Γ Ω nL Q (pc) lv (.long y :: .long x :: st) h sz k n := by
  obtain ⟨p, l, e, R, s, m, args, below, meth, c⟩ := Γ
  obtain ⟨hx, hb, hml, hown, hts, hK, hO, hV, hbs, hlk, hnm, hrt, hRm⟩ := X
  intro H locs ls hz hR hS hl
  exact lv_land hx hb d (kk H locs ls hz hR hS hl)
theorem xr_lor (X : xX Γ Ω cc nL own nm ret rf rl rc rs) {x y : Int64} (d : decode cc pc = .ok (.lor, 1)) (kk : xG Γ Ω nL Q (pc + 1) lv (.long (x ||| y) :: st) h sz k n) : xG Γ Ω nL Q (pc) lv (.long y :: .long x :: st) h sz k n := by
  obtain ⟨p, l, e, R, s, m, args, below, meth, c⟩ := Γ
  obtain ⟨hx, hb, hml, hown, hts, hK, hO, hV, hbs, hlk, hnm, hrt, hRm⟩ := X
  intro H locs ls hz hR hS hl
  exact lv_lor hx hb d (kk H locs ls hz hR hS hl)
theorem xr_lrem (X : xX Γ Ω cc nL own nm ret rf rl rc rs) {x y : Int64} (d : decode cc pc = .ok (.lrem, 1)) (hne : ¬ y = 0) (kk : xG Γ Ω nL Q (pc + 1) lv (.long (x - x / y * y) :: st) h sz k n) : xG Γ Ω nL Q (pc) lv (.long y :: .long x :: st) h sz k n := by
  obtain ⟨p, l, e, R, s, m, args, below, meth, c⟩ := Γ
  obtain ⟨hx, hb, hml, hown, hts, hK, hO, hV, hbs, hlk, hnm, hrt, hRm⟩ := X
  intro H locs ls hz hR hS hl
  exact lv_lrem hx hb d hne (kk H locs ls hz hR hS hl)
theorem xr_lshl (X : xX Γ Ω cc nL own nm ret rf rl rc rs) {x : Int64} {y : Int32} (d : decode cc pc = .ok (.lshl, 1)) (kk : xG Γ Ω nL Q (pc + 1) lv (.long (x <<< (y.toInt64 &&& 63)) :: st) h sz k n) : xG Γ Ω nL Q (pc) lv (.int y :: .long x :: st) h sz k n := by
  obtain ⟨p, l, e, R, s, m, args, below, meth, c⟩ := Γ
  obtain ⟨hx, hb, hml, hown, hts, hK, hO, hV, hbs, hlk, hnm, hrt, hRm⟩ := X
  intro H locs ls hz hR hS hl
  exact lv_lshl hx hb d rfl (kk H locs ls hz hR hS hl)
theorem xr_lshr (X : xX Γ Ω cc nL own nm ret rf rl rc rs) {x : Int64} {y : Int32} (d : decode cc pc = .ok (.lshr, 1)) (kk : xG Γ Ω nL Q (pc + 1) lv (.long (x >>> (y.toInt64 &&& 63)) :: st) h sz k n) : xG Γ Ω nL Q (pc) lv (.int y :: .long x :: st) h sz k n := by
  obtain ⟨p, l, e, R, s, m, args, below, meth, c⟩ := Γ
  obtain ⟨hx, hb, hml, hown, hts, hK, hO, hV, hbs, hlk, hnm, hrt, hRm⟩ := X
  intro H locs ls hz hR hS hl
  exact lv_lshr hx hb d rfl (kk H locs ls hz hR hS hl)
theorem xr_lushr (X : xX Γ Ω cc nL own nm ret rf rl rc rs) {x : Int64} {y : Int32} (d : decode cc pc = .ok (.lushr, 1)) (kk : xG Γ Ω nL Q (pc + 1) lv (.long ((x.toUInt64 >>> (y.toInt64.toUInt64 &&& Int64.toUInt64 63)).toInt64) :: st) h sz k n) : xG Γ Ω nL Q (pc) lv (.int y :: .long x :: st) h sz k n := by
  obtain ⟨p, l, e, R, s, m, args, below, meth, c⟩ := Γ
  obtain ⟨hx, hb, hml, hown, hts, hK, hO, hV, hbs, hlk, hnm, hrt, hRm⟩ := X
  intro H locs ls hz hR hS hl
  exact lv_lushr hx hb d rfl (kk H locs ls hz hR hS hl)
theorem xr_lcmp (X : xX Γ Ω cc nL own nm ret rf rl rc rs) {x y : Int64} (d : decode cc pc = .ok (.lcmp, 1)) (kk : xG Γ Ω nL Q (pc + 1) lv (.int (lg_cmp x y) :: st) h sz k n) : xG Γ Ω nL Q (pc) lv (.long y :: .long x :: st) h sz k n := by
  obtain ⟨p, l, e, R, s, m, args, below, meth, c⟩ := Γ
  obtain ⟨hx, hb, hml, hown, hts, hK, hO, hV, hbs, hlk, hnm, hrt, hRm⟩ := X
  intro H locs ls hz hR hS hl
  exact W.lcmp hx hb d (kk H locs ls hz hR hS hl)
theorem xr_i2l (X : xX Γ Ω cc nL own nm ret rf rl rc rs) {x : Int32} (d : decode cc pc = .ok (.i2l, 1)) (kk : xG Γ Ω nL Q (pc + 1) lv (.long x.toInt64 :: st) h sz k n) : xG Γ Ω nL Q (pc) lv (.int x :: st) h sz k n := by
  obtain ⟨p, l, e, R, s, m, args, below, meth, c⟩ := Γ
  obtain ⟨hx, hb, hml, hown, hts, hK, hO, hV, hbs, hlk, hnm, hrt, hRm⟩ := X
  intro H locs ls hz hR hS hl
  exact lv_i2l hx hb d rfl (kk H locs ls hz hR hS hl)
theorem xr_l2i (X : xX Γ Ω cc nL own nm ret rf rl rc rs) {x : Int64} (d : decode cc pc = .ok (.l2i, 1)) (kk : xG Γ Ω nL Q (pc + 1) lv (.int x.toInt32 :: st) h sz k n) : xG Γ Ω nL Q (pc) lv (.long x :: st) h sz k n := by
  obtain ⟨p, l, e, R, s, m, args, below, meth, c⟩ := Γ
  obtain ⟨hx, hb, hml, hown, hts, hK, hO, hV, hbs, hlk, hnm, hrt, hRm⟩ := X
  intro H locs ls hz hR hS hl
  exact lv_l2i hx hb d rfl (kk H locs ls hz hR hS hl)
theorem xr_i2b (X : xX Γ Ω cc nL own nm ret rf rl rc rs) {x : Int32} (d : decode cc pc = .ok (.i2b, 1)) (kk : xG Γ Ω nL Q (pc + 1) lv (.int x.toInt8.toInt32 :: st) h sz k n) : xG Γ Ω nL Q (pc) lv (.int x :: st) h sz k n := by
  obtain ⟨p, l, e, R, s, m, args, below, meth, c⟩ := Γ
  obtain ⟨hx, hb, hml, hown, hts, hK, hO, hV, hbs, hlk, hnm, hrt, hRm⟩ := X
  intro H locs ls hz hR hS hl
  exact lv_i2b hx hb d rfl (kk H locs ls hz hR hS hl)
theorem xr_i2s (X : xX Γ Ω cc nL own nm ret rf rl rc rs) {x : Int32} (d : decode cc pc = .ok (.i2s, 1)) (kk : xG Γ Ω nL Q (pc + 1) lv (.int x.toInt16.toInt32 :: st) h sz k n) : xG Γ Ω nL Q (pc) lv (.int x :: st) h sz k n := by
  obtain ⟨p, l, e, R, s, m, args, below, meth, c⟩ := Γ
  obtain ⟨hx, hb, hml, hown, hts, hK, hO, hV, hbs, hlk, hnm, hrt, hRm⟩ := X
  intro H locs ls hz hR hS hl
  exact lv_i2s hx hb d rfl (kk H locs ls hz hR hS hl)
theorem xr_i2c (X : xX Γ Ω cc nL own nm ret rf rl rc rs) {x : Int32} (d : decode cc pc = .ok (.i2c, 1)) (kk : xG Γ Ω nL Q (pc + 1) lv (.int (x.toUInt32 % 65536).toInt32 :: st) h sz k n) : xG Γ Ω nL Q (pc) lv (.int x :: st) h sz k n := by
  obtain ⟨p, l, e, R, s, m, args, below, meth, c⟩ := Γ
  obtain ⟨hx, hb, hml, hown, hts, hK, hO, hV, hbs, hlk, hnm, hrt, hRm⟩ := X
  intro H locs ls hz hR hS hl
  exact lv_i2c hx hb d rfl (kk H locs ls hz hR hS hl)
theorem xr_dup (X : xX Γ Ω cc nL own nm ret rf rl rc rs) {va : Value} (d : decode cc pc = .ok (.dup, 1)) (hva : va.category = 1) (kk : xG Γ Ω nL Q (pc + 1) lv (va :: va :: st) h sz k n) : xG Γ Ω nL Q (pc) lv (va :: st) h sz k n := by
  obtain ⟨p, l, e, R, s, m, args, below, meth, c⟩ := Γ
  obtain ⟨hx, hb, hml, hown, hts, hK, hO, hV, hbs, hlk, hnm, hrt, hRm⟩ := X
  intro H locs ls hz hR hS hl
  exact lv_dup hx hb d hva (kk H locs ls hz hR hS hl)
theorem xr_dup2 (X : xX Γ Ω cc nL own nm ret rf rl rc rs) {va vb : Value} (d : decode cc pc = .ok (.dup2, 1)) (hva : va.category = 1) (hvb : vb.category = 1) (kk : xG Γ Ω nL Q (pc + 1) lv (va :: vb :: va :: vb :: st) h sz k n) : xG Γ Ω nL Q (pc) lv (va :: vb :: st) h sz k n := by
  obtain ⟨p, l, e, R, s, m, args, below, meth, c⟩ := Γ
  obtain ⟨hx, hb, hml, hown, hts, hK, hO, hV, hbs, hlk, hnm, hrt, hRm⟩ := X
  intro H locs ls hz hR hS hl
  exact lv_dup2_11 hx hb d hva hvb (kk H locs ls hz hR hS hl)
theorem xr_pop (X : xX Γ Ω cc nL own nm ret rf rl rc rs) {va : Value} (d : decode cc pc = .ok (.pop, 1)) (hva : va.category = 1) (kk : xG Γ Ω nL Q (pc + 1) lv (st) h sz k n) : xG Γ Ω nL Q (pc) lv (va :: st) h sz k n := by
  obtain ⟨p, l, e, R, s, m, args, below, meth, c⟩ := Γ
  obtain ⟨hx, hb, hml, hown, hts, hK, hO, hV, hbs, hlk, hnm, hrt, hRm⟩ := X
  intro H locs ls hz hR hS hl
  exact lv_pop hx hb d hva (kk H locs ls hz hR hS hl)
theorem xr_if_eq (X : xX Γ Ω cc nL own nm ret rf rl rc rs) {x : Int32} {off : Int} {tgt : Nat} (d : decode cc pc = .ok (.ifCond .eq off, 3)) (ht : (pc : Int) + off = (tgt : Int)) (kt : x = 0 → xG Γ Ω nL Q (tgt) lv (st) h sz k n) (kf : ¬ x = 0 → xG Γ Ω nL Q (pc + 3) lv (st) h sz k n) : xG Γ Ω nL Q (pc) lv (.int x :: st) h sz k n := by
  obtain ⟨p, l, e, R, s, m, args, below, meth, c⟩ := Γ
  obtain ⟨hx, hb, hml, hown, hts, hK, hO, hV, hbs, hlk, hnm, hrt, hRm⟩ := X
  intro H locs ls hz hR hS hl
  exact lv_if_eq hx hb d ht (fun q => kt q H locs ls hz hR hS hl) (fun q => kf q H locs ls hz hR hS hl)
theorem xr_icmp_eq (X : xX Γ Ω cc nL own nm ret rf rl rc rs) {x y : Int32} {off : Int} {tgt : Nat} (d : decode cc pc = .ok (.if_icmp .eq off, 3)) (ht : (pc : Int) + off = (tgt : Int)) (kt : x = y → xG Γ Ω nL Q (tgt) lv (st) h sz k n) (kf : ¬ x = y → xG Γ Ω nL Q (pc + 3) lv (st) h sz k n) : xG Γ Ω nL Q (pc) lv (.int y :: .int x :: st) h sz k n := by
  obtain ⟨p, l, e, R, s, m, args, below, meth, c⟩ := Γ
  obtain ⟨hx, hb, hml, hown, hts, hK, hO, hV, hbs, hlk, hnm, hrt, hRm⟩ := X
  intro H locs ls hz hR hS hl
  exact lv_icmp_eq hx hb d ht (fun q => kt q H locs ls hz hR hS hl) (fun q => kf q H locs ls hz hR hS hl)
theorem xr_if_ne (X : xX Γ Ω cc nL own nm ret rf rl rc rs) {x : Int32} {off : Int} {tgt : Nat} (d : decode cc pc = .ok (.ifCond .ne off, 3)) (ht : (pc : Int) + off = (tgt : Int)) (kt : ¬ x = 0 → xG Γ Ω nL Q (tgt) lv (st) h sz k n) (kf : x = 0 → xG Γ Ω nL Q (pc + 3) lv (st) h sz k n) : xG Γ Ω nL Q (pc) lv (.int x :: st) h sz k n := by
  obtain ⟨p, l, e, R, s, m, args, below, meth, c⟩ := Γ
  obtain ⟨hx, hb, hml, hown, hts, hK, hO, hV, hbs, hlk, hnm, hrt, hRm⟩ := X
  intro H locs ls hz hR hS hl
  exact lv_if_ne hx hb d ht (fun q => kt q H locs ls hz hR hS hl) (fun q => kf q H locs ls hz hR hS hl)
theorem xr_icmp_ne (X : xX Γ Ω cc nL own nm ret rf rl rc rs) {x y : Int32} {off : Int} {tgt : Nat} (d : decode cc pc = .ok (.if_icmp .ne off, 3)) (ht : (pc : Int) + off = (tgt : Int)) (kt : ¬ x = y → xG Γ Ω nL Q (tgt) lv (st) h sz k n) (kf : x = y → xG Γ Ω nL Q (pc + 3) lv (st) h sz k n) : xG Γ Ω nL Q (pc) lv (.int y :: .int x :: st) h sz k n := by
  obtain ⟨p, l, e, R, s, m, args, below, meth, c⟩ := Γ
  obtain ⟨hx, hb, hml, hown, hts, hK, hO, hV, hbs, hlk, hnm, hrt, hRm⟩ := X
  intro H locs ls hz hR hS hl
  exact lv_icmp_ne hx hb d ht (fun q => kt q H locs ls hz hR hS hl) (fun q => kf q H locs ls hz hR hS hl)
theorem xr_if_lt (X : xX Γ Ω cc nL own nm ret rf rl rc rs) {x : Int32} {off : Int} {tgt : Nat} (d : decode cc pc = .ok (.ifCond .lt off, 3)) (ht : (pc : Int) + off = (tgt : Int)) (kt : x < 0 → xG Γ Ω nL Q (tgt) lv (st) h sz k n) (kf : ¬ x < 0 → xG Γ Ω nL Q (pc + 3) lv (st) h sz k n) : xG Γ Ω nL Q (pc) lv (.int x :: st) h sz k n := by
  obtain ⟨p, l, e, R, s, m, args, below, meth, c⟩ := Γ
  obtain ⟨hx, hb, hml, hown, hts, hK, hO, hV, hbs, hlk, hnm, hrt, hRm⟩ := X
  intro H locs ls hz hR hS hl
  exact lv_if_lt hx hb d ht (fun q => kt q H locs ls hz hR hS hl) (fun q => kf q H locs ls hz hR hS hl)
theorem xr_icmp_lt (X : xX Γ Ω cc nL own nm ret rf rl rc rs) {x y : Int32} {off : Int} {tgt : Nat} (d : decode cc pc = .ok (.if_icmp .lt off, 3)) (ht : (pc : Int) + off = (tgt : Int)) (kt : x < y → xG Γ Ω nL Q (tgt) lv (st) h sz k n) (kf : ¬ x < y → xG Γ Ω nL Q (pc + 3) lv (st) h sz k n) : xG Γ Ω nL Q (pc) lv (.int y :: .int x :: st) h sz k n := by
  obtain ⟨p, l, e, R, s, m, args, below, meth, c⟩ := Γ
  obtain ⟨hx, hb, hml, hown, hts, hK, hO, hV, hbs, hlk, hnm, hrt, hRm⟩ := X
  intro H locs ls hz hR hS hl
  exact lv_icmp_lt hx hb d ht (fun q => kt q H locs ls hz hR hS hl) (fun q => kf q H locs ls hz hR hS hl)
theorem xr_if_ge (X : xX Γ Ω cc nL own nm ret rf rl rc rs) {x : Int32} {off : Int} {tgt : Nat} (d : decode cc pc = .ok (.ifCond .ge off, 3)) (ht : (pc : Int) + off = (tgt : Int)) (kt : 0 ≤ x → xG Γ Ω nL Q (tgt) lv (st) h sz k n) (kf : ¬ 0 ≤ x → xG Γ Ω nL Q (pc + 3) lv (st) h sz k n) : xG Γ Ω nL Q (pc) lv (.int x :: st) h sz k n := by
  obtain ⟨p, l, e, R, s, m, args, below, meth, c⟩ := Γ
  obtain ⟨hx, hb, hml, hown, hts, hK, hO, hV, hbs, hlk, hnm, hrt, hRm⟩ := X
  intro H locs ls hz hR hS hl
  exact lv_if_ge hx hb d ht (fun q => kt q H locs ls hz hR hS hl) (fun q => kf q H locs ls hz hR hS hl)
theorem xr_icmp_ge (X : xX Γ Ω cc nL own nm ret rf rl rc rs) {x y : Int32} {off : Int} {tgt : Nat} (d : decode cc pc = .ok (.if_icmp .ge off, 3)) (ht : (pc : Int) + off = (tgt : Int)) (kt : y ≤ x → xG Γ Ω nL Q (tgt) lv (st) h sz k n) (kf : ¬ y ≤ x → xG Γ Ω nL Q (pc + 3) lv (st) h sz k n) : xG Γ Ω nL Q (pc) lv (.int y :: .int x :: st) h sz k n := by
  obtain ⟨p, l, e, R, s, m, args, below, meth, c⟩ := Γ
  obtain ⟨hx, hb, hml, hown, hts, hK, hO, hV, hbs, hlk, hnm, hrt, hRm⟩ := X
  intro H locs ls hz hR hS hl
  exact lv_icmp_ge hx hb d ht (fun q => kt q H locs ls hz hR hS hl) (fun q => kf q H locs ls hz hR hS hl)
theorem xr_if_gt (X : xX Γ Ω cc nL own nm ret rf rl rc rs) {x : Int32} {off : Int} {tgt : Nat} (d : decode cc pc = .ok (.ifCond .gt off, 3)) (ht : (pc : Int) + off = (tgt : Int)) (kt : 0 < x → xG Γ Ω nL Q (tgt) lv (st) h sz k n) (kf : ¬ 0 < x → xG Γ Ω nL Q (pc + 3) lv (st) h sz k n) : xG Γ Ω nL Q (pc) lv (.int x :: st) h sz k n := by
  obtain ⟨p, l, e, R, s, m, args, below, meth, c⟩ := Γ
  obtain ⟨hx, hb, hml, hown, hts, hK, hO, hV, hbs, hlk, hnm, hrt, hRm⟩ := X
  intro H locs ls hz hR hS hl
  exact lv_if_gt hx hb d ht (fun q => kt q H locs ls hz hR hS hl) (fun q => kf q H locs ls hz hR hS hl)
theorem xr_icmp_gt (X : xX Γ Ω cc nL own nm ret rf rl rc rs) {x y : Int32} {off : Int} {tgt : Nat} (d : decode cc pc = .ok (.if_icmp .gt off, 3)) (ht : (pc : Int) + off = (tgt : Int)) (kt : y < x → xG Γ Ω nL Q (tgt) lv (st) h sz k n) (kf : ¬ y < x → xG Γ Ω nL Q (pc + 3) lv (st) h sz k n) : xG Γ Ω nL Q (pc) lv (.int y :: .int x :: st) h sz k n := by
  obtain ⟨p, l, e, R, s, m, args, below, meth, c⟩ := Γ
  obtain ⟨hx, hb, hml, hown, hts, hK, hO, hV, hbs, hlk, hnm, hrt, hRm⟩ := X
  intro H locs ls hz hR hS hl
  exact lv_icmp_gt hx hb d ht (fun q => kt q H locs ls hz hR hS hl) (fun q => kf q H locs ls hz hR hS hl)
theorem xr_if_le (X : xX Γ Ω cc nL own nm ret rf rl rc rs) {x : Int32} {off : Int} {tgt : Nat} (d : decode cc pc = .ok (.ifCond .le off, 3)) (ht : (pc : Int) + off = (tgt : Int)) (kt : x ≤ 0 → xG Γ Ω nL Q (tgt) lv (st) h sz k n) (kf : ¬ x ≤ 0 → xG Γ Ω nL Q (pc + 3) lv (st) h sz k n) : xG Γ Ω nL Q (pc) lv (.int x :: st) h sz k n := by
  obtain ⟨p, l, e, R, s, m, args, below, meth, c⟩ := Γ
  obtain ⟨hx, hb, hml, hown, hts, hK, hO, hV, hbs, hlk, hnm, hrt, hRm⟩ := X
  intro H locs ls hz hR hS hl
  exact lv_if_le hx hb d ht (fun q => kt q H locs ls hz hR hS hl) (fun q => kf q H locs ls hz hR hS hl)
theorem xr_icmp_le (X : xX Γ Ω cc nL own nm ret rf rl rc rs) {x y : Int32} {off : Int} {tgt : Nat} (d : decode cc pc = .ok (.if_icmp .le off, 3)) (ht : (pc : Int) + off = (tgt : Int)) (kt : x ≤ y → xG Γ Ω nL Q (tgt) lv (st) h sz k n) (kf : ¬ x ≤ y → xG Γ Ω nL Q (pc + 3) lv (st) h sz k n) : xG Γ Ω nL Q (pc) lv (.int y :: .int x :: st) h sz k n := by
  obtain ⟨p, l, e, R, s, m, args, below, meth, c⟩ := Γ
  obtain ⟨hx, hb, hml, hown, hts, hK, hO, hV, hbs, hlk, hnm, hrt, hRm⟩ := X
  intro H locs ls hz hR hS hl
  exact lv_icmp_le hx hb d ht (fun q => kt q H locs ls hz hR hS hl) (fun q => kf q H locs ls hz hR hS hl)
theorem xr_goto (X : xX Γ Ω cc nL own nm ret rf rl rc rs) {off : Int} {tgt : Nat} (d : decode cc pc = .ok (.goto off, 3)) (ht : (pc : Int) + off = (tgt : Int)) (kk : xG Γ Ω nL Q (tgt) lv (st) h sz k n) : xG Γ Ω nL Q (pc) lv (st) h sz k n := by
  obtain ⟨p, l, e, R, s, m, args, below, meth, c⟩ := Γ
  obtain ⟨hx, hb, hml, hown, hts, hK, hO, hV, hbs, hlk, hnm, hrt, hRm⟩ := X
  intro H locs ls hz hR hS hl
  exact lv_goto hx hb d ht (kk H locs ls hz hR hS hl)
theorem xr_ifnonnull (X : xX Γ Ω cc nL own nm ret rf rl rc rs) {x : Nat} {off : Int} {tgt : Nat} (d : decode cc pc = .ok (.ifnonnull off, 3)) (ht : (pc : Int) + off = (tgt : Int)) (kk : xG Γ Ω nL Q (tgt) lv (st) h sz k n) : xG Γ Ω nL Q (pc) lv (.ref x :: st) h sz k n := by
  obtain ⟨p, l, e, R, s, m, args, below, meth, c⟩ := Γ
  obtain ⟨hx, hb, hml, hown, hts, hK, hO, hV, hbs, hlk, hnm, hrt, hRm⟩ := X
  intro H locs ls hz hR hS hl
  exact lv_ifnonnull hx hb d ht (kk H locs ls hz hR hS hl)
theorem xr_ifnull (X : xX Γ Ω cc nL own nm ret rf rl rc rs) {x : Nat} {off : Int} (d : decode cc pc = .ok (.ifnull off, 3)) (kk : xG Γ Ω nL Q (pc + 3) lv (st) h sz k n) : xG Γ Ω nL Q (pc) lv (.ref x :: st) h sz k n := by
  obtain ⟨p, l, e, R, s, m, args, below, meth, c⟩ := Γ
  obtain ⟨hx, hb, hml, hown, hts, hK, hO, hV, hbs, hlk, hnm, hrt, hRm⟩ := X
  intro H locs ls hz hR hS hl
  exact lv_ifnull hx hb d (kk H locs ls hz hR hS hl)
theorem xr_ifnullN (X : xX Γ Ω cc nL own nm ret rf rl rc rs) {off : Int} {tgt : Nat} (d : decode cc pc = .ok (.ifnull off, 3)) (ht : (pc : Int) + off = (tgt : Int)) (kk : xG Γ Ω nL Q (tgt) lv (st) h sz k n) : xG Γ Ω nL Q (pc) lv (.null :: st) h sz k n := by
  obtain ⟨p, l, e, R, s, m, args, below, meth, c⟩ := Γ
  obtain ⟨hx, hb, hml, hown, hts, hK, hO, hV, hbs, hlk, hnm, hrt, hRm⟩ := X
  intro H locs ls hz hR hS hl
  exact lv_ifnullN hx hb d ht (kk H locs ls hz hR hS hl)
theorem xr_ifnonnullN (X : xX Γ Ω cc nL own nm ret rf rl rc rs) {off : Int} (d : decode cc pc = .ok (.ifnonnull off, 3)) (kk : xG Γ Ω nL Q (pc + 3) lv (st) h sz k n) : xG Γ Ω nL Q (pc) lv (.null :: st) h sz k n := by
  obtain ⟨p, l, e, R, s, m, args, below, meth, c⟩ := Γ
  obtain ⟨hx, hb, hml, hown, hts, hK, hO, hV, hbs, hlk, hnm, hrt, hRm⟩ := X
  intro H locs ls hz hR hS hl
  exact lv_ifnonnullN hx hb d (kk H locs ls hz hR hS hl)
theorem xr_lookup (X : xX Γ Ω cc nL own nm ret rf rl rc rs) {dflt : Int} {ps : Array (Int × Int)} {len : Nat} {x : Int32} {off : Int} {tgt : Nat} (d : decode cc pc = .ok (.lookupswitch dflt ps, len)) (hp : (ps.toList.zip (ps.toList.drop 1)).all (fun (a, next) => a.1 < next.1) = true) (ho : Op.lookupswitch.offset ps.toList dflt x.toInt = off) (ht : (pc : Int) + off = (tgt : Int)) (kk : xG Γ Ω nL Q (tgt) lv (st) h sz k n) : xG Γ Ω nL Q (pc) lv (.int x :: st) h sz k n := by
  obtain ⟨p, l, e, R, s, m, args, below, meth, c⟩ := Γ
  obtain ⟨hx, hb, hml, hown, hts, hK, hO, hV, hbs, hlk, hnm, hrt, hRm⟩ := X
  intro H locs ls hz hR hS hl
  exact lv_lookup hx hb d hp ho ht (kk H locs ls hz hR hS hl)
theorem xr_tableOut (X : xX Γ Ω cc nL own nm ret rf rl rc rs) {dflt lo hi : Int} {offs : Array Int} {len : Nat} {x : Int32} {tgt : Nat} (d : decode cc pc = .ok (.tableswitch dflt lo hi offs, len)) (hh : x.toInt < lo ∨ hi < x.toInt) (ht : (pc : Int) + dflt = (tgt : Int)) (kk : xG Γ Ω nL Q (tgt) lv (st) h sz k n) : xG Γ Ω nL Q (pc) lv (.int x :: st) h sz k n := by
  obtain ⟨p, l, e, R, s, m, args, below, meth, c⟩ := Γ
  obtain ⟨hx, hb, hml, hown, hts, hK, hO, hV, hbs, hlk, hnm, hrt, hRm⟩ := X
  intro H locs ls hz hR hS hl
  exact lv_tableOut hx hb d hh ht (kk H locs ls hz hR hS hl)
theorem xr_tableIn (X : xX Γ Ω cc nL own nm ret rf rl rc rs) {dflt lo hi : Int} {offs : Array Int} {len : Nat} {x : Int32} {off : Int} {tgt : Nat} (d : decode cc pc = .ok (.tableswitch dflt lo hi offs, len)) (h1 : ¬ x.toInt < lo) (h2 : ¬ hi < x.toInt) (ho : offs[(x.toInt - lo).toNat]? = some off) (ht : (pc : Int) + off = (tgt : Int)) (kk : xG Γ Ω nL Q (tgt) lv (st) h sz k n) : xG Γ Ω nL Q (pc) lv (.int x :: st) h sz k n := by
  obtain ⟨p, l, e, R, s, m, args, below, meth, c⟩ := Γ
  obtain ⟨hx, hb, hml, hown, hts, hK, hO, hV, hbs, hlk, hnm, hrt, hRm⟩ := X
  intro H locs ls hz hR hS hl
  exact lv_tableIn hx hb d h1 h2 ho ht (kk H locs ls hz hR hS hl)
theorem xr_locs {lv' : List (Nat × Value)} (ks : List Nat) (hk : lv_pick lv ks = lv') (kk : xG Γ Ω nL Q (pc) lv' (st) h sz k n) : xG Γ Ω nL Q (pc) lv (st) h sz k n := by
  obtain ⟨p, l, e, R, s, m, args, below, meth, c⟩ := Γ
  exact fun H locs ls hz hR hS hl => kk H locs ls hz hR hS (lv_sub hl ks hk)
theorem xr_heap {h' : xH} (e : h = h') (kk : xG Γ Ω nL Q (pc) lv (st) h' sz k n) : xG Γ Ω nL Q (pc) lv (st) h sz k n := e ▸ kk
theorem xr_wid {k2 n2 : Nat} (h1 : k ≤ k2) (h2 : n ≤ n2) (kk : xG Γ Ω nL Q (pc) lv (st) h sz k2 n2) : xG Γ Ω nL Q (pc) lv (st) h sz k n := by
  obtain ⟨p, l, e, R, s, m, args, below, meth, c⟩ := Γ
  exact fun H locs ls hz hR hS hl => W.widen h1 h2 (kk H locs ls hz hR hS hl)
theorem xr_sz (kk : ∀ z : Nat, z = sz → Ω.2.1 ≤ z → (∀ (a : Nat) (e : xE), h a = some e → Ω.2.1 ≤ a ∧ a < z) → xG Γ Ω nL Q (pc) lv (st) h z k n) (X : xX Γ Ω cc nL own nm ret rf rl rc rs) : xG Γ Ω nL Q (pc) lv (st) h sz k n := by
  obtain ⟨p, l, e, R, s, m, args, below, meth, c⟩ := Γ
  obtain ⟨hx, hb, hml, hown, hts, hK, hO, hV, hbs, hlk, hnm, hrt, hRm⟩ := X
  intro H locs ls hz hR hS hl
  exact kk sz rfl (by have := hS.1; omega) (fun a e q => ⟨(hR a e q).1, by rw [← hz]; exact hR.lt q⟩) H locs ls hz hR hS hl
/-- a field by its place: class ci of vwCl, field kf -/
def xF (own : String) (index ci kf : Nat) : Prop := ∃ (C : String) (T : u_T) (N : Nat) (ref : String), vwCl[ci]? = some (C, T, N) ∧ (∀ w ∈ u_ws C T N, w ∈ x_big) ∧ kf < N ∧ Cond.fieldLink own index ref (T kf).2.1 (T kf).2.2.1 ∈ x_big ∧ (ref = (T kf).1 ∨ Cond.sameField ref (T kf).1 (T kf).2.1 (T kf).2.2.1 ∈ x_big)
theorem xF.same {s : State} {args : Array Value} {ref o n d : String} (hts : ∀ w ∈ x_big, w.before args s = true) (hq : ref = o ∨ Cond.sameField ref o n d ∈ x_big) : ∀ x, s.fieldFound? o n d = some x → s.fieldFound? ref n d = some x := by
  intro x hx
  rcases hq with e | e
  · rw [e]; exact hx
  · exact u_same (hts _ e) x hx
theorem xr_get (X : xX Γ Ω cc nL own nm ret rf rl rc rs) {index ci kf a : Nat} {fs : List Value} {v : Value} (hF : xF own index ci kf) (ha : h a = some (.inr (ci, fs))) (hv : fs[kf]? = some v) (d : decode cc pc = .ok (.getfield index, 3)) (kk : xG Γ Ω nL Q (pc + 3) lv (v :: st) h sz k n) : xG Γ Ω nL Q (pc) lv (.ref a :: st) h sz k n := by
  obtain ⟨p, l, e, R, s, m, args, below, meth, c⟩ := Γ
  obtain ⟨hx, hb, hml, hown, hts, hK, hO, hV, hbs, hlk, hnm, hrt, hRm⟩ := X
  intro H locs ls hz hR hS hl
  obtain ⟨C, T, N, ref, hc, hin, hk, hlink, hq⟩ := hF
  have hP : va_P Ω.1 vwCl [(a, .inr (ci, fs))] H := fun j q hj => by
    have h0 : j < 1 := (List.getElem?_eq_some_iff.mp hj).1
    rw [show j = 0 by omega] at hj
    cases hj
    exact (hR a _ ha).2
  exact va_get (D := Ω.1) (C := C) (T := T) (N := N) (ref := ref) hx hb hts hin hown hK hP 0 rfl hc kf hk (hts _ hlink) (xF.same hts hq) hv d (kk H locs ls hz hR hS hl)
/-- a field that is written: not final, or final in a constructor of its own class; its type takes v -/
def xFw (own nm : String) (index ci kf : Nat) (ty : FieldType) : Prop := ∃ (C : String) (T : u_T) (N : Nat) (ref : String) (tys : Nat → FieldType), vwCl[ci]? = some (C, T, N) ∧ (∀ w ∈ u_ws C T N, w ∈ x_big) ∧ kf < N ∧ Cond.fieldLink own index ref (T kf).2.1 (T kf).2.2.1 ∈ x_big ∧ (ref = (T kf).1 ∨ Cond.sameField ref (T kf).1 (T kf).2.1 (T kf).2.2.1 ∈ x_big) ∧ (∀ k, k < N → parseFieldDescriptor (T k).2.2.1 = some (tys k)) ∧ (∀ a, a < N → ∀ b, b < N → a ≠ b → (T a).2.1 ≠ (T b).2.1) ∧ parseFieldDescriptor (T kf).2.2.1 = some ty ∧ ((T kf).2.2.2 = false ∨ ((T kf).2.2.2 = true ∧ nm = "<init>" ∧ (T kf).1 = own))
theorem xr_put (X : xX Γ Ω cc nL own nm ret rf rl rc rs) {index ci kf a : Nat} {fs fs' : List Value} {v : Value} {ty : FieldType} (hF : xFw own nm index ci kf ty) (ha : h a = some (.inr (ci, fs))) (hn : narrow ty v = v) (hfit : fits ty v = true) (hlen : Nat.ble (kf + 1) fs.length = true) (hfs : fs.set kf v = fs') (d : decode cc pc = .ok (.putfield index, 3)) (kk : xG Γ Ω nL Q (pc + 3) lv (st) (xu h a (.inr (ci, fs'))) sz k n) : xG Γ Ω nL Q (pc) lv (v :: .ref a :: st) h sz k n := by
  obtain ⟨p, l, e, R, s, m, args, below, meth, c⟩ := Γ
  obtain ⟨hx, hb, hml, hown, hts, hK, hO, hV, hbs, hlk, hnm, hrt, hRm⟩ := X
  intro H locs ls hz hR hS hl
  subst hfs
  obtain ⟨C, T, N, ref, tys, hc, hin, hk, hlink, hq, hty, hnmm, hd, hfin⟩ := hF
  have hP : va_P Ω.1 vwCl [(a, .inr (ci, fs))] H := fun j q hj => by
    have h0 : j < 1 := (List.getElem?_eq_some_iff.mp hj).1
    rw [show j = 0 by omega] at hj
    cases hj
    exact (hR a _ ha).2
  have hap := va_apart (D := Ω.1) (own := own) hts hin tys hty hnmm hK hc
  obtain ⟨r, h1, cell, q1, q2, q3, q4⟩ := (hR a _ ha).2
  have hr : r = (C, T, N) := Option.some.inj (h1.symm.trans hc)
  subst hr
  obtain ⟨hS2, hfc, kC, hkC, hkind⟩ := hK.1 ci _ hc
  obtain ⟨cf, kf2, fi, f, hi, hsl⟩ := hS2 kf hk
  have hst := (u_facts hfc hkC (u_lays hts hin hk) hi).1
  have hsame := xF.same hts hq (s := s) (args := args)
  have key : ∀ H1 : Heap, H1[a]? = some (cell.setSlot f.slot v) → H1.size = H.size → (∀ q, q ≠ a → H1[q]? = H[q]?) → W p l e R s m args below meth c H1 (locs ++ [⟨a, f.slot⟩]) k n Q (F0 m (pc + 3) ls st) := by
    intro H1 e1 e2 e3
    refine kk H1 _ ls (e2.trans hz) (hR.put (hR a _ ha).1 ⟨_, hc, ?_⟩ e3) (hS.put e2 e3 (hR a _ ha).1) hl
    rw [hsl] at e1
    exact t_OB.to (V := updV (vp_V fs) kf v) ⟨_, e1, q2, q3, t_set q4 hap hk v⟩ (fun j _ => vp_updV_set (Nat.le_of_ble_eq_true hlen) v j)
  rcases hfin with hfin | ⟨hfin, hin2, hdecl⟩
  · have hlay := hts _ (hin _ (u_in_lay hk))
    unfold u_lay at hlay
    rw [if_neg (by rw [hfin]; decide)] at hlay
    have h6 := u_store hfc hkC hkind hlay hi hd hn hfit
    exact W.putK hx hb (f := f) ⟨hown, hts _ hlink, ⟨_, _, _, hsame _ hi⟩, hst⟩ (by rw [q2]; exact h6) q1 q3 (by rw [hsl]; exact k2_hasslot (q4 kf hk)) rfl rfl d key
  · have hlay := hts _ (hin _ (u_in_lay hk))
    unfold u_lay at hlay
    rw [if_pos hfin] at hlay
    have hcf : m.cls = cf := by
      obtain ⟨_, _, c', _, _, _, -, -, hf', -, -, -, hown2, -⟩ := Cond.laysFinal_spec hlay
      have e1 : c' = cf := by have := hi.symm.trans hf'; simp at this; exact this.1.symm
      rw [hdecl] at hown2
      rw [← e1]; exact Option.some.inj (hown.symm.trans hown2)
    have h6 := u_fits hfc hkC hkind (Or.inr hlay) hi hd hn hfit
    exact W.putFinK hx hb hown (hts _ hlink) (hsame _ hi) hst hcf (hnm.trans hin2) (by rw [q2]; exact h6) q1 q3 (by rw [hsl]; exact k2_hasslot (q4 kf hk)) rfl rfl d key
/-- a place of an array: the index i is the number j, and lies in it -/
def xI (i : Int32) (j N : Nat) : Prop := ¬ i < 0 ∧ i.toNatClampNeg = j ∧ j < N
theorem xI_n {j N : Nat} (hj : j < N) (hN : N < 2 ^ 31) : xI (nI j) j N := ⟨nI_pos (by omega), nI_clamp (by omega), hj⟩
theorem xI_e {i : Int32} {j N : Nat} (e : i = nI j) (hj : j < N) (hN : N < 2 ^ 31) : xI i j N := e ▸ xI_n hj hN
theorem xI_v {i : Int32} {N : Nat} (h0 : ¬ i < 0) (h1 : i.toNatClampNeg < N) : xI i i.toNatClampNeg N := ⟨h0, rfl, h1⟩
theorem xI.in {i : Int32} {j N : Nat} (h : xI i j N) : vp_in i N := fun q => q.elim h.1 (fun q => by have := h.2.1; have := h.2.2; omega)
theorem xr_iald (X : xX Γ Ω cc nL own nm ret rf rl rc rs) {i : Int32} {j a N : Nat} {f : Nat → Int32} (ha : h a = some (.inl (.int, N, .inl f))) (hi : xI i j N) (d : decode cc pc = .ok (.iaload, 1)) (kk : xG Γ Ω nL Q (pc + 1) lv (.int (f j) :: st) h sz k n) : xG Γ Ω nL Q (pc) lv (.int i :: .ref a :: st) h sz k n := by
  obtain ⟨p, l, e, R, s, m, args, below, meth, c⟩ := Γ
  obtain ⟨hx, hb, hml, hown, hts, hK, hO, hV, hbs, hlk, hnm, hrt, hRm⟩ := X
  intro H locs ls hz hR hS hl
  obtain ⟨-, cA, hA, -, hc⟩ := hR a _ ha
  obtain rfl := hi.2.1
  exact W.iald (v := .int (f i.toNatClampNeg)) hx hb hc (hA N (fun j => .int (f j))) (fun q => by cases q) (by show ¬ (i < 0 ∨ (arrV _ _ _).slots.size ≤ _); rw [arrV_size]; exact hi.in) (by show (arrV _ _ _).slots[_]? = _; rw [arrV_read _ _ hi.2.2]) rfl rfl d (kk H locs ls hz hR hS hl)
theorem xr_bald (X : xX Γ Ω cc nL own nm ret rf rl rc rs) {i : Int32} {j a N : Nat} {f : Nat → Int32} (ha : h a = some (.inl (.byte, N, .inl f))) (hi : xI i j N) (d : decode cc pc = .ok (.baload, 1)) (kk : xG Γ Ω nL Q (pc + 1) lv (.int (f j) :: st) h sz k n) : xG Γ Ω nL Q (pc) lv (.int i :: .ref a :: st) h sz k n := by
  obtain ⟨p, l, e, R, s, m, args, below, meth, c⟩ := Γ
  obtain ⟨hx, hb, hml, hown, hts, hK, hO, hV, hbs, hlk, hnm, hrt, hRm⟩ := X
  intro H locs ls hz hR hS hl
  obtain ⟨-, cA, hA, -, hc⟩ := hR a _ ha
  obtain rfl := hi.2.1
  exact W.bald (v := .int (f i.toNatClampNeg)) hx hb hc (hA N (fun j => .int (f j))) (fun q => by cases q) (by show ¬ (i < 0 ∨ (arrV _ _ _).slots.size ≤ _); rw [arrV_size]; exact hi.in) (by show (arrV _ _ _).slots[_]? = _; rw [arrV_read _ _ hi.2.2]) rfl rfl d (kk H locs ls hz hR hS hl)
theorem xr_zald (X : xX Γ Ω cc nL own nm ret rf rl rc rs) {i : Int32} {j a N : Nat} {f : Nat → Int32} (ha : h a = some (.inl (.boolean, N, .inl f))) (hi : xI i j N) (d : decode cc pc = .ok (.baload, 1)) (kk : xG Γ Ω nL Q (pc + 1) lv (.int (f j) :: st) h sz k n) : xG Γ Ω nL Q (pc) lv (.int i :: .ref a :: st) h sz k n := by
  obtain ⟨p, l, e, R, s, m, args, below, meth, c⟩ := Γ
  obtain ⟨hx, hb, hml, hown, hts, hK, hO, hV, hbs, hlk, hnm, hrt, hRm⟩ := X
  intro H locs ls hz hR hS hl
  obtain ⟨-, cA, hA, -, hc⟩ := hR a _ ha
  obtain rfl := hi.2.1
  exact W.zald (v := .int (f i.toNatClampNeg)) hx hb hc (hA N (fun j => .int (f j))) (fun q => by cases q) (by show ¬ (i < 0 ∨ (arrV _ _ _).slots.size ≤ _); rw [arrV_size]; exact hi.in) (by show (arrV _ _ _).slots[_]? = _; rw [arrV_read _ _ hi.2.2]) rfl rfl d (kk H locs ls hz hR hS hl)
theorem xr_iast (X : xX Γ Ω cc nL own nm ret rf rl rc rs) {i x : Int32} {j a N : Nat} {f : Nat → Int32} (ha : h a = some (.inl (.int, N, .inl f))) (hi : xI i j N) (d : decode cc pc = .ok (.iastore, 1)) (kk : xG Γ Ω nL Q (pc + 1) lv (st) (xu h a (.inl (.int, N, .inl (upd f j x)))) sz k n) : xG Γ Ω nL Q (pc) lv (.int x :: .int i :: .ref a :: st) h sz k n := by
  obtain ⟨p, l, e, R, s, m, args, below, meth, c⟩ := Γ
  obtain ⟨hx, hb, hml, hown, hts, hK, hO, hV, hbs, hlk, hnm, hrt, hRm⟩ := X
  intro H locs ls hz hR hS hl
  obtain ⟨hba, cA, hA, hA2, hc⟩ := hR a _ ha
  obtain rfl := hi.2.1
  refine W.iast hx hb hc (hA N (fun j => .int (f j))) (fun q => by cases q) (by show ¬ (i < 0 ∨ (arrV _ _ _).slots.size ≤ _); rw [arrV_size]; exact hi.in) rfl rfl d fun H1 e z oq => ?_
  refine kk H1 _ ls (z.trans hz) (hR.put hba ⟨cA, hA, hA2, ?_⟩ oq) (hS.put z oq hba) hl
  show H1[a]? = some (vp_cell _ _)
  rw [e]
  rw [vp_cell_i, vp_cell_i, arrV_store]
  congr 2
  funext q
  by_cases hq : q = i.toNatClampNeg
  · subst hq
    simp [updV, upd, vp_nar]
    try rfl
  · simp [updV, upd, hq]
theorem xr_bast (X : xX Γ Ω cc nL own nm ret rf rl rc rs) {i x : Int32} {j a N : Nat} {f : Nat → Int32} (ha : h a = some (.inl (.byte, N, .inl f))) (hi : xI i j N) (d : decode cc pc = .ok (.bastore, 1)) (kk : xG Γ Ω nL Q (pc + 1) lv (st) (xu h a (.inl (.byte, N, .inl (upd f j (vp_nar .byte x))))) sz k n) : xG Γ Ω nL Q (pc) lv (.int x :: .int i :: .ref a :: st) h sz k n := by
  obtain ⟨p, l, e, R, s, m, args, below, meth, c⟩ := Γ
  obtain ⟨hx, hb, hml, hown, hts, hK, hO, hV, hbs, hlk, hnm, hrt, hRm⟩ := X
  intro H locs ls hz hR hS hl
  obtain ⟨hba, cA, hA, hA2, hc⟩ := hR a _ ha
  obtain rfl := hi.2.1
  refine W.bast hx hb hc (hA N (fun j => .int (f j))) (fun q => by cases q) (by show ¬ (i < 0 ∨ (arrV _ _ _).slots.size ≤ _); rw [arrV_size]; exact hi.in) rfl rfl d fun H1 e z oq => ?_
  refine kk H1 _ ls (z.trans hz) (hR.put hba ⟨cA, hA, hA2, ?_⟩ oq) (hS.put z oq hba) hl
  show H1[a]? = some (vp_cell _ _)
  rw [e]
  rw [vp_cell_i, vp_cell_i, arrV_store]
  congr 2
  funext q
  by_cases hq : q = i.toNatClampNeg
  · subst hq
    simp [updV, upd, vp_nar]
    try rfl
  · simp [updV, upd, hq]
theorem xr_zast (X : xX Γ Ω cc nL own nm ret rf rl rc rs) {i x : Int32} {j a N : Nat} {f : Nat → Int32} (ha : h a = some (.inl (.boolean, N, .inl f))) (hi : xI i j N) (d : decode cc pc = .ok (.bastore, 1)) (kk : xG Γ Ω nL Q (pc + 1) lv (st) (xu h a (.inl (.boolean, N, .inl (upd f j (vp_nar .boolean x))))) sz k n) : xG Γ Ω nL Q (pc) lv (.int x :: .int i :: .ref a :: st) h sz k n := by
  obtain ⟨p, l, e, R, s, m, args, below, meth, c⟩ := Γ
  obtain ⟨hx, hb, hml, hown, hts, hK, hO, hV, hbs, hlk, hnm, hrt, hRm⟩ := X
  intro H locs ls hz hR hS hl
  obtain ⟨hba, cA, hA, hA2, hc⟩ := hR a _ ha
  obtain rfl := hi.2.1
  refine W.zast hx hb hc (hA N (fun j => .int (f j))) (fun q => by cases q) (by show ¬ (i < 0 ∨ (arrV _ _ _).slots.size ≤ _); rw [arrV_size]; exact hi.in) rfl rfl d fun H1 e z oq => ?_
  refine kk H1 _ ls (z.trans hz) (hR.put hba ⟨cA, hA, hA2, ?_⟩ oq) (hS.put z oq hba) hl
  show H1[a]? = some (vp_cell _ _)
  rw [e]
  rw [vp_cell_i, vp_cell_i, arrV_store]
  congr 2
  funext q
  by_cases hq : q = i.toNatClampNeg
  · subst hq
    simp [updV, upd, vp_nar]
    try rfl
  · simp [updV, upd, hq]
theorem xr_alen (X : xX Γ Ω cc nL own nm ret rf rl rc rs) {a : Nat} {ty : FieldType} {x : vp_A} {v : Int32} (ha : h a = some (.inl (ty, x))) (hv : nI x.1 = v) (d : decode cc pc = .ok (.arraylength, 1)) (kk : xG Γ Ω nL Q (pc + 1) lv (.int v :: st) h sz k n) : xG Γ Ω nL Q (pc) lv (.ref a :: st) h sz k n := by
  obtain ⟨p, l, e, R, s, m, args, below, meth, c⟩ := Γ
  obtain ⟨hx, hb, hml, hown, hts, hK, hO, hV, hbs, hlk, hnm, hrt, hRm⟩ := X
  intro H locs ls hz hR hS hl
  obtain ⟨hba, cA, hA, hA2, hc⟩ := hR a _ ha
  subst hv
  have kk2 := kk H locs ls hz hR hS hl
  obtain ⟨n0, f | f | f | f | f⟩ := x
  · exact W.alen (n := Int32.ofNat n0) hx hb hc (hA n0 (fun j => .int (f j))) (by rw [vp_cell_i, arrV_size] <;> rfl) rfl rfl d kk2
  · exact W.alen (n := Int32.ofNat n0) hx hb hc (hA n0 (fun j => .long (f j))) (by rw [vp_cell_l, arrV_size] <;> rfl) rfl rfl d kk2
  · exact W.alen (n := Int32.ofNat n0) hx hb hc (hA n0 (fun j => .float (f j))) (by rw [vp_cell_f, arrV_size] <;> rfl) rfl rfl d kk2
  · exact W.alen (n := Int32.ofNat n0) hx hb hc (hA n0 (fun j => .double (f j))) (by rw [vp_cell_d, arrV_size] <;> rfl) rfl rfl d kk2
  · exact W.alen (n := Int32.ofNat n0) hx hb hc (hA n0 (fun j => va_rf (f j))) (by rw [vp_cell_q, arrV_size] <;> rfl) rfl rfl d kk2
theorem xr_aald (X : xX Γ Ω cc nL own nm ret rf rl rc rs) {i : Int32} {j a N : Nat} {ty : FieldType} {f : Nat → Option Nat} {v : Value} (ha : h a = some (.inl (ty, N, .inr (.inr (.inr (.inr f)))))) (hty : ty.isReference = true) (hi : xI i j N) (hv : va_rf (f j) = v) (d : decode cc pc = .ok (.aaload, 1)) (kk : xG Γ Ω nL Q (pc + 1) lv (v :: st) h sz k n) : xG Γ Ω nL Q (pc) lv (.int i :: .ref a :: st) h sz k n := by
  obtain ⟨p, l, e, R, s, m, args, below, meth, c⟩ := Γ
  obtain ⟨hx, hb, hml, hown, hts, hK, hO, hV, hbs, hlk, hnm, hrt, hRm⟩ := X
  intro H locs ls hz hR hS hl
  obtain ⟨-, cA, hA, -, hc⟩ := hR a _ ha
  obtain rfl := hi.2.1
  subst hv
  exact W.aald (v := va_rf (f i.toNatClampNeg)) (ty := ty) hx hb hc (hA N (fun j => va_rf (f j))) hty (fun q => by cases q) (by show ¬ (i < 0 ∨ (arrV _ _ _).slots.size ≤ _); rw [arrV_size]; exact hi.in) (by show (arrV _ _ _).slots[_]? = _; rw [arrV_read _ _ hi.2.2]) rfl rfl d (kk H locs ls hz hR hS hl)
theorem xr_new (X : xX Γ Ω cc nL own nm ret rf rl rc rs) {index ci N : Nat} {C : String} {T : u_T} {fs : List Value} (tys : Nat → FieldType) (hc : vwCl[ci]? = some (C, T, N)) (hin : ∀ w ∈ u_ws C T N, w ∈ x_big) (hty : ∀ k, k < N → parseFieldDescriptor (T k).2.2.1 = some (tys k)) (hcl : Cond.classLink own index C ∈ x_big) (hins : Cond.instantiable C N ∈ x_big) (hini : Cond.initialized C ∈ x_big) (hfs : (List.range N).map (fun j => defaultValue (tys j)) = fs) (hcells : Nat.ble (k + 1) rc = true) (hslots : Nat.ble (n + N) rs = true) (d : decode cc pc = .ok (.new index, 3)) (kk : xG Γ Ω nL Q (pc + 3) lv (.ref sz :: st) (xu h sz (.inr (ci, fs))) (sz + 1) (k + 1) (n + N)) : xG Γ Ω nL Q (pc) lv (st) h sz k n := by
  obtain ⟨p, l, e, R, s, m, args, below, meth, c⟩ := Γ
  obtain ⟨hx, hb, hml, hown, hts, hK, hO, hV, hbs, hlk, hnm, hrt, hRm⟩ := X
  intro H locs ls hz hR hS hl
  subst hRm
  subst hz
  have hKn := hK.1 ci _ hc
  refine W.newcK hx hb hown (hts _ hcl) (hts _ hins) (hts _ hini) rfl d (Nat.le_of_ble_eq_true hcells) (Nat.le_of_ble_eq_true hslots) hKn.2.1 rfl fun H1 kC hkC e1 z1 o1 => ?_
  refine kk H1 locs ls z1 (hR.new (Nat.le_trans hbs hS.1) ⟨_, hc, (u_born tys hts hin hKn hkC e1 hty).to ?_⟩ o1) ⟨Nat.le_trans hS.1 (by omega), fun x h1 h2 => (o1 x (Nat.lt_of_lt_of_le h1 hS.1)).trans (hS.2.1 x h1 h2), hS.2.2⟩ hl
  intro j hj
  rw [← hfs]
  simp [vp_V, hj]
theorem xr_newa_i (X : xX Γ Ω cc nL own nm ret rf rl rc rs) {i : Int32} {N : Nat} (harr : Cond.arrayClass .int ∈ x_big) (hi : i = nI N) (hN : Nat.ble N 100000 = true) (hcells : Nat.ble (k + 1) rc = true) (hslots : Nat.ble (n + N) rs = true) (d : decode cc pc = .ok (.newarray .int, 2)) (kk : xG Γ Ω nL Q (pc + 2) lv (.ref sz :: st) (xu h sz (.inl (.int, N, .inl (fun _ => 0)))) (sz + 1) (k + 1) (n + N)) : xG Γ Ω nL Q (pc) lv (.int i :: st) h sz k n := by
  obtain ⟨p, l, e, R, s, m, args, below, meth, c⟩ := Γ
  obtain ⟨hx, hb, hml, hown, hts, hK, hO, hV, hbs, hlk, hnm, hrt, hRm⟩ := X
  intro H locs ls hz hR hS hl
  subst hRm
  subst hz
  subst hi
  have hN' := Nat.le_of_ble_eq_true hN
  refine va_newaK (atype := .int) hx hb (hts _ harr) rfl d rfl (nI_pos (by omega)) (nI_clamp (by omega)) (by simp [newarray.typeOf, componentBytes]; omega) (Nat.le_of_ble_eq_true hcells) (Nat.le_of_ble_eq_true hslots) rfl fun H1 cA e1 z1 o1 hAr hNm => ?_
  exact kk H1 locs ls z1 (hR.new (Nat.le_trans hbs hS.1) ⟨cA, hAr, hNm, e1⟩ o1) ⟨Nat.le_trans hS.1 (by omega), fun x h1 h2 => (o1 x (Nat.lt_of_lt_of_le h1 hS.1)).trans (hS.2.1 x h1 h2), hS.2.2⟩ hl
theorem xr_newa_b (X : xX Γ Ω cc nL own nm ret rf rl rc rs) {i : Int32} {N : Nat} (harr : Cond.arrayClass .byte ∈ x_big) (hi : i = nI N) (hN : Nat.ble N 100000 = true) (hcells : Nat.ble (k + 1) rc = true) (hslots : Nat.ble (n + N) rs = true) (d : decode cc pc = .ok (.newarray .byte, 2)) (kk : xG Γ Ω nL Q (pc + 2) lv (.ref sz :: st) (xu h sz (.inl (.byte, N, .inl (fun _ => 0)))) (sz + 1) (k + 1) (n + N)) : xG Γ Ω nL Q (pc) lv (.int i :: st) h sz k n := by
  obtain ⟨p, l, e, R, s, m, args, below, meth, c⟩ := Γ
  obtain ⟨hx, hb, hml, hown, hts, hK, hO, hV, hbs, hlk, hnm, hrt, hRm⟩ := X
  intro H locs ls hz hR hS hl
  subst hRm
  subst hz
  subst hi
  have hN' := Nat.le_of_ble_eq_true hN
  refine va_newaK (atype := .byte) hx hb (hts _ harr) rfl d rfl (nI_pos (by omega)) (nI_clamp (by omega)) (by simp [newarray.typeOf, componentBytes]; omega) (Nat.le_of_ble_eq_true hcells) (Nat.le_of_ble_eq_true hslots) rfl fun H1 cA e1 z1 o1 hAr hNm => ?_
  exact kk H1 locs ls z1 (hR.new (Nat.le_trans hbs hS.1) ⟨cA, hAr, hNm, e1⟩ o1) ⟨Nat.le_trans hS.1 (by omega), fun x h1 h2 => (o1 x (Nat.lt_of_lt_of_le h1 hS.1)).trans (hS.2.1 x h1 h2), hS.2.2⟩ hl
theorem xr_newa_z (X : xX Γ Ω cc nL own nm ret rf rl rc rs) {i : Int32} {N : Nat} (harr : Cond.arrayClass .boolean ∈ x_big) (hi : i = nI N) (hN : Nat.ble N 100000 = true) (hcells : Nat.ble (k + 1) rc = true) (hslots : Nat.ble (n + N) rs = true) (d : decode cc pc = .ok (.newarray .boolean, 2)) (kk : xG Γ Ω nL Q (pc + 2) lv (.ref sz :: st) (xu h sz (.inl (.boolean, N, .inl (fun _ => 0)))) (sz + 1) (k + 1) (n + N)) : xG Γ Ω nL Q (pc) lv (.int i :: st) h sz k n := by
  obtain ⟨p, l, e, R, s, m, args, below, meth, c⟩ := Γ
  obtain ⟨hx, hb, hml, hown, hts, hK, hO, hV, hbs, hlk, hnm, hrt, hRm⟩ := X
  intro H locs ls hz hR hS hl
  subst hRm
  subst hz
  subst hi
  have hN' := Nat.le_of_ble_eq_true hN
  refine va_newaK (atype := .boolean) hx hb (hts _ harr) rfl d rfl (nI_pos (by omega)) (nI_clamp (by omega)) (by simp [newarray.typeOf, componentBytes]; omega) (Nat.le_of_ble_eq_true hcells) (Nat.le_of_ble_eq_true hslots) rfl fun H1 cA e1 z1 o1 hAr hNm => ?_
  exact kk H1 locs ls z1 (hR.new (Nat.le_trans hbs hS.1) ⟨cA, hAr, hNm, e1⟩ o1) ⟨Nat.le_trans hS.1 (by omega), fun x h1 h2 => (o1 x (Nat.lt_of_lt_of_le h1 hS.1)).trans (hS.2.1 x h1 h2), hS.2.2⟩ hl
theorem xr_anew (X : xX Γ Ω cc nL own nm ret rf rl rc rs) {C : String} {i : Int32} {index N : Nat} (hao : C ∈ x_ao) (hcl : Cond.classLink own index C ∈ x_big) (hi : i = nI N) (hN : Nat.ble N 100000 = true) (hcells : Nat.ble (k + 1) rc = true) (hslots : Nat.ble (n + N) rs = true) (d : decode cc pc = .ok (.anewarray index, 3)) (kk : xG Γ Ω nL Q (pc + 3) lv (.ref sz :: st) (xu h sz (.inl (.object C, N, .inr (.inr (.inr (.inr (fun _ => none))))))) (sz + 1) (k + 1) (n + N)) : xG Γ Ω nL Q (pc) lv (.int i :: st) h sz k n := by
  obtain ⟨p, l, e, R, s, m, args, below, meth, c⟩ := Γ
  obtain ⟨hx, hb, hml, hown, hts, hK, hO, hV, hbs, hlk, hnm, hrt, hRm⟩ := X
  intro H locs ls hz hR hS hl
  subst hRm
  subst hz
  subst hi
  have hN' := Nat.le_of_ble_eq_true hN
  have hcl' : (nI N).toNatClampNeg = N := nI_clamp (by omega)
  refine W.anew hx hb hown (hts _ hcl) (va_AO.use (hO.2.2.2.2.1 C hao)) rfl d rfl (nI_pos (by omega)) (by rw [hcl']; omega) (Nat.le_of_ble_eq_true hcells) (by rw [hcl']; exact Nat.le_of_ble_eq_true hslots) fun cA kA comp f1 f2 f3 f4 => ?_
  rw [hcl']
  generalize hH1 : H.push ({ cls := cA, slots := Array.replicate N .null, vm := .none } : Cell) = H1
  have z1 : H1.size = H.size + 1 := by rw [← hH1, Array.size_push]
  have e1 : H1[H.size]? = some (arrV cA N (fun _ => .null)) := by rw [← hH1, Array.getElem?_push_size, ← arrV_new]
  have o1 : ∀ q : Nat, q < H.size → H1[q]? = H[q]? := fun q hq => by rw [← hH1, Array.getElem?_push, if_neg (Nat.ne_of_lt hq)]
  have hAr : ArrOfT s cA (.object C) := fun N z => ⟨(fun k h => by cases h), kA, f2, comp, f3⟩
  exact kk H1 locs ls z1 (hR.new (Nat.le_trans hbs hS.1) ⟨cA, hAr, ⟨kA, comp, f2, f3, f4, f1⟩, e1⟩ o1) ⟨Nat.le_trans hS.1 (by omega), fun x h1 h2 => (o1 x (Nat.lt_of_lt_of_le h1 hS.1)).trans (hS.2.1 x h1 h2), hS.2.2⟩ hl
theorem xr_aast (X : xX Γ Ω cc nL own nm ret rf rl rc rs) {C : String} {i : Int32} {j a N v ci : Nat} {f : Nat → Option Nat} {vs : List Value} {r : vw_C} (ha : h a = some (.inl (.object C, N, .inr (.inr (.inr (.inr f)))))) (hv : h v = some (.inr (ci, vs))) (hc : vwCl[ci]? = some r) (hcast : r.1 = C ∨ (r.1, C) ∈ x_cast) (hi : xI i j N) (d : decode cc pc = .ok (.aastore, 1)) (kk : xG Γ Ω nL Q (pc + 1) lv (st) (xu h a (.inl (.object C, N, .inr (.inr (.inr (.inr (va_up f j (some v)))))))) sz k n) : xG Γ Ω nL Q (pc) lv (.ref v :: .int i :: .ref a :: st) h sz k n := by
  obtain ⟨p, l, e, R, s, m, args, below, meth, c⟩ := Γ
  obtain ⟨hx, hb, hml, hown, hts, hK, hO, hV, hbs, hlk, hnm, hrt, hRm⟩ := X
  intro H locs ls hz hR hS hl
  obtain ⟨hba, cA, hA, hA2, hce⟩ := hR a _ ha
  obtain ⟨-, r', hr', cellV, g1, g2, g3, -⟩ := hR v _ hv
  obtain rfl := hi.2.1
  obtain ⟨kA, comp, k1, k2, k3, k4⟩ := id hA2
  have hcls := (hK.1 ci r hc).2
  obtain ⟨kC, hkC, -⟩ := id hcls.2
  have hasg : s.vm.assignable cellV.cls comp = true := by
    rcases hcast with e | e
    · subst e
      have hcomp : comp = Ω.1.1 ci := Option.some.inj (k3.symm.trans hcls.1)
      subst hcomp
      rw [g2]
      exact va_assign hcls
    · obtain ⟨c0, t0, f1, f2, f3⟩ := Cond.castable_spec (va_Nw.use (A := args) rfl (hO.2.1 _ e))
      have e1 : comp = t0 := Option.some.inj (k3.symm.trans f2)
      have e2 : Ω.1.1 ci = c0 := Option.some.inj (hcls.1.symm.trans f1)
      rw [g2, e1, e2]
      exact f3
  obtain ⟨kcomp, hkcomp, -⟩ := Vm.findClass_spec k3
  refine W.aast hx hb hce (fun q h => by cases h) (fun h => by cases h) k1 k2 rfl hkcomp ⟨hi.1, by show _ < (arrV _ _ _).slots.size; rw [arrV_size]; exact hi.2.2⟩ g1 (fun q h => by rw [g3] at h; cases h) (by rw [g2]; exact hkC) hasg rfl rfl d fun H1 e z oq => ?_
  refine kk H1 _ ls (z.trans hz) (hR.put hba ⟨cA, hA, hA2, ?_⟩ oq) (hS.put z oq hba) hl
  show H1[a]? = some (vp_cell _ _)
  rw [e]
  rw [vp_cell_q, vp_cell_q, arrV_store]
  congr 2
  funext q
  by_cases hq : q = i.toNatClampNeg
  · subst hq
    simp [updV, va_up, va_rf]
  · simp [updV, va_up, hq]
theorem xrecv {Ω : xW} {s : State} {h : xH} {H : Heap} {a ci : Nat} {fs : List Value} {r : vw_C} (hK : va_K Ω.1 vwCl [] s) (hR : xR Ω s h H) (ha : h a = some (.inr (ci, fs))) (hc : vwCl[ci]? = some r) : ∃ cell : Cell, H[a]? = some cell ∧ cell.vm.isStatics = false ∧ s.vm.findClass r.1 = some cell.cls := by
  obtain ⟨-, r', h1, cell, g1, g2, g3, -⟩ := hR a _ ha
  exact ⟨cell, g1, by rw [g3]; rfl, by rw [g2]; exact (hK.1 ci r hc).2.1⟩
theorem xr_instY (X : xX Γ Ω cc nL own nm ret rf rl rc rs) {C nm2 : String} {index a ci : Nat} {fs : List Value} {r : vw_C} (ha : h a = some (.inr (ci, fs))) (hc : vwCl[ci]? = some r) (hC : r.1 = C) (hcl : Cond.classLink own index nm2 ∈ x_big) (hcast : C = nm2 ∨ (C, nm2) ∈ x_cast) (d : decode cc pc = .ok (.instanceof index, 3)) (kk : xG Γ Ω nL Q (pc + 3) lv (.int 1 :: st) h sz k n) : xG Γ Ω nL Q (pc) lv (.ref a :: st) h sz k n := by
  obtain ⟨p, l, e, R, s, m, args, below, meth, c⟩ := Γ
  obtain ⟨hx, hb, hml, hown, hts, hK, hO, hV, hbs, hlk, hnm, hrt, hRm⟩ := X
  intro H locs ls hz hR hS hl
  subst hC
  rcases hcast with e | e
  · subst e
    exact va_instS hx hb hown (hts _ hcl) (hK.1 ci r hc).2 (xrecv hK hR ha hc) d (kk H locs ls hz hR hS hl)
  · exact va_instY hx hb hown (hts _ hcl) (hO.2.1 _ e) (xrecv hK hR ha hc) d (kk H locs ls hz hR hS hl)
theorem xr_instN (X : xX Γ Ω cc nL own nm ret rf rl rc rs) {C nm2 : String} {index a ci : Nat} {fs : List Value} {r : vw_C} (ha : h a = some (.inr (ci, fs))) (hc : vwCl[ci]? = some r) (hC : r.1 = C) (hcl : Cond.classLink own index nm2 ∈ x_big) (hcast : (C, nm2) ∈ x_nc) (d : decode cc pc = .ok (.instanceof index, 3)) (kk : xG Γ Ω nL Q (pc + 3) lv (.int 0 :: st) h sz k n) : xG Γ Ω nL Q (pc) lv (.ref a :: st) h sz k n := by
  obtain ⟨p, l, e, R, s, m, args, below, meth, c⟩ := Γ
  obtain ⟨hx, hb, hml, hown, hts, hK, hO, hV, hbs, hlk, hnm, hrt, hRm⟩ := X
  intro H locs ls hz hR hS hl
  subst hC
  exact va_instNo hx hb hown (hts _ hcl) (hO.2.2.2.1 _ hcast) (xrecv hK hR ha hc) d (kk H locs ls hz hR hS hl)
theorem xr_castS (X : xX Γ Ω cc nL own nm ret rf rl rc rs) {C nm2 : String} {index a ci : Nat} {fs : List Value} {r : vw_C} (ha : h a = some (.inr (ci, fs))) (hc : vwCl[ci]? = some r) (hC : r.1 = C) (hcl : Cond.classLink own index nm2 ∈ x_big) (hcast : C = nm2) (d : decode cc pc = .ok (.checkcast index, 3)) (kk : xG Γ Ω nL Q (pc + 3) lv (.ref a :: st) h sz k n) : xG Γ Ω nL Q (pc) lv (.ref a :: st) h sz k n := by
  obtain ⟨p, l, e, R, s, m, args, below, meth, c⟩ := Γ
  obtain ⟨hx, hb, hml, hown, hts, hK, hO, hV, hbs, hlk, hnm, hrt, hRm⟩ := X
  intro H locs ls hz hR hS hl
  subst hC
  subst hcast
  exact va_castS hx hb hown (hts _ hcl) (hK.1 ci r hc).2 (xrecv hK hR ha hc) d (kk H locs ls hz hR hS hl)
theorem xr_instNull (X : xX Γ Ω cc nL own nm ret rf rl rc rs) {index : Nat} (d : decode cc pc = .ok (.instanceof index, 3)) (kk : xG Γ Ω nL Q (pc + 3) lv (.int 0 :: st) h sz k n) : xG Γ Ω nL Q (pc) lv (.null :: st) h sz k n := by
  obtain ⟨p, l, e, R, s, m, args, below, meth, c⟩ := Γ
  obtain ⟨hx, hb, hml, hown, hts, hK, hO, hV, hbs, hlk, hnm, hrt, hRm⟩ := X
  intro H locs ls hz hR hS hl
  exact lv_instN hx hb d (kk H locs ls hz hR hS hl)
theorem xr_objInit (X : xX Γ Ω cc nL own nm ret rf rl rc rs) {idx a : Nat} (hlink : Cond.methodLink own idx objectInit ∈ x_big) (hrf : Nat.ble 1 rf = true) (hrl : Nat.ble 20 rl = true) (hcat : Nat.ble (st.map fun v => v.category).sum 8 = true) (d : decode cc pc = .ok (.invokespecial idx, 3)) (kk : xG Γ Ω nL Q (pc + 3) lv (st) h sz k n) : xG Γ Ω nL Q (pc) lv (.ref a :: st) h sz k n := by
  obtain ⟨p, l, e, R, s, m, args, below, meth, c⟩ := Γ
  obtain ⟨hx, hb, hml, hown, hts, hK, hO, hV, hbs, hlk, hnm, hrt, hRm⟩ := X
  intro H locs ls hz hR hS hl
  subst hRm
  refine W.objInit hx hb hown (hts _ hlink) (hts _ xk_oi) (hts _ xk_oc) rfl (by rw [hml]; exact hl.1) rfl d (Nat.le_of_ble_eq_true hrf) ?_ (kk H locs ls hz hR hS hl)
  have h1 := Nat.le_of_ble_eq_true hrl
  have h2 := Nat.le_of_ble_eq_true hcat
  show 2 * 0 + (st.map fun v => v.category).sum + 12 ≤ rl
  omega
/-- a call's words: how the call site links to y, and y's own code -/
def xCw (y : MethodName) (cc : ByteArray) (maxL : Nat) (ret : Option FieldType) (np : Nat) : Prop := Cond.code y cc maxL ret ∈ x_big ∧ Cond.initialized y.cls ∈ x_big ∧ y.cls ≠ "java/lang/invoke/MethodHandle" ∧ y.cls ≠ "java/lang/invoke/VarHandle" ∧ (parseMethodDescriptor y.desc).map (fun d => d.parameters.length) = some np
theorem xPre.blind {Ω : xW} {av : List Value} {h : xH} {sz : Nat} : FrameBlind (xPre Ω av h sz) := fun a U g mk q => by
  obtain ⟨q0, q1, q2, q3, q4, q5, q6⟩ := q
  exact ⟨q0, q1, q2, xR.moved (u := U) (U := U.calling g mk a) (Vm.Alike.refl U.vm) q3, va_K.moved (u := U) (U := U.calling g mk a) (Vm.Alike.refl U.vm) q4, xO.same (u := U) (U := U.calling g mk a) rfl q5, xV.moved (u := U) (U := U.calling g mk a) (Vm.Alike.refl U.vm) q6⟩
theorem xPre.at {Ω : xW} {As : List Value} {h : xH} {sz : Nat} {s : State} {H : Heap} {locs : List Loc} (hz : H.size = sz) (hR : xR Ω s h H) (hS : va_S (fun q => Ω.2.1 ≤ q) s.heap H locs) (hK : va_K Ω.1 vwCl [] s) (hO : xO Ω s) (hV : xV Ω s s.heap) (hbs : Ω.2.1 ≤ s.heap.size) : ∀ U : State, U.heap = H → s.WarmedH U.vm → xPre Ω As h sz As.toArray U := fun U hU hW =>
  ⟨rfl, by rw [hU]; exact hz, by have := hS.1; omega, by rw [hU]; exact hR.moved hW.alike, va_K.moved hW.alike hK, hO.warm hW, by rw [hU]; exact (hV.kept hS.2.1).moved hW.alike⟩
theorem xRun {p : Program} {l : Launch} {e : Env} {R : Room} {s : State} {m : MethodId} {args : Array Value} {below : List Frame} {meth : Method} {c : Code} {H : Heap} {locs : List Loc} {cells slots mc ms : Nat} {Q : State → Prop} {pc : Nat} {ls : Array Slot} {st0 rest : List Value} {Ω : xW} {r : Option Value} {h' : xH} {sz' : Nat} {a : Array Value}
    (hr : va_Run p l e R s m args below meth c H locs cells slots mc ms (F0 m pc ls st0) rest (xPost Ω r h' sz' a) (fun q => Ω.2.1 ≤ q)) (hS : va_S (fun q => Ω.2.1 ≤ q) s.heap H locs)
    (kk : ∀ (H1 : Heap) (locs1 : List Loc), H1.size = sz' → xR Ω s h' H1 → va_S (fun q => Ω.2.1 ≤ q) s.heap H1 locs1 → W p l e R s m args below meth c H1 locs1 (cells + mc) (slots + ms) Q (F0 m (pc + 3) ls (r.toList ++ rest))) : W p l e R s m args below meth c H locs cells slots Q (F0 m pc ls st0) := by
  intro T hT X
  obtain ⟨v, st₀, t, T', L, h0, X', hL, e1, e2, ⟨hv, hz, hR, hf1, hf2⟩, st⟩ := hr T hT X
  cases hv
  rw [h0] at hf1 hf2
  have hal : t.vm.Alike s.vm := by
    have := X'.warmed.alike
    rw [e2] at this
    exact this.symm
  obtain ⟨t2, a1, b1⟩ := kk T'.heap (locs ++ L) (by rw [e1]; exact hz) (by rw [e1]; exact hR.moved hal)
    ⟨Nat.le_trans hS.1 (by rw [e1]; exact hf1), fun q h1 h2 => by rw [e1, hf2 q (Nat.lt_of_lt_of_le h1 hS.1) h2]; exact hS.2.1 q h1 h2, fun q hq => by
      rcases List.mem_append.mp hq with h | h
      · exact hS.2.2 q h
      · exact hL q h⟩ T' rfl X'
  exact ⟨t2, st t2 a1, b1⟩
theorem xr_callV (X : xX Γ Ω cc nL own nm ret rf rl rc rs) {y : MethodName} {cc' : ByteArray} {maxL np dd mc ms sz' index : Nat} {ret' : Option FieldType} {r : Option Value} {h' : xH} {rest : List Value} {a ci : Nat} {fs : List Value} {rv : vw_C} (ha : h a = some (.inr (ci, fs))) (hc : vwCl[ci]? = some rv) (hlk1 : Cond.methodLink own index y ∈ x_big) (hlk2 : Cond.instanceMethod y ∈ x_big) (hlk3 : Cond.selects rv.1 y y ∈ x_big) (hw : xCw y cc' maxL ret' np) (As : List Value) (hC : xC Γ.2.1 Ω y cc' maxL ret' dd mc ms (.ref a :: As) h sz r h' sz') (hn : As.length = np) (hst : st = As.reverse ++ .ref a :: rest) (hrf : Nat.ble (dd + 1) rf = true) (hrl : Nat.ble (19 + maxL + 35 * dd) rl = true) (hcat : Nat.ble (rest.map fun v => v.category).sum 8 = true) (hcells : Nat.ble (k + mc) rc = true) (hslots : Nat.ble (n + ms) rs = true) (d : decode cc pc = .ok (.invokevirtual index, 3)) (kk : xG Γ Ω nL Q (pc + 3) lv (r.toList ++ rest) h' sz' (k + mc) (n + ms)) : xG Γ Ω nL Q (pc) lv (st) h sz k n := by
  obtain ⟨p, l, e, R, s, m, args, below, meth, c⟩ := Γ
  obtain ⟨hx, hb, hml, hown, hts, hK, hO, hV, hbs, hlk, hnm, hrt, hRm⟩ := X
  intro H locs ls hz hR hS hl
  subst hRm
  subst hst
  have hroom : (xrm dd mc ms).frames + 1 ≤ rf ∧ 8 + (maxL + 11) + (xrm dd mc ms).locals ≤ rl := ⟨Nat.le_of_ble_eq_true hrf, by have := Nat.le_of_ble_eq_true hrl; show 8 + (maxL + 11) + 35 * dd ≤ rl; omega⟩
  refine xRun (va_runV (As := As) (rest := rest) ⟨hx, hb, hml, hown, hts⟩ hC ⟨callB_of (Ts := x_big) (rm := xrm dd mc ms) np hts (x_bigC hw.1) rfl rfl rfl (hts _ hw.2.1) (hts _ hlk1) ⟨hw.2.2.1, hw.2.2.2.1, hw.2.2.2.2⟩ hroom, hts _ hlk2, hts _ hlk3⟩ ⟨xPre.blind, xrecv hK hR ha hc, xPre.at hz hR hS hK hO hV hbs⟩ rfl hn hl.1 rfl (lv_room (Nat.le_of_ble_eq_true hcat)) d ⟨Nat.le_of_ble_eq_true hcells, Nat.le_of_ble_eq_true hslots⟩) hS (fun H1 locs1 e1 e2 e3 => kk H1 locs1 ls e1 e2 e3 hl)

theorem xr_callS (X : xX Γ Ω cc nL own nm ret rf rl rc rs) {y : MethodName} {cc' : ByteArray} {maxL np dd mc ms sz' index : Nat} {ret' : Option FieldType} {r : Option Value} {h' : xH} {rest : List Value}  (hlk1 : Cond.methodLink own index y ∈ x_big) (hlk2 : Cond.static y ∈ x_big) (hw : xCw y cc' maxL ret' np) (As : List Value) (hC : xC Γ.2.1 Ω y cc' maxL ret' dd mc ms (As) h sz r h' sz') (hn : As.length = np) (hst : st = As.reverse ++ rest) (hrf : Nat.ble (dd + 1) rf = true) (hrl : Nat.ble (19 + maxL + 35 * dd) rl = true) (hcat : Nat.ble (rest.map fun v => v.category).sum 8 = true) (hcells : Nat.ble (k + mc) rc = true) (hslots : Nat.ble (n + ms) rs = true) (d : decode cc pc = .ok (.invokestatic index, 3)) (kk : xG Γ Ω nL Q (pc + 3) lv (r.toList ++ rest) h' sz' (k + mc) (n + ms)) : xG Γ Ω nL Q (pc) lv (st) h sz k n := by
  obtain ⟨p, l, e, R, s, m, args, below, meth, c⟩ := Γ
  obtain ⟨hx, hb, hml, hown, hts, hK, hO, hV, hbs, hlk, hnm, hrt, hRm⟩ := X
  intro H locs ls hz hR hS hl
  subst hRm
  subst hst
  have hroom : (xrm dd mc ms).frames + 1 ≤ rf ∧ 8 + (maxL + 11) + (xrm dd mc ms).locals ≤ rl := ⟨Nat.le_of_ble_eq_true hrf, by have := Nat.le_of_ble_eq_true hrl; show 8 + (maxL + 11) + 35 * dd ≤ rl; omega⟩
  refine xRun (va_runS (As := As) (rest := rest) ⟨hx, hb, hml, hown, hts⟩ hC ⟨callB_of (Ts := x_big) (rm := xrm dd mc ms) np hts (x_bigC hw.1) rfl rfl rfl (hts _ hw.2.1) (hts _ hlk1) ⟨hw.2.2.1, hw.2.2.2.1, hw.2.2.2.2⟩ hroom, hts _ hlk2⟩ ⟨xPre.blind, xPre.at hz hR hS hK hO hV hbs⟩ rfl hn hl.1 rfl (lv_room (Nat.le_of_ble_eq_true hcat)) d ⟨Nat.le_of_ble_eq_true hcells, Nat.le_of_ble_eq_true hslots⟩) hS (fun H1 locs1 e1 e2 e3 => kk H1 locs1 ls e1 e2 e3 hl)

theorem xr_callI (X : xX Γ Ω cc nL own nm ret rf rl rc rs) {y : MethodName} {cc' : ByteArray} {maxL np dd mc ms sz' index : Nat} {ret' : Option FieldType} {r : Option Value} {h' : xH} {rest : List Value} {a : Nat} (hlk1 : Cond.methodLink own index y ∈ x_big) (hlk2 : Cond.instanceMethod y ∈ x_big) (hin : y.name = "<init>") (hw : xCw y cc' maxL none np) (As : List Value) (hC : xC Γ.2.1 Ω y cc' maxL none dd mc ms (.ref a :: As) h sz r h' sz') (hn : As.length = np) (hst : st = As.reverse ++ .ref a :: rest) (hrf : Nat.ble (dd + 1) rf = true) (hrl : Nat.ble (19 + maxL + 35 * dd) rl = true) (hcat : Nat.ble (rest.map fun v => v.category).sum 8 = true) (hcells : Nat.ble (k + mc) rc = true) (hslots : Nat.ble (n + ms) rs = true) (d : decode cc pc = .ok (.invokespecial index, 3)) (kk : xG Γ Ω nL Q (pc + 3) lv (r.toList ++ rest) h' sz' (k + mc) (n + ms)) : xG Γ Ω nL Q (pc) lv (st) h sz k n := by
  obtain ⟨p, l, e, R, s, m, args, below, meth, c⟩ := Γ
  obtain ⟨hx, hb, hml, hown, hts, hK, hO, hV, hbs, hlk, hnm, hrt, hRm⟩ := X
  intro H locs ls hz hR hS hl
  subst hRm
  subst hst
  have hroom : (xrm dd mc ms).frames + 1 ≤ rf ∧ 8 + (maxL + 11) + (xrm dd mc ms).locals ≤ rl := ⟨Nat.le_of_ble_eq_true hrf, by have := Nat.le_of_ble_eq_true hrl; show 8 + (maxL + 11) + 35 * dd ≤ rl; omega⟩
  refine xRun (va_runI (As := As) (rest := rest) ⟨hx, hb, hml, hown, hts⟩ hC ⟨callB_of (Ts := x_big) (rm := xrm dd mc ms) np hts (x_bigC hw.1) rfl rfl rfl (hts _ hw.2.1) (hts _ hlk1) ⟨hw.2.2.1, hw.2.2.2.1, hw.2.2.2.2⟩ hroom, hin, hts _ hlk2⟩ ⟨xPre.blind, xPre.at hz hR hS hK hO hV hbs⟩ rfl hn hl.1 rfl (lv_room (Nat.le_of_ble_eq_true hcat)) d ⟨Nat.le_of_ble_eq_true hcells, Nat.le_of_ble_eq_true hslots⟩) hS (fun H1 locs1 e1 e2 e3 => kk H1 locs1 ls e1 e2 e3 hl)

theorem xr_callSN (X : xX Γ Ω cc nL own nm ret rf rl rc rs) {y : MethodName} {cc' : ByteArray} {maxL np dd mc ms sz' index : Nat} {ret' : Option FieldType} {r : Option Value} {h' : xH} {rest : List Value} {host : String} (hlk1 : (own, index, y, host) ∈ x_nM) (hlk2 : Cond.static y ∈ x_big) (hw : xCw y cc' maxL ret' np) (As : List Value) (hC : xC Γ.2.1 Ω y cc' maxL ret' dd mc ms (As) h sz r h' sz') (hn : As.length = np) (hst : st = As.reverse ++ rest) (hrf : Nat.ble (dd + 1) rf = true) (hrl : Nat.ble (19 + maxL + 35 * dd) rl = true) (hcat : Nat.ble (rest.map fun v => v.category).sum 8 = true) (hcells : Nat.ble (k + mc) rc = true) (hslots : Nat.ble (n + ms) rs = true) (d : decode cc pc = .ok (.invokestatic index, 3)) (kk : xG Γ Ω nL Q (pc + 3) lv (r.toList ++ rest) h' sz' (k + mc) (n + ms)) : xG Γ Ω nL Q (pc) lv (st) h sz k n := by
  obtain ⟨p, l, e, R, s, m, args, below, meth, c⟩ := Γ
  obtain ⟨hx, hb, hml, hown, hts, hK, hO, hV, hbs, hlk, hnm, hrt, hRm⟩ := X
  intro H locs ls hz hR hS hl
  subst hRm
  subst hst
  have hroom : (xrm dd mc ms).frames + 1 ≤ rf ∧ 8 + (maxL + 11) + (xrm dd mc ms).locals ≤ rl := ⟨Nat.le_of_ble_eq_true hrf, by have := Nat.le_of_ble_eq_true hrl; show 8 + (maxL + 11) + 35 * dd ≤ rl; omega⟩
  refine xRun (va_runSN (As := As) (rest := rest) ⟨hx, hb, hml, hown, hts⟩ hC ⟨⟨⟨rfl, rfl, hroom.1, hroom.2, pay_in hts (x_bigC hw.1), List.mem_cons_self⟩, hts _ hw.1, hts _ hw.2.1, ⟨hw.2.2.1, hw.2.2.2.1⟩, (fun sig h2 => by have h3 := hw.2.2.2.2; rw [h2] at h3; exact (Option.some.inj h3).symm), va_Nw.use rfl (hO.1 _ hlk1)⟩, hts _ hlk2, trivial⟩ ⟨xPre.blind, xPre.at hz hR hS hK hO hV hbs⟩ rfl hn hl.1 rfl (lv_room (Nat.le_of_ble_eq_true hcat)) d ⟨Nat.le_of_ble_eq_true hcells, Nat.le_of_ble_eq_true hslots⟩) hS (fun H1 locs1 e1 e2 e3 => kk H1 locs1 ls e1 e2 e3 hl)

theorem xr_callIN (X : xX Γ Ω cc nL own nm ret rf rl rc rs) {y : MethodName} {cc' : ByteArray} {maxL np dd mc ms sz' index : Nat} {ret' : Option FieldType} {r : Option Value} {h' : xH} {rest : List Value} {a : Nat} {host : String} (hlk1 : (own, index, y, host) ∈ x_nM) (hlk2 : Cond.instanceMethod y ∈ x_big) (hin : y.name = "<init>") (hw : xCw y cc' maxL none np) (As : List Value) (hC : xC Γ.2.1 Ω y cc' maxL none dd mc ms (.ref a :: As) h sz r h' sz') (hn : As.length = np) (hst : st = As.reverse ++ .ref a :: rest) (hrf : Nat.ble (dd + 1) rf = true) (hrl : Nat.ble (19 + maxL + 35 * dd) rl = true) (hcat : Nat.ble (rest.map fun v => v.category).sum 8 = true) (hcells : Nat.ble (k + mc) rc = true) (hslots : Nat.ble (n + ms) rs = true) (d : decode cc pc = .ok (.invokespecial index, 3)) (kk : xG Γ Ω nL Q (pc + 3) lv (r.toList ++ rest) h' sz' (k + mc) (n + ms)) : xG Γ Ω nL Q (pc) lv (st) h sz k n := by
  obtain ⟨p, l, e, R, s, m, args, below, meth, c⟩ := Γ
  obtain ⟨hx, hb, hml, hown, hts, hK, hO, hV, hbs, hlk, hnm, hrt, hRm⟩ := X
  intro H locs ls hz hR hS hl
  subst hRm
  subst hst
  have hroom : (xrm dd mc ms).frames + 1 ≤ rf ∧ 8 + (maxL + 11) + (xrm dd mc ms).locals ≤ rl := ⟨Nat.le_of_ble_eq_true hrf, by have := Nat.le_of_ble_eq_true hrl; show 8 + (maxL + 11) + 35 * dd ≤ rl; omega⟩
  refine xRun (va_runIN (As := As) (rest := rest) ⟨hx, hb, hml, hown, hts⟩ hC ⟨⟨⟨rfl, rfl, hroom.1, hroom.2, pay_in hts (x_bigC hw.1), List.mem_cons_self⟩, hts _ hw.1, hts _ hw.2.1, ⟨hw.2.2.1, hw.2.2.2.1⟩, (fun sig h2 => by have h3 := hw.2.2.2.2; rw [h2] at h3; exact (Option.some.inj h3).symm), va_Nw.use rfl (hO.1 _ hlk1)⟩, hin, hts _ hlk2⟩ ⟨xPre.blind, xPre.at hz hR hS hK hO hV hbs⟩ rfl hn hl.1 rfl (lv_room (Nat.le_of_ble_eq_true hcat)) d ⟨Nat.le_of_ble_eq_true hcells, Nat.le_of_ble_eq_true hslots⟩) hS (fun H1 locs1 e1 e2 e3 => kk H1 locs1 ls e1 e2 e3 hl)

theorem xr_callU (X : xX Γ Ω cc nL own nm ret rf rl rc rs) {y : MethodName} {cc' : ByteArray} {maxL np dd mc ms sz' index : Nat} {ret' : Option FieldType} {r : Option Value} {h' : xH} {rest : List Value} {a ci : Nat} {fs : List Value} {rv : vw_C} {x : MethodName} {owner : String} (ha : h a = some (.inr (ci, fs))) (hc : vwCl[ci]? = some rv) (hlk1 : Cond.methodLink own index x ∈ x_big) (hsm : Cond.sameMethod x.cls owner x.name x.desc ∈ x_big) (hdecl : (⟨owner, x.name, x.desc⟩ : MethodName) ∈ x_decl ∨ ∃ b0 m0 r0, Cond.instanceMethod ⟨owner, x.name, x.desc⟩ ∈ x_big ∧ Cond.code ⟨owner, x.name, x.desc⟩ b0 m0 r0 ∈ x_big) (hown2 : owner ≠ "java/lang/invoke/MethodHandle" ∧ owner ≠ "java/lang/invoke/VarHandle") (hdesc : x.desc = y.desc) (hlk2 : Cond.instanceMethod y ∈ x_big) (hlk3 : Cond.selects rv.1 x y ∈ x_big) (hw : xCw y cc' maxL ret' np) (As : List Value) (hC : xC Γ.2.1 Ω y cc' maxL ret' dd mc ms (.ref a :: As) h sz r h' sz') (hn : As.length = np) (hst : st = As.reverse ++ .ref a :: rest) (hrf : Nat.ble (dd + 1) rf = true) (hrl : Nat.ble (19 + maxL + 35 * dd) rl = true) (hcat : Nat.ble (rest.map fun v => v.category).sum 8 = true) (hcells : Nat.ble (k + mc) rc = true) (hslots : Nat.ble (n + ms) rs = true) (d : decode cc pc = .ok (.invokevirtual index, 3)) (kk : xG Γ Ω nL Q (pc + 3) lv (r.toList ++ rest) h' sz' (k + mc) (n + ms)) : xG Γ Ω nL Q (pc) lv (st) h sz k n := by
  obtain ⟨p, l, e, R, s, m, args, below, meth, c⟩ := Γ
  obtain ⟨hx, hb, hml, hown, hts, hK, hO, hV, hbs, hlk, hnm, hrt, hRm⟩ := X
  intro H locs ls hz hR hS hl
  subst hRm
  subst hst
  have hroom : (xrm dd mc ms).frames + 1 ≤ rf ∧ 8 + (maxL + 11) + (xrm dd mc ms).locals ≤ rl := ⟨Nat.le_of_ble_eq_true hrf, by have := Nat.le_of_ble_eq_true hrl; show 8 + (maxL + 11) + 35 * dd ≤ rl; omega⟩
  refine xRun (va_runU (x := x) (owner := owner) (bytes := cc') (maxL := maxL) (ret := ret') (As := As) (rest := rest) ⟨hx, hb, hml, hown, hts⟩ hC ?_ ⟨xPre.blind, xrecv hK hR ha hc, xPre.at hz hR hS hK hO hV hbs⟩ rfl hn hl.1 rfl (lv_room (Nat.le_of_ble_eq_true hcat)) d ⟨Nat.le_of_ble_eq_true hcells, Nat.le_of_ble_eq_true hslots⟩) hS (fun H1 locs1 e1 e2 e3 => kk H1 locs1 ls e1 e2 e3 hl)
  have hdecl' : va_Decl s ⟨owner, x.name, x.desc⟩ := by
    rcases hdecl with q | ⟨b0, m0, r0, q1, q2⟩
    · exact va_Decl.abs (hO.2.2.1 _ q)
    · exact va_Decl.of (hts _ q1) (hts _ q2)
  exact ⟨⟨rfl, rfl, hroom.1, hroom.2, pay_in hts (x_bigC hw.1), List.mem_cons_self⟩, hts _ hw.1, hts _ hw.2.1, hown2, (fun sig h2 => by have h3 := hw.2.2.2.2; rw [← hdesc, h2] at h3; exact (Option.some.inj h3).symm), hts _ hlk1, hts _ hsm, hdecl', hts _ hlk3, hts _ hlk2⟩
theorem xr_callSU (X : xX Γ Ω cc nL own nm ret rf rl rc rs) {y : MethodName} {cc' : ByteArray} {maxL np dd mc ms sz' index : Nat} {ret' : Option FieldType} {r : Option Value} {h' : xH} {rest : List Value} {a ci : Nat} {fs : List Value} {rv : vw_C} (ha : h a = some (.inr (ci, fs))) (hc : vwCl[ci]? = some rv) (hlk1 : Cond.methodLink own index y ∈ x_big) (hsm : Cond.sameMethod y.cls y.cls y.name y.desc ∈ x_big) (hsup : Cond.superclass own y.cls ∈ x_big) (hlk2 : Cond.instanceMethod y ∈ x_big) (hni : y.name ≠ "<init>") (hw : xCw y cc' maxL ret' np) (As : List Value) (hC : xC Γ.2.1 Ω y cc' maxL ret' dd mc ms (.ref a :: As) h sz r h' sz') (hn : As.length = np) (hst : st = As.reverse ++ .ref a :: rest) (hrf : Nat.ble (dd + 1) rf = true) (hrl : Nat.ble (19 + maxL + 35 * dd) rl = true) (hcat : Nat.ble (rest.map fun v => v.category).sum 8 = true) (hcells : Nat.ble (k + mc) rc = true) (hslots : Nat.ble (n + ms) rs = true) (d : decode cc pc = .ok (.invokespecial index, 3)) (kk : xG Γ Ω nL Q (pc + 3) lv (r.toList ++ rest) h' sz' (k + mc) (n + ms)) : xG Γ Ω nL Q (pc) lv (st) h sz k n := by
  obtain ⟨p, l, e, R, s, m, args, below, meth, c⟩ := Γ
  obtain ⟨hx, hb, hml, hown, hts, hK, hO, hV, hbs, hlk, hnm, hrt, hRm⟩ := X
  intro H locs ls hz hR hS hl
  subst hRm
  subst hst
  have hroom : (xrm dd mc ms).frames + 1 ≤ rf ∧ 8 + (maxL + 11) + (xrm dd mc ms).locals ≤ rl := ⟨Nat.le_of_ble_eq_true hrf, by have := Nat.le_of_ble_eq_true hrl; show 8 + (maxL + 11) + 35 * dd ≤ rl; omega⟩
  refine xRun (va_runSU (As := As) (rest := rest) (hK.1 ci rv hc).2 ⟨hx, hb, hml, hown, hts⟩ hC ⟨⟨rfl, rfl, hroom.1, hroom.2, pay_in hts (x_bigC hw.1), List.mem_cons_self⟩, hts _ hlk1, hts _ hsm, hts _ hsup, hts _ hlk2, hts _ hw.2.1, hts _ hw.1, hni, (fun sig h2 => by have h3 := hw.2.2.2.2; rw [h2] at h3; exact (Option.some.inj h3).symm)⟩ ⟨xPre.blind, xrecv hK hR ha hc, xPre.at hz hR hS hK hO hV hbs⟩ rfl hn hl.1 rfl (lv_room (Nat.le_of_ble_eq_true hcat)) d ⟨Nat.le_of_ble_eq_true hcells, Nat.le_of_ble_eq_true hslots⟩) hS (fun H1 locs1 e1 e2 e3 => kk H1 locs1 ls e1 e2 e3 hl)

theorem xr_iret (X : xX Γ Ω cc nL own nm ret rf rl rc rs) {v : Int32} {r : Option Value} {h' : xH} {sz' mc ms : Nat} (hret : ret = some .int)  (hv : some (.int v) = r) (hh : h = h') (hs : sz = sz') (hk : Nat.ble k mc = true) (hn : Nat.ble n ms = true) (d : decode cc pc = .ok (.ireturn, 1)) : xG Γ Ω nL (xQ Γ Ω r h' sz' mc ms) pc lv [.int v] h sz k n := by
  obtain ⟨p, l, e, R, s, m, args, below, meth, c⟩ := Γ
  obtain ⟨hx, hb, hml, hown, hts, hK, hO, hV, hbs, hlk, hnm, hrt, hRm⟩ := X
  intro H locs ls hz hR hS hl
  subst hv
  subst hh
  subst hs
  subst hz
  refine W.widen (Nat.le_of_ble_eq_true hk) (Nat.le_of_ble_eq_true hn) ?_
  exact W.iret hx hb (hrt.trans hret) (fun t ht hW => ⟨rfl, by rw [ht], by rw [ht]; exact hR.moved hW.alike, hS.F ht⟩) hS.2.2 d hlk
theorem xr_zret (X : xX Γ Ω cc nL own nm ret rf rl rc rs) {v : Int32} {ty : FieldType} {r : Option Value} {h' : xH} {sz' mc ms : Nat} (hret : ret = some ty) (hnar : narrow ty (.int v) = .int v) (hv : some (.int v) = r) (hh : h = h') (hs : sz = sz') (hk : Nat.ble k mc = true) (hn : Nat.ble n ms = true) (d : decode cc pc = .ok (.ireturn, 1)) : xG Γ Ω nL (xQ Γ Ω r h' sz' mc ms) pc lv [.int v] h sz k n := by
  obtain ⟨p, l, e, R, s, m, args, below, meth, c⟩ := Γ
  obtain ⟨hx, hb, hml, hown, hts, hK, hO, hV, hbs, hlk, hnm, hrt, hRm⟩ := X
  intro H locs ls hz hR hS hl
  subst hv
  subst hh
  subst hs
  subst hz
  refine W.widen (Nat.le_of_ble_eq_true hk) (Nat.le_of_ble_eq_true hn) ?_
  exact W.zret hx hb (hrt.trans hret) hnar (fun t ht hW => ⟨rfl, by rw [ht], by rw [ht]; exact hR.moved hW.alike, hS.F ht⟩) hS.2.2 d hlk
theorem xr_lret (X : xX Γ Ω cc nL own nm ret rf rl rc rs) {v : Int64} {r : Option Value} {h' : xH} {sz' mc ms : Nat} (hret : ret = some .long)  (hv : some (.long v) = r) (hh : h = h') (hs : sz = sz') (hk : Nat.ble k mc = true) (hn : Nat.ble n ms = true) (d : decode cc pc = .ok (.lreturn, 1)) : xG Γ Ω nL (xQ Γ Ω r h' sz' mc ms) pc lv [.long v] h sz k n := by
  obtain ⟨p, l, e, R, s, m, args, below, meth, c⟩ := Γ
  obtain ⟨hx, hb, hml, hown, hts, hK, hO, hV, hbs, hlk, hnm, hrt, hRm⟩ := X
  intro H locs ls hz hR hS hl
  subst hv
  subst hh
  subst hs
  subst hz
  refine W.widen (Nat.le_of_ble_eq_true hk) (Nat.le_of_ble_eq_true hn) ?_
  exact W.lret hx hb (hrt.trans hret) (fun t ht hW => ⟨rfl, by rw [ht], by rw [ht]; exact hR.moved hW.alike, hS.F ht⟩) hS.2.2 d hlk
theorem xr_vret (X : xX Γ Ω cc nL own nm ret rf rl rc rs)  {r : Option Value} {h' : xH} {sz' mc ms : Nat} (hret : ret = none)  (hv : none = r) (hh : h = h') (hs : sz = sz') (hk : Nat.ble k mc = true) (hn : Nat.ble n ms = true) (d : decode cc pc = .ok (.return_, 1)) : xG Γ Ω nL (xQ Γ Ω r h' sz' mc ms) pc lv [] h sz k n := by
  obtain ⟨p, l, e, R, s, m, args, below, meth, c⟩ := Γ
  obtain ⟨hx, hb, hml, hown, hts, hK, hO, hV, hbs, hlk, hnm, hrt, hRm⟩ := X
  intro H locs ls hz hR hS hl
  subst hv
  subst hh
  subst hs
  subst hz
  refine W.widen (Nat.le_of_ble_eq_true hk) (Nat.le_of_ble_eq_true hn) ?_
  exact W.vret hx hb (hrt.trans hret) (fun t ht hW => ⟨rfl, by rw [ht], by rw [ht]; exact hR.moved hW.alike, hS.F ht⟩) hS.2.2 d hlk
theorem xr_aret (X : xX Γ Ω cc nL own nm ret rf rl rc rs) {v : Value} {C : String} {r : Option Value} {h' : xH} {sz' mc ms : Nat} (hret : ret = some (.object C)) (hvr : v = .null ∨ ∃ a, v = .ref a) (hv : some v = r) (hh : h = h') (hs : sz = sz') (hk : Nat.ble k mc = true) (hn : Nat.ble n ms = true) (d : decode cc pc = .ok (.areturn, 1)) : xG Γ Ω nL (xQ Γ Ω r h' sz' mc ms) pc lv [v] h sz k n := by
  obtain ⟨p, l, e, R, s, m, args, below, meth, c⟩ := Γ
  obtain ⟨hx, hb, hml, hown, hts, hK, hO, hV, hbs, hlk, hnm, hrt, hRm⟩ := X
  intro H locs ls hz hR hS hl
  subst hv
  subst hh
  subst hs
  subst hz
  refine W.widen (Nat.le_of_ble_eq_true hk) (Nat.le_of_ble_eq_true hn) ?_
  exact W.aret hx hb (hrt.trans hret) (Or.inl ⟨C, rfl⟩) hvr (fun t ht hW => ⟨rfl, by rw [ht], by rw [ht]; exact hR.moved hW.alike, hS.F ht⟩) hS.2.2 d hlk
end XROWS
end
section
theorem xne (m : Nat) {i j : Nat} (h : Nat.beq i j = false) : m + i ≠ m + j := fun e => Nat.ne_of_beq_eq_false h (by omega)
theorem xn0 (m : Nat) {j : Nat} (h : Nat.beq j 0 = false) : m ≠ m + j := fun e => Nat.ne_of_beq_eq_false h (by omega)
theorem xn1 (m : Nat) {j : Nat} (h : Nat.beq j 0 = false) : m + j ≠ m := fun e => Nat.ne_of_beq_eq_false h (by omega)
theorem xu_in {h h' : xH} {a g : Nat} {e k : xE} (n : g ≠ a) (q : xu h a e = h') : xu (xu h g k) a e = xu h' g k := (xu_comm h n k e).trans (by rw [q])
theorem x_ins (ws : List Cond) (ps : List Nat) (h : (ws.map some == ps.map (fun i => lw_tbl[i]?) && ws.all goodWord) = true) : ∀ w ∈ ws, w ∈ x_big := by
  simp only [Bool.and_eq_true, beq_iff_eq] at h
  intro w hw
  have h1 : some w ∈ ps.map (fun i => lw_tbl[i]?) := h.1 ▸ List.mem_map.mpr ⟨w, hw, rfl⟩
  obtain ⟨i, -, hi⟩ := List.mem_map.mp h1
  exact List.mem_filter.mpr ⟨List.mem_of_getElem? hi, List.all_eq_true.mp h.2 w hw⟩
def xb (c : Bool) : Int32 := bif c then 1 else 0
theorem xb_nar (c : Bool) : narrow .boolean (.int (xb c)) = .int (xb c) := by cases c <;> rfl
theorem xb_0 {c : Bool} : xb c = 0 ↔ c = false := by cases c <;> simp [xb]
theorem xb_1 {c : Bool} : ¬ xb c = 0 ↔ c = true := by cases c <;> simp [xb]
theorem xbT {P : Prop} [Decidable P] (h : P) : some (Value.int 1) = some (Value.int (xb (decide P))) := by rw [decide_eq_true h]; rfl
theorem xbF {P : Prop} [Decidable P] (h : ¬ P) : some (Value.int 0) = some (Value.int (xb (decide P))) := by rw [decide_eq_false h]; rfl
theorem xr_top {Γ : xΓ} {Ω : xW} {nL : Nat} {Q : State → Prop} {pc : Nat} {lv : List (Nat × Value)} {st : List Value} {h : xH} {sz k n : Nat} {x y : Int32} (e : x = y) (kk : xG Γ Ω nL Q pc lv (.int y :: st) h sz k n) : xG Γ Ω nL Q pc lv (.int x :: st) h sz k n := e ▸ kk
theorem xr_topl {Γ : xΓ} {Ω : xW} {nL : Nat} {Q : State → Prop} {pc : Nat} {lv : List (Nat × Value)} {st : List Value} {h : xH} {sz k n : Nat} {x y : Int64} (e : x = y) (kk : xG Γ Ω nL Q pc lv (.long y :: st) h sz k n) : xG Γ Ω nL Q pc lv (.long x :: st) h sz k n := e ▸ kk
theorem xr_nm {Γ : xΓ} {Ω : xW} {nL : Nat} {Q : State → Prop} {pc : Nat} {lv : List (Nat × Value)} {st : List Value} {h : xH} {sz k n : Nat} {x : Int32} (kk : ∀ y : Int32, y = x → xG Γ Ω nL Q pc lv (.int y :: st) h sz k n) : xG Γ Ω nL Q pc lv (.int x :: st) h sz k n := kk x rfl
theorem xr_nml {Γ : xΓ} {Ω : xW} {nL : Nat} {Q : State → Prop} {pc : Nat} {lv : List (Nat × Value)} {st : List Value} {h : xH} {sz k n : Nat} {x : Int64} (kk : ∀ y : Int64, y = x → xG Γ Ω nL Q pc lv (.long y :: st) h sz k n) : xG Γ Ω nL Q pc lv (.long x :: st) h sz k n := kk x rfl
theorem kw_0 : Cond.selects "EvePost" yX11_found yX11_found ∈ x_big := x_in 0 (by decide +kernel)
theorem kw_1 : Cond.selects "EvePost" yX11_fine yX11_fine ∈ x_big := x_in 1 (by decide +kernel)
theorem kw_2 : Cond.selects "EvePost$Tape" yX7_step yX7_step ∈ x_big := x_in 2 (by decide +kernel)
theorem kw_3 : Cond.selects "EvePost$Tape" yX7_byteAt yX7_byteAt ∈ x_big := x_in 3 (by decide +kernel)
theorem kw_4 : Cond.selects "EvePost$Tape" yX7_readPerson yX7_readPerson ∈ x_big := x_in 4 (by decide +kernel)
theorem kw_5 : Cond.selects "EvePost$Tape" yX7_isWord yX7_isWord ∈ x_big := x_in 5 (by decide +kernel)
theorem kw_6 : Cond.selects "EvePost$Tape" yX7_faulty yX7_faulty ∈ x_big := x_in 6 (by decide +kernel)
theorem kw_7 : Cond.selects "EvePost$Tape" yX7_kindAtHand yX7_kindAtHand ∈ x_big := x_in 7 (by decide +kernel)
theorem kw_8 : Cond.selects "EvePost$Tape" yX7_isNumberUpTo yX7_isNumberUpTo ∈ x_big := x_in 8 (by decide +kernel)
theorem kw_9 : Cond.selects "EvePost$Tape" yX7_numberAtHand yX7_numberAtHand ∈ x_big := x_in 9 (by decide +kernel)
theorem kw_10 : Cond.selects "EvePost$Town" yX8_learn yX8_learn ∈ x_big := x_in 10 (by decide +kernel)
theorem kw_11 : Cond.selects "EvePost$Town" yX8_freshOutcome yX8_freshOutcome ∈ x_big := x_in 11 (by decide +kernel)
theorem kw_12 : Cond.selects "EvePost$Town" yX8_outcomeAfter yX8_outcomeAfter ∈ x_big := x_in 12 (by decide +kernel)
theorem kw_13 : Cond.selects "EvePost" yX11_act yX11_act ∈ x_big := x_in 13 (by decide +kernel)
theorem kw_14 : Cond.selects "EvePost" yX11_refusalOfLetters yX11_refusalOfLetters ∈ x_big := x_in 14 (by decide +kernel)
theorem kw_15 : Cond.selects "EvePost$Foretold" yX2_everybody yX2_everybody ∈ x_big := x_in 15 (by decide +kernel)
theorem kw_16 : Cond.selects "EvePost$Foretold" yX2_someAgrees yX2_someAgrees ∈ x_big := x_in 16 (by decide +kernel)
theorem kw_17 : Cond.selects "EvePost$Foretold" yX2_leastAgreeing yX2_leastAgreeing ∈ x_big := x_in 17 (by decide +kernel)
theorem kw_18 : Cond.selects "EvePost$Foretold" yX2_waysAfter yX2_waysAfter ∈ x_big := x_in 18 (by decide +kernel)
theorem kw_19 : Cond.selects "EvePost$Foretold" yX2_leastThatGoesOn yX2_leastThatGoesOn ∈ x_big := x_in 19 (by decide +kernel)
theorem kw_20 : Cond.selects "EvePost" yX11_imageAt yX11_imageAt ∈ x_big := x_in 20 (by decide +kernel)
theorem kw_21 : Cond.selects "EvePostModel" yX12_finding yX12_finding ∈ x_big := x_in 21 (by decide +kernel)
theorem kw_22 : Cond.selects "EvePostModel" yX12_begin yX12_begin ∈ x_big := x_in 22 (by decide +kernel)
theorem kw_23 : Cond.selects "EvePostModel" yX12_next yX12_next ∈ x_big := x_in 23 (by decide +kernel)
theorem kw_24 : Cond.selects "EvePostModel" yX12_byteAt yX12_byteAt ∈ x_big := x_in 24 (by decide +kernel)
theorem kw_25 : Cond.selects "EvePostModel" yX12_name yX12_name ∈ x_big := x_in 25 (by decide +kernel)
theorem kw_26 : Cond.selects "EvePostModel" yX12_bad yX12_bad ∈ x_big := x_in 26 (by decide +kernel)
theorem kw_27 : Cond.selects "EvePostModel" yX12_readPerson yX12_readPerson ∈ x_big := x_in 27 (by decide +kernel)
theorem kw_28 : Cond.selects "EvePostModel" yX12_must yX12_must ∈ x_big := x_in 28 (by decide +kernel)
theorem kw_29 : Cond.selects "EvePostModel" yX12_number yX12_number ∈ x_big := x_in 29 (by decide +kernel)
theorem kw_30 : Cond.selects "EvePostModel" yX12_figures yX12_figures ∈ x_big := x_in 30 (by decide +kernel)
theorem kw_31 : Cond.selects "EvePostModel" yX12_isThere yX12_isThere ∈ x_big := x_in 31 (by decide +kernel)
theorem kw_32 : Cond.selects "EvePostModel" yX12_isSet yX12_isSet ∈ x_big := x_in 32 (by decide +kernel)
theorem kw_33 : Cond.selects "EvePostModel" yX12_all yX12_all ∈ x_big := x_in 33 (by decide +kernel)
theorem kw_34 : Cond.selects "EvePostModel" yX12_isAgreed yX12_isAgreed ∈ x_big := x_in 34 (by decide +kernel)
theorem kw_35 : Cond.selects "EvePostModel" yX12_doneBy yX12_doneBy ∈ x_big := x_in 35 (by decide +kernel)
theorem kw_36 : Cond.selects "EvePostModel" yX12_doesIt yX12_doesIt ∈ x_big := x_in 36 (by decide +kernel)
theorem kw_37 : Cond.selects "EvePostModel" yX12_of yX12_of ∈ x_big := x_in 37 (by decide +kernel)
theorem kw_38 : Cond.selects "EvePostModel" yX12_goDay yX12_goDay ∈ x_big := x_in 38 (by decide +kernel)
theorem kw_39 : Cond.selects "EvePostModel" yX12_keep yX12_keep ∈ x_big := x_in 39 (by decide +kernel)
theorem kw_40 : Cond.selects "EvePostModel" yX12_lacks yX12_lacks ∈ x_big := x_in 40 (by decide +kernel)
theorem kw_41 : Cond.selects "EvePostModel" yX12_areSets yX12_areSets ∈ x_big := x_in 41 (by decide +kernel)
theorem kw_42 : Cond.selects "EvePostModel" yX12_isPerson yX12_isPerson ∈ x_big := x_in 42 (by decide +kernel)
theorem kw_43 : Cond.selects "EvePostModel" yX12_hasAny yX12_hasAny ∈ x_big := x_in 43 (by decide +kernel)
theorem kw_44 : Cond.selects "EvePostModel" yX12_layChains yX12_layChains ∈ x_big := x_in 44 (by decide +kernel)
theorem kw_45 : Cond.selects "EvePostModel" yX12_oddsOf yX12_oddsOf ∈ x_big := x_in 45 (by decide +kernel)
theorem kw_46 : Cond.selects "EvePostModel" yX12_oddsIn yX12_oddsIn ∈ x_big := x_in 46 (by decide +kernel)
theorem kw_47 : Cond.selects "EvePostModel" yX12_sizeOf yX12_sizeOf ∈ x_big := x_in 47 (by decide +kernel)
theorem kw_48 : Cond.selects "EvePostModel" yX12_crowdSize yX12_crowdSize ∈ x_big := x_in 48 (by decide +kernel)
theorem kw_49 : Cond.selects "EvePostModel" yX12_began yX12_began ∈ x_big := x_in 49 (by decide +kernel)
theorem kw_50 : Cond.selects "EvePostModel" yX12_plainSize yX12_plainSize ∈ x_big := x_in 50 (by decide +kernel)
theorem kw_51 : Cond.selects "EvePostModel" yX12_markOf yX12_markOf ∈ x_big := x_in 51 (by decide +kernel)
theorem kw_52 : (Cond.initialized "EvePostLaw") ∈ x_big := x_in 52 (by decide +kernel)
theorem kw_53 : (Cond.initialized "EvePost") ∈ x_big := x_in 53 (by decide +kernel)
theorem kw_54 : (Cond.initialized "EvePost$Rows") ∈ x_big := x_in 54 (by decide +kernel)
theorem kw_55 : (Cond.initialized "EvePost$Tape") ∈ x_big := x_in 55 (by decide +kernel)
theorem kw_56 : (Cond.initialized "EvePost$Town") ∈ x_big := x_in 56 (by decide +kernel)
theorem kw_57 : (Cond.initialized "EvePost$Foretold") ∈ x_big := x_in 57 (by decide +kernel)
theorem kw_58 : (Cond.initialized "EvePost$Trail") ∈ x_big := x_in 58 (by decide +kernel)
theorem kw_59 : (Cond.initialized "EvePostModel") ∈ x_big := x_in 59 (by decide +kernel)
theorem kw_60 : (Cond.initialized "java/util/Arrays") ∈ x_big := x_in 60 (by decide +kernel)
theorem kw_61 : (Cond.initialized "java/lang/System") ∈ x_big := x_in 61 (by decide +kernel)
theorem kw_62 : (Cond.initialized "java/lang/String") ∈ x_big := x_in 62 (by decide +kernel)
theorem kw_63 : (Cond.initialized "java/lang/StringLatin1") ∈ x_big := x_in 63 (by decide +kernel)
theorem kw_64 : (Cond.initialized "jdk/internal/util/Preconditions") ∈ x_big := x_in 64 (by decide +kernel)
theorem kw_65 : (Cond.initialized "java/lang/StringUTF16") ∈ x_big := x_in 65 (by decide +kernel)
theorem kw_66 : (Cond.initialized "EvePost$Person") ∈ x_big := x_in 66 (by decide +kernel)
theorem kw_67 : (Cond.initialized "EvePost$TrueOne") ∈ x_big := x_in 67 (by decide +kernel)
theorem kw_68 : (Cond.initialized "EvePost$CrossOne") ∈ x_big := x_in 68 (by decide +kernel)
theorem kw_69 : (Cond.initialized "EvePost$LotOne") ∈ x_big := x_in 69 (by decide +kernel)
theorem kw_70 : (Cond.initialized "EvePost$CrowdOne") ∈ x_big := x_in 70 (by decide +kernel)
theorem kw_71 : (Cond.initialized "EvePost$MoodyOne") ∈ x_big := x_in 71 (by decide +kernel)
theorem kw_72 : (Cond.initialized "java/lang/Math") ∈ x_big := x_in 72 (by decide +kernel)
theorem kw_73 : (Cond.initialized "java/lang/Integer") ∈ x_big := x_in 73 (by decide +kernel)
theorem kw_74 : (Cond.classLink "EvePostLaw" (7 : Nat) "EvePost") ∈ x_big := x_in 74 (by decide +kernel)
theorem kw_75 : (Cond.instantiable "EvePost" (9 : Nat)) ∈ x_big := x_in 75 (by decide +kernel)
theorem kw_76 : (Cond.methodLink "EvePostLaw" (9 : Nat) yX11_init) ∈ x_big := x_in 76 (by decide +kernel)
theorem kw_77 : (Cond.instanceMethod yX11_init) ∈ x_big := x_in 77 (by decide +kernel)
theorem kw_78 : Cond.code yX11_init cX11_init 2 none ∈ x_big := x_in 78 (by decide +kernel)
theorem kw_79 : (Cond.methodLink "EvePost" (3 : Nat) objectInit) ∈ x_big := x_in 79 (by decide +kernel)
theorem kw_80 : (Cond.instanceMethod objectInit) ∈ x_big := x_in 80 (by decide +kernel)
theorem kw_81 : (Cond.code objectInit object_method_1_code (1 : Nat) (Option.none : Option FieldType)) ∈ x_big := x_in 81 (by decide +kernel)
theorem kw_82 : (Cond.classLink "EvePost" (9 : Nat) "EvePost$Rows") ∈ x_big := x_in 82 (by decide +kernel)
theorem kw_83 : (Cond.instantiable "EvePost$Rows" (3 : Nat)) ∈ x_big := x_in 83 (by decide +kernel)
theorem kw_84 : (Cond.methodLink "EvePost" (11 : Nat) yX6_init) ∈ x_big := x_in 84 (by decide +kernel)
theorem kw_85 : (Cond.instanceMethod yX6_init) ∈ x_big := x_in 85 (by decide +kernel)
theorem kw_86 : Cond.code yX6_init cX6_init 2 none ∈ x_big := x_in 86 (by decide +kernel)
theorem kw_87 : (Cond.methodLink "EvePost$Rows" (3 : Nat) objectInit) ∈ x_big := x_in 87 (by decide +kernel)
theorem kw_88 : (Cond.classLink "EvePost$Rows" (11 : Nat) "[[I") ∈ x_big := x_in 88 (by decide +kernel)
theorem kw_90 : (Cond.fieldLink "EvePost$Rows" (13 : Nat) "EvePost$Rows" "items" "[[I") ∈ x_big := x_in 90 (by decide +kernel)
theorem kw_91 : (Cond.fieldLink "EvePost$Rows" (16 : Nat) "EvePost$Rows" "lanes" "[I") ∈ x_big := x_in 91 (by decide +kernel)
theorem kw_92 : (Cond.fieldLink "EvePost$Rows" (20 : Nat) "EvePost$Rows" "sizes" "[I") ∈ x_big := x_in 92 (by decide +kernel)
theorem kw_99 : (Cond.superclass "EvePost$Rows" "java/lang/Object") ∈ x_big := x_in 99 (by decide +kernel)
theorem kw_100 : (Cond.arrayClass FieldType.int) ∈ x_big := x_in 100 (by decide +kernel)
theorem kw_101 : (Cond.classLink "EvePost" (16 : Nat) "EvePost$Tape") ∈ x_big := x_in 101 (by decide +kernel)
theorem kw_102 : (Cond.instantiable "EvePost$Tape" (8 : Nat)) ∈ x_big := x_in 102 (by decide +kernel)
theorem kw_104 : (Cond.instanceMethod yX7_init) ∈ x_big := x_in 104 (by decide +kernel)
theorem kw_105 : Cond.code yX7_init cX7_init 1 none ∈ x_big := x_in 105 (by decide +kernel)
theorem kw_106 : (Cond.methodLink "EvePost$Tape" (3 : Nat) objectInit) ∈ x_big := x_in 106 (by decide +kernel)
theorem kw_107 : (Cond.classLink "EvePost$Tape" (19 : Nat) "EvePost$Person") ∈ x_big := x_in 107 (by decide +kernel)
theorem kw_109 : (Cond.fieldLink "EvePost$Tape" (11 : Nat) "EvePost$Tape" "bytes" "[B") ∈ x_big := x_in 109 (by decide +kernel)
theorem kw_110 : (Cond.fieldLink "EvePost$Tape" (15 : Nat) "EvePost$Tape" "length" "I") ∈ x_big := x_in 110 (by decide +kernel)
theorem kw_111 : (Cond.fieldLink "EvePost$Tape" (21 : Nat) "EvePost$Tape" "people" "[LEvePost$Person;") ∈ x_big := x_in 111 (by decide +kernel)
theorem kw_112 : (Cond.fieldLink "EvePost$Tape" (25 : Nat) "EvePost$Tape" "peopleRead" "I") ∈ x_big := x_in 112 (by decide +kernel)
theorem kw_113 : (Cond.fieldLink "EvePost$Tape" (28 : Nat) "EvePost$Tape" "fault" "I") ∈ x_big := x_in 113 (by decide +kernel)
theorem kw_114 : (Cond.fieldLink "EvePost$Tape" (31 : Nat) "EvePost$Tape" "token" "I") ∈ x_big := x_in 114 (by decide +kernel)
theorem kw_115 : (Cond.fieldLink "EvePost$Tape" (34 : Nat) "EvePost$Tape" "first" "I") ∈ x_big := x_in 115 (by decide +kernel)
theorem kw_116 : (Cond.fieldLink "EvePost$Tape" (37 : Nat) "EvePost$Tape" "behind" "I") ∈ x_big := x_in 116 (by decide +kernel)
theorem kw_133 : (Cond.superclass "EvePost$Tape" "java/lang/Object") ∈ x_big := x_in 133 (by decide +kernel)
theorem kw_134 : (Cond.arrayClass FieldType.byte) ∈ x_big := x_in 134 (by decide +kernel)
theorem kw_135 : (Cond.classLink "EvePost" (23 : Nat) "EvePost$Town") ∈ x_big := x_in 135 (by decide +kernel)
theorem kw_136 : (Cond.instantiable "EvePost$Town" (6 : Nat)) ∈ x_big := x_in 136 (by decide +kernel)
theorem kw_138 : (Cond.instanceMethod yX8_init) ∈ x_big := x_in 138 (by decide +kernel)
theorem kw_139 : Cond.code yX8_init cX8_init 1 none ∈ x_big := x_in 139 (by decide +kernel)
theorem kw_140 : (Cond.methodLink "EvePost$Town" (3 : Nat) objectInit) ∈ x_big := x_in 140 (by decide +kernel)
theorem kw_141 : (Cond.classLink "EvePost$Town" (9 : Nat) "EvePost$Person") ∈ x_big := x_in 141 (by decide +kernel)
theorem kw_142 : (Cond.fieldLink "EvePost$Town" (11 : Nat) "EvePost$Town" "people" "[LEvePost$Person;") ∈ x_big := x_in 142 (by decide +kernel)
theorem kw_143 : (Cond.fieldLink "EvePost$Town" (17 : Nat) "EvePost$Town" "size" "I") ∈ x_big := x_in 143 (by decide +kernel)
theorem kw_144 : (Cond.fieldLink "EvePost$Town" (21 : Nat) "EvePost$Town" "day" "I") ∈ x_big := x_in 144 (by decide +kernel)
theorem kw_145 : (Cond.fieldLink "EvePost$Town" (24 : Nat) "EvePost$Town" "before" "I") ∈ x_big := x_in 145 (by decide +kernel)
theorem kw_146 : (Cond.fieldLink "EvePost$Town" (27 : Nat) "EvePost$Town" "fresh" "[I") ∈ x_big := x_in 146 (by decide +kernel)
theorem kw_147 : (Cond.fieldLink "EvePost$Town" (31 : Nat) "EvePost$Town" "moody" "I") ∈ x_big := x_in 147 (by decide +kernel)
theorem kw_160 : (Cond.superclass "EvePost$Town" "java/lang/Object") ∈ x_big := x_in 160 (by decide +kernel)
theorem kw_162 : (Cond.classLink "EvePost" (34 : Nat) "EvePost$Foretold") ∈ x_big := x_in 162 (by decide +kernel)
theorem kw_163 : (Cond.instantiable "EvePost$Foretold" (1 : Nat)) ∈ x_big := x_in 163 (by decide +kernel)
theorem kw_165 : (Cond.instanceMethod yX2_init) ∈ x_big := x_in 165 (by decide +kernel)
theorem kw_166 : Cond.code yX2_init cX2_init 1 none ∈ x_big := x_in 166 (by decide +kernel)
theorem kw_167 : (Cond.methodLink "EvePost$Foretold" (3 : Nat) objectInit) ∈ x_big := x_in 167 (by decide +kernel)
theorem kw_168 : (Cond.classLink "EvePost$Foretold" (9 : Nat) "[[I") ∈ x_big := x_in 168 (by decide +kernel)
theorem kw_169 : (Cond.fieldLink "EvePost$Foretold" (11 : Nat) "EvePost$Foretold" "ways" "[[I") ∈ x_big := x_in 169 (by decide +kernel)
theorem kw_172 : (Cond.superclass "EvePost$Foretold" "java/lang/Object") ∈ x_big := x_in 172 (by decide +kernel)
theorem kw_173 : (Cond.classLink "EvePost" (41 : Nat) "EvePost$Trail") ∈ x_big := x_in 173 (by decide +kernel)
theorem kw_174 : (Cond.instantiable "EvePost$Trail" (2 : Nat)) ∈ x_big := x_in 174 (by decide +kernel)
theorem kw_176 : (Cond.instanceMethod yX9_init) ∈ x_big := x_in 176 (by decide +kernel)
theorem kw_177 : Cond.code yX9_init cX9_init 1 none ∈ x_big := x_in 177 (by decide +kernel)
theorem kw_178 : (Cond.methodLink "EvePost$Trail" (3 : Nat) objectInit) ∈ x_big := x_in 178 (by decide +kernel)
theorem kw_179 : (Cond.fieldLink "EvePost$Trail" (11 : Nat) "EvePost$Trail" "left" "[I") ∈ x_big := x_in 179 (by decide +kernel)
theorem kw_180 : (Cond.fieldLink "EvePost$Trail" (15 : Nat) "EvePost$Trail" "length" "I") ∈ x_big := x_in 180 (by decide +kernel)
theorem kw_185 : (Cond.superclass "EvePost$Trail" "java/lang/Object") ∈ x_big := x_in 185 (by decide +kernel)
theorem kw_186 : (Cond.fieldLink "EvePost" (12 : Nat) "EvePost" "shelf" "LEvePost$Rows;") ∈ x_big := x_in 186 (by decide +kernel)
theorem kw_187 : (Cond.fieldLink "EvePost" (19 : Nat) "EvePost" "tape" "LEvePost$Tape;") ∈ x_big := x_in 187 (by decide +kernel)
theorem kw_188 : (Cond.fieldLink "EvePost" (26 : Nat) "EvePost" "now" "LEvePost$Town;") ∈ x_big := x_in 188 (by decide +kernel)
theorem kw_189 : (Cond.fieldLink "EvePost" (30 : Nat) "EvePost" "images" "[LEvePost$Town;") ∈ x_big := x_in 189 (by decide +kernel)
theorem kw_190 : (Cond.fieldLink "EvePost" (37 : Nat) "EvePost" "foretold" "LEvePost$Foretold;") ∈ x_big := x_in 190 (by decide +kernel)
theorem kw_191 : (Cond.fieldLink "EvePost" (44 : Nat) "EvePost" "trail" "LEvePost$Trail;") ∈ x_big := x_in 191 (by decide +kernel)
theorem kw_192 : (Cond.fieldLink "EvePost" (48 : Nat) "EvePost" "undoable" "[I") ∈ x_big := x_in 192 (by decide +kernel)
theorem kw_193 : (Cond.fieldLink "EvePost" (52 : Nat) "EvePost" "acts" "I") ∈ x_big := x_in 193 (by decide +kernel)
theorem kw_194 : (Cond.fieldLink "EvePost" (56 : Nat) "EvePost" "finding" "I") ∈ x_big := x_in 194 (by decide +kernel)
theorem kw_213 : (Cond.superclass "EvePost" "java/lang/Object") ∈ x_big := x_in 213 (by decide +kernel)
theorem kw_214 : (Cond.methodLink "EvePostLaw" (13 : Nat) yX11_row) ∈ x_big := x_in 214 (by decide +kernel)
theorem kw_215 : (Cond.instanceMethod yX11_row) ∈ x_big := x_in 215 (by decide +kernel)
theorem kw_216 : (Cond.selects "EvePost" yX11_row yX11_row) ∈ x_big := x_in 216 (by decide +kernel)
theorem kw_217 : Cond.code yX11_row cX11_row 4 (some .int) ∈ x_big := x_in 217 (by decide +kernel)
theorem kw_218 : (Cond.methodLink "EvePost" (59 : Nat) yX6_isPlace) ∈ x_big := x_in 218 (by decide +kernel)
theorem kw_219 : (Cond.instanceMethod yX6_isPlace) ∈ x_big := x_in 219 (by decide +kernel)
theorem kw_220 : (Cond.selects "EvePost$Rows" yX6_isPlace yX6_isPlace) ∈ x_big := x_in 220 (by decide +kernel)
theorem kw_221 : Cond.code yX6_isPlace cX6_isPlace 2 (some .boolean) ∈ x_big := x_in 221 (by decide +kernel)
theorem kw_222 : (Cond.methodLink "EvePost" (63 : Nat) yX6_isLane) ∈ x_big := x_in 222 (by decide +kernel)
theorem kw_223 : (Cond.instanceMethod yX6_isLane) ∈ x_big := x_in 223 (by decide +kernel)
theorem kw_224 : (Cond.selects "EvePost$Rows" yX6_isLane yX6_isLane) ∈ x_big := x_in 224 (by decide +kernel)
theorem kw_225 : Cond.code yX6_isLane cX6_isLane 2 (some .boolean) ∈ x_big := x_in 225 (by decide +kernel)
theorem kw_226 : (Cond.constant "EvePost" (66 : Nat) (-1000001 : Int32)) ∈ x_big := x_in 226 (by decide +kernel)
theorem kw_227 : (Cond.methodLink "EvePost" (67 : Nat) yX11_found) ∈ x_big := x_in 227 (by decide +kernel)
theorem kw_229 : (Cond.instanceMethod yX11_found) ∈ x_big := x_in 229 (by decide +kernel)
theorem kw_230 : Cond.code yX11_found cX11_found 2 (some .int) ∈ x_big := x_in 230 (by decide +kernel)
theorem kw_231 : (Cond.constant "EvePost" (263 : Nat) (-1000010 : Int32)) ∈ x_big := x_in 231 (by decide +kernel)
theorem kw_232 : (Cond.methodLink "EvePost" (71 : Nat) yX6_put) ∈ x_big := x_in 232 (by decide +kernel)
theorem kw_233 : (Cond.instanceMethod yX6_put) ∈ x_big := x_in 233 (by decide +kernel)
theorem kw_234 : (Cond.selects "EvePost$Rows" yX6_put yX6_put) ∈ x_big := x_in 234 (by decide +kernel)
theorem kw_235 : Cond.code yX6_put cX6_put 4 none ∈ x_big := x_in 235 (by decide +kernel)
theorem kw_236 : (Cond.methodLink "EvePost$Rows" (23 : Nat) yX6_isPlace) ∈ x_big := x_in 236 (by decide +kernel)
theorem kw_237 : (Cond.methodLink "EvePost$Rows" (30 : Nat) yX6_isLane) ∈ x_big := x_in 237 (by decide +kernel)
theorem kw_238 : (Cond.methodLink "EvePost$Rows" (33 : Nat) yJ7_fill_53178) ∈ x_big := x_in 238 (by decide +kernel)
theorem kw_239 : (Cond.static yJ7_fill_53178) ∈ x_big := x_in 239 (by decide +kernel)
theorem kw_240 : Cond.code yJ7_fill_53178 cJ7_fill_53178 4 none ∈ x_big := x_in 240 (by decide +kernel)
theorem kw_241 : (Cond.methodLink "EvePost" (75 : Nat) yX11_fine) ∈ x_big := x_in 241 (by decide +kernel)
theorem kw_243 : (Cond.instanceMethod yX11_fine) ∈ x_big := x_in 243 (by decide +kernel)
theorem kw_244 : Cond.code yX11_fine cX11_fine 2 (some .int) ∈ x_big := x_in 244 (by decide +kernel)
theorem kw_245 : (Cond.methodLink "EvePostLaw" (18 : Nat) yX11_set) ∈ x_big := x_in 245 (by decide +kernel)
theorem kw_246 : (Cond.instanceMethod yX11_set) ∈ x_big := x_in 246 (by decide +kernel)
theorem kw_247 : (Cond.selects "EvePost" yX11_set yX11_set) ∈ x_big := x_in 247 (by decide +kernel)
theorem kw_248 : Cond.code yX11_set cX11_set 4 (some .int) ∈ x_big := x_in 248 (by decide +kernel)
theorem kw_249 : (Cond.methodLink "EvePost" (78 : Nat) yX6_isMissing) ∈ x_big := x_in 249 (by decide +kernel)
theorem kw_250 : (Cond.instanceMethod yX6_isMissing) ∈ x_big := x_in 250 (by decide +kernel)
theorem kw_251 : (Cond.selects "EvePost$Rows" yX6_isMissing yX6_isMissing) ∈ x_big := x_in 251 (by decide +kernel)
theorem kw_252 : Cond.code yX6_isMissing cX6_isMissing 2 (some .boolean) ∈ x_big := x_in 252 (by decide +kernel)
theorem kw_253 : (Cond.methodLink "EvePost" (81 : Nat) yX6_reaches) ∈ x_big := x_in 253 (by decide +kernel)
theorem kw_254 : (Cond.instanceMethod yX6_reaches) ∈ x_big := x_in 254 (by decide +kernel)
theorem kw_255 : (Cond.selects "EvePost$Rows" yX6_reaches yX6_reaches) ∈ x_big := x_in 255 (by decide +kernel)
theorem kw_256 : Cond.code yX6_reaches cX6_reaches 4 (some .boolean) ∈ x_big := x_in 256 (by decide +kernel)
theorem kw_257 : (Cond.methodLink "EvePost$Rows" (27 : Nat) yX6_isMissing) ∈ x_big := x_in 257 (by decide +kernel)
theorem kw_258 : (Cond.methodLink "EvePost" (85 : Nat) yX6_write) ∈ x_big := x_in 258 (by decide +kernel)
theorem kw_259 : (Cond.instanceMethod yX6_write) ∈ x_big := x_in 259 (by decide +kernel)
theorem kw_260 : (Cond.selects "EvePost$Rows" yX6_write yX6_write) ∈ x_big := x_in 260 (by decide +kernel)
theorem kw_261 : Cond.code yX6_write cX6_write 4 (some .int) ∈ x_big := x_in 261 (by decide +kernel)
theorem kw_262 : (Cond.methodLink "EvePost$Rows" (39 : Nat) yX6_reaches) ∈ x_big := x_in 262 (by decide +kernel)
theorem kw_263 : (Cond.constant "EvePost$Rows" (43 : Nat) (-1000000 : Int32)) ∈ x_big := x_in 263 (by decide +kernel)
theorem kw_264 : (Cond.methodLink "EvePost$Rows" (44 : Nat) yX6_narrowed) ∈ x_big := x_in 264 (by decide +kernel)
theorem kw_265 : (Cond.static yX6_narrowed) ∈ x_big := x_in 265 (by decide +kernel)
theorem kw_266 : Cond.code yX6_narrowed cX6_narrowed 2 (some .int) ∈ x_big := x_in 266 (by decide +kernel)
theorem kw_267 : (Cond.methodLink "EvePostLaw" (22 : Nat) yX11_copy) ∈ x_big := x_in 267 (by decide +kernel)
theorem kw_268 : (Cond.instanceMethod yX11_copy) ∈ x_big := x_in 268 (by decide +kernel)
theorem kw_269 : (Cond.selects "EvePost" yX11_copy yX11_copy) ∈ x_big := x_in 269 (by decide +kernel)
theorem kw_270 : Cond.code yX11_copy cX11_copy 6 (some .int) ∈ x_big := x_in 270 (by decide +kernel)
theorem kw_271 : (Cond.methodLink "EvePost" (89 : Nat) yX6_areAlike) ∈ x_big := x_in 271 (by decide +kernel)
theorem kw_272 : (Cond.instanceMethod yX6_areAlike) ∈ x_big := x_in 272 (by decide +kernel)
theorem kw_273 : (Cond.selects "EvePost$Rows" yX6_areAlike yX6_areAlike) ∈ x_big := x_in 273 (by decide +kernel)
theorem kw_274 : Cond.code yX6_areAlike cX6_areAlike 3 (some .boolean) ∈ x_big := x_in 274 (by decide +kernel)
theorem kw_275 : (Cond.methodLink "EvePost" (93 : Nat) yX6_carry) ∈ x_big := x_in 275 (by decide +kernel)
theorem kw_276 : (Cond.instanceMethod yX6_carry) ∈ x_big := x_in 276 (by decide +kernel)
theorem kw_277 : (Cond.selects "EvePost$Rows" yX6_carry yX6_carry) ∈ x_big := x_in 277 (by decide +kernel)
theorem kw_278 : Cond.code yX6_carry cX6_carry 6 none ∈ x_big := x_in 278 (by decide +kernel)
theorem kw_279 : (Cond.methodLink "EvePost$Rows" (48 : Nat) (⟨"java/lang/System", "arraycopy", "(Ljava/lang/Object;ILjava/lang/Object;II)V"⟩ : MethodName)) ∈ x_big := x_in 279 (by decide +kernel)
theorem kw_280 : (Cond.static (⟨"java/lang/System", "arraycopy", "(Ljava/lang/Object;ILjava/lang/Object;II)V"⟩ : MethodName)) ∈ x_big := x_in 280 (by decide +kernel)
theorem kw_281 : (Cond.native (⟨"java/lang/System", "arraycopy", "(Ljava/lang/Object;ILjava/lang/Object;II)V"⟩ : MethodName)) ∈ x_big := x_in 281 (by decide +kernel)
theorem kw_282 : (Cond.methodLink "EvePostLaw" (27 : Nat) yX11_drop) ∈ x_big := x_in 282 (by decide +kernel)
theorem kw_283 : (Cond.instanceMethod yX11_drop) ∈ x_big := x_in 283 (by decide +kernel)
theorem kw_284 : (Cond.selects "EvePost" yX11_drop yX11_drop) ∈ x_big := x_in 284 (by decide +kernel)
theorem kw_285 : Cond.code yX11_drop cX11_drop 2 (some .int) ∈ x_big := x_in 285 (by decide +kernel)
theorem kw_286 : (Cond.methodLink "EvePost" (97 : Nat) yX6_take) ∈ x_big := x_in 286 (by decide +kernel)
theorem kw_287 : (Cond.instanceMethod yX6_take) ∈ x_big := x_in 287 (by decide +kernel)
theorem kw_288 : (Cond.selects "EvePost$Rows" yX6_take yX6_take) ∈ x_big := x_in 288 (by decide +kernel)
theorem kw_289 : Cond.code yX6_take cX6_take 3 (some .int) ∈ x_big := x_in 289 (by decide +kernel)
theorem kw_290 : (Cond.methodLink "EvePostLaw" (34 : Nat) yX11_feed) ∈ x_big := x_in 290 (by decide +kernel)
theorem kw_291 : (Cond.instanceMethod yX11_feed) ∈ x_big := x_in 291 (by decide +kernel)
theorem kw_292 : (Cond.selects "EvePost" yX11_feed yX11_feed) ∈ x_big := x_in 292 (by decide +kernel)
theorem kw_293 : Cond.code yX11_feed cX11_feed 4 (some .int) ∈ x_big := x_in 293 (by decide +kernel)
theorem kw_294 : (Cond.methodLink "EvePost" (100 : Nat) yX7_hasRoom) ∈ x_big := x_in 294 (by decide +kernel)
theorem kw_295 : (Cond.instanceMethod yX7_hasRoom) ∈ x_big := x_in 295 (by decide +kernel)
theorem kw_296 : (Cond.selects "EvePost$Tape" yX7_hasRoom yX7_hasRoom) ∈ x_big := x_in 296 (by decide +kernel)
theorem kw_297 : Cond.code yX7_hasRoom cX7_hasRoom 2 (some .boolean) ∈ x_big := x_in 297 (by decide +kernel)
theorem kw_298 : (Cond.methodLink "EvePost" (103 : Nat) yX7_append) ∈ x_big := x_in 298 (by decide +kernel)
theorem kw_299 : (Cond.instanceMethod yX7_append) ∈ x_big := x_in 299 (by decide +kernel)
theorem kw_300 : (Cond.selects "EvePost$Tape" yX7_append yX7_append) ∈ x_big := x_in 300 (by decide +kernel)
theorem kw_301 : Cond.code yX7_append cX7_append 5 (some .int) ∈ x_big := x_in 301 (by decide +kernel)
theorem kw_302 : (Cond.constant "EvePost" (107 : Nat) (-1000003 : Int32)) ∈ x_big := x_in 302 (by decide +kernel)
theorem kw_303 : (Cond.methodLink "EvePostLaw" (39 : Nat) yX11_town) ∈ x_big := x_in 303 (by decide +kernel)
theorem kw_304 : (Cond.instanceMethod yX11_town) ∈ x_big := x_in 304 (by decide +kernel)
theorem kw_305 : (Cond.selects "EvePost" yX11_town yX11_town) ∈ x_big := x_in 305 (by decide +kernel)
theorem kw_306 : Cond.code yX11_town cX11_town 2 (some .int) ∈ x_big := x_in 306 (by decide +kernel)
theorem kw_307 : (Cond.methodLink "EvePost" (108 : Nat) yX7_read) ∈ x_big := x_in 307 (by decide +kernel)
theorem kw_308 : (Cond.instanceMethod yX7_read) ∈ x_big := x_in 308 (by decide +kernel)
theorem kw_309 : (Cond.selects "EvePost$Tape" yX7_read yX7_read) ∈ x_big := x_in 309 (by decide +kernel)
theorem kw_310 : Cond.code yX7_read cX7_read 3 (some .int) ∈ x_big := x_in 310 (by decide +kernel)
theorem kw_311 : (Cond.methodLink "EvePost$Tape" (40 : Nat) yX7_step) ∈ x_big := x_in 311 (by decide +kernel)
theorem kw_313 : (Cond.instanceMethod yX7_step) ∈ x_big := x_in 313 (by decide +kernel)
theorem kw_314 : Cond.code yX7_step cX7_step 1 none ∈ x_big := x_in 314 (by decide +kernel)
theorem kw_315 : (Cond.methodLink "EvePost$Tape" (98 : Nat) yX7_byteAt) ∈ x_big := x_in 315 (by decide +kernel)
theorem kw_317 : (Cond.instanceMethod yX7_byteAt) ∈ x_big := x_in 317 (by decide +kernel)
theorem kw_318 : Cond.code yX7_byteAt cX7_byteAt 2 (some .int) ∈ x_big := x_in 318 (by decide +kernel)
theorem kw_319 : (Cond.methodLink "EvePost$Tape" (102 : Nat) yX7_isBlank) ∈ x_big := x_in 319 (by decide +kernel)
theorem kw_320 : (Cond.static yX7_isBlank) ∈ x_big := x_in 320 (by decide +kernel)
theorem kw_321 : Cond.code yX7_isBlank cX7_isBlank 1 (some .boolean) ∈ x_big := x_in 321 (by decide +kernel)
theorem kw_322 : (Cond.methodLink "EvePost$Tape" (105 : Nat) yX7_isLetter) ∈ x_big := x_in 322 (by decide +kernel)
theorem kw_323 : (Cond.static yX7_isLetter) ∈ x_big := x_in 323 (by decide +kernel)
theorem kw_324 : Cond.code yX7_isLetter cX7_isLetter 1 (some .boolean) ∈ x_big := x_in 324 (by decide +kernel)
theorem kw_325 : (Cond.methodLink "EvePost$Tape" (108 : Nat) yX7_isFigure) ∈ x_big := x_in 325 (by decide +kernel)
theorem kw_326 : (Cond.static yX7_isFigure) ∈ x_big := x_in 326 (by decide +kernel)
theorem kw_327 : Cond.code yX7_isFigure cX7_isFigure 1 (some .boolean) ∈ x_big := x_in 327 (by decide +kernel)
theorem kw_328 : (Cond.methodLink "EvePost$Tape" (43 : Nat) yX7_readPerson) ∈ x_big := x_in 328 (by decide +kernel)
theorem kw_330 : (Cond.instanceMethod yX7_readPerson) ∈ x_big := x_in 330 (by decide +kernel)
theorem kw_331 : Cond.code yX7_readPerson cX7_readPerson 4 (some .boolean) ∈ x_big := x_in 331 (by decide +kernel)
theorem kw_333 : (Cond.methodLink "EvePost$Tape" (49 : Nat) yX7_isWord) ∈ x_big := x_in 333 (by decide +kernel)
theorem kw_335 : (Cond.instanceMethod yX7_isWord) ∈ x_big := x_in 335 (by decide +kernel)
theorem kw_336 : Cond.code yX7_isWord cX7_isWord 3 (some .boolean) ∈ x_big := x_in 336 (by decide +kernel)
theorem kw_337 : (Cond.methodLink "EvePost$Tape" (111 : Nat) yJ0_length_8abf5) ∈ x_big := x_in 337 (by decide +kernel)
theorem kw_338 : (Cond.instanceMethod yJ0_length_8abf5) ∈ x_big := x_in 338 (by decide +kernel)
theorem kw_339 : (Cond.selects "java/lang/String" yJ0_length_8abf5 yJ0_length_8abf5) ∈ x_big := x_in 339 (by decide +kernel)
theorem kw_340 : Cond.code yJ0_length_8abf5 cJ0_length_8abf5 1 (some .int) ∈ x_big := x_in 340 (by decide +kernel)
theorem kw_341 : (Cond.methodLink "java/lang/String" (335 : Nat) yJ0_coder_7d493) ∈ x_big := x_in 341 (by decide +kernel)
theorem kw_342 : (Cond.instanceMethod yJ0_coder_7d493) ∈ x_big := x_in 342 (by decide +kernel)
theorem kw_343 : (Cond.selects "java/lang/String" yJ0_coder_7d493 yJ0_coder_7d493) ∈ x_big := x_in 343 (by decide +kernel)
theorem kw_344 : Cond.code yJ0_coder_7d493 cJ0_coder_7d493 1 (some .byte) ∈ x_big := x_in 344 (by decide +kernel)
theorem kw_345 : (Cond.fieldLink "java/lang/String" (38 : Nat) "java/lang/String" "COMPACT_STRINGS" "Z") ∈ x_big := x_in 345 (by decide +kernel)
theorem kw_347 : (Cond.methodLink "EvePost$Tape" (115 : Nat) yJ0_charAt_5068e) ∈ x_big := x_in 347 (by decide +kernel)
theorem kw_348 : (Cond.instanceMethod yJ0_charAt_5068e) ∈ x_big := x_in 348 (by decide +kernel)
theorem kw_349 : (Cond.selects "java/lang/String" yJ0_charAt_5068e yJ0_charAt_5068e) ∈ x_big := x_in 349 (by decide +kernel)
theorem kw_350 : Cond.code yJ0_charAt_5068e cJ0_charAt_5068e 2 (some .char) ∈ x_big := x_in 350 (by decide +kernel)
theorem kw_351 : (Cond.methodLink "java/lang/String" (492 : Nat) yJ0_isLatin1_aae02) ∈ x_big := x_in 351 (by decide +kernel)
theorem kw_352 : (Cond.instanceMethod yJ0_isLatin1_aae02) ∈ x_big := x_in 352 (by decide +kernel)
theorem kw_353 : (Cond.selects "java/lang/String" yJ0_isLatin1_aae02 yJ0_isLatin1_aae02) ∈ x_big := x_in 353 (by decide +kernel)
theorem kw_354 : Cond.code yJ0_isLatin1_aae02 cJ0_isLatin1_aae02 1 (some .boolean) ∈ x_big := x_in 354 (by decide +kernel)
theorem kw_355 : (Cond.methodLink "java/lang/String" (495 : Nat) yJ1_charAt_3b067) ∈ x_big := x_in 355 (by decide +kernel)
theorem kw_356 : (Cond.static yJ1_charAt_3b067) ∈ x_big := x_in 356 (by decide +kernel)
theorem kw_357 : Cond.code yJ1_charAt_3b067 cJ1_charAt_3b067 2 (some .char) ∈ x_big := x_in 357 (by decide +kernel)
theorem kw_358 : (Cond.methodLink "java/lang/StringLatin1" (9 : Nat) yJ0_checkIndex_df160) ∈ x_big := x_in 358 (by decide +kernel)
theorem kw_359 : (Cond.static yJ0_checkIndex_df160) ∈ x_big := x_in 359 (by decide +kernel)
theorem kw_360 : Cond.code yJ0_checkIndex_df160 cJ0_checkIndex_df160 2 none ∈ x_big := x_in 360 (by decide +kernel)
theorem kw_361 : (Cond.fieldLink "java/lang/String" (1053 : Nat) "jdk/internal/util/Preconditions" "SIOOBE_FORMATTER" "Ljava/util/function/BiFunction;") ∈ x_big := x_in 361 (by decide +kernel)
theorem kw_363 : (Cond.methodLink "java/lang/String" (1059 : Nat) yJ3_checkIndex_8e157) ∈ x_big := x_in 363 (by decide +kernel)
theorem kw_364 : (Cond.static yJ3_checkIndex_8e157) ∈ x_big := x_in 364 (by decide +kernel)
theorem kw_365 : Cond.code yJ3_checkIndex_8e157 cJ3_checkIndex_8e157 3 (some .int) ∈ x_big := x_in 365 (by decide +kernel)
theorem kw_366 : (Cond.methodLink "java/lang/String" (498 : Nat) yJ2_charAt_3b067) ∈ x_big := x_in 366 (by decide +kernel)
theorem kw_367 : (Cond.static yJ2_charAt_3b067) ∈ x_big := x_in 367 (by decide +kernel)
theorem kw_368 : Cond.code yJ2_charAt_3b067 cJ2_charAt_3b067 2 (some .char) ∈ x_big := x_in 368 (by decide +kernel)
theorem kw_369 : (Cond.methodLink "java/lang/StringUTF16" (67 : Nat) yJ2_checkIndex_2214a) ∈ x_big := x_in 369 (by decide +kernel)
theorem kw_370 : (Cond.static yJ2_checkIndex_2214a) ∈ x_big := x_in 370 (by decide +kernel)
theorem kw_371 : Cond.code yJ2_checkIndex_2214a cJ2_checkIndex_2214a 2 none ∈ x_big := x_in 371 (by decide +kernel)
theorem kw_372 : (Cond.methodLink "java/lang/StringUTF16" (48 : Nat) yJ2_length_9d52b) ∈ x_big := x_in 372 (by decide +kernel)
theorem kw_373 : (Cond.static yJ2_length_9d52b) ∈ x_big := x_in 373 (by decide +kernel)
theorem kw_374 : Cond.code yJ2_length_9d52b cJ2_length_9d52b 1 (some .int) ∈ x_big := x_in 374 (by decide +kernel)
theorem kw_375 : (Cond.methodLink "java/lang/StringUTF16" (414 : Nat) yJ0_checkIndex_df160) ∈ x_big := x_in 375 (by decide +kernel)
theorem kw_376 : (Cond.methodLink "java/lang/StringUTF16" (71 : Nat) yJ2_getChar_3b067) ∈ x_big := x_in 376 (by decide +kernel)
theorem kw_377 : (Cond.static yJ2_getChar_3b067) ∈ x_big := x_in 377 (by decide +kernel)
theorem kw_378 : Cond.code yJ2_getChar_3b067 cJ2_getChar_3b067 2 (some .char) ∈ x_big := x_in 378 (by decide +kernel)
theorem kw_379 : (Cond.fieldLink "java/lang/StringUTF16" (44 : Nat) "java/lang/StringUTF16" "$assertionsDisabled" "Z") ∈ x_big := x_in 379 (by decide +kernel)
theorem kw_381 : (Cond.fieldLink "java/lang/StringUTF16" (59 : Nat) "java/lang/StringUTF16" "HI_BYTE_SHIFT" "I") ∈ x_big := x_in 381 (by decide +kernel)
theorem kw_383 : (Cond.fieldLink "java/lang/StringUTF16" (63 : Nat) "java/lang/StringUTF16" "LO_BYTE_SHIFT" "I") ∈ x_big := x_in 383 (by decide +kernel)
theorem kw_385 : (Cond.methodLink "EvePost$Tape" (53 : Nat) yX7_faulty) ∈ x_big := x_in 385 (by decide +kernel)
theorem kw_387 : (Cond.instanceMethod yX7_faulty) ∈ x_big := x_in 387 (by decide +kernel)
theorem kw_388 : Cond.code yX7_faulty cX7_faulty 2 (some .boolean) ∈ x_big := x_in 388 (by decide +kernel)
theorem kw_389 : (Cond.methodLink "EvePost$Tape" (57 : Nat) yX7_kindAtHand) ∈ x_big := x_in 389 (by decide +kernel)
theorem kw_391 : (Cond.instanceMethod yX7_kindAtHand) ∈ x_big := x_in 391 (by decide +kernel)
theorem kw_392 : Cond.code yX7_kindAtHand cX7_kindAtHand 1 (some .int) ∈ x_big := x_in 392 (by decide +kernel)
theorem kw_398 : (Cond.methodLink "EvePost$Tape" (61 : Nat) yX7_isNumberUpTo) ∈ x_big := x_in 398 (by decide +kernel)
theorem kw_400 : (Cond.instanceMethod yX7_isNumberUpTo) ∈ x_big := x_in 400 (by decide +kernel)
theorem kw_401 : Cond.code yX7_isNumberUpTo cX7_isNumberUpTo 2 (some .boolean) ∈ x_big := x_in 401 (by decide +kernel)
theorem kw_402 : (Cond.methodLink "EvePost$Tape" (64 : Nat) yX7_numberAtHand) ∈ x_big := x_in 402 (by decide +kernel)
theorem kw_404 : (Cond.instanceMethod yX7_numberAtHand) ∈ x_big := x_in 404 (by decide +kernel)
theorem kw_405 : Cond.code yX7_numberAtHand cX7_numberAtHand 3 (some .int) ∈ x_big := x_in 405 (by decide +kernel)
theorem kw_406 : (Cond.methodLink "EvePost$Tape" (67 : Nat) yX7_newPerson) ∈ x_big := x_in 406 (by decide +kernel)
theorem kw_407 : (Cond.static yX7_newPerson) ∈ x_big := x_in 407 (by decide +kernel)
theorem kw_408 : Cond.code yX7_newPerson cX7_newPerson 4 (some (.object "EvePost$Person")) ∈ x_big := x_in 408 (by decide +kernel)
theorem kw_409 : (Cond.classLink "EvePost$Tape" (81 : Nat) "EvePost$TrueOne") ∈ x_big := x_in 409 (by decide +kernel)
theorem kw_410 : (Cond.instantiable "EvePost$TrueOne" (3 : Nat)) ∈ x_big := x_in 410 (by decide +kernel)
theorem kw_411 : (Cond.methodLink "EvePost$Tape" (83 : Nat) yX10_init) ∈ x_big := x_in 411 (by decide +kernel)
theorem kw_412 : (Cond.instanceMethod yX10_init) ∈ x_big := x_in 412 (by decide +kernel)
theorem kw_413 : Cond.code yX10_init cX10_init 4 none ∈ x_big := x_in 413 (by decide +kernel)
theorem kw_414 : (Cond.methodLink "EvePost$TrueOne" (1 : Nat) yX5_init) ∈ x_big := x_in 414 (by decide +kernel)
theorem kw_415 : (Cond.instanceMethod yX5_init) ∈ x_big := x_in 415 (by decide +kernel)
theorem kw_416 : Cond.code yX5_init cX5_init 4 none ∈ x_big := x_in 416 (by decide +kernel)
theorem kw_417 : (Cond.methodLink "EvePost$Person" (1 : Nat) objectInit) ∈ x_big := x_in 417 (by decide +kernel)
theorem kw_418 : (Cond.fieldLink "EvePost$Person" (7 : Nat) "EvePost$Person" "number" "I") ∈ x_big := x_in 418 (by decide +kernel)
theorem kw_419 : (Cond.fieldLink "EvePost$MoodyOne" (19 : Nat) "EvePost$MoodyOne" "number" "I") ∈ x_big := x_in 419 (by decide +kernel)
theorem kw_420 : (Cond.sameField "EvePost$MoodyOne" "EvePost$Person" "number" "I") ∈ x_big := x_in 420 (by decide +kernel)
theorem kw_421 : (Cond.fieldLink "EvePost" (244 : Nat) "EvePost$Person" "number" "I") ∈ x_big := x_in 421 (by decide +kernel)
theorem kw_422 : (Cond.fieldLink "EvePost$Person" (13 : Nat) "EvePost$Person" "whom" "I") ∈ x_big := x_in 422 (by decide +kernel)
theorem kw_423 : (Cond.fieldLink "EvePost$CrossOne" (7 : Nat) "EvePost$CrossOne" "whom" "I") ∈ x_big := x_in 423 (by decide +kernel)
theorem kw_424 : (Cond.sameField "EvePost$CrossOne" "EvePost$Person" "whom" "I") ∈ x_big := x_in 424 (by decide +kernel)
theorem kw_425 : (Cond.fieldLink "EvePost$TrueOne" (7 : Nat) "EvePost$TrueOne" "whom" "I") ∈ x_big := x_in 425 (by decide +kernel)
theorem kw_426 : (Cond.sameField "EvePost$TrueOne" "EvePost$Person" "whom" "I") ∈ x_big := x_in 426 (by decide +kernel)
theorem kw_427 : (Cond.fieldLink "EvePost$MoodyOne" (7 : Nat) "EvePost$MoodyOne" "whom" "I") ∈ x_big := x_in 427 (by decide +kernel)
theorem kw_428 : (Cond.sameField "EvePost$MoodyOne" "EvePost$Person" "whom" "I") ∈ x_big := x_in 428 (by decide +kernel)
theorem kw_429 : (Cond.fieldLink "EvePost" (163 : Nat) "EvePost$Person" "whom" "I") ∈ x_big := x_in 429 (by decide +kernel)
theorem kw_430 : (Cond.fieldLink "EvePost$Person" (16 : Nat) "EvePost$Person" "many" "I") ∈ x_big := x_in 430 (by decide +kernel)
theorem kw_431 : (Cond.fieldLink "EvePost$CrowdOne" (13 : Nat) "EvePost$CrowdOne" "many" "I") ∈ x_big := x_in 431 (by decide +kernel)
theorem kw_432 : (Cond.sameField "EvePost$CrowdOne" "EvePost$Person" "many" "I") ∈ x_big := x_in 432 (by decide +kernel)
theorem kw_433 : (Cond.fieldLink "EvePost$LotOne" (15 : Nat) "EvePost$LotOne" "many" "I") ∈ x_big := x_in 433 (by decide +kernel)
theorem kw_434 : (Cond.sameField "EvePost$LotOne" "EvePost$Person" "many" "I") ∈ x_big := x_in 434 (by decide +kernel)
theorem kw_435 : (Cond.fieldLink "EvePost" (168 : Nat) "EvePost$Person" "many" "I") ∈ x_big := x_in 435 (by decide +kernel)
theorem kw_442 : (Cond.superclass "EvePost$TrueOne" "EvePost$Person") ∈ x_big := x_in 442 (by decide +kernel)
theorem kw_443 : (Cond.classLink "EvePost$Tape" (86 : Nat) "EvePost$CrossOne") ∈ x_big := x_in 443 (by decide +kernel)
theorem kw_444 : (Cond.instantiable "EvePost$CrossOne" (3 : Nat)) ∈ x_big := x_in 444 (by decide +kernel)
theorem kw_445 : (Cond.methodLink "EvePost$Tape" (88 : Nat) yX0_init) ∈ x_big := x_in 445 (by decide +kernel)
theorem kw_446 : (Cond.instanceMethod yX0_init) ∈ x_big := x_in 446 (by decide +kernel)
theorem kw_447 : Cond.code yX0_init cX0_init 4 none ∈ x_big := x_in 447 (by decide +kernel)
theorem kw_448 : (Cond.methodLink "EvePost$CrossOne" (1 : Nat) yX10_init) ∈ x_big := x_in 448 (by decide +kernel)
theorem kw_452 : (Cond.superclass "EvePost$CrossOne" "EvePost$TrueOne") ∈ x_big := x_in 452 (by decide +kernel)
theorem kw_453 : (Cond.classLink "EvePost$Tape" (89 : Nat) "EvePost$LotOne") ∈ x_big := x_in 453 (by decide +kernel)
theorem kw_454 : (Cond.instantiable "EvePost$LotOne" (3 : Nat)) ∈ x_big := x_in 454 (by decide +kernel)
theorem kw_455 : (Cond.methodLink "EvePost$Tape" (91 : Nat) yX3_init) ∈ x_big := x_in 455 (by decide +kernel)
theorem kw_456 : (Cond.instanceMethod yX3_init) ∈ x_big := x_in 456 (by decide +kernel)
theorem kw_457 : Cond.code yX3_init cX3_init 4 none ∈ x_big := x_in 457 (by decide +kernel)
theorem kw_458 : (Cond.methodLink "EvePost$LotOne" (1 : Nat) yX10_init) ∈ x_big := x_in 458 (by decide +kernel)
theorem kw_462 : (Cond.superclass "EvePost$LotOne" "EvePost$TrueOne") ∈ x_big := x_in 462 (by decide +kernel)
theorem kw_463 : (Cond.classLink "EvePost$Tape" (92 : Nat) "EvePost$CrowdOne") ∈ x_big := x_in 463 (by decide +kernel)
theorem kw_464 : (Cond.instantiable "EvePost$CrowdOne" (3 : Nat)) ∈ x_big := x_in 464 (by decide +kernel)
theorem kw_465 : (Cond.methodLink "EvePost$Tape" (94 : Nat) yX1_init) ∈ x_big := x_in 465 (by decide +kernel)
theorem kw_466 : (Cond.instanceMethod yX1_init) ∈ x_big := x_in 466 (by decide +kernel)
theorem kw_467 : Cond.code yX1_init cX1_init 4 none ∈ x_big := x_in 467 (by decide +kernel)
theorem kw_468 : (Cond.methodLink "EvePost$CrowdOne" (1 : Nat) yX5_init) ∈ x_big := x_in 468 (by decide +kernel)
theorem kw_472 : (Cond.superclass "EvePost$CrowdOne" "EvePost$Person") ∈ x_big := x_in 472 (by decide +kernel)
theorem kw_473 : (Cond.classLink "EvePost$Tape" (95 : Nat) "EvePost$MoodyOne") ∈ x_big := x_in 473 (by decide +kernel)
theorem kw_474 : (Cond.instantiable "EvePost$MoodyOne" (3 : Nat)) ∈ x_big := x_in 474 (by decide +kernel)
theorem kw_475 : (Cond.methodLink "EvePost$Tape" (97 : Nat) yX4_init) ∈ x_big := x_in 475 (by decide +kernel)
theorem kw_476 : (Cond.instanceMethod yX4_init) ∈ x_big := x_in 476 (by decide +kernel)
theorem kw_477 : Cond.code yX4_init cX4_init 4 none ∈ x_big := x_in 477 (by decide +kernel)
theorem kw_478 : (Cond.methodLink "EvePost$MoodyOne" (1 : Nat) yX1_init) ∈ x_big := x_in 478 (by decide +kernel)
theorem kw_482 : (Cond.superclass "EvePost$MoodyOne" "EvePost$CrowdOne") ∈ x_big := x_in 482 (by decide +kernel)
theorem kw_483 : (Cond.constant "EvePost" (112 : Nat) (-1000100 : Int32)) ∈ x_big := x_in 483 (by decide +kernel)
theorem kw_484 : (Cond.methodLink "EvePost" (113 : Nat) yX8_settle) ∈ x_big := x_in 484 (by decide +kernel)
theorem kw_485 : (Cond.instanceMethod yX8_settle) ∈ x_big := x_in 485 (by decide +kernel)
theorem kw_486 : (Cond.selects "EvePost$Town" yX8_settle yX8_settle) ∈ x_big := x_in 486 (by decide +kernel)
theorem kw_487 : Cond.code yX8_settle cX8_settle 3 none ∈ x_big := x_in 487 (by decide +kernel)
theorem kw_488 : (Cond.methodLink "EvePost$Town" (38 : Nat) yX7_peopleRead) ∈ x_big := x_in 488 (by decide +kernel)
theorem kw_489 : (Cond.instanceMethod yX7_peopleRead) ∈ x_big := x_in 489 (by decide +kernel)
theorem kw_490 : (Cond.selects "EvePost$Tape" yX7_peopleRead yX7_peopleRead) ∈ x_big := x_in 490 (by decide +kernel)
theorem kw_491 : Cond.code yX7_peopleRead cX7_peopleRead 1 (some .int) ∈ x_big := x_in 491 (by decide +kernel)
theorem kw_492 : (Cond.methodLink "EvePost$Town" (43 : Nat) yJ9_min_7cf53) ∈ x_big := x_in 492 (by decide +kernel)
theorem kw_493 : (Cond.static yJ9_min_7cf53) ∈ x_big := x_in 493 (by decide +kernel)
theorem kw_494 : Cond.code yJ9_min_7cf53 cJ9_min_7cf53 2 (some .int) ∈ x_big := x_in 494 (by decide +kernel)
theorem kw_495 : (Cond.methodLink "EvePost$Town" (49 : Nat) yX7_reading) ∈ x_big := x_in 495 (by decide +kernel)
theorem kw_496 : (Cond.instanceMethod yX7_reading) ∈ x_big := x_in 496 (by decide +kernel)
theorem kw_497 : (Cond.selects "EvePost$Tape" yX7_reading yX7_reading) ∈ x_big := x_in 497 (by decide +kernel)
theorem kw_498 : Cond.code yX7_reading cX7_reading 2 (some (.object "EvePost$Person")) ∈ x_big := x_in 498 (by decide +kernel)
theorem kw_499 : (Cond.methodLink "EvePost$Town" (53 : Nat) yX8_learn) ∈ x_big := x_in 499 (by decide +kernel)
theorem kw_501 : (Cond.instanceMethod yX8_learn) ∈ x_big := x_in 501 (by decide +kernel)
theorem kw_502 : Cond.code yX8_learn cX8_learn 2 none ∈ x_big := x_in 502 (by decide +kernel)
theorem kw_503 : (Cond.methodLink "EvePost$Town" (73 : Nat) yX8_one) ∈ x_big := x_in 503 (by decide +kernel)
theorem kw_504 : (Cond.instanceMethod yX8_one) ∈ x_big := x_in 504 (by decide +kernel)
theorem kw_505 : (Cond.selects "EvePost$Town" yX8_one yX8_one) ∈ x_big := x_in 505 (by decide +kernel)
theorem kw_506 : Cond.code yX8_one cX8_one 2 (some (.object "EvePost$Person")) ∈ x_big := x_in 506 (by decide +kernel)
theorem kw_507 : (Cond.classLink "EvePost$Town" (97 : Nat) "EvePost$MoodyOne") ∈ x_big := x_in 507 (by decide +kernel)
theorem kw_508 : (Cond.methodLink "EvePost$Town" (34 : Nat) yX8_letters) ∈ x_big := x_in 508 (by decide +kernel)
theorem kw_509 : (Cond.instanceMethod yX8_letters) ∈ x_big := x_in 509 (by decide +kernel)
theorem kw_510 : (Cond.selects "EvePost$Town" yX8_letters yX8_letters) ∈ x_big := x_in 510 (by decide +kernel)
theorem kw_511 : Cond.code yX8_letters cX8_letters 1 (some .int) ∈ x_big := x_in 511 (by decide +kernel)
theorem kw_512 : (Cond.methodLink "EvePost$Town" (99 : Nat) yX8_freshOutcome) ∈ x_big := x_in 512 (by decide +kernel)
theorem kw_514 : (Cond.instanceMethod yX8_freshOutcome) ∈ x_big := x_in 514 (by decide +kernel)
theorem kw_515 : Cond.code yX8_freshOutcome cX8_freshOutcome 5 (some .int) ∈ x_big := x_in 515 (by decide +kernel)
theorem kw_516 : (Cond.methodLink "EvePost$Town" (102 : Nat) (⟨"EvePost$Person", "doesIt", "(II)Z"⟩ : MethodName)) ∈ x_big := x_in 516 (by decide +kernel)
theorem kw_518 : (Cond.sameMethod "EvePost$Person" "EvePost$Person" "doesIt" "(II)Z") ∈ x_big := x_in 518 (by decide +kernel)
theorem kw_519 : (Cond.selects "EvePost$CrossOne" (⟨"EvePost$Person", "doesIt", "(II)Z"⟩ : MethodName) yX0_doesIt) ∈ x_big := x_in 519 (by decide +kernel)
theorem kw_520 : (Cond.instanceMethod yX0_doesIt) ∈ x_big := x_in 520 (by decide +kernel)
theorem kw_521 : Cond.code yX0_doesIt cX0_doesIt 3 (some .boolean) ∈ x_big := x_in 521 (by decide +kernel)
theorem kw_523 : (Cond.static yX11_holds) ∈ x_big := x_in 523 (by decide +kernel)
theorem kw_524 : Cond.code yX11_holds cX11_holds 2 (some .boolean) ∈ x_big := x_in 524 (by decide +kernel)
theorem kw_525 : (Cond.selects "EvePost$CrowdOne" (⟨"EvePost$Person", "doesIt", "(II)Z"⟩ : MethodName) yX1_doesIt) ∈ x_big := x_in 525 (by decide +kernel)
theorem kw_526 : (Cond.instanceMethod yX1_doesIt) ∈ x_big := x_in 526 (by decide +kernel)
theorem kw_527 : Cond.code yX1_doesIt cX1_doesIt 3 (some .boolean) ∈ x_big := x_in 527 (by decide +kernel)
theorem kw_528 : (Cond.methodLink "EvePost$CrowdOne" (7 : Nat) yJ6_bitCount_0f7a4) ∈ x_big := x_in 528 (by decide +kernel)
theorem kw_529 : (Cond.static yJ6_bitCount_0f7a4) ∈ x_big := x_in 529 (by decide +kernel)
theorem kw_530 : Cond.code yJ6_bitCount_0f7a4 cJ6_bitCount_0f7a4 1 (some .int) ∈ x_big := x_in 530 (by decide +kernel)
theorem kw_531 : (Cond.constant "java/lang/Integer" (265 : Nat) (1431655765 : Int32)) ∈ x_big := x_in 531 (by decide +kernel)
theorem kw_532 : (Cond.constant "java/lang/Integer" (266 : Nat) (858993459 : Int32)) ∈ x_big := x_in 532 (by decide +kernel)
theorem kw_533 : (Cond.constant "java/lang/Integer" (267 : Nat) (252645135 : Int32)) ∈ x_big := x_in 533 (by decide +kernel)
theorem kw_534 : (Cond.selects "EvePost$LotOne" (⟨"EvePost$Person", "doesIt", "(II)Z"⟩ : MethodName) yX10_doesIt) ∈ x_big := x_in 534 (by decide +kernel)
theorem kw_535 : (Cond.instanceMethod yX10_doesIt) ∈ x_big := x_in 535 (by decide +kernel)
theorem kw_536 : Cond.code yX10_doesIt cX10_doesIt 3 (some .boolean) ∈ x_big := x_in 536 (by decide +kernel)
theorem kw_538 : (Cond.selects "EvePost$MoodyOne" (⟨"EvePost$Person", "doesIt", "(II)Z"⟩ : MethodName) yX4_doesIt) ∈ x_big := x_in 538 (by decide +kernel)
theorem kw_539 : (Cond.instanceMethod yX4_doesIt) ∈ x_big := x_in 539 (by decide +kernel)
theorem kw_540 : Cond.code yX4_doesIt cX4_doesIt 3 (some .boolean) ∈ x_big := x_in 540 (by decide +kernel)
theorem kw_542 : (Cond.selects "EvePost$TrueOne" (⟨"EvePost$Person", "doesIt", "(II)Z"⟩ : MethodName) yX10_doesIt) ∈ x_big := x_in 542 (by decide +kernel)
theorem kw_543 : (Cond.methodLink "EvePost" (117 : Nat) yX8_size) ∈ x_big := x_in 543 (by decide +kernel)
theorem kw_544 : (Cond.instanceMethod yX8_size) ∈ x_big := x_in 544 (by decide +kernel)
theorem kw_545 : (Cond.selects "EvePost$Town" yX8_size yX8_size) ∈ x_big := x_in 545 (by decide +kernel)
theorem kw_546 : Cond.code yX8_size cX8_size 1 (some .int) ∈ x_big := x_in 546 (by decide +kernel)
theorem kw_547 : (Cond.methodLink "EvePostLaw" (44 : Nat) yX11_fault) ∈ x_big := x_in 547 (by decide +kernel)
theorem kw_548 : (Cond.instanceMethod yX11_fault) ∈ x_big := x_in 548 (by decide +kernel)
theorem kw_549 : (Cond.selects "EvePost" yX11_fault yX11_fault) ∈ x_big := x_in 549 (by decide +kernel)
theorem kw_550 : Cond.code yX11_fault cX11_fault 1 (some .int) ∈ x_big := x_in 550 (by decide +kernel)
theorem kw_551 : (Cond.methodLink "EvePost" (120 : Nat) yX7_latestFault) ∈ x_big := x_in 551 (by decide +kernel)
theorem kw_552 : (Cond.instanceMethod yX7_latestFault) ∈ x_big := x_in 552 (by decide +kernel)
theorem kw_553 : (Cond.selects "EvePost$Tape" yX7_latestFault yX7_latestFault) ∈ x_big := x_in 553 (by decide +kernel)
theorem kw_554 : Cond.code yX7_latestFault cX7_latestFault 1 (some .int) ∈ x_big := x_in 554 (by decide +kernel)
theorem kw_555 : (Cond.methodLink "EvePostLaw" (48 : Nat) yX11_post) ∈ x_big := x_in 555 (by decide +kernel)
theorem kw_556 : (Cond.instanceMethod yX11_post) ∈ x_big := x_in 556 (by decide +kernel)
theorem kw_557 : (Cond.selects "EvePost" yX11_post yX11_post) ∈ x_big := x_in 557 (by decide +kernel)
theorem kw_558 : Cond.code yX11_post cX11_post 2 (some .int) ∈ x_big := x_in 558 (by decide +kernel)
theorem kw_559 : (Cond.methodLink "EvePost" (123 : Nat) yX8_isNone) ∈ x_big := x_in 559 (by decide +kernel)
theorem kw_560 : (Cond.instanceMethod yX8_isNone) ∈ x_big := x_in 560 (by decide +kernel)
theorem kw_561 : (Cond.selects "EvePost$Town" yX8_isNone yX8_isNone) ∈ x_big := x_in 561 (by decide +kernel)
theorem kw_562 : Cond.code yX8_isNone cX8_isNone 1 (some .boolean) ∈ x_big := x_in 562 (by decide +kernel)
theorem kw_563 : (Cond.constant "EvePost" (127 : Nat) (-1000002 : Int32)) ∈ x_big := x_in 563 (by decide +kernel)
theorem kw_564 : (Cond.methodLink "EvePost" (128 : Nat) yX8_isSet) ∈ x_big := x_in 564 (by decide +kernel)
theorem kw_565 : (Cond.instanceMethod yX8_isSet) ∈ x_big := x_in 565 (by decide +kernel)
theorem kw_566 : (Cond.selects "EvePost$Town" yX8_isSet yX8_isSet) ∈ x_big := x_in 566 (by decide +kernel)
theorem kw_567 : Cond.code yX8_isSet cX8_isSet 2 (some .boolean) ∈ x_big := x_in 567 (by decide +kernel)
theorem kw_568 : (Cond.methodLink "EvePost" (131 : Nat) yX8_agrees) ∈ x_big := x_in 568 (by decide +kernel)
theorem kw_569 : (Cond.instanceMethod yX8_agrees) ∈ x_big := x_in 569 (by decide +kernel)
theorem kw_570 : (Cond.selects "EvePost$Town" yX8_agrees yX8_agrees) ∈ x_big := x_in 570 (by decide +kernel)
theorem kw_571 : Cond.code yX8_agrees cX8_agrees 2 (some .boolean) ∈ x_big := x_in 571 (by decide +kernel)
theorem kw_572 : (Cond.methodLink "EvePost$Town" (65 : Nat) yX8_agreesAfter) ∈ x_big := x_in 572 (by decide +kernel)
theorem kw_573 : (Cond.instanceMethod yX8_agreesAfter) ∈ x_big := x_in 573 (by decide +kernel)
theorem kw_574 : (Cond.selects "EvePost$Town" yX8_agreesAfter yX8_agreesAfter) ∈ x_big := x_in 574 (by decide +kernel)
theorem kw_575 : Cond.code yX8_agreesAfter cX8_agreesAfter 3 (some .boolean) ∈ x_big := x_in 575 (by decide +kernel)
theorem kw_576 : (Cond.methodLink "EvePost$Town" (62 : Nat) yX8_outcomeAfter) ∈ x_big := x_in 576 (by decide +kernel)
theorem kw_578 : (Cond.instanceMethod yX8_outcomeAfter) ∈ x_big := x_in 578 (by decide +kernel)
theorem kw_579 : Cond.code yX8_outcomeAfter cX8_outcomeAfter 3 (some .int) ∈ x_big := x_in 579 (by decide +kernel)
theorem kw_580 : (Cond.constant "EvePost$Town" (93 : Nat) (-1000000 : Int32)) ∈ x_big := x_in 580 (by decide +kernel)
theorem kw_581 : (Cond.methodLink "EvePost$Town" (94 : Nat) yX8_moodyAmong) ∈ x_big := x_in 581 (by decide +kernel)
theorem kw_582 : (Cond.instanceMethod yX8_moodyAmong) ∈ x_big := x_in 582 (by decide +kernel)
theorem kw_583 : (Cond.selects "EvePost$Town" yX8_moodyAmong yX8_moodyAmong) ∈ x_big := x_in 583 (by decide +kernel)
theorem kw_584 : Cond.code yX8_moodyAmong cX8_moodyAmong 2 (some .int) ∈ x_big := x_in 584 (by decide +kernel)
theorem kw_585 : (Cond.methodLink "EvePost" (134 : Nat) yX8_day) ∈ x_big := x_in 585 (by decide +kernel)
theorem kw_586 : (Cond.instanceMethod yX8_day) ∈ x_big := x_in 586 (by decide +kernel)
theorem kw_587 : (Cond.selects "EvePost$Town" yX8_day yX8_day) ∈ x_big := x_in 587 (by decide +kernel)
theorem kw_588 : Cond.code yX8_day cX8_day 1 (some .int) ∈ x_big := x_in 588 (by decide +kernel)
theorem kw_589 : (Cond.methodLink "EvePost" (137 : Nat) yX11_act) ∈ x_big := x_in 589 (by decide +kernel)
theorem kw_591 : (Cond.instanceMethod yX11_act) ∈ x_big := x_in 591 (by decide +kernel)
theorem kw_592 : Cond.code yX11_act cX11_act 2 none ∈ x_big := x_in 592 (by decide +kernel)
theorem kw_593 : (Cond.methodLink "EvePost" (264 : Nat) (⟨"java/lang/System", "arraycopy", "(Ljava/lang/Object;ILjava/lang/Object;II)V"⟩ : MethodName)) ∈ x_big := x_in 593 (by decide +kernel)
theorem kw_594 : (Cond.methodLink "EvePost" (153 : Nat) yX8_before) ∈ x_big := x_in 594 (by decide +kernel)
theorem kw_595 : (Cond.instanceMethod yX8_before) ∈ x_big := x_in 595 (by decide +kernel)
theorem kw_596 : (Cond.selects "EvePost$Town" yX8_before yX8_before) ∈ x_big := x_in 596 (by decide +kernel)
theorem kw_597 : Cond.code yX8_before cX8_before 1 (some .int) ∈ x_big := x_in 597 (by decide +kernel)
theorem kw_598 : (Cond.methodLink "EvePost" (270 : Nat) yX8_goOn) ∈ x_big := x_in 598 (by decide +kernel)
theorem kw_599 : (Cond.instanceMethod yX8_goOn) ∈ x_big := x_in 599 (by decide +kernel)
theorem kw_600 : (Cond.selects "EvePost$Town" yX8_goOn yX8_goOn) ∈ x_big := x_in 600 (by decide +kernel)
theorem kw_601 : Cond.code yX8_goOn cX8_goOn 2 none ∈ x_big := x_in 601 (by decide +kernel)
theorem kw_602 : (Cond.methodLink "EvePostLaw" (52 : Nat) yX11_posts) ∈ x_big := x_in 602 (by decide +kernel)
theorem kw_603 : (Cond.instanceMethod yX11_posts) ∈ x_big := x_in 603 (by decide +kernel)
theorem kw_604 : (Cond.selects "EvePost" yX11_posts yX11_posts) ∈ x_big := x_in 604 (by decide +kernel)
theorem kw_605 : Cond.code yX11_posts cX11_posts 6 (some .int) ∈ x_big := x_in 605 (by decide +kernel)
theorem kw_606 : (Cond.methodLink "EvePost" (141 : Nat) yX11_refusalOfLetters) ∈ x_big := x_in 606 (by decide +kernel)
theorem kw_608 : (Cond.instanceMethod yX11_refusalOfLetters) ∈ x_big := x_in 608 (by decide +kernel)
theorem kw_609 : Cond.code yX11_refusalOfLetters cX11_refusalOfLetters 7 (some .int) ∈ x_big := x_in 609 (by decide +kernel)
theorem kw_610 : (Cond.methodLink "EvePost" (145 : Nat) yX6_item) ∈ x_big := x_in 610 (by decide +kernel)
theorem kw_611 : (Cond.instanceMethod yX6_item) ∈ x_big := x_in 611 (by decide +kernel)
theorem kw_612 : (Cond.selects "EvePost$Rows" yX6_item yX6_item) ∈ x_big := x_in 612 (by decide +kernel)
theorem kw_613 : Cond.code yX6_item cX6_item 3 (some .int) ∈ x_big := x_in 613 (by decide +kernel)
theorem kw_614 : (Cond.methodLink "EvePostLaw" (56 : Nat) yX11_lots) ∈ x_big := x_in 614 (by decide +kernel)
theorem kw_615 : (Cond.instanceMethod yX11_lots) ∈ x_big := x_in 615 (by decide +kernel)
theorem kw_616 : (Cond.selects "EvePost" yX11_lots yX11_lots) ∈ x_big := x_in 616 (by decide +kernel)
theorem kw_617 : Cond.code yX11_lots cX11_lots 3 (some .int) ∈ x_big := x_in 617 (by decide +kernel)
theorem kw_618 : (Cond.constant "EvePost" (149 : Nat) (999999 : Int32)) ∈ x_big := x_in 618 (by decide +kernel)
theorem kw_619 : (Cond.methodLink "EvePost" (150 : Nat) yX8_outcomeByLots) ∈ x_big := x_in 619 (by decide +kernel)
theorem kw_620 : (Cond.instanceMethod yX8_outcomeByLots) ∈ x_big := x_in 620 (by decide +kernel)
theorem kw_621 : (Cond.selects "EvePost$Town" yX8_outcomeByLots yX8_outcomeByLots) ∈ x_big := x_in 621 (by decide +kernel)
theorem kw_622 : Cond.code yX8_outcomeByLots cX8_outcomeByLots 9 (some .int) ∈ x_big := x_in 622 (by decide +kernel)
theorem kw_623 : (Cond.methodLink "EvePost$Town" (69 : Nat) yX8_outcome) ∈ x_big := x_in 623 (by decide +kernel)
theorem kw_624 : (Cond.instanceMethod yX8_outcome) ∈ x_big := x_in 624 (by decide +kernel)
theorem kw_625 : (Cond.selects "EvePost$Town" yX8_outcome yX8_outcome) ∈ x_big := x_in 625 (by decide +kernel)
theorem kw_626 : Cond.code yX8_outcome cX8_outcome 2 (some .int) ∈ x_big := x_in 626 (by decide +kernel)
theorem kw_627 : (Cond.classLink "EvePost$Town" (76 : Nat) "EvePost$LotOne") ∈ x_big := x_in 627 (by decide +kernel)
theorem kw_628 : (Cond.constantLong "EvePost$Town" (78 : Nat) (16807 : Int64)) ∈ x_big := x_in 628 (by decide +kernel)
theorem kw_629 : (Cond.constantLong "EvePost$Town" (80 : Nat) (2147483647 : Int64)) ∈ x_big := x_in 629 (by decide +kernel)
theorem kw_630 : (Cond.methodLink "EvePost$Town" (82 : Nat) yX3_turnsBy) ∈ x_big := x_in 630 (by decide +kernel)
theorem kw_631 : (Cond.instanceMethod yX3_turnsBy) ∈ x_big := x_in 631 (by decide +kernel)
theorem kw_632 : (Cond.selects "EvePost$LotOne" yX3_turnsBy yX3_turnsBy) ∈ x_big := x_in 632 (by decide +kernel)
theorem kw_633 : Cond.code yX3_turnsBy cX3_turnsBy 3 (some .boolean) ∈ x_big := x_in 633 (by decide +kernel)
theorem kw_634 : (Cond.constantLong "EvePost$LotOne" (19 : Nat) (10 : Int64)) ∈ x_big := x_in 634 (by decide +kernel)
theorem kw_635 : (Cond.methodLink "EvePostLaw" (61 : Nat) yX11_undo) ∈ x_big := x_in 635 (by decide +kernel)
theorem kw_636 : (Cond.instanceMethod yX11_undo) ∈ x_big := x_in 636 (by decide +kernel)
theorem kw_637 : (Cond.selects "EvePost" yX11_undo yX11_undo) ∈ x_big := x_in 637 (by decide +kernel)
theorem kw_638 : Cond.code yX11_undo cX11_undo 1 (some .int) ∈ x_big := x_in 638 (by decide +kernel)
theorem kw_639 : (Cond.methodLink "EvePost" (156 : Nat) yX8_goBack) ∈ x_big := x_in 639 (by decide +kernel)
theorem kw_640 : (Cond.instanceMethod yX8_goBack) ∈ x_big := x_in 640 (by decide +kernel)
theorem kw_641 : (Cond.selects "EvePost$Town" yX8_goBack yX8_goBack) ∈ x_big := x_in 641 (by decide +kernel)
theorem kw_642 : Cond.code yX8_goBack cX8_goBack 2 none ∈ x_big := x_in 642 (by decide +kernel)
theorem kw_643 : (Cond.methodLink "EvePostLaw" (65 : Nat) yX11_person) ∈ x_big := x_in 643 (by decide +kernel)
theorem kw_644 : (Cond.instanceMethod yX11_person) ∈ x_big := x_in 644 (by decide +kernel)
theorem kw_645 : (Cond.selects "EvePost" yX11_person yX11_person) ∈ x_big := x_in 645 (by decide +kernel)
theorem kw_646 : Cond.code yX11_person cX11_person 4 (some .int) ∈ x_big := x_in 646 (by decide +kernel)
theorem kw_647 : (Cond.methodLink "EvePost" (159 : Nat) yX8_one) ∈ x_big := x_in 647 (by decide +kernel)
theorem kw_648 : (Cond.methodLink "EvePost" (171 : Nat) yX11_holds) ∈ x_big := x_in 648 (by decide +kernel)
theorem kw_649 : (Cond.methodLink "EvePostLaw" (69 : Nat) yX11_done) ∈ x_big := x_in 649 (by decide +kernel)
theorem kw_650 : (Cond.instanceMethod yX11_done) ∈ x_big := x_in 650 (by decide +kernel)
theorem kw_651 : (Cond.selects "EvePost" yX11_done yX11_done) ∈ x_big := x_in 651 (by decide +kernel)
theorem kw_652 : Cond.code yX11_done cX11_done 2 (some .int) ∈ x_big := x_in 652 (by decide +kernel)
theorem kw_653 : (Cond.methodLink "EvePost" (174 : Nat) yX8_outcome) ∈ x_big := x_in 653 (by decide +kernel)
theorem kw_654 : (Cond.methodLink "EvePostLaw" (73 : Nat) yX11_agreeing) ∈ x_big := x_in 654 (by decide +kernel)
theorem kw_655 : (Cond.instanceMethod yX11_agreeing) ∈ x_big := x_in 655 (by decide +kernel)
theorem kw_656 : (Cond.selects "EvePost" yX11_agreeing yX11_agreeing) ∈ x_big := x_in 656 (by decide +kernel)
theorem kw_657 : Cond.code yX11_agreeing cX11_agreeing 2 (some .int) ∈ x_big := x_in 657 (by decide +kernel)
theorem kw_658 : (Cond.methodLink "EvePost" (177 : Nat) yX2_howManyAgree) ∈ x_big := x_in 658 (by decide +kernel)
theorem kw_659 : (Cond.instanceMethod yX2_howManyAgree) ∈ x_big := x_in 659 (by decide +kernel)
theorem kw_660 : (Cond.selects "EvePost$Foretold" yX2_howManyAgree yX2_howManyAgree) ∈ x_big := x_in 660 (by decide +kernel)
theorem kw_661 : Cond.code yX2_howManyAgree cX2_howManyAgree 2 (some .int) ∈ x_big := x_in 661 (by decide +kernel)
theorem kw_662 : (Cond.methodLink "EvePost$Foretold" (16 : Nat) yX2_everybody) ∈ x_big := x_in 662 (by decide +kernel)
theorem kw_664 : (Cond.instanceMethod yX2_everybody) ∈ x_big := x_in 664 (by decide +kernel)
theorem kw_665 : Cond.code yX2_everybody cX2_everybody 2 (some .int) ∈ x_big := x_in 665 (by decide +kernel)
theorem kw_666 : (Cond.methodLink "EvePost$Foretold" (24 : Nat) yX8_letters) ∈ x_big := x_in 666 (by decide +kernel)
theorem kw_667 : (Cond.methodLink "EvePost$Foretold" (20 : Nat) yX2_howManyReadBy) ∈ x_big := x_in 667 (by decide +kernel)
theorem kw_668 : (Cond.instanceMethod yX2_howManyReadBy) ∈ x_big := x_in 668 (by decide +kernel)
theorem kw_669 : (Cond.selects "EvePost$Foretold" yX2_howManyReadBy yX2_howManyReadBy) ∈ x_big := x_in 669 (by decide +kernel)
theorem kw_670 : Cond.code yX2_howManyReadBy cX2_howManyReadBy 6 (some .int) ∈ x_big := x_in 670 (by decide +kernel)
theorem kw_671 : (Cond.methodLink "EvePost$Foretold" (55 : Nat) yX8_before) ∈ x_big := x_in 671 (by decide +kernel)
theorem kw_672 : (Cond.methodLink "EvePost$Foretold" (52 : Nat) yX8_outcome) ∈ x_big := x_in 672 (by decide +kernel)
theorem kw_673 : (Cond.methodLink "EvePost" (181 : Nat) yX2_agreeingLetter) ∈ x_big := x_in 673 (by decide +kernel)
theorem kw_674 : (Cond.instanceMethod yX2_agreeingLetter) ∈ x_big := x_in 674 (by decide +kernel)
theorem kw_675 : (Cond.selects "EvePost$Foretold" yX2_agreeingLetter yX2_agreeingLetter) ∈ x_big := x_in 675 (by decide +kernel)
theorem kw_676 : Cond.code yX2_agreeingLetter cX2_agreeingLetter 5 (some .int) ∈ x_big := x_in 676 (by decide +kernel)
theorem kw_677 : (Cond.methodLink "EvePost$Foretold" (30 : Nat) yX8_agrees) ∈ x_big := x_in 677 (by decide +kernel)
theorem kw_678 : (Cond.constant "EvePost$Foretold" (34 : Nat) (-1000000 : Int32)) ∈ x_big := x_in 678 (by decide +kernel)
theorem kw_679 : (Cond.methodLink "EvePostLaw" (77 : Nat) yX11_fullest) ∈ x_big := x_in 679 (by decide +kernel)
theorem kw_680 : (Cond.instanceMethod yX11_fullest) ∈ x_big := x_in 680 (by decide +kernel)
theorem kw_681 : (Cond.selects "EvePost" yX11_fullest yX11_fullest) ∈ x_big := x_in 681 (by decide +kernel)
theorem kw_682 : Cond.code yX11_fullest cX11_fullest 1 (some .int) ∈ x_big := x_in 682 (by decide +kernel)
theorem kw_683 : (Cond.methodLink "EvePost" (185 : Nat) yX2_fullestLetter) ∈ x_big := x_in 683 (by decide +kernel)
theorem kw_684 : (Cond.instanceMethod yX2_fullestLetter) ∈ x_big := x_in 684 (by decide +kernel)
theorem kw_685 : (Cond.selects "EvePost$Foretold" yX2_fullestLetter yX2_fullestLetter) ∈ x_big := x_in 685 (by decide +kernel)
theorem kw_686 : Cond.code yX2_fullestLetter cX2_fullestLetter 5 (some .int) ∈ x_big := x_in 686 (by decide +kernel)
theorem kw_687 : (Cond.methodLink "EvePost$Foretold" (35 : Nat) yJ6_bitCount_0f7a4) ∈ x_big := x_in 687 (by decide +kernel)
theorem kw_688 : (Cond.methodLink "EvePostLaw" (81 : Nat) yX11_culprits) ∈ x_big := x_in 688 (by decide +kernel)
theorem kw_689 : (Cond.instanceMethod yX11_culprits) ∈ x_big := x_in 689 (by decide +kernel)
theorem kw_690 : (Cond.selects "EvePost" yX11_culprits yX11_culprits) ∈ x_big := x_in 690 (by decide +kernel)
theorem kw_691 : Cond.code yX11_culprits cX11_culprits 2 (some .int) ∈ x_big := x_in 691 (by decide +kernel)
theorem kw_692 : (Cond.methodLink "EvePost" (188 : Nat) yX2_whoHinders) ∈ x_big := x_in 692 (by decide +kernel)
theorem kw_693 : (Cond.instanceMethod yX2_whoHinders) ∈ x_big := x_in 693 (by decide +kernel)
theorem kw_694 : (Cond.selects "EvePost$Foretold" yX2_whoHinders yX2_whoHinders) ∈ x_big := x_in 694 (by decide +kernel)
theorem kw_695 : Cond.code yX2_whoHinders cX2_whoHinders 5 (some .int) ∈ x_big := x_in 695 (by decide +kernel)
theorem kw_696 : (Cond.methodLink "EvePost$Foretold" (45 : Nat) yX8_size) ∈ x_big := x_in 696 (by decide +kernel)
theorem kw_697 : (Cond.methodLink "EvePost$Foretold" (48 : Nat) yX2_someAgrees) ∈ x_big := x_in 697 (by decide +kernel)
theorem kw_699 : (Cond.instanceMethod yX2_someAgrees) ∈ x_big := x_in 699 (by decide +kernel)
theorem kw_700 : Cond.code yX2_someAgrees cX2_someAgrees 4 (some .boolean) ∈ x_big := x_in 700 (by decide +kernel)
theorem kw_701 : (Cond.methodLink "EvePost$Foretold" (58 : Nat) yX2_leastAgreeing) ∈ x_big := x_in 701 (by decide +kernel)
theorem kw_703 : (Cond.instanceMethod yX2_leastAgreeing) ∈ x_big := x_in 703 (by decide +kernel)
theorem kw_704 : Cond.code yX2_leastAgreeing cX2_leastAgreeing 5 (some .int) ∈ x_big := x_in 704 (by decide +kernel)
theorem kw_705 : (Cond.methodLink "EvePost" (191 : Nat) yX2_whoCouldStop) ∈ x_big := x_in 705 (by decide +kernel)
theorem kw_706 : (Cond.instanceMethod yX2_whoCouldStop) ∈ x_big := x_in 706 (by decide +kernel)
theorem kw_707 : (Cond.selects "EvePost$Foretold" yX2_whoCouldStop yX2_whoCouldStop) ∈ x_big := x_in 707 (by decide +kernel)
theorem kw_708 : Cond.code yX2_whoCouldStop cX2_whoCouldStop 5 (some .int) ∈ x_big := x_in 708 (by decide +kernel)
theorem kw_709 : (Cond.methodLink "EvePostLaw" (85 : Nat) yX11_chains) ∈ x_big := x_in 709 (by decide +kernel)
theorem kw_710 : (Cond.instanceMethod yX11_chains) ∈ x_big := x_in 710 (by decide +kernel)
theorem kw_711 : (Cond.selects "EvePost" yX11_chains yX11_chains) ∈ x_big := x_in 711 (by decide +kernel)
theorem kw_712 : Cond.code yX11_chains cX11_chains 4 (some .int) ∈ x_big := x_in 712 (by decide +kernel)
theorem kw_713 : (Cond.methodLink "EvePost" (194 : Nat) yX2_countChains) ∈ x_big := x_in 713 (by decide +kernel)
theorem kw_714 : (Cond.instanceMethod yX2_countChains) ∈ x_big := x_in 714 (by decide +kernel)
theorem kw_715 : (Cond.selects "EvePost$Foretold" yX2_countChains yX2_countChains) ∈ x_big := x_in 715 (by decide +kernel)
theorem kw_716 : Cond.code yX2_countChains cX2_countChains 6 (some .int) ∈ x_big := x_in 716 (by decide +kernel)
theorem kw_717 : (Cond.methodLink "EvePost$Foretold" (62 : Nat) yJ7_fill_53178) ∈ x_big := x_in 717 (by decide +kernel)
theorem kw_718 : (Cond.methodLink "EvePost$Foretold" (68 : Nat) yX8_moodOf) ∈ x_big := x_in 718 (by decide +kernel)
theorem kw_719 : (Cond.instanceMethod yX8_moodOf) ∈ x_big := x_in 719 (by decide +kernel)
theorem kw_720 : (Cond.selects "EvePost$Town" yX8_moodOf yX8_moodOf) ∈ x_big := x_in 720 (by decide +kernel)
theorem kw_721 : Cond.code yX8_moodOf cX8_moodOf 2 (some .int) ∈ x_big := x_in 721 (by decide +kernel)
theorem kw_722 : (Cond.methodLink "EvePost$Foretold" (71 : Nat) yX2_waysAfter) ∈ x_big := x_in 722 (by decide +kernel)
theorem kw_724 : (Cond.instanceMethod yX2_waysAfter) ∈ x_big := x_in 724 (by decide +kernel)
theorem kw_725 : Cond.code yX2_waysAfter cX2_waysAfter 5 (some .int) ∈ x_big := x_in 725 (by decide +kernel)
theorem kw_726 : (Cond.methodLink "EvePost$Foretold" (81 : Nat) yX8_moodyAmong) ∈ x_big := x_in 726 (by decide +kernel)
theorem kw_727 : (Cond.constant "EvePost" (197 : Nat) (-1000000 : Int32)) ∈ x_big := x_in 727 (by decide +kernel)
theorem kw_728 : (Cond.methodLink "EvePost" (198 : Nat) yX2_letterOfFirstChain) ∈ x_big := x_in 728 (by decide +kernel)
theorem kw_729 : (Cond.instanceMethod yX2_letterOfFirstChain) ∈ x_big := x_in 729 (by decide +kernel)
theorem kw_730 : (Cond.selects "EvePost$Foretold" yX2_letterOfFirstChain yX2_letterOfFirstChain) ∈ x_big := x_in 730 (by decide +kernel)
theorem kw_731 : Cond.code yX2_letterOfFirstChain cX2_letterOfFirstChain 6 (some .int) ∈ x_big := x_in 731 (by decide +kernel)
theorem kw_732 : (Cond.methodLink "EvePost$Foretold" (74 : Nat) yX2_leastThatGoesOn) ∈ x_big := x_in 732 (by decide +kernel)
theorem kw_734 : (Cond.instanceMethod yX2_leastThatGoesOn) ∈ x_big := x_in 734 (by decide +kernel)
theorem kw_735 : Cond.code yX2_leastThatGoesOn cX2_leastThatGoesOn 5 (some .int) ∈ x_big := x_in 735 (by decide +kernel)
theorem kw_736 : (Cond.methodLink "EvePost$Foretold" (77 : Nat) yX8_agreesAfter) ∈ x_big := x_in 736 (by decide +kernel)
theorem kw_737 : (Cond.methodLink "EvePostLaw" (89 : Nat) yX11_breaks) ∈ x_big := x_in 737 (by decide +kernel)
theorem kw_738 : (Cond.instanceMethod yX11_breaks) ∈ x_big := x_in 738 (by decide +kernel)
theorem kw_739 : (Cond.selects "EvePost" yX11_breaks yX11_breaks) ∈ x_big := x_in 739 (by decide +kernel)
theorem kw_740 : Cond.code yX11_breaks cX11_breaks 8 (some .int) ∈ x_big := x_in 740 (by decide +kernel)
theorem kw_741 : (Cond.methodLink "EvePost" (202 : Nat) yX8_agreesAfter) ∈ x_big := x_in 741 (by decide +kernel)
theorem kw_742 : (Cond.methodLink "EvePostLaw" (93 : Nat) yX11_comes) ∈ x_big := x_in 742 (by decide +kernel)
theorem kw_743 : (Cond.instanceMethod yX11_comes) ∈ x_big := x_in 743 (by decide +kernel)
theorem kw_744 : (Cond.selects "EvePost" yX11_comes yX11_comes) ∈ x_big := x_in 744 (by decide +kernel)
theorem kw_745 : Cond.code yX11_comes cX11_comes 7 (some .int) ∈ x_big := x_in 745 (by decide +kernel)
theorem kw_746 : (Cond.methodLink "EvePost" (205 : Nat) yX8_chances) ∈ x_big := x_in 746 (by decide +kernel)
theorem kw_747 : (Cond.instanceMethod yX8_chances) ∈ x_big := x_in 747 (by decide +kernel)
theorem kw_748 : (Cond.selects "EvePost$Town" yX8_chances yX8_chances) ∈ x_big := x_in 748 (by decide +kernel)
theorem kw_749 : Cond.code yX8_chances cX8_chances 6 (some .int) ∈ x_big := x_in 749 (by decide +kernel)
theorem kw_751 : (Cond.methodLink "EvePost$Town" (89 : Nat) yX5_tenths) ∈ x_big := x_in 751 (by decide +kernel)
theorem kw_752 : (Cond.instanceMethod yX5_tenths) ∈ x_big := x_in 752 (by decide +kernel)
theorem kw_753 : (Cond.sameMethod "EvePost$Person" "EvePost$Person" "tenths" "(IIZ)I") ∈ x_big := x_in 753 (by decide +kernel)
theorem kw_754 : (Cond.selects "EvePost$CrossOne" yX5_tenths yX5_tenths) ∈ x_big := x_in 754 (by decide +kernel)
theorem kw_755 : (Cond.selects "EvePost$CrowdOne" yX5_tenths yX5_tenths) ∈ x_big := x_in 755 (by decide +kernel)
theorem kw_756 : (Cond.selects "EvePost$LotOne" yX5_tenths yX3_tenths) ∈ x_big := x_in 756 (by decide +kernel)
theorem kw_757 : (Cond.instanceMethod yX3_tenths) ∈ x_big := x_in 757 (by decide +kernel)
theorem kw_758 : Cond.code yX3_tenths cX3_tenths 4 (some .int) ∈ x_big := x_in 758 (by decide +kernel)
theorem kw_759 : (Cond.methodLink "EvePost$LotOne" (7 : Nat) (⟨"EvePost$LotOne", "doesIt", "(II)Z"⟩ : MethodName)) ∈ x_big := x_in 759 (by decide +kernel)
theorem kw_760 : (Cond.sameMethod "EvePost$LotOne" "EvePost$TrueOne" "doesIt" "(II)Z") ∈ x_big := x_in 760 (by decide +kernel)
theorem kw_762 : (Cond.selects "EvePost$LotOne" (⟨"EvePost$LotOne", "doesIt", "(II)Z"⟩ : MethodName) yX10_doesIt) ∈ x_big := x_in 762 (by decide +kernel)
theorem kw_763 : (Cond.selects "EvePost$MoodyOne" yX5_tenths yX5_tenths) ∈ x_big := x_in 763 (by decide +kernel)
theorem kw_764 : (Cond.selects "EvePost$TrueOne" yX5_tenths yX5_tenths) ∈ x_big := x_in 764 (by decide +kernel)
theorem kw_765 : Cond.code yX5_tenths cX5_tenths 4 (some .int) ∈ x_big := x_in 765 (by decide +kernel)
theorem kw_766 : (Cond.methodLink "EvePost$Person" (19 : Nat) (⟨"EvePost$Person", "doesIt", "(II)Z"⟩ : MethodName)) ∈ x_big := x_in 766 (by decide +kernel)
theorem kw_767 : (Cond.methodLink "EvePost" (208 : Nat) yX8_allChances) ∈ x_big := x_in 767 (by decide +kernel)
theorem kw_768 : (Cond.instanceMethod yX8_allChances) ∈ x_big := x_in 768 (by decide +kernel)
theorem kw_769 : (Cond.selects "EvePost$Town" yX8_allChances yX8_allChances) ∈ x_big := x_in 769 (by decide +kernel)
theorem kw_770 : Cond.code yX8_allChances cX8_allChances 3 (some .int) ∈ x_big := x_in 770 (by decide +kernel)
theorem kw_771 : (Cond.methodLink "EvePost" (211 : Nat) yX11_commonDivisor) ∈ x_big := x_in 771 (by decide +kernel)
theorem kw_772 : (Cond.static yX11_commonDivisor) ∈ x_big := x_in 772 (by decide +kernel)
theorem kw_773 : Cond.code yX11_commonDivisor cX11_commonDivisor 6 (some .int) ∈ x_big := x_in 773 (by decide +kernel)
theorem kw_774 : (Cond.methodLink "EvePostLaw" (97 : Nat) yX11_likeliest) ∈ x_big := x_in 774 (by decide +kernel)
theorem kw_775 : (Cond.instanceMethod yX11_likeliest) ∈ x_big := x_in 775 (by decide +kernel)
theorem kw_776 : (Cond.selects "EvePost" yX11_likeliest yX11_likeliest) ∈ x_big := x_in 776 (by decide +kernel)
theorem kw_777 : Cond.code yX11_likeliest cX11_likeliest 1 (some .int) ∈ x_big := x_in 777 (by decide +kernel)
theorem kw_778 : (Cond.methodLink "EvePost" (214 : Nat) yX2_likeliestLetter) ∈ x_big := x_in 778 (by decide +kernel)
theorem kw_779 : (Cond.instanceMethod yX2_likeliestLetter) ∈ x_big := x_in 779 (by decide +kernel)
theorem kw_780 : (Cond.selects "EvePost$Foretold" yX2_likeliestLetter yX2_likeliestLetter) ∈ x_big := x_in 780 (by decide +kernel)
theorem kw_781 : Cond.code yX2_likeliestLetter cX2_likeliestLetter 6 (some .int) ∈ x_big := x_in 781 (by decide +kernel)
theorem kw_782 : (Cond.methodLink "EvePost$Foretold" (41 : Nat) yX8_chances) ∈ x_big := x_in 782 (by decide +kernel)
theorem kw_783 : (Cond.methodLink "EvePostLaw" (101 : Nat) yX11_lost) ∈ x_big := x_in 783 (by decide +kernel)
theorem kw_784 : (Cond.instanceMethod yX11_lost) ∈ x_big := x_in 784 (by decide +kernel)
theorem kw_785 : (Cond.selects "EvePost" yX11_lost yX11_lost) ∈ x_big := x_in 785 (by decide +kernel)
theorem kw_786 : Cond.code yX11_lost cX11_lost 3 (some .int) ∈ x_big := x_in 786 (by decide +kernel)
theorem kw_787 : (Cond.methodLink "EvePost" (217 : Nat) yX2_howManyBring) ∈ x_big := x_in 787 (by decide +kernel)
theorem kw_788 : (Cond.instanceMethod yX2_howManyBring) ∈ x_big := x_in 788 (by decide +kernel)
theorem kw_789 : (Cond.selects "EvePost$Foretold" yX2_howManyBring yX2_howManyBring) ∈ x_big := x_in 789 (by decide +kernel)
theorem kw_790 : Cond.code yX2_howManyBring cX2_howManyBring 5 (some .int) ∈ x_big := x_in 790 (by decide +kernel)
theorem kw_791 : (Cond.methodLink "EvePost" (220 : Nat) yX2_leastThatBrings) ∈ x_big := x_in 791 (by decide +kernel)
theorem kw_792 : (Cond.instanceMethod yX2_leastThatBrings) ∈ x_big := x_in 792 (by decide +kernel)
theorem kw_793 : (Cond.selects "EvePost$Foretold" yX2_leastThatBrings yX2_leastThatBrings) ∈ x_big := x_in 793 (by decide +kernel)
theorem kw_794 : Cond.code yX2_leastThatBrings cX2_leastThatBrings 4 (some .int) ∈ x_big := x_in 794 (by decide +kernel)
theorem kw_795 : (Cond.methodLink "EvePostLaw" (105 : Nat) yX11_readBy) ∈ x_big := x_in 795 (by decide +kernel)
theorem kw_796 : (Cond.instanceMethod yX11_readBy) ∈ x_big := x_in 796 (by decide +kernel)
theorem kw_797 : (Cond.selects "EvePost" yX11_readBy yX11_readBy) ∈ x_big := x_in 797 (by decide +kernel)
theorem kw_798 : Cond.code yX11_readBy cX11_readBy 3 (some .int) ∈ x_big := x_in 798 (by decide +kernel)
theorem kw_799 : (Cond.methodLink "EvePost" (223 : Nat) yX2_howManyReadBy) ∈ x_big := x_in 799 (by decide +kernel)
theorem kw_800 : (Cond.methodLink "EvePost" (226 : Nat) yX2_leastReadBy) ∈ x_big := x_in 800 (by decide +kernel)
theorem kw_801 : (Cond.instanceMethod yX2_leastReadBy) ∈ x_big := x_in 801 (by decide +kernel)
theorem kw_802 : (Cond.selects "EvePost$Foretold" yX2_leastReadBy yX2_leastReadBy) ∈ x_big := x_in 802 (by decide +kernel)
theorem kw_803 : Cond.code yX2_leastReadBy cX2_leastReadBy 3 (some .int) ∈ x_big := x_in 803 (by decide +kernel)
theorem kw_804 : (Cond.methodLink "EvePostLaw" (109 : Nat) yX11_image) ∈ x_big := x_in 804 (by decide +kernel)
theorem kw_805 : (Cond.instanceMethod yX11_image) ∈ x_big := x_in 805 (by decide +kernel)
theorem kw_806 : (Cond.selects "EvePost" yX11_image yX11_image) ∈ x_big := x_in 806 (by decide +kernel)
theorem kw_807 : Cond.code yX11_image cX11_image 3 (some .int) ∈ x_big := x_in 807 (by decide +kernel)
theorem kw_808 : (Cond.methodLink "EvePost" (229 : Nat) yX11_imageAt) ∈ x_big := x_in 808 (by decide +kernel)
theorem kw_810 : (Cond.instanceMethod yX11_imageAt) ∈ x_big := x_in 810 (by decide +kernel)
theorem kw_811 : Cond.code yX11_imageAt cX11_imageAt 2 (some (.object "EvePost$Town")) ∈ x_big := x_in 811 (by decide +kernel)
theorem kw_812 : (Cond.methodLink "EvePost" (233 : Nat) yX8_become) ∈ x_big := x_in 812 (by decide +kernel)
theorem kw_813 : (Cond.instanceMethod yX8_become) ∈ x_big := x_in 813 (by decide +kernel)
theorem kw_814 : (Cond.selects "EvePost$Town" yX8_become yX8_become) ∈ x_big := x_in 814 (by decide +kernel)
theorem kw_815 : Cond.code yX8_become cX8_become 2 none ∈ x_big := x_in 815 (by decide +kernel)
theorem kw_816 : (Cond.methodLink "EvePost$Town" (56 : Nat) (⟨"java/lang/System", "arraycopy", "(Ljava/lang/Object;ILjava/lang/Object;II)V"⟩ : MethodName)) ∈ x_big := x_in 816 (by decide +kernel)
theorem kw_817 : (Cond.methodLink "EvePostLaw" (113 : Nat) yX11_restore) ∈ x_big := x_in 817 (by decide +kernel)
theorem kw_818 : (Cond.instanceMethod yX11_restore) ∈ x_big := x_in 818 (by decide +kernel)
theorem kw_819 : (Cond.selects "EvePost" yX11_restore yX11_restore) ∈ x_big := x_in 819 (by decide +kernel)
theorem kw_820 : Cond.code yX11_restore cX11_restore 3 (some .int) ∈ x_big := x_in 820 (by decide +kernel)
theorem kw_821 : (Cond.methodLink "EvePostLaw" (117 : Nat) yX11_kind) ∈ x_big := x_in 821 (by decide +kernel)
theorem kw_822 : (Cond.instanceMethod yX11_kind) ∈ x_big := x_in 822 (by decide +kernel)
theorem kw_823 : (Cond.selects "EvePost" yX11_kind yX11_kind) ∈ x_big := x_in 823 (by decide +kernel)
theorem kw_824 : Cond.code yX11_kind cX11_kind 3 (some .int) ∈ x_big := x_in 824 (by decide +kernel)
theorem kw_825 : (Cond.methodLink "EvePost" (237 : Nat) (⟨"EvePost$Person", "ownKind", "()I"⟩ : MethodName)) ∈ x_big := x_in 825 (by decide +kernel)
theorem kw_827 : (Cond.sameMethod "EvePost$Person" "EvePost$Person" "ownKind" "()I") ∈ x_big := x_in 827 (by decide +kernel)
theorem kw_828 : (Cond.selects "EvePost$CrossOne" (⟨"EvePost$Person", "ownKind", "()I"⟩ : MethodName) yX0_ownKind) ∈ x_big := x_in 828 (by decide +kernel)
theorem kw_829 : (Cond.instanceMethod yX0_ownKind) ∈ x_big := x_in 829 (by decide +kernel)
theorem kw_830 : Cond.code yX0_ownKind cX0_ownKind 1 (some .int) ∈ x_big := x_in 830 (by decide +kernel)
theorem kw_831 : (Cond.selects "EvePost$CrowdOne" (⟨"EvePost$Person", "ownKind", "()I"⟩ : MethodName) yX1_ownKind) ∈ x_big := x_in 831 (by decide +kernel)
theorem kw_832 : (Cond.instanceMethod yX1_ownKind) ∈ x_big := x_in 832 (by decide +kernel)
theorem kw_833 : Cond.code yX1_ownKind cX1_ownKind 1 (some .int) ∈ x_big := x_in 833 (by decide +kernel)
theorem kw_834 : (Cond.selects "EvePost$LotOne" (⟨"EvePost$Person", "ownKind", "()I"⟩ : MethodName) yX3_ownKind) ∈ x_big := x_in 834 (by decide +kernel)
theorem kw_835 : (Cond.instanceMethod yX3_ownKind) ∈ x_big := x_in 835 (by decide +kernel)
theorem kw_836 : Cond.code yX3_ownKind cX3_ownKind 1 (some .int) ∈ x_big := x_in 836 (by decide +kernel)
theorem kw_837 : (Cond.selects "EvePost$MoodyOne" (⟨"EvePost$Person", "ownKind", "()I"⟩ : MethodName) yX4_ownKind) ∈ x_big := x_in 837 (by decide +kernel)
theorem kw_838 : (Cond.instanceMethod yX4_ownKind) ∈ x_big := x_in 838 (by decide +kernel)
theorem kw_839 : Cond.code yX4_ownKind cX4_ownKind 1 (some .int) ∈ x_big := x_in 839 (by decide +kernel)
theorem kw_840 : (Cond.selects "EvePost$TrueOne" (⟨"EvePost$Person", "ownKind", "()I"⟩ : MethodName) yX10_ownKind) ∈ x_big := x_in 840 (by decide +kernel)
theorem kw_841 : (Cond.instanceMethod yX10_ownKind) ∈ x_big := x_in 841 (by decide +kernel)
theorem kw_842 : Cond.code yX10_ownKind cX10_ownKind 1 (some .int) ∈ x_big := x_in 842 (by decide +kernel)
theorem kw_843 : (Cond.methodLink "EvePostLaw" (121 : Nat) yX11_as) ∈ x_big := x_in 843 (by decide +kernel)
theorem kw_844 : (Cond.instanceMethod yX11_as) ∈ x_big := x_in 844 (by decide +kernel)
theorem kw_845 : (Cond.selects "EvePost" yX11_as yX11_as) ∈ x_big := x_in 845 (by decide +kernel)
theorem kw_846 : Cond.code yX11_as cX11_as 4 (some .int) ∈ x_big := x_in 846 (by decide +kernel)
theorem kw_847 : (Cond.methodLink "EvePost" (240 : Nat) yX11_isOf) ∈ x_big := x_in 847 (by decide +kernel)
theorem kw_848 : (Cond.static yX11_isOf) ∈ x_big := x_in 848 (by decide +kernel)
theorem kw_849 : Cond.code yX11_isOf cX11_isOf 2 (some .boolean) ∈ x_big := x_in 849 (by decide +kernel)
theorem kw_850 : (Cond.classLink "EvePost" (273 : Nat) "EvePost$TrueOne") ∈ x_big := x_in 850 (by decide +kernel)
theorem kw_851 : (Cond.classLink "EvePost" (275 : Nat) "EvePost$CrossOne") ∈ x_big := x_in 851 (by decide +kernel)
theorem kw_852 : (Cond.classLink "EvePost" (277 : Nat) "EvePost$LotOne") ∈ x_big := x_in 852 (by decide +kernel)
theorem kw_853 : (Cond.classLink "EvePost" (279 : Nat) "EvePost$CrowdOne") ∈ x_big := x_in 853 (by decide +kernel)
theorem kw_854 : (Cond.classLink "EvePost" (281 : Nat) "EvePost$MoodyOne") ∈ x_big := x_in 854 (by decide +kernel)
theorem kw_855 : (Cond.methodLink "EvePostLaw" (125 : Nat) yX11_ask) ∈ x_big := x_in 855 (by decide +kernel)
theorem kw_856 : (Cond.instanceMethod yX11_ask) ∈ x_big := x_in 856 (by decide +kernel)
theorem kw_857 : (Cond.selects "EvePost" yX11_ask yX11_ask) ∈ x_big := x_in 857 (by decide +kernel)
theorem kw_858 : Cond.code yX11_ask cX11_ask 4 (some .int) ∈ x_big := x_in 858 (by decide +kernel)
theorem kw_859 : (Cond.methodLink "EvePost" (247 : Nat) yX9_clear) ∈ x_big := x_in 859 (by decide +kernel)
theorem kw_860 : (Cond.instanceMethod yX9_clear) ∈ x_big := x_in 860 (by decide +kernel)
theorem kw_861 : (Cond.selects "EvePost$Trail" yX9_clear yX9_clear) ∈ x_big := x_in 861 (by decide +kernel)
theorem kw_862 : Cond.code yX9_clear cX9_clear 1 none ∈ x_big := x_in 862 (by decide +kernel)
theorem kw_863 : (Cond.methodLink "EvePost" (250 : Nat) yX5_size) ∈ x_big := x_in 863 (by decide +kernel)
theorem kw_864 : (Cond.instanceMethod yX5_size) ∈ x_big := x_in 864 (by decide +kernel)
theorem kw_865 : (Cond.sameMethod "EvePost$Person" "EvePost$Person" "size" "(LEvePost$Trail;)I") ∈ x_big := x_in 865 (by decide +kernel)
theorem kw_866 : (Cond.selects "EvePost$CrossOne" yX5_size yX0_size) ∈ x_big := x_in 866 (by decide +kernel)
theorem kw_867 : (Cond.instanceMethod yX0_size) ∈ x_big := x_in 867 (by decide +kernel)
theorem kw_868 : Cond.code yX0_size cX0_size 2 (some .int) ∈ x_big := x_in 868 (by decide +kernel)
theorem kw_869 : (Cond.methodLink "EvePost$CrossOne" (19 : Nat) yX9_leave) ∈ x_big := x_in 869 (by decide +kernel)
theorem kw_870 : (Cond.instanceMethod yX9_leave) ∈ x_big := x_in 870 (by decide +kernel)
theorem kw_871 : (Cond.selects "EvePost$Trail" yX9_leave yX9_leave) ∈ x_big := x_in 871 (by decide +kernel)
theorem kw_872 : Cond.code yX9_leave cX9_leave 2 none ∈ x_big := x_in 872 (by decide +kernel)
theorem kw_873 : (Cond.methodLink "EvePost$CrossOne" (25 : Nat) yX10_size) ∈ x_big := x_in 873 (by decide +kernel)
theorem kw_874 : (Cond.instanceMethod yX10_size) ∈ x_big := x_in 874 (by decide +kernel)
theorem kw_875 : Cond.code yX10_size cX10_size 3 (some .int) ∈ x_big := x_in 875 (by decide +kernel)
theorem kw_876 : (Cond.methodLink "EvePost$TrueOne" (19 : Nat) yX9_leave) ∈ x_big := x_in 876 (by decide +kernel)
theorem kw_877 : (Cond.methodLink "EvePost$TrueOne" (25 : Nat) yX5_size) ∈ x_big := x_in 877 (by decide +kernel)
theorem kw_878 : (Cond.methodLink "EvePost$TrueOne" (29 : Nat) yX10_mark) ∈ x_big := x_in 878 (by decide +kernel)
theorem kw_879 : (Cond.instanceMethod yX10_mark) ∈ x_big := x_in 879 (by decide +kernel)
theorem kw_880 : (Cond.selects "EvePost$TrueOne" yX10_mark yX10_mark) ∈ x_big := x_in 880 (by decide +kernel)
theorem kw_881 : (Cond.sameMethod "EvePost$TrueOne" "EvePost$TrueOne" "mark" "(LEvePost$Trail;)I") ∈ x_big := x_in 881 (by decide +kernel)
theorem kw_882 : (Cond.selects "EvePost$CrossOne" yX10_mark yX0_mark) ∈ x_big := x_in 882 (by decide +kernel)
theorem kw_883 : (Cond.instanceMethod yX0_mark) ∈ x_big := x_in 883 (by decide +kernel)
theorem kw_884 : Cond.code yX0_mark cX0_mark 2 (some .int) ∈ x_big := x_in 884 (by decide +kernel)
theorem kw_885 : (Cond.methodLink "EvePost$CrossOne" (29 : Nat) yX10_mark) ∈ x_big := x_in 885 (by decide +kernel)
theorem kw_886 : (Cond.selects "EvePost$LotOne" yX10_mark yX3_mark) ∈ x_big := x_in 886 (by decide +kernel)
theorem kw_887 : (Cond.instanceMethod yX3_mark) ∈ x_big := x_in 887 (by decide +kernel)
theorem kw_888 : Cond.code yX3_mark cX3_mark 2 (some .int) ∈ x_big := x_in 888 (by decide +kernel)
theorem kw_889 : (Cond.methodLink "EvePost$LotOne" (21 : Nat) yX9_leave) ∈ x_big := x_in 889 (by decide +kernel)
theorem kw_890 : (Cond.methodLink "EvePost$LotOne" (27 : Nat) yX10_mark) ∈ x_big := x_in 890 (by decide +kernel)
theorem kw_891 : Cond.code yX10_mark cX10_mark 2 (some .int) ∈ x_big := x_in 891 (by decide +kernel)
theorem kw_892 : (Cond.methodLink "EvePost$TrueOne" (32 : Nat) yX5_mark) ∈ x_big := x_in 892 (by decide +kernel)
theorem kw_893 : (Cond.instanceMethod yX5_mark) ∈ x_big := x_in 893 (by decide +kernel)
theorem kw_894 : Cond.code yX5_mark cX5_mark 2 (some .int) ∈ x_big := x_in 894 (by decide +kernel)
theorem kw_895 : (Cond.methodLink "EvePost$Person" (23 : Nat) yX9_leave) ∈ x_big := x_in 895 (by decide +kernel)
theorem kw_896 : (Cond.selects "EvePost$CrowdOne" yX5_size yX1_size) ∈ x_big := x_in 896 (by decide +kernel)
theorem kw_897 : (Cond.instanceMethod yX1_size) ∈ x_big := x_in 897 (by decide +kernel)
theorem kw_898 : Cond.code yX1_size cX1_size 2 (some .int) ∈ x_big := x_in 898 (by decide +kernel)
theorem kw_899 : (Cond.methodLink "EvePost$CrowdOne" (19 : Nat) yX9_leave) ∈ x_big := x_in 899 (by decide +kernel)
theorem kw_900 : (Cond.methodLink "EvePost$CrowdOne" (25 : Nat) yX5_size) ∈ x_big := x_in 900 (by decide +kernel)
theorem kw_901 : (Cond.selects "EvePost$LotOne" yX5_size yX10_size) ∈ x_big := x_in 901 (by decide +kernel)
theorem kw_902 : (Cond.selects "EvePost$MoodyOne" yX5_size yX4_size) ∈ x_big := x_in 902 (by decide +kernel)
theorem kw_903 : (Cond.instanceMethod yX4_size) ∈ x_big := x_in 903 (by decide +kernel)
theorem kw_904 : Cond.code yX4_size cX4_size 2 (some .int) ∈ x_big := x_in 904 (by decide +kernel)
theorem kw_905 : (Cond.methodLink "EvePost$MoodyOne" (22 : Nat) yX9_leave) ∈ x_big := x_in 905 (by decide +kernel)
theorem kw_906 : (Cond.methodLink "EvePost$MoodyOne" (28 : Nat) yX1_size) ∈ x_big := x_in 906 (by decide +kernel)
theorem kw_907 : (Cond.selects "EvePost$TrueOne" yX5_size yX10_size) ∈ x_big := x_in 907 (by decide +kernel)
theorem kw_908 : Cond.code yX5_size cX5_size 2 (some .int) ∈ x_big := x_in 908 (by decide +kernel)
theorem kw_909 : (Cond.methodLink "EvePost" (253 : Nat) yX5_mark) ∈ x_big := x_in 909 (by decide +kernel)
theorem kw_910 : (Cond.instanceMethod yX1_mark) ∈ x_big := x_in 910 (by decide +kernel)
theorem kw_911 : Cond.code yX1_mark cX1_mark 3 (some .int) ∈ x_big := x_in 911 (by decide +kernel)
theorem kw_912 : (Cond.methodLink "EvePost$CrowdOne" (29 : Nat) yX5_mark) ∈ x_big := x_in 912 (by decide +kernel)
theorem kw_913 : (Cond.methodLink "EvePost$CrowdOne" (32 : Nat) yX1_size) ∈ x_big := x_in 913 (by decide +kernel)
theorem kw_914 : (Cond.methodLink "EvePostLaw" (129 : Nat) yX11_trace) ∈ x_big := x_in 914 (by decide +kernel)
theorem kw_915 : (Cond.instanceMethod yX11_trace) ∈ x_big := x_in 915 (by decide +kernel)
theorem kw_916 : (Cond.selects "EvePost" yX11_trace yX11_trace) ∈ x_big := x_in 916 (by decide +kernel)
theorem kw_917 : Cond.code yX11_trace cX11_trace 2 (some .int) ∈ x_big := x_in 917 (by decide +kernel)
theorem kw_918 : (Cond.methodLink "EvePost" (256 : Nat) yX9_at) ∈ x_big := x_in 918 (by decide +kernel)
theorem kw_919 : (Cond.instanceMethod yX9_at) ∈ x_big := x_in 919 (by decide +kernel)
theorem kw_920 : (Cond.selects "EvePost$Trail" yX9_at yX9_at) ∈ x_big := x_in 920 (by decide +kernel)
theorem kw_921 : Cond.code yX9_at cX9_at 2 (some .int) ∈ x_big := x_in 921 (by decide +kernel)
theorem kw_922 : (Cond.constant "EvePost$Trail" (19 : Nat) (-1000000 : Int32)) ∈ x_big := x_in 922 (by decide +kernel)
theorem kw_923 : (Cond.methodLink "EvePostLaw" (133 : Nat) yX11_count) ∈ x_big := x_in 923 (by decide +kernel)
theorem kw_924 : (Cond.instanceMethod yX11_count) ∈ x_big := x_in 924 (by decide +kernel)
theorem kw_925 : (Cond.selects "EvePost" yX11_count yX11_count) ∈ x_big := x_in 925 (by decide +kernel)
theorem kw_926 : Cond.code yX11_count cX11_count 2 (some .int) ∈ x_big := x_in 926 (by decide +kernel)
theorem kw_927 : (Cond.methodLink "EvePost" (259 : Nat) yX6_howMany) ∈ x_big := x_in 927 (by decide +kernel)
theorem kw_928 : (Cond.instanceMethod yX6_howMany) ∈ x_big := x_in 928 (by decide +kernel)
theorem kw_929 : (Cond.selects "EvePost$Rows" yX6_howMany yX6_howMany) ∈ x_big := x_in 929 (by decide +kernel)
theorem kw_930 : Cond.code yX6_howMany cX6_howMany 3 (some .int) ∈ x_big := x_in 930 (by decide +kernel)
theorem kw_931 : (Cond.methodLink "EvePost" (262 : Nat) yX7_size) ∈ x_big := x_in 931 (by decide +kernel)
theorem kw_932 : (Cond.instanceMethod yX7_size) ∈ x_big := x_in 932 (by decide +kernel)
theorem kw_933 : (Cond.selects "EvePost$Tape" yX7_size yX7_size) ∈ x_big := x_in 933 (by decide +kernel)
theorem kw_934 : Cond.code yX7_size cX7_size 1 (some .int) ∈ x_big := x_in 934 (by decide +kernel)
theorem kw_935 : (Cond.methodLink "EvePostLaw" (137 : Nat) yX11_status) ∈ x_big := x_in 935 (by decide +kernel)
theorem kw_936 : (Cond.instanceMethod yX11_status) ∈ x_big := x_in 936 (by decide +kernel)
theorem kw_937 : (Cond.selects "EvePost" yX11_status yX11_status) ∈ x_big := x_in 937 (by decide +kernel)
theorem kw_938 : Cond.code yX11_status cX11_status 1 (some .int) ∈ x_big := x_in 938 (by decide +kernel)
theorem kw_939 : (Cond.classLink "EvePostLaw" (10 : Nat) "EvePostModel") ∈ x_big := x_in 939 (by decide +kernel)
theorem kw_940 : (Cond.instantiable "EvePostModel" (24 : Nat)) ∈ x_big := x_in 940 (by decide +kernel)
theorem kw_941 : (Cond.methodLink "EvePostLaw" (12 : Nat) yX12_init) ∈ x_big := x_in 941 (by decide +kernel)
theorem kw_942 : (Cond.instanceMethod yX12_init) ∈ x_big := x_in 942 (by decide +kernel)
theorem kw_943 : Cond.code yX12_init cX12_init 1 none ∈ x_big := x_in 943 (by decide +kernel)
theorem kw_944 : (Cond.methodLink "EvePostModel" (1 : Nat) objectInit) ∈ x_big := x_in 944 (by decide +kernel)
theorem kw_945 : (Cond.fieldLink "EvePostModel" (44 : Nat) "EvePostModel" "thrown" "I") ∈ x_big := x_in 945 (by decide +kernel)
theorem kw_946 : (Cond.fieldLink "EvePostModel" (48 : Nat) "EvePostModel" "status" "I") ∈ x_big := x_in 946 (by decide +kernel)
theorem kw_947 : (Cond.fieldLink "EvePostModel" (7 : Nat) "EvePostModel" "lane" "[I") ∈ x_big := x_in 947 (by decide +kernel)
theorem kw_948 : (Cond.fieldLink "EvePostModel" (13 : Nat) "EvePostModel" "many" "[I") ∈ x_big := x_in 948 (by decide +kernel)
theorem kw_949 : (Cond.fieldLink "EvePostModel" (16 : Nat) "EvePostModel" "item" "[I") ∈ x_big := x_in 949 (by decide +kernel)
theorem kw_950 : (Cond.fieldLink "EvePostModel" (19 : Nat) "EvePostModel" "town" "[I") ∈ x_big := x_in 950 (by decide +kernel)
theorem kw_951 : (Cond.fieldLink "EvePostModel" (22 : Nat) "EvePostModel" "fresh" "[I") ∈ x_big := x_in 951 (by decide +kernel)
theorem kw_952 : (Cond.fieldLink "EvePostModel" (25 : Nat) "EvePostModel" "was" "[I") ∈ x_big := x_in 952 (by decide +kernel)
theorem kw_953 : (Cond.fieldLink "EvePostModel" (157 : Nat) "EvePostModel" "acts" "I") ∈ x_big := x_in 953 (by decide +kernel)
theorem kw_954 : (Cond.fieldLink "EvePostModel" (28 : Nat) "EvePostModel" "tape" "[I") ∈ x_big := x_in 954 (by decide +kernel)
theorem kw_955 : (Cond.fieldLink "EvePostModel" (71 : Nat) "EvePostModel" "taped" "I") ∈ x_big := x_in 955 (by decide +kernel)
theorem kw_956 : (Cond.fieldLink "EvePostModel" (153 : Nat) "EvePostModel" "latest" "I") ∈ x_big := x_in 956 (by decide +kernel)
theorem kw_957 : (Cond.fieldLink "EvePostModel" (77 : Nat) "EvePostModel" "length" "I") ∈ x_big := x_in 957 (by decide +kernel)
theorem kw_958 : (Cond.fieldLink "EvePostModel" (81 : Nat) "EvePostModel" "cursor" "I") ∈ x_big := x_in 958 (by decide +kernel)
theorem kw_959 : (Cond.fieldLink "EvePostModel" (90 : Nat) "EvePostModel" "token" "I") ∈ x_big := x_in 959 (by decide +kernel)
theorem kw_960 : (Cond.fieldLink "EvePostModel" (87 : Nat) "EvePostModel" "start" "I") ∈ x_big := x_in 960 (by decide +kernel)
theorem kw_961 : (Cond.fieldLink "EvePostModel" (99 : Nat) "EvePostModel" "till" "I") ∈ x_big := x_in 961 (by decide +kernel)
theorem kw_962 : (Cond.fieldLink "EvePostModel" (102 : Nat) "EvePostModel" "fault" "I") ∈ x_big := x_in 962 (by decide +kernel)
theorem kw_963 : (Cond.fieldLink "EvePostModel" (108 : Nat) "EvePostModel" "faultAt" "I") ∈ x_big := x_in 963 (by decide +kernel)
theorem kw_964 : (Cond.fieldLink "EvePostModel" (31 : Nat) "EvePostModel" "chained" "[I") ∈ x_big := x_in 964 (by decide +kernel)
theorem kw_965 : (Cond.fieldLink "EvePostModel" (34 : Nat) "EvePostModel" "isKept" "[Z") ∈ x_big := x_in 965 (by decide +kernel)
theorem kw_966 : (Cond.fieldLink "EvePostModel" (38 : Nat) "EvePostModel" "kept" "[I") ∈ x_big := x_in 966 (by decide +kernel)
theorem kw_967 : (Cond.fieldLink "EvePostModel" (41 : Nat) "EvePostModel" "trace" "[I") ∈ x_big := x_in 967 (by decide +kernel)
theorem kw_968 : (Cond.fieldLink "EvePostModel" (234 : Nat) "EvePostModel" "traced" "I") ∈ x_big := x_in 968 (by decide +kernel)
theorem kw_1017 : (Cond.superclass "EvePostModel" "java/lang/Object") ∈ x_big := x_in 1017 (by decide +kernel)
theorem kw_1018 : (Cond.arrayClass FieldType.boolean) ∈ x_big := x_in 1018 (by decide +kernel)
theorem kw_1019 : (Cond.methodLink "EvePostLaw" (17 : Nat) yX12_row) ∈ x_big := x_in 1019 (by decide +kernel)
theorem kw_1020 : (Cond.instanceMethod yX12_row) ∈ x_big := x_in 1020 (by decide +kernel)
theorem kw_1021 : (Cond.selects "EvePostModel" yX12_row yX12_row) ∈ x_big := x_in 1021 (by decide +kernel)
theorem kw_1022 : Cond.code yX12_row cX12_row 5 (some .int) ∈ x_big := x_in 1022 (by decide +kernel)
theorem kw_1023 : (Cond.methodLink "EvePostModel" (58 : Nat) yX12_isRow) ∈ x_big := x_in 1023 (by decide +kernel)
theorem kw_1024 : (Cond.static yX12_isRow) ∈ x_big := x_in 1024 (by decide +kernel)
theorem kw_1025 : Cond.code yX12_isRow cX12_isRow 1 (some .boolean) ∈ x_big := x_in 1025 (by decide +kernel)
theorem kw_1026 : (Cond.constantLong "EvePostModel" (52 : Nat) (7 : Int64)) ∈ x_big := x_in 1026 (by decide +kernel)
theorem kw_1027 : (Cond.methodLink "EvePostModel" (54 : Nat) yX12_in) ∈ x_big := x_in 1027 (by decide +kernel)
theorem kw_1028 : (Cond.static yX12_in) ∈ x_big := x_in 1028 (by decide +kernel)
theorem kw_1029 : Cond.code yX12_in cX12_in 6 (some .boolean) ∈ x_big := x_in 1029 (by decide +kernel)
theorem kw_1030 : (Cond.constantLong "EvePostModel" (62 : Nat) (2 : Int64)) ∈ x_big := x_in 1030 (by decide +kernel)
theorem kw_1031 : (Cond.constant "EvePostModel" (64 : Nat) (-1000001 : Int32)) ∈ x_big := x_in 1031 (by decide +kernel)
theorem kw_1032 : (Cond.methodLink "EvePostModel" (65 : Nat) yX12_finding) ∈ x_big := x_in 1032 (by decide +kernel)
theorem kw_1034 : (Cond.instanceMethod yX12_finding) ∈ x_big := x_in 1034 (by decide +kernel)
theorem kw_1035 : Cond.code yX12_finding cX12_finding 2 (some .int) ∈ x_big := x_in 1035 (by decide +kernel)
theorem kw_1036 : (Cond.constant "EvePostModel" (51 : Nat) (-1000010 : Int32)) ∈ x_big := x_in 1036 (by decide +kernel)
theorem kw_1037 : (Cond.methodLink "EvePostLaw" (21 : Nat) yX12_set) ∈ x_big := x_in 1037 (by decide +kernel)
theorem kw_1038 : (Cond.instanceMethod yX12_set) ∈ x_big := x_in 1038 (by decide +kernel)
theorem kw_1039 : (Cond.selects "EvePostModel" yX12_set yX12_set) ∈ x_big := x_in 1039 (by decide +kernel)
theorem kw_1040 : Cond.code yX12_set cX12_set 4 (some .int) ∈ x_big := x_in 1040 (by decide +kernel)
theorem kw_1041 : (Cond.methodLink "EvePostLaw" (26 : Nat) yX12_copy) ∈ x_big := x_in 1041 (by decide +kernel)
theorem kw_1042 : (Cond.instanceMethod yX12_copy) ∈ x_big := x_in 1042 (by decide +kernel)
theorem kw_1043 : (Cond.selects "EvePostModel" yX12_copy yX12_copy) ∈ x_big := x_in 1043 (by decide +kernel)
theorem kw_1044 : Cond.code yX12_copy cX12_copy 9 (some .int) ∈ x_big := x_in 1044 (by decide +kernel)
theorem kw_1045 : (Cond.methodLink "EvePostLaw" (31 : Nat) yX12_drop) ∈ x_big := x_in 1045 (by decide +kernel)
theorem kw_1046 : (Cond.instanceMethod yX12_drop) ∈ x_big := x_in 1046 (by decide +kernel)
theorem kw_1047 : (Cond.selects "EvePostModel" yX12_drop yX12_drop) ∈ x_big := x_in 1047 (by decide +kernel)
theorem kw_1048 : Cond.code yX12_drop cX12_drop 2 (some .int) ∈ x_big := x_in 1048 (by decide +kernel)
theorem kw_1049 : (Cond.methodLink "EvePostLaw" (38 : Nat) yX12_feed) ∈ x_big := x_in 1049 (by decide +kernel)
theorem kw_1050 : (Cond.instanceMethod yX12_feed) ∈ x_big := x_in 1050 (by decide +kernel)
theorem kw_1051 : (Cond.selects "EvePostModel" yX12_feed yX12_feed) ∈ x_big := x_in 1051 (by decide +kernel)
theorem kw_1052 : Cond.code yX12_feed cX12_feed 5 (some .int) ∈ x_big := x_in 1052 (by decide +kernel)
theorem kw_1053 : (Cond.constantLong "EvePostModel" (69 : Nat) (8 : Int64)) ∈ x_big := x_in 1053 (by decide +kernel)
theorem kw_1054 : (Cond.constant "EvePostModel" (74 : Nat) (-1000003 : Int32)) ∈ x_big := x_in 1054 (by decide +kernel)
theorem kw_1055 : (Cond.constantLong "EvePostModel" (75 : Nat) (255 : Int64)) ∈ x_big := x_in 1055 (by decide +kernel)
theorem kw_1056 : (Cond.methodLink "EvePostLaw" (43 : Nat) yX12_town) ∈ x_big := x_in 1056 (by decide +kernel)
theorem kw_1057 : (Cond.instanceMethod yX12_town) ∈ x_big := x_in 1057 (by decide +kernel)
theorem kw_1058 : (Cond.selects "EvePostModel" yX12_town yX12_town) ∈ x_big := x_in 1058 (by decide +kernel)
theorem kw_1059 : Cond.code yX12_town cX12_town 2 (some .int) ∈ x_big := x_in 1059 (by decide +kernel)
theorem kw_1060 : (Cond.methodLink "EvePostModel" (145 : Nat) yX12_begin) ∈ x_big := x_in 1060 (by decide +kernel)
theorem kw_1062 : (Cond.instanceMethod yX12_begin) ∈ x_big := x_in 1062 (by decide +kernel)
theorem kw_1063 : Cond.code yX12_begin cX12_begin 1 none ∈ x_big := x_in 1063 (by decide +kernel)
theorem kw_1064 : (Cond.methodLink "EvePostModel" (105 : Nat) yX12_next) ∈ x_big := x_in 1064 (by decide +kernel)
theorem kw_1066 : (Cond.instanceMethod yX12_next) ∈ x_big := x_in 1066 (by decide +kernel)
theorem kw_1067 : Cond.code yX12_next cX12_next 2 none ∈ x_big := x_in 1067 (by decide +kernel)
theorem kw_1068 : (Cond.methodLink "EvePostModel" (84 : Nat) yX12_byteAt) ∈ x_big := x_in 1068 (by decide +kernel)
theorem kw_1070 : (Cond.instanceMethod yX12_byteAt) ∈ x_big := x_in 1070 (by decide +kernel)
theorem kw_1071 : Cond.code yX12_byteAt cX12_byteAt 2 (some .int) ∈ x_big := x_in 1071 (by decide +kernel)
theorem kw_1072 : (Cond.constant "EvePostModel" (80 : Nat) (-1000000 : Int32)) ∈ x_big := x_in 1072 (by decide +kernel)
theorem kw_1073 : (Cond.methodLink "EvePostModel" (93 : Nat) yX12_isLetter) ∈ x_big := x_in 1073 (by decide +kernel)
theorem kw_1074 : (Cond.static yX12_isLetter) ∈ x_big := x_in 1074 (by decide +kernel)
theorem kw_1075 : Cond.code yX12_isLetter cX12_isLetter 1 (some .boolean) ∈ x_big := x_in 1075 (by decide +kernel)
theorem kw_1076 : (Cond.methodLink "EvePostModel" (96 : Nat) yX12_isFigure) ∈ x_big := x_in 1076 (by decide +kernel)
theorem kw_1077 : (Cond.static yX12_isFigure) ∈ x_big := x_in 1077 (by decide +kernel)
theorem kw_1078 : Cond.code yX12_isFigure cX12_isFigure 1 (some .boolean) ∈ x_big := x_in 1078 (by decide +kernel)
theorem kw_1079 : (Cond.methodLink "EvePostModel" (133 : Nat) yX12_name) ∈ x_big := x_in 1079 (by decide +kernel)
theorem kw_1081 : (Cond.instanceMethod yX12_name) ∈ x_big := x_in 1081 (by decide +kernel)
theorem kw_1082 : Cond.code yX12_name cX12_name 4 (some .long) ∈ x_big := x_in 1082 (by decide +kernel)
theorem kw_1083 : (Cond.constantLong "EvePostModel" (148 : Nat) (123581014175598 : Int64)) ∈ x_big := x_in 1083 (by decide +kernel)
theorem kw_1084 : (Cond.methodLink "EvePostModel" (111 : Nat) yX12_bad) ∈ x_big := x_in 1084 (by decide +kernel)
theorem kw_1086 : (Cond.instanceMethod yX12_bad) ∈ x_big := x_in 1086 (by decide +kernel)
theorem kw_1087 : Cond.code yX12_bad cX12_bad 2 none ∈ x_big := x_in 1087 (by decide +kernel)
theorem kw_1088 : (Cond.methodLink "EvePostModel" (150 : Nat) yX12_readPerson) ∈ x_big := x_in 1088 (by decide +kernel)
theorem kw_1090 : (Cond.instanceMethod yX12_readPerson) ∈ x_big := x_in 1090 (by decide +kernel)
theorem kw_1091 : Cond.code yX12_readPerson cX12_readPerson 5 none ∈ x_big := x_in 1091 (by decide +kernel)
theorem kw_1092 : (Cond.methodLink "EvePostModel" (119 : Nat) yX12_must) ∈ x_big := x_in 1092 (by decide +kernel)
theorem kw_1094 : (Cond.instanceMethod yX12_must) ∈ x_big := x_in 1094 (by decide +kernel)
theorem kw_1095 : Cond.code yX12_must cX12_must 2 none ∈ x_big := x_in 1095 (by decide +kernel)
theorem kw_1096 : (Cond.methodLink "EvePostModel" (137 : Nat) yX12_kindBy) ∈ x_big := x_in 1096 (by decide +kernel)
theorem kw_1097 : (Cond.static yX12_kindBy) ∈ x_big := x_in 1097 (by decide +kernel)
theorem kw_1098 : Cond.code yX12_kindBy cX12_kindBy 2 (some .int) ∈ x_big := x_in 1098 (by decide +kernel)
theorem kw_1099 : (Cond.constantLong "EvePostModel" (123 : Nat) (1953658213 : Int64)) ∈ x_big := x_in 1099 (by decide +kernel)
theorem kw_1100 : (Cond.constantLong "EvePostModel" (125 : Nat) (427121668979 : Int64)) ∈ x_big := x_in 1100 (by decide +kernel)
theorem kw_1101 : (Cond.constantLong "EvePostModel" (127 : Nat) (427121669988 : Int64)) ∈ x_big := x_in 1101 (by decide +kernel)
theorem kw_1102 : (Cond.constantLong "EvePostModel" (129 : Nat) (470021006457 : Int64)) ∈ x_big := x_in 1102 (by decide +kernel)
theorem kw_1103 : (Cond.constantLong "EvePostModel" (131 : Nat) (7106420 : Int64)) ∈ x_big := x_in 1103 (by decide +kernel)
theorem kw_1104 : (Cond.methodLink "EvePostModel" (141 : Nat) yX12_number) ∈ x_big := x_in 1104 (by decide +kernel)
theorem kw_1106 : (Cond.instanceMethod yX12_number) ∈ x_big := x_in 1106 (by decide +kernel)
theorem kw_1107 : Cond.code yX12_number cX12_number 4 (some .int) ∈ x_big := x_in 1107 (by decide +kernel)
theorem kw_1108 : (Cond.methodLink "EvePostModel" (115 : Nat) yX12_figures) ∈ x_big := x_in 1108 (by decide +kernel)
theorem kw_1110 : (Cond.instanceMethod yX12_figures) ∈ x_big := x_in 1110 (by decide +kernel)
theorem kw_1111 : Cond.code yX12_figures cX12_figures 3 (some .int) ∈ x_big := x_in 1111 (by decide +kernel)
theorem kw_1112 : (Cond.constant "EvePostModel" (156 : Nat) (-1000100 : Int32)) ∈ x_big := x_in 1112 (by decide +kernel)
theorem kw_1113 : (Cond.methodLink "EvePostLaw" (47 : Nat) yX12_fault) ∈ x_big := x_in 1113 (by decide +kernel)
theorem kw_1114 : (Cond.instanceMethod yX12_fault) ∈ x_big := x_in 1114 (by decide +kernel)
theorem kw_1115 : (Cond.selects "EvePostModel" yX12_fault yX12_fault) ∈ x_big := x_in 1115 (by decide +kernel)
theorem kw_1116 : Cond.code yX12_fault cX12_fault 1 (some .int) ∈ x_big := x_in 1116 (by decide +kernel)
theorem kw_1117 : (Cond.methodLink "EvePostLaw" (51 : Nat) yX12_post) ∈ x_big := x_in 1117 (by decide +kernel)
theorem kw_1118 : (Cond.instanceMethod yX12_post) ∈ x_big := x_in 1118 (by decide +kernel)
theorem kw_1119 : (Cond.selects "EvePostModel" yX12_post yX12_post) ∈ x_big := x_in 1119 (by decide +kernel)
theorem kw_1120 : Cond.code yX12_post cX12_post 2 (some .int) ∈ x_big := x_in 1120 (by decide +kernel)
theorem kw_1121 : (Cond.methodLink "EvePostModel" (180 : Nat) yX12_isThere) ∈ x_big := x_in 1121 (by decide +kernel)
theorem kw_1123 : (Cond.instanceMethod yX12_isThere) ∈ x_big := x_in 1123 (by decide +kernel)
theorem kw_1124 : Cond.code yX12_isThere cX12_isThere 1 (some .boolean) ∈ x_big := x_in 1124 (by decide +kernel)
theorem kw_1125 : (Cond.constant "EvePostModel" (184 : Nat) (-1000002 : Int32)) ∈ x_big := x_in 1125 (by decide +kernel)
theorem kw_1126 : (Cond.methodLink "EvePostModel" (185 : Nat) yX12_isSet) ∈ x_big := x_in 1126 (by decide +kernel)
theorem kw_1128 : (Cond.instanceMethod yX12_isSet) ∈ x_big := x_in 1128 (by decide +kernel)
theorem kw_1129 : Cond.code yX12_isSet cX12_isSet 2 (some .boolean) ∈ x_big := x_in 1129 (by decide +kernel)
theorem kw_1130 : (Cond.methodLink "EvePostModel" (160 : Nat) yX12_all) ∈ x_big := x_in 1130 (by decide +kernel)
theorem kw_1132 : (Cond.instanceMethod yX12_all) ∈ x_big := x_in 1132 (by decide +kernel)
theorem kw_1133 : Cond.code yX12_all cX12_all 1 (some .int) ∈ x_big := x_in 1133 (by decide +kernel)
theorem kw_1134 : (Cond.methodLink "EvePostModel" (188 : Nat) yX12_isAgreed) ∈ x_big := x_in 1134 (by decide +kernel)
theorem kw_1136 : (Cond.instanceMethod yX12_isAgreed) ∈ x_big := x_in 1136 (by decide +kernel)
theorem kw_1137 : Cond.code yX12_isAgreed cX12_isAgreed 3 (some .boolean) ∈ x_big := x_in 1137 (by decide +kernel)
theorem kw_1138 : (Cond.methodLink "EvePostModel" (173 : Nat) yX12_doneBy) ∈ x_big := x_in 1138 (by decide +kernel)
theorem kw_1140 : (Cond.instanceMethod yX12_doneBy) ∈ x_big := x_in 1140 (by decide +kernel)
theorem kw_1141 : Cond.code yX12_doneBy cX12_doneBy 8 (some .int) ∈ x_big := x_in 1141 (by decide +kernel)
theorem kw_1142 : (Cond.methodLink "EvePostModel" (169 : Nat) yX12_doesIt) ∈ x_big := x_in 1142 (by decide +kernel)
theorem kw_1144 : (Cond.instanceMethod yX12_doesIt) ∈ x_big := x_in 1144 (by decide +kernel)
theorem kw_1145 : Cond.code yX12_doesIt cX12_doesIt 5 (some .boolean) ∈ x_big := x_in 1145 (by decide +kernel)
theorem kw_1146 : (Cond.methodLink "EvePostModel" (163 : Nat) yX12_of) ∈ x_big := x_in 1146 (by decide +kernel)
theorem kw_1148 : (Cond.instanceMethod yX12_of) ∈ x_big := x_in 1148 (by decide +kernel)
theorem kw_1149 : Cond.code yX12_of cX12_of 3 (some .int) ∈ x_big := x_in 1149 (by decide +kernel)
theorem kw_1150 : (Cond.methodLink "EvePostModel" (166 : Nat) yX12_bits) ∈ x_big := x_in 1150 (by decide +kernel)
theorem kw_1151 : (Cond.static yX12_bits) ∈ x_big := x_in 1151 (by decide +kernel)
theorem kw_1152 : Cond.code yX12_bits cX12_bits 3 (some .int) ∈ x_big := x_in 1152 (by decide +kernel)
theorem kw_1153 : (Cond.methodLink "EvePostModel" (192 : Nat) yX12_goDay) ∈ x_big := x_in 1153 (by decide +kernel)
theorem kw_1155 : (Cond.instanceMethod yX12_goDay) ∈ x_big := x_in 1155 (by decide +kernel)
theorem kw_1156 : Cond.code yX12_goDay cX12_goDay 2 none ∈ x_big := x_in 1156 (by decide +kernel)
theorem kw_1157 : (Cond.methodLink "EvePostModel" (177 : Nat) yX12_keep) ∈ x_big := x_in 1157 (by decide +kernel)
theorem kw_1159 : (Cond.instanceMethod yX12_keep) ∈ x_big := x_in 1159 (by decide +kernel)
theorem kw_1160 : Cond.code yX12_keep cX12_keep 2 none ∈ x_big := x_in 1160 (by decide +kernel)
theorem kw_1161 : (Cond.methodLink "EvePostLaw" (55 : Nat) yX12_posts) ∈ x_big := x_in 1161 (by decide +kernel)
theorem kw_1162 : (Cond.instanceMethod yX12_posts) ∈ x_big := x_in 1162 (by decide +kernel)
theorem kw_1163 : (Cond.selects "EvePostModel" yX12_posts yX12_posts) ∈ x_big := x_in 1163 (by decide +kernel)
theorem kw_1164 : Cond.code yX12_posts cX12_posts 7 (some .int) ∈ x_big := x_in 1164 (by decide +kernel)
theorem kw_1165 : (Cond.constantLong "EvePostModel" (195 : Nat) (24 : Int64)) ∈ x_big := x_in 1165 (by decide +kernel)
theorem kw_1166 : (Cond.methodLink "EvePostModel" (197 : Nat) yX12_lacks) ∈ x_big := x_in 1166 (by decide +kernel)
theorem kw_1168 : (Cond.instanceMethod yX12_lacks) ∈ x_big := x_in 1168 (by decide +kernel)
theorem kw_1169 : Cond.code yX12_lacks cX12_lacks 4 (some .int) ∈ x_big := x_in 1169 (by decide +kernel)
theorem kw_1170 : (Cond.methodLink "EvePostModel" (201 : Nat) yX12_areSets) ∈ x_big := x_in 1170 (by decide +kernel)
theorem kw_1172 : (Cond.instanceMethod yX12_areSets) ∈ x_big := x_in 1172 (by decide +kernel)
theorem kw_1173 : Cond.code yX12_areSets cX12_areSets 5 (some .boolean) ∈ x_big := x_in 1173 (by decide +kernel)
theorem kw_1174 : (Cond.methodLink "EvePostLaw" (60 : Nat) yX12_lots) ∈ x_big := x_in 1174 (by decide +kernel)
theorem kw_1175 : (Cond.instanceMethod yX12_lots) ∈ x_big := x_in 1175 (by decide +kernel)
theorem kw_1176 : (Cond.selects "EvePostModel" yX12_lots yX12_lots) ∈ x_big := x_in 1176 (by decide +kernel)
theorem kw_1177 : Cond.code yX12_lots cX12_lots 7 (some .int) ∈ x_big := x_in 1177 (by decide +kernel)
theorem kw_1178 : (Cond.constantLong "EvePostModel" (204 : Nat) (999999 : Int64)) ∈ x_big := x_in 1178 (by decide +kernel)
theorem kw_1179 : (Cond.constantLong "EvePostModel" (206 : Nat) (16807 : Int64)) ∈ x_big := x_in 1179 (by decide +kernel)
theorem kw_1180 : (Cond.constantLong "EvePostModel" (208 : Nat) (2147483647 : Int64)) ∈ x_big := x_in 1180 (by decide +kernel)
theorem kw_1181 : (Cond.constantLong "EvePostModel" (210 : Nat) (10 : Int64)) ∈ x_big := x_in 1181 (by decide +kernel)
theorem kw_1182 : (Cond.methodLink "EvePostLaw" (64 : Nat) yX12_undo) ∈ x_big := x_in 1182 (by decide +kernel)
theorem kw_1183 : (Cond.instanceMethod yX12_undo) ∈ x_big := x_in 1183 (by decide +kernel)
theorem kw_1184 : (Cond.selects "EvePostModel" yX12_undo yX12_undo) ∈ x_big := x_in 1184 (by decide +kernel)
theorem kw_1185 : Cond.code yX12_undo cX12_undo 2 (some .int) ∈ x_big := x_in 1185 (by decide +kernel)
theorem kw_1186 : (Cond.methodLink "EvePostLaw" (68 : Nat) yX12_person) ∈ x_big := x_in 1186 (by decide +kernel)
theorem kw_1187 : (Cond.instanceMethod yX12_person) ∈ x_big := x_in 1187 (by decide +kernel)
theorem kw_1188 : (Cond.selects "EvePostModel" yX12_person yX12_person) ∈ x_big := x_in 1188 (by decide +kernel)
theorem kw_1189 : Cond.code yX12_person cX12_person 3 (some .int) ∈ x_big := x_in 1189 (by decide +kernel)
theorem kw_1190 : (Cond.methodLink "EvePostModel" (212 : Nat) yX12_isPerson) ∈ x_big := x_in 1190 (by decide +kernel)
theorem kw_1192 : (Cond.instanceMethod yX12_isPerson) ∈ x_big := x_in 1192 (by decide +kernel)
theorem kw_1193 : Cond.code yX12_isPerson cX12_isPerson 2 (some .boolean) ∈ x_big := x_in 1193 (by decide +kernel)
theorem kw_1194 : (Cond.methodLink "EvePostLaw" (72 : Nat) yX12_done) ∈ x_big := x_in 1194 (by decide +kernel)
theorem kw_1195 : (Cond.instanceMethod yX12_done) ∈ x_big := x_in 1195 (by decide +kernel)
theorem kw_1196 : (Cond.selects "EvePostModel" yX12_done yX12_done) ∈ x_big := x_in 1196 (by decide +kernel)
theorem kw_1197 : Cond.code yX12_done cX12_done 2 (some .int) ∈ x_big := x_in 1197 (by decide +kernel)
theorem kw_1198 : (Cond.methodLink "EvePostLaw" (76 : Nat) yX12_agreeing) ∈ x_big := x_in 1198 (by decide +kernel)
theorem kw_1199 : (Cond.instanceMethod yX12_agreeing) ∈ x_big := x_in 1199 (by decide +kernel)
theorem kw_1200 : (Cond.selects "EvePostModel" yX12_agreeing yX12_agreeing) ∈ x_big := x_in 1200 (by decide +kernel)
theorem kw_1201 : Cond.code yX12_agreeing cX12_agreeing 4 (some .int) ∈ x_big := x_in 1201 (by decide +kernel)
theorem kw_1202 : (Cond.methodLink "EvePostLaw" (80 : Nat) yX12_fullest) ∈ x_big := x_in 1202 (by decide +kernel)
theorem kw_1203 : (Cond.instanceMethod yX12_fullest) ∈ x_big := x_in 1203 (by decide +kernel)
theorem kw_1204 : (Cond.selects "EvePostModel" yX12_fullest yX12_fullest) ∈ x_big := x_in 1204 (by decide +kernel)
theorem kw_1205 : Cond.code yX12_fullest cX12_fullest 3 (some .int) ∈ x_big := x_in 1205 (by decide +kernel)
theorem kw_1206 : (Cond.methodLink "EvePostLaw" (84 : Nat) yX12_culprits) ∈ x_big := x_in 1206 (by decide +kernel)
theorem kw_1207 : (Cond.instanceMethod yX12_culprits) ∈ x_big := x_in 1207 (by decide +kernel)
theorem kw_1208 : (Cond.selects "EvePostModel" yX12_culprits yX12_culprits) ∈ x_big := x_in 1208 (by decide +kernel)
theorem kw_1209 : Cond.code yX12_culprits cX12_culprits 5 (some .int) ∈ x_big := x_in 1209 (by decide +kernel)
theorem kw_1210 : (Cond.methodLink "EvePostModel" (215 : Nat) yX12_hasAny) ∈ x_big := x_in 1210 (by decide +kernel)
theorem kw_1212 : (Cond.instanceMethod yX12_hasAny) ∈ x_big := x_in 1212 (by decide +kernel)
theorem kw_1213 : Cond.code yX12_hasAny cX12_hasAny 5 (some .boolean) ∈ x_big := x_in 1213 (by decide +kernel)
theorem kw_1214 : (Cond.methodLink "EvePostLaw" (88 : Nat) yX12_chains) ∈ x_big := x_in 1214 (by decide +kernel)
theorem kw_1215 : (Cond.instanceMethod yX12_chains) ∈ x_big := x_in 1215 (by decide +kernel)
theorem kw_1216 : (Cond.selects "EvePostModel" yX12_chains yX12_chains) ∈ x_big := x_in 1216 (by decide +kernel)
theorem kw_1217 : Cond.code yX12_chains cX12_chains 6 (some .int) ∈ x_big := x_in 1217 (by decide +kernel)
theorem kw_1218 : (Cond.constantLong "EvePostModel" (218 : Nat) (5 : Int64)) ∈ x_big := x_in 1218 (by decide +kernel)
theorem kw_1219 : (Cond.methodLink "EvePostModel" (220 : Nat) yX12_layChains) ∈ x_big := x_in 1219 (by decide +kernel)
theorem kw_1221 : (Cond.instanceMethod yX12_layChains) ∈ x_big := x_in 1221 (by decide +kernel)
theorem kw_1222 : Cond.code yX12_layChains cX12_layChains 5 none ∈ x_big := x_in 1222 (by decide +kernel)
theorem kw_1223 : (Cond.methodLink "EvePostLaw" (92 : Nat) yX12_breaks) ∈ x_big := x_in 1223 (by decide +kernel)
theorem kw_1224 : (Cond.instanceMethod yX12_breaks) ∈ x_big := x_in 1224 (by decide +kernel)
theorem kw_1225 : (Cond.selects "EvePostModel" yX12_breaks yX12_breaks) ∈ x_big := x_in 1225 (by decide +kernel)
theorem kw_1226 : Cond.code yX12_breaks cX12_breaks 8 (some .int) ∈ x_big := x_in 1226 (by decide +kernel)
theorem kw_1227 : (Cond.constantLong "EvePostModel" (223 : Nat) (40 : Int64)) ∈ x_big := x_in 1227 (by decide +kernel)
theorem kw_1228 : (Cond.methodLink "EvePostLaw" (96 : Nat) yX12_comes) ∈ x_big := x_in 1228 (by decide +kernel)
theorem kw_1229 : (Cond.instanceMethod yX12_comes) ∈ x_big := x_in 1229 (by decide +kernel)
theorem kw_1230 : (Cond.selects "EvePostModel" yX12_comes yX12_comes) ∈ x_big := x_in 1230 (by decide +kernel)
theorem kw_1231 : Cond.code yX12_comes cX12_comes 8 (some .int) ∈ x_big := x_in 1231 (by decide +kernel)
theorem kw_1232 : (Cond.methodLink "EvePostModel" (225 : Nat) yX12_oddsOf) ∈ x_big := x_in 1232 (by decide +kernel)
theorem kw_1234 : (Cond.instanceMethod yX12_oddsOf) ∈ x_big := x_in 1234 (by decide +kernel)
theorem kw_1235 : Cond.code yX12_oddsOf cX12_oddsOf 8 (some .int) ∈ x_big := x_in 1235 (by decide +kernel)
theorem kw_1236 : (Cond.methodLink "EvePostModel" (228 : Nat) yX12_oddsIn) ∈ x_big := x_in 1236 (by decide +kernel)
theorem kw_1238 : (Cond.instanceMethod yX12_oddsIn) ∈ x_big := x_in 1238 (by decide +kernel)
theorem kw_1239 : Cond.code yX12_oddsIn cX12_oddsIn 3 (some .int) ∈ x_big := x_in 1239 (by decide +kernel)
theorem kw_1240 : (Cond.methodLink "EvePostLaw" (100 : Nat) yX12_likeliest) ∈ x_big := x_in 1240 (by decide +kernel)
theorem kw_1241 : (Cond.instanceMethod yX12_likeliest) ∈ x_big := x_in 1241 (by decide +kernel)
theorem kw_1242 : (Cond.selects "EvePostModel" yX12_likeliest yX12_likeliest) ∈ x_big := x_in 1242 (by decide +kernel)
theorem kw_1243 : Cond.code yX12_likeliest cX12_likeliest 3 (some .int) ∈ x_big := x_in 1243 (by decide +kernel)
theorem kw_1244 : (Cond.methodLink "EvePostLaw" (104 : Nat) yX12_lost) ∈ x_big := x_in 1244 (by decide +kernel)
theorem kw_1245 : (Cond.instanceMethod yX12_lost) ∈ x_big := x_in 1245 (by decide +kernel)
theorem kw_1246 : (Cond.selects "EvePostModel" yX12_lost yX12_lost) ∈ x_big := x_in 1246 (by decide +kernel)
theorem kw_1247 : Cond.code yX12_lost cX12_lost 6 (some .int) ∈ x_big := x_in 1247 (by decide +kernel)
theorem kw_1248 : (Cond.methodLink "EvePostLaw" (108 : Nat) yX12_readBy) ∈ x_big := x_in 1248 (by decide +kernel)
theorem kw_1249 : (Cond.instanceMethod yX12_readBy) ∈ x_big := x_in 1249 (by decide +kernel)
theorem kw_1250 : (Cond.selects "EvePostModel" yX12_readBy yX12_readBy) ∈ x_big := x_in 1250 (by decide +kernel)
theorem kw_1251 : Cond.code yX12_readBy cX12_readBy 7 (some .int) ∈ x_big := x_in 1251 (by decide +kernel)
theorem kw_1252 : (Cond.methodLink "EvePostLaw" (112 : Nat) yX12_image) ∈ x_big := x_in 1252 (by decide +kernel)
theorem kw_1253 : (Cond.instanceMethod yX12_image) ∈ x_big := x_in 1253 (by decide +kernel)
theorem kw_1254 : (Cond.selects "EvePostModel" yX12_image yX12_image) ∈ x_big := x_in 1254 (by decide +kernel)
theorem kw_1255 : Cond.code yX12_image cX12_image 3 (some .int) ∈ x_big := x_in 1255 (by decide +kernel)
theorem kw_1256 : (Cond.methodLink "EvePostLaw" (116 : Nat) yX12_restore) ∈ x_big := x_in 1256 (by decide +kernel)
theorem kw_1257 : (Cond.instanceMethod yX12_restore) ∈ x_big := x_in 1257 (by decide +kernel)
theorem kw_1258 : (Cond.selects "EvePostModel" yX12_restore yX12_restore) ∈ x_big := x_in 1258 (by decide +kernel)
theorem kw_1259 : Cond.code yX12_restore cX12_restore 3 (some .int) ∈ x_big := x_in 1259 (by decide +kernel)
theorem kw_1260 : (Cond.methodLink "EvePostLaw" (120 : Nat) yX12_kind) ∈ x_big := x_in 1260 (by decide +kernel)
theorem kw_1261 : (Cond.instanceMethod yX12_kind) ∈ x_big := x_in 1261 (by decide +kernel)
theorem kw_1262 : (Cond.selects "EvePostModel" yX12_kind yX12_kind) ∈ x_big := x_in 1262 (by decide +kernel)
theorem kw_1263 : Cond.code yX12_kind cX12_kind 2 (some .int) ∈ x_big := x_in 1263 (by decide +kernel)
theorem kw_1264 : (Cond.methodLink "EvePostLaw" (124 : Nat) yX12_as) ∈ x_big := x_in 1264 (by decide +kernel)
theorem kw_1265 : (Cond.instanceMethod yX12_as) ∈ x_big := x_in 1265 (by decide +kernel)
theorem kw_1266 : (Cond.selects "EvePostModel" yX12_as yX12_as) ∈ x_big := x_in 1266 (by decide +kernel)
theorem kw_1267 : Cond.code yX12_as cX12_as 3 (some .int) ∈ x_big := x_in 1267 (by decide +kernel)
theorem kw_1268 : (Cond.methodLink "EvePostModel" (231 : Nat) yX12_isOf) ∈ x_big := x_in 1268 (by decide +kernel)
theorem kw_1269 : (Cond.static yX12_isOf) ∈ x_big := x_in 1269 (by decide +kernel)
theorem kw_1270 : Cond.code yX12_isOf cX12_isOf 2 (some .boolean) ∈ x_big := x_in 1270 (by decide +kernel)
theorem kw_1271 : (Cond.methodLink "EvePostLaw" (128 : Nat) yX12_ask) ∈ x_big := x_in 1271 (by decide +kernel)
theorem kw_1272 : (Cond.instanceMethod yX12_ask) ∈ x_big := x_in 1272 (by decide +kernel)
theorem kw_1273 : (Cond.selects "EvePostModel" yX12_ask yX12_ask) ∈ x_big := x_in 1273 (by decide +kernel)
theorem kw_1274 : Cond.code yX12_ask cX12_ask 3 (some .int) ∈ x_big := x_in 1274 (by decide +kernel)
theorem kw_1275 : (Cond.methodLink "EvePostModel" (249 : Nat) yX12_sizeOf) ∈ x_big := x_in 1275 (by decide +kernel)
theorem kw_1277 : (Cond.instanceMethod yX12_sizeOf) ∈ x_big := x_in 1277 (by decide +kernel)
theorem kw_1278 : Cond.code yX12_sizeOf cX12_sizeOf 4 (some .int) ∈ x_big := x_in 1278 (by decide +kernel)
theorem kw_1279 : (Cond.methodLink "EvePostModel" (243 : Nat) yX12_crowdSize) ∈ x_big := x_in 1279 (by decide +kernel)
theorem kw_1281 : (Cond.instanceMethod yX12_crowdSize) ∈ x_big := x_in 1281 (by decide +kernel)
theorem kw_1282 : Cond.code yX12_crowdSize cX12_crowdSize 3 (some .int) ∈ x_big := x_in 1282 (by decide +kernel)
theorem kw_1283 : (Cond.methodLink "EvePostModel" (237 : Nat) yX12_began) ∈ x_big := x_in 1283 (by decide +kernel)
theorem kw_1285 : (Cond.instanceMethod yX12_began) ∈ x_big := x_in 1285 (by decide +kernel)
theorem kw_1286 : Cond.code yX12_began cX12_began 2 none ∈ x_big := x_in 1286 (by decide +kernel)
theorem kw_1287 : (Cond.methodLink "EvePostModel" (240 : Nat) yX12_plainSize) ∈ x_big := x_in 1287 (by decide +kernel)
theorem kw_1289 : (Cond.instanceMethod yX12_plainSize) ∈ x_big := x_in 1289 (by decide +kernel)
theorem kw_1290 : Cond.code yX12_plainSize cX12_plainSize 2 (some .int) ∈ x_big := x_in 1290 (by decide +kernel)
theorem kw_1291 : (Cond.methodLink "EvePostModel" (246 : Nat) yX12_markOf) ∈ x_big := x_in 1291 (by decide +kernel)
theorem kw_1293 : (Cond.instanceMethod yX12_markOf) ∈ x_big := x_in 1293 (by decide +kernel)
theorem kw_1294 : Cond.code yX12_markOf cX12_markOf 4 (some .int) ∈ x_big := x_in 1294 (by decide +kernel)
theorem kw_1295 : (Cond.methodLink "EvePostLaw" (132 : Nat) yX12_trace) ∈ x_big := x_in 1295 (by decide +kernel)
theorem kw_1296 : (Cond.instanceMethod yX12_trace) ∈ x_big := x_in 1296 (by decide +kernel)
theorem kw_1297 : (Cond.selects "EvePostModel" yX12_trace yX12_trace) ∈ x_big := x_in 1297 (by decide +kernel)
theorem kw_1298 : Cond.code yX12_trace cX12_trace 2 (some .int) ∈ x_big := x_in 1298 (by decide +kernel)
theorem kw_1299 : (Cond.methodLink "EvePostLaw" (136 : Nat) yX12_count) ∈ x_big := x_in 1299 (by decide +kernel)
theorem kw_1300 : (Cond.instanceMethod yX12_count) ∈ x_big := x_in 1300 (by decide +kernel)
theorem kw_1301 : (Cond.selects "EvePostModel" yX12_count yX12_count) ∈ x_big := x_in 1301 (by decide +kernel)
theorem kw_1302 : Cond.code yX12_count cX12_count 4 (some .int) ∈ x_big := x_in 1302 (by decide +kernel)
theorem kw_1303 : (Cond.methodLink "EvePostLaw" (140 : Nat) yX12_status) ∈ x_big := x_in 1303 (by decide +kernel)
theorem kw_1304 : (Cond.instanceMethod yX12_status) ∈ x_big := x_in 1304 (by decide +kernel)
theorem kw_1305 : (Cond.selects "EvePostModel" yX12_status yX12_status) ∈ x_big := x_in 1305 (by decide +kernel)
theorem kw_1306 : Cond.code yX12_status cX12_status 1 (some .int) ∈ x_big := x_in 1306 (by decide +kernel)
theorem kw_1307 : (Cond.constantLong "EvePostLaw" (32 : Nat) (4294967295 : Int64)) ∈ x_big := x_in 1307 (by decide +kernel)
theorem kw_1308 : (Cond.sameMethod "EvePost$TrueOne" "EvePost$TrueOne" "size" "(LEvePost$Trail;)I") ∈ x_big := x_in 1308 (by decide +kernel)
theorem kw_1309 : (Cond.sameMethod "EvePost$Person" "EvePost$Person" "mark" "(LEvePost$Trail;)I") ∈ x_big := x_in 1309 (by decide +kernel)
theorem kw_1310 : (Cond.sameMethod "EvePost$CrowdOne" "EvePost$CrowdOne" "size" "(LEvePost$Trail;)I") ∈ x_big := x_in 1310 (by decide +kernel)
theorem kw_1311 : (Cond.selects "EvePost$CrossOne" yX5_mark yX0_mark) ∈ x_big := x_in 1311 (by decide +kernel)
theorem kw_1312 : (Cond.selects "EvePost$CrowdOne" yX5_mark yX1_mark) ∈ x_big := x_in 1312 (by decide +kernel)
theorem kw_1313 : (Cond.selects "EvePost$CrowdOne" yX1_size yX1_size) ∈ x_big := x_in 1313 (by decide +kernel)
theorem kw_1314 : (Cond.selects "EvePost$MoodyOne" yX1_size yX4_size) ∈ x_big := x_in 1314 (by decide +kernel)
theorem kw_1315 : (Cond.selects "EvePost$LotOne" yX5_mark yX3_mark) ∈ x_big := x_in 1315 (by decide +kernel)
theorem kw_1316 : (Cond.selects "EvePost$MoodyOne" yX5_mark yX1_mark) ∈ x_big := x_in 1316 (by decide +kernel)
theorem kw_1317 : (Cond.selects "EvePost$TrueOne" yX5_mark yX10_mark) ∈ x_big := x_in 1317 (by decide +kernel)
theorem kw_1326 : (Cond.fieldLink "java/lang/String" (9 : Nat) "java/lang/String" "value" "[B") ∈ x_big := x_in 1326 (by decide +kernel)
theorem kw_1327 : (Cond.fieldLink "java/lang/String" (15 : Nat) "java/lang/String" "coder" "B") ∈ x_big := x_in 1327 (by decide +kernel)
theorem xin_X0 : ∀ w ∈ u_ws RX0 TX0 3, w ∈ x_big := x_ins _ [449, 450, 451] (by decide +kernel)
theorem xin_X1 : ∀ w ∈ u_ws RX1 TX1 3, w ∈ x_big := x_ins _ [469, 470, 471] (by decide +kernel)
theorem xin_X2 : ∀ w ∈ u_ws RX2 TX2 1, w ∈ x_big := x_ins _ [170] (by decide +kernel)
theorem xin_X3 : ∀ w ∈ u_ws RX3 TX3 3, w ∈ x_big := x_ins _ [459, 460, 461] (by decide +kernel)
theorem xin_X4 : ∀ w ∈ u_ws RX4 TX4 3, w ∈ x_big := x_ins _ [479, 480, 481] (by decide +kernel)
theorem xin_X6 : ∀ w ∈ u_ws RX6 TX6 3, w ∈ x_big := x_ins _ [93, 95, 97] (by decide +kernel)
theorem xin_X7 : ∀ w ∈ u_ws RX7 TX7 8, w ∈ x_big := x_ins _ [117, 119, 121, 123, 125, 127, 129, 131] (by decide +kernel)
theorem xin_X8 : ∀ w ∈ u_ws RX8 TX8 6, w ∈ x_big := x_ins _ [148, 150, 152, 154, 156, 158] (by decide +kernel)
theorem xin_X9 : ∀ w ∈ u_ws RX9 TX9 2, w ∈ x_big := x_ins _ [181, 183] (by decide +kernel)
theorem xin_X10 : ∀ w ∈ u_ws RX10 TX10 3, w ∈ x_big := x_ins _ [436, 438, 440] (by decide +kernel)
theorem xin_X11 : ∀ w ∈ u_ws RX11 TX11 9, w ∈ x_big := x_ins _ [195, 197, 199, 201, 203, 205, 207, 209, 211] (by decide +kernel)
theorem xin_X12 : ∀ w ∈ u_ws RX12 TX12 24, w ∈ x_big := x_ins _ [969, 971, 973, 975, 977, 979, 981, 983, 985, 987, 989, 991, 993, 995, 997, 999, 1001, 1003, 1005, 1007, 1009, 1011, 1013, 1015] (by decide +kernel)
theorem pn_J0 : plainName RJ0 = true := by decide +kernel
theorem pn_J1 : plainName RJ1 = true := by decide +kernel
theorem pn_J2 : plainName RJ2 = true := by decide +kernel
theorem pn_J3 : plainName RJ3 = true := by decide +kernel
theorem pn_J6 : plainName RJ6 = true := by decide +kernel
theorem pn_J7 : plainName RJ7 = true := by decide +kernel
theorem pn_L : plainName RL = true := by decide +kernel
theorem pn_X0 : plainName RX0 = true := by decide +kernel
theorem pn_X1 : plainName RX1 = true := by decide +kernel
theorem pn_X10 : plainName RX10 = true := by decide +kernel
theorem pn_X11 : plainName RX11 = true := by decide +kernel
theorem pn_X12 : plainName RX12 = true := by decide +kernel
theorem pn_X2 : plainName RX2 = true := by decide +kernel
theorem pn_X3 : plainName RX3 = true := by decide +kernel
theorem pn_X4 : plainName RX4 = true := by decide +kernel
theorem pn_X5 : plainName RX5 = true := by decide +kernel
theorem pn_X6 : plainName RX6 = true := by decide +kernel
theorem pn_X7 : plainName RX7 = true := by decide +kernel
theorem pn_X8 : plainName RX8 = true := by decide +kernel
theorem pn_X9 : plainName RX9 = true := by decide +kernel
theorem fF_X6_13_5 : xF RX6 13 5 0 := ⟨RX6, TX6, 3, "EvePost$Rows", rfl, xin_X6, by decide, kw_90, (Or.inl rfl)⟩
theorem fW_X6_13_5 : xFw RX6 "<init>" 13 5 0 (.array (.array .int)) := ⟨RX6, TX6, 3, "EvePost$Rows", tyX6, rfl, xin_X6, by decide, kw_90, (Or.inl rfl), tyX6_ok, nmX6, by decide +kernel, Or.inr ⟨rfl, rfl, rfl⟩⟩
theorem fF_X6_16_5 : xF RX6 16 5 1 := ⟨RX6, TX6, 3, "EvePost$Rows", rfl, xin_X6, by decide, kw_91, (Or.inl rfl)⟩
theorem fW_X6_16_5 : xFw RX6 "<init>" 16 5 1 (.array .int) := ⟨RX6, TX6, 3, "EvePost$Rows", tyX6, rfl, xin_X6, by decide, kw_91, (Or.inl rfl), tyX6_ok, nmX6, by decide +kernel, Or.inr ⟨rfl, rfl, rfl⟩⟩
theorem fF_X6_20_5 : xF RX6 20 5 2 := ⟨RX6, TX6, 3, "EvePost$Rows", rfl, xin_X6, by decide, kw_92, (Or.inl rfl)⟩
theorem fW_X6_20_5 : xFw RX6 "<init>" 20 5 2 (.array .int) := ⟨RX6, TX6, 3, "EvePost$Rows", tyX6, rfl, xin_X6, by decide, kw_92, (Or.inl rfl), tyX6_ok, nmX6, by decide +kernel, Or.inr ⟨rfl, rfl, rfl⟩⟩
theorem fF_X7_11_6 : xF RX7 11 6 0 := ⟨RX7, TX7, 8, "EvePost$Tape", rfl, xin_X7, by decide, kw_109, (Or.inl rfl)⟩
theorem fW_X7_11_6 : xFw RX7 "<init>" 11 6 0 (.array .byte) := ⟨RX7, TX7, 8, "EvePost$Tape", tyX7, rfl, xin_X7, by decide, kw_109, (Or.inl rfl), tyX7_ok, nmX7, by decide +kernel, Or.inr ⟨rfl, rfl, rfl⟩⟩
theorem fF_X7_15_6 : xF RX7 15 6 1 := ⟨RX7, TX7, 8, "EvePost$Tape", rfl, xin_X7, by decide, kw_110, (Or.inl rfl)⟩
theorem fW_X7_15_6 (nm : String) : xFw RX7 nm 15 6 1 .int := ⟨RX7, TX7, 8, "EvePost$Tape", tyX7, rfl, xin_X7, by decide, kw_110, (Or.inl rfl), tyX7_ok, nmX7, by decide +kernel, Or.inl rfl⟩
theorem fF_X7_21_6 : xF RX7 21 6 2 := ⟨RX7, TX7, 8, "EvePost$Tape", rfl, xin_X7, by decide, kw_111, (Or.inl rfl)⟩
theorem fW_X7_21_6 : xFw RX7 "<init>" 21 6 2 (.array (.object "EvePost$Person")) := ⟨RX7, TX7, 8, "EvePost$Tape", tyX7, rfl, xin_X7, by decide, kw_111, (Or.inl rfl), tyX7_ok, nmX7, by decide +kernel, Or.inr ⟨rfl, rfl, rfl⟩⟩
theorem fF_X7_25_6 : xF RX7 25 6 3 := ⟨RX7, TX7, 8, "EvePost$Tape", rfl, xin_X7, by decide, kw_112, (Or.inl rfl)⟩
theorem fW_X7_25_6 (nm : String) : xFw RX7 nm 25 6 3 .int := ⟨RX7, TX7, 8, "EvePost$Tape", tyX7, rfl, xin_X7, by decide, kw_112, (Or.inl rfl), tyX7_ok, nmX7, by decide +kernel, Or.inl rfl⟩
theorem fF_X7_28_6 : xF RX7 28 6 4 := ⟨RX7, TX7, 8, "EvePost$Tape", rfl, xin_X7, by decide, kw_113, (Or.inl rfl)⟩
theorem fW_X7_28_6 (nm : String) : xFw RX7 nm 28 6 4 .int := ⟨RX7, TX7, 8, "EvePost$Tape", tyX7, rfl, xin_X7, by decide, kw_113, (Or.inl rfl), tyX7_ok, nmX7, by decide +kernel, Or.inl rfl⟩
theorem fF_X7_31_6 : xF RX7 31 6 5 := ⟨RX7, TX7, 8, "EvePost$Tape", rfl, xin_X7, by decide, kw_114, (Or.inl rfl)⟩
theorem fW_X7_31_6 (nm : String) : xFw RX7 nm 31 6 5 .int := ⟨RX7, TX7, 8, "EvePost$Tape", tyX7, rfl, xin_X7, by decide, kw_114, (Or.inl rfl), tyX7_ok, nmX7, by decide +kernel, Or.inl rfl⟩
theorem fF_X7_34_6 : xF RX7 34 6 6 := ⟨RX7, TX7, 8, "EvePost$Tape", rfl, xin_X7, by decide, kw_115, (Or.inl rfl)⟩
theorem fW_X7_34_6 (nm : String) : xFw RX7 nm 34 6 6 .int := ⟨RX7, TX7, 8, "EvePost$Tape", tyX7, rfl, xin_X7, by decide, kw_115, (Or.inl rfl), tyX7_ok, nmX7, by decide +kernel, Or.inl rfl⟩
theorem fF_X7_37_6 : xF RX7 37 6 7 := ⟨RX7, TX7, 8, "EvePost$Tape", rfl, xin_X7, by decide, kw_116, (Or.inl rfl)⟩
theorem fW_X7_37_6 (nm : String) : xFw RX7 nm 37 6 7 .int := ⟨RX7, TX7, 8, "EvePost$Tape", tyX7, rfl, xin_X7, by decide, kw_116, (Or.inl rfl), tyX7_ok, nmX7, by decide +kernel, Or.inl rfl⟩
theorem fF_X8_11_7 : xF RX8 11 7 0 := ⟨RX8, TX8, 6, "EvePost$Town", rfl, xin_X8, by decide, kw_142, (Or.inl rfl)⟩
theorem fW_X8_11_7 : xFw RX8 "<init>" 11 7 0 (.array (.object "EvePost$Person")) := ⟨RX8, TX8, 6, "EvePost$Town", tyX8, rfl, xin_X8, by decide, kw_142, (Or.inl rfl), tyX8_ok, nmX8, by decide +kernel, Or.inr ⟨rfl, rfl, rfl⟩⟩
theorem fF_X8_17_7 : xF RX8 17 7 1 := ⟨RX8, TX8, 6, "EvePost$Town", rfl, xin_X8, by decide, kw_143, (Or.inl rfl)⟩
theorem fW_X8_17_7 (nm : String) : xFw RX8 nm 17 7 1 .int := ⟨RX8, TX8, 6, "EvePost$Town", tyX8, rfl, xin_X8, by decide, kw_143, (Or.inl rfl), tyX8_ok, nmX8, by decide +kernel, Or.inl rfl⟩
theorem fF_X8_21_7 : xF RX8 21 7 2 := ⟨RX8, TX8, 6, "EvePost$Town", rfl, xin_X8, by decide, kw_144, (Or.inl rfl)⟩
theorem fW_X8_21_7 (nm : String) : xFw RX8 nm 21 7 2 .int := ⟨RX8, TX8, 6, "EvePost$Town", tyX8, rfl, xin_X8, by decide, kw_144, (Or.inl rfl), tyX8_ok, nmX8, by decide +kernel, Or.inl rfl⟩
theorem fF_X8_24_7 : xF RX8 24 7 3 := ⟨RX8, TX8, 6, "EvePost$Town", rfl, xin_X8, by decide, kw_145, (Or.inl rfl)⟩
theorem fW_X8_24_7 (nm : String) : xFw RX8 nm 24 7 3 .int := ⟨RX8, TX8, 6, "EvePost$Town", tyX8, rfl, xin_X8, by decide, kw_145, (Or.inl rfl), tyX8_ok, nmX8, by decide +kernel, Or.inl rfl⟩
theorem fF_X8_27_7 : xF RX8 27 7 4 := ⟨RX8, TX8, 6, "EvePost$Town", rfl, xin_X8, by decide, kw_146, (Or.inl rfl)⟩
theorem fW_X8_27_7 : xFw RX8 "<init>" 27 7 4 (.array .int) := ⟨RX8, TX8, 6, "EvePost$Town", tyX8, rfl, xin_X8, by decide, kw_146, (Or.inl rfl), tyX8_ok, nmX8, by decide +kernel, Or.inr ⟨rfl, rfl, rfl⟩⟩
theorem fF_X8_31_7 : xF RX8 31 7 5 := ⟨RX8, TX8, 6, "EvePost$Town", rfl, xin_X8, by decide, kw_147, (Or.inl rfl)⟩
theorem fW_X8_31_7 (nm : String) : xFw RX8 nm 31 7 5 .int := ⟨RX8, TX8, 6, "EvePost$Town", tyX8, rfl, xin_X8, by decide, kw_147, (Or.inl rfl), tyX8_ok, nmX8, by decide +kernel, Or.inl rfl⟩
theorem fF_X2_11_2 : xF RX2 11 2 0 := ⟨RX2, TX2, 1, "EvePost$Foretold", rfl, xin_X2, by decide, kw_169, (Or.inl rfl)⟩
theorem fW_X2_11_2 : xFw RX2 "<init>" 11 2 0 (.array (.array .int)) := ⟨RX2, TX2, 1, "EvePost$Foretold", tyX2, rfl, xin_X2, by decide, kw_169, (Or.inl rfl), tyX2_ok, nmX2, by decide +kernel, Or.inr ⟨rfl, rfl, rfl⟩⟩
theorem fF_X9_11_8 : xF RX9 11 8 0 := ⟨RX9, TX9, 2, "EvePost$Trail", rfl, xin_X9, by decide, kw_179, (Or.inl rfl)⟩
theorem fW_X9_11_8 : xFw RX9 "<init>" 11 8 0 (.array .int) := ⟨RX9, TX9, 2, "EvePost$Trail", tyX9, rfl, xin_X9, by decide, kw_179, (Or.inl rfl), tyX9_ok, nmX9, by decide +kernel, Or.inr ⟨rfl, rfl, rfl⟩⟩
theorem fF_X9_15_8 : xF RX9 15 8 1 := ⟨RX9, TX9, 2, "EvePost$Trail", rfl, xin_X9, by decide, kw_180, (Or.inl rfl)⟩
theorem fW_X9_15_8 (nm : String) : xFw RX9 nm 15 8 1 .int := ⟨RX9, TX9, 2, "EvePost$Trail", tyX9, rfl, xin_X9, by decide, kw_180, (Or.inl rfl), tyX9_ok, nmX9, by decide +kernel, Or.inl rfl⟩
theorem fF_X11_12_10 : xF RX11 12 10 0 := ⟨RX11, TX11, 9, "EvePost", rfl, xin_X11, by decide, kw_186, (Or.inl rfl)⟩
theorem fW_X11_12_10 : xFw RX11 "<init>" 12 10 0 (.object "EvePost$Rows") := ⟨RX11, TX11, 9, "EvePost", tyX11, rfl, xin_X11, by decide, kw_186, (Or.inl rfl), tyX11_ok, nmX11, by decide +kernel, Or.inr ⟨rfl, rfl, rfl⟩⟩
theorem fF_X11_19_10 : xF RX11 19 10 1 := ⟨RX11, TX11, 9, "EvePost", rfl, xin_X11, by decide, kw_187, (Or.inl rfl)⟩
theorem fW_X11_19_10 : xFw RX11 "<init>" 19 10 1 (.object "EvePost$Tape") := ⟨RX11, TX11, 9, "EvePost", tyX11, rfl, xin_X11, by decide, kw_187, (Or.inl rfl), tyX11_ok, nmX11, by decide +kernel, Or.inr ⟨rfl, rfl, rfl⟩⟩
theorem fF_X11_26_10 : xF RX11 26 10 2 := ⟨RX11, TX11, 9, "EvePost", rfl, xin_X11, by decide, kw_188, (Or.inl rfl)⟩
theorem fW_X11_26_10 : xFw RX11 "<init>" 26 10 2 (.object "EvePost$Town") := ⟨RX11, TX11, 9, "EvePost", tyX11, rfl, xin_X11, by decide, kw_188, (Or.inl rfl), tyX11_ok, nmX11, by decide +kernel, Or.inr ⟨rfl, rfl, rfl⟩⟩
theorem fF_X11_30_10 : xF RX11 30 10 3 := ⟨RX11, TX11, 9, "EvePost", rfl, xin_X11, by decide, kw_189, (Or.inl rfl)⟩
theorem fW_X11_30_10 : xFw RX11 "<init>" 30 10 3 (.array (.object "EvePost$Town")) := ⟨RX11, TX11, 9, "EvePost", tyX11, rfl, xin_X11, by decide, kw_189, (Or.inl rfl), tyX11_ok, nmX11, by decide +kernel, Or.inr ⟨rfl, rfl, rfl⟩⟩
theorem fF_X11_37_10 : xF RX11 37 10 4 := ⟨RX11, TX11, 9, "EvePost", rfl, xin_X11, by decide, kw_190, (Or.inl rfl)⟩
theorem fW_X11_37_10 : xFw RX11 "<init>" 37 10 4 (.object "EvePost$Foretold") := ⟨RX11, TX11, 9, "EvePost", tyX11, rfl, xin_X11, by decide, kw_190, (Or.inl rfl), tyX11_ok, nmX11, by decide +kernel, Or.inr ⟨rfl, rfl, rfl⟩⟩
theorem fF_X11_44_10 : xF RX11 44 10 5 := ⟨RX11, TX11, 9, "EvePost", rfl, xin_X11, by decide, kw_191, (Or.inl rfl)⟩
theorem fW_X11_44_10 : xFw RX11 "<init>" 44 10 5 (.object "EvePost$Trail") := ⟨RX11, TX11, 9, "EvePost", tyX11, rfl, xin_X11, by decide, kw_191, (Or.inl rfl), tyX11_ok, nmX11, by decide +kernel, Or.inr ⟨rfl, rfl, rfl⟩⟩
theorem fF_X11_48_10 : xF RX11 48 10 6 := ⟨RX11, TX11, 9, "EvePost", rfl, xin_X11, by decide, kw_192, (Or.inl rfl)⟩
theorem fW_X11_48_10 : xFw RX11 "<init>" 48 10 6 (.array .int) := ⟨RX11, TX11, 9, "EvePost", tyX11, rfl, xin_X11, by decide, kw_192, (Or.inl rfl), tyX11_ok, nmX11, by decide +kernel, Or.inr ⟨rfl, rfl, rfl⟩⟩
theorem fF_X11_52_10 : xF RX11 52 10 7 := ⟨RX11, TX11, 9, "EvePost", rfl, xin_X11, by decide, kw_193, (Or.inl rfl)⟩
theorem fW_X11_52_10 (nm : String) : xFw RX11 nm 52 10 7 .int := ⟨RX11, TX11, 9, "EvePost", tyX11, rfl, xin_X11, by decide, kw_193, (Or.inl rfl), tyX11_ok, nmX11, by decide +kernel, Or.inl rfl⟩
theorem fF_X11_56_10 : xF RX11 56 10 8 := ⟨RX11, TX11, 9, "EvePost", rfl, xin_X11, by decide, kw_194, (Or.inl rfl)⟩
theorem fW_X11_56_10 (nm : String) : xFw RX11 nm 56 10 8 .int := ⟨RX11, TX11, 9, "EvePost", tyX11, rfl, xin_X11, by decide, kw_194, (Or.inl rfl), tyX11_ok, nmX11, by decide +kernel, Or.inl rfl⟩
theorem fF_X5_7_0 : xF RX5 7 0 0 := ⟨RX0, TX0, 3, "EvePost$Person", rfl, xin_X0, by decide, kw_418, (Or.inl rfl)⟩
theorem fW_X5_7_0 : xFw RX5 "<init>" 7 0 0 .int := ⟨RX0, TX0, 3, "EvePost$Person", tyX0, rfl, xin_X0, by decide, kw_418, (Or.inl rfl), tyX0_ok, nmX0, by decide +kernel, Or.inr ⟨rfl, rfl, rfl⟩⟩
theorem fF_X5_7_1 : xF RX5 7 1 0 := ⟨RX1, TX1, 3, "EvePost$Person", rfl, xin_X1, by decide, kw_418, (Or.inl rfl)⟩
theorem fW_X5_7_1 : xFw RX5 "<init>" 7 1 0 .int := ⟨RX1, TX1, 3, "EvePost$Person", tyX1, rfl, xin_X1, by decide, kw_418, (Or.inl rfl), tyX1_ok, nmX1, by decide +kernel, Or.inr ⟨rfl, rfl, rfl⟩⟩
theorem fF_X5_7_3 : xF RX5 7 3 0 := ⟨RX3, TX3, 3, "EvePost$Person", rfl, xin_X3, by decide, kw_418, (Or.inl rfl)⟩
theorem fW_X5_7_3 : xFw RX5 "<init>" 7 3 0 .int := ⟨RX3, TX3, 3, "EvePost$Person", tyX3, rfl, xin_X3, by decide, kw_418, (Or.inl rfl), tyX3_ok, nmX3, by decide +kernel, Or.inr ⟨rfl, rfl, rfl⟩⟩
theorem fF_X5_7_4 : xF RX5 7 4 0 := ⟨RX4, TX4, 3, "EvePost$Person", rfl, xin_X4, by decide, kw_418, (Or.inl rfl)⟩
theorem fW_X5_7_4 : xFw RX5 "<init>" 7 4 0 .int := ⟨RX4, TX4, 3, "EvePost$Person", tyX4, rfl, xin_X4, by decide, kw_418, (Or.inl rfl), tyX4_ok, nmX4, by decide +kernel, Or.inr ⟨rfl, rfl, rfl⟩⟩
theorem fF_X5_7_9 : xF RX5 7 9 0 := ⟨RX10, TX10, 3, "EvePost$Person", rfl, xin_X10, by decide, kw_418, (Or.inl rfl)⟩
theorem fW_X5_7_9 : xFw RX5 "<init>" 7 9 0 .int := ⟨RX10, TX10, 3, "EvePost$Person", tyX10, rfl, xin_X10, by decide, kw_418, (Or.inl rfl), tyX10_ok, nmX10, by decide +kernel, Or.inr ⟨rfl, rfl, rfl⟩⟩
theorem fF_X4_19_4 : xF RX4 19 4 0 := ⟨RX4, TX4, 3, "EvePost$MoodyOne", rfl, xin_X4, by decide, kw_419, (Or.inr kw_420)⟩
theorem fF_X11_244_0 : xF RX11 244 0 0 := ⟨RX0, TX0, 3, "EvePost$Person", rfl, xin_X0, by decide, kw_421, (Or.inl rfl)⟩
theorem fF_X11_244_1 : xF RX11 244 1 0 := ⟨RX1, TX1, 3, "EvePost$Person", rfl, xin_X1, by decide, kw_421, (Or.inl rfl)⟩
theorem fF_X11_244_3 : xF RX11 244 3 0 := ⟨RX3, TX3, 3, "EvePost$Person", rfl, xin_X3, by decide, kw_421, (Or.inl rfl)⟩
theorem fF_X11_244_4 : xF RX11 244 4 0 := ⟨RX4, TX4, 3, "EvePost$Person", rfl, xin_X4, by decide, kw_421, (Or.inl rfl)⟩
theorem fF_X11_244_9 : xF RX11 244 9 0 := ⟨RX10, TX10, 3, "EvePost$Person", rfl, xin_X10, by decide, kw_421, (Or.inl rfl)⟩
theorem fF_X5_13_0 : xF RX5 13 0 1 := ⟨RX0, TX0, 3, "EvePost$Person", rfl, xin_X0, by decide, kw_422, (Or.inl rfl)⟩
theorem fW_X5_13_0 : xFw RX5 "<init>" 13 0 1 .int := ⟨RX0, TX0, 3, "EvePost$Person", tyX0, rfl, xin_X0, by decide, kw_422, (Or.inl rfl), tyX0_ok, nmX0, by decide +kernel, Or.inr ⟨rfl, rfl, rfl⟩⟩
theorem fF_X5_13_1 : xF RX5 13 1 1 := ⟨RX1, TX1, 3, "EvePost$Person", rfl, xin_X1, by decide, kw_422, (Or.inl rfl)⟩
theorem fW_X5_13_1 : xFw RX5 "<init>" 13 1 1 .int := ⟨RX1, TX1, 3, "EvePost$Person", tyX1, rfl, xin_X1, by decide, kw_422, (Or.inl rfl), tyX1_ok, nmX1, by decide +kernel, Or.inr ⟨rfl, rfl, rfl⟩⟩
theorem fF_X5_13_3 : xF RX5 13 3 1 := ⟨RX3, TX3, 3, "EvePost$Person", rfl, xin_X3, by decide, kw_422, (Or.inl rfl)⟩
theorem fW_X5_13_3 : xFw RX5 "<init>" 13 3 1 .int := ⟨RX3, TX3, 3, "EvePost$Person", tyX3, rfl, xin_X3, by decide, kw_422, (Or.inl rfl), tyX3_ok, nmX3, by decide +kernel, Or.inr ⟨rfl, rfl, rfl⟩⟩
theorem fF_X5_13_4 : xF RX5 13 4 1 := ⟨RX4, TX4, 3, "EvePost$Person", rfl, xin_X4, by decide, kw_422, (Or.inl rfl)⟩
theorem fW_X5_13_4 : xFw RX5 "<init>" 13 4 1 .int := ⟨RX4, TX4, 3, "EvePost$Person", tyX4, rfl, xin_X4, by decide, kw_422, (Or.inl rfl), tyX4_ok, nmX4, by decide +kernel, Or.inr ⟨rfl, rfl, rfl⟩⟩
theorem fF_X5_13_9 : xF RX5 13 9 1 := ⟨RX10, TX10, 3, "EvePost$Person", rfl, xin_X10, by decide, kw_422, (Or.inl rfl)⟩
theorem fW_X5_13_9 : xFw RX5 "<init>" 13 9 1 .int := ⟨RX10, TX10, 3, "EvePost$Person", tyX10, rfl, xin_X10, by decide, kw_422, (Or.inl rfl), tyX10_ok, nmX10, by decide +kernel, Or.inr ⟨rfl, rfl, rfl⟩⟩
theorem fF_X0_7_0 : xF RX0 7 0 1 := ⟨RX0, TX0, 3, "EvePost$CrossOne", rfl, xin_X0, by decide, kw_423, (Or.inr kw_424)⟩
theorem fF_X10_7_0 : xF RX10 7 0 1 := ⟨RX0, TX0, 3, "EvePost$TrueOne", rfl, xin_X0, by decide, kw_425, (Or.inr kw_426)⟩
theorem fF_X10_7_3 : xF RX10 7 3 1 := ⟨RX3, TX3, 3, "EvePost$TrueOne", rfl, xin_X3, by decide, kw_425, (Or.inr kw_426)⟩
theorem fF_X10_7_9 : xF RX10 7 9 1 := ⟨RX10, TX10, 3, "EvePost$TrueOne", rfl, xin_X10, by decide, kw_425, (Or.inr kw_426)⟩
theorem fF_X4_7_4 : xF RX4 7 4 1 := ⟨RX4, TX4, 3, "EvePost$MoodyOne", rfl, xin_X4, by decide, kw_427, (Or.inr kw_428)⟩
theorem fF_X11_163_0 : xF RX11 163 0 1 := ⟨RX0, TX0, 3, "EvePost$Person", rfl, xin_X0, by decide, kw_429, (Or.inl rfl)⟩
theorem fF_X11_163_1 : xF RX11 163 1 1 := ⟨RX1, TX1, 3, "EvePost$Person", rfl, xin_X1, by decide, kw_429, (Or.inl rfl)⟩
theorem fF_X11_163_3 : xF RX11 163 3 1 := ⟨RX3, TX3, 3, "EvePost$Person", rfl, xin_X3, by decide, kw_429, (Or.inl rfl)⟩
theorem fF_X11_163_4 : xF RX11 163 4 1 := ⟨RX4, TX4, 3, "EvePost$Person", rfl, xin_X4, by decide, kw_429, (Or.inl rfl)⟩
theorem fF_X11_163_9 : xF RX11 163 9 1 := ⟨RX10, TX10, 3, "EvePost$Person", rfl, xin_X10, by decide, kw_429, (Or.inl rfl)⟩
theorem fF_X5_16_0 : xF RX5 16 0 2 := ⟨RX0, TX0, 3, "EvePost$Person", rfl, xin_X0, by decide, kw_430, (Or.inl rfl)⟩
theorem fW_X5_16_0 : xFw RX5 "<init>" 16 0 2 .int := ⟨RX0, TX0, 3, "EvePost$Person", tyX0, rfl, xin_X0, by decide, kw_430, (Or.inl rfl), tyX0_ok, nmX0, by decide +kernel, Or.inr ⟨rfl, rfl, rfl⟩⟩
theorem fF_X5_16_1 : xF RX5 16 1 2 := ⟨RX1, TX1, 3, "EvePost$Person", rfl, xin_X1, by decide, kw_430, (Or.inl rfl)⟩
theorem fW_X5_16_1 : xFw RX5 "<init>" 16 1 2 .int := ⟨RX1, TX1, 3, "EvePost$Person", tyX1, rfl, xin_X1, by decide, kw_430, (Or.inl rfl), tyX1_ok, nmX1, by decide +kernel, Or.inr ⟨rfl, rfl, rfl⟩⟩
theorem fF_X5_16_3 : xF RX5 16 3 2 := ⟨RX3, TX3, 3, "EvePost$Person", rfl, xin_X3, by decide, kw_430, (Or.inl rfl)⟩
theorem fW_X5_16_3 : xFw RX5 "<init>" 16 3 2 .int := ⟨RX3, TX3, 3, "EvePost$Person", tyX3, rfl, xin_X3, by decide, kw_430, (Or.inl rfl), tyX3_ok, nmX3, by decide +kernel, Or.inr ⟨rfl, rfl, rfl⟩⟩
theorem fF_X5_16_4 : xF RX5 16 4 2 := ⟨RX4, TX4, 3, "EvePost$Person", rfl, xin_X4, by decide, kw_430, (Or.inl rfl)⟩
theorem fW_X5_16_4 : xFw RX5 "<init>" 16 4 2 .int := ⟨RX4, TX4, 3, "EvePost$Person", tyX4, rfl, xin_X4, by decide, kw_430, (Or.inl rfl), tyX4_ok, nmX4, by decide +kernel, Or.inr ⟨rfl, rfl, rfl⟩⟩
theorem fF_X5_16_9 : xF RX5 16 9 2 := ⟨RX10, TX10, 3, "EvePost$Person", rfl, xin_X10, by decide, kw_430, (Or.inl rfl)⟩
theorem fW_X5_16_9 : xFw RX5 "<init>" 16 9 2 .int := ⟨RX10, TX10, 3, "EvePost$Person", tyX10, rfl, xin_X10, by decide, kw_430, (Or.inl rfl), tyX10_ok, nmX10, by decide +kernel, Or.inr ⟨rfl, rfl, rfl⟩⟩
theorem fF_X1_13_1 : xF RX1 13 1 2 := ⟨RX1, TX1, 3, "EvePost$CrowdOne", rfl, xin_X1, by decide, kw_431, (Or.inr kw_432)⟩
theorem fF_X1_13_4 : xF RX1 13 4 2 := ⟨RX4, TX4, 3, "EvePost$CrowdOne", rfl, xin_X4, by decide, kw_431, (Or.inr kw_432)⟩
theorem fF_X3_15_3 : xF RX3 15 3 2 := ⟨RX3, TX3, 3, "EvePost$LotOne", rfl, xin_X3, by decide, kw_433, (Or.inr kw_434)⟩
theorem fF_X11_168_0 : xF RX11 168 0 2 := ⟨RX0, TX0, 3, "EvePost$Person", rfl, xin_X0, by decide, kw_435, (Or.inl rfl)⟩
theorem fF_X11_168_1 : xF RX11 168 1 2 := ⟨RX1, TX1, 3, "EvePost$Person", rfl, xin_X1, by decide, kw_435, (Or.inl rfl)⟩
theorem fF_X11_168_3 : xF RX11 168 3 2 := ⟨RX3, TX3, 3, "EvePost$Person", rfl, xin_X3, by decide, kw_435, (Or.inl rfl)⟩
theorem fF_X11_168_4 : xF RX11 168 4 2 := ⟨RX4, TX4, 3, "EvePost$Person", rfl, xin_X4, by decide, kw_435, (Or.inl rfl)⟩
theorem fF_X11_168_9 : xF RX11 168 9 2 := ⟨RX10, TX10, 3, "EvePost$Person", rfl, xin_X10, by decide, kw_435, (Or.inl rfl)⟩
theorem fF_X12_44_11 : xF RX12 44 11 0 := ⟨RX12, TX12, 24, "EvePostModel", rfl, xin_X12, by decide, kw_945, (Or.inl rfl)⟩
theorem fW_X12_44_11 (nm : String) : xFw RX12 nm 44 11 0 .int := ⟨RX12, TX12, 24, "EvePostModel", tyX12, rfl, xin_X12, by decide, kw_945, (Or.inl rfl), tyX12_ok, nmX12, by decide +kernel, Or.inl rfl⟩
theorem fF_X12_48_11 : xF RX12 48 11 1 := ⟨RX12, TX12, 24, "EvePostModel", rfl, xin_X12, by decide, kw_946, (Or.inl rfl)⟩
theorem fW_X12_48_11 (nm : String) : xFw RX12 nm 48 11 1 .int := ⟨RX12, TX12, 24, "EvePostModel", tyX12, rfl, xin_X12, by decide, kw_946, (Or.inl rfl), tyX12_ok, nmX12, by decide +kernel, Or.inl rfl⟩
theorem fF_X12_7_11 : xF RX12 7 11 2 := ⟨RX12, TX12, 24, "EvePostModel", rfl, xin_X12, by decide, kw_947, (Or.inl rfl)⟩
theorem fW_X12_7_11 : xFw RX12 "<init>" 7 11 2 (.array .int) := ⟨RX12, TX12, 24, "EvePostModel", tyX12, rfl, xin_X12, by decide, kw_947, (Or.inl rfl), tyX12_ok, nmX12, by decide +kernel, Or.inr ⟨rfl, rfl, rfl⟩⟩
theorem fF_X12_13_11 : xF RX12 13 11 3 := ⟨RX12, TX12, 24, "EvePostModel", rfl, xin_X12, by decide, kw_948, (Or.inl rfl)⟩
theorem fW_X12_13_11 : xFw RX12 "<init>" 13 11 3 (.array .int) := ⟨RX12, TX12, 24, "EvePostModel", tyX12, rfl, xin_X12, by decide, kw_948, (Or.inl rfl), tyX12_ok, nmX12, by decide +kernel, Or.inr ⟨rfl, rfl, rfl⟩⟩
theorem fF_X12_16_11 : xF RX12 16 11 4 := ⟨RX12, TX12, 24, "EvePostModel", rfl, xin_X12, by decide, kw_949, (Or.inl rfl)⟩
theorem fW_X12_16_11 : xFw RX12 "<init>" 16 11 4 (.array .int) := ⟨RX12, TX12, 24, "EvePostModel", tyX12, rfl, xin_X12, by decide, kw_949, (Or.inl rfl), tyX12_ok, nmX12, by decide +kernel, Or.inr ⟨rfl, rfl, rfl⟩⟩
theorem fF_X12_19_11 : xF RX12 19 11 5 := ⟨RX12, TX12, 24, "EvePostModel", rfl, xin_X12, by decide, kw_950, (Or.inl rfl)⟩
theorem fW_X12_19_11 : xFw RX12 "<init>" 19 11 5 (.array .int) := ⟨RX12, TX12, 24, "EvePostModel", tyX12, rfl, xin_X12, by decide, kw_950, (Or.inl rfl), tyX12_ok, nmX12, by decide +kernel, Or.inr ⟨rfl, rfl, rfl⟩⟩
theorem fF_X12_22_11 : xF RX12 22 11 6 := ⟨RX12, TX12, 24, "EvePostModel", rfl, xin_X12, by decide, kw_951, (Or.inl rfl)⟩
theorem fW_X12_22_11 : xFw RX12 "<init>" 22 11 6 (.array .int) := ⟨RX12, TX12, 24, "EvePostModel", tyX12, rfl, xin_X12, by decide, kw_951, (Or.inl rfl), tyX12_ok, nmX12, by decide +kernel, Or.inr ⟨rfl, rfl, rfl⟩⟩
theorem fF_X12_25_11 : xF RX12 25 11 7 := ⟨RX12, TX12, 24, "EvePostModel", rfl, xin_X12, by decide, kw_952, (Or.inl rfl)⟩
theorem fW_X12_25_11 : xFw RX12 "<init>" 25 11 7 (.array .int) := ⟨RX12, TX12, 24, "EvePostModel", tyX12, rfl, xin_X12, by decide, kw_952, (Or.inl rfl), tyX12_ok, nmX12, by decide +kernel, Or.inr ⟨rfl, rfl, rfl⟩⟩
theorem fF_X12_157_11 : xF RX12 157 11 8 := ⟨RX12, TX12, 24, "EvePostModel", rfl, xin_X12, by decide, kw_953, (Or.inl rfl)⟩
theorem fW_X12_157_11 (nm : String) : xFw RX12 nm 157 11 8 .int := ⟨RX12, TX12, 24, "EvePostModel", tyX12, rfl, xin_X12, by decide, kw_953, (Or.inl rfl), tyX12_ok, nmX12, by decide +kernel, Or.inl rfl⟩
theorem fF_X12_28_11 : xF RX12 28 11 9 := ⟨RX12, TX12, 24, "EvePostModel", rfl, xin_X12, by decide, kw_954, (Or.inl rfl)⟩
theorem fW_X12_28_11 : xFw RX12 "<init>" 28 11 9 (.array .int) := ⟨RX12, TX12, 24, "EvePostModel", tyX12, rfl, xin_X12, by decide, kw_954, (Or.inl rfl), tyX12_ok, nmX12, by decide +kernel, Or.inr ⟨rfl, rfl, rfl⟩⟩
theorem fF_X12_71_11 : xF RX12 71 11 10 := ⟨RX12, TX12, 24, "EvePostModel", rfl, xin_X12, by decide, kw_955, (Or.inl rfl)⟩
theorem fW_X12_71_11 (nm : String) : xFw RX12 nm 71 11 10 .int := ⟨RX12, TX12, 24, "EvePostModel", tyX12, rfl, xin_X12, by decide, kw_955, (Or.inl rfl), tyX12_ok, nmX12, by decide +kernel, Or.inl rfl⟩
theorem fF_X12_153_11 : xF RX12 153 11 11 := ⟨RX12, TX12, 24, "EvePostModel", rfl, xin_X12, by decide, kw_956, (Or.inl rfl)⟩
theorem fW_X12_153_11 (nm : String) : xFw RX12 nm 153 11 11 .int := ⟨RX12, TX12, 24, "EvePostModel", tyX12, rfl, xin_X12, by decide, kw_956, (Or.inl rfl), tyX12_ok, nmX12, by decide +kernel, Or.inl rfl⟩
theorem fF_X12_77_11 : xF RX12 77 11 12 := ⟨RX12, TX12, 24, "EvePostModel", rfl, xin_X12, by decide, kw_957, (Or.inl rfl)⟩
theorem fW_X12_77_11 (nm : String) : xFw RX12 nm 77 11 12 .int := ⟨RX12, TX12, 24, "EvePostModel", tyX12, rfl, xin_X12, by decide, kw_957, (Or.inl rfl), tyX12_ok, nmX12, by decide +kernel, Or.inl rfl⟩
theorem fF_X12_81_11 : xF RX12 81 11 13 := ⟨RX12, TX12, 24, "EvePostModel", rfl, xin_X12, by decide, kw_958, (Or.inl rfl)⟩
theorem fW_X12_81_11 (nm : String) : xFw RX12 nm 81 11 13 .int := ⟨RX12, TX12, 24, "EvePostModel", tyX12, rfl, xin_X12, by decide, kw_958, (Or.inl rfl), tyX12_ok, nmX12, by decide +kernel, Or.inl rfl⟩
theorem fF_X12_90_11 : xF RX12 90 11 14 := ⟨RX12, TX12, 24, "EvePostModel", rfl, xin_X12, by decide, kw_959, (Or.inl rfl)⟩
theorem fW_X12_90_11 (nm : String) : xFw RX12 nm 90 11 14 .int := ⟨RX12, TX12, 24, "EvePostModel", tyX12, rfl, xin_X12, by decide, kw_959, (Or.inl rfl), tyX12_ok, nmX12, by decide +kernel, Or.inl rfl⟩
theorem fF_X12_87_11 : xF RX12 87 11 15 := ⟨RX12, TX12, 24, "EvePostModel", rfl, xin_X12, by decide, kw_960, (Or.inl rfl)⟩
theorem fW_X12_87_11 (nm : String) : xFw RX12 nm 87 11 15 .int := ⟨RX12, TX12, 24, "EvePostModel", tyX12, rfl, xin_X12, by decide, kw_960, (Or.inl rfl), tyX12_ok, nmX12, by decide +kernel, Or.inl rfl⟩
theorem fF_X12_99_11 : xF RX12 99 11 16 := ⟨RX12, TX12, 24, "EvePostModel", rfl, xin_X12, by decide, kw_961, (Or.inl rfl)⟩
theorem fW_X12_99_11 (nm : String) : xFw RX12 nm 99 11 16 .int := ⟨RX12, TX12, 24, "EvePostModel", tyX12, rfl, xin_X12, by decide, kw_961, (Or.inl rfl), tyX12_ok, nmX12, by decide +kernel, Or.inl rfl⟩
theorem fF_X12_102_11 : xF RX12 102 11 17 := ⟨RX12, TX12, 24, "EvePostModel", rfl, xin_X12, by decide, kw_962, (Or.inl rfl)⟩
theorem fW_X12_102_11 (nm : String) : xFw RX12 nm 102 11 17 .int := ⟨RX12, TX12, 24, "EvePostModel", tyX12, rfl, xin_X12, by decide, kw_962, (Or.inl rfl), tyX12_ok, nmX12, by decide +kernel, Or.inl rfl⟩
theorem fF_X12_108_11 : xF RX12 108 11 18 := ⟨RX12, TX12, 24, "EvePostModel", rfl, xin_X12, by decide, kw_963, (Or.inl rfl)⟩
theorem fW_X12_108_11 (nm : String) : xFw RX12 nm 108 11 18 .int := ⟨RX12, TX12, 24, "EvePostModel", tyX12, rfl, xin_X12, by decide, kw_963, (Or.inl rfl), tyX12_ok, nmX12, by decide +kernel, Or.inl rfl⟩
theorem fF_X12_31_11 : xF RX12 31 11 19 := ⟨RX12, TX12, 24, "EvePostModel", rfl, xin_X12, by decide, kw_964, (Or.inl rfl)⟩
theorem fW_X12_31_11 : xFw RX12 "<init>" 31 11 19 (.array .int) := ⟨RX12, TX12, 24, "EvePostModel", tyX12, rfl, xin_X12, by decide, kw_964, (Or.inl rfl), tyX12_ok, nmX12, by decide +kernel, Or.inr ⟨rfl, rfl, rfl⟩⟩
theorem fF_X12_34_11 : xF RX12 34 11 20 := ⟨RX12, TX12, 24, "EvePostModel", rfl, xin_X12, by decide, kw_965, (Or.inl rfl)⟩
theorem fW_X12_34_11 : xFw RX12 "<init>" 34 11 20 (.array .boolean) := ⟨RX12, TX12, 24, "EvePostModel", tyX12, rfl, xin_X12, by decide, kw_965, (Or.inl rfl), tyX12_ok, nmX12, by decide +kernel, Or.inr ⟨rfl, rfl, rfl⟩⟩
theorem fF_X12_38_11 : xF RX12 38 11 21 := ⟨RX12, TX12, 24, "EvePostModel", rfl, xin_X12, by decide, kw_966, (Or.inl rfl)⟩
theorem fW_X12_38_11 : xFw RX12 "<init>" 38 11 21 (.array .int) := ⟨RX12, TX12, 24, "EvePostModel", tyX12, rfl, xin_X12, by decide, kw_966, (Or.inl rfl), tyX12_ok, nmX12, by decide +kernel, Or.inr ⟨rfl, rfl, rfl⟩⟩
theorem fF_X12_41_11 : xF RX12 41 11 22 := ⟨RX12, TX12, 24, "EvePostModel", rfl, xin_X12, by decide, kw_967, (Or.inl rfl)⟩
theorem fW_X12_41_11 : xFw RX12 "<init>" 41 11 22 (.array .int) := ⟨RX12, TX12, 24, "EvePostModel", tyX12, rfl, xin_X12, by decide, kw_967, (Or.inl rfl), tyX12_ok, nmX12, by decide +kernel, Or.inr ⟨rfl, rfl, rfl⟩⟩
theorem fF_X12_234_11 : xF RX12 234 11 23 := ⟨RX12, TX12, 24, "EvePostModel", rfl, xin_X12, by decide, kw_968, (Or.inl rfl)⟩
theorem fW_X12_234_11 (nm : String) : xFw RX12 nm 234 11 23 .int := ⟨RX12, TX12, 24, "EvePostModel", tyX12, rfl, xin_X12, by decide, kw_968, (Or.inl rfl), tyX12_ok, nmX12, by decide +kernel, Or.inl rfl⟩
theorem cw_X0_init : xCw yX0_init cX0_init 4 none 3 := ⟨kw_447, kw_68, by decide +kernel, by decide +kernel, by decide +kernel⟩
theorem cw_X0_ownKind : xCw yX0_ownKind cX0_ownKind 1 (some .int) 0 := ⟨kw_830, kw_68, by decide +kernel, by decide +kernel, by decide +kernel⟩
theorem cw_X0_doesIt : xCw yX0_doesIt cX0_doesIt 3 (some .boolean) 2 := ⟨kw_521, kw_68, by decide +kernel, by decide +kernel, by decide +kernel⟩
theorem cw_X0_size : xCw yX0_size cX0_size 2 (some .int) 1 := ⟨kw_868, kw_68, by decide +kernel, by decide +kernel, by decide +kernel⟩
theorem cw_X0_mark : xCw yX0_mark cX0_mark 2 (some .int) 1 := ⟨kw_884, kw_68, by decide +kernel, by decide +kernel, by decide +kernel⟩
theorem cw_X1_init : xCw yX1_init cX1_init 4 none 3 := ⟨kw_467, kw_70, by decide +kernel, by decide +kernel, by decide +kernel⟩
theorem cw_X1_ownKind : xCw yX1_ownKind cX1_ownKind 1 (some .int) 0 := ⟨kw_833, kw_70, by decide +kernel, by decide +kernel, by decide +kernel⟩
theorem cw_X1_doesIt : xCw yX1_doesIt cX1_doesIt 3 (some .boolean) 2 := ⟨kw_527, kw_70, by decide +kernel, by decide +kernel, by decide +kernel⟩
theorem cw_X1_size : xCw yX1_size cX1_size 2 (some .int) 1 := ⟨kw_898, kw_70, by decide +kernel, by decide +kernel, by decide +kernel⟩
theorem cw_X1_mark : xCw yX1_mark cX1_mark 3 (some .int) 1 := ⟨kw_911, kw_70, by decide +kernel, by decide +kernel, by decide +kernel⟩
theorem cw_X2_init : xCw yX2_init cX2_init 1 none 0 := ⟨kw_166, kw_57, by decide +kernel, by decide +kernel, by decide +kernel⟩
theorem cw_X2_howManyAgree : xCw yX2_howManyAgree cX2_howManyAgree 2 (some .int) 1 := ⟨kw_661, kw_57, by decide +kernel, by decide +kernel, by decide +kernel⟩
theorem cw_X2_agreeingLetter : xCw yX2_agreeingLetter cX2_agreeingLetter 5 (some .int) 2 := ⟨kw_676, kw_57, by decide +kernel, by decide +kernel, by decide +kernel⟩
theorem cw_X2_fullestLetter : xCw yX2_fullestLetter cX2_fullestLetter 5 (some .int) 1 := ⟨kw_686, kw_57, by decide +kernel, by decide +kernel, by decide +kernel⟩
theorem cw_X2_likeliestLetter : xCw yX2_likeliestLetter cX2_likeliestLetter 6 (some .int) 1 := ⟨kw_781, kw_57, by decide +kernel, by decide +kernel, by decide +kernel⟩
theorem cw_X2_whoHinders : xCw yX2_whoHinders cX2_whoHinders 5 (some .int) 1 := ⟨kw_695, kw_57, by decide +kernel, by decide +kernel, by decide +kernel⟩
theorem cw_X2_whoCouldStop : xCw yX2_whoCouldStop cX2_whoCouldStop 5 (some .int) 1 := ⟨kw_708, kw_57, by decide +kernel, by decide +kernel, by decide +kernel⟩
theorem cw_X2_howManyBring : xCw yX2_howManyBring cX2_howManyBring 5 (some .int) 2 := ⟨kw_790, kw_57, by decide +kernel, by decide +kernel, by decide +kernel⟩
theorem cw_X2_leastThatBrings : xCw yX2_leastThatBrings cX2_leastThatBrings 4 (some .int) 2 := ⟨kw_794, kw_57, by decide +kernel, by decide +kernel, by decide +kernel⟩
theorem cw_X2_howManyReadBy : xCw yX2_howManyReadBy cX2_howManyReadBy 6 (some .int) 2 := ⟨kw_670, kw_57, by decide +kernel, by decide +kernel, by decide +kernel⟩
theorem cw_X2_leastReadBy : xCw yX2_leastReadBy cX2_leastReadBy 3 (some .int) 2 := ⟨kw_803, kw_57, by decide +kernel, by decide +kernel, by decide +kernel⟩
theorem cw_X2_countChains : xCw yX2_countChains cX2_countChains 6 (some .int) 2 := ⟨kw_716, kw_57, by decide +kernel, by decide +kernel, by decide +kernel⟩
theorem cw_X2_letterOfFirstChain : xCw yX2_letterOfFirstChain cX2_letterOfFirstChain 6 (some .int) 3 := ⟨kw_731, kw_57, by decide +kernel, by decide +kernel, by decide +kernel⟩
theorem cw_X2_everybody : xCw yX2_everybody cX2_everybody 2 (some .int) 1 := ⟨kw_665, kw_57, by decide +kernel, by decide +kernel, by decide +kernel⟩
theorem cw_X2_leastThatGoesOn : xCw yX2_leastThatGoesOn cX2_leastThatGoesOn 5 (some .int) 3 := ⟨kw_735, kw_57, by decide +kernel, by decide +kernel, by decide +kernel⟩
theorem cw_X2_waysAfter : xCw yX2_waysAfter cX2_waysAfter 5 (some .int) 3 := ⟨kw_725, kw_57, by decide +kernel, by decide +kernel, by decide +kernel⟩
theorem cw_X2_someAgrees : xCw yX2_someAgrees cX2_someAgrees 4 (some .boolean) 3 := ⟨kw_700, kw_57, by decide +kernel, by decide +kernel, by decide +kernel⟩
theorem cw_X2_leastAgreeing : xCw yX2_leastAgreeing cX2_leastAgreeing 5 (some .int) 3 := ⟨kw_704, kw_57, by decide +kernel, by decide +kernel, by decide +kernel⟩
theorem cw_X3_init : xCw yX3_init cX3_init 4 none 3 := ⟨kw_457, kw_69, by decide +kernel, by decide +kernel, by decide +kernel⟩
theorem cw_X3_ownKind : xCw yX3_ownKind cX3_ownKind 1 (some .int) 0 := ⟨kw_836, kw_69, by decide +kernel, by decide +kernel, by decide +kernel⟩
theorem cw_X3_tenths : xCw yX3_tenths cX3_tenths 4 (some .int) 3 := ⟨kw_758, kw_69, by decide +kernel, by decide +kernel, by decide +kernel⟩
theorem cw_X3_turnsBy : xCw yX3_turnsBy cX3_turnsBy 3 (some .boolean) 1 := ⟨kw_633, kw_69, by decide +kernel, by decide +kernel, by decide +kernel⟩
theorem cw_X3_mark : xCw yX3_mark cX3_mark 2 (some .int) 1 := ⟨kw_888, kw_69, by decide +kernel, by decide +kernel, by decide +kernel⟩
theorem cw_X4_init : xCw yX4_init cX4_init 4 none 3 := ⟨kw_477, kw_71, by decide +kernel, by decide +kernel, by decide +kernel⟩
theorem cw_X4_ownKind : xCw yX4_ownKind cX4_ownKind 1 (some .int) 0 := ⟨kw_839, kw_71, by decide +kernel, by decide +kernel, by decide +kernel⟩
theorem cw_X4_doesIt : xCw yX4_doesIt cX4_doesIt 3 (some .boolean) 2 := ⟨kw_540, kw_71, by decide +kernel, by decide +kernel, by decide +kernel⟩
theorem cw_X4_size : xCw yX4_size cX4_size 2 (some .int) 1 := ⟨kw_904, kw_71, by decide +kernel, by decide +kernel, by decide +kernel⟩
theorem cw_X5_init : xCw yX5_init cX5_init 4 none 3 := ⟨kw_416, kw_66, by decide +kernel, by decide +kernel, by decide +kernel⟩
theorem cw_X5_tenths : xCw yX5_tenths cX5_tenths 4 (some .int) 3 := ⟨kw_765, kw_66, by decide +kernel, by decide +kernel, by decide +kernel⟩
theorem cw_X5_size : xCw yX5_size cX5_size 2 (some .int) 1 := ⟨kw_908, kw_66, by decide +kernel, by decide +kernel, by decide +kernel⟩
theorem cw_X5_mark : xCw yX5_mark cX5_mark 2 (some .int) 1 := ⟨kw_894, kw_66, by decide +kernel, by decide +kernel, by decide +kernel⟩
theorem cw_X6_init : xCw yX6_init cX6_init 2 none 0 := ⟨kw_86, kw_54, by decide +kernel, by decide +kernel, by decide +kernel⟩
theorem cw_X6_isPlace : xCw yX6_isPlace cX6_isPlace 2 (some .boolean) 1 := ⟨kw_221, kw_54, by decide +kernel, by decide +kernel, by decide +kernel⟩
theorem cw_X6_isLane : xCw yX6_isLane cX6_isLane 2 (some .boolean) 1 := ⟨kw_225, kw_54, by decide +kernel, by decide +kernel, by decide +kernel⟩
theorem cw_X6_isMissing : xCw yX6_isMissing cX6_isMissing 2 (some .boolean) 1 := ⟨kw_252, kw_54, by decide +kernel, by decide +kernel, by decide +kernel⟩
theorem cw_X6_areAlike : xCw yX6_areAlike cX6_areAlike 3 (some .boolean) 2 := ⟨kw_274, kw_54, by decide +kernel, by decide +kernel, by decide +kernel⟩
theorem cw_X6_reaches : xCw yX6_reaches cX6_reaches 4 (some .boolean) 3 := ⟨kw_256, kw_54, by decide +kernel, by decide +kernel, by decide +kernel⟩
theorem cw_X6_howMany : xCw yX6_howMany cX6_howMany 3 (some .int) 0 := ⟨kw_930, kw_54, by decide +kernel, by decide +kernel, by decide +kernel⟩
theorem cw_X6_put : xCw yX6_put cX6_put 4 none 3 := ⟨kw_235, kw_54, by decide +kernel, by decide +kernel, by decide +kernel⟩
theorem cw_X6_take : xCw yX6_take cX6_take 3 (some .int) 1 := ⟨kw_289, kw_54, by decide +kernel, by decide +kernel, by decide +kernel⟩
theorem cw_X6_item : xCw yX6_item cX6_item 3 (some .int) 2 := ⟨kw_613, kw_54, by decide +kernel, by decide +kernel, by decide +kernel⟩
theorem cw_X6_write : xCw yX6_write cX6_write 4 (some .int) 3 := ⟨kw_261, kw_54, by decide +kernel, by decide +kernel, by decide +kernel⟩
theorem cw_X6_carry : xCw yX6_carry cX6_carry 6 none 5 := ⟨kw_278, kw_54, by decide +kernel, by decide +kernel, by decide +kernel⟩
theorem cw_X6_narrowed : xCw yX6_narrowed cX6_narrowed 2 (some .int) 2 := ⟨kw_266, kw_54, by decide +kernel, by decide +kernel, by decide +kernel⟩
theorem cw_X7_init : xCw yX7_init cX7_init 1 none 0 := ⟨kw_105, kw_55, by decide +kernel, by decide +kernel, by decide +kernel⟩
theorem cw_X7_size : xCw yX7_size cX7_size 1 (some .int) 0 := ⟨kw_934, kw_55, by decide +kernel, by decide +kernel, by decide +kernel⟩
theorem cw_X7_latestFault : xCw yX7_latestFault cX7_latestFault 1 (some .int) 0 := ⟨kw_554, kw_55, by decide +kernel, by decide +kernel, by decide +kernel⟩
theorem cw_X7_peopleRead : xCw yX7_peopleRead cX7_peopleRead 1 (some .int) 0 := ⟨kw_491, kw_55, by decide +kernel, by decide +kernel, by decide +kernel⟩
theorem cw_X7_reading : xCw yX7_reading cX7_reading 2 (some (.object "EvePost$Person")) 1 := ⟨kw_498, kw_55, by decide +kernel, by decide +kernel, by decide +kernel⟩
theorem cw_X7_hasRoom : xCw yX7_hasRoom cX7_hasRoom 2 (some .boolean) 1 := ⟨kw_297, kw_55, by decide +kernel, by decide +kernel, by decide +kernel⟩
theorem cw_X7_append : xCw yX7_append cX7_append 5 (some .int) 2 := ⟨kw_301, kw_55, by decide +kernel, by decide +kernel, by decide +kernel⟩
theorem cw_X7_read : xCw yX7_read cX7_read 3 (some .int) 0 := ⟨kw_310, kw_55, by decide +kernel, by decide +kernel, by decide +kernel⟩
theorem cw_X7_readPerson : xCw yX7_readPerson cX7_readPerson 4 (some .boolean) 0 := ⟨kw_331, kw_55, by decide +kernel, by decide +kernel, by decide +kernel⟩
theorem cw_X7_faulty : xCw yX7_faulty cX7_faulty 2 (some .boolean) 1 := ⟨kw_388, kw_55, by decide +kernel, by decide +kernel, by decide +kernel⟩
theorem cw_X7_isNumberUpTo : xCw yX7_isNumberUpTo cX7_isNumberUpTo 2 (some .boolean) 1 := ⟨kw_401, kw_55, by decide +kernel, by decide +kernel, by decide +kernel⟩
theorem cw_X7_kindAtHand : xCw yX7_kindAtHand cX7_kindAtHand 1 (some .int) 0 := ⟨kw_392, kw_55, by decide +kernel, by decide +kernel, by decide +kernel⟩
theorem cw_X7_newPerson : xCw yX7_newPerson cX7_newPerson 4 (some (.object "EvePost$Person")) 4 := ⟨kw_408, kw_55, by decide +kernel, by decide +kernel, by decide +kernel⟩
theorem cw_X7_step : xCw yX7_step cX7_step 1 none 0 := ⟨kw_314, kw_55, by decide +kernel, by decide +kernel, by decide +kernel⟩
theorem cw_X7_isWord : xCw yX7_isWord cX7_isWord 3 (some .boolean) 1 := ⟨kw_336, kw_55, by decide +kernel, by decide +kernel, by decide +kernel⟩
theorem cw_X7_numberAtHand : xCw yX7_numberAtHand cX7_numberAtHand 3 (some .int) 0 := ⟨kw_405, kw_55, by decide +kernel, by decide +kernel, by decide +kernel⟩
theorem cw_X7_byteAt : xCw yX7_byteAt cX7_byteAt 2 (some .int) 1 := ⟨kw_318, kw_55, by decide +kernel, by decide +kernel, by decide +kernel⟩
theorem cw_X7_isBlank : xCw yX7_isBlank cX7_isBlank 1 (some .boolean) 1 := ⟨kw_321, kw_55, by decide +kernel, by decide +kernel, by decide +kernel⟩
theorem cw_X7_isLetter : xCw yX7_isLetter cX7_isLetter 1 (some .boolean) 1 := ⟨kw_324, kw_55, by decide +kernel, by decide +kernel, by decide +kernel⟩
theorem cw_X7_isFigure : xCw yX7_isFigure cX7_isFigure 1 (some .boolean) 1 := ⟨kw_327, kw_55, by decide +kernel, by decide +kernel, by decide +kernel⟩
theorem cw_X8_init : xCw yX8_init cX8_init 1 none 0 := ⟨kw_139, kw_56, by decide +kernel, by decide +kernel, by decide +kernel⟩
theorem cw_X8_isNone : xCw yX8_isNone cX8_isNone 1 (some .boolean) 0 := ⟨kw_562, kw_56, by decide +kernel, by decide +kernel, by decide +kernel⟩
theorem cw_X8_size : xCw yX8_size cX8_size 1 (some .int) 0 := ⟨kw_546, kw_56, by decide +kernel, by decide +kernel, by decide +kernel⟩
theorem cw_X8_day : xCw yX8_day cX8_day 1 (some .int) 0 := ⟨kw_588, kw_56, by decide +kernel, by decide +kernel, by decide +kernel⟩
theorem cw_X8_before : xCw yX8_before cX8_before 1 (some .int) 0 := ⟨kw_597, kw_56, by decide +kernel, by decide +kernel, by decide +kernel⟩
theorem cw_X8_letters : xCw yX8_letters cX8_letters 1 (some .int) 0 := ⟨kw_511, kw_56, by decide +kernel, by decide +kernel, by decide +kernel⟩
theorem cw_X8_isSet : xCw yX8_isSet cX8_isSet 2 (some .boolean) 1 := ⟨kw_567, kw_56, by decide +kernel, by decide +kernel, by decide +kernel⟩
theorem cw_X8_one : xCw yX8_one cX8_one 2 (some (.object "EvePost$Person")) 1 := ⟨kw_506, kw_56, by decide +kernel, by decide +kernel, by decide +kernel⟩
theorem cw_X8_settle : xCw yX8_settle cX8_settle 3 none 1 := ⟨kw_487, kw_56, by decide +kernel, by decide +kernel, by decide +kernel⟩
theorem cw_X8_become : xCw yX8_become cX8_become 2 none 1 := ⟨kw_815, kw_56, by decide +kernel, by decide +kernel, by decide +kernel⟩
theorem cw_X8_goOn : xCw yX8_goOn cX8_goOn 2 none 1 := ⟨kw_601, kw_56, by decide +kernel, by decide +kernel, by decide +kernel⟩
theorem cw_X8_goBack : xCw yX8_goBack cX8_goBack 2 none 1 := ⟨kw_642, kw_56, by decide +kernel, by decide +kernel, by decide +kernel⟩
theorem cw_X8_outcome : xCw yX8_outcome cX8_outcome 2 (some .int) 1 := ⟨kw_626, kw_56, by decide +kernel, by decide +kernel, by decide +kernel⟩
theorem cw_X8_agrees : xCw yX8_agrees cX8_agrees 2 (some .boolean) 1 := ⟨kw_571, kw_56, by decide +kernel, by decide +kernel, by decide +kernel⟩
theorem cw_X8_agreesAfter : xCw yX8_agreesAfter cX8_agreesAfter 3 (some .boolean) 2 := ⟨kw_575, kw_56, by decide +kernel, by decide +kernel, by decide +kernel⟩
theorem cw_X8_moodOf : xCw yX8_moodOf cX8_moodOf 2 (some .int) 1 := ⟨kw_721, kw_56, by decide +kernel, by decide +kernel, by decide +kernel⟩
theorem cw_X8_moodyAmong : xCw yX8_moodyAmong cX8_moodyAmong 2 (some .int) 1 := ⟨kw_584, kw_56, by decide +kernel, by decide +kernel, by decide +kernel⟩
theorem cw_X8_outcomeByLots : xCw yX8_outcomeByLots cX8_outcomeByLots 9 (some .int) 2 := ⟨kw_622, kw_56, by decide +kernel, by decide +kernel, by decide +kernel⟩
theorem cw_X8_chances : xCw yX8_chances cX8_chances 6 (some .int) 2 := ⟨kw_749, kw_56, by decide +kernel, by decide +kernel, by decide +kernel⟩
theorem cw_X8_allChances : xCw yX8_allChances cX8_allChances 3 (some .int) 0 := ⟨kw_770, kw_56, by decide +kernel, by decide +kernel, by decide +kernel⟩
theorem cw_X8_outcomeAfter : xCw yX8_outcomeAfter cX8_outcomeAfter 3 (some .int) 2 := ⟨kw_579, kw_56, by decide +kernel, by decide +kernel, by decide +kernel⟩
theorem cw_X8_learn : xCw yX8_learn cX8_learn 2 none 0 := ⟨kw_502, kw_56, by decide +kernel, by decide +kernel, by decide +kernel⟩
theorem cw_X8_freshOutcome : xCw yX8_freshOutcome cX8_freshOutcome 5 (some .int) 1 := ⟨kw_515, kw_56, by decide +kernel, by decide +kernel, by decide +kernel⟩
theorem cw_X9_init : xCw yX9_init cX9_init 1 none 0 := ⟨kw_177, kw_58, by decide +kernel, by decide +kernel, by decide +kernel⟩
theorem cw_X9_clear : xCw yX9_clear cX9_clear 1 none 0 := ⟨kw_862, kw_58, by decide +kernel, by decide +kernel, by decide +kernel⟩
theorem cw_X9_leave : xCw yX9_leave cX9_leave 2 none 1 := ⟨kw_872, kw_58, by decide +kernel, by decide +kernel, by decide +kernel⟩
theorem cw_X9_at : xCw yX9_at cX9_at 2 (some .int) 1 := ⟨kw_921, kw_58, by decide +kernel, by decide +kernel, by decide +kernel⟩
theorem cw_X10_init : xCw yX10_init cX10_init 4 none 3 := ⟨kw_413, kw_67, by decide +kernel, by decide +kernel, by decide +kernel⟩
theorem cw_X10_ownKind : xCw yX10_ownKind cX10_ownKind 1 (some .int) 0 := ⟨kw_842, kw_67, by decide +kernel, by decide +kernel, by decide +kernel⟩
theorem cw_X10_doesIt : xCw yX10_doesIt cX10_doesIt 3 (some .boolean) 2 := ⟨kw_536, kw_67, by decide +kernel, by decide +kernel, by decide +kernel⟩
theorem cw_X10_size : xCw yX10_size cX10_size 3 (some .int) 1 := ⟨kw_875, kw_67, by decide +kernel, by decide +kernel, by decide +kernel⟩
theorem cw_X10_mark : xCw yX10_mark cX10_mark 2 (some .int) 1 := ⟨kw_891, kw_67, by decide +kernel, by decide +kernel, by decide +kernel⟩
theorem cw_X11_init : xCw yX11_init cX11_init 2 none 0 := ⟨kw_78, kw_53, by decide +kernel, by decide +kernel, by decide +kernel⟩
theorem cw_X11_row : xCw yX11_row cX11_row 4 (some .int) 3 := ⟨kw_217, kw_53, by decide +kernel, by decide +kernel, by decide +kernel⟩
theorem cw_X11_set : xCw yX11_set cX11_set 4 (some .int) 3 := ⟨kw_248, kw_53, by decide +kernel, by decide +kernel, by decide +kernel⟩
theorem cw_X11_copy : xCw yX11_copy cX11_copy 6 (some .int) 5 := ⟨kw_270, kw_53, by decide +kernel, by decide +kernel, by decide +kernel⟩
theorem cw_X11_drop : xCw yX11_drop cX11_drop 2 (some .int) 1 := ⟨kw_285, kw_53, by decide +kernel, by decide +kernel, by decide +kernel⟩
theorem cw_X11_feed : xCw yX11_feed cX11_feed 4 (some .int) 2 := ⟨kw_293, kw_53, by decide +kernel, by decide +kernel, by decide +kernel⟩
theorem cw_X11_town : xCw yX11_town cX11_town 2 (some .int) 0 := ⟨kw_306, kw_53, by decide +kernel, by decide +kernel, by decide +kernel⟩
theorem cw_X11_fault : xCw yX11_fault cX11_fault 1 (some .int) 0 := ⟨kw_550, kw_53, by decide +kernel, by decide +kernel, by decide +kernel⟩
theorem cw_X11_post : xCw yX11_post cX11_post 2 (some .int) 1 := ⟨kw_558, kw_53, by decide +kernel, by decide +kernel, by decide +kernel⟩
theorem cw_X11_posts : xCw yX11_posts cX11_posts 6 (some .int) 3 := ⟨kw_605, kw_53, by decide +kernel, by decide +kernel, by decide +kernel⟩
theorem cw_X11_lots : xCw yX11_lots cX11_lots 3 (some .int) 2 := ⟨kw_617, kw_53, by decide +kernel, by decide +kernel, by decide +kernel⟩
theorem cw_X11_undo : xCw yX11_undo cX11_undo 1 (some .int) 0 := ⟨kw_638, kw_53, by decide +kernel, by decide +kernel, by decide +kernel⟩
theorem cw_X11_person : xCw yX11_person cX11_person 4 (some .int) 2 := ⟨kw_646, kw_53, by decide +kernel, by decide +kernel, by decide +kernel⟩
theorem cw_X11_done : xCw yX11_done cX11_done 2 (some .int) 1 := ⟨kw_652, kw_53, by decide +kernel, by decide +kernel, by decide +kernel⟩
theorem cw_X11_agreeing : xCw yX11_agreeing cX11_agreeing 2 (some .int) 1 := ⟨kw_657, kw_53, by decide +kernel, by decide +kernel, by decide +kernel⟩
theorem cw_X11_fullest : xCw yX11_fullest cX11_fullest 1 (some .int) 0 := ⟨kw_682, kw_53, by decide +kernel, by decide +kernel, by decide +kernel⟩
theorem cw_X11_culprits : xCw yX11_culprits cX11_culprits 2 (some .int) 1 := ⟨kw_691, kw_53, by decide +kernel, by decide +kernel, by decide +kernel⟩
theorem cw_X11_chains : xCw yX11_chains cX11_chains 4 (some .int) 2 := ⟨kw_712, kw_53, by decide +kernel, by decide +kernel, by decide +kernel⟩
theorem cw_X11_breaks : xCw yX11_breaks cX11_breaks 8 (some .int) 3 := ⟨kw_740, kw_53, by decide +kernel, by decide +kernel, by decide +kernel⟩
theorem cw_X11_comes : xCw yX11_comes cX11_comes 7 (some .int) 3 := ⟨kw_745, kw_53, by decide +kernel, by decide +kernel, by decide +kernel⟩
theorem cw_X11_likeliest : xCw yX11_likeliest cX11_likeliest 1 (some .int) 0 := ⟨kw_777, kw_53, by decide +kernel, by decide +kernel, by decide +kernel⟩
theorem cw_X11_lost : xCw yX11_lost cX11_lost 3 (some .int) 2 := ⟨kw_786, kw_53, by decide +kernel, by decide +kernel, by decide +kernel⟩
theorem cw_X11_readBy : xCw yX11_readBy cX11_readBy 3 (some .int) 2 := ⟨kw_798, kw_53, by decide +kernel, by decide +kernel, by decide +kernel⟩
theorem cw_X11_image : xCw yX11_image cX11_image 3 (some .int) 1 := ⟨kw_807, kw_53, by decide +kernel, by decide +kernel, by decide +kernel⟩
theorem cw_X11_restore : xCw yX11_restore cX11_restore 3 (some .int) 1 := ⟨kw_820, kw_53, by decide +kernel, by decide +kernel, by decide +kernel⟩
theorem cw_X11_kind : xCw yX11_kind cX11_kind 3 (some .int) 1 := ⟨kw_824, kw_53, by decide +kernel, by decide +kernel, by decide +kernel⟩
theorem cw_X11_as : xCw yX11_as cX11_as 4 (some .int) 2 := ⟨kw_846, kw_53, by decide +kernel, by decide +kernel, by decide +kernel⟩
theorem cw_X11_ask : xCw yX11_ask cX11_ask 4 (some .int) 2 := ⟨kw_858, kw_53, by decide +kernel, by decide +kernel, by decide +kernel⟩
theorem cw_X11_trace : xCw yX11_trace cX11_trace 2 (some .int) 1 := ⟨kw_917, kw_53, by decide +kernel, by decide +kernel, by decide +kernel⟩
theorem cw_X11_count : xCw yX11_count cX11_count 2 (some .int) 1 := ⟨kw_926, kw_53, by decide +kernel, by decide +kernel, by decide +kernel⟩
theorem cw_X11_status : xCw yX11_status cX11_status 1 (some .int) 0 := ⟨kw_938, kw_53, by decide +kernel, by decide +kernel, by decide +kernel⟩
theorem cw_X11_found : xCw yX11_found cX11_found 2 (some .int) 1 := ⟨kw_230, kw_53, by decide +kernel, by decide +kernel, by decide +kernel⟩
theorem cw_X11_fine : xCw yX11_fine cX11_fine 2 (some .int) 1 := ⟨kw_244, kw_53, by decide +kernel, by decide +kernel, by decide +kernel⟩
theorem cw_X11_refusalOfLetters : xCw yX11_refusalOfLetters cX11_refusalOfLetters 7 (some .int) 5 := ⟨kw_609, kw_53, by decide +kernel, by decide +kernel, by decide +kernel⟩
theorem cw_X11_act : xCw yX11_act cX11_act 2 none 1 := ⟨kw_592, kw_53, by decide +kernel, by decide +kernel, by decide +kernel⟩
theorem cw_X11_imageAt : xCw yX11_imageAt cX11_imageAt 2 (some (.object "EvePost$Town")) 1 := ⟨kw_811, kw_53, by decide +kernel, by decide +kernel, by decide +kernel⟩
theorem cw_X11_holds : xCw yX11_holds cX11_holds 2 (some .boolean) 2 := ⟨kw_524, kw_53, by decide +kernel, by decide +kernel, by decide +kernel⟩
theorem cw_X11_isOf : xCw yX11_isOf cX11_isOf 2 (some .boolean) 2 := ⟨kw_849, kw_53, by decide +kernel, by decide +kernel, by decide +kernel⟩
theorem cw_X11_commonDivisor : xCw yX11_commonDivisor cX11_commonDivisor 6 (some .int) 2 := ⟨kw_773, kw_53, by decide +kernel, by decide +kernel, by decide +kernel⟩
theorem cw_X12_init : xCw yX12_init cX12_init 1 none 0 := ⟨kw_943, kw_59, by decide +kernel, by decide +kernel, by decide +kernel⟩
theorem cw_X12_in : xCw yX12_in cX12_in 6 (some .boolean) 3 := ⟨kw_1029, kw_59, by decide +kernel, by decide +kernel, by decide +kernel⟩
theorem cw_X12_finding : xCw yX12_finding cX12_finding 2 (some .int) 1 := ⟨kw_1035, kw_59, by decide +kernel, by decide +kernel, by decide +kernel⟩
theorem cw_X12_isRow : xCw yX12_isRow cX12_isRow 1 (some .boolean) 1 := ⟨kw_1025, kw_59, by decide +kernel, by decide +kernel, by decide +kernel⟩
theorem cw_X12_row : xCw yX12_row cX12_row 5 (some .int) 3 := ⟨kw_1022, kw_59, by decide +kernel, by decide +kernel, by decide +kernel⟩
theorem cw_X12_set : xCw yX12_set cX12_set 4 (some .int) 3 := ⟨kw_1040, kw_59, by decide +kernel, by decide +kernel, by decide +kernel⟩
theorem cw_X12_copy : xCw yX12_copy cX12_copy 9 (some .int) 5 := ⟨kw_1044, kw_59, by decide +kernel, by decide +kernel, by decide +kernel⟩
theorem cw_X12_drop : xCw yX12_drop cX12_drop 2 (some .int) 1 := ⟨kw_1048, kw_59, by decide +kernel, by decide +kernel, by decide +kernel⟩
theorem cw_X12_feed : xCw yX12_feed cX12_feed 5 (some .int) 2 := ⟨kw_1052, kw_59, by decide +kernel, by decide +kernel, by decide +kernel⟩
theorem cw_X12_byteAt : xCw yX12_byteAt cX12_byteAt 2 (some .int) 1 := ⟨kw_1071, kw_59, by decide +kernel, by decide +kernel, by decide +kernel⟩
theorem cw_X12_isLetter : xCw yX12_isLetter cX12_isLetter 1 (some .boolean) 1 := ⟨kw_1075, kw_59, by decide +kernel, by decide +kernel, by decide +kernel⟩
theorem cw_X12_isFigure : xCw yX12_isFigure cX12_isFigure 1 (some .boolean) 1 := ⟨kw_1078, kw_59, by decide +kernel, by decide +kernel, by decide +kernel⟩
theorem cw_X12_next : xCw yX12_next cX12_next 2 none 0 := ⟨kw_1067, kw_59, by decide +kernel, by decide +kernel, by decide +kernel⟩
theorem cw_X12_begin : xCw yX12_begin cX12_begin 1 none 0 := ⟨kw_1063, kw_59, by decide +kernel, by decide +kernel, by decide +kernel⟩
theorem cw_X12_bad : xCw yX12_bad cX12_bad 2 none 1 := ⟨kw_1087, kw_59, by decide +kernel, by decide +kernel, by decide +kernel⟩
theorem cw_X12_must : xCw yX12_must cX12_must 2 none 1 := ⟨kw_1095, kw_59, by decide +kernel, by decide +kernel, by decide +kernel⟩
theorem cw_X12_name : xCw yX12_name cX12_name 4 (some .long) 0 := ⟨kw_1082, kw_59, by decide +kernel, by decide +kernel, by decide +kernel⟩
theorem cw_X12_figures : xCw yX12_figures cX12_figures 3 (some .int) 0 := ⟨kw_1111, kw_59, by decide +kernel, by decide +kernel, by decide +kernel⟩
theorem cw_X12_number : xCw yX12_number cX12_number 4 (some .int) 2 := ⟨kw_1107, kw_59, by decide +kernel, by decide +kernel, by decide +kernel⟩
theorem cw_X12_kindBy : xCw yX12_kindBy cX12_kindBy 2 (some .int) 1 := ⟨kw_1098, kw_59, by decide +kernel, by decide +kernel, by decide +kernel⟩
theorem cw_X12_readPerson : xCw yX12_readPerson cX12_readPerson 5 none 0 := ⟨kw_1091, kw_59, by decide +kernel, by decide +kernel, by decide +kernel⟩
theorem cw_X12_town : xCw yX12_town cX12_town 2 (some .int) 0 := ⟨kw_1059, kw_59, by decide +kernel, by decide +kernel, by decide +kernel⟩
theorem cw_X12_fault : xCw yX12_fault cX12_fault 1 (some .int) 0 := ⟨kw_1116, kw_59, by decide +kernel, by decide +kernel, by decide +kernel⟩
theorem cw_X12_isThere : xCw yX12_isThere cX12_isThere 1 (some .boolean) 0 := ⟨kw_1124, kw_59, by decide +kernel, by decide +kernel, by decide +kernel⟩
theorem cw_X12_isPerson : xCw yX12_isPerson cX12_isPerson 2 (some .boolean) 1 := ⟨kw_1193, kw_59, by decide +kernel, by decide +kernel, by decide +kernel⟩
theorem cw_X12_all : xCw yX12_all cX12_all 1 (some .int) 0 := ⟨kw_1133, kw_59, by decide +kernel, by decide +kernel, by decide +kernel⟩
theorem cw_X12_isSet : xCw yX12_isSet cX12_isSet 2 (some .boolean) 1 := ⟨kw_1129, kw_59, by decide +kernel, by decide +kernel, by decide +kernel⟩
theorem cw_X12_of : xCw yX12_of cX12_of 3 (some .int) 2 := ⟨kw_1149, kw_59, by decide +kernel, by decide +kernel, by decide +kernel⟩
theorem cw_X12_bits : xCw yX12_bits cX12_bits 3 (some .int) 1 := ⟨kw_1152, kw_59, by decide +kernel, by decide +kernel, by decide +kernel⟩
theorem cw_X12_doesIt : xCw yX12_doesIt cX12_doesIt 5 (some .boolean) 3 := ⟨kw_1145, kw_59, by decide +kernel, by decide +kernel, by decide +kernel⟩
theorem cw_X12_doneBy : xCw yX12_doneBy cX12_doneBy 8 (some .int) 4 := ⟨kw_1141, kw_59, by decide +kernel, by decide +kernel, by decide +kernel⟩
theorem cw_X12_isAgreed : xCw yX12_isAgreed cX12_isAgreed 3 (some .boolean) 2 := ⟨kw_1137, kw_59, by decide +kernel, by decide +kernel, by decide +kernel⟩
theorem cw_X12_keep : xCw yX12_keep cX12_keep 2 none 0 := ⟨kw_1160, kw_59, by decide +kernel, by decide +kernel, by decide +kernel⟩
theorem cw_X12_goDay : xCw yX12_goDay cX12_goDay 2 none 1 := ⟨kw_1156, kw_59, by decide +kernel, by decide +kernel, by decide +kernel⟩
theorem cw_X12_post : xCw yX12_post cX12_post 2 (some .int) 1 := ⟨kw_1120, kw_59, by decide +kernel, by decide +kernel, by decide +kernel⟩
theorem cw_X12_lacks : xCw yX12_lacks cX12_lacks 4 (some .int) 3 := ⟨kw_1169, kw_59, by decide +kernel, by decide +kernel, by decide +kernel⟩
theorem cw_X12_areSets : xCw yX12_areSets cX12_areSets 5 (some .boolean) 2 := ⟨kw_1173, kw_59, by decide +kernel, by decide +kernel, by decide +kernel⟩
theorem cw_X12_posts : xCw yX12_posts cX12_posts 7 (some .int) 3 := ⟨kw_1164, kw_59, by decide +kernel, by decide +kernel, by decide +kernel⟩
theorem cw_X12_lots : xCw yX12_lots cX12_lots 7 (some .int) 2 := ⟨kw_1177, kw_59, by decide +kernel, by decide +kernel, by decide +kernel⟩
theorem cw_X12_undo : xCw yX12_undo cX12_undo 2 (some .int) 0 := ⟨kw_1185, kw_59, by decide +kernel, by decide +kernel, by decide +kernel⟩
theorem cw_X12_person : xCw yX12_person cX12_person 3 (some .int) 2 := ⟨kw_1189, kw_59, by decide +kernel, by decide +kernel, by decide +kernel⟩
theorem cw_X12_done : xCw yX12_done cX12_done 2 (some .int) 1 := ⟨kw_1197, kw_59, by decide +kernel, by decide +kernel, by decide +kernel⟩
theorem cw_X12_agreeing : xCw yX12_agreeing cX12_agreeing 4 (some .int) 1 := ⟨kw_1201, kw_59, by decide +kernel, by decide +kernel, by decide +kernel⟩
theorem cw_X12_fullest : xCw yX12_fullest cX12_fullest 3 (some .int) 0 := ⟨kw_1205, kw_59, by decide +kernel, by decide +kernel, by decide +kernel⟩
theorem cw_X12_hasAny : xCw yX12_hasAny cX12_hasAny 5 (some .boolean) 2 := ⟨kw_1213, kw_59, by decide +kernel, by decide +kernel, by decide +kernel⟩
theorem cw_X12_culprits : xCw yX12_culprits cX12_culprits 5 (some .int) 1 := ⟨kw_1209, kw_59, by decide +kernel, by decide +kernel, by decide +kernel⟩
theorem cw_X12_layChains : xCw yX12_layChains cX12_layChains 5 none 0 := ⟨kw_1222, kw_59, by decide +kernel, by decide +kernel, by decide +kernel⟩
theorem cw_X12_chains : xCw yX12_chains cX12_chains 6 (some .int) 2 := ⟨kw_1217, kw_59, by decide +kernel, by decide +kernel, by decide +kernel⟩
theorem cw_X12_breaks : xCw yX12_breaks cX12_breaks 8 (some .int) 3 := ⟨kw_1226, kw_59, by decide +kernel, by decide +kernel, by decide +kernel⟩
theorem cw_X12_oddsOf : xCw yX12_oddsOf cX12_oddsOf 8 (some .int) 2 := ⟨kw_1235, kw_59, by decide +kernel, by decide +kernel, by decide +kernel⟩
theorem cw_X12_oddsIn : xCw yX12_oddsIn cX12_oddsIn 3 (some .int) 0 := ⟨kw_1239, kw_59, by decide +kernel, by decide +kernel, by decide +kernel⟩
theorem cw_X12_comes : xCw yX12_comes cX12_comes 8 (some .int) 3 := ⟨kw_1231, kw_59, by decide +kernel, by decide +kernel, by decide +kernel⟩
theorem cw_X12_likeliest : xCw yX12_likeliest cX12_likeliest 3 (some .int) 0 := ⟨kw_1243, kw_59, by decide +kernel, by decide +kernel, by decide +kernel⟩
theorem cw_X12_lost : xCw yX12_lost cX12_lost 6 (some .int) 2 := ⟨kw_1247, kw_59, by decide +kernel, by decide +kernel, by decide +kernel⟩
theorem cw_X12_readBy : xCw yX12_readBy cX12_readBy 7 (some .int) 2 := ⟨kw_1251, kw_59, by decide +kernel, by decide +kernel, by decide +kernel⟩
theorem cw_X12_image : xCw yX12_image cX12_image 3 (some .int) 1 := ⟨kw_1255, kw_59, by decide +kernel, by decide +kernel, by decide +kernel⟩
theorem cw_X12_restore : xCw yX12_restore cX12_restore 3 (some .int) 1 := ⟨kw_1259, kw_59, by decide +kernel, by decide +kernel, by decide +kernel⟩
theorem cw_X12_isOf : xCw yX12_isOf cX12_isOf 2 (some .boolean) 2 := ⟨kw_1270, kw_59, by decide +kernel, by decide +kernel, by decide +kernel⟩
theorem cw_X12_kind : xCw yX12_kind cX12_kind 2 (some .int) 1 := ⟨kw_1263, kw_59, by decide +kernel, by decide +kernel, by decide +kernel⟩
theorem cw_X12_as : xCw yX12_as cX12_as 3 (some .int) 2 := ⟨kw_1267, kw_59, by decide +kernel, by decide +kernel, by decide +kernel⟩
theorem cw_X12_began : xCw yX12_began cX12_began 2 none 1 := ⟨kw_1286, kw_59, by decide +kernel, by decide +kernel, by decide +kernel⟩
theorem cw_X12_plainSize : xCw yX12_plainSize cX12_plainSize 2 (some .int) 1 := ⟨kw_1290, kw_59, by decide +kernel, by decide +kernel, by decide +kernel⟩
theorem cw_X12_crowdSize : xCw yX12_crowdSize cX12_crowdSize 3 (some .int) 1 := ⟨kw_1282, kw_59, by decide +kernel, by decide +kernel, by decide +kernel⟩
theorem cw_X12_markOf : xCw yX12_markOf cX12_markOf 4 (some .int) 1 := ⟨kw_1294, kw_59, by decide +kernel, by decide +kernel, by decide +kernel⟩
theorem cw_X12_sizeOf : xCw yX12_sizeOf cX12_sizeOf 4 (some .int) 1 := ⟨kw_1278, kw_59, by decide +kernel, by decide +kernel, by decide +kernel⟩
theorem cw_X12_ask : xCw yX12_ask cX12_ask 3 (some .int) 2 := ⟨kw_1274, kw_59, by decide +kernel, by decide +kernel, by decide +kernel⟩
theorem cw_X12_trace : xCw yX12_trace cX12_trace 2 (some .int) 1 := ⟨kw_1298, kw_59, by decide +kernel, by decide +kernel, by decide +kernel⟩
theorem cw_X12_count : xCw yX12_count cX12_count 4 (some .int) 1 := ⟨kw_1302, kw_59, by decide +kernel, by decide +kernel, by decide +kernel⟩
theorem cw_X12_status : xCw yX12_status cX12_status 1 (some .int) 0 := ⟨kw_1306, kw_59, by decide +kernel, by decide +kernel, by decide +kernel⟩
theorem cw_J6_bitCount_0f7a4 : xCw yJ6_bitCount_0f7a4 cJ6_bitCount_0f7a4 1 (some .int) 1 := ⟨kw_530, kw_73, by decide +kernel, by decide +kernel, by decide +kernel⟩
theorem cw_J9_min_7cf53 : xCw yJ9_min_7cf53 cJ9_min_7cf53 2 (some .int) 2 := ⟨kw_494, kw_72, by decide +kernel, by decide +kernel, by decide +kernel⟩
theorem cw_J0_length_8abf5 : xCw yJ0_length_8abf5 cJ0_length_8abf5 1 (some .int) 0 := ⟨kw_340, kw_62, by decide +kernel, by decide +kernel, by decide +kernel⟩
theorem cw_J0_charAt_5068e : xCw yJ0_charAt_5068e cJ0_charAt_5068e 2 (some .char) 1 := ⟨kw_350, kw_62, by decide +kernel, by decide +kernel, by decide +kernel⟩
theorem cw_J0_coder_7d493 : xCw yJ0_coder_7d493 cJ0_coder_7d493 1 (some .byte) 0 := ⟨kw_344, kw_62, by decide +kernel, by decide +kernel, by decide +kernel⟩
theorem cw_J0_isLatin1_aae02 : xCw yJ0_isLatin1_aae02 cJ0_isLatin1_aae02 1 (some .boolean) 0 := ⟨kw_354, kw_62, by decide +kernel, by decide +kernel, by decide +kernel⟩
theorem cw_J0_checkIndex_df160 : xCw yJ0_checkIndex_df160 cJ0_checkIndex_df160 2 none 2 := ⟨kw_360, kw_62, by decide +kernel, by decide +kernel, by decide +kernel⟩
theorem cw_J1_charAt_3b067 : xCw yJ1_charAt_3b067 cJ1_charAt_3b067 2 (some .char) 2 := ⟨kw_357, kw_63, by decide +kernel, by decide +kernel, by decide +kernel⟩
theorem cw_J2_getChar_3b067 : xCw yJ2_getChar_3b067 cJ2_getChar_3b067 2 (some .char) 2 := ⟨kw_378, kw_65, by decide +kernel, by decide +kernel, by decide +kernel⟩
theorem cw_J2_length_9d52b : xCw yJ2_length_9d52b cJ2_length_9d52b 1 (some .int) 1 := ⟨kw_374, kw_65, by decide +kernel, by decide +kernel, by decide +kernel⟩
theorem cw_J2_charAt_3b067 : xCw yJ2_charAt_3b067 cJ2_charAt_3b067 2 (some .char) 2 := ⟨kw_368, kw_65, by decide +kernel, by decide +kernel, by decide +kernel⟩
theorem cw_J2_checkIndex_2214a : xCw yJ2_checkIndex_2214a cJ2_checkIndex_2214a 2 none 2 := ⟨kw_371, kw_65, by decide +kernel, by decide +kernel, by decide +kernel⟩
theorem cw_J7_fill_53178 : xCw yJ7_fill_53178 cJ7_fill_53178 4 none 2 := ⟨kw_240, kw_60, by decide +kernel, by decide +kernel, by decide +kernel⟩
theorem cw_J3_checkIndex_8e157 : xCw yJ3_checkIndex_8e157 cJ3_checkIndex_8e157 3 (some .int) 3 := ⟨kw_365, kw_64, by decide +kernel, by decide +kernel, by decide +kernel⟩
end
section
/-! pure rows: numbers, bits, the people's answers -/
theorem lgc_lt {x y : Int64} : lg_cmp x y < 0 ↔ x.toInt < y.toInt := by
  unfold lg_cmp
  simp only [gt_iff_lt, Int64.lt_iff_toInt_lt, ← Int64.toInt_inj]
  split
  · constructor
    · intro h; exact absurd h (by decide)
    · intro h; omega
  · split
    · constructor
      · intro h; exact absurd h (by decide)
      · intro h; omega
    · constructor
      · intro _; omega
      · intro _; decide
theorem lgc_gt {x y : Int64} : 0 < lg_cmp x y ↔ y.toInt < x.toInt := by
  unfold lg_cmp
  simp only [gt_iff_lt, Int64.lt_iff_toInt_lt, ← Int64.toInt_inj]
  split
  · constructor
    · intro _; assumption
    · intro _; decide
  · split
    · constructor
      · intro h; exact absurd h (by decide)
      · intro h; omega
    · constructor
      · intro h; exact absurd h (by decide)
      · intro _; omega
theorem lgc_eq {x y : Int64} : lg_cmp x y = 0 ↔ x.toInt = y.toInt := by
  unfold lg_cmp
  simp only [gt_iff_lt, Int64.lt_iff_toInt_lt, ← Int64.toInt_inj]
  split
  · constructor
    · intro h; exact absurd h (by decide)
    · intro h; omega
  · split
    · constructor
      · intro _; assumption
      · intro _; decide
    · constructor
      · intro h; exact absurd h (by decide)
      · intro _; omega
theorem i32_lt {x y : Int32} : x < y ↔ x.toInt < y.toInt := Int32.lt_iff_toInt_lt
theorem i32_le {x y : Int32} : x ≤ y ↔ x.toInt ≤ y.toInt := Int32.le_iff_toInt_le
theorem i32_eq {x y : Int32} : x = y ↔ x.toInt = y.toInt := Int32.toInt_inj.symm
theorem i32_l (x : Int32) : x.toInt64.toInt = x.toInt := by simp
/-- which people are told: their number, kind, whom, many by place, who did it the day before -/
def tOK (t : Nat → Int32) (np : Nat) (kd wh mn : Nat → Nat) (day b : Nat) : Prop := np ≤ 6 ∧ t 0 = nI np ∧ t 1 = nI day ∧ day ≤ 9999 ∧ t 2 = nI b ∧ b < 2 ^ np ∧ ∀ p, p < np → t (3 + 3 * p) = nI (kd p) ∧ t (4 + 3 * p) = nI (wh p) ∧ t (5 + 3 * p) = nI (mn p) ∧ 1 ≤ kd p ∧ kd p ≤ 5 ∧ wh p ≤ 5 ∧ mn p ≤ 9
theorem lgc_ge {x y : Int64} : 0 ≤ lg_cmp x y ↔ y.toInt ≤ x.toInt := by
  rw [lg_cmp_ge, Int64.le_iff_toInt_le]
theorem lgc_le {x y : Int64} : lg_cmp x y ≤ 0 ↔ x.toInt ≤ y.toInt := by
  rw [i32_le, show (0 : Int32).toInt = 0 by decide]
  have h := lgc_gt (x := x) (y := y)
  rw [i32_lt, show (0 : Int32).toInt = 0 by decide] at h
  omega
theorem i32_rng (x : Int32) : -2147483648 ≤ x.toInt ∧ x.toInt < 2147483648 := ⟨by have := Int32.le_toInt x; omega, by have := Int32.toInt_lt x; omega⟩
theorem i32_add {x y : Int32} (h1 : -2147483648 ≤ x.toInt + y.toInt) (h2 : x.toInt + y.toInt < 2147483648) : (x + y).toInt = x.toInt + y.toInt := by
  rw [Int32.toInt_add]; exact Int.bmod_eq_of_le (by omega) (by omega)
theorem i32_sub {x y : Int32} (h1 : -2147483648 ≤ x.toInt - y.toInt) (h2 : x.toInt - y.toInt < 2147483648) : (x - y).toInt = x.toInt - y.toInt := by
  rw [Int32.toInt_sub]; exact Int.bmod_eq_of_le (by omega) (by omega)
theorem i32_mul {x y : Int32} (h1 : -2147483648 ≤ x.toInt * y.toInt) (h2 : x.toInt * y.toInt < 2147483648) : (x * y).toInt = x.toInt * y.toInt := by
  rw [Int32.toInt_mul]; exact Int.bmod_eq_of_le (by omega) (by omega)
theorem i64_add {x y : Int64} (h1 : -9223372036854775808 ≤ x.toInt + y.toInt) (h2 : x.toInt + y.toInt < 9223372036854775808) : (x + y).toInt = x.toInt + y.toInt := by
  rw [Int64.toInt_add]; exact Int.bmod_eq_of_le (by omega) (by omega)
theorem i64_sub {x y : Int64} (h1 : -9223372036854775808 ≤ x.toInt - y.toInt) (h2 : x.toInt - y.toInt < 9223372036854775808) : (x - y).toInt = x.toInt - y.toInt := by
  rw [Int64.toInt_sub]; exact Int.bmod_eq_of_le (by omega) (by omega)
theorem xv {a b : Int32} (e : a = b) : some (Value.int b) = some (Value.int a) := by rw [e]
/-- a number that isn't below 0, by its Nat -/
theorem i32_tn {x : Int32} (h : 0 ≤ x.toInt) : x = nI x.toNatClampNeg ∧ (x.toNatClampNeg : Int) = x.toInt := by
  have e : (x.toNatClampNeg : Int) = x.toInt := by
    show ((x.toInt.toNat : Nat) : Int) = _
    omega
  refine ⟨?_, e⟩
  have := i32_rng x
  rw [i32_eq, nI_toInt (by omega)]
  omega
theorem xI_c {x : Int32} {N : Nat} (h0 : 0 ≤ x.toInt) (h1 : x.toInt < N) : xI x x.toNatClampNeg N := by
  have h := i32_tn h0
  refine ⟨?_, rfl, by omega⟩
  rw [i32_lt, show (0 : Int32).toInt = 0 by decide]
  omega
theorem xI_i {x : Int32} {j N : Nat} (h : x.toInt = (j : Int)) (hj : j < N) : xI x j N := by
  have h1 := i32_tn (x := x) (by omega)
  refine ⟨?_, by omega, hj⟩
  rw [i32_lt, show (0 : Int32).toInt = 0 by decide]
  omega
/-- zeros from a on, n of them -/
def zf (f : Nat → Int32) (a n : Nat) : Nat → Int32 := fun q => if a ≤ q ∧ q < a + n then 0 else f q
theorem zf_0 (f : Nat → Int32) (a : Nat) : zf f a 0 = f := by
  funext q
  unfold zf
  rw [if_neg (by omega)]
theorem zf_s (f : Nat → Int32) (a n : Nat) : upd (zf f a n) (a + n) 0 = zf f a (n + 1) := by
  funext q
  unfold zf upd
  by_cases h : q = a + n
  · rw [if_pos h, if_pos (by omega)]
  · rw [if_neg h]
    show (if a ≤ q ∧ q < a + n then (0 : Int32) else f q) = _
    by_cases h2 : a ≤ q ∧ q < a + n
    · rw [if_pos h2, if_pos (by omega)]
    · rw [if_neg h2, if_neg (by omega)]
theorem k32_m1 : (-1 : Int32).toInt = -1 := by decide
theorem k32_0 : (0 : Int32).toInt = 0 := by decide
theorem k32_1 : (1 : Int32).toInt = 1 := by decide
theorem k32_2 : (2 : Int32).toInt = 2 := by decide
theorem k32_3 : (3 : Int32).toInt = 3 := by decide
theorem k32_4 : (4 : Int32).toInt = 4 := by decide
theorem k32_5 : (5 : Int32).toInt = 5 := by decide
theorem k32_6 : (6 : Int32).toInt = 6 := by decide
theorem k32_7 : (7 : Int32).toInt = 7 := by decide
theorem k32_8 : (8 : Int32).toInt = 8 := by decide
theorem k32_9 : (9 : Int32).toInt = 9 := by decide
theorem k32_10 : (10 : Int32).toInt = 10 := by decide
theorem k32_16 : (16 : Int32).toInt = 16 := by decide
theorem k32_20 : (20 : Int32).toInt = 20 := by decide
theorem k32_21 : (21 : Int32).toInt = 21 := by decide
theorem k32_23 : (23 : Int32).toInt = 23 := by decide
theorem k32_24 : (24 : Int32).toInt = 24 := by decide
theorem k32_31 : (31 : Int32).toInt = 31 := by decide
theorem k32_32 : (32 : Int32).toInt = 32 := by decide
theorem k32_40 : (40 : Int32).toInt = 40 := by decide
theorem k32_42 : (42 : Int32).toInt = 42 := by decide
theorem k32_47 : (47 : Int32).toInt = 47 := by decide
theorem k32_48 : (48 : Int32).toInt = 48 := by decide
theorem k32_57 : (57 : Int32).toInt = 57 := by decide
theorem k32_59 : (59 : Int32).toInt = 59 := by decide
theorem k32_64 : (64 : Int32).toInt = 64 := by decide
theorem k32_65 : (65 : Int32).toInt = 65 := by decide
theorem k32_90 : (90 : Int32).toInt = 90 := by decide
theorem k32_97 : (97 : Int32).toInt = 97 := by decide
theorem k32_100 : (100 : Int32).toInt = 100 := by decide
theorem k32_122 : (122 : Int32).toInt = 122 := by decide
theorem k32_255 : (255 : Int32).toInt = 255 := by decide
theorem k32_300 : (300 : Int32).toInt = 300 := by decide
theorem k32_483 : (483 : Int32).toInt = 483 := by decide
theorem k32_504 : (504 : Int32).toInt = 504 := by decide
theorem k32_1000 : (1000 : Int32).toInt = 1000 := by decide
theorem k32_9999 : (9999 : Int32).toInt = 9999 := by decide
theorem k32_999999 : (999999 : Int32).toInt = 999999 := by decide
theorem k32_m1000000 : (-1000000 : Int32).toInt = -1000000 := by decide
theorem k32_m1000001 : (-1000001 : Int32).toInt = -1000001 := by decide
theorem k32_m1000002 : (-1000002 : Int32).toInt = -1000002 := by decide
theorem k32_m1000003 : (-1000003 : Int32).toInt = -1000003 := by decide
theorem k32_m1000010 : (-1000010 : Int32).toInt = -1000010 := by decide
theorem k32_m1000100 : (-1000100 : Int32).toInt = -1000100 := by decide
theorem k64_0 : (0 : Int64).toInt = 0 := by decide
theorem k64_1 : (1 : Int64).toInt = 1 := by decide
theorem k64_2 : (2 : Int64).toInt = 2 := by decide
theorem k64_3 : (3 : Int64).toInt = 3 := by decide
theorem k64_5 : (5 : Int64).toInt = 5 := by decide
theorem k64_6 : (6 : Int64).toInt = 6 := by decide
theorem k64_7 : (7 : Int64).toInt = 7 := by decide
theorem k64_8 : (8 : Int64).toInt = 8 := by decide
theorem k64_9 : (9 : Int64).toInt = 9 := by decide
theorem k64_10 : (10 : Int64).toInt = 10 := by decide
theorem k64_24 : (24 : Int64).toInt = 24 := by decide
theorem k64_40 : (40 : Int64).toInt = 40 := by decide
theorem k64_255 : (255 : Int64).toInt = 255 := by decide
theorem k64_999999 : (999999 : Int64).toInt = 999999 := by decide
theorem i32_m40 {x : Int32} (h0 : 0 ≤ x.toInt) (h : x.toInt < 1000) : (40 * x).toInt = 40 * x.toInt := by
  have e := i32_mul (x := 40) (y := x) (by rw [k32_40]; omega) (by rw [k32_40]; omega)
  rw [e, k32_40]
theorem xI_40 {x y : Int32} {j : Nat} (h0 : 0 ≤ x.toInt) (h8 : x.toInt < 8) (hy : y.toInt = (j : Int)) (hj : j < 40) : xI (40 * x + y) (40 * x.toNatClampNeg + j) 320 := by
  have h1 := i32_m40 h0 (by omega)
  have h2 := i32_tn h0
  refine xI_i ?_ (by omega)
  rw [i32_add (by omega) (by omega)]
  omega
end
section
/-! the people's answers -/
/-- the set of the p below n with f p, as a number -/
def osum (f : Nat → Bool) : Nat → Nat
  | 0 => 0
  | p + 1 => osum f p + (if f p = true then 2 ^ p else 0)
theorem osum_lt (f : Nat → Bool) : ∀ n : Nat, osum f n < 2 ^ n
  | 0 => by simp [osum]
  | n + 1 => by
    have h := osum_lt f n
    have e : 2 ^ (n + 1) = 2 ^ n + 2 ^ n := by rw [Nat.pow_succ]; omega
    rw [osum]
    split <;> omega
theorem osum_congr {f g : Nat → Bool} : ∀ {n : Nat}, (∀ p, p < n → f p = g p) → osum f n = osum g n
  | 0, _ => rfl
  | n + 1, h => by
    rw [osum, osum, osum_congr (n := n) (fun p hp => h p (by omega)), h n (by omega)]
theorem osum_bit (f : Nat → Bool) : ∀ (n p : Nat), (osum f n).testBit p = (decide (p < n) && f p)
  | 0, p => by simp [osum]
  | n + 1, p => by
    have h := osum_lt f n
    have ih := osum_bit f n p
    rw [osum]
    by_cases hf : f n = true
    · rw [if_pos hf, show osum f n + 2 ^ n = 2 ^ n + osum f n by omega]
      by_cases hp : p < n
      · rw [Nat.testBit_two_pow_add_gt hp, ih]
        simp [hp, show p < n + 1 by omega]
      · by_cases he : p = n
        · subst he
          rw [Nat.testBit_two_pow_add_eq, ih]
          simp [hf]
        · have hb : 2 ^ n + osum f n < 2 ^ p := Nat.lt_of_lt_of_le (show 2 ^ n + osum f n < 2 ^ (n + 1) by rw [Nat.pow_succ]; omega) (Nat.pow_le_pow_right (by omega) (by omega))
          rw [Nat.testBit_lt_two_pow hb]
          simp [show ¬ p < n + 1 by omega]
    · rw [if_neg hf, Nat.add_zero, ih]
      by_cases he : p = n
      · subst he
        simp [hf]
      · by_cases hp : p < n
        · simp [hp, show p < n + 1 by omega]
        · simp [hp, show ¬ p < n + 1 by omega]
/-- how many of the lowest k bits -/
def bcn (l : Nat) : Nat → Nat
  | 0 => 0
  | k + 1 => bcn l k + (l.testBit k).toNat
theorem bcn_le (l : Nat) : ∀ k : Nat, bcn l k ≤ k
  | 0 => Nat.le_refl 0
  | k + 1 => by
    have h := bcn_le l k
    rw [bcn]
    cases l.testBit k <;> simp <;> omega
/-- whether p has done it by the letter l, those of b the day before -/
def dz (kd wh mn : Nat → Nat) (p l b : Nat) : Bool := if kd p = 2 then !l.testBit (wh p) else if kd p = 4 then decide (mn p ≤ bcn l 6) else if kd p = 5 then l.testBit (wh p) == b.testBit p else l.testBit (wh p)
/-- the same, but one (o) is another: 0 himself, 1 always, 2 never -/
def dO (kd wh mn : Nat → Nat) (o : Int32) (how : Nat) (p l b : Nat) : Bool := if nI p = o then (decide (how = 1) || (decide (how = 0) && l.testBit p)) else dz kd wh mn p l b
theorem s_l' : ∀ n, n < 31 → ((nI n &&& 31).toBitVec.smod 32).toNat = n := by decide +kernel
theorem bt_n {l w : Nat} (hl : l < 2 ^ 31) (hw : w < 31) : (nI l >>> (nI w &&& 31)) &&& 1 = xb (l.testBit w) := by
  have h1 : nI l >>> (nI w &&& 31) = nI (l / 2 ^ w) := pk_shrN hl _ w (s_l' w hw)
  rw [h1, pk_andN (n := l / 2 ^ w) (Nat.lt_of_le_of_lt (Nat.div_le_self _ _) (by omega)) 1 (by decide), Nat.testBit_eq_decide_div_mod_eq]
  rcases Nat.mod_two_eq_zero_or_one (l / 2 ^ w) with e | e
  · simp [e, xb, nI]
  · simp [e, xb, nI]
theorem xb_is1 {c : Bool} : xb c = 1 ↔ c = true := by cases c <;> simp [xb]
theorem xb_not1 {c : Bool} (h : ¬ xb c = 1) : c = false := by cases c <;> simp [xb] at h ⊢
theorem xb_no {c : Bool} : ¬ xb c = 1 ↔ c = false := by cases c <;> simp [xb]
theorem xb_inj {c d : Bool} : xb c = xb d ↔ c = d := by cases c <;> cases d <;> simp [xb]
theorem or_p : ∀ p, p < 6 → ∀ s, s < 2 ^ p → (nI s ||| ((1 : Int32) <<< (nI p &&& 31))) = nI (s + 2 ^ p) := by decide +kernel
theorem pw6 : ∀ p, p ≤ 6 → ((1 : Int32) <<< (nI p &&& 31)) = nI (2 ^ p) := by decide +kernel
theorem pw_le {n : Nat} (h : n ≤ 6) : 2 ^ n ≤ 64 := Nat.pow_le_pow_right (by omega) h
end
section
/-- the model: its numbers, and its rows at the places behind it -/
abbrev mO (m : Nat) (st ac tp la le cu tk sa ti fa fl tr : Int32) : xE := .inr (11, [.int 0, .int st, .ref (m + 1), .ref (m + 2), .ref (m + 3), .ref (m + 4), .ref (m + 5), .ref (m + 6), .int ac, .ref (m + 7), .int tp, .int la, .int le, .int cu, .int tk, .int sa, .int ti, .int fa, .int fl, .ref (m + 8), .ref (m + 9), .ref (m + 10), .ref (m + 11), .int tr])
set_option maxRecDepth 100000 in
theorem c_X12_in {l : Launch} {Ω : xW} {h : xH} {sz : Nat} {v lo hi : Int64}  : xC l Ω yX12_in cX12_in 6 (some .boolean) 0 0 0 [.long v, .long lo, .long hi] h sz (some (.int (xb (decide (lo.toInt ≤ v.toInt ∧ v.toInt ≤ hi.toInt))))) h (sz) := by
  refine xC_of (lv := [(0, .long v), (2, .long lo), (4, .long hi)]) pn_X12 rfl rfl (fun Γ X hΓ hbs => ?_)
  have X : xX Γ Ω cX12_in 6 RX12 "in" (some .boolean) 0 0 0 0 := X
  subst hΓ
  refine xr_lload_n X 0 dX12_in_0 rfl rfl ?_
  refine xr_lload_n X 1 dX12_in_1 rfl rfl ?_
  refine xr_lcmp X dX12_in_2 ?_
  refine xr_if_lt (tgt := 17) X dX12_in_3 (by decide) (fun c_3 => ?_) (fun c_3 => ?_)
  · have c_3 := lgc_lt.mp c_3
    (try simp (disch := omega) only [nI_toInt, i32_add, i32_sub, i32_mul, i32_l, i64_add, i64_sub] at c_3)
    refine xr_iconst (v := 0) X dX12_in_17 (by decide) ?_
    exact xr_zret X rfl rfl (by first | exact xbT (by omega) | exact xbF (by omega)) rfl rfl rfl rfl dX12_in_18
  · have c_3 := mt lgc_lt.mpr c_3
    (try simp (disch := omega) only [nI_toInt, i32_add, i32_sub, i32_mul, i32_l, i64_add, i64_sub] at c_3)
    refine xr_lload_n X 0 dX12_in_6 rfl rfl ?_
    refine xr_lload X 2 dX12_in_7 rfl ?_
    refine xr_lcmp X dX12_in_9 ?_
    refine xr_if_gt (tgt := 17) X dX12_in_10 (by decide) (fun c_10 => ?_) (fun c_10 => ?_)
    · have c_10 := lgc_gt.mp c_10
      (try simp (disch := omega) only [nI_toInt, i32_add, i32_sub, i32_mul, i32_l, i64_add, i64_sub] at c_10)
      refine xr_iconst (v := 0) X dX12_in_17 (by decide) ?_
      exact xr_zret X rfl rfl (by first | exact xbT (by omega) | exact xbF (by omega)) rfl rfl rfl rfl dX12_in_18
    · have c_10 := mt lgc_gt.mpr c_10
      (try simp (disch := omega) only [nI_toInt, i32_add, i32_sub, i32_mul, i32_l, i64_add, i64_sub] at c_10)
      refine xr_iconst (v := 1) X dX12_in_13 (by decide) ?_
      refine xr_goto (tgt := 18) X dX12_in_14 (by decide) ?_
      exact xr_zret X rfl rfl (by first | exact xbT (by omega) | exact xbF (by omega)) rfl rfl rfl rfl dX12_in_18
set_option maxRecDepth 100000 in
theorem c_X12_isRow {l : Launch} {Ω : xW} {h : xH} {sz : Nat} {r : Int32}  : xC l Ω yX12_isRow cX12_isRow 1 (some .boolean) 1 0 0 [.int r] h sz (some (.int (xb (decide (0 ≤ r.toInt ∧ r.toInt < 8))))) h (sz) := by
  refine xC_of (lv := [(0, .int r)]) pn_X12 rfl rfl (fun Γ X hΓ hbs => ?_)
  have X : xX Γ Ω cX12_isRow 1 RX12 "isRow" (some .boolean) 1 35 0 0 := X
  subst hΓ
  refine xr_iload_n X 0 dX12_isRow_0 rfl rfl ?_
  refine xr_i2l X dX12_isRow_1 ?_
  refine xr_lconst (v := 0) X dX12_isRow_2 (by decide) ?_
  refine xr_ldc2 (v := 7) X kw_1026 dX12_isRow_3 ?_
  refine xr_callS X kw_1027 kw_1028 cw_X12_in [.long r.toInt64, .long 0, .long 7] c_X12_in rfl rfl rfl rfl rfl rfl rfl dX12_isRow_6 ?_
  exact xr_zret X rfl (xb_nar _) (by simp only [i32_l, k64_0, k64_7]; congr 3; apply decide_eq_decide.mpr; omega) rfl rfl rfl rfl dX12_isRow_9
set_option maxRecDepth 100000 in
theorem c_X12_finding {l : Launch} {Ω : xW} {h : xH} {sz : Nat} {m : Nat} {st ac tp la le cu tk sa ti fa fl tr : Int32} {k : Int32} (hm : h m = some (mO m st ac tp la le cu tk sa ti fa fl tr)) : xC l Ω yX12_finding cX12_finding 2 (some .int) 0 0 0 [.ref m, .int k] h sz (some (.int ((-1000010) - k))) (xu h m (.inr (11, [.int 0, .int k, .ref (m + 1), .ref (m + 2), .ref (m + 3), .ref (m + 4), .ref (m + 5), .ref (m + 6), .int ac, .ref (m + 7), .int tp, .int la, .int le, .int cu, .int tk, .int sa, .int ti, .int fa, .int fl, .ref (m + 8), .ref (m + 9), .ref (m + 10), .ref (m + 11), .int tr]))) (sz) := by
  refine xC_of (lv := [(0, .ref m), (1, .int k)]) pn_X12 rfl rfl (fun Γ X hΓ hbs => ?_)
  have X : xX Γ Ω cX12_finding 2 RX12 "finding" (some .int) 0 0 0 0 := X
  subst hΓ
  refine xr_aload_n X 0 dX12_finding_0 rfl rfl ?_
  refine xr_iload_n X 1 dX12_finding_1 rfl rfl ?_
  refine xr_put (fs' := [.int 0, .int k, .ref (m + 1), .ref (m + 2), .ref (m + 3), .ref (m + 4), .ref (m + 5), .ref (m + 6), .int ac, .ref (m + 7), .int tp, .int la, .int le, .int cu, .int tk, .int sa, .int ti, .int fa, .int fl, .ref (m + 8), .ref (m + 9), .ref (m + 10), .ref (m + 11), .int tr]) X (fW_X12_48_11 _) hm rfl rfl rfl rfl dX12_finding_2 ?_
  refine xr_ldc (v := (-1000010)) X kw_1036 dX12_finding_5 ?_
  refine xr_iload_n X 1 dX12_finding_7 rfl rfl ?_
  refine xr_isub X dX12_finding_8 ?_
  exact xr_iret X rfl rfl rfl rfl rfl rfl dX12_finding_9
def a_row (r l2 n : Int32) : Int32 := if 0 ≤ r.toInt ∧ r.toInt < 8 ∧ 0 ≤ l2.toInt ∧ l2.toInt < 3 ∧ n.toInt ≤ 40 then (if n.toInt < 0 then -1000014 else n) else -1000001
set_option maxRecDepth 100000 in
theorem l_X12_row {Γ : xΓ} {Ω : xW} {h : xH} {sz : Nat} (X : xX Γ Ω cX12_row 5 RX12 "row" (some .int) 2 70 0 0) {m : Nat} {st ac tp la le cu tk sa ti fa fl tr : Int32} {lane many item : Nat → Int32} {r l2 n : Int32} (hm : h m = some (mO m st ac tp la le cu tk sa ti fa fl tr)) (hlane : h (m + 1) = some (.inl (.int, 8, .inl lane))) (hmany : h (m + 2) = some (.inl (.int, 8, .inl many))) (hitem : h (m + 3) = some (.inl (.int, 320, .inl item))) (h0 : 0 ≤ r.toInt) (h8 : r.toInt < 8) : ∀ (j k : Nat), k + j = 40 → xG Γ Ω 5 (xQ Γ Ω (some (.int n)) (xu (xu (xu (xu h m (.inr (11, [.int 0, .int 0, .ref (m + 1), .ref (m + 2), .ref (m + 3), .ref (m + 4), .ref (m + 5), .ref (m + 6), .int ac, .ref (m + 7), .int tp, .int la, .int le, .int cu, .int tk, .int sa, .int ti, .int fa, .int fl, .ref (m + 8), .ref (m + 9), .ref (m + 10), .ref (m + 11), .int tr]))) (m + 1) (.inl (.int, 8, .inl (upd lane r.toNatClampNeg l2)))) (m + 2) (.inl (.int, 8, .inl (upd many r.toNatClampNeg n)))) (m + 3) (.inl (.int, 320, .inl (zf item (40 * r.toNatClampNeg) 40)))) (sz) 0 0) 65 [(4, .int (nI k)), (0, .ref m), (1, .int r), (2, .int l2), (3, .int n)] ([]) (xu (xu (xu (xu h m (.inr (11, [.int 0, .int 0, .ref (m + 1), .ref (m + 2), .ref (m + 3), .ref (m + 4), .ref (m + 5), .ref (m + 6), .int ac, .ref (m + 7), .int tp, .int la, .int le, .int cu, .int tk, .int sa, .int ti, .int fa, .int fl, .ref (m + 8), .ref (m + 9), .ref (m + 10), .ref (m + 11), .int tr]))) (m + 1) (.inl (.int, 8, .inl (upd lane r.toNatClampNeg l2)))) (m + 2) (.inl (.int, 8, .inl (upd many r.toNatClampNeg n)))) (m + 3) (.inl (.int, 320, .inl (zf item (40 * r.toNatClampNeg) k)))) sz 0 0 := by
  intro j
  induction j with
  | zero =>
    intro k hk
    obtain rfl : k = 40 := by omega
    refine xr_iload X 0 dX12_row_65 rfl ?_
    refine xr_bipush (v := 40) X dX12_row_67 (by decide) ?_
    refine xr_icmp_ge (tgt := 91) X dX12_row_69 (by decide) (fun _ => ?_) (fun c_69 => absurd (by decide) c_69)
    refine xr_iload_n X 4 dX12_row_91 rfl rfl ?_
    exact xr_iret X rfl rfl rfl rfl rfl rfl dX12_row_92
  | succ j ih =>
    intro k hk
    refine xr_iload X 0 dX12_row_65 rfl ?_
    refine xr_bipush (v := 40) X dX12_row_67 (by decide) ?_
    refine xr_icmp_ge (tgt := 91) X dX12_row_69 (by decide) (fun c_69 => absurd c_69 (by rw [i32_le, k32_40, nI_toInt (by omega)]; omega)) (fun _ => ?_)
    refine xr_aload_n X 1 dX12_row_72 rfl rfl ?_
    refine xr_get X fF_X12_16_11 (xu_at (xn0 _ rfl) (xu_at (xn0 _ rfl) (xu_at (xn0 _ rfl) (xu_s _ _ _)))) rfl dX12_row_73 ?_
    refine xr_bipush (v := 40) X dX12_row_76 (by decide) ?_
    refine xr_iload_n X 2 dX12_row_78 rfl rfl ?_
    refine xr_imul X dX12_row_79 ?_
    refine xr_iload X 0 dX12_row_80 rfl ?_
    refine xr_iadd X dX12_row_82 ?_
    refine xr_iconst (v := 0) X dX12_row_83 (by decide) ?_
    refine xr_iast (j := (40 * r.toNatClampNeg + k)) X (xu_s _ _ _) (xI_40 h0 h8 (nI_toInt (by omega)) (by omega)) dX12_row_84 ?_
    refine xr_heap (h' := (xu (xu (xu (xu h m (.inr (11, [.int 0, .int 0, .ref (m + 1), .ref (m + 2), .ref (m + 3), .ref (m + 4), .ref (m + 5), .ref (m + 6), .int ac, .ref (m + 7), .int tp, .int la, .int le, .int cu, .int tk, .int sa, .int ti, .int fa, .int fl, .ref (m + 8), .ref (m + 9), .ref (m + 10), .ref (m + 11), .int tr]))) (m + 1) (.inl (.int, 8, .inl (upd lane r.toNatClampNeg l2)))) (m + 2) (.inl (.int, 8, .inl (upd many r.toNatClampNeg n)))) (m + 3) (.inl (.int, 320, .inl (upd (zf item (40 * r.toNatClampNeg) k) (40 * r.toNatClampNeg + k) 0))))) (xu_uu _ _ _ _) ?_
    refine xr_iinc (v := nI (k + 1)) (lv' := [(4, .int (nI (k + 1))), (0, .ref m), (1, .int r), (2, .int l2), (3, .int n)]) X 0 dX12_row_85 rfl (nI_1 _) rfl rfl ?_
    refine xr_goto (tgt := 65) X dX12_row_88 (by decide) ?_
    refine xr_heap (h' := (xu (xu (xu (xu h m (.inr (11, [.int 0, .int 0, .ref (m + 1), .ref (m + 2), .ref (m + 3), .ref (m + 4), .ref (m + 5), .ref (m + 6), .int ac, .ref (m + 7), .int tp, .int la, .int le, .int cu, .int tk, .int sa, .int ti, .int fa, .int fl, .ref (m + 8), .ref (m + 9), .ref (m + 10), .ref (m + 11), .int tr]))) (m + 1) (.inl (.int, 8, .inl (upd lane r.toNatClampNeg l2)))) (m + 2) (.inl (.int, 8, .inl (upd many r.toNatClampNeg n)))) (m + 3) (.inl (.int, 320, .inl (zf item (40 * r.toNatClampNeg) (k + 1)))))) (by rw [zf_s]) ?_
    refine xr_locs [0, 1, 2, 3, 4] rfl ?_
    exact ih (k + 1) (by omega)
set_option maxRecDepth 100000 in
theorem c_X12_row {l : Launch} {Ω : xW} {h : xH} {sz : Nat} {m : Nat} {st ac tp la le cu tk sa ti fa fl tr : Int32} {lane many item : Nat → Int32} {r l2 n : Int32} (hm : h m = some (mO m st ac tp la le cu tk sa ti fa fl tr)) (hlane : h (m + 1) = some (.inl (.int, 8, .inl lane))) (hmany : h (m + 2) = some (.inl (.int, 8, .inl many))) (hitem : h (m + 3) = some (.inl (.int, 320, .inl item))) : xC l Ω yX12_row cX12_row 5 (some .int) 2 0 0 [.ref m, .int r, .int l2, .int n] h sz (some (.int (a_row r l2 n))) (if 0 ≤ r.toInt ∧ r.toInt < 8 ∧ 0 ≤ l2.toInt ∧ l2.toInt < 3 ∧ n.toInt ≤ 40 then (if n.toInt < 0 then (xu h m (.inr (11, [.int 0, .int 4, .ref (m + 1), .ref (m + 2), .ref (m + 3), .ref (m + 4), .ref (m + 5), .ref (m + 6), .int ac, .ref (m + 7), .int tp, .int la, .int le, .int cu, .int tk, .int sa, .int ti, .int fa, .int fl, .ref (m + 8), .ref (m + 9), .ref (m + 10), .ref (m + 11), .int tr]))) else (xu (xu (xu (xu h m (.inr (11, [.int 0, .int 0, .ref (m + 1), .ref (m + 2), .ref (m + 3), .ref (m + 4), .ref (m + 5), .ref (m + 6), .int ac, .ref (m + 7), .int tp, .int la, .int le, .int cu, .int tk, .int sa, .int ti, .int fa, .int fl, .ref (m + 8), .ref (m + 9), .ref (m + 10), .ref (m + 11), .int tr]))) (m + 1) (.inl (.int, 8, .inl (upd lane r.toNatClampNeg l2)))) (m + 2) (.inl (.int, 8, .inl (upd many r.toNatClampNeg n)))) (m + 3) (.inl (.int, 320, .inl (zf item (40 * r.toNatClampNeg) 40))))) else h) (sz) := by
  refine xC_of (lv := [(0, .ref m), (1, .int r), (2, .int l2), (3, .int n)]) pn_X12 rfl rfl (fun Γ X hΓ hbs => ?_)
  have X : xX Γ Ω cX12_row 5 RX12 "row" (some .int) 2 70 0 0 := X
  subst hΓ
  refine xr_aload_n X 0 dX12_row_0 rfl rfl ?_
  refine xr_iconst (v := 0) X dX12_row_1 (by decide) ?_
  refine xr_put (fs' := [.int 0, .int st, .ref (m + 1), .ref (m + 2), .ref (m + 3), .ref (m + 4), .ref (m + 5), .ref (m + 6), .int ac, .ref (m + 7), .int tp, .int la, .int le, .int cu, .int tk, .int sa, .int ti, .int fa, .int fl, .ref (m + 8), .ref (m + 9), .ref (m + 10), .ref (m + 11), .int tr]) X (fW_X12_44_11 _) hm rfl rfl rfl rfl dX12_row_2 ?_
  refine xr_heap (h' := h) (xu_id hm) ?_
  refine xr_iload_n X 1 dX12_row_5 rfl rfl ?_
  refine xr_callS X kw_1023 kw_1024 cw_X12_isRow [.int r] c_X12_isRow rfl rfl rfl rfl rfl rfl rfl dX12_row_6 ?_
  refine xr_if_eq (tgt := 30) X dX12_row_9 (by decide) (fun c_9 => ?_) (fun c_9 => ?_)
  · have c_9 := of_decide_eq_false (xb_0.mp c_9)
    (try simp (disch := omega) only [nI_toInt, i32_add, i32_sub, i32_mul, i32_l, i64_add, i64_sub, k32_0, k32_8, k64_0, k64_8] at c_9)
    refine xr_ldc (v := (-1000001)) X kw_1031 dX12_row_30 ?_
    exact xr_iret X rfl (xv (if_neg (by omega))) ((if_neg (by omega)).symm) rfl rfl rfl dX12_row_32
  · have c_9 := of_decide_eq_true (xb_1.mp c_9)
    (try simp (disch := omega) only [nI_toInt, i32_add, i32_sub, i32_mul, i32_l, i64_add, i64_sub, k32_0, k32_8, k64_0, k64_8] at c_9)
    refine xr_iload_n X 2 dX12_row_12 rfl rfl ?_
    refine xr_i2l X dX12_row_13 ?_
    refine xr_lconst (v := 0) X dX12_row_14 (by decide) ?_
    refine xr_ldc2 (v := 2) X kw_1030 dX12_row_15 ?_
    refine xr_callS X kw_1027 kw_1028 cw_X12_in [.long l2.toInt64, .long 0, .long 2] c_X12_in rfl rfl rfl rfl rfl rfl rfl dX12_row_18 ?_
    refine xr_if_eq (tgt := 30) X dX12_row_21 (by decide) (fun c_21 => ?_) (fun c_21 => ?_)
    · have c_21 := of_decide_eq_false (xb_0.mp c_21)
      (try simp (disch := omega) only [nI_toInt, i32_add, i32_sub, i32_mul, i32_l, i64_add, i64_sub, k32_0, k32_2, k64_0, k64_2] at c_21)
      refine xr_ldc (v := (-1000001)) X kw_1031 dX12_row_30 ?_
      exact xr_iret X rfl (xv (if_neg (by omega))) ((if_neg (by omega)).symm) rfl rfl rfl dX12_row_32
    · have c_21 := of_decide_eq_true (xb_1.mp c_21)
      (try simp (disch := omega) only [nI_toInt, i32_add, i32_sub, i32_mul, i32_l, i64_add, i64_sub, k32_0, k32_2, k64_0, k64_2] at c_21)
      refine xr_iload_n X 3 dX12_row_24 rfl rfl ?_
      refine xr_bipush (v := 40) X dX12_row_25 (by decide) ?_
      refine xr_icmp_le (tgt := 33) X dX12_row_27 (by decide) (fun c_27 => ?_) (fun c_27 => ?_)
      · have c_27 := i32_le.mp c_27
        (try simp (disch := omega) only [nI_toInt, i32_add, i32_sub, i32_mul, i32_l, i64_add, i64_sub, k32_40, k64_40] at c_27)
        refine xr_aload_n X 0 dX12_row_33 rfl rfl ?_
        refine xr_iconst (v := 0) X dX12_row_34 (by decide) ?_
        refine xr_put (fs' := [.int 0, .int 0, .ref (m + 1), .ref (m + 2), .ref (m + 3), .ref (m + 4), .ref (m + 5), .ref (m + 6), .int ac, .ref (m + 7), .int tp, .int la, .int le, .int cu, .int tk, .int sa, .int ti, .int fa, .int fl, .ref (m + 8), .ref (m + 9), .ref (m + 10), .ref (m + 11), .int tr]) X (fW_X12_48_11 _) hm rfl rfl rfl rfl dX12_row_35 ?_
        refine xr_iload_n X 3 dX12_row_38 rfl rfl ?_
        refine xr_if_ge (tgt := 48) X dX12_row_39 (by decide) (fun c_39 => ?_) (fun c_39 => ?_)
        · have c_39 := i32_le.mp c_39
          (try simp (disch := omega) only [nI_toInt, i32_add, i32_sub, i32_mul, i32_l, i64_add, i64_sub, k32_0, k64_0] at c_39)
          refine xr_aload_n X 0 dX12_row_48 rfl rfl ?_
          refine xr_get X fF_X12_7_11 (xu_s _ _ _) rfl dX12_row_49 ?_
          refine xr_iload_n X 1 dX12_row_52 rfl rfl ?_
          refine xr_iload_n X 2 dX12_row_53 rfl rfl ?_
          refine xr_iast (j := r.toNatClampNeg) X (xu_at (xn1 _ rfl) hlane) (xI_c (by omega) (by omega)) dX12_row_54 ?_
          refine xr_aload_n X 0 dX12_row_55 rfl rfl ?_
          refine xr_get X fF_X12_13_11 (xu_at (xn0 _ rfl) (xu_s _ _ _)) rfl dX12_row_56 ?_
          refine xr_iload_n X 1 dX12_row_59 rfl rfl ?_
          refine xr_iload_n X 3 dX12_row_60 rfl rfl ?_
          refine xr_iast (j := r.toNatClampNeg) X (xu_at (xne _ rfl) (xu_at (xn1 _ rfl) hmany)) (xI_c (by omega) (by omega)) dX12_row_61 ?_
          refine xr_iconst (v := 0) X dX12_row_62 (by decide) ?_
          refine xr_istore (lv' := [(4, .int 0), (0, .ref m), (1, .int r), (2, .int l2), (3, .int n)]) X dX12_row_63 rfl rfl ?_
          rw [show a_row r l2 n = n from (if_pos (by omega)).trans (if_neg (by omega)), if_pos (show 0 ≤ r.toInt ∧ r.toInt < 8 ∧ 0 ≤ l2.toInt ∧ l2.toInt < 3 ∧ n.toInt ≤ 40 by omega), if_neg (show ¬ n.toInt < 0 by omega)]
          refine xr_heap (h' := (xu (xu (xu (xu h m (.inr (11, [.int 0, .int 0, .ref (m + 1), .ref (m + 2), .ref (m + 3), .ref (m + 4), .ref (m + 5), .ref (m + 6), .int ac, .ref (m + 7), .int tp, .int la, .int le, .int cu, .int tk, .int sa, .int ti, .int fa, .int fl, .ref (m + 8), .ref (m + 9), .ref (m + 10), .ref (m + 11), .int tr]))) (m + 1) (.inl (.int, 8, .inl (upd lane r.toNatClampNeg l2)))) (m + 2) (.inl (.int, 8, .inl (upd many r.toNatClampNeg n)))) (m + 3) (.inl (.int, 320, .inl (zf item (40 * r.toNatClampNeg) 0))))) (by rw [zf_0]; exact (xu_id (xu_at (xne _ rfl) (xu_at (xne _ rfl) (xu_at (xn1 _ rfl) hitem)))).symm) ?_
          exact l_X12_row X hm hlane hmany hitem (by omega) (by omega) 40 0 rfl
        · have c_39 := mt i32_le.mpr c_39
          (try simp (disch := omega) only [nI_toInt, i32_add, i32_sub, i32_mul, i32_l, i64_add, i64_sub, k32_0, k64_0] at c_39)
          refine xr_aload_n X 0 dX12_row_42 rfl rfl ?_
          refine xr_iconst (v := 4) X dX12_row_43 (by decide) ?_
          refine xr_callV X (xu_s _ _ _) rfl kw_1032 kw_1034 kw_21 cw_X12_finding [.int 4] (c_X12_finding (xu_s _ _ _)) rfl rfl rfl rfl rfl rfl rfl dX12_row_44 ?_
          refine xr_heap (h' := (xu h m (.inr (11, [.int 0, .int 4, .ref (m + 1), .ref (m + 2), .ref (m + 3), .ref (m + 4), .ref (m + 5), .ref (m + 6), .int ac, .ref (m + 7), .int tp, .int la, .int le, .int cu, .int tk, .int sa, .int ti, .int fa, .int fl, .ref (m + 8), .ref (m + 9), .ref (m + 10), .ref (m + 11), .int tr])))) (xu_uu _ _ _ _) ?_
          exact xr_iret X rfl (xv ((if_pos (by omega)).trans (if_pos (by omega)))) (((if_pos (by omega)).trans (if_pos (by omega))).symm) rfl rfl rfl dX12_row_47
      · have c_27 := mt i32_le.mpr c_27
        (try simp (disch := omega) only [nI_toInt, i32_add, i32_sub, i32_mul, i32_l, i64_add, i64_sub, k32_40, k64_40] at c_27)
        refine xr_ldc (v := (-1000001)) X kw_1031 dX12_row_30 ?_
        exact xr_iret X rfl (xv (if_neg (by omega))) ((if_neg (by omega)).symm) rfl rfl rfl dX12_row_32
end
section
set_option maxRecDepth 100000 in
theorem c_X12_isThere {l : Launch} {Ω : xW} {h : xH} {sz : Nat} {m : Nat} {st ac tp la le cu tk sa ti fa fl tr : Int32} {t : Nat → Int32} {np day b : Nat} {kd wh mn : Nat → Nat} (hm : h m = some (mO m st ac tp la le cu tk sa ti fa fl tr)) (ht : h (m + 4) = some (.inl (.int, 21, .inl t))) (T : tOK t np kd wh mn day b) : xC l Ω yX12_isThere cX12_isThere 1 (some .boolean) 0 0 0 [.ref m] h sz (some (.int (xb (decide (0 < np))))) h (sz) := by
  refine xC_of (lv := [(0, .ref m)]) pn_X12 rfl rfl (fun Γ X hΓ hbs => ?_)
  have X : xX Γ Ω cX12_isThere 1 RX12 "isThere" (some .boolean) 0 0 0 0 := X
  subst hΓ
  have h6 := T.1
  refine xr_aload_n X 0 dX12_isThere_0 rfl rfl ?_
  refine xr_get X fF_X12_19_11 hm rfl dX12_isThere_1 ?_
  refine xr_iconst (v := 0) X dX12_isThere_4 (by decide) ?_
  refine xr_iald (j := 0) X ht (xI_e (by decide) (by omega) (by omega)) dX12_isThere_5 ?_
  refine xr_top (y := (nI np)) T.2.1 ?_
  refine xr_if_le (tgt := 13) X dX12_isThere_6 (by decide) (fun c_6 => ?_) (fun c_6 => ?_)
  · have c_6 := i32_le.mp c_6
    (try simp (disch := omega) only [nI_toInt, i32_add, i32_sub, i32_mul, i32_l, i64_add, i64_sub, k32_0, k64_0] at c_6)
    refine xr_iconst (v := 0) X dX12_isThere_13 (by decide) ?_
    exact xr_zret X rfl rfl (by first | exact xbT (by omega) | exact xbF (by omega)) rfl rfl rfl rfl dX12_isThere_14
  · have c_6 := mt i32_le.mpr c_6
    (try simp (disch := omega) only [nI_toInt, i32_add, i32_sub, i32_mul, i32_l, i64_add, i64_sub, k32_0, k64_0] at c_6)
    refine xr_iconst (v := 1) X dX12_isThere_9 (by decide) ?_
    refine xr_goto (tgt := 14) X dX12_isThere_10 (by decide) ?_
    exact xr_zret X rfl rfl (by first | exact xbT (by omega) | exact xbF (by omega)) rfl rfl rfl rfl dX12_isThere_14
set_option maxRecDepth 100000 in
theorem c_X12_isPerson {l : Launch} {Ω : xW} {h : xH} {sz : Nat} {m : Nat} {st ac tp la le cu tk sa ti fa fl tr : Int32} {t : Nat → Int32} {np day b : Nat} {kd wh mn : Nat → Nat} {p : Int32} (hm : h m = some (mO m st ac tp la le cu tk sa ti fa fl tr)) (ht : h (m + 4) = some (.inl (.int, 21, .inl t))) (T : tOK t np kd wh mn day b) : xC l Ω yX12_isPerson cX12_isPerson 2 (some .boolean) 1 0 0 [.ref m, .int p] h sz (some (.int (xb (decide (0 ≤ p.toInt ∧ p.toInt < np))))) h (sz) := by
  refine xC_of (lv := [(0, .ref m), (1, .int p)]) pn_X12 rfl rfl (fun Γ X hΓ hbs => ?_)
  have X : xX Γ Ω cX12_isPerson 2 RX12 "isPerson" (some .boolean) 1 35 0 0 := X
  subst hΓ
  have h6 := T.1
  refine xr_iload_n X 1 dX12_isPerson_0 rfl rfl ?_
  refine xr_i2l X dX12_isPerson_1 ?_
  refine xr_lconst (v := 0) X dX12_isPerson_2 (by decide) ?_
  refine xr_aload_n X 0 dX12_isPerson_3 rfl rfl ?_
  refine xr_get X fF_X12_19_11 hm rfl dX12_isPerson_4 ?_
  refine xr_iconst (v := 0) X dX12_isPerson_7 (by decide) ?_
  refine xr_iald (j := 0) X ht (xI_e (by decide) (by omega) (by omega)) dX12_isPerson_8 ?_
  refine xr_top (y := (nI np)) T.2.1 ?_
  refine xr_iconst (v := 1) X dX12_isPerson_9 (by decide) ?_
  refine xr_isub X dX12_isPerson_10 ?_
  refine xr_i2l X dX12_isPerson_11 ?_
  refine xr_callS X kw_1027 kw_1028 cw_X12_in [.long p.toInt64, .long 0, .long (((nI np) - 1).toInt64)] c_X12_in rfl rfl rfl rfl rfl rfl rfl dX12_isPerson_12 ?_
  exact xr_zret X rfl (xb_nar _) (by have e : (nI np - 1).toInt = (np : Int) - 1 := (by rw [i32_sub (by rw [nI_toInt (by omega), k32_1]; omega) (by rw [nI_toInt (by omega), k32_1]; omega), nI_toInt (by omega), k32_1]); simp only [i32_l, k64_0, e]; congr 3; apply decide_eq_decide.mpr; omega) rfl rfl rfl rfl dX12_isPerson_15
set_option maxRecDepth 100000 in
theorem c_X12_all {l : Launch} {Ω : xW} {h : xH} {sz : Nat} {m : Nat} {st ac tp la le cu tk sa ti fa fl tr : Int32} {t : Nat → Int32} {np day b : Nat} {kd wh mn : Nat → Nat} (hm : h m = some (mO m st ac tp la le cu tk sa ti fa fl tr)) (ht : h (m + 4) = some (.inl (.int, 21, .inl t))) (T : tOK t np kd wh mn day b) : xC l Ω yX12_all cX12_all 1 (some .int) 0 0 0 [.ref m] h sz (some (.int (nI (2 ^ np - 1)))) h (sz) := by
  refine xC_of (lv := [(0, .ref m)]) pn_X12 rfl rfl (fun Γ X hΓ hbs => ?_)
  have X : xX Γ Ω cX12_all 1 RX12 "all" (some .int) 0 0 0 0 := X
  subst hΓ
  have h6 := T.1
  refine xr_iconst (v := 1) X dX12_all_0 (by decide) ?_
  refine xr_aload_n X 0 dX12_all_1 rfl rfl ?_
  refine xr_get X fF_X12_19_11 hm rfl dX12_all_2 ?_
  refine xr_iconst (v := 0) X dX12_all_5 (by decide) ?_
  refine xr_iald (j := 0) X ht (xI_e (by decide) (by omega) (by omega)) dX12_all_6 ?_
  refine xr_top (y := (nI np)) T.2.1 ?_
  refine xr_ishl X dX12_all_7 ?_
  refine xr_top (y := (nI (2 ^ np))) (pw6 _ h6) ?_
  refine xr_iconst (v := 1) X dX12_all_8 (by decide) ?_
  refine xr_isub X dX12_all_9 ?_
  exact xr_iret X rfl (xv (by have h := Nat.two_pow_pos np; rw [show (1 : Int32) = nI 1 from rfl, pk_sub (by omega)])) rfl rfl rfl rfl dX12_all_10
set_option maxRecDepth 100000 in
theorem c_X12_isSet {l : Launch} {Ω : xW} {h : xH} {sz : Nat} {m : Nat} {st ac tp la le cu tk sa ti fa fl tr : Int32} {t : Nat → Int32} {np day b : Nat} {kd wh mn : Nat → Nat} {s : Int32} (hm : h m = some (mO m st ac tp la le cu tk sa ti fa fl tr)) (ht : h (m + 4) = some (.inl (.int, 21, .inl t))) (T : tOK t np kd wh mn day b) : xC l Ω yX12_isSet cX12_isSet 2 (some .boolean) 1 0 0 [.ref m, .int s] h sz (some (.int (xb (decide (0 ≤ s.toInt ∧ s.toInt < (2 ^ np : Nat)))))) h (sz) := by
  refine xC_of (lv := [(0, .ref m), (1, .int s)]) pn_X12 rfl rfl (fun Γ X hΓ hbs => ?_)
  have X : xX Γ Ω cX12_isSet 2 RX12 "isSet" (some .boolean) 1 35 0 0 := X
  subst hΓ
  have h6 := T.1
  have h64 := pw_le h6
  have hp := Nat.two_pow_pos np
  refine xr_iload_n X 1 dX12_isSet_0 rfl rfl ?_
  refine xr_i2l X dX12_isSet_1 ?_
  refine xr_lconst (v := 0) X dX12_isSet_2 (by decide) ?_
  refine xr_aload_n X 0 dX12_isSet_3 rfl rfl ?_
  refine xr_callV X hm rfl kw_1130 kw_1132 kw_33 cw_X12_all [] (c_X12_all hm ht T) rfl rfl rfl rfl rfl rfl rfl dX12_isSet_4 ?_
  refine xr_i2l X dX12_isSet_7 ?_
  refine xr_callS X kw_1027 kw_1028 cw_X12_in [.long s.toInt64, .long 0, .long ((nI (2 ^ np - 1)).toInt64)] c_X12_in rfl rfl rfl rfl rfl rfl rfl dX12_isSet_8 ?_
  exact xr_zret X rfl (xb_nar _) (by simp only [i32_l, k64_0, nI_toInt (show 2 ^ np - 1 < 2 ^ 31 by omega)]; congr 3; apply decide_eq_decide.mpr; omega) rfl rfl rfl rfl dX12_isSet_11
set_option maxRecDepth 100000 in
theorem c_X12_of {l : Launch} {Ω : xW} {h : xH} {sz : Nat} {m : Nat} {st ac tp la le cu tk sa ti fa fl tr : Int32} {t : Nat → Int32} {p2 w2 : Int32} {p w : Nat} (hm : h m = some (mO m st ac tp la le cu tk sa ti fa fl tr)) (ht : h (m + 4) = some (.inl (.int, 21, .inl t))) (ep : p2.toInt = (p : Int)) (ew : w2.toInt = (w : Int)) (hpw : 3 + 3 * p + w < 21) : xC l Ω yX12_of cX12_of 3 (some .int) 0 0 0 [.ref m, .int p2, .int w2] h sz (some (.int (t (3 + 3 * p + w)))) h (sz) := by
  refine xC_of (lv := [(0, .ref m), (1, .int p2), (2, .int w2)]) pn_X12 rfl rfl (fun Γ X hΓ hbs => ?_)
  have X : xX Γ Ω cX12_of 3 RX12 "of" (some .int) 0 0 0 0 := X
  subst hΓ
  refine xr_aload_n X 0 dX12_of_0 rfl rfl ?_
  refine xr_get X fF_X12_19_11 hm rfl dX12_of_1 ?_
  refine xr_iconst (v := 3) X dX12_of_4 (by decide) ?_
  refine xr_iconst (v := 3) X dX12_of_5 (by decide) ?_
  refine xr_iload_n X 1 dX12_of_6 rfl rfl ?_
  refine xr_imul X dX12_of_7 ?_
  refine xr_iadd X dX12_of_8 ?_
  refine xr_iload_n X 2 dX12_of_9 rfl rfl ?_
  refine xr_iadd X dX12_of_10 ?_
  refine xr_iald (j := (3 + 3 * p + w)) X ht (xI_i (by have e1 : (3 * p2).toInt = 3 * p2.toInt := by { rw [i32_mul (by rw [k32_3]; omega) (by rw [k32_3]; omega), k32_3] }; have e2 : (3 + 3 * p2).toInt = 3 + 3 * p2.toInt := by { rw [i32_add (by rw [k32_3]; omega) (by rw [k32_3]; omega), k32_3, e1] }; rw [i32_add (by omega) (by omega)]; omega) hpw) dX12_of_11 ?_
  exact xr_iret X rfl rfl rfl rfl rfl rfl dX12_of_12
set_option maxRecDepth 100000 in
theorem l_X12_bits {Γ : xΓ} {Ω : xW} {h : xH} {sz : Nat} (X : xX Γ Ω cX12_bits 3 RX12 "bits" (some .int) 0 0 0 0) {l2 : Nat} (hl : l2 < 2 ^ 31) : ∀ (j k : Nat), k + j = 6 → xG Γ Ω 3 (xQ Γ Ω (some (.int (nI (bcn l2 6)))) h (sz) 0 0) 4 [(2, .int (nI k)), (1, .int (nI (bcn l2 k))), (0, .int (nI l2))] ([]) h sz 0 0 := by
  intro j
  induction j with
  | zero =>
    intro k hk
    have ek : k = 6 := by omega
    refine xr_iload_n X 0 dX12_bits_4 rfl rfl ?_
    refine xr_bipush (v := 6) X dX12_bits_5 (by decide) ?_
    refine xr_icmp_ge (tgt := 24) X dX12_bits_7 (by decide) (fun _ => ?_) (fun c_7 => absurd (by subst ek; decide) c_7)
    refine xr_iload_n X 1 dX12_bits_24 rfl rfl ?_
    exact xr_iret X rfl (by rw [ek]) rfl rfl rfl rfl dX12_bits_25
  | succ j ih =>
    intro k hk
    have lk : k < 6 := by omega
    refine xr_iload_n X 0 dX12_bits_4 rfl rfl ?_
    refine xr_bipush (v := 6) X dX12_bits_5 (by decide) ?_
    refine xr_icmp_ge (tgt := 24) X dX12_bits_7 (by decide) (fun c_7 => absurd c_7 (by rw [i32_le, k32_6, nI_toInt (by omega)]; omega)) (fun _ => ?_)
    refine xr_iload_n X 1 dX12_bits_10 rfl rfl ?_
    refine xr_iload_n X 2 dX12_bits_11 rfl rfl ?_
    refine xr_iload_n X 0 dX12_bits_12 rfl rfl ?_
    refine xr_ishr X dX12_bits_13 ?_
    refine xr_iconst (v := 1) X dX12_bits_14 (by decide) ?_
    refine xr_iand X dX12_bits_15 ?_
    refine xr_top (y := (xb (l2.testBit k))) (bt_n hl (by omega)) ?_
    refine xr_iadd X dX12_bits_16 ?_
    refine xr_top (y := (nI (bcn l2 (k + 1)))) (by rw [bcn, ← nI_add]; cases l2.testBit k <;> rfl) ?_
    refine xr_istore_n (lv' := [(1, .int (nI (bcn l2 (k + 1)))), (2, .int (nI k)), (0, .int (nI l2))]) X dX12_bits_17 rfl rfl rfl ?_
    refine xr_iinc (v := nI (k + 1)) (lv' := [(2, .int (nI (k + 1))), (1, .int (nI (bcn l2 (k + 1)))), (0, .int (nI l2))]) X 1 dX12_bits_18 rfl (nI_1 _) rfl rfl ?_
    refine xr_goto (tgt := 4) X dX12_bits_21 (by decide) ?_
    refine xr_locs [0, 1, 2] rfl ?_
    exact ih (k + 1) (by omega)
set_option maxRecDepth 100000 in
theorem c_X12_bits {l : Launch} {Ω : xW} {h : xH} {sz : Nat} {l2 : Nat} (hl : l2 < 2 ^ 31) : xC l Ω yX12_bits cX12_bits 3 (some .int) 0 0 0 [.int (nI l2)] h sz (some (.int (nI (bcn l2 6)))) h (sz) := by
  refine xC_of (lv := [(0, .int (nI l2))]) pn_X12 rfl rfl (fun Γ X hΓ hbs => ?_)
  have X : xX Γ Ω cX12_bits 3 RX12 "bits" (some .int) 0 0 0 0 := X
  subst hΓ
  refine xr_iconst (v := 0) X dX12_bits_0 (by decide) ?_
  refine xr_istore_n (lv' := [(1, .int 0), (0, .int (nI l2))]) X dX12_bits_1 rfl rfl rfl ?_
  refine xr_iconst (v := 0) X dX12_bits_2 (by decide) ?_
  refine xr_istore_n (lv' := [(2, .int 0), (1, .int 0), (0, .int (nI l2))]) X dX12_bits_3 rfl rfl rfl ?_
  exact l_X12_bits X hl 6 0 rfl
set_option maxRecDepth 100000 in
theorem c_X12_doesIt {l : Launch} {Ω : xW} {h : xH} {sz : Nat} {m : Nat} {st ac tp la le cu tk sa ti fa fl tr : Int32} {t : Nat → Int32} {np day b : Nat} {kd wh mn : Nat → Nat} {p l2 b2 : Nat} (hm : h m = some (mO m st ac tp la le cu tk sa ti fa fl tr)) (ht : h (m + 4) = some (.inl (.int, 21, .inl t))) (T : tOK t np kd wh mn day b) (hp : p < np) (hl : l2 < 64) (hb : b2 < 64) : xC l Ω yX12_doesIt cX12_doesIt 5 (some .boolean) 1 0 0 [.ref m, .int (nI p), .int (nI l2), .int (nI b2)] h sz (some (.int (xb (dz kd wh mn p l2 b2)))) h (sz) := by
  refine xC_of (lv := [(0, .ref m), (1, .int (nI p)), (2, .int (nI l2)), (3, .int (nI b2))]) pn_X12 rfl rfl (fun Γ X hΓ hbs => ?_)
  have X : xX Γ Ω cX12_doesIt 5 RX12 "doesIt" (some .boolean) 1 35 0 0 := X
  subst hΓ
  have h6 := T.1
  have hT := T.2.2.2.2.2.2 p hp
  have hbc := bcn_le l2 6
  refine xr_iload_n X 2 dX12_doesIt_0 rfl rfl ?_
  refine xr_aload_n X 0 dX12_doesIt_1 rfl rfl ?_
  refine xr_iload_n X 1 dX12_doesIt_2 rfl rfl ?_
  refine xr_iconst (v := 1) X dX12_doesIt_3 (by decide) ?_
  refine xr_callV X hm rfl kw_1146 kw_1148 kw_37 cw_X12_of [.int (nI p), .int 1] (c_X12_of (p := p) (w := 1) hm ht (nI_toInt (by omega)) (by decide) (by omega)) rfl rfl rfl rfl rfl rfl rfl dX12_doesIt_4 ?_
  refine xr_top (y := nI (wh p)) (by rw [show 3 + 3 * p + 1 = 4 + 3 * p by omega]; exact (T.2.2.2.2.2.2 p (by omega)).2.1) ?_
  refine xr_ishr X dX12_doesIt_7 ?_
  refine xr_iconst (v := 1) X dX12_doesIt_8 (by decide) ?_
  refine xr_iand X dX12_doesIt_9 ?_
  refine xr_top (y := (xb (l2.testBit (wh p)))) (bt_n (by omega) (by omega)) ?_
  refine xr_iconst (v := 1) X dX12_doesIt_10 (by decide) ?_
  refine xr_icmp_ne (tgt := 18) X dX12_doesIt_11 (by decide) (fun c_11 => ?_) (fun c_11 => ?_)
  · have c_11 := xb_not1 c_11
    refine xr_iconst (v := 0) X dX12_doesIt_18 (by decide) ?_
    refine xr_top (y := (xb (l2.testBit (wh p)))) (by rw [c_11]; rfl) ?_
    refine xr_istore (lv' := [(4, .int (xb (l2.testBit (wh p)))), (0, .ref m), (1, .int (nI p)), (2, .int (nI l2)), (3, .int (nI b2))]) X dX12_doesIt_19 rfl rfl ?_
    refine xr_aload_n X 1 dX12_doesIt_21 rfl rfl ?_
    refine xr_iload_n X 2 dX12_doesIt_22 rfl rfl ?_
    refine xr_iconst (v := 0) X dX12_doesIt_23 (by decide) ?_
    refine xr_callV X hm rfl kw_1146 kw_1148 kw_37 cw_X12_of [.int (nI p), .int 0] (c_X12_of (p := p) (w := 0) hm ht (nI_toInt (by omega)) (by decide) (by omega)) rfl rfl rfl rfl rfl rfl rfl dX12_doesIt_24 ?_
    refine xr_top (y := nI (kd p)) (by rw [show 3 + 3 * p + 0 = 3 + 3 * p by omega]; exact (T.2.2.2.2.2.2 p (by omega)).1) ?_
    have hk9 : kd p = 1 ∨ kd p = 2 ∨ kd p = 3 ∨ kd p = 4 ∨ kd p = 5 := by have := T.2.2.2.2.2.2 p hp; omega
    rcases hk9 with ek | ek | ek | ek | ek
    · refine xr_tableOut (tgt := 111) X dX12_doesIt_27 (by rw [ek]; decide) (by decide) ?_
      refine xr_iload X 0 dX12_doesIt_111 rfl ?_
      exact xr_zret X rfl (xb_nar _) (by simp only [dz, ek]; simp_all [xb]) rfl rfl rfl rfl dX12_doesIt_113
    · refine xr_tableIn (off := 29) (tgt := 56) X dX12_doesIt_27 (by rw [ek]; decide) (by rw [ek]; decide) (by rw [ek]; decide) (by decide) ?_
      refine xr_iload X 0 dX12_doesIt_56 rfl ?_
      refine xr_if_ne (tgt := 65) X dX12_doesIt_58 (by decide) (fun c_58 => ?_) (fun c_58 => ?_)
      · have c_58 := xb_1.mp c_58
        refine xr_iconst (v := 0) X dX12_doesIt_65 (by decide) ?_
        exact xr_zret X rfl rfl (by simp only [dz, ek]; simp_all [xb]) rfl rfl rfl rfl dX12_doesIt_66
      · have c_58 := xb_0.mp c_58
        refine xr_iconst (v := 1) X dX12_doesIt_61 (by decide) ?_
        refine xr_goto (tgt := 66) X dX12_doesIt_62 (by decide) ?_
        exact xr_zret X rfl rfl (by simp only [dz, ek]; simp_all [xb]) rfl rfl rfl rfl dX12_doesIt_66
    · refine xr_tableIn (off := 84) (tgt := 111) X dX12_doesIt_27 (by rw [ek]; decide) (by rw [ek]; decide) (by rw [ek]; decide) (by decide) ?_
      refine xr_iload X 0 dX12_doesIt_111 rfl ?_
      exact xr_zret X rfl (xb_nar _) (by simp only [dz, ek]; simp_all [xb]) rfl rfl rfl rfl dX12_doesIt_113
    · refine xr_tableIn (off := 40) (tgt := 67) X dX12_doesIt_27 (by rw [ek]; decide) (by rw [ek]; decide) (by rw [ek]; decide) (by decide) ?_
      refine xr_iload_n X 3 dX12_doesIt_67 rfl rfl ?_
      refine xr_callS X kw_1150 kw_1151 cw_X12_bits [.int (nI l2)] (c_X12_bits (l2 := l2) (by omega)) rfl rfl rfl rfl rfl rfl rfl dX12_doesIt_68 ?_
      refine xr_aload_n X 1 dX12_doesIt_71 rfl rfl ?_
      refine xr_iload_n X 2 dX12_doesIt_72 rfl rfl ?_
      refine xr_iconst (v := 2) X dX12_doesIt_73 (by decide) ?_
      refine xr_callV X hm rfl kw_1146 kw_1148 kw_37 cw_X12_of [.int (nI p), .int 2] (c_X12_of (p := p) (w := 2) hm ht (nI_toInt (by omega)) (by decide) (by omega)) rfl rfl rfl rfl rfl rfl rfl dX12_doesIt_74 ?_
      refine xr_top (y := nI (mn p)) (by rw [show 3 + 3 * p + 2 = 5 + 3 * p by omega]; exact (T.2.2.2.2.2.2 p (by omega)).2.2.1) ?_
      refine xr_icmp_lt (tgt := 84) X dX12_doesIt_77 (by decide) (fun c_77 => ?_) (fun c_77 => ?_)
      · have c_77 := i32_lt.mp c_77
        (try simp (disch := omega) only [nI_toInt, i32_add, i32_sub, i32_mul, i32_l, i64_add, i64_sub, k32_6, k64_6] at c_77)
        refine xr_iconst (v := 0) X dX12_doesIt_84 (by decide) ?_
        exact xr_zret X rfl rfl (by rw [show dz kd wh mn p l2 b2 = decide (mn p ≤ bcn l2 6) by simp [dz, ek]]; first | exact xbT (by omega) | exact xbF (by omega)) rfl rfl rfl rfl dX12_doesIt_85
      · have c_77 := mt i32_lt.mpr c_77
        (try simp (disch := omega) only [nI_toInt, i32_add, i32_sub, i32_mul, i32_l, i64_add, i64_sub, k32_6, k64_6] at c_77)
        refine xr_iconst (v := 1) X dX12_doesIt_80 (by decide) ?_
        refine xr_goto (tgt := 85) X dX12_doesIt_81 (by decide) ?_
        exact xr_zret X rfl rfl (by rw [show dz kd wh mn p l2 b2 = decide (mn p ≤ bcn l2 6) by simp [dz, ek]]; first | exact xbT (by omega) | exact xbF (by omega)) rfl rfl rfl rfl dX12_doesIt_85
    · refine xr_tableIn (off := 59) (tgt := 86) X dX12_doesIt_27 (by rw [ek]; decide) (by rw [ek]; decide) (by rw [ek]; decide) (by decide) ?_
      refine xr_iload X 0 dX12_doesIt_86 rfl ?_
      refine xr_iload_n X 4 dX12_doesIt_88 rfl rfl ?_
      refine xr_iload_n X 2 dX12_doesIt_89 rfl rfl ?_
      refine xr_ishr X dX12_doesIt_90 ?_
      refine xr_iconst (v := 1) X dX12_doesIt_91 (by decide) ?_
      refine xr_iand X dX12_doesIt_92 ?_
      refine xr_top (y := (xb (b2.testBit p))) (bt_n (by omega) (by omega)) ?_
      refine xr_iconst (v := 1) X dX12_doesIt_93 (by decide) ?_
      refine xr_icmp_ne (tgt := 101) X dX12_doesIt_94 (by decide) (fun c_94 => ?_) (fun c_94 => ?_)
      · have c_94 := xb_not1 c_94
        refine xr_iconst (v := 0) X dX12_doesIt_101 (by decide) ?_
        refine xr_top (y := (xb (b2.testBit p))) (by rw [c_94]; rfl) ?_
        refine xr_icmp_ne (tgt := 109) X dX12_doesIt_102 (by decide) (fun c_102 => ?_) (fun c_102 => ?_)
        · have c_102 := mt i32_eq.mpr c_102
          (try simp (disch := omega) only [nI_toInt, i32_add, i32_sub, i32_mul, i32_l, i64_add, i64_sub] at c_102)
          refine xr_iconst (v := 0) X dX12_doesIt_109 (by decide) ?_
          exact xr_zret X rfl rfl (by simp only [dz, ek]; simp_all [xb]) rfl rfl rfl rfl dX12_doesIt_110
        · have c_102 := i32_eq.mp c_102
          (try simp (disch := omega) only [nI_toInt, i32_add, i32_sub, i32_mul, i32_l, i64_add, i64_sub] at c_102)
          refine xr_iconst (v := 1) X dX12_doesIt_105 (by decide) ?_
          refine xr_goto (tgt := 110) X dX12_doesIt_106 (by decide) ?_
          exact xr_zret X rfl rfl (by simp only [dz, ek]; simp_all [xb]) rfl rfl rfl rfl dX12_doesIt_110
      · have c_94 := xb_is1.mp c_94
        refine xr_iconst (v := 1) X dX12_doesIt_97 (by decide) ?_
        refine xr_goto (tgt := 102) X dX12_doesIt_98 (by decide) ?_
        refine xr_top (y := (xb (b2.testBit p))) (by rw [c_94]; rfl) ?_
        refine xr_icmp_ne (tgt := 109) X dX12_doesIt_102 (by decide) (fun c_102 => ?_) (fun c_102 => ?_)
        · have c_102 := mt i32_eq.mpr c_102
          (try simp (disch := omega) only [nI_toInt, i32_add, i32_sub, i32_mul, i32_l, i64_add, i64_sub] at c_102)
          refine xr_iconst (v := 0) X dX12_doesIt_109 (by decide) ?_
          exact xr_zret X rfl rfl (by simp only [dz, ek]; simp_all [xb]) rfl rfl rfl rfl dX12_doesIt_110
        · have c_102 := i32_eq.mp c_102
          (try simp (disch := omega) only [nI_toInt, i32_add, i32_sub, i32_mul, i32_l, i64_add, i64_sub] at c_102)
          refine xr_iconst (v := 1) X dX12_doesIt_105 (by decide) ?_
          refine xr_goto (tgt := 110) X dX12_doesIt_106 (by decide) ?_
          exact xr_zret X rfl rfl (by simp only [dz, ek]; simp_all [xb]) rfl rfl rfl rfl dX12_doesIt_110
  · have c_11 := xb_is1.mp c_11
    refine xr_iconst (v := 1) X dX12_doesIt_14 (by decide) ?_
    refine xr_goto (tgt := 19) X dX12_doesIt_15 (by decide) ?_
    refine xr_top (y := (xb (l2.testBit (wh p)))) (by rw [c_11]; rfl) ?_
    refine xr_istore (lv' := [(4, .int (xb (l2.testBit (wh p)))), (0, .ref m), (1, .int (nI p)), (2, .int (nI l2)), (3, .int (nI b2))]) X dX12_doesIt_19 rfl rfl ?_
    refine xr_aload_n X 1 dX12_doesIt_21 rfl rfl ?_
    refine xr_iload_n X 2 dX12_doesIt_22 rfl rfl ?_
    refine xr_iconst (v := 0) X dX12_doesIt_23 (by decide) ?_
    refine xr_callV X hm rfl kw_1146 kw_1148 kw_37 cw_X12_of [.int (nI p), .int 0] (c_X12_of (p := p) (w := 0) hm ht (nI_toInt (by omega)) (by decide) (by omega)) rfl rfl rfl rfl rfl rfl rfl dX12_doesIt_24 ?_
    refine xr_top (y := nI (kd p)) (by rw [show 3 + 3 * p + 0 = 3 + 3 * p by omega]; exact (T.2.2.2.2.2.2 p (by omega)).1) ?_
    have hk9 : kd p = 1 ∨ kd p = 2 ∨ kd p = 3 ∨ kd p = 4 ∨ kd p = 5 := by have := T.2.2.2.2.2.2 p hp; omega
    rcases hk9 with ek | ek | ek | ek | ek
    · refine xr_tableOut (tgt := 111) X dX12_doesIt_27 (by rw [ek]; decide) (by decide) ?_
      refine xr_iload X 0 dX12_doesIt_111 rfl ?_
      exact xr_zret X rfl (xb_nar _) (by simp only [dz, ek]; simp_all [xb]) rfl rfl rfl rfl dX12_doesIt_113
    · refine xr_tableIn (off := 29) (tgt := 56) X dX12_doesIt_27 (by rw [ek]; decide) (by rw [ek]; decide) (by rw [ek]; decide) (by decide) ?_
      refine xr_iload X 0 dX12_doesIt_56 rfl ?_
      refine xr_if_ne (tgt := 65) X dX12_doesIt_58 (by decide) (fun c_58 => ?_) (fun c_58 => ?_)
      · have c_58 := xb_1.mp c_58
        refine xr_iconst (v := 0) X dX12_doesIt_65 (by decide) ?_
        exact xr_zret X rfl rfl (by simp only [dz, ek]; simp_all [xb]) rfl rfl rfl rfl dX12_doesIt_66
      · have c_58 := xb_0.mp c_58
        refine xr_iconst (v := 1) X dX12_doesIt_61 (by decide) ?_
        refine xr_goto (tgt := 66) X dX12_doesIt_62 (by decide) ?_
        exact xr_zret X rfl rfl (by simp only [dz, ek]; simp_all [xb]) rfl rfl rfl rfl dX12_doesIt_66
    · refine xr_tableIn (off := 84) (tgt := 111) X dX12_doesIt_27 (by rw [ek]; decide) (by rw [ek]; decide) (by rw [ek]; decide) (by decide) ?_
      refine xr_iload X 0 dX12_doesIt_111 rfl ?_
      exact xr_zret X rfl (xb_nar _) (by simp only [dz, ek]; simp_all [xb]) rfl rfl rfl rfl dX12_doesIt_113
    · refine xr_tableIn (off := 40) (tgt := 67) X dX12_doesIt_27 (by rw [ek]; decide) (by rw [ek]; decide) (by rw [ek]; decide) (by decide) ?_
      refine xr_iload_n X 3 dX12_doesIt_67 rfl rfl ?_
      refine xr_callS X kw_1150 kw_1151 cw_X12_bits [.int (nI l2)] (c_X12_bits (l2 := l2) (by omega)) rfl rfl rfl rfl rfl rfl rfl dX12_doesIt_68 ?_
      refine xr_aload_n X 1 dX12_doesIt_71 rfl rfl ?_
      refine xr_iload_n X 2 dX12_doesIt_72 rfl rfl ?_
      refine xr_iconst (v := 2) X dX12_doesIt_73 (by decide) ?_
      refine xr_callV X hm rfl kw_1146 kw_1148 kw_37 cw_X12_of [.int (nI p), .int 2] (c_X12_of (p := p) (w := 2) hm ht (nI_toInt (by omega)) (by decide) (by omega)) rfl rfl rfl rfl rfl rfl rfl dX12_doesIt_74 ?_
      refine xr_top (y := nI (mn p)) (by rw [show 3 + 3 * p + 2 = 5 + 3 * p by omega]; exact (T.2.2.2.2.2.2 p (by omega)).2.2.1) ?_
      refine xr_icmp_lt (tgt := 84) X dX12_doesIt_77 (by decide) (fun c_77 => ?_) (fun c_77 => ?_)
      · have c_77 := i32_lt.mp c_77
        (try simp (disch := omega) only [nI_toInt, i32_add, i32_sub, i32_mul, i32_l, i64_add, i64_sub, k32_6, k64_6] at c_77)
        refine xr_iconst (v := 0) X dX12_doesIt_84 (by decide) ?_
        exact xr_zret X rfl rfl (by rw [show dz kd wh mn p l2 b2 = decide (mn p ≤ bcn l2 6) by simp [dz, ek]]; first | exact xbT (by omega) | exact xbF (by omega)) rfl rfl rfl rfl dX12_doesIt_85
      · have c_77 := mt i32_lt.mpr c_77
        (try simp (disch := omega) only [nI_toInt, i32_add, i32_sub, i32_mul, i32_l, i64_add, i64_sub, k32_6, k64_6] at c_77)
        refine xr_iconst (v := 1) X dX12_doesIt_80 (by decide) ?_
        refine xr_goto (tgt := 85) X dX12_doesIt_81 (by decide) ?_
        exact xr_zret X rfl rfl (by rw [show dz kd wh mn p l2 b2 = decide (mn p ≤ bcn l2 6) by simp [dz, ek]]; first | exact xbT (by omega) | exact xbF (by omega)) rfl rfl rfl rfl dX12_doesIt_85
    · refine xr_tableIn (off := 59) (tgt := 86) X dX12_doesIt_27 (by rw [ek]; decide) (by rw [ek]; decide) (by rw [ek]; decide) (by decide) ?_
      refine xr_iload X 0 dX12_doesIt_86 rfl ?_
      refine xr_iload_n X 4 dX12_doesIt_88 rfl rfl ?_
      refine xr_iload_n X 2 dX12_doesIt_89 rfl rfl ?_
      refine xr_ishr X dX12_doesIt_90 ?_
      refine xr_iconst (v := 1) X dX12_doesIt_91 (by decide) ?_
      refine xr_iand X dX12_doesIt_92 ?_
      refine xr_top (y := (xb (b2.testBit p))) (bt_n (by omega) (by omega)) ?_
      refine xr_iconst (v := 1) X dX12_doesIt_93 (by decide) ?_
      refine xr_icmp_ne (tgt := 101) X dX12_doesIt_94 (by decide) (fun c_94 => ?_) (fun c_94 => ?_)
      · have c_94 := xb_not1 c_94
        refine xr_iconst (v := 0) X dX12_doesIt_101 (by decide) ?_
        refine xr_top (y := (xb (b2.testBit p))) (by rw [c_94]; rfl) ?_
        refine xr_icmp_ne (tgt := 109) X dX12_doesIt_102 (by decide) (fun c_102 => ?_) (fun c_102 => ?_)
        · have c_102 := mt i32_eq.mpr c_102
          (try simp (disch := omega) only [nI_toInt, i32_add, i32_sub, i32_mul, i32_l, i64_add, i64_sub] at c_102)
          refine xr_iconst (v := 0) X dX12_doesIt_109 (by decide) ?_
          exact xr_zret X rfl rfl (by simp only [dz, ek]; simp_all [xb]) rfl rfl rfl rfl dX12_doesIt_110
        · have c_102 := i32_eq.mp c_102
          (try simp (disch := omega) only [nI_toInt, i32_add, i32_sub, i32_mul, i32_l, i64_add, i64_sub] at c_102)
          refine xr_iconst (v := 1) X dX12_doesIt_105 (by decide) ?_
          refine xr_goto (tgt := 110) X dX12_doesIt_106 (by decide) ?_
          exact xr_zret X rfl rfl (by simp only [dz, ek]; simp_all [xb]) rfl rfl rfl rfl dX12_doesIt_110
      · have c_94 := xb_is1.mp c_94
        refine xr_iconst (v := 1) X dX12_doesIt_97 (by decide) ?_
        refine xr_goto (tgt := 102) X dX12_doesIt_98 (by decide) ?_
        refine xr_top (y := (xb (b2.testBit p))) (by rw [c_94]; rfl) ?_
        refine xr_icmp_ne (tgt := 109) X dX12_doesIt_102 (by decide) (fun c_102 => ?_) (fun c_102 => ?_)
        · have c_102 := mt i32_eq.mpr c_102
          (try simp (disch := omega) only [nI_toInt, i32_add, i32_sub, i32_mul, i32_l, i64_add, i64_sub] at c_102)
          refine xr_iconst (v := 0) X dX12_doesIt_109 (by decide) ?_
          exact xr_zret X rfl rfl (by simp only [dz, ek]; simp_all [xb]) rfl rfl rfl rfl dX12_doesIt_110
        · have c_102 := i32_eq.mp c_102
          (try simp (disch := omega) only [nI_toInt, i32_add, i32_sub, i32_mul, i32_l, i64_add, i64_sub] at c_102)
          refine xr_iconst (v := 1) X dX12_doesIt_105 (by decide) ?_
          refine xr_goto (tgt := 110) X dX12_doesIt_106 (by decide) ?_
          exact xr_zret X rfl rfl (by simp only [dz, ek]; simp_all [xb]) rfl rfl rfl rfl dX12_doesIt_110
end
