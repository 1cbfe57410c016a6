-- ===== PART A: goes FIRST, ahead of the names: the tables' words, and 'selects' of the private methods out of them =====
/-- a private method of a class that the tables say can be made, by its rows of tables_1 -/
def lw_okq (q : MethodName × Nat) : Prop := (q.1.cls ≠ "java/lang/invoke/MethodHandle" ∧ q.1.cls ≠ "java/lang/invoke/VarHandle") ∧ Cond.instantiable q.1.cls q.2 ∈ tables_1 ∧ Cond.privateMethod q.1 ∈ tables_1 ∧ Cond.instanceMethod q.1 ∈ tables_1
theorem lw_p0 : lw_okq (⟨"ParishUnion", "isPerson", "(I)Z"⟩, 10) := ⟨⟨by decide +kernel, by decide +kernel⟩, List.mem_of_getElem? (i := 22) (by decide +kernel), List.mem_of_getElem? (i := 537) (by decide +kernel), List.mem_of_getElem? (i := 538) (by decide +kernel)⟩
theorem lw_p1 : lw_okq (⟨"ParishUnion", "isRight", "(I)Z"⟩, 10) := ⟨⟨by decide +kernel, by decide +kernel⟩, List.mem_of_getElem? (i := 22) (by decide +kernel), List.mem_of_getElem? (i := 577) (by decide +kernel), List.mem_of_getElem? (i := 578) (by decide +kernel)⟩
theorem lw_p2 : lw_okq (⟨"ParishUnion", "isEntryCount", "(I)Z"⟩, 10) := ⟨⟨by decide +kernel, by decide +kernel⟩, List.mem_of_getElem? (i := 22) (by decide +kernel), List.mem_of_getElem? (i := 610) (by decide +kernel), List.mem_of_getElem? (i := 611) (by decide +kernel)⟩
theorem lw_p3 : lw_okq (⟨"ParishUnion$Bench", "isLawful", "(LParishUnion$Union;LParishUnion$Right;)Z"⟩, 8) := ⟨⟨by decide +kernel, by decide +kernel⟩, List.mem_of_getElem? (i := 414) (by decide +kernel), List.mem_of_getElem? (i := 629) (by decide +kernel), List.mem_of_getElem? (i := 630) (by decide +kernel)⟩
theorem lw_p4 : lw_okq (⟨"ParishUnion$Bench", "lastRight", "(LParishUnion$Union;IIJ)I"⟩, 8) := ⟨⟨by decide +kernel, by decide +kernel⟩, List.mem_of_getElem? (i := 414) (by decide +kernel), List.mem_of_getElem? (i := 645) (by decide +kernel), List.mem_of_getElem? (i := 646) (by decide +kernel)⟩
theorem lw_p5 : lw_okq (⟨"ParishUnion$Bench", "note", "(II)V"⟩, 8) := ⟨⟨by decide +kernel, by decide +kernel⟩, List.mem_of_getElem? (i := 414) (by decide +kernel), List.mem_of_getElem? (i := 658) (by decide +kernel), List.mem_of_getElem? (i := 659) (by decide +kernel)⟩
theorem lw_p6 : lw_okq (⟨"ParishUnion", "readTape", "(I)I"⟩, 10) := ⟨⟨by decide +kernel, by decide +kernel⟩, List.mem_of_getElem? (i := 22) (by decide +kernel), List.mem_of_getElem? (i := 680) (by decide +kernel), List.mem_of_getElem? (i := 681) (by decide +kernel)⟩
theorem lw_p7 : lw_okq (⟨"ParishUnion$Reader", "readClause", "(LParishUnion$Act;)Z"⟩, 5) := ⟨⟨by decide +kernel, by decide +kernel⟩, List.mem_of_getElem? (i := 446) (by decide +kernel), List.mem_of_getElem? (i := 695) (by decide +kernel), List.mem_of_getElem? (i := 696) (by decide +kernel)⟩
theorem lw_p8 : lw_okq (⟨"ParishUnion$Reader", "readWord", "()I"⟩, 5) := ⟨⟨by decide +kernel, by decide +kernel⟩, List.mem_of_getElem? (i := 446) (by decide +kernel), List.mem_of_getElem? (i := 699) (by decide +kernel), List.mem_of_getElem? (i := 700) (by decide +kernel)⟩
theorem lw_p9 : lw_okq (⟨"ParishUnion$Reader", "skip", "(C)Z"⟩, 5) := ⟨⟨by decide +kernel, by decide +kernel⟩, List.mem_of_getElem? (i := 446) (by decide +kernel), List.mem_of_getElem? (i := 765) (by decide +kernel), List.mem_of_getElem? (i := 766) (by decide +kernel)⟩
theorem lw_p10 : lw_okq (⟨"ParishUnion$Reader", "readPart", "(I)I"⟩, 5) := ⟨⟨by decide +kernel, by decide +kernel⟩, List.mem_of_getElem? (i := 446) (by decide +kernel), List.mem_of_getElem? (i := 769) (by decide +kernel), List.mem_of_getElem? (i := 770) (by decide +kernel)⟩
theorem lw_p11 : lw_okq (⟨"ParishUnion$Reader", "readSign", "(Ljava/lang/String;)I"⟩, 5) := ⟨⟨by decide +kernel, by decide +kernel⟩, List.mem_of_getElem? (i := 446) (by decide +kernel), List.mem_of_getElem? (i := 774) (by decide +kernel), List.mem_of_getElem? (i := 775) (by decide +kernel)⟩
theorem lw_p12 : lw_okq (⟨"ParishUnion$Reader", "readNumber", "(I)I"⟩, 5) := ⟨⟨by decide +kernel, by decide +kernel⟩, List.mem_of_getElem? (i := 446) (by decide +kernel), List.mem_of_getElem? (i := 780) (by decide +kernel), List.mem_of_getElem? (i := 781) (by decide +kernel)⟩
theorem lw_p13 : lw_okq (⟨"ParishUnion$Reader", "readCondition", "()Z"⟩, 5) := ⟨⟨by decide +kernel, by decide +kernel⟩, List.mem_of_getElem? (i := 446) (by decide +kernel), List.mem_of_getElem? (i := 789) (by decide +kernel), List.mem_of_getElem? (i := 790) (by decide +kernel)⟩
theorem lw_p14 : lw_okq (⟨"ParishUnion$Reader", "readFact", "()Z"⟩, 5) := ⟨⟨by decide +kernel, by decide +kernel⟩, List.mem_of_getElem? (i := 446) (by decide +kernel), List.mem_of_getElem? (i := 793) (by decide +kernel), List.mem_of_getElem? (i := 794) (by decide +kernel)⟩
theorem lw_p15 : lw_okq (⟨"ParishUnion$Reader", "endNots", "()V"⟩, 5) := ⟨⟨by decide +kernel, by decide +kernel⟩, List.mem_of_getElem? (i := 446) (by decide +kernel), List.mem_of_getElem? (i := 800) (by decide +kernel), List.mem_of_getElem? (i := 801) (by decide +kernel)⟩
def lw_privs_1 : List (MethodName × Nat) := [(⟨"ParishUnion", "isPerson", "(I)Z"⟩, 10), (⟨"ParishUnion", "isRight", "(I)Z"⟩, 10), (⟨"ParishUnion", "isEntryCount", "(I)Z"⟩, 10), (⟨"ParishUnion$Bench", "isLawful", "(LParishUnion$Union;LParishUnion$Right;)Z"⟩, 8), (⟨"ParishUnion$Bench", "lastRight", "(LParishUnion$Union;IIJ)I"⟩, 8), (⟨"ParishUnion$Bench", "note", "(II)V"⟩, 8), (⟨"ParishUnion", "readTape", "(I)I"⟩, 10), (⟨"ParishUnion$Reader", "readClause", "(LParishUnion$Act;)Z"⟩, 5), (⟨"ParishUnion$Reader", "readWord", "()I"⟩, 5), (⟨"ParishUnion$Reader", "skip", "(C)Z"⟩, 5), (⟨"ParishUnion$Reader", "readPart", "(I)I"⟩, 5), (⟨"ParishUnion$Reader", "readSign", "(Ljava/lang/String;)I"⟩, 5), (⟨"ParishUnion$Reader", "readNumber", "(I)I"⟩, 5), (⟨"ParishUnion$Reader", "readCondition", "()Z"⟩, 5), (⟨"ParishUnion$Reader", "readFact", "()Z"⟩, 5), (⟨"ParishUnion$Reader", "endNots", "()V"⟩, 5)]
theorem lw_r1 : ∀ q ∈ lw_privs_1, lw_okq q := List.forall_mem_cons.mpr ⟨lw_p0, List.forall_mem_cons.mpr ⟨lw_p1, List.forall_mem_cons.mpr ⟨lw_p2, List.forall_mem_cons.mpr ⟨lw_p3, List.forall_mem_cons.mpr ⟨lw_p4, List.forall_mem_cons.mpr ⟨lw_p5, List.forall_mem_cons.mpr ⟨lw_p6, List.forall_mem_cons.mpr ⟨lw_p7, List.forall_mem_cons.mpr ⟨lw_p8, List.forall_mem_cons.mpr ⟨lw_p9, List.forall_mem_cons.mpr ⟨lw_p10, List.forall_mem_cons.mpr ⟨lw_p11, List.forall_mem_cons.mpr ⟨lw_p12, List.forall_mem_cons.mpr ⟨lw_p13, List.forall_mem_cons.mpr ⟨lw_p14, List.forall_mem_cons.mpr ⟨lw_p15, fun _ h => absurd h List.not_mem_nil⟩⟩⟩⟩⟩⟩⟩⟩⟩⟩⟩⟩⟩⟩⟩⟩
theorem lw_p16 : lw_okq (⟨"ParishUnion$Reader", "closeOne", "()V"⟩, 5) := ⟨⟨by decide +kernel, by decide +kernel⟩, List.mem_of_getElem? (i := 446) (by decide +kernel), List.mem_of_getElem? (i := 804) (by decide +kernel), List.mem_of_getElem? (i := 805) (by decide +kernel)⟩
theorem lw_p17 : lw_okq (⟨"ParishUnion", "findHomes", "()V"⟩, 10) := ⟨⟨by decide +kernel, by decide +kernel⟩, List.mem_of_getElem? (i := 22) (by decide +kernel), List.mem_of_getElem? (i := 818) (by decide +kernel), List.mem_of_getElem? (i := 819) (by decide +kernel)⟩
theorem lw_p18 : lw_okq (⟨"ParishUnion$Act", "isSo", "(ILParishUnion$Person;II)Z"⟩, 8) := ⟨⟨by decide +kernel, by decide +kernel⟩, List.mem_of_getElem? (i := 306) (by decide +kernel), List.mem_of_getElem? (i := 830) (by decide +kernel), List.mem_of_getElem? (i := 831) (by decide +kernel)⟩
theorem lw_p19 : lw_okq (⟨"ParishUnion$Act", "compares", "(II)Z"⟩, 8) := ⟨⟨by decide +kernel, by decide +kernel⟩, List.mem_of_getElem? (i := 306) (by decide +kernel), List.mem_of_getElem? (i := 838) (by decide +kernel), List.mem_of_getElem? (i := 839) (by decide +kernel)⟩
theorem lw_p20 : lw_okq (⟨"ParishUnion", "isOrder", "(I)Z"⟩, 10) := ⟨⟨by decide +kernel, by decide +kernel⟩, List.mem_of_getElem? (i := 22) (by decide +kernel), List.mem_of_getElem? (i := 860) (by decide +kernel), List.mem_of_getElem? (i := 861) (by decide +kernel)⟩
theorem lw_p21 : lw_okq (⟨"ParishUnion", "stands", "(II)Z"⟩, 10) := ⟨⟨by decide +kernel, by decide +kernel⟩, List.mem_of_getElem? (i := 22) (by decide +kernel), List.mem_of_getElem? (i := 864) (by decide +kernel), List.mem_of_getElem? (i := 865) (by decide +kernel)⟩
theorem lw_p22 : lw_okq (⟨"ParishUnion$Union", "growHungry", "()V"⟩, 16) := ⟨⟨by decide +kernel, by decide +kernel⟩, List.mem_of_getElem? (i := 30) (by decide +kernel), List.mem_of_getElem? (i := 915) (by decide +kernel), List.mem_of_getElem? (i := 916) (by decide +kernel)⟩
theorem lw_p23 : lw_okq (⟨"ParishUnion$Union", "askAtHouse", "()V"⟩, 16) := ⟨⟨by decide +kernel, by decide +kernel⟩, List.mem_of_getElem? (i := 30) (by decide +kernel), List.mem_of_getElem? (i := 930) (by decide +kernel), List.mem_of_getElem? (i := 931) (by decide +kernel)⟩
theorem lw_p24 : lw_okq (⟨"ParishUnion$Union", "eat", "()V"⟩, 16) := ⟨⟨by decide +kernel, by decide +kernel⟩, List.mem_of_getElem? (i := 30) (by decide +kernel), List.mem_of_getElem? (i := 941) (by decide +kernel), List.mem_of_getElem? (i := 942) (by decide +kernel)⟩
theorem lw_p25 : lw_okq (⟨"ParishUnion$Union", "fallIll", "()V"⟩, 16) := ⟨⟨by decide +kernel, by decide +kernel⟩, List.mem_of_getElem? (i := 30) (by decide +kernel), List.mem_of_getElem? (i := 945) (by decide +kernel), List.mem_of_getElem? (i := 946) (by decide +kernel)⟩
theorem lw_p26 : lw_okq (⟨"ParishUnion$Union", "die", "()V"⟩, 16) := ⟨⟨by decide +kernel, by decide +kernel⟩, List.mem_of_getElem? (i := 30) (by decide +kernel), List.mem_of_getElem? (i := 949) (by decide +kernel), List.mem_of_getElem? (i := 950) (by decide +kernel)⟩
theorem lw_p27 : lw_okq (⟨"ParishUnion$Union", "leaveHouse", "()V"⟩, 16) := ⟨⟨by decide +kernel, by decide +kernel⟩, List.mem_of_getElem? (i := 30) (by decide +kernel), List.mem_of_getElem? (i := 953) (by decide +kernel), List.mem_of_getElem? (i := 954) (by decide +kernel)⟩
theorem lw_p28 : lw_okq (⟨"ParishUnion", "isGone", "(I)Z"⟩, 10) := ⟨⟨by decide +kernel, by decide +kernel⟩, List.mem_of_getElem? (i := 22) (by decide +kernel), List.mem_of_getElem? (i := 972) (by decide +kernel), List.mem_of_getElem? (i := 973) (by decide +kernel)⟩
theorem lw_p29 : lw_okq (⟨"ParishUnion$Past", "mark", "(II)J"⟩, 2) := ⟨⟨by decide +kernel, by decide +kernel⟩, List.mem_of_getElem? (i := 137) (by decide +kernel), List.mem_of_getElem? (i := 989) (by decide +kernel), List.mem_of_getElem? (i := 990) (by decide +kernel)⟩
theorem lw_p30 : lw_okq (⟨"ParishUnion", "shareOut", "(I)V"⟩, 10) := ⟨⟨by decide +kernel, by decide +kernel⟩, List.mem_of_getElem? (i := 22) (by decide +kernel), List.mem_of_getElem? (i := 1016) (by decide +kernel), List.mem_of_getElem? (i := 1017) (by decide +kernel)⟩
theorem lw_p31 : lw_okq (⟨"ParishUnion", "weigh", "(I)V"⟩, 10) := ⟨⟨by decide +kernel, by decide +kernel⟩, List.mem_of_getElem? (i := 22) (by decide +kernel), List.mem_of_getElem? (i := 1020) (by decide +kernel), List.mem_of_getElem? (i := 1021) (by decide +kernel)⟩
def lw_privs_2 : List (MethodName × Nat) := [(⟨"ParishUnion$Reader", "closeOne", "()V"⟩, 5), (⟨"ParishUnion", "findHomes", "()V"⟩, 10), (⟨"ParishUnion$Act", "isSo", "(ILParishUnion$Person;II)Z"⟩, 8), (⟨"ParishUnion$Act", "compares", "(II)Z"⟩, 8), (⟨"ParishUnion", "isOrder", "(I)Z"⟩, 10), (⟨"ParishUnion", "stands", "(II)Z"⟩, 10), (⟨"ParishUnion$Union", "growHungry", "()V"⟩, 16), (⟨"ParishUnion$Union", "askAtHouse", "()V"⟩, 16), (⟨"ParishUnion$Union", "eat", "()V"⟩, 16), (⟨"ParishUnion$Union", "fallIll", "()V"⟩, 16), (⟨"ParishUnion$Union", "die", "()V"⟩, 16), (⟨"ParishUnion$Union", "leaveHouse", "()V"⟩, 16), (⟨"ParishUnion", "isGone", "(I)Z"⟩, 10), (⟨"ParishUnion$Past", "mark", "(II)J"⟩, 2), (⟨"ParishUnion", "shareOut", "(I)V"⟩, 10), (⟨"ParishUnion", "weigh", "(I)V"⟩, 10)]
theorem lw_r2 : ∀ q ∈ lw_privs_2, lw_okq q := List.forall_mem_cons.mpr ⟨lw_p16, List.forall_mem_cons.mpr ⟨lw_p17, List.forall_mem_cons.mpr ⟨lw_p18, List.forall_mem_cons.mpr ⟨lw_p19, List.forall_mem_cons.mpr ⟨lw_p20, List.forall_mem_cons.mpr ⟨lw_p21, List.forall_mem_cons.mpr ⟨lw_p22, List.forall_mem_cons.mpr ⟨lw_p23, List.forall_mem_cons.mpr ⟨lw_p24, List.forall_mem_cons.mpr ⟨lw_p25, List.forall_mem_cons.mpr ⟨lw_p26, List.forall_mem_cons.mpr ⟨lw_p27, List.forall_mem_cons.mpr ⟨lw_p28, List.forall_mem_cons.mpr ⟨lw_p29, List.forall_mem_cons.mpr ⟨lw_p30, List.forall_mem_cons.mpr ⟨lw_p31, fun _ h => absurd h List.not_mem_nil⟩⟩⟩⟩⟩⟩⟩⟩⟩⟩⟩⟩⟩⟩⟩⟩
theorem lw_p32 : lw_okq (⟨"ParishUnion", "greatestRest", "()I"⟩, 10) := ⟨⟨by decide +kernel, by decide +kernel⟩, List.mem_of_getElem? (i := 22) (by decide +kernel), List.mem_of_getElem? (i := 1031) (by decide +kernel), List.mem_of_getElem? (i := 1032) (by decide +kernel)⟩
theorem lw_p33 : lw_okq (⟨"ParishUnion", "rowsCanBeTried", "()Z"⟩, 10) := ⟨⟨by decide +kernel, by decide +kernel⟩, List.mem_of_getElem? (i := 22) (by decide +kernel), List.mem_of_getElem? (i := 1110) (by decide +kernel), List.mem_of_getElem? (i := 1111) (by decide +kernel)⟩
theorem lw_p34 : lw_okq (⟨"ParishUnion", "rowFits", "(I)Z"⟩, 10) := ⟨⟨by decide +kernel, by decide +kernel⟩, List.mem_of_getElem? (i := 22) (by decide +kernel), List.mem_of_getElem? (i := 1114) (by decide +kernel), List.mem_of_getElem? (i := 1115) (by decide +kernel)⟩
theorem lw_p35 : lw_okq (⟨"ParishUnion", "rememberBefore", "()V"⟩, 10) := ⟨⟨by decide +kernel, by decide +kernel⟩, List.mem_of_getElem? (i := 22) (by decide +kernel), List.mem_of_getElem? (i := 1118) (by decide +kernel), List.mem_of_getElem? (i := 1119) (by decide +kernel)⟩
theorem lw_p36 : lw_okq (⟨"ParishUnion", "holdsOut", "(I)Z"⟩, 10) := ⟨⟨by decide +kernel, by decide +kernel⟩, List.mem_of_getElem? (i := 22) (by decide +kernel), List.mem_of_getElem? (i := 1136) (by decide +kernel), List.mem_of_getElem? (i := 1137) (by decide +kernel)⟩
theorem lw_p37 : lw_okq (⟨"ParishUnion", "bringBack", "(I)V"⟩, 10) := ⟨⟨by decide +kernel, by decide +kernel⟩, List.mem_of_getElem? (i := 22) (by decide +kernel), List.mem_of_getElem? (i := 1149) (by decide +kernel), List.mem_of_getElem? (i := 1150) (by decide +kernel)⟩
theorem lw_p38 : lw_okq (⟨"ParishUnion", "sumOfTry", "(II)I"⟩, 10) := ⟨⟨by decide +kernel, by decide +kernel⟩, List.mem_of_getElem? (i := 22) (by decide +kernel), List.mem_of_getElem? (i := 1157) (by decide +kernel), List.mem_of_getElem? (i := 1158) (by decide +kernel)⟩
theorem lw_p39 : lw_okq (⟨"ParishUnionModel", "farOf", "(II)I"⟩, 24) := ⟨⟨by decide +kernel, by decide +kernel⟩, List.mem_of_getElem? (i := 1222) (by decide +kernel), List.mem_of_getElem? (i := 1314) (by decide +kernel), List.mem_of_getElem? (i := 1315) (by decide +kernel)⟩
theorem lw_p40 : lw_okq (⟨"ParishUnionModel", "isPerson", "(I)Z"⟩, 24) := ⟨⟨by decide +kernel, by decide +kernel⟩, List.mem_of_getElem? (i := 1222) (by decide +kernel), List.mem_of_getElem? (i := 1326) (by decide +kernel), List.mem_of_getElem? (i := 1327) (by decide +kernel)⟩
theorem lw_p41 : lw_okq (⟨"ParishUnionModel", "isRightWeek", "(I)Z"⟩, 24) := ⟨⟨by decide +kernel, by decide +kernel⟩, List.mem_of_getElem? (i := 1222) (by decide +kernel), List.mem_of_getElem? (i := 1338) (by decide +kernel), List.mem_of_getElem? (i := 1339) (by decide +kernel)⟩
theorem lw_p42 : lw_okq (⟨"ParishUnionModel", "tells", "(IIIIIZ)I"⟩, 24) := ⟨⟨by decide +kernel, by decide +kernel⟩, List.mem_of_getElem? (i := 1222) (by decide +kernel), List.mem_of_getElem? (i := 1342) (by decide +kernel), List.mem_of_getElem? (i := 1343) (by decide +kernel)⟩
theorem lw_p43 : lw_okq (⟨"ParishUnionModel", "enter", "(II)V"⟩, 24) := ⟨⟨by decide +kernel, by decide +kernel⟩, List.mem_of_getElem? (i := 1222) (by decide +kernel), List.mem_of_getElem? (i := 1346) (by decide +kernel), List.mem_of_getElem? (i := 1347) (by decide +kernel)⟩
theorem lw_p44 : lw_okq (⟨"ParishUnionModel", "looks", "(I)V"⟩, 24) := ⟨⟨by decide +kernel, by decide +kernel⟩, List.mem_of_getElem? (i := 1222) (by decide +kernel), List.mem_of_getElem? (i := 1366) (by decide +kernel), List.mem_of_getElem? (i := 1367) (by decide +kernel)⟩
theorem lw_p45 : lw_okq (⟨"ParishUnionModel", "counted", "(I)I"⟩, 24) := ⟨⟨by decide +kernel, by decide +kernel⟩, List.mem_of_getElem? (i := 1222) (by decide +kernel), List.mem_of_getElem? (i := 1374) (by decide +kernel), List.mem_of_getElem? (i := 1375) (by decide +kernel)⟩
theorem lw_p46 : lw_okq (⟨"ParishUnionModel", "isBy", "(I)Z"⟩, 24) := ⟨⟨by decide +kernel, by decide +kernel⟩, List.mem_of_getElem? (i := 1222) (by decide +kernel), List.mem_of_getElem? (i := 1382) (by decide +kernel), List.mem_of_getElem? (i := 1383) (by decide +kernel)⟩
theorem lw_p47 : lw_okq (⟨"ParishUnionModel", "byBench", "(IIII)I"⟩, 24) := ⟨⟨by decide +kernel, by decide +kernel⟩, List.mem_of_getElem? (i := 1222) (by decide +kernel), List.mem_of_getElem? (i := 1386) (by decide +kernel), List.mem_of_getElem? (i := 1387) (by decide +kernel)⟩
def lw_privs_3 : List (MethodName × Nat) := [(⟨"ParishUnion", "greatestRest", "()I"⟩, 10), (⟨"ParishUnion", "rowsCanBeTried", "()Z"⟩, 10), (⟨"ParishUnion", "rowFits", "(I)Z"⟩, 10), (⟨"ParishUnion", "rememberBefore", "()V"⟩, 10), (⟨"ParishUnion", "holdsOut", "(I)Z"⟩, 10), (⟨"ParishUnion", "bringBack", "(I)V"⟩, 10), (⟨"ParishUnion", "sumOfTry", "(II)I"⟩, 10), (⟨"ParishUnionModel", "farOf", "(II)I"⟩, 24), (⟨"ParishUnionModel", "isPerson", "(I)Z"⟩, 24), (⟨"ParishUnionModel", "isRightWeek", "(I)Z"⟩, 24), (⟨"ParishUnionModel", "tells", "(IIIIIZ)I"⟩, 24), (⟨"ParishUnionModel", "enter", "(II)V"⟩, 24), (⟨"ParishUnionModel", "looks", "(I)V"⟩, 24), (⟨"ParishUnionModel", "counted", "(I)I"⟩, 24), (⟨"ParishUnionModel", "isBy", "(I)Z"⟩, 24), (⟨"ParishUnionModel", "byBench", "(IIII)I"⟩, 24)]
theorem lw_r3 : ∀ q ∈ lw_privs_3, lw_okq q := List.forall_mem_cons.mpr ⟨lw_p32, List.forall_mem_cons.mpr ⟨lw_p33, List.forall_mem_cons.mpr ⟨lw_p34, List.forall_mem_cons.mpr ⟨lw_p35, List.forall_mem_cons.mpr ⟨lw_p36, List.forall_mem_cons.mpr ⟨lw_p37, List.forall_mem_cons.mpr ⟨lw_p38, List.forall_mem_cons.mpr ⟨lw_p39, List.forall_mem_cons.mpr ⟨lw_p40, List.forall_mem_cons.mpr ⟨lw_p41, List.forall_mem_cons.mpr ⟨lw_p42, List.forall_mem_cons.mpr ⟨lw_p43, List.forall_mem_cons.mpr ⟨lw_p44, List.forall_mem_cons.mpr ⟨lw_p45, List.forall_mem_cons.mpr ⟨lw_p46, List.forall_mem_cons.mpr ⟨lw_p47, fun _ h => absurd h List.not_mem_nil⟩⟩⟩⟩⟩⟩⟩⟩⟩⟩⟩⟩⟩⟩⟩⟩
theorem lw_p48 : lw_okq (⟨"ParishUnionModel", "whose", "(II)I"⟩, 24) := ⟨⟨by decide +kernel, by decide +kernel⟩, List.mem_of_getElem? (i := 1222) (by decide +kernel), List.mem_of_getElem? (i := 1390) (by decide +kernel), List.mem_of_getElem? (i := 1391) (by decide +kernel)⟩
theorem lw_p49 : lw_okq (⟨"ParishUnionModel", "law", "(II)I"⟩, 24) := ⟨⟨by decide +kernel, by decide +kernel⟩, List.mem_of_getElem? (i := 1222) (by decide +kernel), List.mem_of_getElem? (i := 1394) (by decide +kernel), List.mem_of_getElem? (i := 1395) (by decide +kernel)⟩
theorem lw_p50 : lw_okq (⟨"ParishUnionModel", "actOf", "(II)I"⟩, 24) := ⟨⟨by decide +kernel, by decide +kernel⟩, List.mem_of_getElem? (i := 1222) (by decide +kernel), List.mem_of_getElem? (i := 1398) (by decide +kernel), List.mem_of_getElem? (i := 1399) (by decide +kernel)⟩
theorem lw_p51 : lw_okq (⟨"ParishUnionModel", "has", "(II)Z"⟩, 24) := ⟨⟨by decide +kernel, by decide +kernel⟩, List.mem_of_getElem? (i := 1222) (by decide +kernel), List.mem_of_getElem? (i := 1402) (by decide +kernel), List.mem_of_getElem? (i := 1403) (by decide +kernel)⟩
theorem lw_p52 : lw_okq (⟨"ParishUnionModel", "counts", "(I)Z"⟩, 24) := ⟨⟨by decide +kernel, by decide +kernel⟩, List.mem_of_getElem? (i := 1222) (by decide +kernel), List.mem_of_getElem? (i := 1409) (by decide +kernel), List.mem_of_getElem? (i := 1410) (by decide +kernel)⟩
theorem lw_p53 : lw_okq (⟨"ParishUnionModel", "gives", "(II)I"⟩, 24) := ⟨⟨by decide +kernel, by decide +kernel⟩, List.mem_of_getElem? (i := 1222) (by decide +kernel), List.mem_of_getElem? (i := 1413) (by decide +kernel), List.mem_of_getElem? (i := 1414) (by decide +kernel)⟩
theorem lw_p54 : lw_okq (⟨"ParishUnionModel", "maybeOf", "(IIIII)I"⟩, 24) := ⟨⟨by decide +kernel, by decide +kernel⟩, List.mem_of_getElem? (i := 1222) (by decide +kernel), List.mem_of_getElem? (i := 1421) (by decide +kernel), List.mem_of_getElem? (i := 1422) (by decide +kernel)⟩
theorem lw_p55 : lw_okq (⟨"ParishUnionModel", "readsAct", "(II)Z"⟩, 24) := ⟨⟨by decide +kernel, by decide +kernel⟩, List.mem_of_getElem? (i := 1222) (by decide +kernel), List.mem_of_getElem? (i := 1440) (by decide +kernel), List.mem_of_getElem? (i := 1441) (by decide +kernel)⟩
theorem lw_p56 : lw_okq (⟨"ParishUnionModel", "reads", "(I)V"⟩, 24) := ⟨⟨by decide +kernel, by decide +kernel⟩, List.mem_of_getElem? (i := 1222) (by decide +kernel), List.mem_of_getElem? (i := 1444) (by decide +kernel), List.mem_of_getElem? (i := 1445) (by decide +kernel)⟩
theorem lw_p57 : lw_okq (⟨"ParishUnionModel", "oneWord", "()I"⟩, 24) := ⟨⟨by decide +kernel, by decide +kernel⟩, List.mem_of_getElem? (i := 1222) (by decide +kernel), List.mem_of_getElem? (i := 1448) (by decide +kernel), List.mem_of_getElem? (i := 1449) (by decide +kernel)⟩
theorem lw_p58 : lw_okq (⟨"ParishUnionModel", "here", "()I"⟩, 24) := ⟨⟨by decide +kernel, by decide +kernel⟩, List.mem_of_getElem? (i := 1222) (by decide +kernel), List.mem_of_getElem? (i := 1467) (by decide +kernel), List.mem_of_getElem? (i := 1468) (by decide +kernel)⟩
theorem lw_p59 : lw_okq (⟨"ParishUnionModel", "letter", "(III)I"⟩, 24) := ⟨⟨by decide +kernel, by decide +kernel⟩, List.mem_of_getElem? (i := 1222) (by decide +kernel), List.mem_of_getElem? (i := 1471) (by decide +kernel), List.mem_of_getElem? (i := 1472) (by decide +kernel)⟩
theorem lw_p60 : lw_okq (⟨"ParishUnionModel", "number", "(I)I"⟩, 24) := ⟨⟨by decide +kernel, by decide +kernel⟩, List.mem_of_getElem? (i := 1222) (by decide +kernel), List.mem_of_getElem? (i := 1475) (by decide +kernel), List.mem_of_getElem? (i := 1476) (by decide +kernel)⟩
theorem lw_p61 : lw_okq (⟨"ParishUnionModel", "isDigit", "()Z"⟩, 24) := ⟨⟨by decide +kernel, by decide +kernel⟩, List.mem_of_getElem? (i := 1222) (by decide +kernel), List.mem_of_getElem? (i := 1479) (by decide +kernel), List.mem_of_getElem? (i := 1480) (by decide +kernel)⟩
theorem lw_p62 : lw_okq (⟨"ParishUnionModel", "must", "(I)V"⟩, 24) := ⟨⟨by decide +kernel, by decide +kernel⟩, List.mem_of_getElem? (i := 1222) (by decide +kernel), List.mem_of_getElem? (i := 1483) (by decide +kernel), List.mem_of_getElem? (i := 1484) (by decide +kernel)⟩
theorem lw_p63 : lw_okq (⟨"ParishUnionModel", "some", "()Z"⟩, 24) := ⟨⟨by decide +kernel, by decide +kernel⟩, List.mem_of_getElem? (i := 1222) (by decide +kernel), List.mem_of_getElem? (i := 1487) (by decide +kernel), List.mem_of_getElem? (i := 1488) (by decide +kernel)⟩
def lw_privs_4 : List (MethodName × Nat) := [(⟨"ParishUnionModel", "whose", "(II)I"⟩, 24), (⟨"ParishUnionModel", "law", "(II)I"⟩, 24), (⟨"ParishUnionModel", "actOf", "(II)I"⟩, 24), (⟨"ParishUnionModel", "has", "(II)Z"⟩, 24), (⟨"ParishUnionModel", "counts", "(I)Z"⟩, 24), (⟨"ParishUnionModel", "gives", "(II)I"⟩, 24), (⟨"ParishUnionModel", "maybeOf", "(IIIII)I"⟩, 24), (⟨"ParishUnionModel", "readsAct", "(II)Z"⟩, 24), (⟨"ParishUnionModel", "reads", "(I)V"⟩, 24), (⟨"ParishUnionModel", "oneWord", "()I"⟩, 24), (⟨"ParishUnionModel", "here", "()I"⟩, 24), (⟨"ParishUnionModel", "letter", "(III)I"⟩, 24), (⟨"ParishUnionModel", "number", "(I)I"⟩, 24), (⟨"ParishUnionModel", "isDigit", "()Z"⟩, 24), (⟨"ParishUnionModel", "must", "(I)V"⟩, 24), (⟨"ParishUnionModel", "some", "()Z"⟩, 24)]
theorem lw_r4 : ∀ q ∈ lw_privs_4, lw_okq q := List.forall_mem_cons.mpr ⟨lw_p48, List.forall_mem_cons.mpr ⟨lw_p49, List.forall_mem_cons.mpr ⟨lw_p50, List.forall_mem_cons.mpr ⟨lw_p51, List.forall_mem_cons.mpr ⟨lw_p52, List.forall_mem_cons.mpr ⟨lw_p53, List.forall_mem_cons.mpr ⟨lw_p54, List.forall_mem_cons.mpr ⟨lw_p55, List.forall_mem_cons.mpr ⟨lw_p56, List.forall_mem_cons.mpr ⟨lw_p57, List.forall_mem_cons.mpr ⟨lw_p58, List.forall_mem_cons.mpr ⟨lw_p59, List.forall_mem_cons.mpr ⟨lw_p60, List.forall_mem_cons.mpr ⟨lw_p61, List.forall_mem_cons.mpr ⟨lw_p62, List.forall_mem_cons.mpr ⟨lw_p63, fun _ h => absurd h List.not_mem_nil⟩⟩⟩⟩⟩⟩⟩⟩⟩⟩⟩⟩⟩⟩⟩⟩
theorem lw_p64 : lw_okq (⟨"ParishUnionModel", "every", "()Z"⟩, 24) := ⟨⟨by decide +kernel, by decide +kernel⟩, List.mem_of_getElem? (i := 1222) (by decide +kernel), List.mem_of_getElem? (i := 1491) (by decide +kernel), List.mem_of_getElem? (i := 1492) (by decide +kernel)⟩
theorem lw_p65 : lw_okq (⟨"ParishUnionModel", "factor", "()Z"⟩, 24) := ⟨⟨by decide +kernel, by decide +kernel⟩, List.mem_of_getElem? (i := 1222) (by decide +kernel), List.mem_of_getElem? (i := 1495) (by decide +kernel), List.mem_of_getElem? (i := 1496) (by decide +kernel)⟩
theorem lw_p66 : lw_okq (⟨"ParishUnionModel", "isAtOwn", "()Z"⟩, 24) := ⟨⟨by decide +kernel, by decide +kernel⟩, List.mem_of_getElem? (i := 1222) (by decide +kernel), List.mem_of_getElem? (i := 1499) (by decide +kernel), List.mem_of_getElem? (i := 1500) (by decide +kernel)⟩
theorem lw_p67 : lw_okq (⟨"ParishUnionModel", "stands", "(I)I"⟩, 24) := ⟨⟨by decide +kernel, by decide +kernel⟩, List.mem_of_getElem? (i := 1222) (by decide +kernel), List.mem_of_getElem? (i := 1503) (by decide +kernel), List.mem_of_getElem? (i := 1504) (by decide +kernel)⟩
theorem lw_p68 : lw_okq (⟨"ParishUnionModel", "ageOf", "(II)I"⟩, 24) := ⟨⟨by decide +kernel, by decide +kernel⟩, List.mem_of_getElem? (i := 1222) (by decide +kernel), List.mem_of_getElem? (i := 1507) (by decide +kernel), List.mem_of_getElem? (i := 1508) (by decide +kernel)⟩
theorem lw_p69 : lw_okq (⟨"ParishUnionModel", "manyOf", "(II)I"⟩, 24) := ⟨⟨by decide +kernel, by decide +kernel⟩, List.mem_of_getElem? (i := 1222) (by decide +kernel), List.mem_of_getElem? (i := 1515) (by decide +kernel), List.mem_of_getElem? (i := 1516) (by decide +kernel)⟩
theorem lw_p70 : lw_okq (⟨"ParishUnionModel", "wardFor", "(I)I"⟩, 24) := ⟨⟨by decide +kernel, by decide +kernel⟩, List.mem_of_getElem? (i := 1222) (by decide +kernel), List.mem_of_getElem? (i := 1523) (by decide +kernel), List.mem_of_getElem? (i := 1524) (by decide +kernel)⟩
theorem lw_p71 : lw_okq (⟨"ParishUnionModel", "firstOf", "(II)I"⟩, 24) := ⟨⟨by decide +kernel, by decide +kernel⟩, List.mem_of_getElem? (i := 1222) (by decide +kernel), List.mem_of_getElem? (i := 1527) (by decide +kernel), List.mem_of_getElem? (i := 1528) (by decide +kernel)⟩
theorem lw_p72 : lw_okq (⟨"ParishUnionModel", "givenTo", "(I)I"⟩, 24) := ⟨⟨by decide +kernel, by decide +kernel⟩, List.mem_of_getElem? (i := 1222) (by decide +kernel), List.mem_of_getElem? (i := 1531) (by decide +kernel), List.mem_of_getElem? (i := 1532) (by decide +kernel)⟩
theorem lw_p73 : lw_okq (⟨"ParishUnionModel", "isOrder", "(I)Z"⟩, 24) := ⟨⟨by decide +kernel, by decide +kernel⟩, List.mem_of_getElem? (i := 1222) (by decide +kernel), List.mem_of_getElem? (i := 1543) (by decide +kernel), List.mem_of_getElem? (i := 1544) (by decide +kernel)⟩
theorem lw_p74 : lw_okq (⟨"ParishUnionModel", "standsBy", "(III)I"⟩, 24) := ⟨⟨by decide +kernel, by decide +kernel⟩, List.mem_of_getElem? (i := 1222) (by decide +kernel), List.mem_of_getElem? (i := 1547) (by decide +kernel), List.mem_of_getElem? (i := 1548) (by decide +kernel)⟩
theorem lw_p75 : lw_okq (⟨"ParishUnionModel", "heardIn", "(II)I"⟩, 24) := ⟨⟨by decide +kernel, by decide +kernel⟩, List.mem_of_getElem? (i := 1222) (by decide +kernel), List.mem_of_getElem? (i := 1575) (by decide +kernel), List.mem_of_getElem? (i := 1576) (by decide +kernel)⟩
theorem lw_p76 : lw_okq (⟨"ParishUnionModel", "goes", "()V"⟩, 24) := ⟨⟨by decide +kernel, by decide +kernel⟩, List.mem_of_getElem? (i := 1222) (by decide +kernel), List.mem_of_getElem? (i := 1583) (by decide +kernel), List.mem_of_getElem? (i := 1584) (by decide +kernel)⟩
theorem lw_p77 : lw_okq (⟨"ParishUnionModel", "outside", "(I)V"⟩, 24) := ⟨⟨by decide +kernel, by decide +kernel⟩, List.mem_of_getElem? (i := 1222) (by decide +kernel), List.mem_of_getElem? (i := 1587) (by decide +kernel), List.mem_of_getElem? (i := 1588) (by decide +kernel)⟩
theorem lw_p78 : lw_okq (⟨"ParishUnionModel", "hungers", "(II)V"⟩, 24) := ⟨⟨by decide +kernel, by decide +kernel⟩, List.mem_of_getElem? (i := 1222) (by decide +kernel), List.mem_of_getElem? (i := 1591) (by decide +kernel), List.mem_of_getElem? (i := 1592) (by decide +kernel)⟩
theorem lw_p79 : lw_okq (⟨"ParishUnionModel", "takenIn", "(I)I"⟩, 24) := ⟨⟨by decide +kernel, by decide +kernel⟩, List.mem_of_getElem? (i := 1222) (by decide +kernel), List.mem_of_getElem? (i := 1595) (by decide +kernel), List.mem_of_getElem? (i := 1596) (by decide +kernel)⟩
def lw_privs_5 : List (MethodName × Nat) := [(⟨"ParishUnionModel", "every", "()Z"⟩, 24), (⟨"ParishUnionModel", "factor", "()Z"⟩, 24), (⟨"ParishUnionModel", "isAtOwn", "()Z"⟩, 24), (⟨"ParishUnionModel", "stands", "(I)I"⟩, 24), (⟨"ParishUnionModel", "ageOf", "(II)I"⟩, 24), (⟨"ParishUnionModel", "manyOf", "(II)I"⟩, 24), (⟨"ParishUnionModel", "wardFor", "(I)I"⟩, 24), (⟨"ParishUnionModel", "firstOf", "(II)I"⟩, 24), (⟨"ParishUnionModel", "givenTo", "(I)I"⟩, 24), (⟨"ParishUnionModel", "isOrder", "(I)Z"⟩, 24), (⟨"ParishUnionModel", "standsBy", "(III)I"⟩, 24), (⟨"ParishUnionModel", "heardIn", "(II)I"⟩, 24), (⟨"ParishUnionModel", "goes", "()V"⟩, 24), (⟨"ParishUnionModel", "outside", "(I)V"⟩, 24), (⟨"ParishUnionModel", "hungers", "(II)V"⟩, 24), (⟨"ParishUnionModel", "takenIn", "(I)I"⟩, 24)]
theorem lw_r5 : ∀ q ∈ lw_privs_5, lw_okq q := List.forall_mem_cons.mpr ⟨lw_p64, List.forall_mem_cons.mpr ⟨lw_p65, List.forall_mem_cons.mpr ⟨lw_p66, List.forall_mem_cons.mpr ⟨lw_p67, List.forall_mem_cons.mpr ⟨lw_p68, List.forall_mem_cons.mpr ⟨lw_p69, List.forall_mem_cons.mpr ⟨lw_p70, List.forall_mem_cons.mpr ⟨lw_p71, List.forall_mem_cons.mpr ⟨lw_p72, List.forall_mem_cons.mpr ⟨lw_p73, List.forall_mem_cons.mpr ⟨lw_p74, List.forall_mem_cons.mpr ⟨lw_p75, List.forall_mem_cons.mpr ⟨lw_p76, List.forall_mem_cons.mpr ⟨lw_p77, List.forall_mem_cons.mpr ⟨lw_p78, List.forall_mem_cons.mpr ⟨lw_p79, fun _ h => absurd h List.not_mem_nil⟩⟩⟩⟩⟩⟩⟩⟩⟩⟩⟩⟩⟩⟩⟩⟩
theorem lw_p80 : lw_okq (⟨"ParishUnionModel", "inside", "(I)V"⟩, 24) := ⟨⟨by decide +kernel, by decide +kernel⟩, List.mem_of_getElem? (i := 1222) (by decide +kernel), List.mem_of_getElem? (i := 1599) (by decide +kernel), List.mem_of_getElem? (i := 1600) (by decide +kernel)⟩
theorem lw_p81 : lw_okq (⟨"ParishUnionModel", "leaves", "(II)V"⟩, 24) := ⟨⟨by decide +kernel, by decide +kernel⟩, List.mem_of_getElem? (i := 1222) (by decide +kernel), List.mem_of_getElem? (i := 1603) (by decide +kernel), List.mem_of_getElem? (i := 1604) (by decide +kernel)⟩
theorem lw_p82 : lw_okq (⟨"ParishUnionModel", "isGone", "(I)Z"⟩, 24) := ⟨⟨by decide +kernel, by decide +kernel⟩, List.mem_of_getElem? (i := 1222) (by decide +kernel), List.mem_of_getElem? (i := 1611) (by decide +kernel), List.mem_of_getElem? (i := 1612) (by decide +kernel)⟩
theorem lw_p83 : lw_okq (⟨"ParishUnionModel", "costOf", "(I)I"⟩, 24) := ⟨⟨by decide +kernel, by decide +kernel⟩, List.mem_of_getElem? (i := 1222) (by decide +kernel), List.mem_of_getElem? (i := 1615) (by decide +kernel), List.mem_of_getElem? (i := 1616) (by decide +kernel)⟩
theorem lw_p84 : lw_okq (⟨"ParishUnionModel", "parts", "(II)V"⟩, 24) := ⟨⟨by decide +kernel, by decide +kernel⟩, List.mem_of_getElem? (i := 1222) (by decide +kernel), List.mem_of_getElem? (i := 1627) (by decide +kernel), List.mem_of_getElem? (i := 1628) (by decide +kernel)⟩
theorem lw_p85 : lw_okq (⟨"ParishUnionModel", "isOne", "(I)Z"⟩, 24) := ⟨⟨by decide +kernel, by decide +kernel⟩, List.mem_of_getElem? (i := 1222) (by decide +kernel), List.mem_of_getElem? (i := 1649) (by decide +kernel), List.mem_of_getElem? (i := 1650) (by decide +kernel)⟩
theorem lw_p86 : lw_okq (⟨"ParishUnionModel", "nextNight", "(II)I"⟩, 24) := ⟨⟨by decide +kernel, by decide +kernel⟩, List.mem_of_getElem? (i := 1222) (by decide +kernel), List.mem_of_getElem? (i := 1653) (by decide +kernel), List.mem_of_getElem? (i := 1654) (by decide +kernel)⟩
theorem lw_p87 : lw_okq (⟨"ParishUnionModel", "costOf6", "(I)I"⟩, 24) := ⟨⟨by decide +kernel, by decide +kernel⟩, List.mem_of_getElem? (i := 1222) (by decide +kernel), List.mem_of_getElem? (i := 1686) (by decide +kernel), List.mem_of_getElem? (i := 1687) (by decide +kernel)⟩
theorem lw_p88 : lw_okq (⟨"ParishUnionModel", "isWell", "(II)Z"⟩, 24) := ⟨⟨by decide +kernel, by decide +kernel⟩, List.mem_of_getElem? (i := 1222) (by decide +kernel), List.mem_of_getElem? (i := 1690) (by decide +kernel), List.mem_of_getElem? (i := 1691) (by decide +kernel)⟩
theorem lw_p89 : lw_okq (⟨"ParishUnionModel", "keep", "([I[I)V"⟩, 24) := ⟨⟨by decide +kernel, by decide +kernel⟩, List.mem_of_getElem? (i := 1222) (by decide +kernel), List.mem_of_getElem? (i := 1694) (by decide +kernel), List.mem_of_getElem? (i := 1695) (by decide +kernel)⟩
theorem lw_p90 : lw_okq (⟨"ParishUnionModel", "chooses", "(I)V"⟩, 24) := ⟨⟨by decide +kernel, by decide +kernel⟩, List.mem_of_getElem? (i := 1222) (by decide +kernel), List.mem_of_getElem? (i := 1698) (by decide +kernel), List.mem_of_getElem? (i := 1699) (by decide +kernel)⟩
theorem lw_p91 : lw_okq (⟨"ParishUnionModel", "winter", "(I)V"⟩, 24) := ⟨⟨by decide +kernel, by decide +kernel⟩, List.mem_of_getElem? (i := 1222) (by decide +kernel), List.mem_of_getElem? (i := 1702) (by decide +kernel), List.mem_of_getElem? (i := 1703) (by decide +kernel)⟩
theorem lw_p92 : lw_okq (⟨"ParishUnionModel", "manyAt", "(I)I"⟩, 24) := ⟨⟨by decide +kernel, by decide +kernel⟩, List.mem_of_getElem? (i := 1222) (by decide +kernel), List.mem_of_getElem? (i := 1730) (by decide +kernel), List.mem_of_getElem? (i := 1731) (by decide +kernel)⟩
def lw_privs_6 : List (MethodName × Nat) := [(⟨"ParishUnionModel", "inside", "(I)V"⟩, 24), (⟨"ParishUnionModel", "leaves", "(II)V"⟩, 24), (⟨"ParishUnionModel", "isGone", "(I)Z"⟩, 24), (⟨"ParishUnionModel", "costOf", "(I)I"⟩, 24), (⟨"ParishUnionModel", "parts", "(II)V"⟩, 24), (⟨"ParishUnionModel", "isOne", "(I)Z"⟩, 24), (⟨"ParishUnionModel", "nextNight", "(II)I"⟩, 24), (⟨"ParishUnionModel", "costOf6", "(I)I"⟩, 24), (⟨"ParishUnionModel", "isWell", "(II)Z"⟩, 24), (⟨"ParishUnionModel", "keep", "([I[I)V"⟩, 24), (⟨"ParishUnionModel", "chooses", "(I)V"⟩, 24), (⟨"ParishUnionModel", "winter", "(I)V"⟩, 24), (⟨"ParishUnionModel", "manyAt", "(I)I"⟩, 24)]
theorem lw_r6 : ∀ q ∈ lw_privs_6, lw_okq q := List.forall_mem_cons.mpr ⟨lw_p80, List.forall_mem_cons.mpr ⟨lw_p81, List.forall_mem_cons.mpr ⟨lw_p82, List.forall_mem_cons.mpr ⟨lw_p83, List.forall_mem_cons.mpr ⟨lw_p84, List.forall_mem_cons.mpr ⟨lw_p85, List.forall_mem_cons.mpr ⟨lw_p86, List.forall_mem_cons.mpr ⟨lw_p87, List.forall_mem_cons.mpr ⟨lw_p88, List.forall_mem_cons.mpr ⟨lw_p89, List.forall_mem_cons.mpr ⟨lw_p90, List.forall_mem_cons.mpr ⟨lw_p91, List.forall_mem_cons.mpr ⟨lw_p92, fun _ h => absurd h List.not_mem_nil⟩⟩⟩⟩⟩⟩⟩⟩⟩⟩⟩⟩⟩
def lw_privs : List (MethodName × Nat) := lw_privs_1 ++ (lw_privs_2 ++ (lw_privs_3 ++ (lw_privs_4 ++ (lw_privs_5 ++ (lw_privs_6)))))
def lw_tbl : List Cond := k2_sels lw_privs ++ tables_1
theorem lw_privs_ok : ∀ q ∈ lw_privs, lw_okq q := by
  show ∀ q ∈ lw_privs_1 ++ (lw_privs_2 ++ (lw_privs_3 ++ (lw_privs_4 ++ (lw_privs_5 ++ (lw_privs_6))))), lw_okq q
  exact List.forall_mem_append.mpr ⟨lw_r1, List.forall_mem_append.mpr ⟨lw_r2, List.forall_mem_append.mpr ⟨lw_r3, List.forall_mem_append.mpr ⟨lw_r4, List.forall_mem_append.mpr ⟨lw_r5, lw_r6⟩⟩⟩⟩⟩
def RX0 : String := "ParishUnion$Act"
def TX0 : u_T := fun k => match k with
  | 0 => ("ParishUnion$Act", "text", "[B", true)
  | 1 => ("ParishUnion$Act", "says", "[I", true)
  | 2 => ("ParishUnion$Act", "word", "[I", true)
  | 3 => ("ParishUnion$Act", "n", "[I", true)
  | 4 => ("ParishUnion$Act", "place", "[I", true)
  | 5 => ("ParishUnion$Act", "size", "I", false)
  | 6 => ("ParishUnion$Act", "week", "I", false)
  | _ => ("ParishUnion$Act", "clauses", "I", false)
def tyX0 : Nat → FieldType := fun k => match k with
  | 0 => .array .byte
  | 1 => .array .int
  | 2 => .array .int
  | 3 => .array .int
  | 4 => .array .int
  | 5 => .int
  | 6 => .int
  | _ => .int
abbrev wsX00 : List Cond := u_ws RX0 TX0 8
theorem nmX0 : ∀ a, a < 8 → ∀ b, b < 8 → a ≠ b → (TX0 a).2.1 ≠ (TX0 b).2.1 := by decide +kernel
theorem tyX0_ok : ∀ k, k < 8 → parseFieldDescriptor (TX0 k).2.2.1 = some (tyX0 k) := by decide +kernel
abbrev cX0_init : ByteArray := prog_2_method_1_code
def yX0_init : MethodName := ⟨RX0, "<init>", "()V"⟩
abbrev cX0_begin : ByteArray := prog_2_method_2_code
def yX0_begin : MethodName := ⟨RX0, "begin", "([BII)V"⟩
abbrev cX0_copyFrom : ByteArray := prog_2_method_3_code
def yX0_copyFrom : MethodName := ⟨RX0, "copyFrom", "(LParishUnion$Act;)V"⟩
abbrev cX0_addClause : ByteArray := prog_2_method_4_code
def yX0_addClause : MethodName := ⟨RX0, "addClause", "(III)V"⟩
abbrev cX0_holds : ByteArray := prog_2_method_5_code
def yX0_holds : MethodName := ⟨RX0, "holds", "(ILParishUnion$Person;II)Z"⟩
abbrev cX0_isSo : ByteArray := prog_2_method_6_code
def yX0_isSo : MethodName := ⟨RX0, "isSo", "(ILParishUnion$Person;II)Z"⟩
abbrev cX0_compares : ByteArray := prog_2_method_7_code
def yX0_compares : MethodName := ⟨RX0, "compares", "(II)Z"⟩
def RX1 : String := "ParishUnion$Bench"
def TX1 : u_T := fun k => match k with
  | 0 => ("ParishUnion$Bench", "held", "[I", true)
  | 1 => ("ParishUnion$Bench", "lawful", "[Z", true)
  | 2 => ("ParishUnion$Bench", "doubted", "[I", true)
  | 3 => ("ParishUnion$Bench", "maybeIfSo", "[I", true)
  | 4 => ("ParishUnion$Bench", "maybeIfNot", "[I", true)
  | 5 => ("ParishUnion$Bench", "doubtedCount", "I", false)
  | 6 => ("ParishUnion$Bench", "kin", "Z", false)
  | _ => ("ParishUnion$Bench", "maybe", "I", false)
def tyX1 : Nat → FieldType := fun k => match k with
  | 0 => .array .int
  | 1 => .array .boolean
  | 2 => .array .int
  | 3 => .array .int
  | 4 => .array .int
  | 5 => .int
  | 6 => .boolean
  | _ => .int
abbrev wsX10 : List Cond := u_ws RX1 TX1 8
theorem nmX1 : ∀ a, a < 8 → ∀ b, b < 8 → a ≠ b → (TX1 a).2.1 ≠ (TX1 b).2.1 := by decide +kernel
theorem tyX1_ok : ∀ k, k < 8 → parseFieldDescriptor (TX1 k).2.2.1 = some (tyX1 k) := by decide +kernel
abbrev cX1_init : ByteArray := prog_3_method_1_code
def yX1_init : MethodName := ⟨RX1, "<init>", "()V"⟩
abbrev cX1_prepare : ByteArray := prog_3_method_2_code
def yX1_prepare : MethodName := ⟨RX1, "prepare", "(LParishUnion$Union;I)V"⟩
abbrev cX1_isLawful : ByteArray := prog_3_method_3_code
def yX1_isLawful : MethodName := ⟨RX1, "isLawful", "(LParishUnion$Union;LParishUnion$Right;)Z"⟩
abbrev cX1_whose : ByteArray := prog_3_method_4_code
def yX1_whose : MethodName := ⟨RX1, "whose", "(LParishUnion$Union;IIJ)I"⟩
abbrev cX1_lastRight : ByteArray := prog_3_method_5_code
def yX1_lastRight : MethodName := ⟨RX1, "lastRight", "(LParishUnion$Union;IIJ)I"⟩
abbrev cX1_tryBothWays : ByteArray := prog_3_method_6_code
def yX1_tryBothWays : MethodName := ⟨RX1, "tryBothWays", "(LParishUnion$Union;II)V"⟩
abbrev cX1_note : ByteArray := prog_3_method_7_code
def yX1_note : MethodName := ⟨RX1, "note", "(II)V"⟩
abbrev cX1_bestProof : ByteArray := prog_3_method_8_code
def yX1_bestProof : MethodName := ⟨RX1, "bestProof", "()I"⟩
def RX2 : String := "ParishUnion$House"
def TX2 : u_T := fun k => match k with
  | 0 => ("ParishUnion$House", "beds", "[I", true)
  | 1 => ("ParishUnion$House", "frost", "[I", true)
  | 2 => ("ParishUnion$House", "rowSize", "[I", true)
  | 3 => ("ParishUnion$House", "rowFrost", "[I", true)
  | 4 => ("ParishUnion$House", "choiceFor", "[I", true)
  | 5 => ("ParishUnion$House", "choiceMore", "[I", true)
  | 6 => ("ParishUnion$House", "choiceCost", "[I", true)
  | 7 => ("ParishUnion$House", "choices", "I", false)
  | 8 => ("ParishUnion$House", "store", "I", false)
  | _ => ("ParishUnion$House", "price", "I", false)
def tyX2 : Nat → FieldType := fun k => match k with
  | 0 => .array .int
  | 1 => .array .int
  | 2 => .array .int
  | 3 => .array .int
  | 4 => .array .int
  | 5 => .array .int
  | 6 => .array .int
  | 7 => .int
  | 8 => .int
  | _ => .int
abbrev wsX20 : List Cond := u_ws RX2 TX2 10
theorem nmX2 : ∀ a, a < 10 → ∀ b, b < 10 → a ≠ b → (TX2 a).2.1 ≠ (TX2 b).2.1 := by decide +kernel
theorem tyX2_ok : ∀ k, k < 10 → parseFieldDescriptor (TX2 k).2.2.1 = some (tyX2 k) := by decide +kernel
abbrev cX2_init : ByteArray := prog_4_method_1_code
def yX2_init : MethodName := ⟨RX2, "<init>", "()V"⟩
abbrev cX2_copyFrom : ByteArray := prog_4_method_2_code
def yX2_copyFrom : MethodName := ⟨RX2, "copyFrom", "(LParishUnion$House;)V"⟩
abbrev cX2_addChoice : ByteArray := prog_4_method_3_code
def yX2_addChoice : MethodName := ⟨RX2, "addChoice", "(III)I"⟩
abbrev cX2_costOfSet : ByteArray := prog_4_method_4_code
def yX2_costOfSet : MethodName := ⟨RX2, "costOfSet", "(I)I"⟩
abbrev cX2_doChoices : ByteArray := prog_4_method_5_code
def yX2_doChoices : MethodName := ⟨RX2, "doChoices", "(I)V"⟩
abbrev cX2_setRow : ByteArray := prog_4_method_6_code
def yX2_setRow : MethodName := ⟨RX2, "setRow", "(IJI)V"⟩
abbrev cX2_tellRow : ByteArray := prog_4_method_7_code
def yX2_tellRow : MethodName := ⟨RX2, "tellRow", "(II)V"⟩
def RX3 : String := "ParishUnion$Land"
def TX3 : u_T := fun k => match k with
  | 0 => ("ParishUnion$Land", "rents", "[I", true)
  | _ => ("ParishUnion$Land", "way", "[I", true)
def tyX3 : Nat → FieldType := fun k => match k with
  | 0 => .array .int
  | _ => .array .int
abbrev wsX30 : List Cond := u_ws RX3 TX3 2
theorem nmX3 : ∀ a, a < 2 → ∀ b, b < 2 → a ≠ b → (TX3 a).2.1 ≠ (TX3 b).2.1 := by decide +kernel
theorem tyX3_ok : ∀ k, k < 2 → parseFieldDescriptor (TX3 k).2.2.1 = some (tyX3 k) := by decide +kernel
abbrev cX3_init : ByteArray := prog_5_method_1_code
def yX3_init : MethodName := ⟨RX3, "<init>", "()V"⟩
abbrev cX3_copyFrom : ByteArray := prog_5_method_2_code
def yX3_copyFrom : MethodName := ⟨RX3, "copyFrom", "(LParishUnion$Land;)V"⟩
abbrev cX3_distance : ByteArray := prog_5_method_3_code
def yX3_distance : MethodName := ⟨RX3, "distance", "(II)I"⟩
abbrev cX3_layRoad : ByteArray := prog_5_method_4_code
def yX3_layRoad : MethodName := ⟨RX3, "layRoad", "(III)Z"⟩
def RX4 : String := "ParishUnion$Orders"
def TX4 : u_T := fun k => match k with
  | 0 => ("ParishUnion$Orders", "person", "[I", true)
  | 1 => ("ParishUnion$Orders", "from", "[I", true)
  | 2 => ("ParishUnion$Orders", "to", "[I", true)
  | 3 => ("ParishUnion$Orders", "week", "[I", true)
  | 4 => ("ParishUnion$Orders", "carried", "[Z", true)
  | _ => ("ParishUnion$Orders", "count", "I", false)
def tyX4 : Nat → FieldType := fun k => match k with
  | 0 => .array .int
  | 1 => .array .int
  | 2 => .array .int
  | 3 => .array .int
  | 4 => .array .boolean
  | _ => .int
abbrev wsX40 : List Cond := u_ws RX4 TX4 6
theorem nmX4 : ∀ a, a < 6 → ∀ b, b < 6 → a ≠ b → (TX4 a).2.1 ≠ (TX4 b).2.1 := by decide +kernel
theorem tyX4_ok : ∀ k, k < 6 → parseFieldDescriptor (TX4 k).2.2.1 = some (tyX4 k) := by decide +kernel
abbrev cX4_init : ByteArray := prog_6_method_1_code
def yX4_init : MethodName := ⟨RX4, "<init>", "()V"⟩
abbrev cX4_copyFrom : ByteArray := prog_6_method_2_code
def yX4_copyFrom : MethodName := ⟨RX4, "copyFrom", "(LParishUnion$Orders;)V"⟩
abbrev cX4_write : ByteArray := prog_6_method_3_code
def yX4_write : MethodName := ⟨RX4, "write", "(IIII)I"⟩
def RX5 : String := "ParishUnion$Past"
def TX5 : u_T := fun k => match k with
  | 0 => ("ParishUnion$Past", "sums", "[I", true)
  | _ => ("ParishUnion$Past", "marks", "[J", true)
def tyX5 : Nat → FieldType := fun k => match k with
  | 0 => .array .int
  | _ => .array .long
abbrev wsX50 : List Cond := u_ws RX5 TX5 2
theorem nmX5 : ∀ a, a < 2 → ∀ b, b < 2 → a ≠ b → (TX5 a).2.1 ≠ (TX5 b).2.1 := by decide +kernel
theorem tyX5_ok : ∀ k, k < 2 → parseFieldDescriptor (TX5 k).2.2.1 = some (tyX5 k) := by decide +kernel
abbrev cX5_init : ByteArray := prog_7_method_1_code
def yX5_init : MethodName := ⟨RX5, "<init>", "()V"⟩
abbrev cX5_copyFrom : ByteArray := prog_7_method_2_code
def yX5_copyFrom : MethodName := ⟨RX5, "copyFrom", "(LParishUnion$Past;I)V"⟩
abbrev cX5_open : ByteArray := prog_7_method_3_code
def yX5_open : MethodName := ⟨RX5, "open", "(I)V"⟩
abbrev cX5_add : ByteArray := prog_7_method_4_code
def yX5_add : MethodName := ⟨RX5, "add", "(III)V"⟩
abbrev cX5_write : ByteArray := prog_7_method_5_code
def yX5_write : MethodName := ⟨RX5, "write", "(IILParishUnion$Person;)V"⟩
abbrev cX5_close : ByteArray := prog_7_method_6_code
def yX5_close : MethodName := ⟨RX5, "close", "(I)V"⟩
abbrev cX5_sum : ByteArray := prog_7_method_7_code
def yX5_sum : MethodName := ⟨RX5, "sum", "(II)I"⟩
abbrev cX5_mark : ByteArray := prog_7_method_8_code
def yX5_mark : MethodName := ⟨RX5, "mark", "(II)J"⟩
abbrev cX5_wasThere : ByteArray := prog_7_method_9_code
def yX5_wasThere : MethodName := ⟨RX5, "wasThere", "(II)Z"⟩
abbrev cX5_placeOf : ByteArray := prog_7_method_10_code
def yX5_placeOf : MethodName := ⟨RX5, "placeOf", "(II)I"⟩
abbrev cX5_hasAsked : ByteArray := prog_7_method_11_code
def yX5_hasAsked : MethodName := ⟨RX5, "hasAsked", "(II)Z"⟩
abbrev cX5_eatenBy : ByteArray := prog_7_method_12_code
def yX5_eatenBy : MethodName := ⟨RX5, "eatenBy", "(II)I"⟩
abbrev cX5_givenTo : ByteArray := prog_7_method_13_code
def yX5_givenTo : MethodName := ⟨RX5, "givenTo", "(II)I"⟩
abbrev cX5_wasHelped : ByteArray := prog_7_method_14_code
def yX5_wasHelped : MethodName := ⟨RX5, "wasHelped", "(II)Z"⟩
def RX6 : String := "ParishUnion$Person"
def TX6 : u_T := fun k => match k with
  | 0 => ("ParishUnion$Person", "sex", "I", false)
  | 1 => ("ParishUnion$Person", "born", "I", false)
  | 2 => ("ParishUnion$Person", "birthplace", "I", false)
  | 3 => ("ParishUnion$Person", "father", "I", false)
  | 4 => ("ParishUnion$Person", "strength", "I", false)
  | 5 => ("ParishUnion$Person", "at", "I", false)
  | 6 => ("ParishUnion$Person", "hunger", "I", false)
  | 7 => ("ParishUnion$Person", "ill", "I", false)
  | 8 => ("ParishUnion$Person", "ward", "I", false)
  | 9 => ("ParishUnion$Person", "master", "I", false)
  | 10 => ("ParishUnion$Person", "askedFrom", "I", false)
  | 11 => ("ParishUnion$Person", "toldAt", "I", false)
  | 12 => ("ParishUnion$Person", "eaten", "I", false)
  | 13 => ("ParishUnion$Person", "given", "I", false)
  | 14 => ("ParishUnion$Person", "asked", "Z", false)
  | _ => ("ParishUnion$Person", "home", "I", false)
def tyX6 : Nat → FieldType := fun k => match k with
  | 0 => .int
  | 1 => .int
  | 2 => .int
  | 3 => .int
  | 4 => .int
  | 5 => .int
  | 6 => .int
  | 7 => .int
  | 8 => .int
  | 9 => .int
  | 10 => .int
  | 11 => .int
  | 12 => .int
  | 13 => .int
  | 14 => .boolean
  | _ => .int
abbrev wsX60 : List Cond := u_ws RX6 TX6 16
theorem nmX6 : ∀ a, a < 16 → ∀ b, b < 16 → a ≠ b → (TX6 a).2.1 ≠ (TX6 b).2.1 := by decide +kernel
theorem tyX6_ok : ∀ k, k < 16 → parseFieldDescriptor (TX6 k).2.2.1 = some (tyX6 k) := by decide +kernel
abbrev cX6_init : ByteArray := prog_8_method_1_code
def yX6_init : MethodName := ⟨RX6, "<init>", "()V"⟩
abbrev cX6_begin : ByteArray := prog_8_method_2_code
def yX6_begin : MethodName := ⟨RX6, "begin", "(IIIII)V"⟩
abbrev cX6_copyFrom : ByteArray := prog_8_method_3_code
def yX6_copyFrom : MethodName := ⟨RX6, "copyFrom", "(LParishUnion$Person;)V"⟩
abbrev cX6_beginWeek : ByteArray := prog_8_method_4_code
def yX6_beginWeek : MethodName := ⟨RX6, "beginWeek", "()V"⟩
abbrev cX6_isAtParish : ByteArray := prog_8_method_5_code
def yX6_isAtParish : MethodName := ⟨RX6, "isAtParish", "()Z"⟩
abbrev cX6_goTo : ByteArray := prog_8_method_6_code
def yX6_goTo : MethodName := ⟨RX6, "goTo", "(I)V"⟩
abbrev cX6_ageIn : ByteArray := prog_8_method_7_code
def yX6_ageIn : MethodName := ⟨RX6, "ageIn", "(I)I"⟩
def RX7 : String := "ParishUnion$Reader"
def TX7 : u_T := fun k => match k with
  | 0 => ("ParishUnion$Reader", "text", "[B", false)
  | 1 => ("ParishUnion$Reader", "size", "I", false)
  | 2 => ("ParishUnion$Reader", "place", "I", false)
  | 3 => ("ParishUnion$Reader", "open", "I", false)
  | _ => ("ParishUnion$Reader", "nots", "I", false)
def tyX7 : Nat → FieldType := fun k => match k with
  | 0 => .array .byte
  | 1 => .int
  | 2 => .int
  | 3 => .int
  | _ => .int
abbrev wsX70 : List Cond := u_ws RX7 TX7 5
theorem nmX7 : ∀ a, a < 5 → ∀ b, b < 5 → a ≠ b → (TX7 a).2.1 ≠ (TX7 b).2.1 := by decide +kernel
theorem tyX7_ok : ∀ k, k < 5 → parseFieldDescriptor (TX7 k).2.2.1 = some (tyX7 k) := by decide +kernel
abbrev cX7_init : ByteArray := prog_9_method_1_code
def yX7_init : MethodName := ⟨RX7, "<init>", "()V"⟩
abbrev cX7_read : ByteArray := prog_9_method_2_code
def yX7_read : MethodName := ⟨RX7, "read", "(LParishUnion$Act;)I"⟩
abbrev cX7_readClause : ByteArray := prog_9_method_3_code
def yX7_readClause : MethodName := ⟨RX7, "readClause", "(LParishUnion$Act;)Z"⟩
abbrev cX7_readWord : ByteArray := prog_9_method_4_code
def yX7_readWord : MethodName := ⟨RX7, "readWord", "()I"⟩
abbrev cX7_nameOf : ByteArray := prog_9_method_5_code
def yX7_nameOf : MethodName := ⟨RX7, "nameOf", "(I)Ljava/lang/String;"⟩
abbrev cX7_readPart : ByteArray := prog_9_method_6_code
def yX7_readPart : MethodName := ⟨RX7, "readPart", "(I)I"⟩
abbrev cX7_readCondition : ByteArray := prog_9_method_7_code
def yX7_readCondition : MethodName := ⟨RX7, "readCondition", "()Z"⟩
abbrev cX7_endNots : ByteArray := prog_9_method_8_code
def yX7_endNots : MethodName := ⟨RX7, "endNots", "()V"⟩
abbrev cX7_closeOne : ByteArray := prog_9_method_9_code
def yX7_closeOne : MethodName := ⟨RX7, "closeOne", "()V"⟩
abbrev cX7_readFact : ByteArray := prog_9_method_10_code
def yX7_readFact : MethodName := ⟨RX7, "readFact", "()Z"⟩
abbrev cX7_skip : ByteArray := prog_9_method_11_code
def yX7_skip : MethodName := ⟨RX7, "skip", "(C)Z"⟩
abbrev cX7_readSign : ByteArray := prog_9_method_12_code
def yX7_readSign : MethodName := ⟨RX7, "readSign", "(Ljava/lang/String;)I"⟩
abbrev cX7_readNumber : ByteArray := prog_9_method_13_code
def yX7_readNumber : MethodName := ⟨RX7, "readNumber", "(I)I"⟩
def RX8 : String := "ParishUnion$Right"
def TX8 : u_T := fun k => match k with
  | 0 => ("ParishUnion$Right", "kind", "I", false)
  | 1 => ("ParishUnion$Right", "person", "I", false)
  | 2 => ("ParishUnion$Right", "place", "I", false)
  | 3 => ("ParishUnion$Right", "n", "I", false)
  | 4 => ("ParishUnion$Right", "week", "I", false)
  | 5 => ("ParishUnion$Right", "sure", "Z", false)
  | 6 => ("ParishUnion$Right", "toldEntry", "I", false)
  | 7 => ("ParishUnion$Right", "proofEntry", "I", false)
  | _ => ("ParishUnion$Right", "proved", "Z", false)
def tyX8 : Nat → FieldType := fun k => match k with
  | 0 => .int
  | 1 => .int
  | 2 => .int
  | 3 => .int
  | 4 => .int
  | 5 => .boolean
  | 6 => .int
  | 7 => .int
  | _ => .boolean
abbrev wsX80 : List Cond := u_ws RX8 TX8 9
theorem nmX8 : ∀ a, a < 9 → ∀ b, b < 9 → a ≠ b → (TX8 a).2.1 ≠ (TX8 b).2.1 := by decide +kernel
theorem tyX8_ok : ∀ k, k < 9 → parseFieldDescriptor (TX8 k).2.2.1 = some (tyX8 k) := by decide +kernel
abbrev cX8_init : ByteArray := prog_10_method_1_code
def yX8_init : MethodName := ⟨RX8, "<init>", "()V"⟩
abbrev cX8_begin : ByteArray := prog_10_method_2_code
def yX8_begin : MethodName := ⟨RX8, "begin", "(IIIII)V"⟩
abbrev cX8_copyFrom : ByteArray := prog_10_method_3_code
def yX8_copyFrom : MethodName := ⟨RX8, "copyFrom", "(LParishUnion$Right;)V"⟩
abbrev cX8_heldBy : ByteArray := prog_10_method_4_code
def yX8_heldBy : MethodName := ⟨RX8, "heldBy", "(I)I"⟩
abbrev cX8_isUnder : ByteArray := prog_10_method_5_code
def yX8_isUnder : MethodName := ⟨RX8, "isUnder", "(I)Z"⟩
abbrev cX8_worth : ByteArray := prog_10_method_6_code
def yX8_worth : MethodName := ⟨RX8, "worth", "()I"⟩
def RX9 : String := "ParishUnion$Union"
def TX9 : u_T := fun k => match k with
  | 0 => ("ParishUnion$Union", "land", "LParishUnion$Land;", true)
  | 1 => ("ParishUnion$Union", "persons", "[LParishUnion$Person;", true)
  | 2 => ("ParishUnion$Union", "rights", "[LParishUnion$Right;", true)
  | 3 => ("ParishUnion$Union", "acts", "[LParishUnion$Act;", true)
  | 4 => ("ParishUnion$Union", "tape", "[B", true)
  | 5 => ("ParishUnion$Union", "orders", "LParishUnion$Orders;", true)
  | 6 => ("ParishUnion$Union", "house", "LParishUnion$House;", true)
  | 7 => ("ParishUnion$Union", "past", "LParishUnion$Past;", true)
  | 8 => ("ParishUnion$Union", "vagrants", "LParishUnion$Vagrants;", true)
  | 9 => ("ParishUnion$Union", "rooms", "[I", true)
  | 10 => ("ParishUnion$Union", "personCount", "I", false)
  | 11 => ("ParishUnion$Union", "rightCount", "I", false)
  | 12 => ("ParishUnion$Union", "entries", "I", false)
  | 13 => ("ParishUnion$Union", "actCount", "I", false)
  | 14 => ("ParishUnion$Union", "tapeSize", "I", false)
  | _ => ("ParishUnion$Union", "now", "I", false)
def tyX9 : Nat → FieldType := fun k => match k with
  | 0 => .object "ParishUnion$Land"
  | 1 => .array (.object "ParishUnion$Person")
  | 2 => .array (.object "ParishUnion$Right")
  | 3 => .array (.object "ParishUnion$Act")
  | 4 => .array .byte
  | 5 => .object "ParishUnion$Orders"
  | 6 => .object "ParishUnion$House"
  | 7 => .object "ParishUnion$Past"
  | 8 => .object "ParishUnion$Vagrants"
  | 9 => .array .int
  | 10 => .int
  | 11 => .int
  | 12 => .int
  | 13 => .int
  | 14 => .int
  | _ => .int
abbrev wsX90 : List Cond := u_ws RX9 TX9 16
theorem nmX9 : ∀ a, a < 16 → ∀ b, b < 16 → a ≠ b → (TX9 a).2.1 ≠ (TX9 b).2.1 := by decide +kernel
theorem tyX9_ok : ∀ k, k < 16 → parseFieldDescriptor (TX9 k).2.2.1 = some (tyX9 k) := by decide +kernel
abbrev cX9_init : ByteArray := prog_11_method_1_code
def yX9_init : MethodName := ⟨RX9, "<init>", "()V"⟩
abbrev cX9_copyFrom : ByteArray := prog_11_method_2_code
def yX9_copyFrom : MethodName := ⟨RX9, "copyFrom", "(LParishUnion$Union;)V"⟩
abbrev cX9_tellRight : ByteArray := prog_11_method_3_code
def yX9_tellRight : MethodName := ⟨RX9, "tellRight", "(IIIIIZ)I"⟩
abbrev cX9_actInForce : ByteArray := prog_11_method_4_code
def yX9_actInForce : MethodName := ⟨RX9, "actInForce", "(II)I"⟩
abbrev cX9_law : ByteArray := prog_11_method_5_code
def yX9_law : MethodName := ⟨RX9, "law", "(II)I"⟩
abbrev cX9_firstClause : ByteArray := prog_11_method_6_code
def yX9_firstClause : MethodName := ⟨RX9, "firstClause", "(ILParishUnion$Person;)I"⟩
abbrev cX9_personsAt : ByteArray := prog_11_method_7_code
def yX9_personsAt : MethodName := ⟨RX9, "personsAt", "(I)I"⟩
abbrev cX9_boundTo : ByteArray := prog_11_method_8_code
def yX9_boundTo : MethodName := ⟨RX9, "boundTo", "(I)I"⟩
abbrev cX9_bedsTaken : ByteArray := prog_11_method_9_code
def yX9_bedsTaken : MethodName := ⟨RX9, "bedsTaken", "(I)I"⟩
abbrev cX9_newsIn : ByteArray := prog_11_method_10_code
def yX9_newsIn : MethodName := ⟨RX9, "newsIn", "(II)I"⟩
abbrev cX9_costOf : ByteArray := prog_11_method_11_code
def yX9_costOf : MethodName := ⟨RX9, "costOf", "(I)I"⟩
abbrev cX9_goBy : ByteArray := prog_11_method_12_code
def yX9_goBy : MethodName := ⟨RX9, "goBy", "(I)V"⟩
abbrev cX9_growHungry : ByteArray := prog_11_method_13_code
def yX9_growHungry : MethodName := ⟨RX9, "growHungry", "()V"⟩
abbrev cX9_askAtHouse : ByteArray := prog_11_method_14_code
def yX9_askAtHouse : MethodName := ⟨RX9, "askAtHouse", "()V"⟩
abbrev cX9_eat : ByteArray := prog_11_method_15_code
def yX9_eat : MethodName := ⟨RX9, "eat", "()V"⟩
abbrev cX9_fallIll : ByteArray := prog_11_method_16_code
def yX9_fallIll : MethodName := ⟨RX9, "fallIll", "()V"⟩
abbrev cX9_die : ByteArray := prog_11_method_17_code
def yX9_die : MethodName := ⟨RX9, "die", "()V"⟩
abbrev cX9_leaveHouse : ByteArray := prog_11_method_18_code
def yX9_leaveHouse : MethodName := ⟨RX9, "leaveHouse", "()V"⟩
def RX10 : String := "ParishUnion$Vagrants"
def TX10 : u_T := fun k => match k with
  | 0 => ("ParishUnion$Vagrants", "name", "[I", true)
  | 1 => ("ParishUnion$Vagrants", "parish", "[I", true)
  | 2 => ("ParishUnion$Vagrants", "week", "[I", true)
  | _ => ("ParishUnion$Vagrants", "count", "I", false)
def tyX10 : Nat → FieldType := fun k => match k with
  | 0 => .array .int
  | 1 => .array .int
  | 2 => .array .int
  | _ => .int
abbrev wsX100 : List Cond := u_ws RX10 TX10 4
theorem nmX10 : ∀ a, a < 4 → ∀ b, b < 4 → a ≠ b → (TX10 a).2.1 ≠ (TX10 b).2.1 := by decide +kernel
theorem tyX10_ok : ∀ k, k < 4 → parseFieldDescriptor (TX10 k).2.2.1 = some (tyX10 k) := by decide +kernel
abbrev cX10_init : ByteArray := prog_12_method_1_code
def yX10_init : MethodName := ⟨RX10, "<init>", "()V"⟩
abbrev cX10_copyFrom : ByteArray := prog_12_method_2_code
def yX10_copyFrom : MethodName := ⟨RX10, "copyFrom", "(LParishUnion$Vagrants;)V"⟩
abbrev cX10_sleep : ByteArray := prog_12_method_3_code
def yX10_sleep : MethodName := ⟨RX10, "sleep", "(III)V"⟩
abbrev cX10_mayBeOne : ByteArray := prog_12_method_4_code
def yX10_mayBeOne : MethodName := ⟨RX10, "mayBeOne", "(ILParishUnion$Land;)Z"⟩
abbrev cX10_greatestSet : ByteArray := prog_12_method_5_code
def yX10_greatestSet : MethodName := ⟨RX10, "greatestSet", "(LParishUnion$Land;)I"⟩
def RX11 : String := "ParishUnion"
def TX11 : u_T := fun k => match k with
  | 0 => ("ParishUnion", "union", "LParishUnion$Union;", true)
  | 1 => ("ParishUnion", "bench", "LParishUnion$Bench;", true)
  | 2 => ("ParishUnion", "reader", "LParishUnion$Reader;", true)
  | 3 => ("ParishUnion", "personsBefore", "[LParishUnion$Person;", true)
  | 4 => ("ParishUnion", "houseBefore", "LParishUnion$House;", true)
  | 5 => ("ParishUnion", "weights", "[J", true)
  | 6 => ("ParishUnion", "rests", "[J", true)
  | 7 => ("ParishUnion", "shares", "[I", true)
  | 8 => ("ParishUnion", "burdens", "[J", true)
  | _ => ("ParishUnion", "kept", "LParishUnion$Union;", false)
def tyX11 : Nat → FieldType := fun k => match k with
  | 0 => .object "ParishUnion$Union"
  | 1 => .object "ParishUnion$Bench"
  | 2 => .object "ParishUnion$Reader"
  | 3 => .array (.object "ParishUnion$Person")
  | 4 => .object "ParishUnion$House"
  | 5 => .array .long
  | 6 => .array .long
  | 7 => .array .int
  | 8 => .array .long
  | _ => .object "ParishUnion$Union"
abbrev wsX110 : List Cond := u_ws RX11 TX11 10
theorem nmX11 : ∀ a, a < 10 → ∀ b, b < 10 → a ≠ b → (TX11 a).2.1 ≠ (TX11 b).2.1 := by decide +kernel
theorem tyX11_ok : ∀ k, k < 10 → parseFieldDescriptor (TX11 k).2.2.1 = some (tyX11 k) := by decide +kernel
abbrev cX11_init : ByteArray := prog_1_method_1_code
def yX11_init : MethodName := ⟨RX11, "<init>", "()V"⟩
abbrev cX11_parish : ByteArray := prog_1_method_2_code
def yX11_parish : MethodName := ⟨RX11, "parish", "(II)I"⟩
abbrev cX11_road : ByteArray := prog_1_method_3_code
def yX11_road : MethodName := ⟨RX11, "road", "(III)I"⟩
abbrev cX11_far : ByteArray := prog_1_method_4_code
def yX11_far : MethodName := ⟨RX11, "far", "(II)I"⟩
abbrev cX11_person : ByteArray := prog_1_method_5_code
def yX11_person : MethodName := ⟨RX11, "person", "(IIIII)I"⟩
abbrev cX11_about : ByteArray := prog_1_method_6_code
def yX11_about : MethodName := ⟨RX11, "about", "(II)I"⟩
abbrev cX11_hire : ByteArray := prog_1_method_7_code
def yX11_hire : MethodName := ⟨RX11, "hire", "(IIIIZZ)I"⟩
abbrev cX11_rated : ByteArray := prog_1_method_8_code
def yX11_rated : MethodName := ⟨RX11, "rated", "(IIIIZ)I"⟩
abbrev cX11_wed : ByteArray := prog_1_method_9_code
def yX11_wed : MethodName := ⟨RX11, "wed", "(IIIZ)I"⟩
abbrev cX11_proof : ByteArray := prog_1_method_10_code
def yX11_proof : MethodName := ⟨RX11, "proof", "(IZ)I"⟩
abbrev cX11_right : ByteArray := prog_1_method_11_code
def yX11_right : MethodName := ⟨RX11, "right", "(II)I"⟩
abbrev cX11_taken : ByteArray := prog_1_method_12_code
def yX11_taken : MethodName := ⟨RX11, "taken", "(II)I"⟩
abbrev cX11_settle : ByteArray := prog_1_method_13_code
def yX11_settle : MethodName := ⟨RX11, "settle", "(IIII)I"⟩
abbrev cX11_maybe : ByteArray := prog_1_method_14_code
def yX11_maybe : MethodName := ⟨RX11, "maybe", "(IIII)I"⟩
abbrev cX11_feed : ByteArray := prog_1_method_15_code
def yX11_feed : MethodName := ⟨RX11, "feed", "(JI)I"⟩
abbrev cX11_text : ByteArray := prog_1_method_16_code
def yX11_text : MethodName := ⟨RX11, "text", "(I)I"⟩
abbrev cX11_force : ByteArray := prog_1_method_17_code
def yX11_force : MethodName := ⟨RX11, "force", "(II)I"⟩
abbrev cX11_offer : ByteArray := prog_1_method_18_code
def yX11_offer : MethodName := ⟨RX11, "offer", "(II)I"⟩
abbrev cX11_order : ByteArray := prog_1_method_19_code
def yX11_order : MethodName := ⟨RX11, "order", "(II)I"⟩
abbrev cX11_appeal : ByteArray := prog_1_method_20_code
def yX11_appeal : MethodName := ⟨RX11, "appeal", "(III)I"⟩
abbrev cX11_unlike : ByteArray := prog_1_method_21_code
def yX11_unlike : MethodName := ⟨RX11, "unlike", "(I)I"⟩
abbrev cX11_carry : ByteArray := prog_1_method_22_code
def yX11_carry : MethodName := ⟨RX11, "carry", "(I)I"⟩
abbrev cX11_house : ByteArray := prog_1_method_23_code
def yX11_house : MethodName := ⟨RX11, "house", "(II)I"⟩
abbrev cX11_price : ByteArray := prog_1_method_24_code
def yX11_price : MethodName := ⟨RX11, "price", "(I)I"⟩
abbrev cX11_frost : ByteArray := prog_1_method_25_code
def yX11_frost : MethodName := ⟨RX11, "frost", "(II)I"⟩
abbrev cX11_heard : ByteArray := prog_1_method_26_code
def yX11_heard : MethodName := ⟨RX11, "heard", "(II)I"⟩
abbrev cX11_week : ByteArray := prog_1_method_27_code
def yX11_week : MethodName := ⟨RX11, "week", "(I)I"⟩
abbrev cX11_gone : ByteArray := prog_1_method_28_code
def yX11_gone : MethodName := ⟨RX11, "gone", "(II)I"⟩
abbrev cX11_was : ByteArray := prog_1_method_29_code
def yX11_was : MethodName := ⟨RX11, "was", "(III)I"⟩
abbrev cX11_share : ByteArray := prog_1_method_30_code
def yX11_share : MethodName := ⟨RX11, "share", "(III)I"⟩
abbrev cX11_sink : ByteArray := prog_1_method_31_code
def yX11_sink : MethodName := ⟨RX11, "sink", "(III)I"⟩
abbrev cX11_owed : ByteArray := prog_1_method_32_code
def yX11_owed : MethodName := ⟨RX11, "owed", "(IIII)I"⟩
abbrev cX11_night : ByteArray := prog_1_method_33_code
def yX11_night : MethodName := ⟨RX11, "night", "(III)I"⟩
abbrev cX11_one : ByteArray := prog_1_method_34_code
def yX11_one : MethodName := ⟨RX11, "one", "(I)I"⟩
abbrev cX11_greatest : ByteArray := prog_1_method_35_code
def yX11_greatest : MethodName := ⟨RX11, "greatest", "()I"⟩
abbrev cX11_master : ByteArray := prog_1_method_36_code
def yX11_master : MethodName := ⟨RX11, "master", "(II)I"⟩
abbrev cX11_bind : ByteArray := prog_1_method_37_code
def yX11_bind : MethodName := ⟨RX11, "bind", "(II)I"⟩
abbrev cX11_run : ByteArray := prog_1_method_38_code
def yX11_run : MethodName := ⟨RX11, "run", "(I)I"⟩
abbrev cX11_choice : ByteArray := prog_1_method_39_code
def yX11_choice : MethodName := ⟨RX11, "choice", "(III)I"⟩
abbrev cX11_frosts : ByteArray := prog_1_method_40_code
def yX11_frosts : MethodName := ⟨RX11, "frosts", "(IJI)I"⟩
abbrev cX11_plan : ByteArray := prog_1_method_41_code
def yX11_plan : MethodName := ⟨RX11, "plan", "(I)I"⟩
abbrev cX11_tried : ByteArray := prog_1_method_42_code
def yX11_tried : MethodName := ⟨RX11, "tried", "(II)I"⟩
abbrev cX11_told : ByteArray := prog_1_method_43_code
def yX11_told : MethodName := ⟨RX11, "told", "(II)I"⟩
abbrev cX11_check : ByteArray := prog_1_method_44_code
def yX11_check : MethodName := ⟨RX11, "check", "(I)I"⟩
abbrev cX11_image : ByteArray := prog_1_method_45_code
def yX11_image : MethodName := ⟨RX11, "image", "()I"⟩
abbrev cX11_undo : ByteArray := prog_1_method_46_code
def yX11_undo : MethodName := ⟨RX11, "undo", "()I"⟩
abbrev cX11_count : ByteArray := prog_1_method_47_code
def yX11_count : MethodName := ⟨RX11, "count", "(I)I"⟩
abbrev cX11_within : ByteArray := prog_1_method_48_code
def yX11_within : MethodName := ⟨RX11, "within", "(III)Z"⟩
abbrev cX11_isParish : ByteArray := prog_1_method_49_code
def yX11_isParish : MethodName := ⟨RX11, "isParish", "(I)Z"⟩
abbrev cX11_isBench : ByteArray := prog_1_method_50_code
def yX11_isBench : MethodName := ⟨RX11, "isBench", "(I)Z"⟩
abbrev cX11_isPerson : ByteArray := prog_1_method_51_code
def yX11_isPerson : MethodName := ⟨RX11, "isPerson", "(I)Z"⟩
abbrev cX11_isRight : ByteArray := prog_1_method_52_code
def yX11_isRight : MethodName := ⟨RX11, "isRight", "(I)Z"⟩
abbrev cX11_isOrder : ByteArray := prog_1_method_53_code
def yX11_isOrder : MethodName := ⟨RX11, "isOrder", "(I)Z"⟩
abbrev cX11_isEntryCount : ByteArray := prog_1_method_54_code
def yX11_isEntryCount : MethodName := ⟨RX11, "isEntryCount", "(I)Z"⟩
abbrev cX11_isGone : ByteArray := prog_1_method_55_code
def yX11_isGone : MethodName := ⟨RX11, "isGone", "(I)Z"⟩
abbrev cX11_takenBy : ByteArray := prog_1_method_56_code
def yX11_takenBy : MethodName := ⟨RX11, "takenBy", "(I)J"⟩
abbrev cX11_stands : ByteArray := prog_1_method_57_code
def yX11_stands : MethodName := ⟨RX11, "stands", "(II)Z"⟩
abbrev cX11_findHomes : ByteArray := prog_1_method_58_code
def yX11_findHomes : MethodName := ⟨RX11, "findHomes", "()V"⟩
abbrev cX11_readTape : ByteArray := prog_1_method_59_code
def yX11_readTape : MethodName := ⟨RX11, "readTape", "(I)I"⟩
abbrev cX11_shareOut : ByteArray := prog_1_method_60_code
def yX11_shareOut : MethodName := ⟨RX11, "shareOut", "(I)V"⟩
abbrev cX11_greatestRest : ByteArray := prog_1_method_61_code
def yX11_greatestRest : MethodName := ⟨RX11, "greatestRest", "()I"⟩
abbrev cX11_weigh : ByteArray := prog_1_method_62_code
def yX11_weigh : MethodName := ⟨RX11, "weigh", "(I)V"⟩
abbrev cX11_rowFits : ByteArray := prog_1_method_63_code
def yX11_rowFits : MethodName := ⟨RX11, "rowFits", "(I)Z"⟩
abbrev cX11_rowsCanBeTried : ByteArray := prog_1_method_64_code
def yX11_rowsCanBeTried : MethodName := ⟨RX11, "rowsCanBeTried", "()Z"⟩
abbrev cX11_holdsOut : ByteArray := prog_1_method_65_code
def yX11_holdsOut : MethodName := ⟨RX11, "holdsOut", "(I)Z"⟩
abbrev cX11_sumOfTry : ByteArray := prog_1_method_66_code
def yX11_sumOfTry : MethodName := ⟨RX11, "sumOfTry", "(II)I"⟩
abbrev cX11_rememberBefore : ByteArray := prog_1_method_67_code
def yX11_rememberBefore : MethodName := ⟨RX11, "rememberBefore", "()V"⟩
abbrev cX11_bringBack : ByteArray := prog_1_method_68_code
def yX11_bringBack : MethodName := ⟨RX11, "bringBack", "(I)V"⟩
def RX12 : String := "ParishUnionModel"
def TX12 : u_T := fun k => match k with
  | 0 => ("ParishUnionModel", "thrown", "I", false)
  | 1 => ("ParishUnionModel", "s", "[I", true)
  | 2 => ("ParishUnionModel", "kept", "[I", true)
  | 3 => ("ParishUnionModel", "image", "[I", true)
  | 4 => ("ParishUnionModel", "hasImage", "Z", false)
  | 5 => ("ParishUnionModel", "fresh", "[I", true)
  | 6 => ("ParishUnionModel", "known", "[I", true)
  | 7 => ("ParishUnionModel", "line", "[I", true)
  | 8 => ("ParishUnionModel", "lined", "I", false)
  | 9 => ("ParishUnionModel", "isSo", "[Z", true)
  | 10 => ("ParishUnionModel", "may", "[I", true)
  | 11 => ("ParishUnionModel", "act", "I", false)
  | 12 => ("ParishUnionModel", "spot", "I", false)
  | 13 => ("ParishUnionModel", "isWrong", "Z", false)
  | 14 => ("ParishUnionModel", "open", "I", false)
  | 15 => ("ParishUnionModel", "asked", "I", false)
  | 16 => ("ParishUnionModel", "ownOf", "[I", true)
  | 17 => ("ParishUnionModel", "ownWeek", "[I", true)
  | 18 => ("ParishUnionModel", "ownStamp", "[I", true)
  | 19 => ("ParishUnionModel", "stamp", "I", false)
  | 20 => ("ParishUnionModel", "weights", "[J", true)
  | 21 => ("ParishUnionModel", "rests", "[J", true)
  | 22 => ("ParishUnionModel", "shares", "[I", true)
  | _ => ("ParishUnionModel", "sums", "[J", true)
def tyX12 : Nat → FieldType := fun k => match k with
  | 0 => .int
  | 1 => .array .int
  | 2 => .array .int
  | 3 => .array .int
  | 4 => .boolean
  | 5 => .array .int
  | 6 => .array .int
  | 7 => .array .int
  | 8 => .int
  | 9 => .array .boolean
  | 10 => .array .int
  | 11 => .int
  | 12 => .int
  | 13 => .boolean
  | 14 => .int
  | 15 => .int
  | 16 => .array .int
  | 17 => .array .int
  | 18 => .array .int
  | 19 => .int
  | 20 => .array .long
  | 21 => .array .long
  | 22 => .array .int
  | _ => .array .long
abbrev wsX120 : List Cond := u_ws RX12 TX12 24
theorem nmX12 : ∀ a, a < 24 → ∀ b, b < 24 → a ≠ b → (TX12 a).2.1 ≠ (TX12 b).2.1 := by decide +kernel
theorem tyX12_ok : ∀ k, k < 24 → parseFieldDescriptor (TX12 k).2.2.1 = some (tyX12 k) := by decide +kernel
abbrev cX12_init : ByteArray := prog_14_method_1_code
def yX12_init : MethodName := ⟨RX12, "<init>", "()V"⟩
abbrev cX12_in : ByteArray := prog_14_method_3_code
def yX12_in : MethodName := ⟨RX12, "in", "(III)Z"⟩
abbrev cX12_isParish : ByteArray := prog_14_method_4_code
def yX12_isParish : MethodName := ⟨RX12, "isParish", "(I)Z"⟩
abbrev cX12_isPerson : ByteArray := prog_14_method_5_code
def yX12_isPerson : MethodName := ⟨RX12, "isPerson", "(I)Z"⟩
abbrev cX12_isBy : ByteArray := prog_14_method_6_code
def yX12_isBy : MethodName := ⟨RX12, "isBy", "(I)Z"⟩
abbrev cX12_isGone : ByteArray := prog_14_method_7_code
def yX12_isGone : MethodName := ⟨RX12, "isGone", "(I)Z"⟩
abbrev cX12_isWeek : ByteArray := prog_14_method_8_code
def yX12_isWeek : MethodName := ⟨RX12, "isWeek", "(I)Z"⟩
abbrev cX12_parish : ByteArray := prog_14_method_9_code
def yX12_parish : MethodName := ⟨RX12, "parish", "(II)I"⟩
abbrev cX12_farOf : ByteArray := prog_14_method_10_code
def yX12_farOf : MethodName := ⟨RX12, "farOf", "(II)I"⟩
abbrev cX12_road : ByteArray := prog_14_method_11_code
def yX12_road : MethodName := ⟨RX12, "road", "(III)I"⟩
abbrev cX12_far : ByteArray := prog_14_method_12_code
def yX12_far : MethodName := ⟨RX12, "far", "(II)I"⟩
abbrev cX12_person : ByteArray := prog_14_method_13_code
def yX12_person : MethodName := ⟨RX12, "person", "(IIIII)I"⟩
abbrev cX12_about : ByteArray := prog_14_method_14_code
def yX12_about : MethodName := ⟨RX12, "about", "(II)I"⟩
abbrev cX12_isRightWeek : ByteArray := prog_14_method_15_code
def yX12_isRightWeek : MethodName := ⟨RX12, "isRightWeek", "(I)Z"⟩
abbrev cX12_tells : ByteArray := prog_14_method_16_code
def yX12_tells : MethodName := ⟨RX12, "tells", "(IIIIIZ)I"⟩
abbrev cX12_enter : ByteArray := prog_14_method_17_code
def yX12_enter : MethodName := ⟨RX12, "enter", "(II)V"⟩
abbrev cX12_hire : ByteArray := prog_14_method_18_code
def yX12_hire : MethodName := ⟨RX12, "hire", "(IIIIZZ)I"⟩
abbrev cX12_rated : ByteArray := prog_14_method_19_code
def yX12_rated : MethodName := ⟨RX12, "rated", "(IIIIZ)I"⟩
abbrev cX12_wed : ByteArray := prog_14_method_20_code
def yX12_wed : MethodName := ⟨RX12, "wed", "(IIIZ)I"⟩
abbrev cX12_looks : ByteArray := prog_14_method_21_code
def yX12_looks : MethodName := ⟨RX12, "looks", "(I)V"⟩
abbrev cX12_proof : ByteArray := prog_14_method_22_code
def yX12_proof : MethodName := ⟨RX12, "proof", "(IZ)I"⟩
abbrev cX12_right : ByteArray := prog_14_method_23_code
def yX12_right : MethodName := ⟨RX12, "right", "(II)I"⟩
abbrev cX12_counted : ByteArray := prog_14_method_24_code
def yX12_counted : MethodName := ⟨RX12, "counted", "(I)I"⟩
abbrev cX12_taken : ByteArray := prog_14_method_25_code
def yX12_taken : MethodName := ⟨RX12, "taken", "(II)I"⟩
abbrev cX12_counts : ByteArray := prog_14_method_26_code
def yX12_counts : MethodName := ⟨RX12, "counts", "(I)Z"⟩
abbrev cX12_whose : ByteArray := prog_14_method_27_code
def yX12_whose : MethodName := ⟨RX12, "whose", "(II)I"⟩
abbrev cX12_gives : ByteArray := prog_14_method_28_code
def yX12_gives : MethodName := ⟨RX12, "gives", "(II)I"⟩
abbrev cX12_byBench : ByteArray := prog_14_method_29_code
def yX12_byBench : MethodName := ⟨RX12, "byBench", "(IIII)I"⟩
abbrev cX12_settle : ByteArray := prog_14_method_30_code
def yX12_settle : MethodName := ⟨RX12, "settle", "(IIII)I"⟩
abbrev cX12_many : ByteArray := prog_14_method_31_code
def yX12_many : MethodName := ⟨RX12, "many", "(I)I"⟩
abbrev cX12_maybeOf : ByteArray := prog_14_method_32_code
def yX12_maybeOf : MethodName := ⟨RX12, "maybeOf", "(IIIII)I"⟩
abbrev cX12_maybe : ByteArray := prog_14_method_33_code
def yX12_maybe : MethodName := ⟨RX12, "maybe", "(IIII)I"⟩
abbrev cX12_feed : ByteArray := prog_14_method_34_code
def yX12_feed : MethodName := ⟨RX12, "feed", "(JI)I"⟩
abbrev cX12_here : ByteArray := prog_14_method_35_code
def yX12_here : MethodName := ⟨RX12, "here", "()I"⟩
abbrev cX12_must : ByteArray := prog_14_method_36_code
def yX12_must : MethodName := ⟨RX12, "must", "(I)V"⟩
abbrev cX12_word : ByteArray := prog_14_method_37_code
def yX12_word : MethodName := ⟨RX12, "word", "(I)Ljava/lang/String;"⟩
abbrev cX12_oneWord : ByteArray := prog_14_method_38_code
def yX12_oneWord : MethodName := ⟨RX12, "oneWord", "()I"⟩
abbrev cX12_isDigit : ByteArray := prog_14_method_39_code
def yX12_isDigit : MethodName := ⟨RX12, "isDigit", "()Z"⟩
abbrev cX12_number : ByteArray := prog_14_method_40_code
def yX12_number : MethodName := ⟨RX12, "number", "(I)I"⟩
abbrev cX12_letter : ByteArray := prog_14_method_41_code
def yX12_letter : MethodName := ⟨RX12, "letter", "(III)I"⟩
abbrev cX12_stands : ByteArray := prog_14_method_42_code
def yX12_stands : MethodName := ⟨RX12, "stands", "(I)I"⟩
abbrev cX12_isAtOwn : ByteArray := prog_14_method_43_code
def yX12_isAtOwn : MethodName := ⟨RX12, "isAtOwn", "()Z"⟩
abbrev cX12_factor : ByteArray := prog_14_method_44_code
def yX12_factor : MethodName := ⟨RX12, "factor", "()Z"⟩
abbrev cX12_every : ByteArray := prog_14_method_45_code
def yX12_every : MethodName := ⟨RX12, "every", "()Z"⟩
abbrev cX12_some : ByteArray := prog_14_method_46_code
def yX12_some : MethodName := ⟨RX12, "some", "()Z"⟩
abbrev cX12_reads : ByteArray := prog_14_method_47_code
def yX12_reads : MethodName := ⟨RX12, "reads", "(I)V"⟩
abbrev cX12_readsAct : ByteArray := prog_14_method_48_code
def yX12_readsAct : MethodName := ⟨RX12, "readsAct", "(II)Z"⟩
abbrev cX12_text : ByteArray := prog_14_method_49_code
def yX12_text : MethodName := ⟨RX12, "text", "(I)I"⟩
abbrev cX12_has : ByteArray := prog_14_method_50_code
def yX12_has : MethodName := ⟨RX12, "has", "(II)Z"⟩
abbrev cX12_actOf : ByteArray := prog_14_method_51_code
def yX12_actOf : MethodName := ⟨RX12, "actOf", "(II)I"⟩
abbrev cX12_without : ByteArray := prog_14_method_52_code
def yX12_without : MethodName := ⟨RX12, "without", "(I)I"⟩
abbrev cX12_law : ByteArray := prog_14_method_53_code
def yX12_law : MethodName := ⟨RX12, "law", "(II)I"⟩
abbrev cX12_manyOf : ByteArray := prog_14_method_54_code
def yX12_manyOf : MethodName := ⟨RX12, "manyOf", "(II)I"⟩
abbrev cX12_force : ByteArray := prog_14_method_55_code
def yX12_force : MethodName := ⟨RX12, "force", "(II)I"⟩
abbrev cX12_firstOf : ByteArray := prog_14_method_56_code
def yX12_firstOf : MethodName := ⟨RX12, "firstOf", "(II)I"⟩
abbrev cX12_givenTo : ByteArray := prog_14_method_57_code
def yX12_givenTo : MethodName := ⟨RX12, "givenTo", "(I)I"⟩
abbrev cX12_wardFor : ByteArray := prog_14_method_58_code
def yX12_wardFor : MethodName := ⟨RX12, "wardFor", "(I)I"⟩
abbrev cX12_ageOf : ByteArray := prog_14_method_59_code
def yX12_ageOf : MethodName := ⟨RX12, "ageOf", "(II)I"⟩
abbrev cX12_offer : ByteArray := prog_14_method_60_code
def yX12_offer : MethodName := ⟨RX12, "offer", "(II)I"⟩
abbrev cX12_order : ByteArray := prog_14_method_61_code
def yX12_order : MethodName := ⟨RX12, "order", "(II)I"⟩
abbrev cX12_isOrder : ByteArray := prog_14_method_62_code
def yX12_isOrder : MethodName := ⟨RX12, "isOrder", "(I)Z"⟩
abbrev cX12_standsBy : ByteArray := prog_14_method_63_code
def yX12_standsBy : MethodName := ⟨RX12, "standsBy", "(III)I"⟩
abbrev cX12_appeal : ByteArray := prog_14_method_64_code
def yX12_appeal : MethodName := ⟨RX12, "appeal", "(III)I"⟩
abbrev cX12_unlike : ByteArray := prog_14_method_65_code
def yX12_unlike : MethodName := ⟨RX12, "unlike", "(I)I"⟩
abbrev cX12_carry : ByteArray := prog_14_method_66_code
def yX12_carry : MethodName := ⟨RX12, "carry", "(I)I"⟩
abbrev cX12_house : ByteArray := prog_14_method_67_code
def yX12_house : MethodName := ⟨RX12, "house", "(II)I"⟩
abbrev cX12_price : ByteArray := prog_14_method_68_code
def yX12_price : MethodName := ⟨RX12, "price", "(I)I"⟩
abbrev cX12_frost : ByteArray := prog_14_method_69_code
def yX12_frost : MethodName := ⟨RX12, "frost", "(II)I"⟩
abbrev cX12_heardIn : ByteArray := prog_14_method_70_code
def yX12_heardIn : MethodName := ⟨RX12, "heardIn", "(II)I"⟩
abbrev cX12_heard : ByteArray := prog_14_method_71_code
def yX12_heard : MethodName := ⟨RX12, "heard", "(II)I"⟩
abbrev cX12_takenIn : ByteArray := prog_14_method_72_code
def yX12_takenIn : MethodName := ⟨RX12, "takenIn", "(I)I"⟩
abbrev cX12_leaves : ByteArray := prog_14_method_73_code
def yX12_leaves : MethodName := ⟨RX12, "leaves", "(II)V"⟩
abbrev cX12_hungers : ByteArray := prog_14_method_74_code
def yX12_hungers : MethodName := ⟨RX12, "hungers", "(II)V"⟩
abbrev cX12_outside : ByteArray := prog_14_method_75_code
def yX12_outside : MethodName := ⟨RX12, "outside", "(I)V"⟩
abbrev cX12_inside : ByteArray := prog_14_method_76_code
def yX12_inside : MethodName := ⟨RX12, "inside", "(I)V"⟩
abbrev cX12_goes : ByteArray := prog_14_method_77_code
def yX12_goes : MethodName := ⟨RX12, "goes", "()V"⟩
abbrev cX12_week : ByteArray := prog_14_method_78_code
def yX12_week : MethodName := ⟨RX12, "week", "(I)I"⟩
abbrev cX12_costOf : ByteArray := prog_14_method_79_code
def yX12_costOf : MethodName := ⟨RX12, "costOf", "(I)I"⟩
abbrev cX12_gone : ByteArray := prog_14_method_80_code
def yX12_gone : MethodName := ⟨RX12, "gone", "(II)I"⟩
abbrev cX12_was : ByteArray := prog_14_method_81_code
def yX12_was : MethodName := ⟨RX12, "was", "(III)I"⟩
abbrev cX12_parts : ByteArray := prog_14_method_82_code
def yX12_parts : MethodName := ⟨RX12, "parts", "(II)V"⟩
abbrev cX12_share : ByteArray := prog_14_method_83_code
def yX12_share : MethodName := ⟨RX12, "share", "(III)I"⟩
abbrev cX12_sink : ByteArray := prog_14_method_84_code
def yX12_sink : MethodName := ⟨RX12, "sink", "(III)I"⟩
abbrev cX12_owed : ByteArray := prog_14_method_85_code
def yX12_owed : MethodName := ⟨RX12, "owed", "(IIII)I"⟩
abbrev cX12_night : ByteArray := prog_14_method_86_code
def yX12_night : MethodName := ⟨RX12, "night", "(III)I"⟩
abbrev cX12_nextNight : ByteArray := prog_14_method_87_code
def yX12_nextNight : MethodName := ⟨RX12, "nextNight", "(II)I"⟩
abbrev cX12_isOne : ByteArray := prog_14_method_88_code
def yX12_isOne : MethodName := ⟨RX12, "isOne", "(I)Z"⟩
abbrev cX12_one : ByteArray := prog_14_method_89_code
def yX12_one : MethodName := ⟨RX12, "one", "(I)I"⟩
abbrev cX12_greatest : ByteArray := prog_14_method_90_code
def yX12_greatest : MethodName := ⟨RX12, "greatest", "()I"⟩
abbrev cX12_master : ByteArray := prog_14_method_91_code
def yX12_master : MethodName := ⟨RX12, "master", "(II)I"⟩
abbrev cX12_bind : ByteArray := prog_14_method_92_code
def yX12_bind : MethodName := ⟨RX12, "bind", "(II)I"⟩
abbrev cX12_run : ByteArray := prog_14_method_93_code
def yX12_run : MethodName := ⟨RX12, "run", "(I)I"⟩
abbrev cX12_choice : ByteArray := prog_14_method_94_code
def yX12_choice : MethodName := ⟨RX12, "choice", "(III)I"⟩
abbrev cX12_frosts : ByteArray := prog_14_method_95_code
def yX12_frosts : MethodName := ⟨RX12, "frosts", "(IJI)I"⟩
abbrev cX12_keep : ByteArray := prog_14_method_96_code
def yX12_keep : MethodName := ⟨RX12, "keep", "([I[I)V"⟩
abbrev cX12_winter : ByteArray := prog_14_method_97_code
def yX12_winter : MethodName := ⟨RX12, "winter", "(I)V"⟩
abbrev cX12_costOf6 : ByteArray := prog_14_method_98_code
def yX12_costOf6 : MethodName := ⟨RX12, "costOf6", "(I)I"⟩
abbrev cX12_chooses : ByteArray := prog_14_method_99_code
def yX12_chooses : MethodName := ⟨RX12, "chooses", "(I)V"⟩
abbrev cX12_isWell : ByteArray := prog_14_method_100_code
def yX12_isWell : MethodName := ⟨RX12, "isWell", "(II)Z"⟩
abbrev cX12_plan : ByteArray := prog_14_method_101_code
def yX12_plan : MethodName := ⟨RX12, "plan", "(I)I"⟩
abbrev cX12_tried : ByteArray := prog_14_method_102_code
def yX12_tried : MethodName := ⟨RX12, "tried", "(II)I"⟩
abbrev cX12_told : ByteArray := prog_14_method_103_code
def yX12_told : MethodName := ⟨RX12, "told", "(II)I"⟩
abbrev cX12_check : ByteArray := prog_14_method_104_code
def yX12_check : MethodName := ⟨RX12, "check", "(I)I"⟩
abbrev cX12_image : ByteArray := prog_14_method_105_code
def yX12_image : MethodName := ⟨RX12, "image", "()I"⟩
abbrev cX12_undo : ByteArray := prog_14_method_106_code
def yX12_undo : MethodName := ⟨RX12, "undo", "()I"⟩
abbrev cX12_manyAt : ByteArray := prog_14_method_107_code
def yX12_manyAt : MethodName := ⟨RX12, "manyAt", "(I)I"⟩
abbrev cX12_count : ByteArray := prog_14_method_108_code
def yX12_count : MethodName := ⟨RX12, "count", "(I)I"⟩
def RL : String := "ParishUnionLaw"
abbrev cL_law : ByteArray := code
def yL_law : MethodName := ⟨RL, "law", "([I)Z"⟩
abbrev vwCl : List vw_C := [(RX0, TX0, 8), (RX1, TX1, 8), (RX2, TX2, 10), (RX3, TX3, 2), (RX4, TX4, 6), (RX5, TX5, 2), (RX6, TX6, 16), (RX7, TX7, 5), (RX8, TX8, 9), (RX9, TX9, 16), (RX10, TX10, 4), (RX11, TX11, 10), (RX12, TX12, 24)]
