section
-- ===== PART A: goes FIRST, ahead of the names: the tables' words, and 'selects' of the private methods out of them =====
/-- a private method of a class that the tables say can be made, by its rows of tables_1 -/
def lw_okq (q : MethodName × Nat) : Prop := (q.1.cls ≠ "java/lang/invoke/MethodHandle" ∧ q.1.cls ≠ "java/lang/invoke/VarHandle") ∧ Cond.instantiable q.1.cls q.2 ∈ tables_1 ∧ Cond.privateMethod q.1 ∈ tables_1 ∧ Cond.instanceMethod q.1 ∈ tables_1
theorem lw_p0 : lw_okq (⟨"ParishUnion", "isPerson", "(I)Z"⟩, 10) := ⟨⟨by decide +kernel, by decide +kernel⟩, List.mem_of_getElem? (i := 22) (by decide +kernel), List.mem_of_getElem? (i := 537) (by decide +kernel), List.mem_of_getElem? (i := 538) (by decide +kernel)⟩
theorem lw_p1 : lw_okq (⟨"ParishUnion", "isRight", "(I)Z"⟩, 10) := ⟨⟨by decide +kernel, by decide +kernel⟩, List.mem_of_getElem? (i := 22) (by decide +kernel), List.mem_of_getElem? (i := 577) (by decide +kernel), List.mem_of_getElem? (i := 578) (by decide +kernel)⟩
theorem lw_p2 : lw_okq (⟨"ParishUnion", "isEntryCount", "(I)Z"⟩, 10) := ⟨⟨by decide +kernel, by decide +kernel⟩, List.mem_of_getElem? (i := 22) (by decide +kernel), List.mem_of_getElem? (i := 610) (by decide +kernel), List.mem_of_getElem? (i := 611) (by decide +kernel)⟩
theorem lw_p3 : lw_okq (⟨"ParishUnion$Bench", "isLawful", "(LParishUnion$Union;LParishUnion$Right;)Z"⟩, 8) := ⟨⟨by decide +kernel, by decide +kernel⟩, List.mem_of_getElem? (i := 414) (by decide +kernel), List.mem_of_getElem? (i := 629) (by decide +kernel), List.mem_of_getElem? (i := 630) (by decide +kernel)⟩
theorem lw_p4 : lw_okq (⟨"ParishUnion$Bench", "lastRight", "(LParishUnion$Union;IIJ)I"⟩, 8) := ⟨⟨by decide +kernel, by decide +kernel⟩, List.mem_of_getElem? (i := 414) (by decide +kernel), List.mem_of_getElem? (i := 645) (by decide +kernel), List.mem_of_getElem? (i := 646) (by decide +kernel)⟩
theorem lw_p5 : lw_okq (⟨"ParishUnion$Bench", "note", "(II)V"⟩, 8) := ⟨⟨by decide +kernel, by decide +kernel⟩, List.mem_of_getElem? (i := 414) (by decide +kernel), List.mem_of_getElem? (i := 658) (by decide +kernel), List.mem_of_getElem? (i := 659) (by decide +kernel)⟩
theorem lw_p6 : lw_okq (⟨"ParishUnion", "readTape", "(I)I"⟩, 10) := ⟨⟨by decide +kernel, by decide +kernel⟩, List.mem_of_getElem? (i := 22) (by decide +kernel), List.mem_of_getElem? (i := 680) (by decide +kernel), List.mem_of_getElem? (i := 681) (by decide +kernel)⟩
theorem lw_p7 : lw_okq (⟨"ParishUnion$Reader", "readClause", "(LParishUnion$Act;)Z"⟩, 5) := ⟨⟨by decide +kernel, by decide +kernel⟩, List.mem_of_getElem? (i := 446) (by decide +kernel), List.mem_of_getElem? (i := 695) (by decide +kernel), List.mem_of_getElem? (i := 696) (by decide +kernel)⟩
theorem lw_p8 : lw_okq (⟨"ParishUnion$Reader", "readWord", "()I"⟩, 5) := ⟨⟨by decide +kernel, by decide +kernel⟩, List.mem_of_getElem? (i := 446) (by decide +kernel), List.mem_of_getElem? (i := 699) (by decide +kernel), List.mem_of_getElem? (i := 700) (by decide +kernel)⟩
theorem lw_p9 : lw_okq (⟨"ParishUnion$Reader", "skip", "(C)Z"⟩, 5) := ⟨⟨by decide +kernel, by decide +kernel⟩, List.mem_of_getElem? (i := 446) (by decide +kernel), List.mem_of_getElem? (i := 765) (by decide +kernel), List.mem_of_getElem? (i := 766) (by decide +kernel)⟩
theorem lw_p10 : lw_okq (⟨"ParishUnion$Reader", "readPart", "(I)I"⟩, 5) := ⟨⟨by decide +kernel, by decide +kernel⟩, List.mem_of_getElem? (i := 446) (by decide +kernel), List.mem_of_getElem? (i := 769) (by decide +kernel), List.mem_of_getElem? (i := 770) (by decide +kernel)⟩
theorem lw_p11 : lw_okq (⟨"ParishUnion$Reader", "readSign", "(Ljava/lang/String;)I"⟩, 5) := ⟨⟨by decide +kernel, by decide +kernel⟩, List.mem_of_getElem? (i := 446) (by decide +kernel), List.mem_of_getElem? (i := 774) (by decide +kernel), List.mem_of_getElem? (i := 775) (by decide +kernel)⟩
theorem lw_p12 : lw_okq (⟨"ParishUnion$Reader", "readNumber", "(I)I"⟩, 5) := ⟨⟨by decide +kernel, by decide +kernel⟩, List.mem_of_getElem? (i := 446) (by decide +kernel), List.mem_of_getElem? (i := 780) (by decide +kernel), List.mem_of_getElem? (i := 781) (by decide +kernel)⟩
theorem lw_p13 : lw_okq (⟨"ParishUnion$Reader", "readCondition", "()Z"⟩, 5) := ⟨⟨by decide +kernel, by decide +kernel⟩, List.mem_of_getElem? (i := 446) (by decide +kernel), List.mem_of_getElem? (i := 789) (by decide +kernel), List.mem_of_getElem? (i := 790) (by decide +kernel)⟩
theorem lw_p14 : lw_okq (⟨"ParishUnion$Reader", "readFact", "()Z"⟩, 5) := ⟨⟨by decide +kernel, by decide +kernel⟩, List.mem_of_getElem? (i := 446) (by decide +kernel), List.mem_of_getElem? (i := 793) (by decide +kernel), List.mem_of_getElem? (i := 794) (by decide +kernel)⟩
theorem lw_p15 : lw_okq (⟨"ParishUnion$Reader", "endNots", "()V"⟩, 5) := ⟨⟨by decide +kernel, by decide +kernel⟩, List.mem_of_getElem? (i := 446) (by decide +kernel), List.mem_of_getElem? (i := 800) (by decide +kernel), List.mem_of_getElem? (i := 801) (by decide +kernel)⟩
def lw_privs_1 : List (MethodName × Nat) := [(⟨"ParishUnion", "isPerson", "(I)Z"⟩, 10), (⟨"ParishUnion", "isRight", "(I)Z"⟩, 10), (⟨"ParishUnion", "isEntryCount", "(I)Z"⟩, 10), (⟨"ParishUnion$Bench", "isLawful", "(LParishUnion$Union;LParishUnion$Right;)Z"⟩, 8), (⟨"ParishUnion$Bench", "lastRight", "(LParishUnion$Union;IIJ)I"⟩, 8), (⟨"ParishUnion$Bench", "note", "(II)V"⟩, 8), (⟨"ParishUnion", "readTape", "(I)I"⟩, 10), (⟨"ParishUnion$Reader", "readClause", "(LParishUnion$Act;)Z"⟩, 5), (⟨"ParishUnion$Reader", "readWord", "()I"⟩, 5), (⟨"ParishUnion$Reader", "skip", "(C)Z"⟩, 5), (⟨"ParishUnion$Reader", "readPart", "(I)I"⟩, 5), (⟨"ParishUnion$Reader", "readSign", "(Ljava/lang/String;)I"⟩, 5), (⟨"ParishUnion$Reader", "readNumber", "(I)I"⟩, 5), (⟨"ParishUnion$Reader", "readCondition", "()Z"⟩, 5), (⟨"ParishUnion$Reader", "readFact", "()Z"⟩, 5), (⟨"ParishUnion$Reader", "endNots", "()V"⟩, 5)]
theorem lw_r1 : ∀ q ∈ lw_privs_1, lw_okq q := List.forall_mem_cons.mpr ⟨lw_p0, List.forall_mem_cons.mpr ⟨lw_p1, List.forall_mem_cons.mpr ⟨lw_p2, List.forall_mem_cons.mpr ⟨lw_p3, List.forall_mem_cons.mpr ⟨lw_p4, List.forall_mem_cons.mpr ⟨lw_p5, List.forall_mem_cons.mpr ⟨lw_p6, List.forall_mem_cons.mpr ⟨lw_p7, List.forall_mem_cons.mpr ⟨lw_p8, List.forall_mem_cons.mpr ⟨lw_p9, List.forall_mem_cons.mpr ⟨lw_p10, List.forall_mem_cons.mpr ⟨lw_p11, List.forall_mem_cons.mpr ⟨lw_p12, List.forall_mem_cons.mpr ⟨lw_p13, List.forall_mem_cons.mpr ⟨lw_p14, List.forall_mem_cons.mpr ⟨lw_p15, fun _ h => absurd h List.not_mem_nil⟩⟩⟩⟩⟩⟩⟩⟩⟩⟩⟩⟩⟩⟩⟩⟩
theorem lw_p16 : lw_okq (⟨"ParishUnion$Reader", "closeOne", "()V"⟩, 5) := ⟨⟨by decide +kernel, by decide +kernel⟩, List.mem_of_getElem? (i := 446) (by decide +kernel), List.mem_of_getElem? (i := 804) (by decide +kernel), List.mem_of_getElem? (i := 805) (by decide +kernel)⟩
theorem lw_p17 : lw_okq (⟨"ParishUnion", "findHomes", "()V"⟩, 10) := ⟨⟨by decide +kernel, by decide +kernel⟩, List.mem_of_getElem? (i := 22) (by decide +kernel), List.mem_of_getElem? (i := 818) (by decide +kernel), List.mem_of_getElem? (i := 819) (by decide +kernel)⟩
theorem lw_p18 : lw_okq (⟨"ParishUnion$Act", "isSo", "(ILParishUnion$Person;II)Z"⟩, 8) := ⟨⟨by decide +kernel, by decide +kernel⟩, List.mem_of_getElem? (i := 306) (by decide +kernel), List.mem_of_getElem? (i := 830) (by decide +kernel), List.mem_of_getElem? (i := 831) (by decide +kernel)⟩
theorem lw_p19 : lw_okq (⟨"ParishUnion$Act", "compares", "(II)Z"⟩, 8) := ⟨⟨by decide +kernel, by decide +kernel⟩, List.mem_of_getElem? (i := 306) (by decide +kernel), List.mem_of_getElem? (i := 838) (by decide +kernel), List.mem_of_getElem? (i := 839) (by decide +kernel)⟩
theorem lw_p20 : lw_okq (⟨"ParishUnion", "isOrder", "(I)Z"⟩, 10) := ⟨⟨by decide +kernel, by decide +kernel⟩, List.mem_of_getElem? (i := 22) (by decide +kernel), List.mem_of_getElem? (i := 860) (by decide +kernel), List.mem_of_getElem? (i := 861) (by decide +kernel)⟩
theorem lw_p21 : lw_okq (⟨"ParishUnion", "stands", "(II)Z"⟩, 10) := ⟨⟨by decide +kernel, by decide +kernel⟩, List.mem_of_getElem? (i := 22) (by decide +kernel), List.mem_of_getElem? (i := 864) (by decide +kernel), List.mem_of_getElem? (i := 865) (by decide +kernel)⟩
theorem lw_p22 : lw_okq (⟨"ParishUnion$Union", "growHungry", "()V"⟩, 16) := ⟨⟨by decide +kernel, by decide +kernel⟩, List.mem_of_getElem? (i := 30) (by decide +kernel), List.mem_of_getElem? (i := 915) (by decide +kernel), List.mem_of_getElem? (i := 916) (by decide +kernel)⟩
theorem lw_p23 : lw_okq (⟨"ParishUnion$Union", "askAtHouse", "()V"⟩, 16) := ⟨⟨by decide +kernel, by decide +kernel⟩, List.mem_of_getElem? (i := 30) (by decide +kernel), List.mem_of_getElem? (i := 930) (by decide +kernel), List.mem_of_getElem? (i := 931) (by decide +kernel)⟩
theorem lw_p24 : lw_okq (⟨"ParishUnion$Union", "eat", "()V"⟩, 16) := ⟨⟨by decide +kernel, by decide +kernel⟩, List.mem_of_getElem? (i := 30) (by decide +kernel), List.mem_of_getElem? (i := 941) (by decide +kernel), List.mem_of_getElem? (i := 942) (by decide +kernel)⟩
theorem lw_p25 : lw_okq (⟨"ParishUnion$Union", "fallIll", "()V"⟩, 16) := ⟨⟨by decide +kernel, by decide +kernel⟩, List.mem_of_getElem? (i := 30) (by decide +kernel), List.mem_of_getElem? (i := 945) (by decide +kernel), List.mem_of_getElem? (i := 946) (by decide +kernel)⟩
theorem lw_p26 : lw_okq (⟨"ParishUnion$Union", "die", "()V"⟩, 16) := ⟨⟨by decide +kernel, by decide +kernel⟩, List.mem_of_getElem? (i := 30) (by decide +kernel), List.mem_of_getElem? (i := 949) (by decide +kernel), List.mem_of_getElem? (i := 950) (by decide +kernel)⟩
theorem lw_p27 : lw_okq (⟨"ParishUnion$Union", "leaveHouse", "()V"⟩, 16) := ⟨⟨by decide +kernel, by decide +kernel⟩, List.mem_of_getElem? (i := 30) (by decide +kernel), List.mem_of_getElem? (i := 953) (by decide +kernel), List.mem_of_getElem? (i := 954) (by decide +kernel)⟩
theorem lw_p28 : lw_okq (⟨"ParishUnion", "isGone", "(I)Z"⟩, 10) := ⟨⟨by decide +kernel, by decide +kernel⟩, List.mem_of_getElem? (i := 22) (by decide +kernel), List.mem_of_getElem? (i := 972) (by decide +kernel), List.mem_of_getElem? (i := 973) (by decide +kernel)⟩
theorem lw_p29 : lw_okq (⟨"ParishUnion$Past", "mark", "(II)J"⟩, 2) := ⟨⟨by decide +kernel, by decide +kernel⟩, List.mem_of_getElem? (i := 137) (by decide +kernel), List.mem_of_getElem? (i := 989) (by decide +kernel), List.mem_of_getElem? (i := 990) (by decide +kernel)⟩
theorem lw_p30 : lw_okq (⟨"ParishUnion", "shareOut", "(I)V"⟩, 10) := ⟨⟨by decide +kernel, by decide +kernel⟩, List.mem_of_getElem? (i := 22) (by decide +kernel), List.mem_of_getElem? (i := 1016) (by decide +kernel), List.mem_of_getElem? (i := 1017) (by decide +kernel)⟩
theorem lw_p31 : lw_okq (⟨"ParishUnion", "weigh", "(I)V"⟩, 10) := ⟨⟨by decide +kernel, by decide +kernel⟩, List.mem_of_getElem? (i := 22) (by decide +kernel), List.mem_of_getElem? (i := 1020) (by decide +kernel), List.mem_of_getElem? (i := 1021) (by decide +kernel)⟩
def lw_privs_2 : List (MethodName × Nat) := [(⟨"ParishUnion$Reader", "closeOne", "()V"⟩, 5), (⟨"ParishUnion", "findHomes", "()V"⟩, 10), (⟨"ParishUnion$Act", "isSo", "(ILParishUnion$Person;II)Z"⟩, 8), (⟨"ParishUnion$Act", "compares", "(II)Z"⟩, 8), (⟨"ParishUnion", "isOrder", "(I)Z"⟩, 10), (⟨"ParishUnion", "stands", "(II)Z"⟩, 10), (⟨"ParishUnion$Union", "growHungry", "()V"⟩, 16), (⟨"ParishUnion$Union", "askAtHouse", "()V"⟩, 16), (⟨"ParishUnion$Union", "eat", "()V"⟩, 16), (⟨"ParishUnion$Union", "fallIll", "()V"⟩, 16), (⟨"ParishUnion$Union", "die", "()V"⟩, 16), (⟨"ParishUnion$Union", "leaveHouse", "()V"⟩, 16), (⟨"ParishUnion", "isGone", "(I)Z"⟩, 10), (⟨"ParishUnion$Past", "mark", "(II)J"⟩, 2), (⟨"ParishUnion", "shareOut", "(I)V"⟩, 10), (⟨"ParishUnion", "weigh", "(I)V"⟩, 10)]
theorem lw_r2 : ∀ q ∈ lw_privs_2, lw_okq q := List.forall_mem_cons.mpr ⟨lw_p16, List.forall_mem_cons.mpr ⟨lw_p17, List.forall_mem_cons.mpr ⟨lw_p18, List.forall_mem_cons.mpr ⟨lw_p19, List.forall_mem_cons.mpr ⟨lw_p20, List.forall_mem_cons.mpr ⟨lw_p21, List.forall_mem_cons.mpr ⟨lw_p22, List.forall_mem_cons.mpr ⟨lw_p23, List.forall_mem_cons.mpr ⟨lw_p24, List.forall_mem_cons.mpr ⟨lw_p25, List.forall_mem_cons.mpr ⟨lw_p26, List.forall_mem_cons.mpr ⟨lw_p27, List.forall_mem_cons.mpr ⟨lw_p28, List.forall_mem_cons.mpr ⟨lw_p29, List.forall_mem_cons.mpr ⟨lw_p30, List.forall_mem_cons.mpr ⟨lw_p31, fun _ h => absurd h List.not_mem_nil⟩⟩⟩⟩⟩⟩⟩⟩⟩⟩⟩⟩⟩⟩⟩⟩
theorem lw_p32 : lw_okq (⟨"ParishUnion", "greatestRest", "()I"⟩, 10) := ⟨⟨by decide +kernel, by decide +kernel⟩, List.mem_of_getElem? (i := 22) (by decide +kernel), List.mem_of_getElem? (i := 1031) (by decide +kernel), List.mem_of_getElem? (i := 1032) (by decide +kernel)⟩
theorem lw_p33 : lw_okq (⟨"ParishUnion", "rowsCanBeTried", "()Z"⟩, 10) := ⟨⟨by decide +kernel, by decide +kernel⟩, List.mem_of_getElem? (i := 22) (by decide +kernel), List.mem_of_getElem? (i := 1110) (by decide +kernel), List.mem_of_getElem? (i := 1111) (by decide +kernel)⟩
theorem lw_p34 : lw_okq (⟨"ParishUnion", "rowFits", "(I)Z"⟩, 10) := ⟨⟨by decide +kernel, by decide +kernel⟩, List.mem_of_getElem? (i := 22) (by decide +kernel), List.mem_of_getElem? (i := 1114) (by decide +kernel), List.mem_of_getElem? (i := 1115) (by decide +kernel)⟩
theorem lw_p35 : lw_okq (⟨"ParishUnion", "rememberBefore", "()V"⟩, 10) := ⟨⟨by decide +kernel, by decide +kernel⟩, List.mem_of_getElem? (i := 22) (by decide +kernel), List.mem_of_getElem? (i := 1118) (by decide +kernel), List.mem_of_getElem? (i := 1119) (by decide +kernel)⟩
theorem lw_p36 : lw_okq (⟨"ParishUnion", "holdsOut", "(I)Z"⟩, 10) := ⟨⟨by decide +kernel, by decide +kernel⟩, List.mem_of_getElem? (i := 22) (by decide +kernel), List.mem_of_getElem? (i := 1136) (by decide +kernel), List.mem_of_getElem? (i := 1137) (by decide +kernel)⟩
theorem lw_p37 : lw_okq (⟨"ParishUnion", "bringBack", "(I)V"⟩, 10) := ⟨⟨by decide +kernel, by decide +kernel⟩, List.mem_of_getElem? (i := 22) (by decide +kernel), List.mem_of_getElem? (i := 1149) (by decide +kernel), List.mem_of_getElem? (i := 1150) (by decide +kernel)⟩
theorem lw_p38 : lw_okq (⟨"ParishUnion", "sumOfTry", "(II)I"⟩, 10) := ⟨⟨by decide +kernel, by decide +kernel⟩, List.mem_of_getElem? (i := 22) (by decide +kernel), List.mem_of_getElem? (i := 1157) (by decide +kernel), List.mem_of_getElem? (i := 1158) (by decide +kernel)⟩
theorem lw_p39 : lw_okq (⟨"ParishUnionModel", "farOf", "(II)I"⟩, 24) := ⟨⟨by decide +kernel, by decide +kernel⟩, List.mem_of_getElem? (i := 1222) (by decide +kernel), List.mem_of_getElem? (i := 1314) (by decide +kernel), List.mem_of_getElem? (i := 1315) (by decide +kernel)⟩
theorem lw_p40 : lw_okq (⟨"ParishUnionModel", "isPerson", "(I)Z"⟩, 24) := ⟨⟨by decide +kernel, by decide +kernel⟩, List.mem_of_getElem? (i := 1222) (by decide +kernel), List.mem_of_getElem? (i := 1326) (by decide +kernel), List.mem_of_getElem? (i := 1327) (by decide +kernel)⟩
theorem lw_p41 : lw_okq (⟨"ParishUnionModel", "isRightWeek", "(I)Z"⟩, 24) := ⟨⟨by decide +kernel, by decide +kernel⟩, List.mem_of_getElem? (i := 1222) (by decide +kernel), List.mem_of_getElem? (i := 1338) (by decide +kernel), List.mem_of_getElem? (i := 1339) (by decide +kernel)⟩
theorem lw_p42 : lw_okq (⟨"ParishUnionModel", "tells", "(IIIIIZ)I"⟩, 24) := ⟨⟨by decide +kernel, by decide +kernel⟩, List.mem_of_getElem? (i := 1222) (by decide +kernel), List.mem_of_getElem? (i := 1342) (by decide +kernel), List.mem_of_getElem? (i := 1343) (by decide +kernel)⟩
theorem lw_p43 : lw_okq (⟨"ParishUnionModel", "enter", "(II)V"⟩, 24) := ⟨⟨by decide +kernel, by decide +kernel⟩, List.mem_of_getElem? (i := 1222) (by decide +kernel), List.mem_of_getElem? (i := 1346) (by decide +kernel), List.mem_of_getElem? (i := 1347) (by decide +kernel)⟩
theorem lw_p44 : lw_okq (⟨"ParishUnionModel", "looks", "(I)V"⟩, 24) := ⟨⟨by decide +kernel, by decide +kernel⟩, List.mem_of_getElem? (i := 1222) (by decide +kernel), List.mem_of_getElem? (i := 1366) (by decide +kernel), List.mem_of_getElem? (i := 1367) (by decide +kernel)⟩
theorem lw_p45 : lw_okq (⟨"ParishUnionModel", "counted", "(I)I"⟩, 24) := ⟨⟨by decide +kernel, by decide +kernel⟩, List.mem_of_getElem? (i := 1222) (by decide +kernel), List.mem_of_getElem? (i := 1374) (by decide +kernel), List.mem_of_getElem? (i := 1375) (by decide +kernel)⟩
theorem lw_p46 : lw_okq (⟨"ParishUnionModel", "isBy", "(I)Z"⟩, 24) := ⟨⟨by decide +kernel, by decide +kernel⟩, List.mem_of_getElem? (i := 1222) (by decide +kernel), List.mem_of_getElem? (i := 1382) (by decide +kernel), List.mem_of_getElem? (i := 1383) (by decide +kernel)⟩
theorem lw_p47 : lw_okq (⟨"ParishUnionModel", "byBench", "(IIII)I"⟩, 24) := ⟨⟨by decide +kernel, by decide +kernel⟩, List.mem_of_getElem? (i := 1222) (by decide +kernel), List.mem_of_getElem? (i := 1386) (by decide +kernel), List.mem_of_getElem? (i := 1387) (by decide +kernel)⟩
def lw_privs_3 : List (MethodName × Nat) := [(⟨"ParishUnion", "greatestRest", "()I"⟩, 10), (⟨"ParishUnion", "rowsCanBeTried", "()Z"⟩, 10), (⟨"ParishUnion", "rowFits", "(I)Z"⟩, 10), (⟨"ParishUnion", "rememberBefore", "()V"⟩, 10), (⟨"ParishUnion", "holdsOut", "(I)Z"⟩, 10), (⟨"ParishUnion", "bringBack", "(I)V"⟩, 10), (⟨"ParishUnion", "sumOfTry", "(II)I"⟩, 10), (⟨"ParishUnionModel", "farOf", "(II)I"⟩, 24), (⟨"ParishUnionModel", "isPerson", "(I)Z"⟩, 24), (⟨"ParishUnionModel", "isRightWeek", "(I)Z"⟩, 24), (⟨"ParishUnionModel", "tells", "(IIIIIZ)I"⟩, 24), (⟨"ParishUnionModel", "enter", "(II)V"⟩, 24), (⟨"ParishUnionModel", "looks", "(I)V"⟩, 24), (⟨"ParishUnionModel", "counted", "(I)I"⟩, 24), (⟨"ParishUnionModel", "isBy", "(I)Z"⟩, 24), (⟨"ParishUnionModel", "byBench", "(IIII)I"⟩, 24)]
theorem lw_r3 : ∀ q ∈ lw_privs_3, lw_okq q := List.forall_mem_cons.mpr ⟨lw_p32, List.forall_mem_cons.mpr ⟨lw_p33, List.forall_mem_cons.mpr ⟨lw_p34, List.forall_mem_cons.mpr ⟨lw_p35, List.forall_mem_cons.mpr ⟨lw_p36, List.forall_mem_cons.mpr ⟨lw_p37, List.forall_mem_cons.mpr ⟨lw_p38, List.forall_mem_cons.mpr ⟨lw_p39, List.forall_mem_cons.mpr ⟨lw_p40, List.forall_mem_cons.mpr ⟨lw_p41, List.forall_mem_cons.mpr ⟨lw_p42, List.forall_mem_cons.mpr ⟨lw_p43, List.forall_mem_cons.mpr ⟨lw_p44, List.forall_mem_cons.mpr ⟨lw_p45, List.forall_mem_cons.mpr ⟨lw_p46, List.forall_mem_cons.mpr ⟨lw_p47, fun _ h => absurd h List.not_mem_nil⟩⟩⟩⟩⟩⟩⟩⟩⟩⟩⟩⟩⟩⟩⟩⟩
theorem lw_p48 : lw_okq (⟨"ParishUnionModel", "whose", "(II)I"⟩, 24) := ⟨⟨by decide +kernel, by decide +kernel⟩, List.mem_of_getElem? (i := 1222) (by decide +kernel), List.mem_of_getElem? (i := 1390) (by decide +kernel), List.mem_of_getElem? (i := 1391) (by decide +kernel)⟩
theorem lw_p49 : lw_okq (⟨"ParishUnionModel", "law", "(II)I"⟩, 24) := ⟨⟨by decide +kernel, by decide +kernel⟩, List.mem_of_getElem? (i := 1222) (by decide +kernel), List.mem_of_getElem? (i := 1394) (by decide +kernel), List.mem_of_getElem? (i := 1395) (by decide +kernel)⟩
theorem lw_p50 : lw_okq (⟨"ParishUnionModel", "actOf", "(II)I"⟩, 24) := ⟨⟨by decide +kernel, by decide +kernel⟩, List.mem_of_getElem? (i := 1222) (by decide +kernel), List.mem_of_getElem? (i := 1398) (by decide +kernel), List.mem_of_getElem? (i := 1399) (by decide +kernel)⟩
theorem lw_p51 : lw_okq (⟨"ParishUnionModel", "has", "(II)Z"⟩, 24) := ⟨⟨by decide +kernel, by decide +kernel⟩, List.mem_of_getElem? (i := 1222) (by decide +kernel), List.mem_of_getElem? (i := 1402) (by decide +kernel), List.mem_of_getElem? (i := 1403) (by decide +kernel)⟩
theorem lw_p52 : lw_okq (⟨"ParishUnionModel", "counts", "(I)Z"⟩, 24) := ⟨⟨by decide +kernel, by decide +kernel⟩, List.mem_of_getElem? (i := 1222) (by decide +kernel), List.mem_of_getElem? (i := 1409) (by decide +kernel), List.mem_of_getElem? (i := 1410) (by decide +kernel)⟩
theorem lw_p53 : lw_okq (⟨"ParishUnionModel", "gives", "(II)I"⟩, 24) := ⟨⟨by decide +kernel, by decide +kernel⟩, List.mem_of_getElem? (i := 1222) (by decide +kernel), List.mem_of_getElem? (i := 1413) (by decide +kernel), List.mem_of_getElem? (i := 1414) (by decide +kernel)⟩
theorem lw_p54 : lw_okq (⟨"ParishUnionModel", "maybeOf", "(IIIII)I"⟩, 24) := ⟨⟨by decide +kernel, by decide +kernel⟩, List.mem_of_getElem? (i := 1222) (by decide +kernel), List.mem_of_getElem? (i := 1421) (by decide +kernel), List.mem_of_getElem? (i := 1422) (by decide +kernel)⟩
theorem lw_p55 : lw_okq (⟨"ParishUnionModel", "readsAct", "(II)Z"⟩, 24) := ⟨⟨by decide +kernel, by decide +kernel⟩, List.mem_of_getElem? (i := 1222) (by decide +kernel), List.mem_of_getElem? (i := 1440) (by decide +kernel), List.mem_of_getElem? (i := 1441) (by decide +kernel)⟩
theorem lw_p56 : lw_okq (⟨"ParishUnionModel", "reads", "(I)V"⟩, 24) := ⟨⟨by decide +kernel, by decide +kernel⟩, List.mem_of_getElem? (i := 1222) (by decide +kernel), List.mem_of_getElem? (i := 1444) (by decide +kernel), List.mem_of_getElem? (i := 1445) (by decide +kernel)⟩
theorem lw_p57 : lw_okq (⟨"ParishUnionModel", "oneWord", "()I"⟩, 24) := ⟨⟨by decide +kernel, by decide +kernel⟩, List.mem_of_getElem? (i := 1222) (by decide +kernel), List.mem_of_getElem? (i := 1448) (by decide +kernel), List.mem_of_getElem? (i := 1449) (by decide +kernel)⟩
theorem lw_p58 : lw_okq (⟨"ParishUnionModel", "here", "()I"⟩, 24) := ⟨⟨by decide +kernel, by decide +kernel⟩, List.mem_of_getElem? (i := 1222) (by decide +kernel), List.mem_of_getElem? (i := 1467) (by decide +kernel), List.mem_of_getElem? (i := 1468) (by decide +kernel)⟩
theorem lw_p59 : lw_okq (⟨"ParishUnionModel", "letter", "(III)I"⟩, 24) := ⟨⟨by decide +kernel, by decide +kernel⟩, List.mem_of_getElem? (i := 1222) (by decide +kernel), List.mem_of_getElem? (i := 1471) (by decide +kernel), List.mem_of_getElem? (i := 1472) (by decide +kernel)⟩
theorem lw_p60 : lw_okq (⟨"ParishUnionModel", "number", "(I)I"⟩, 24) := ⟨⟨by decide +kernel, by decide +kernel⟩, List.mem_of_getElem? (i := 1222) (by decide +kernel), List.mem_of_getElem? (i := 1475) (by decide +kernel), List.mem_of_getElem? (i := 1476) (by decide +kernel)⟩
theorem lw_p61 : lw_okq (⟨"ParishUnionModel", "isDigit", "()Z"⟩, 24) := ⟨⟨by decide +kernel, by decide +kernel⟩, List.mem_of_getElem? (i := 1222) (by decide +kernel), List.mem_of_getElem? (i := 1479) (by decide +kernel), List.mem_of_getElem? (i := 1480) (by decide +kernel)⟩
theorem lw_p62 : lw_okq (⟨"ParishUnionModel", "must", "(I)V"⟩, 24) := ⟨⟨by decide +kernel, by decide +kernel⟩, List.mem_of_getElem? (i := 1222) (by decide +kernel), List.mem_of_getElem? (i := 1483) (by decide +kernel), List.mem_of_getElem? (i := 1484) (by decide +kernel)⟩
theorem lw_p63 : lw_okq (⟨"ParishUnionModel", "some", "()Z"⟩, 24) := ⟨⟨by decide +kernel, by decide +kernel⟩, List.mem_of_getElem? (i := 1222) (by decide +kernel), List.mem_of_getElem? (i := 1487) (by decide +kernel), List.mem_of_getElem? (i := 1488) (by decide +kernel)⟩
def lw_privs_4 : List (MethodName × Nat) := [(⟨"ParishUnionModel", "whose", "(II)I"⟩, 24), (⟨"ParishUnionModel", "law", "(II)I"⟩, 24), (⟨"ParishUnionModel", "actOf", "(II)I"⟩, 24), (⟨"ParishUnionModel", "has", "(II)Z"⟩, 24), (⟨"ParishUnionModel", "counts", "(I)Z"⟩, 24), (⟨"ParishUnionModel", "gives", "(II)I"⟩, 24), (⟨"ParishUnionModel", "maybeOf", "(IIIII)I"⟩, 24), (⟨"ParishUnionModel", "readsAct", "(II)Z"⟩, 24), (⟨"ParishUnionModel", "reads", "(I)V"⟩, 24), (⟨"ParishUnionModel", "oneWord", "()I"⟩, 24), (⟨"ParishUnionModel", "here", "()I"⟩, 24), (⟨"ParishUnionModel", "letter", "(III)I"⟩, 24), (⟨"ParishUnionModel", "number", "(I)I"⟩, 24), (⟨"ParishUnionModel", "isDigit", "()Z"⟩, 24), (⟨"ParishUnionModel", "must", "(I)V"⟩, 24), (⟨"ParishUnionModel", "some", "()Z"⟩, 24)]
theorem lw_r4 : ∀ q ∈ lw_privs_4, lw_okq q := List.forall_mem_cons.mpr ⟨lw_p48, List.forall_mem_cons.mpr ⟨lw_p49, List.forall_mem_cons.mpr ⟨lw_p50, List.forall_mem_cons.mpr ⟨lw_p51, List.forall_mem_cons.mpr ⟨lw_p52, List.forall_mem_cons.mpr ⟨lw_p53, List.forall_mem_cons.mpr ⟨lw_p54, List.forall_mem_cons.mpr ⟨lw_p55, List.forall_mem_cons.mpr ⟨lw_p56, List.forall_mem_cons.mpr ⟨lw_p57, List.forall_mem_cons.mpr ⟨lw_p58, List.forall_mem_cons.mpr ⟨lw_p59, List.forall_mem_cons.mpr ⟨lw_p60, List.forall_mem_cons.mpr ⟨lw_p61, List.forall_mem_cons.mpr ⟨lw_p62, List.forall_mem_cons.mpr ⟨lw_p63, fun _ h => absurd h List.not_mem_nil⟩⟩⟩⟩⟩⟩⟩⟩⟩⟩⟩⟩⟩⟩⟩⟩
theorem lw_p64 : lw_okq (⟨"ParishUnionModel", "every", "()Z"⟩, 24) := ⟨⟨by decide +kernel, by decide +kernel⟩, List.mem_of_getElem? (i := 1222) (by decide +kernel), List.mem_of_getElem? (i := 1491) (by decide +kernel), List.mem_of_getElem? (i := 1492) (by decide +kernel)⟩
theorem lw_p65 : lw_okq (⟨"ParishUnionModel", "factor", "()Z"⟩, 24) := ⟨⟨by decide +kernel, by decide +kernel⟩, List.mem_of_getElem? (i := 1222) (by decide +kernel), List.mem_of_getElem? (i := 1495) (by decide +kernel), List.mem_of_getElem? (i := 1496) (by decide +kernel)⟩
theorem lw_p66 : lw_okq (⟨"ParishUnionModel", "isAtOwn", "()Z"⟩, 24) := ⟨⟨by decide +kernel, by decide +kernel⟩, List.mem_of_getElem? (i := 1222) (by decide +kernel), List.mem_of_getElem? (i := 1499) (by decide +kernel), List.mem_of_getElem? (i := 1500) (by decide +kernel)⟩
theorem lw_p67 : lw_okq (⟨"ParishUnionModel", "stands", "(I)I"⟩, 24) := ⟨⟨by decide +kernel, by decide +kernel⟩, List.mem_of_getElem? (i := 1222) (by decide +kernel), List.mem_of_getElem? (i := 1503) (by decide +kernel), List.mem_of_getElem? (i := 1504) (by decide +kernel)⟩
theorem lw_p68 : lw_okq (⟨"ParishUnionModel", "ageOf", "(II)I"⟩, 24) := ⟨⟨by decide +kernel, by decide +kernel⟩, List.mem_of_getElem? (i := 1222) (by decide +kernel), List.mem_of_getElem? (i := 1507) (by decide +kernel), List.mem_of_getElem? (i := 1508) (by decide +kernel)⟩
theorem lw_p69 : lw_okq (⟨"ParishUnionModel", "manyOf", "(II)I"⟩, 24) := ⟨⟨by decide +kernel, by decide +kernel⟩, List.mem_of_getElem? (i := 1222) (by decide +kernel), List.mem_of_getElem? (i := 1515) (by decide +kernel), List.mem_of_getElem? (i := 1516) (by decide +kernel)⟩
theorem lw_p70 : lw_okq (⟨"ParishUnionModel", "wardFor", "(I)I"⟩, 24) := ⟨⟨by decide +kernel, by decide +kernel⟩, List.mem_of_getElem? (i := 1222) (by decide +kernel), List.mem_of_getElem? (i := 1523) (by decide +kernel), List.mem_of_getElem? (i := 1524) (by decide +kernel)⟩
theorem lw_p71 : lw_okq (⟨"ParishUnionModel", "firstOf", "(II)I"⟩, 24) := ⟨⟨by decide +kernel, by decide +kernel⟩, List.mem_of_getElem? (i := 1222) (by decide +kernel), List.mem_of_getElem? (i := 1527) (by decide +kernel), List.mem_of_getElem? (i := 1528) (by decide +kernel)⟩
theorem lw_p72 : lw_okq (⟨"ParishUnionModel", "givenTo", "(I)I"⟩, 24) := ⟨⟨by decide +kernel, by decide +kernel⟩, List.mem_of_getElem? (i := 1222) (by decide +kernel), List.mem_of_getElem? (i := 1531) (by decide +kernel), List.mem_of_getElem? (i := 1532) (by decide +kernel)⟩
theorem lw_p73 : lw_okq (⟨"ParishUnionModel", "isOrder", "(I)Z"⟩, 24) := ⟨⟨by decide +kernel, by decide +kernel⟩, List.mem_of_getElem? (i := 1222) (by decide +kernel), List.mem_of_getElem? (i := 1543) (by decide +kernel), List.mem_of_getElem? (i := 1544) (by decide +kernel)⟩
theorem lw_p74 : lw_okq (⟨"ParishUnionModel", "standsBy", "(III)I"⟩, 24) := ⟨⟨by decide +kernel, by decide +kernel⟩, List.mem_of_getElem? (i := 1222) (by decide +kernel), List.mem_of_getElem? (i := 1547) (by decide +kernel), List.mem_of_getElem? (i := 1548) (by decide +kernel)⟩
theorem lw_p75 : lw_okq (⟨"ParishUnionModel", "heardIn", "(II)I"⟩, 24) := ⟨⟨by decide +kernel, by decide +kernel⟩, List.mem_of_getElem? (i := 1222) (by decide +kernel), List.mem_of_getElem? (i := 1575) (by decide +kernel), List.mem_of_getElem? (i := 1576) (by decide +kernel)⟩
theorem lw_p76 : lw_okq (⟨"ParishUnionModel", "goes", "()V"⟩, 24) := ⟨⟨by decide +kernel, by decide +kernel⟩, List.mem_of_getElem? (i := 1222) (by decide +kernel), List.mem_of_getElem? (i := 1583) (by decide +kernel), List.mem_of_getElem? (i := 1584) (by decide +kernel)⟩
theorem lw_p77 : lw_okq (⟨"ParishUnionModel", "outside", "(I)V"⟩, 24) := ⟨⟨by decide +kernel, by decide +kernel⟩, List.mem_of_getElem? (i := 1222) (by decide +kernel), List.mem_of_getElem? (i := 1587) (by decide +kernel), List.mem_of_getElem? (i := 1588) (by decide +kernel)⟩
theorem lw_p78 : lw_okq (⟨"ParishUnionModel", "hungers", "(II)V"⟩, 24) := ⟨⟨by decide +kernel, by decide +kernel⟩, List.mem_of_getElem? (i := 1222) (by decide +kernel), List.mem_of_getElem? (i := 1591) (by decide +kernel), List.mem_of_getElem? (i := 1592) (by decide +kernel)⟩
theorem lw_p79 : lw_okq (⟨"ParishUnionModel", "takenIn", "(I)I"⟩, 24) := ⟨⟨by decide +kernel, by decide +kernel⟩, List.mem_of_getElem? (i := 1222) (by decide +kernel), List.mem_of_getElem? (i := 1595) (by decide +kernel), List.mem_of_getElem? (i := 1596) (by decide +kernel)⟩
def lw_privs_5 : List (MethodName × Nat) := [(⟨"ParishUnionModel", "every", "()Z"⟩, 24), (⟨"ParishUnionModel", "factor", "()Z"⟩, 24), (⟨"ParishUnionModel", "isAtOwn", "()Z"⟩, 24), (⟨"ParishUnionModel", "stands", "(I)I"⟩, 24), (⟨"ParishUnionModel", "ageOf", "(II)I"⟩, 24), (⟨"ParishUnionModel", "manyOf", "(II)I"⟩, 24), (⟨"ParishUnionModel", "wardFor", "(I)I"⟩, 24), (⟨"ParishUnionModel", "firstOf", "(II)I"⟩, 24), (⟨"ParishUnionModel", "givenTo", "(I)I"⟩, 24), (⟨"ParishUnionModel", "isOrder", "(I)Z"⟩, 24), (⟨"ParishUnionModel", "standsBy", "(III)I"⟩, 24), (⟨"ParishUnionModel", "heardIn", "(II)I"⟩, 24), (⟨"ParishUnionModel", "goes", "()V"⟩, 24), (⟨"ParishUnionModel", "outside", "(I)V"⟩, 24), (⟨"ParishUnionModel", "hungers", "(II)V"⟩, 24), (⟨"ParishUnionModel", "takenIn", "(I)I"⟩, 24)]
theorem lw_r5 : ∀ q ∈ lw_privs_5, lw_okq q := List.forall_mem_cons.mpr ⟨lw_p64, List.forall_mem_cons.mpr ⟨lw_p65, List.forall_mem_cons.mpr ⟨lw_p66, List.forall_mem_cons.mpr ⟨lw_p67, List.forall_mem_cons.mpr ⟨lw_p68, List.forall_mem_cons.mpr ⟨lw_p69, List.forall_mem_cons.mpr ⟨lw_p70, List.forall_mem_cons.mpr ⟨lw_p71, List.forall_mem_cons.mpr ⟨lw_p72, List.forall_mem_cons.mpr ⟨lw_p73, List.forall_mem_cons.mpr ⟨lw_p74, List.forall_mem_cons.mpr ⟨lw_p75, List.forall_mem_cons.mpr ⟨lw_p76, List.forall_mem_cons.mpr ⟨lw_p77, List.forall_mem_cons.mpr ⟨lw_p78, List.forall_mem_cons.mpr ⟨lw_p79, fun _ h => absurd h List.not_mem_nil⟩⟩⟩⟩⟩⟩⟩⟩⟩⟩⟩⟩⟩⟩⟩⟩
theorem lw_p80 : lw_okq (⟨"ParishUnionModel", "inside", "(I)V"⟩, 24) := ⟨⟨by decide +kernel, by decide +kernel⟩, List.mem_of_getElem? (i := 1222) (by decide +kernel), List.mem_of_getElem? (i := 1599) (by decide +kernel), List.mem_of_getElem? (i := 1600) (by decide +kernel)⟩
theorem lw_p81 : lw_okq (⟨"ParishUnionModel", "leaves", "(II)V"⟩, 24) := ⟨⟨by decide +kernel, by decide +kernel⟩, List.mem_of_getElem? (i := 1222) (by decide +kernel), List.mem_of_getElem? (i := 1603) (by decide +kernel), List.mem_of_getElem? (i := 1604) (by decide +kernel)⟩
theorem lw_p82 : lw_okq (⟨"ParishUnionModel", "isGone", "(I)Z"⟩, 24) := ⟨⟨by decide +kernel, by decide +kernel⟩, List.mem_of_getElem? (i := 1222) (by decide +kernel), List.mem_of_getElem? (i := 1611) (by decide +kernel), List.mem_of_getElem? (i := 1612) (by decide +kernel)⟩
theorem lw_p83 : lw_okq (⟨"ParishUnionModel", "costOf", "(I)I"⟩, 24) := ⟨⟨by decide +kernel, by decide +kernel⟩, List.mem_of_getElem? (i := 1222) (by decide +kernel), List.mem_of_getElem? (i := 1615) (by decide +kernel), List.mem_of_getElem? (i := 1616) (by decide +kernel)⟩
theorem lw_p84 : lw_okq (⟨"ParishUnionModel", "parts", "(II)V"⟩, 24) := ⟨⟨by decide +kernel, by decide +kernel⟩, List.mem_of_getElem? (i := 1222) (by decide +kernel), List.mem_of_getElem? (i := 1627) (by decide +kernel), List.mem_of_getElem? (i := 1628) (by decide +kernel)⟩
theorem lw_p85 : lw_okq (⟨"ParishUnionModel", "isOne", "(I)Z"⟩, 24) := ⟨⟨by decide +kernel, by decide +kernel⟩, List.mem_of_getElem? (i := 1222) (by decide +kernel), List.mem_of_getElem? (i := 1649) (by decide +kernel), List.mem_of_getElem? (i := 1650) (by decide +kernel)⟩
theorem lw_p86 : lw_okq (⟨"ParishUnionModel", "nextNight", "(II)I"⟩, 24) := ⟨⟨by decide +kernel, by decide +kernel⟩, List.mem_of_getElem? (i := 1222) (by decide +kernel), List.mem_of_getElem? (i := 1653) (by decide +kernel), List.mem_of_getElem? (i := 1654) (by decide +kernel)⟩
theorem lw_p87 : lw_okq (⟨"ParishUnionModel", "costOf6", "(I)I"⟩, 24) := ⟨⟨by decide +kernel, by decide +kernel⟩, List.mem_of_getElem? (i := 1222) (by decide +kernel), List.mem_of_getElem? (i := 1686) (by decide +kernel), List.mem_of_getElem? (i := 1687) (by decide +kernel)⟩
theorem lw_p88 : lw_okq (⟨"ParishUnionModel", "isWell", "(II)Z"⟩, 24) := ⟨⟨by decide +kernel, by decide +kernel⟩, List.mem_of_getElem? (i := 1222) (by decide +kernel), List.mem_of_getElem? (i := 1690) (by decide +kernel), List.mem_of_getElem? (i := 1691) (by decide +kernel)⟩
theorem lw_p89 : lw_okq (⟨"ParishUnionModel", "keep", "([I[I)V"⟩, 24) := ⟨⟨by decide +kernel, by decide +kernel⟩, List.mem_of_getElem? (i := 1222) (by decide +kernel), List.mem_of_getElem? (i := 1694) (by decide +kernel), List.mem_of_getElem? (i := 1695) (by decide +kernel)⟩
theorem lw_p90 : lw_okq (⟨"ParishUnionModel", "chooses", "(I)V"⟩, 24) := ⟨⟨by decide +kernel, by decide +kernel⟩, List.mem_of_getElem? (i := 1222) (by decide +kernel), List.mem_of_getElem? (i := 1698) (by decide +kernel), List.mem_of_getElem? (i := 1699) (by decide +kernel)⟩
theorem lw_p91 : lw_okq (⟨"ParishUnionModel", "winter", "(I)V"⟩, 24) := ⟨⟨by decide +kernel, by decide +kernel⟩, List.mem_of_getElem? (i := 1222) (by decide +kernel), List.mem_of_getElem? (i := 1702) (by decide +kernel), List.mem_of_getElem? (i := 1703) (by decide +kernel)⟩
theorem lw_p92 : lw_okq (⟨"ParishUnionModel", "manyAt", "(I)I"⟩, 24) := ⟨⟨by decide +kernel, by decide +kernel⟩, List.mem_of_getElem? (i := 1222) (by decide +kernel), List.mem_of_getElem? (i := 1730) (by decide +kernel), List.mem_of_getElem? (i := 1731) (by decide +kernel)⟩
def lw_privs_6 : List (MethodName × Nat) := [(⟨"ParishUnionModel", "inside", "(I)V"⟩, 24), (⟨"ParishUnionModel", "leaves", "(II)V"⟩, 24), (⟨"ParishUnionModel", "isGone", "(I)Z"⟩, 24), (⟨"ParishUnionModel", "costOf", "(I)I"⟩, 24), (⟨"ParishUnionModel", "parts", "(II)V"⟩, 24), (⟨"ParishUnionModel", "isOne", "(I)Z"⟩, 24), (⟨"ParishUnionModel", "nextNight", "(II)I"⟩, 24), (⟨"ParishUnionModel", "costOf6", "(I)I"⟩, 24), (⟨"ParishUnionModel", "isWell", "(II)Z"⟩, 24), (⟨"ParishUnionModel", "keep", "([I[I)V"⟩, 24), (⟨"ParishUnionModel", "chooses", "(I)V"⟩, 24), (⟨"ParishUnionModel", "winter", "(I)V"⟩, 24), (⟨"ParishUnionModel", "manyAt", "(I)I"⟩, 24)]
theorem lw_r6 : ∀ q ∈ lw_privs_6, lw_okq q := List.forall_mem_cons.mpr ⟨lw_p80, List.forall_mem_cons.mpr ⟨lw_p81, List.forall_mem_cons.mpr ⟨lw_p82, List.forall_mem_cons.mpr ⟨lw_p83, List.forall_mem_cons.mpr ⟨lw_p84, List.forall_mem_cons.mpr ⟨lw_p85, List.forall_mem_cons.mpr ⟨lw_p86, List.forall_mem_cons.mpr ⟨lw_p87, List.forall_mem_cons.mpr ⟨lw_p88, List.forall_mem_cons.mpr ⟨lw_p89, List.forall_mem_cons.mpr ⟨lw_p90, List.forall_mem_cons.mpr ⟨lw_p91, List.forall_mem_cons.mpr ⟨lw_p92, fun _ h => absurd h List.not_mem_nil⟩⟩⟩⟩⟩⟩⟩⟩⟩⟩⟩⟩⟩
def lw_privs : List (MethodName × Nat) := lw_privs_1 ++ (lw_privs_2 ++ (lw_privs_3 ++ (lw_privs_4 ++ (lw_privs_5 ++ (lw_privs_6)))))
def lw_tbl : List Cond := k2_sels lw_privs ++ tables_1
theorem lw_privs_ok : ∀ q ∈ lw_privs, lw_okq q := by
  show ∀ q ∈ lw_privs_1 ++ (lw_privs_2 ++ (lw_privs_3 ++ (lw_privs_4 ++ (lw_privs_5 ++ (lw_privs_6))))), lw_okq q
  exact List.forall_mem_append.mpr ⟨lw_r1, List.forall_mem_append.mpr ⟨lw_r2, List.forall_mem_append.mpr ⟨lw_r3, List.forall_mem_append.mpr ⟨lw_r4, List.forall_mem_append.mpr ⟨lw_r5, lw_r6⟩⟩⟩⟩⟩
def RX0 : String := "ParishUnion$Act"
def TX0 : u_T := fun k => match k with
  | 0 => ("ParishUnion$Act", "text", "[B", true)
  | 1 => ("ParishUnion$Act", "says", "[I", true)
  | 2 => ("ParishUnion$Act", "word", "[I", true)
  | 3 => ("ParishUnion$Act", "n", "[I", true)
  | 4 => ("ParishUnion$Act", "place", "[I", true)
  | 5 => ("ParishUnion$Act", "size", "I", false)
  | 6 => ("ParishUnion$Act", "week", "I", false)
  | _ => ("ParishUnion$Act", "clauses", "I", false)
def tyX0 : Nat → FieldType := fun k => match k with
  | 0 => .array .byte
  | 1 => .array .int
  | 2 => .array .int
  | 3 => .array .int
  | 4 => .array .int
  | 5 => .int
  | 6 => .int
  | _ => .int
abbrev wsX00 : List Cond := u_ws RX0 TX0 8
theorem nmX0 : ∀ a, a < 8 → ∀ b, b < 8 → a ≠ b → (TX0 a).2.1 ≠ (TX0 b).2.1 := by decide +kernel
theorem tyX0_ok : ∀ k, k < 8 → parseFieldDescriptor (TX0 k).2.2.1 = some (tyX0 k) := by decide +kernel
abbrev cX0_init : ByteArray := prog_2_method_1_code
def yX0_init : MethodName := ⟨RX0, "<init>", "()V"⟩
abbrev cX0_begin : ByteArray := prog_2_method_2_code
def yX0_begin : MethodName := ⟨RX0, "begin", "([BII)V"⟩
abbrev cX0_copyFrom : ByteArray := prog_2_method_3_code
def yX0_copyFrom : MethodName := ⟨RX0, "copyFrom", "(LParishUnion$Act;)V"⟩
abbrev cX0_addClause : ByteArray := prog_2_method_4_code
def yX0_addClause : MethodName := ⟨RX0, "addClause", "(III)V"⟩
abbrev cX0_holds : ByteArray := prog_2_method_5_code
def yX0_holds : MethodName := ⟨RX0, "holds", "(ILParishUnion$Person;II)Z"⟩
abbrev cX0_isSo : ByteArray := prog_2_method_6_code
def yX0_isSo : MethodName := ⟨RX0, "isSo", "(ILParishUnion$Person;II)Z"⟩
abbrev cX0_compares : ByteArray := prog_2_method_7_code
def yX0_compares : MethodName := ⟨RX0, "compares", "(II)Z"⟩
def RX1 : String := "ParishUnion$Bench"
def TX1 : u_T := fun k => match k with
  | 0 => ("ParishUnion$Bench", "held", "[I", true)
  | 1 => ("ParishUnion$Bench", "lawful", "[Z", true)
  | 2 => ("ParishUnion$Bench", "doubted", "[I", true)
  | 3 => ("ParishUnion$Bench", "maybeIfSo", "[I", true)
  | 4 => ("ParishUnion$Bench", "maybeIfNot", "[I", true)
  | 5 => ("ParishUnion$Bench", "doubtedCount", "I", false)
  | 6 => ("ParishUnion$Bench", "kin", "Z", false)
  | _ => ("ParishUnion$Bench", "maybe", "I", false)
def tyX1 : Nat → FieldType := fun k => match k with
  | 0 => .array .int
  | 1 => .array .boolean
  | 2 => .array .int
  | 3 => .array .int
  | 4 => .array .int
  | 5 => .int
  | 6 => .boolean
  | _ => .int
abbrev wsX10 : List Cond := u_ws RX1 TX1 8
theorem nmX1 : ∀ a, a < 8 → ∀ b, b < 8 → a ≠ b → (TX1 a).2.1 ≠ (TX1 b).2.1 := by decide +kernel
theorem tyX1_ok : ∀ k, k < 8 → parseFieldDescriptor (TX1 k).2.2.1 = some (tyX1 k) := by decide +kernel
abbrev cX1_init : ByteArray := prog_3_method_1_code
def yX1_init : MethodName := ⟨RX1, "<init>", "()V"⟩
abbrev cX1_prepare : ByteArray := prog_3_method_2_code
def yX1_prepare : MethodName := ⟨RX1, "prepare", "(LParishUnion$Union;I)V"⟩
abbrev cX1_isLawful : ByteArray := prog_3_method_3_code
def yX1_isLawful : MethodName := ⟨RX1, "isLawful", "(LParishUnion$Union;LParishUnion$Right;)Z"⟩
abbrev cX1_whose : ByteArray := prog_3_method_4_code
def yX1_whose : MethodName := ⟨RX1, "whose", "(LParishUnion$Union;IIJ)I"⟩
abbrev cX1_lastRight : ByteArray := prog_3_method_5_code
def yX1_lastRight : MethodName := ⟨RX1, "lastRight", "(LParishUnion$Union;IIJ)I"⟩
abbrev cX1_tryBothWays : ByteArray := prog_3_method_6_code
def yX1_tryBothWays : MethodName := ⟨RX1, "tryBothWays", "(LParishUnion$Union;II)V"⟩
abbrev cX1_note : ByteArray := prog_3_method_7_code
def yX1_note : MethodName := ⟨RX1, "note", "(II)V"⟩
abbrev cX1_bestProof : ByteArray := prog_3_method_8_code
def yX1_bestProof : MethodName := ⟨RX1, "bestProof", "()I"⟩
def RX2 : String := "ParishUnion$House"
def TX2 : u_T := fun k => match k with
  | 0 => ("ParishUnion$House", "beds", "[I", true)
  | 1 => ("ParishUnion$House", "frost", "[I", true)
  | 2 => ("ParishUnion$House", "rowSize", "[I", true)
  | 3 => ("ParishUnion$House", "rowFrost", "[I", true)
  | 4 => ("ParishUnion$House", "choiceFor", "[I", true)
  | 5 => ("ParishUnion$House", "choiceMore", "[I", true)
  | 6 => ("ParishUnion$House", "choiceCost", "[I", true)
  | 7 => ("ParishUnion$House", "choices", "I", false)
  | 8 => ("ParishUnion$House", "store", "I", false)
  | _ => ("ParishUnion$House", "price", "I", false)
def tyX2 : Nat → FieldType := fun k => match k with
  | 0 => .array .int
  | 1 => .array .int
  | 2 => .array .int
  | 3 => .array .int
  | 4 => .array .int
  | 5 => .array .int
  | 6 => .array .int
  | 7 => .int
  | 8 => .int
  | _ => .int
abbrev wsX20 : List Cond := u_ws RX2 TX2 10
theorem nmX2 : ∀ a, a < 10 → ∀ b, b < 10 → a ≠ b → (TX2 a).2.1 ≠ (TX2 b).2.1 := by decide +kernel
theorem tyX2_ok : ∀ k, k < 10 → parseFieldDescriptor (TX2 k).2.2.1 = some (tyX2 k) := by decide +kernel
abbrev cX2_init : ByteArray := prog_4_method_1_code
def yX2_init : MethodName := ⟨RX2, "<init>", "()V"⟩
abbrev cX2_copyFrom : ByteArray := prog_4_method_2_code
def yX2_copyFrom : MethodName := ⟨RX2, "copyFrom", "(LParishUnion$House;)V"⟩
abbrev cX2_addChoice : ByteArray := prog_4_method_3_code
def yX2_addChoice : MethodName := ⟨RX2, "addChoice", "(III)I"⟩
abbrev cX2_costOfSet : ByteArray := prog_4_method_4_code
def yX2_costOfSet : MethodName := ⟨RX2, "costOfSet", "(I)I"⟩
abbrev cX2_doChoices : ByteArray := prog_4_method_5_code
def yX2_doChoices : MethodName := ⟨RX2, "doChoices", "(I)V"⟩
abbrev cX2_setRow : ByteArray := prog_4_method_6_code
def yX2_setRow : MethodName := ⟨RX2, "setRow", "(IJI)V"⟩
abbrev cX2_tellRow : ByteArray := prog_4_method_7_code
def yX2_tellRow : MethodName := ⟨RX2, "tellRow", "(II)V"⟩
def RX3 : String := "ParishUnion$Land"
def TX3 : u_T := fun k => match k with
  | 0 => ("ParishUnion$Land", "rents", "[I", true)
  | _ => ("ParishUnion$Land", "way", "[I", true)
def tyX3 : Nat → FieldType := fun k => match k with
  | 0 => .array .int
  | _ => .array .int
abbrev wsX30 : List Cond := u_ws RX3 TX3 2
theorem nmX3 : ∀ a, a < 2 → ∀ b, b < 2 → a ≠ b → (TX3 a).2.1 ≠ (TX3 b).2.1 := by decide +kernel
theorem tyX3_ok : ∀ k, k < 2 → parseFieldDescriptor (TX3 k).2.2.1 = some (tyX3 k) := by decide +kernel
abbrev cX3_init : ByteArray := prog_5_method_1_code
def yX3_init : MethodName := ⟨RX3, "<init>", "()V"⟩
abbrev cX3_copyFrom : ByteArray := prog_5_method_2_code
def yX3_copyFrom : MethodName := ⟨RX3, "copyFrom", "(LParishUnion$Land;)V"⟩
abbrev cX3_distance : ByteArray := prog_5_method_3_code
def yX3_distance : MethodName := ⟨RX3, "distance", "(II)I"⟩
abbrev cX3_layRoad : ByteArray := prog_5_method_4_code
def yX3_layRoad : MethodName := ⟨RX3, "layRoad", "(III)Z"⟩
def RX4 : String := "ParishUnion$Orders"
def TX4 : u_T := fun k => match k with
  | 0 => ("ParishUnion$Orders", "person", "[I", true)
  | 1 => ("ParishUnion$Orders", "from", "[I", true)
  | 2 => ("ParishUnion$Orders", "to", "[I", true)
  | 3 => ("ParishUnion$Orders", "week", "[I", true)
  | 4 => ("ParishUnion$Orders", "carried", "[Z", true)
  | _ => ("ParishUnion$Orders", "count", "I", false)
def tyX4 : Nat → FieldType := fun k => match k with
  | 0 => .array .int
  | 1 => .array .int
  | 2 => .array .int
  | 3 => .array .int
  | 4 => .array .boolean
  | _ => .int
abbrev wsX40 : List Cond := u_ws RX4 TX4 6
theorem nmX4 : ∀ a, a < 6 → ∀ b, b < 6 → a ≠ b → (TX4 a).2.1 ≠ (TX4 b).2.1 := by decide +kernel
theorem tyX4_ok : ∀ k, k < 6 → parseFieldDescriptor (TX4 k).2.2.1 = some (tyX4 k) := by decide +kernel
abbrev cX4_init : ByteArray := prog_6_method_1_code
def yX4_init : MethodName := ⟨RX4, "<init>", "()V"⟩
abbrev cX4_copyFrom : ByteArray := prog_6_method_2_code
def yX4_copyFrom : MethodName := ⟨RX4, "copyFrom", "(LParishUnion$Orders;)V"⟩
abbrev cX4_write : ByteArray := prog_6_method_3_code
def yX4_write : MethodName := ⟨RX4, "write", "(IIII)I"⟩
def RX5 : String := "ParishUnion$Past"
def TX5 : u_T := fun k => match k with
  | 0 => ("ParishUnion$Past", "sums", "[I", true)
  | _ => ("ParishUnion$Past", "marks", "[J", true)
def tyX5 : Nat → FieldType := fun k => match k with
  | 0 => .array .int
  | _ => .array .long
abbrev wsX50 : List Cond := u_ws RX5 TX5 2
theorem nmX5 : ∀ a, a < 2 → ∀ b, b < 2 → a ≠ b → (TX5 a).2.1 ≠ (TX5 b).2.1 := by decide +kernel
theorem tyX5_ok : ∀ k, k < 2 → parseFieldDescriptor (TX5 k).2.2.1 = some (tyX5 k) := by decide +kernel
abbrev cX5_init : ByteArray := prog_7_method_1_code
def yX5_init : MethodName := ⟨RX5, "<init>", "()V"⟩
abbrev cX5_copyFrom : ByteArray := prog_7_method_2_code
def yX5_copyFrom : MethodName := ⟨RX5, "copyFrom", "(LParishUnion$Past;I)V"⟩
abbrev cX5_open : ByteArray := prog_7_method_3_code
def yX5_open : MethodName := ⟨RX5, "open", "(I)V"⟩
abbrev cX5_add : ByteArray := prog_7_method_4_code
def yX5_add : MethodName := ⟨RX5, "add", "(III)V"⟩
abbrev cX5_write : ByteArray := prog_7_method_5_code
def yX5_write : MethodName := ⟨RX5, "write", "(IILParishUnion$Person;)V"⟩
abbrev cX5_close : ByteArray := prog_7_method_6_code
def yX5_close : MethodName := ⟨RX5, "close", "(I)V"⟩
abbrev cX5_sum : ByteArray := prog_7_method_7_code
def yX5_sum : MethodName := ⟨RX5, "sum", "(II)I"⟩
abbrev cX5_mark : ByteArray := prog_7_method_8_code
def yX5_mark : MethodName := ⟨RX5, "mark", "(II)J"⟩
abbrev cX5_wasThere : ByteArray := prog_7_method_9_code
def yX5_wasThere : MethodName := ⟨RX5, "wasThere", "(II)Z"⟩
abbrev cX5_placeOf : ByteArray := prog_7_method_10_code
def yX5_placeOf : MethodName := ⟨RX5, "placeOf", "(II)I"⟩
abbrev cX5_hasAsked : ByteArray := prog_7_method_11_code
def yX5_hasAsked : MethodName := ⟨RX5, "hasAsked", "(II)Z"⟩
abbrev cX5_eatenBy : ByteArray := prog_7_method_12_code
def yX5_eatenBy : MethodName := ⟨RX5, "eatenBy", "(II)I"⟩
abbrev cX5_givenTo : ByteArray := prog_7_method_13_code
def yX5_givenTo : MethodName := ⟨RX5, "givenTo", "(II)I"⟩
abbrev cX5_wasHelped : ByteArray := prog_7_method_14_code
def yX5_wasHelped : MethodName := ⟨RX5, "wasHelped", "(II)Z"⟩
def RX6 : String := "ParishUnion$Person"
def TX6 : u_T := fun k => match k with
  | 0 => ("ParishUnion$Person", "sex", "I", false)
  | 1 => ("ParishUnion$Person", "born", "I", false)
  | 2 => ("ParishUnion$Person", "birthplace", "I", false)
  | 3 => ("ParishUnion$Person", "father", "I", false)
  | 4 => ("ParishUnion$Person", "strength", "I", false)
  | 5 => ("ParishUnion$Person", "at", "I", false)
  | 6 => ("ParishUnion$Person", "hunger", "I", false)
  | 7 => ("ParishUnion$Person", "ill", "I", false)
  | 8 => ("ParishUnion$Person", "ward", "I", false)
  | 9 => ("ParishUnion$Person", "master", "I", false)
  | 10 => ("ParishUnion$Person", "askedFrom", "I", false)
  | 11 => ("ParishUnion$Person", "toldAt", "I", false)
  | 12 => ("ParishUnion$Person", "eaten", "I", false)
  | 13 => ("ParishUnion$Person", "given", "I", false)
  | 14 => ("ParishUnion$Person", "asked", "Z", false)
  | _ => ("ParishUnion$Person", "home", "I", false)
def tyX6 : Nat → FieldType := fun k => match k with
  | 0 => .int
  | 1 => .int
  | 2 => .int
  | 3 => .int
  | 4 => .int
  | 5 => .int
  | 6 => .int
  | 7 => .int
  | 8 => .int
  | 9 => .int
  | 10 => .int
  | 11 => .int
  | 12 => .int
  | 13 => .int
  | 14 => .boolean
  | _ => .int
abbrev wsX60 : List Cond := u_ws RX6 TX6 16
theorem nmX6 : ∀ a, a < 16 → ∀ b, b < 16 → a ≠ b → (TX6 a).2.1 ≠ (TX6 b).2.1 := by decide +kernel
theorem tyX6_ok : ∀ k, k < 16 → parseFieldDescriptor (TX6 k).2.2.1 = some (tyX6 k) := by decide +kernel
abbrev cX6_init : ByteArray := prog_8_method_1_code
def yX6_init : MethodName := ⟨RX6, "<init>", "()V"⟩
abbrev cX6_begin : ByteArray := prog_8_method_2_code
def yX6_begin : MethodName := ⟨RX6, "begin", "(IIIII)V"⟩
abbrev cX6_copyFrom : ByteArray := prog_8_method_3_code
def yX6_copyFrom : MethodName := ⟨RX6, "copyFrom", "(LParishUnion$Person;)V"⟩
abbrev cX6_beginWeek : ByteArray := prog_8_method_4_code
def yX6_beginWeek : MethodName := ⟨RX6, "beginWeek", "()V"⟩
abbrev cX6_isAtParish : ByteArray := prog_8_method_5_code
def yX6_isAtParish : MethodName := ⟨RX6, "isAtParish", "()Z"⟩
abbrev cX6_goTo : ByteArray := prog_8_method_6_code
def yX6_goTo : MethodName := ⟨RX6, "goTo", "(I)V"⟩
abbrev cX6_ageIn : ByteArray := prog_8_method_7_code
def yX6_ageIn : MethodName := ⟨RX6, "ageIn", "(I)I"⟩
def RX7 : String := "ParishUnion$Reader"
def TX7 : u_T := fun k => match k with
  | 0 => ("ParishUnion$Reader", "text", "[B", false)
  | 1 => ("ParishUnion$Reader", "size", "I", false)
  | 2 => ("ParishUnion$Reader", "place", "I", false)
  | 3 => ("ParishUnion$Reader", "open", "I", false)
  | _ => ("ParishUnion$Reader", "nots", "I", false)
def tyX7 : Nat → FieldType := fun k => match k with
  | 0 => .array .byte
  | 1 => .int
  | 2 => .int
  | 3 => .int
  | _ => .int
abbrev wsX70 : List Cond := u_ws RX7 TX7 5
theorem nmX7 : ∀ a, a < 5 → ∀ b, b < 5 → a ≠ b → (TX7 a).2.1 ≠ (TX7 b).2.1 := by decide +kernel
theorem tyX7_ok : ∀ k, k < 5 → parseFieldDescriptor (TX7 k).2.2.1 = some (tyX7 k) := by decide +kernel
abbrev cX7_init : ByteArray := prog_9_method_1_code
def yX7_init : MethodName := ⟨RX7, "<init>", "()V"⟩
abbrev cX7_read : ByteArray := prog_9_method_2_code
def yX7_read : MethodName := ⟨RX7, "read", "(LParishUnion$Act;)I"⟩
abbrev cX7_readClause : ByteArray := prog_9_method_3_code
def yX7_readClause : MethodName := ⟨RX7, "readClause", "(LParishUnion$Act;)Z"⟩
abbrev cX7_readWord : ByteArray := prog_9_method_4_code
def yX7_readWord : MethodName := ⟨RX7, "readWord", "()I"⟩
abbrev cX7_nameOf : ByteArray := prog_9_method_5_code
def yX7_nameOf : MethodName := ⟨RX7, "nameOf", "(I)Ljava/lang/String;"⟩
abbrev cX7_readPart : ByteArray := prog_9_method_6_code
def yX7_readPart : MethodName := ⟨RX7, "readPart", "(I)I"⟩
abbrev cX7_readCondition : ByteArray := prog_9_method_7_code
def yX7_readCondition : MethodName := ⟨RX7, "readCondition", "()Z"⟩
abbrev cX7_endNots : ByteArray := prog_9_method_8_code
def yX7_endNots : MethodName := ⟨RX7, "endNots", "()V"⟩
abbrev cX7_closeOne : ByteArray := prog_9_method_9_code
def yX7_closeOne : MethodName := ⟨RX7, "closeOne", "()V"⟩
abbrev cX7_readFact : ByteArray := prog_9_method_10_code
def yX7_readFact : MethodName := ⟨RX7, "readFact", "()Z"⟩
abbrev cX7_skip : ByteArray := prog_9_method_11_code
def yX7_skip : MethodName := ⟨RX7, "skip", "(C)Z"⟩
abbrev cX7_readSign : ByteArray := prog_9_method_12_code
def yX7_readSign : MethodName := ⟨RX7, "readSign", "(Ljava/lang/String;)I"⟩
abbrev cX7_readNumber : ByteArray := prog_9_method_13_code
def yX7_readNumber : MethodName := ⟨RX7, "readNumber", "(I)I"⟩
def RX8 : String := "ParishUnion$Right"
def TX8 : u_T := fun k => match k with
  | 0 => ("ParishUnion$Right", "kind", "I", false)
  | 1 => ("ParishUnion$Right", "person", "I", false)
  | 2 => ("ParishUnion$Right", "place", "I", false)
  | 3 => ("ParishUnion$Right", "n", "I", false)
  | 4 => ("ParishUnion$Right", "week", "I", false)
  | 5 => ("ParishUnion$Right", "sure", "Z", false)
  | 6 => ("ParishUnion$Right", "toldEntry", "I", false)
  | 7 => ("ParishUnion$Right", "proofEntry", "I", false)
  | _ => ("ParishUnion$Right", "proved", "Z", false)
def tyX8 : Nat → FieldType := fun k => match k with
  | 0 => .int
  | 1 => .int
  | 2 => .int
  | 3 => .int
  | 4 => .int
  | 5 => .boolean
  | 6 => .int
  | 7 => .int
  | _ => .boolean
abbrev wsX80 : List Cond := u_ws RX8 TX8 9
theorem nmX8 : ∀ a, a < 9 → ∀ b, b < 9 → a ≠ b → (TX8 a).2.1 ≠ (TX8 b).2.1 := by decide +kernel
theorem tyX8_ok : ∀ k, k < 9 → parseFieldDescriptor (TX8 k).2.2.1 = some (tyX8 k) := by decide +kernel
abbrev cX8_init : ByteArray := prog_10_method_1_code
def yX8_init : MethodName := ⟨RX8, "<init>", "()V"⟩
abbrev cX8_begin : ByteArray := prog_10_method_2_code
def yX8_begin : MethodName := ⟨RX8, "begin", "(IIIII)V"⟩
abbrev cX8_copyFrom : ByteArray := prog_10_method_3_code
def yX8_copyFrom : MethodName := ⟨RX8, "copyFrom", "(LParishUnion$Right;)V"⟩
abbrev cX8_heldBy : ByteArray := prog_10_method_4_code
def yX8_heldBy : MethodName := ⟨RX8, "heldBy", "(I)I"⟩
abbrev cX8_isUnder : ByteArray := prog_10_method_5_code
def yX8_isUnder : MethodName := ⟨RX8, "isUnder", "(I)Z"⟩
abbrev cX8_worth : ByteArray := prog_10_method_6_code
def yX8_worth : MethodName := ⟨RX8, "worth", "()I"⟩
def RX9 : String := "ParishUnion$Union"
def TX9 : u_T := fun k => match k with
  | 0 => ("ParishUnion$Union", "land", "LParishUnion$Land;", true)
  | 1 => ("ParishUnion$Union", "persons", "[LParishUnion$Person;", true)
  | 2 => ("ParishUnion$Union", "rights", "[LParishUnion$Right;", true)
  | 3 => ("ParishUnion$Union", "acts", "[LParishUnion$Act;", true)
  | 4 => ("ParishUnion$Union", "tape", "[B", true)
  | 5 => ("ParishUnion$Union", "orders", "LParishUnion$Orders;", true)
  | 6 => ("ParishUnion$Union", "house", "LParishUnion$House;", true)
  | 7 => ("ParishUnion$Union", "past", "LParishUnion$Past;", true)
  | 8 => ("ParishUnion$Union", "vagrants", "LParishUnion$Vagrants;", true)
  | 9 => ("ParishUnion$Union", "rooms", "[I", true)
  | 10 => ("ParishUnion$Union", "personCount", "I", false)
  | 11 => ("ParishUnion$Union", "rightCount", "I", false)
  | 12 => ("ParishUnion$Union", "entries", "I", false)
  | 13 => ("ParishUnion$Union", "actCount", "I", false)
  | 14 => ("ParishUnion$Union", "tapeSize", "I", false)
  | _ => ("ParishUnion$Union", "now", "I", false)
def tyX9 : Nat → FieldType := fun k => match k with
  | 0 => .object "ParishUnion$Land"
  | 1 => .array (.object "ParishUnion$Person")
  | 2 => .array (.object "ParishUnion$Right")
  | 3 => .array (.object "ParishUnion$Act")
  | 4 => .array .byte
  | 5 => .object "ParishUnion$Orders"
  | 6 => .object "ParishUnion$House"
  | 7 => .object "ParishUnion$Past"
  | 8 => .object "ParishUnion$Vagrants"
  | 9 => .array .int
  | 10 => .int
  | 11 => .int
  | 12 => .int
  | 13 => .int
  | 14 => .int
  | _ => .int
abbrev wsX90 : List Cond := u_ws RX9 TX9 16
theorem nmX9 : ∀ a, a < 16 → ∀ b, b < 16 → a ≠ b → (TX9 a).2.1 ≠ (TX9 b).2.1 := by decide +kernel
theorem tyX9_ok : ∀ k, k < 16 → parseFieldDescriptor (TX9 k).2.2.1 = some (tyX9 k) := by decide +kernel
abbrev cX9_init : ByteArray := prog_11_method_1_code
def yX9_init : MethodName := ⟨RX9, "<init>", "()V"⟩
abbrev cX9_copyFrom : ByteArray := prog_11_method_2_code
def yX9_copyFrom : MethodName := ⟨RX9, "copyFrom", "(LParishUnion$Union;)V"⟩
abbrev cX9_tellRight : ByteArray := prog_11_method_3_code
def yX9_tellRight : MethodName := ⟨RX9, "tellRight", "(IIIIIZ)I"⟩
abbrev cX9_actInForce : ByteArray := prog_11_method_4_code
def yX9_actInForce : MethodName := ⟨RX9, "actInForce", "(II)I"⟩
abbrev cX9_law : ByteArray := prog_11_method_5_code
def yX9_law : MethodName := ⟨RX9, "law", "(II)I"⟩
abbrev cX9_firstClause : ByteArray := prog_11_method_6_code
def yX9_firstClause : MethodName := ⟨RX9, "firstClause", "(ILParishUnion$Person;)I"⟩
abbrev cX9_personsAt : ByteArray := prog_11_method_7_code
def yX9_personsAt : MethodName := ⟨RX9, "personsAt", "(I)I"⟩
abbrev cX9_boundTo : ByteArray := prog_11_method_8_code
def yX9_boundTo : MethodName := ⟨RX9, "boundTo", "(I)I"⟩
abbrev cX9_bedsTaken : ByteArray := prog_11_method_9_code
def yX9_bedsTaken : MethodName := ⟨RX9, "bedsTaken", "(I)I"⟩
abbrev cX9_newsIn : ByteArray := prog_11_method_10_code
def yX9_newsIn : MethodName := ⟨RX9, "newsIn", "(II)I"⟩
abbrev cX9_costOf : ByteArray := prog_11_method_11_code
def yX9_costOf : MethodName := ⟨RX9, "costOf", "(I)I"⟩
abbrev cX9_goBy : ByteArray := prog_11_method_12_code
def yX9_goBy : MethodName := ⟨RX9, "goBy", "(I)V"⟩
abbrev cX9_growHungry : ByteArray := prog_11_method_13_code
def yX9_growHungry : MethodName := ⟨RX9, "growHungry", "()V"⟩
abbrev cX9_askAtHouse : ByteArray := prog_11_method_14_code
def yX9_askAtHouse : MethodName := ⟨RX9, "askAtHouse", "()V"⟩
abbrev cX9_eat : ByteArray := prog_11_method_15_code
def yX9_eat : MethodName := ⟨RX9, "eat", "()V"⟩
abbrev cX9_fallIll : ByteArray := prog_11_method_16_code
def yX9_fallIll : MethodName := ⟨RX9, "fallIll", "()V"⟩
abbrev cX9_die : ByteArray := prog_11_method_17_code
def yX9_die : MethodName := ⟨RX9, "die", "()V"⟩
abbrev cX9_leaveHouse : ByteArray := prog_11_method_18_code
def yX9_leaveHouse : MethodName := ⟨RX9, "leaveHouse", "()V"⟩
def RX10 : String := "ParishUnion$Vagrants"
def TX10 : u_T := fun k => match k with
  | 0 => ("ParishUnion$Vagrants", "name", "[I", true)
  | 1 => ("ParishUnion$Vagrants", "parish", "[I", true)
  | 2 => ("ParishUnion$Vagrants", "week", "[I", true)
  | _ => ("ParishUnion$Vagrants", "count", "I", false)
def tyX10 : Nat → FieldType := fun k => match k with
  | 0 => .array .int
  | 1 => .array .int
  | 2 => .array .int
  | _ => .int
abbrev wsX100 : List Cond := u_ws RX10 TX10 4
theorem nmX10 : ∀ a, a < 4 → ∀ b, b < 4 → a ≠ b → (TX10 a).2.1 ≠ (TX10 b).2.1 := by decide +kernel
theorem tyX10_ok : ∀ k, k < 4 → parseFieldDescriptor (TX10 k).2.2.1 = some (tyX10 k) := by decide +kernel
abbrev cX10_init : ByteArray := prog_12_method_1_code
def yX10_init : MethodName := ⟨RX10, "<init>", "()V"⟩
abbrev cX10_copyFrom : ByteArray := prog_12_method_2_code
def yX10_copyFrom : MethodName := ⟨RX10, "copyFrom", "(LParishUnion$Vagrants;)V"⟩
abbrev cX10_sleep : ByteArray := prog_12_method_3_code
def yX10_sleep : MethodName := ⟨RX10, "sleep", "(III)V"⟩
abbrev cX10_mayBeOne : ByteArray := prog_12_method_4_code
def yX10_mayBeOne : MethodName := ⟨RX10, "mayBeOne", "(ILParishUnion$Land;)Z"⟩
abbrev cX10_greatestSet : ByteArray := prog_12_method_5_code
def yX10_greatestSet : MethodName := ⟨RX10, "greatestSet", "(LParishUnion$Land;)I"⟩
def RX11 : String := "ParishUnion"
def TX11 : u_T := fun k => match k with
  | 0 => ("ParishUnion", "union", "LParishUnion$Union;", true)
  | 1 => ("ParishUnion", "bench", "LParishUnion$Bench;", true)
  | 2 => ("ParishUnion", "reader", "LParishUnion$Reader;", true)
  | 3 => ("ParishUnion", "personsBefore", "[LParishUnion$Person;", true)
  | 4 => ("ParishUnion", "houseBefore", "LParishUnion$House;", true)
  | 5 => ("ParishUnion", "weights", "[J", true)
  | 6 => ("ParishUnion", "rests", "[J", true)
  | 7 => ("ParishUnion", "shares", "[I", true)
  | 8 => ("ParishUnion", "burdens", "[J", true)
  | _ => ("ParishUnion", "kept", "LParishUnion$Union;", false)
def tyX11 : Nat → FieldType := fun k => match k with
  | 0 => .object "ParishUnion$Union"
  | 1 => .object "ParishUnion$Bench"
  | 2 => .object "ParishUnion$Reader"
  | 3 => .array (.object "ParishUnion$Person")
  | 4 => .object "ParishUnion$House"
  | 5 => .array .long
  | 6 => .array .long
  | 7 => .array .int
  | 8 => .array .long
  | _ => .object "ParishUnion$Union"
abbrev wsX110 : List Cond := u_ws RX11 TX11 10
theorem nmX11 : ∀ a, a < 10 → ∀ b, b < 10 → a ≠ b → (TX11 a).2.1 ≠ (TX11 b).2.1 := by decide +kernel
theorem tyX11_ok : ∀ k, k < 10 → parseFieldDescriptor (TX11 k).2.2.1 = some (tyX11 k) := by decide +kernel
abbrev cX11_init : ByteArray := prog_1_method_1_code
def yX11_init : MethodName := ⟨RX11, "<init>", "()V"⟩
abbrev cX11_parish : ByteArray := prog_1_method_2_code
def yX11_parish : MethodName := ⟨RX11, "parish", "(II)I"⟩
abbrev cX11_road : ByteArray := prog_1_method_3_code
def yX11_road : MethodName := ⟨RX11, "road", "(III)I"⟩
abbrev cX11_far : ByteArray := prog_1_method_4_code
def yX11_far : MethodName := ⟨RX11, "far", "(II)I"⟩
abbrev cX11_person : ByteArray := prog_1_method_5_code
def yX11_person : MethodName := ⟨RX11, "person", "(IIIII)I"⟩
abbrev cX11_about : ByteArray := prog_1_method_6_code
def yX11_about : MethodName := ⟨RX11, "about", "(II)I"⟩
abbrev cX11_hire : ByteArray := prog_1_method_7_code
def yX11_hire : MethodName := ⟨RX11, "hire", "(IIIIZZ)I"⟩
abbrev cX11_rated : ByteArray := prog_1_method_8_code
def yX11_rated : MethodName := ⟨RX11, "rated", "(IIIIZ)I"⟩
abbrev cX11_wed : ByteArray := prog_1_method_9_code
def yX11_wed : MethodName := ⟨RX11, "wed", "(IIIZ)I"⟩
abbrev cX11_proof : ByteArray := prog_1_method_10_code
def yX11_proof : MethodName := ⟨RX11, "proof", "(IZ)I"⟩
abbrev cX11_right : ByteArray := prog_1_method_11_code
def yX11_right : MethodName := ⟨RX11, "right", "(II)I"⟩
abbrev cX11_taken : ByteArray := prog_1_method_12_code
def yX11_taken : MethodName := ⟨RX11, "taken", "(II)I"⟩
abbrev cX11_settle : ByteArray := prog_1_method_13_code
def yX11_settle : MethodName := ⟨RX11, "settle", "(IIII)I"⟩
abbrev cX11_maybe : ByteArray := prog_1_method_14_code
def yX11_maybe : MethodName := ⟨RX11, "maybe", "(IIII)I"⟩
abbrev cX11_feed : ByteArray := prog_1_method_15_code
def yX11_feed : MethodName := ⟨RX11, "feed", "(JI)I"⟩
abbrev cX11_text : ByteArray := prog_1_method_16_code
def yX11_text : MethodName := ⟨RX11, "text", "(I)I"⟩
abbrev cX11_force : ByteArray := prog_1_method_17_code
def yX11_force : MethodName := ⟨RX11, "force", "(II)I"⟩
abbrev cX11_offer : ByteArray := prog_1_method_18_code
def yX11_offer : MethodName := ⟨RX11, "offer", "(II)I"⟩
abbrev cX11_order : ByteArray := prog_1_method_19_code
def yX11_order : MethodName := ⟨RX11, "order", "(II)I"⟩
abbrev cX11_appeal : ByteArray := prog_1_method_20_code
def yX11_appeal : MethodName := ⟨RX11, "appeal", "(III)I"⟩
abbrev cX11_unlike : ByteArray := prog_1_method_21_code
def yX11_unlike : MethodName := ⟨RX11, "unlike", "(I)I"⟩
abbrev cX11_carry : ByteArray := prog_1_method_22_code
def yX11_carry : MethodName := ⟨RX11, "carry", "(I)I"⟩
abbrev cX11_house : ByteArray := prog_1_method_23_code
def yX11_house : MethodName := ⟨RX11, "house", "(II)I"⟩
abbrev cX11_price : ByteArray := prog_1_method_24_code
def yX11_price : MethodName := ⟨RX11, "price", "(I)I"⟩
abbrev cX11_frost : ByteArray := prog_1_method_25_code
def yX11_frost : MethodName := ⟨RX11, "frost", "(II)I"⟩
abbrev cX11_heard : ByteArray := prog_1_method_26_code
def yX11_heard : MethodName := ⟨RX11, "heard", "(II)I"⟩
abbrev cX11_week : ByteArray := prog_1_method_27_code
def yX11_week : MethodName := ⟨RX11, "week", "(I)I"⟩
abbrev cX11_gone : ByteArray := prog_1_method_28_code
def yX11_gone : MethodName := ⟨RX11, "gone", "(II)I"⟩
abbrev cX11_was : ByteArray := prog_1_method_29_code
def yX11_was : MethodName := ⟨RX11, "was", "(III)I"⟩
abbrev cX11_share : ByteArray := prog_1_method_30_code
def yX11_share : MethodName := ⟨RX11, "share", "(III)I"⟩
abbrev cX11_sink : ByteArray := prog_1_method_31_code
def yX11_sink : MethodName := ⟨RX11, "sink", "(III)I"⟩
abbrev cX11_owed : ByteArray := prog_1_method_32_code
def yX11_owed : MethodName := ⟨RX11, "owed", "(IIII)I"⟩
abbrev cX11_night : ByteArray := prog_1_method_33_code
def yX11_night : MethodName := ⟨RX11, "night", "(III)I"⟩
abbrev cX11_one : ByteArray := prog_1_method_34_code
def yX11_one : MethodName := ⟨RX11, "one", "(I)I"⟩
abbrev cX11_greatest : ByteArray := prog_1_method_35_code
def yX11_greatest : MethodName := ⟨RX11, "greatest", "()I"⟩
abbrev cX11_master : ByteArray := prog_1_method_36_code
def yX11_master : MethodName := ⟨RX11, "master", "(II)I"⟩
abbrev cX11_bind : ByteArray := prog_1_method_37_code
def yX11_bind : MethodName := ⟨RX11, "bind", "(II)I"⟩
abbrev cX11_run : ByteArray := prog_1_method_38_code
def yX11_run : MethodName := ⟨RX11, "run", "(I)I"⟩
abbrev cX11_choice : ByteArray := prog_1_method_39_code
def yX11_choice : MethodName := ⟨RX11, "choice", "(III)I"⟩
abbrev cX11_frosts : ByteArray := prog_1_method_40_code
def yX11_frosts : MethodName := ⟨RX11, "frosts", "(IJI)I"⟩
abbrev cX11_plan : ByteArray := prog_1_method_41_code
def yX11_plan : MethodName := ⟨RX11, "plan", "(I)I"⟩
abbrev cX11_tried : ByteArray := prog_1_method_42_code
def yX11_tried : MethodName := ⟨RX11, "tried", "(II)I"⟩
abbrev cX11_told : ByteArray := prog_1_method_43_code
def yX11_told : MethodName := ⟨RX11, "told", "(II)I"⟩
abbrev cX11_check : ByteArray := prog_1_method_44_code
def yX11_check : MethodName := ⟨RX11, "check", "(I)I"⟩
abbrev cX11_image : ByteArray := prog_1_method_45_code
def yX11_image : MethodName := ⟨RX11, "image", "()I"⟩
abbrev cX11_undo : ByteArray := prog_1_method_46_code
def yX11_undo : MethodName := ⟨RX11, "undo", "()I"⟩
abbrev cX11_count : ByteArray := prog_1_method_47_code
def yX11_count : MethodName := ⟨RX11, "count", "(I)I"⟩
abbrev cX11_within : ByteArray := prog_1_method_48_code
def yX11_within : MethodName := ⟨RX11, "within", "(III)Z"⟩
abbrev cX11_isParish : ByteArray := prog_1_method_49_code
def yX11_isParish : MethodName := ⟨RX11, "isParish", "(I)Z"⟩
abbrev cX11_isBench : ByteArray := prog_1_method_50_code
def yX11_isBench : MethodName := ⟨RX11, "isBench", "(I)Z"⟩
abbrev cX11_isPerson : ByteArray := prog_1_method_51_code
def yX11_isPerson : MethodName := ⟨RX11, "isPerson", "(I)Z"⟩
abbrev cX11_isRight : ByteArray := prog_1_method_52_code
def yX11_isRight : MethodName := ⟨RX11, "isRight", "(I)Z"⟩
abbrev cX11_isOrder : ByteArray := prog_1_method_53_code
def yX11_isOrder : MethodName := ⟨RX11, "isOrder", "(I)Z"⟩
abbrev cX11_isEntryCount : ByteArray := prog_1_method_54_code
def yX11_isEntryCount : MethodName := ⟨RX11, "isEntryCount", "(I)Z"⟩
abbrev cX11_isGone : ByteArray := prog_1_method_55_code
def yX11_isGone : MethodName := ⟨RX11, "isGone", "(I)Z"⟩
abbrev cX11_takenBy : ByteArray := prog_1_method_56_code
def yX11_takenBy : MethodName := ⟨RX11, "takenBy", "(I)J"⟩
abbrev cX11_stands : ByteArray := prog_1_method_57_code
def yX11_stands : MethodName := ⟨RX11, "stands", "(II)Z"⟩
abbrev cX11_findHomes : ByteArray := prog_1_method_58_code
def yX11_findHomes : MethodName := ⟨RX11, "findHomes", "()V"⟩
abbrev cX11_readTape : ByteArray := prog_1_method_59_code
def yX11_readTape : MethodName := ⟨RX11, "readTape", "(I)I"⟩
abbrev cX11_shareOut : ByteArray := prog_1_method_60_code
def yX11_shareOut : MethodName := ⟨RX11, "shareOut", "(I)V"⟩
abbrev cX11_greatestRest : ByteArray := prog_1_method_61_code
def yX11_greatestRest : MethodName := ⟨RX11, "greatestRest", "()I"⟩
abbrev cX11_weigh : ByteArray := prog_1_method_62_code
def yX11_weigh : MethodName := ⟨RX11, "weigh", "(I)V"⟩
abbrev cX11_rowFits : ByteArray := prog_1_method_63_code
def yX11_rowFits : MethodName := ⟨RX11, "rowFits", "(I)Z"⟩
abbrev cX11_rowsCanBeTried : ByteArray := prog_1_method_64_code
def yX11_rowsCanBeTried : MethodName := ⟨RX11, "rowsCanBeTried", "()Z"⟩
abbrev cX11_holdsOut : ByteArray := prog_1_method_65_code
def yX11_holdsOut : MethodName := ⟨RX11, "holdsOut", "(I)Z"⟩
abbrev cX11_sumOfTry : ByteArray := prog_1_method_66_code
def yX11_sumOfTry : MethodName := ⟨RX11, "sumOfTry", "(II)I"⟩
abbrev cX11_rememberBefore : ByteArray := prog_1_method_67_code
def yX11_rememberBefore : MethodName := ⟨RX11, "rememberBefore", "()V"⟩
abbrev cX11_bringBack : ByteArray := prog_1_method_68_code
def yX11_bringBack : MethodName := ⟨RX11, "bringBack", "(I)V"⟩
def RX12 : String := "ParishUnionModel"
def TX12 : u_T := fun k => match k with
  | 0 => ("ParishUnionModel", "thrown", "I", false)
  | 1 => ("ParishUnionModel", "s", "[I", true)
  | 2 => ("ParishUnionModel", "kept", "[I", true)
  | 3 => ("ParishUnionModel", "image", "[I", true)
  | 4 => ("ParishUnionModel", "hasImage", "Z", false)
  | 5 => ("ParishUnionModel", "fresh", "[I", true)
  | 6 => ("ParishUnionModel", "known", "[I", true)
  | 7 => ("ParishUnionModel", "line", "[I", true)
  | 8 => ("ParishUnionModel", "lined", "I", false)
  | 9 => ("ParishUnionModel", "isSo", "[Z", true)
  | 10 => ("ParishUnionModel", "may", "[I", true)
  | 11 => ("ParishUnionModel", "act", "I", false)
  | 12 => ("ParishUnionModel", "spot", "I", false)
  | 13 => ("ParishUnionModel", "isWrong", "Z", false)
  | 14 => ("ParishUnionModel", "open", "I", false)
  | 15 => ("ParishUnionModel", "asked", "I", false)
  | 16 => ("ParishUnionModel", "ownOf", "[I", true)
  | 17 => ("ParishUnionModel", "ownWeek", "[I", true)
  | 18 => ("ParishUnionModel", "ownStamp", "[I", true)
  | 19 => ("ParishUnionModel", "stamp", "I", false)
  | 20 => ("ParishUnionModel", "weights", "[J", true)
  | 21 => ("ParishUnionModel", "rests", "[J", true)
  | 22 => ("ParishUnionModel", "shares", "[I", true)
  | _ => ("ParishUnionModel", "sums", "[J", true)
def tyX12 : Nat → FieldType := fun k => match k with
  | 0 => .int
  | 1 => .array .int
  | 2 => .array .int
  | 3 => .array .int
  | 4 => .boolean
  | 5 => .array .int
  | 6 => .array .int
  | 7 => .array .int
  | 8 => .int
  | 9 => .array .boolean
  | 10 => .array .int
  | 11 => .int
  | 12 => .int
  | 13 => .boolean
  | 14 => .int
  | 15 => .int
  | 16 => .array .int
  | 17 => .array .int
  | 18 => .array .int
  | 19 => .int
  | 20 => .array .long
  | 21 => .array .long
  | 22 => .array .int
  | _ => .array .long
abbrev wsX120 : List Cond := u_ws RX12 TX12 24
theorem nmX12 : ∀ a, a < 24 → ∀ b, b < 24 → a ≠ b → (TX12 a).2.1 ≠ (TX12 b).2.1 := by decide +kernel
theorem tyX12_ok : ∀ k, k < 24 → parseFieldDescriptor (TX12 k).2.2.1 = some (tyX12 k) := by decide +kernel
abbrev cX12_init : ByteArray := prog_14_method_1_code
def yX12_init : MethodName := ⟨RX12, "<init>", "()V"⟩
abbrev cX12_in : ByteArray := prog_14_method_3_code
def yX12_in : MethodName := ⟨RX12, "in", "(III)Z"⟩
abbrev cX12_isParish : ByteArray := prog_14_method_4_code
def yX12_isParish : MethodName := ⟨RX12, "isParish", "(I)Z"⟩
abbrev cX12_isPerson : ByteArray := prog_14_method_5_code
def yX12_isPerson : MethodName := ⟨RX12, "isPerson", "(I)Z"⟩
abbrev cX12_isBy : ByteArray := prog_14_method_6_code
def yX12_isBy : MethodName := ⟨RX12, "isBy", "(I)Z"⟩
abbrev cX12_isGone : ByteArray := prog_14_method_7_code
def yX12_isGone : MethodName := ⟨RX12, "isGone", "(I)Z"⟩
abbrev cX12_isWeek : ByteArray := prog_14_method_8_code
def yX12_isWeek : MethodName := ⟨RX12, "isWeek", "(I)Z"⟩
abbrev cX12_parish : ByteArray := prog_14_method_9_code
def yX12_parish : MethodName := ⟨RX12, "parish", "(II)I"⟩
abbrev cX12_farOf : ByteArray := prog_14_method_10_code
def yX12_farOf : MethodName := ⟨RX12, "farOf", "(II)I"⟩
abbrev cX12_road : ByteArray := prog_14_method_11_code
def yX12_road : MethodName := ⟨RX12, "road", "(III)I"⟩
abbrev cX12_far : ByteArray := prog_14_method_12_code
def yX12_far : MethodName := ⟨RX12, "far", "(II)I"⟩
abbrev cX12_person : ByteArray := prog_14_method_13_code
def yX12_person : MethodName := ⟨RX12, "person", "(IIIII)I"⟩
abbrev cX12_about : ByteArray := prog_14_method_14_code
def yX12_about : MethodName := ⟨RX12, "about", "(II)I"⟩
abbrev cX12_isRightWeek : ByteArray := prog_14_method_15_code
def yX12_isRightWeek : MethodName := ⟨RX12, "isRightWeek", "(I)Z"⟩
abbrev cX12_tells : ByteArray := prog_14_method_16_code
def yX12_tells : MethodName := ⟨RX12, "tells", "(IIIIIZ)I"⟩
abbrev cX12_enter : ByteArray := prog_14_method_17_code
def yX12_enter : MethodName := ⟨RX12, "enter", "(II)V"⟩
abbrev cX12_hire : ByteArray := prog_14_method_18_code
def yX12_hire : MethodName := ⟨RX12, "hire", "(IIIIZZ)I"⟩
abbrev cX12_rated : ByteArray := prog_14_method_19_code
def yX12_rated : MethodName := ⟨RX12, "rated", "(IIIIZ)I"⟩
abbrev cX12_wed : ByteArray := prog_14_method_20_code
def yX12_wed : MethodName := ⟨RX12, "wed", "(IIIZ)I"⟩
abbrev cX12_looks : ByteArray := prog_14_method_21_code
def yX12_looks : MethodName := ⟨RX12, "looks", "(I)V"⟩
abbrev cX12_proof : ByteArray := prog_14_method_22_code
def yX12_proof : MethodName := ⟨RX12, "proof", "(IZ)I"⟩
abbrev cX12_right : ByteArray := prog_14_method_23_code
def yX12_right : MethodName := ⟨RX12, "right", "(II)I"⟩
abbrev cX12_counted : ByteArray := prog_14_method_24_code
def yX12_counted : MethodName := ⟨RX12, "counted", "(I)I"⟩
abbrev cX12_taken : ByteArray := prog_14_method_25_code
def yX12_taken : MethodName := ⟨RX12, "taken", "(II)I"⟩
abbrev cX12_counts : ByteArray := prog_14_method_26_code
def yX12_counts : MethodName := ⟨RX12, "counts", "(I)Z"⟩
abbrev cX12_whose : ByteArray := prog_14_method_27_code
def yX12_whose : MethodName := ⟨RX12, "whose", "(II)I"⟩
abbrev cX12_gives : ByteArray := prog_14_method_28_code
def yX12_gives : MethodName := ⟨RX12, "gives", "(II)I"⟩
abbrev cX12_byBench : ByteArray := prog_14_method_29_code
def yX12_byBench : MethodName := ⟨RX12, "byBench", "(IIII)I"⟩
abbrev cX12_settle : ByteArray := prog_14_method_30_code
def yX12_settle : MethodName := ⟨RX12, "settle", "(IIII)I"⟩
abbrev cX12_many : ByteArray := prog_14_method_31_code
def yX12_many : MethodName := ⟨RX12, "many", "(I)I"⟩
abbrev cX12_maybeOf : ByteArray := prog_14_method_32_code
def yX12_maybeOf : MethodName := ⟨RX12, "maybeOf", "(IIIII)I"⟩
abbrev cX12_maybe : ByteArray := prog_14_method_33_code
def yX12_maybe : MethodName := ⟨RX12, "maybe", "(IIII)I"⟩
abbrev cX12_feed : ByteArray := prog_14_method_34_code
def yX12_feed : MethodName := ⟨RX12, "feed", "(JI)I"⟩
abbrev cX12_here : ByteArray := prog_14_method_35_code
def yX12_here : MethodName := ⟨RX12, "here", "()I"⟩
abbrev cX12_must : ByteArray := prog_14_method_36_code
def yX12_must : MethodName := ⟨RX12, "must", "(I)V"⟩
abbrev cX12_word : ByteArray := prog_14_method_37_code
def yX12_word : MethodName := ⟨RX12, "word", "(I)Ljava/lang/String;"⟩
abbrev cX12_oneWord : ByteArray := prog_14_method_38_code
def yX12_oneWord : MethodName := ⟨RX12, "oneWord", "()I"⟩
abbrev cX12_isDigit : ByteArray := prog_14_method_39_code
def yX12_isDigit : MethodName := ⟨RX12, "isDigit", "()Z"⟩
abbrev cX12_number : ByteArray := prog_14_method_40_code
def yX12_number : MethodName := ⟨RX12, "number", "(I)I"⟩
abbrev cX12_letter : ByteArray := prog_14_method_41_code
def yX12_letter : MethodName := ⟨RX12, "letter", "(III)I"⟩
abbrev cX12_stands : ByteArray := prog_14_method_42_code
def yX12_stands : MethodName := ⟨RX12, "stands", "(I)I"⟩
abbrev cX12_isAtOwn : ByteArray := prog_14_method_43_code
def yX12_isAtOwn : MethodName := ⟨RX12, "isAtOwn", "()Z"⟩
abbrev cX12_factor : ByteArray := prog_14_method_44_code
def yX12_factor : MethodName := ⟨RX12, "factor", "()Z"⟩
abbrev cX12_every : ByteArray := prog_14_method_45_code
def yX12_every : MethodName := ⟨RX12, "every", "()Z"⟩
abbrev cX12_some : ByteArray := prog_14_method_46_code
def yX12_some : MethodName := ⟨RX12, "some", "()Z"⟩
abbrev cX12_reads : ByteArray := prog_14_method_47_code
def yX12_reads : MethodName := ⟨RX12, "reads", "(I)V"⟩
abbrev cX12_readsAct : ByteArray := prog_14_method_48_code
def yX12_readsAct : MethodName := ⟨RX12, "readsAct", "(II)Z"⟩
abbrev cX12_text : ByteArray := prog_14_method_49_code
def yX12_text : MethodName := ⟨RX12, "text", "(I)I"⟩
abbrev cX12_has : ByteArray := prog_14_method_50_code
def yX12_has : MethodName := ⟨RX12, "has", "(II)Z"⟩
abbrev cX12_actOf : ByteArray := prog_14_method_51_code
def yX12_actOf : MethodName := ⟨RX12, "actOf", "(II)I"⟩
abbrev cX12_without : ByteArray := prog_14_method_52_code
def yX12_without : MethodName := ⟨RX12, "without", "(I)I"⟩
abbrev cX12_law : ByteArray := prog_14_method_53_code
def yX12_law : MethodName := ⟨RX12, "law", "(II)I"⟩
abbrev cX12_manyOf : ByteArray := prog_14_method_54_code
def yX12_manyOf : MethodName := ⟨RX12, "manyOf", "(II)I"⟩
abbrev cX12_force : ByteArray := prog_14_method_55_code
def yX12_force : MethodName := ⟨RX12, "force", "(II)I"⟩
abbrev cX12_firstOf : ByteArray := prog_14_method_56_code
def yX12_firstOf : MethodName := ⟨RX12, "firstOf", "(II)I"⟩
abbrev cX12_givenTo : ByteArray := prog_14_method_57_code
def yX12_givenTo : MethodName := ⟨RX12, "givenTo", "(I)I"⟩
abbrev cX12_wardFor : ByteArray := prog_14_method_58_code
def yX12_wardFor : MethodName := ⟨RX12, "wardFor", "(I)I"⟩
abbrev cX12_ageOf : ByteArray := prog_14_method_59_code
def yX12_ageOf : MethodName := ⟨RX12, "ageOf", "(II)I"⟩
abbrev cX12_offer : ByteArray := prog_14_method_60_code
def yX12_offer : MethodName := ⟨RX12, "offer", "(II)I"⟩
abbrev cX12_order : ByteArray := prog_14_method_61_code
def yX12_order : MethodName := ⟨RX12, "order", "(II)I"⟩
abbrev cX12_isOrder : ByteArray := prog_14_method_62_code
def yX12_isOrder : MethodName := ⟨RX12, "isOrder", "(I)Z"⟩
abbrev cX12_standsBy : ByteArray := prog_14_method_63_code
def yX12_standsBy : MethodName := ⟨RX12, "standsBy", "(III)I"⟩
abbrev cX12_appeal : ByteArray := prog_14_method_64_code
def yX12_appeal : MethodName := ⟨RX12, "appeal", "(III)I"⟩
abbrev cX12_unlike : ByteArray := prog_14_method_65_code
def yX12_unlike : MethodName := ⟨RX12, "unlike", "(I)I"⟩
abbrev cX12_carry : ByteArray := prog_14_method_66_code
def yX12_carry : MethodName := ⟨RX12, "carry", "(I)I"⟩
abbrev cX12_house : ByteArray := prog_14_method_67_code
def yX12_house : MethodName := ⟨RX12, "house", "(II)I"⟩
abbrev cX12_price : ByteArray := prog_14_method_68_code
def yX12_price : MethodName := ⟨RX12, "price", "(I)I"⟩
abbrev cX12_frost : ByteArray := prog_14_method_69_code
def yX12_frost : MethodName := ⟨RX12, "frost", "(II)I"⟩
abbrev cX12_heardIn : ByteArray := prog_14_method_70_code
def yX12_heardIn : MethodName := ⟨RX12, "heardIn", "(II)I"⟩
abbrev cX12_heard : ByteArray := prog_14_method_71_code
def yX12_heard : MethodName := ⟨RX12, "heard", "(II)I"⟩
abbrev cX12_takenIn : ByteArray := prog_14_method_72_code
def yX12_takenIn : MethodName := ⟨RX12, "takenIn", "(I)I"⟩
abbrev cX12_leaves : ByteArray := prog_14_method_73_code
def yX12_leaves : MethodName := ⟨RX12, "leaves", "(II)V"⟩
abbrev cX12_hungers : ByteArray := prog_14_method_74_code
def yX12_hungers : MethodName := ⟨RX12, "hungers", "(II)V"⟩
abbrev cX12_outside : ByteArray := prog_14_method_75_code
def yX12_outside : MethodName := ⟨RX12, "outside", "(I)V"⟩
abbrev cX12_inside : ByteArray := prog_14_method_76_code
def yX12_inside : MethodName := ⟨RX12, "inside", "(I)V"⟩
abbrev cX12_goes : ByteArray := prog_14_method_77_code
def yX12_goes : MethodName := ⟨RX12, "goes", "()V"⟩
abbrev cX12_week : ByteArray := prog_14_method_78_code
def yX12_week : MethodName := ⟨RX12, "week", "(I)I"⟩
abbrev cX12_costOf : ByteArray := prog_14_method_79_code
def yX12_costOf : MethodName := ⟨RX12, "costOf", "(I)I"⟩
abbrev cX12_gone : ByteArray := prog_14_method_80_code
def yX12_gone : MethodName := ⟨RX12, "gone", "(II)I"⟩
abbrev cX12_was : ByteArray := prog_14_method_81_code
def yX12_was : MethodName := ⟨RX12, "was", "(III)I"⟩
abbrev cX12_parts : ByteArray := prog_14_method_82_code
def yX12_parts : MethodName := ⟨RX12, "parts", "(II)V"⟩
abbrev cX12_share : ByteArray := prog_14_method_83_code
def yX12_share : MethodName := ⟨RX12, "share", "(III)I"⟩
abbrev cX12_sink : ByteArray := prog_14_method_84_code
def yX12_sink : MethodName := ⟨RX12, "sink", "(III)I"⟩
abbrev cX12_owed : ByteArray := prog_14_method_85_code
def yX12_owed : MethodName := ⟨RX12, "owed", "(IIII)I"⟩
abbrev cX12_night : ByteArray := prog_14_method_86_code
def yX12_night : MethodName := ⟨RX12, "night", "(III)I"⟩
abbrev cX12_nextNight : ByteArray := prog_14_method_87_code
def yX12_nextNight : MethodName := ⟨RX12, "nextNight", "(II)I"⟩
abbrev cX12_isOne : ByteArray := prog_14_method_88_code
def yX12_isOne : MethodName := ⟨RX12, "isOne", "(I)Z"⟩
abbrev cX12_one : ByteArray := prog_14_method_89_code
def yX12_one : MethodName := ⟨RX12, "one", "(I)I"⟩
abbrev cX12_greatest : ByteArray := prog_14_method_90_code
def yX12_greatest : MethodName := ⟨RX12, "greatest", "()I"⟩
abbrev cX12_master : ByteArray := prog_14_method_91_code
def yX12_master : MethodName := ⟨RX12, "master", "(II)I"⟩
abbrev cX12_bind : ByteArray := prog_14_method_92_code
def yX12_bind : MethodName := ⟨RX12, "bind", "(II)I"⟩
abbrev cX12_run : ByteArray := prog_14_method_93_code
def yX12_run : MethodName := ⟨RX12, "run", "(I)I"⟩
abbrev cX12_choice : ByteArray := prog_14_method_94_code
def yX12_choice : MethodName := ⟨RX12, "choice", "(III)I"⟩
abbrev cX12_frosts : ByteArray := prog_14_method_95_code
def yX12_frosts : MethodName := ⟨RX12, "frosts", "(IJI)I"⟩
abbrev cX12_keep : ByteArray := prog_14_method_96_code
def yX12_keep : MethodName := ⟨RX12, "keep", "([I[I)V"⟩
abbrev cX12_winter : ByteArray := prog_14_method_97_code
def yX12_winter : MethodName := ⟨RX12, "winter", "(I)V"⟩
abbrev cX12_costOf6 : ByteArray := prog_14_method_98_code
def yX12_costOf6 : MethodName := ⟨RX12, "costOf6", "(I)I"⟩
abbrev cX12_chooses : ByteArray := prog_14_method_99_code
def yX12_chooses : MethodName := ⟨RX12, "chooses", "(I)V"⟩
abbrev cX12_isWell : ByteArray := prog_14_method_100_code
def yX12_isWell : MethodName := ⟨RX12, "isWell", "(II)Z"⟩
abbrev cX12_plan : ByteArray := prog_14_method_101_code
def yX12_plan : MethodName := ⟨RX12, "plan", "(I)I"⟩
abbrev cX12_tried : ByteArray := prog_14_method_102_code
def yX12_tried : MethodName := ⟨RX12, "tried", "(II)I"⟩
abbrev cX12_told : ByteArray := prog_14_method_103_code
def yX12_told : MethodName := ⟨RX12, "told", "(II)I"⟩
abbrev cX12_check : ByteArray := prog_14_method_104_code
def yX12_check : MethodName := ⟨RX12, "check", "(I)I"⟩
abbrev cX12_image : ByteArray := prog_14_method_105_code
def yX12_image : MethodName := ⟨RX12, "image", "()I"⟩
abbrev cX12_undo : ByteArray := prog_14_method_106_code
def yX12_undo : MethodName := ⟨RX12, "undo", "()I"⟩
abbrev cX12_manyAt : ByteArray := prog_14_method_107_code
def yX12_manyAt : MethodName := ⟨RX12, "manyAt", "(I)I"⟩
abbrev cX12_count : ByteArray := prog_14_method_108_code
def yX12_count : MethodName := ⟨RX12, "count", "(I)I"⟩
def RL : String := "ParishUnionLaw"
abbrev cL_law : ByteArray := code
def yL_law : MethodName := ⟨RL, "law", "([I)Z"⟩
abbrev vwCl : List vw_C := [(RX0, TX0, 8), (RX1, TX1, 8), (RX2, TX2, 10), (RX3, TX3, 2), (RX4, TX4, 6), (RX5, TX5, 2), (RX6, TX6, 16), (RX7, TX7, 5), (RX8, TX8, 9), (RX9, TX9, 16), (RX10, TX10, 4), (RX11, TX11, 10), (RX12, TX12, 24)]
end
section
/-! ===== BASE: class tables, the layout of the heap, words ===== -/
def gNF (c : Nat) : Nat := match c with
  | 0 => 8
  | 1 => 8
  | 2 => 10
  | 3 => 2
  | 4 => 6
  | 5 => 2
  | 6 => 16
  | 7 => 5
  | 8 => 9
  | 9 => 16
  | 10 => 4
  | 11 => 10
  | _ => 24
def gTY (c : Nat) : Nat → FieldType := match c with
  | 0 => tyX0
  | 1 => tyX1
  | 2 => tyX2
  | 3 => tyX3
  | 4 => tyX4
  | 5 => tyX5
  | 6 => tyX6
  | 7 => tyX7
  | 8 => tyX8
  | 9 => tyX9
  | 10 => tyX10
  | 11 => tyX11
  | _ => tyX12
def gU0 (r : Int) : Nat × Nat := if r = 0 then (0, 9) else if r = 1 then (0, 3) else if r = 2 then (1, 6) else if r = 3 then (1, 36) else if r = 4 then (6, 16) else if r = 5 then (7, 40) else if r = 6 then (5, 11) else if r = 7 then (3, 150) else if r = 8 then (0, 4) else if r = 9 then (1, 20) else if r = 10 then (1, 20) else if r = 11 then (1, 20) else if r = 12 then (1, 20) else if r = 13 then (4, 20) else if r = 14 then (0, 2) else if r = 15 then (1, 4) else if r = 16 then (1, 301) else if r = 17 then (1, 3) else if r = 18 then (1, 30) else if r = 19 then (1, 6) else if r = 20 then (1, 6) else if r = 21 then (1, 6) else if r = 22 then (0, 5) else if r = 23 then (1, 2100) else if r = 24 then (2, 4800) else if r = 25 then (0, 10) else if r = 26 then (1, 40) else if r = 27 then (1, 40) else if r = 28 then (1, 40) else (1, 4)
def gUA (r : Int) : Nat × Nat := if r = 0 then (0, 0) else if r = 1 then (3, 150) else if r = 2 then (1, 10) else if r = 3 then (1, 8) else if r = 4 then (1, 8) else (1, 8)
def gU (r : Int) : Nat × Nat := if r < 30 then gU0 r else if r < 46 then (0, 6) else if r < 86 then (0, 8) else gUA ((r - 86) % 6)
def gB (r : Int) : Nat × Nat := if r = 153 then (0, 1) else if r = 154 then (1, 40) else if r = 155 then (4, 40) else if r = 156 then (1, 10) else if r = 157 then (1, 10) else if r = 158 then (1, 10) else if r = 159 then (0, 7) else if r = 160 then (3, 0) else if r = 161 then (6, 16) else if r = 162 then (0, 2) else if r = 163 then (1, 4) else if r = 164 then (1, 301) else if r = 165 then (1, 3) else if r = 166 then (1, 30) else if r = 167 then (1, 6) else if r = 168 then (1, 6) else if r = 169 then (1, 6) else if r = 170 then (2, 6) else if r = 171 then (2, 6) else if r = 172 then (1, 6) else (2, 6)
def gMo (r : Int) : Nat × Nat := if r = 190 then (0, 12) else if r = 191 then (1, 25301) else if r = 192 then (1, 25301) else if r = 193 then (1, 25301) else if r = 194 then (1, 36) else if r = 195 then (1, 40) else if r = 196 then (1, 40) else if r = 197 then (4, 40) else if r = 198 then (1, 10) else if r = 199 then (1, 16) else if r = 200 then (1, 16) else if r = 201 then (1, 16) else if r = 202 then (2, 6) else if r = 203 then (2, 6) else if r = 204 then (1, 6) else (2, 6)
def glay (o : Int) : Nat × Nat := if o < 1 then (0, 11) else if o < 153 then gU (o - 1) else if o < 174 then gB o else if o < 190 then (0, 6) else if o < 206 then gMo o else gU (o - 206)
theorem lay_0 : glay 0 = (0, 11) := by decide +kernel
theorem lay_1 : glay 1 = (0, 9) := by decide +kernel
theorem lay_2 : glay 2 = (0, 3) := by decide +kernel
theorem lay_3 : glay 3 = (1, 6) := by decide +kernel
theorem lay_4 : glay 4 = (1, 36) := by decide +kernel
theorem lay_5 : glay 5 = (6, 16) := by decide +kernel
theorem lay_6 : glay 6 = (7, 40) := by decide +kernel
theorem lay_7 : glay 7 = (5, 11) := by decide +kernel
theorem lay_8 : glay 8 = (3, 150) := by decide +kernel
theorem lay_9 : glay 9 = (0, 4) := by decide +kernel
theorem lay_10 : glay 10 = (1, 20) := by decide +kernel
theorem lay_11 : glay 11 = (1, 20) := by decide +kernel
theorem lay_12 : glay 12 = (1, 20) := by decide +kernel
theorem lay_13 : glay 13 = (1, 20) := by decide +kernel
theorem lay_14 : glay 14 = (4, 20) := by decide +kernel
theorem lay_15 : glay 15 = (0, 2) := by decide +kernel
theorem lay_16 : glay 16 = (1, 4) := by decide +kernel
theorem lay_17 : glay 17 = (1, 301) := by decide +kernel
theorem lay_18 : glay 18 = (1, 3) := by decide +kernel
theorem lay_19 : glay 19 = (1, 30) := by decide +kernel
theorem lay_20 : glay 20 = (1, 6) := by decide +kernel
theorem lay_21 : glay 21 = (1, 6) := by decide +kernel
theorem lay_22 : glay 22 = (1, 6) := by decide +kernel
theorem lay_23 : glay 23 = (0, 5) := by decide +kernel
theorem lay_24 : glay 24 = (1, 2100) := by decide +kernel
theorem lay_25 : glay 25 = (2, 4800) := by decide +kernel
theorem lay_26 : glay 26 = (0, 10) := by decide +kernel
theorem lay_27 : glay 27 = (1, 40) := by decide +kernel
theorem lay_28 : glay 28 = (1, 40) := by decide +kernel
theorem lay_29 : glay 29 = (1, 40) := by decide +kernel
theorem lay_30 : glay 30 = (1, 4) := by decide +kernel
theorem lay_31 : glay 31 = (0, 6) := by decide +kernel
theorem lay_87 : glay 87 = (0, 0) := by decide +kernel
theorem lay_88 : glay 88 = (3, 150) := by decide +kernel
theorem lay_89 : glay 89 = (1, 10) := by decide +kernel
theorem lay_90 : glay 90 = (1, 8) := by decide +kernel
theorem lay_91 : glay 91 = (1, 8) := by decide +kernel
theorem lay_92 : glay 92 = (1, 8) := by decide +kernel
theorem lay_153 : glay 153 = (0, 1) := by decide +kernel
theorem lay_154 : glay 154 = (1, 40) := by decide +kernel
theorem lay_155 : glay 155 = (4, 40) := by decide +kernel
theorem lay_156 : glay 156 = (1, 10) := by decide +kernel
theorem lay_157 : glay 157 = (1, 10) := by decide +kernel
theorem lay_158 : glay 158 = (1, 10) := by decide +kernel
theorem lay_159 : glay 159 = (0, 7) := by decide +kernel
theorem lay_160 : glay 160 = (3, 0) := by decide +kernel
theorem lay_161 : glay 161 = (6, 16) := by decide +kernel
theorem lay_162 : glay 162 = (0, 2) := by decide +kernel
theorem lay_163 : glay 163 = (1, 4) := by decide +kernel
theorem lay_164 : glay 164 = (1, 301) := by decide +kernel
theorem lay_165 : glay 165 = (1, 3) := by decide +kernel
theorem lay_166 : glay 166 = (1, 30) := by decide +kernel
theorem lay_167 : glay 167 = (1, 6) := by decide +kernel
theorem lay_168 : glay 168 = (1, 6) := by decide +kernel
theorem lay_169 : glay 169 = (1, 6) := by decide +kernel
theorem lay_170 : glay 170 = (2, 6) := by decide +kernel
theorem lay_171 : glay 171 = (2, 6) := by decide +kernel
theorem lay_172 : glay 172 = (1, 6) := by decide +kernel
theorem lay_173 : glay 173 = (2, 6) := by decide +kernel
theorem lay_174 : glay 174 = (0, 6) := by decide +kernel
theorem lay_190 : glay 190 = (0, 12) := by decide +kernel
theorem lay_191 : glay 191 = (1, 25301) := by decide +kernel
theorem lay_192 : glay 192 = (1, 25301) := by decide +kernel
theorem lay_193 : glay 193 = (1, 25301) := by decide +kernel
theorem lay_194 : glay 194 = (1, 36) := by decide +kernel
theorem lay_195 : glay 195 = (1, 40) := by decide +kernel
theorem lay_196 : glay 196 = (1, 40) := by decide +kernel
theorem lay_197 : glay 197 = (4, 40) := by decide +kernel
theorem lay_198 : glay 198 = (1, 10) := by decide +kernel
theorem lay_199 : glay 199 = (1, 16) := by decide +kernel
theorem lay_200 : glay 200 = (1, 16) := by decide +kernel
theorem lay_201 : glay 201 = (1, 16) := by decide +kernel
theorem lay_202 : glay 202 = (2, 6) := by decide +kernel
theorem lay_203 : glay 203 = (2, 6) := by decide +kernel
theorem lay_204 : glay 204 = (1, 6) := by decide +kernel
theorem lay_205 : glay 205 = (2, 6) := by decide +kernel
theorem lay_206 : glay 206 = (0, 9) := by decide +kernel
theorem lay_207 : glay 207 = (0, 3) := by decide +kernel
theorem lay_208 : glay 208 = (1, 6) := by decide +kernel
theorem lay_209 : glay 209 = (1, 36) := by decide +kernel
theorem lay_210 : glay 210 = (6, 16) := by decide +kernel
theorem lay_211 : glay 211 = (7, 40) := by decide +kernel
theorem lay_212 : glay 212 = (5, 11) := by decide +kernel
theorem lay_213 : glay 213 = (3, 150) := by decide +kernel
theorem lay_214 : glay 214 = (0, 4) := by decide +kernel
theorem lay_215 : glay 215 = (1, 20) := by decide +kernel
theorem lay_216 : glay 216 = (1, 20) := by decide +kernel
theorem lay_217 : glay 217 = (1, 20) := by decide +kernel
theorem lay_218 : glay 218 = (1, 20) := by decide +kernel
theorem lay_219 : glay 219 = (4, 20) := by decide +kernel
theorem lay_220 : glay 220 = (0, 2) := by decide +kernel
theorem lay_221 : glay 221 = (1, 4) := by decide +kernel
theorem lay_222 : glay 222 = (1, 301) := by decide +kernel
theorem lay_223 : glay 223 = (1, 3) := by decide +kernel
theorem lay_224 : glay 224 = (1, 30) := by decide +kernel
theorem lay_225 : glay 225 = (1, 6) := by decide +kernel
theorem lay_226 : glay 226 = (1, 6) := by decide +kernel
theorem lay_227 : glay 227 = (1, 6) := by decide +kernel
theorem lay_228 : glay 228 = (0, 5) := by decide +kernel
theorem lay_229 : glay 229 = (1, 2100) := by decide +kernel
theorem lay_230 : glay 230 = (2, 4800) := by decide +kernel
theorem lay_231 : glay 231 = (0, 10) := by decide +kernel
theorem lay_232 : glay 232 = (1, 40) := by decide +kernel
theorem lay_233 : glay 233 = (1, 40) := by decide +kernel
theorem lay_234 : glay 234 = (1, 40) := by decide +kernel
theorem lay_235 : glay 235 = (1, 4) := by decide +kernel
theorem lay_P {i : Int} (h0 : 0 ≤ i) (h1 : i < 16) : glay (31 + i) = (0, 6) := by
  unfold glay gU
  rw [if_neg (by omega), if_pos (by omega), if_neg (by omega), if_pos (by omega)]
theorem lay_R {i : Int} (h0 : 0 ≤ i) (h1 : i < 40) : glay (47 + i) = (0, 8) := by
  unfold glay gU
  rw [if_neg (by omega), if_pos (by omega), if_neg (by omega), if_neg (by omega), if_pos (by omega)]
theorem lay_A0 {i : Int} (h0 : 0 ≤ i) (h1 : i < 11) : glay (87 + 6 * i) = (0, 0) := by
  unfold glay gU
  rw [if_neg (by omega), if_pos (by omega), if_neg (by omega), if_neg (by omega), if_neg (by omega), show (87 + 6 * i - 1 - 86) % 6 = 0 by omega]
  rfl
theorem lay_A1 {i : Int} (h0 : 0 ≤ i) (h1 : i < 11) : glay (88 + 6 * i) = (3, 150) := by
  unfold glay gU
  rw [if_neg (by omega), if_pos (by omega), if_neg (by omega), if_neg (by omega), if_neg (by omega), show (88 + 6 * i - 1 - 86) % 6 = 1 by omega]
  rfl
theorem lay_A2 {i : Int} (h0 : 0 ≤ i) (h1 : i < 11) : glay (89 + 6 * i) = (1, 10) := by
  unfold glay gU
  rw [if_neg (by omega), if_pos (by omega), if_neg (by omega), if_neg (by omega), if_neg (by omega), show (89 + 6 * i - 1 - 86) % 6 = 2 by omega]
  rfl
theorem lay_A3 {i : Int} (h0 : 0 ≤ i) (h1 : i < 11) : glay (90 + 6 * i) = (1, 8) := by
  unfold glay gU
  rw [if_neg (by omega), if_pos (by omega), if_neg (by omega), if_neg (by omega), if_neg (by omega), show (90 + 6 * i - 1 - 86) % 6 = 3 by omega]
  rfl
theorem lay_A4 {i : Int} (h0 : 0 ≤ i) (h1 : i < 11) : glay (91 + 6 * i) = (1, 8) := by
  unfold glay gU
  rw [if_neg (by omega), if_pos (by omega), if_neg (by omega), if_neg (by omega), if_neg (by omega), show (91 + 6 * i - 1 - 86) % 6 = 4 by omega]
  rfl
theorem lay_A5 {i : Int} (h0 : 0 ≤ i) (h1 : i < 11) : glay (92 + 6 * i) = (1, 8) := by
  unfold glay gU
  rw [if_neg (by omega), if_pos (by omega), if_neg (by omega), if_neg (by omega), if_neg (by omega), show (92 + 6 * i - 1 - 86) % 6 = 5 by omega]
  rfl
theorem layk_P {i : Int} (h0 : 0 ≤ i) (h1 : i < 16) : glay (236 + i) = (0, 6) := by
  unfold glay gU
  rw [if_neg (by omega), if_neg (by omega), if_neg (by omega), if_neg (by omega), if_neg (by omega), if_neg (by omega), if_pos (by omega)]
theorem layk_R {i : Int} (h0 : 0 ≤ i) (h1 : i < 40) : glay (252 + i) = (0, 8) := by
  unfold glay gU
  rw [if_neg (by omega), if_neg (by omega), if_neg (by omega), if_neg (by omega), if_neg (by omega), if_neg (by omega), if_neg (by omega), if_pos (by omega)]
theorem layk_A0 {i : Int} (h0 : 0 ≤ i) (h1 : i < 11) : glay (292 + 6 * i) = (0, 0) := by
  unfold glay gU
  rw [if_neg (by omega), if_neg (by omega), if_neg (by omega), if_neg (by omega), if_neg (by omega), if_neg (by omega), if_neg (by omega), if_neg (by omega), show (292 + 6 * i - 206 - 86) % 6 = 0 by omega]
  rfl
theorem layk_A1 {i : Int} (h0 : 0 ≤ i) (h1 : i < 11) : glay (293 + 6 * i) = (3, 150) := by
  unfold glay gU
  rw [if_neg (by omega), if_neg (by omega), if_neg (by omega), if_neg (by omega), if_neg (by omega), if_neg (by omega), if_neg (by omega), if_neg (by omega), show (293 + 6 * i - 206 - 86) % 6 = 1 by omega]
  rfl
theorem layk_A2 {i : Int} (h0 : 0 ≤ i) (h1 : i < 11) : glay (294 + 6 * i) = (1, 10) := by
  unfold glay gU
  rw [if_neg (by omega), if_neg (by omega), if_neg (by omega), if_neg (by omega), if_neg (by omega), if_neg (by omega), if_neg (by omega), if_neg (by omega), show (294 + 6 * i - 206 - 86) % 6 = 2 by omega]
  rfl
theorem layk_A3 {i : Int} (h0 : 0 ≤ i) (h1 : i < 11) : glay (295 + 6 * i) = (1, 8) := by
  unfold glay gU
  rw [if_neg (by omega), if_neg (by omega), if_neg (by omega), if_neg (by omega), if_neg (by omega), if_neg (by omega), if_neg (by omega), if_neg (by omega), show (295 + 6 * i - 206 - 86) % 6 = 3 by omega]
  rfl
theorem layk_A4 {i : Int} (h0 : 0 ≤ i) (h1 : i < 11) : glay (296 + 6 * i) = (1, 8) := by
  unfold glay gU
  rw [if_neg (by omega), if_neg (by omega), if_neg (by omega), if_neg (by omega), if_neg (by omega), if_neg (by omega), if_neg (by omega), if_neg (by omega), show (296 + 6 * i - 206 - 86) % 6 = 4 by omega]
  rfl
theorem layk_A5 {i : Int} (h0 : 0 ≤ i) (h1 : i < 11) : glay (297 + 6 * i) = (1, 8) := by
  unfold glay gU
  rw [if_neg (by omega), if_neg (by omega), if_neg (by omega), if_neg (by omega), if_neg (by omega), if_neg (by omega), if_neg (by omega), if_neg (by omega), show (297 + 6 * i - 206 - 86) % 6 = 5 by omega]
  rfl
theorem lay_Q {i : Int} (h0 : 0 ≤ i) (h1 : i < 16) : glay (174 + i) = (0, 6) := by
  unfold glay
  rw [if_neg (by omega), if_neg (by omega), if_neg (by omega), if_pos (by omega)]
def gNestM : List (String × Nat × Jvm.MethodName × String) := [("ParishUnion$Union", 42, ({ cls := "ParishUnion$Orders", name := "<init>", desc := "()V" } : Jvm.MethodName), "ParishUnion"), ("ParishUnion$Union", 56, ({ cls := "ParishUnion$Past", name := "<init>", desc := "()V" } : Jvm.MethodName), "ParishUnion"), ("ParishUnion$Union", 63, ({ cls := "ParishUnion$Vagrants", name := "<init>", desc := "()V" } : Jvm.MethodName), "ParishUnion"), ("ParishUnion$Union", 72, ({ cls := "ParishUnion$Person", name := "<init>", desc := "()V" } : Jvm.MethodName), "ParishUnion"), ("ParishUnion$Union", 73, ({ cls := "ParishUnion$Right", name := "<init>", desc := "()V" } : Jvm.MethodName), "ParishUnion"), ("ParishUnion$Union", 74, ({ cls := "ParishUnion$Act", name := "<init>", desc := "()V" } : Jvm.MethodName), "ParishUnion"), ("ParishUnion", 18, ({ cls := "ParishUnion$Bench", name := "<init>", desc := "()V" } : Jvm.MethodName), "ParishUnion"), ("ParishUnion", 25, ({ cls := "ParishUnion$Reader", name := "<init>", desc := "()V" } : Jvm.MethodName), "ParishUnion"), ("ParishUnion", 57, ({ cls := "ParishUnion$Person", name := "<init>", desc := "()V" } : Jvm.MethodName), "ParishUnion")]
def gNestF : List (String × Nat × String × String × String × String) := [("ParishUnion$Right", 44, "ParishUnion", "KIND_ABOVE", "[I", "ParishUnion"), ("ParishUnion$Union", 146, "ParishUnion", "WITHOUT_ACTS", "[I", "ParishUnion")]
def gKA (j : Nat) : Int32 := match j with
  | 0 => -1
  | 4 => 1
  | _ => 0
def gWA (j : Nat) : Int32 := match j with
  | 0 => 50
  | 1 => 100
  | 2 => 10
  | 3 => 5
  | 4 => 14
  | 5 => 1
  | 6 => 1
  | _ => 0
theorem gWA_of {i : Int} (h0 : 0 ≤ i) (h1 : i < 10) : ∃ z : Int, gWA i.toNat = Int32.ofInt z ∧ (0 ≤ z ∧ z ≤ 100 ∧ (i = 0 → z = 50) ∧ (i = 1 → z = 100) ∧ (i = 2 → z = 10) ∧ (i = 3 → z = 5) ∧ (i = 4 → z = 14) ∧ (i = 5 → z = 1) ∧ (i = 6 → z = 1) ∧ (i = 7 → z = 0) ∧ (i = 8 → z = 0) ∧ (i = 9 → z = 0)) := by
  have h : i = 0 ∨ i = 1 ∨ i = 2 ∨ i = 3 ∨ i = 4 ∨ i = 5 ∨ i = 6 ∨ i = 7 ∨ i = 8 ∨ i = 9 := by omega
  rcases h with rfl | rfl | rfl | rfl | rfl | rfl | rfl | rfl | rfl | rfl
  · exact ⟨50, by decide +kernel, by omega⟩
  · exact ⟨100, by decide +kernel, by omega⟩
  · exact ⟨10, by decide +kernel, by omega⟩
  · exact ⟨5, by decide +kernel, by omega⟩
  · exact ⟨14, by decide +kernel, by omega⟩
  · exact ⟨1, by decide +kernel, by omega⟩
  · exact ⟨1, by decide +kernel, by omega⟩
  · exact ⟨0, by decide +kernel, by omega⟩
  · exact ⟨0, by decide +kernel, by omega⟩
  · exact ⟨0, by decide +kernel, by omega⟩
def gT : List Cond := lw_tbl.filter goodWord
theorem gT_of {w : Cond} (h : w ∈ lw_tbl) (hg : goodWord w = true) : w ∈ gT := List.mem_filter.mpr ⟨h, hg⟩
theorem tb_0 : ∀ w ∈ k2_sels lw_privs, w ∈ lw_tbl := fun _ h => List.mem_append_left _ h
theorem tb_1 : ∀ w ∈ tables_1_1, w ∈ lw_tbl := fun w h => List.mem_append_right _ (show w ∈ tables_1 from List.mem_append_left _ h)
theorem tb_2 : ∀ w ∈ tables_1_2, w ∈ lw_tbl := fun w h => List.mem_append_right _ (show w ∈ tables_1 from List.mem_append_right _ (List.mem_append_left _ h))
theorem tb_3 : ∀ w ∈ tables_1_3, w ∈ lw_tbl := fun w h => List.mem_append_right _ (show w ∈ tables_1 from List.mem_append_right _ (List.mem_append_right _ (List.mem_append_left _ h)))
theorem tb_4 : ∀ w ∈ tables_1_4, w ∈ lw_tbl := fun w h => List.mem_append_right _ (show w ∈ tables_1 from List.mem_append_right _ (List.mem_append_right _ (List.mem_append_right _ (List.mem_append_left _ h))))
theorem tb_5 : ∀ w ∈ tables_1_5, w ∈ lw_tbl := fun w h => List.mem_append_right _ (show w ∈ tables_1 from List.mem_append_right _ (List.mem_append_right _ (List.mem_append_right _ (List.mem_append_right _ (List.mem_append_left _ h)))))
theorem tb_6 : ∀ w ∈ tables_1_6, w ∈ lw_tbl := fun w h => List.mem_append_right _ (show w ∈ tables_1 from List.mem_append_right _ (List.mem_append_right _ (List.mem_append_right _ (List.mem_append_right _ (List.mem_append_right _ (List.mem_append_left _ h))))))
theorem tb_7 : ∀ w ∈ tables_1_7, w ∈ lw_tbl := fun w h => List.mem_append_right _ (show w ∈ tables_1 from List.mem_append_right _ (List.mem_append_right _ (List.mem_append_right _ (List.mem_append_right _ (List.mem_append_right _ (List.mem_append_right _ (List.mem_append_left _ h)))))))
theorem tb_8 : ∀ w ∈ tables_1_8, w ∈ lw_tbl := fun w h => List.mem_append_right _ (show w ∈ tables_1 from List.mem_append_right _ (List.mem_append_right _ (List.mem_append_right _ (List.mem_append_right _ (List.mem_append_right _ (List.mem_append_right _ (List.mem_append_right _ (h))))))))
theorem iX0 : ∀ w ∈ u_ws RX0 TX0 8, w ∈ gT := fun w hw => gT_of ((by decide +kernel : ∀ w ∈ u_ws RX0 TX0 8, w ∈ lw_tbl) w hw) ((by decide +kernel : ∀ w ∈ u_ws RX0 TX0 8, goodWord w = true) w hw)
theorem iX1 : ∀ w ∈ u_ws RX1 TX1 8, w ∈ gT := fun w hw => gT_of ((by decide +kernel : ∀ w ∈ u_ws RX1 TX1 8, w ∈ lw_tbl) w hw) ((by decide +kernel : ∀ w ∈ u_ws RX1 TX1 8, goodWord w = true) w hw)
theorem iX2 : ∀ w ∈ u_ws RX2 TX2 10, w ∈ gT := fun w hw => gT_of ((by decide +kernel : ∀ w ∈ u_ws RX2 TX2 10, w ∈ lw_tbl) w hw) ((by decide +kernel : ∀ w ∈ u_ws RX2 TX2 10, goodWord w = true) w hw)
theorem iX3 : ∀ w ∈ u_ws RX3 TX3 2, w ∈ gT := fun w hw => gT_of ((by decide +kernel : ∀ w ∈ u_ws RX3 TX3 2, w ∈ lw_tbl) w hw) ((by decide +kernel : ∀ w ∈ u_ws RX3 TX3 2, goodWord w = true) w hw)
theorem iX4 : ∀ w ∈ u_ws RX4 TX4 6, w ∈ gT := fun w hw => gT_of ((by decide +kernel : ∀ w ∈ u_ws RX4 TX4 6, w ∈ lw_tbl) w hw) ((by decide +kernel : ∀ w ∈ u_ws RX4 TX4 6, goodWord w = true) w hw)
theorem iX5 : ∀ w ∈ u_ws RX5 TX5 2, w ∈ gT := fun w hw => gT_of ((by decide +kernel : ∀ w ∈ u_ws RX5 TX5 2, w ∈ lw_tbl) w hw) ((by decide +kernel : ∀ w ∈ u_ws RX5 TX5 2, goodWord w = true) w hw)
theorem iX6 : ∀ w ∈ u_ws RX6 TX6 16, w ∈ gT := fun w hw => gT_of ((by decide +kernel : ∀ w ∈ u_ws RX6 TX6 16, w ∈ lw_tbl) w hw) ((by decide +kernel : ∀ w ∈ u_ws RX6 TX6 16, goodWord w = true) w hw)
theorem iX7 : ∀ w ∈ u_ws RX7 TX7 5, w ∈ gT := fun w hw => gT_of ((by decide +kernel : ∀ w ∈ u_ws RX7 TX7 5, w ∈ lw_tbl) w hw) ((by decide +kernel : ∀ w ∈ u_ws RX7 TX7 5, goodWord w = true) w hw)
theorem iX8 : ∀ w ∈ u_ws RX8 TX8 9, w ∈ gT := fun w hw => gT_of ((by decide +kernel : ∀ w ∈ u_ws RX8 TX8 9, w ∈ lw_tbl) w hw) ((by decide +kernel : ∀ w ∈ u_ws RX8 TX8 9, goodWord w = true) w hw)
theorem iX9 : ∀ w ∈ u_ws RX9 TX9 16, w ∈ gT := fun w hw => gT_of ((by decide +kernel : ∀ w ∈ u_ws RX9 TX9 16, w ∈ lw_tbl) w hw) ((by decide +kernel : ∀ w ∈ u_ws RX9 TX9 16, goodWord w = true) w hw)
theorem iX10 : ∀ w ∈ u_ws RX10 TX10 4, w ∈ gT := fun w hw => gT_of ((by decide +kernel : ∀ w ∈ u_ws RX10 TX10 4, w ∈ lw_tbl) w hw) ((by decide +kernel : ∀ w ∈ u_ws RX10 TX10 4, goodWord w = true) w hw)
theorem iX11 : ∀ w ∈ u_ws RX11 TX11 10, w ∈ gT := fun w hw => gT_of ((by decide +kernel : ∀ w ∈ u_ws RX11 TX11 10, w ∈ lw_tbl) w hw) ((by decide +kernel : ∀ w ∈ u_ws RX11 TX11 10, goodWord w = true) w hw)
theorem iX12 : ∀ w ∈ u_ws RX12 TX12 24, w ∈ gT := fun w hw => gT_of ((by decide +kernel : ∀ w ∈ u_ws RX12 TX12 24, w ∈ lw_tbl) w hw) ((by decide +kernel : ∀ w ∈ u_ws RX12 TX12 24, goodWord w = true) w hw)
end
section
/-! ===== CORE: the whole heap above n0 as one memory of whole numbers, M offset slot; offsets, slots and values are Int ===== -/
abbrev gM : Type := Int → Int → Int
def gset (M : gM) (o k z : Int) : gM := fun a b => if a = o ∧ b = k then z else M a b
def gnew (M : gM) (o : Int) : gM := fun a b => if a = o then 0 else M a b
theorem gset_eq (M : gM) (o k z : Int) : gset M o k z o k = z := by simp [gset]
theorem gset_ne {M : gM} {o k z a b : Int} (h : ¬ (a = o ∧ b = k)) : gset M o k z a b = M a b := by simp only [gset, if_neg h]
theorem gset_at (M : gM) (o k z a b : Int) : gset M o k z a b = if a = o ∧ b = k then z else M a b := rfl
theorem gnew_eq (M : gM) (o b : Int) : gnew M o o b = 0 := by simp [gnew]
theorem gnew_ne {M : gM} {o a b : Int} (h : ¬ a = o) : gnew M o a b = M a b := by simp only [gnew, if_neg h]
abbrev gJ (z : Int) : Value := .int (Int32.ofInt z)
abbrev gV (z : Int) : Value := .long (Int64.ofInt z)
abbrev gA (n0 : Nat) (o : Int) : Value := .ref (n0 + o.toNat)
def gRf (n0 : Nat) (z : Int) : Option Nat := if z = 0 then none else some (n0 + (z - 1).toNat)
/-- a field of each type, as a value -/
def gfv (n0 : Nat) (ty : FieldType) (z : Int) : Value := match ty with
  | .long => .long (Int64.ofInt z)
  | .object _ => va_rf (gRf n0 z)
  | .array _ => va_rf (gRf n0 z)
  | _ => .int (Int32.ofInt z)
/-- what lies at an offset: (0, class) an object; (1, n) int[n], (2, n) long[n], (3, n) byte[n], (4, n) boolean[n], (5.., n) arrays of references -/
def gent (n0 : Nat) (cA : Nat → ClassId) (k : Nat × Nat) (f : Int → Int) : va_E := match k.1 with
  | 0 => .inr (k.2, (List.range (gNF k.2)).map (fun j => gfv n0 (gTY k.2 j) (f (j : Int))))
  | 1 => .inl (cA 1, k.2, .inl (fun j => Int32.ofInt (f (j : Int))))
  | 2 => .inl (cA 2, k.2, .inr (.inl (fun j => Int64.ofInt (f (j : Int)))))
  | 3 => .inl (cA 3, k.2, .inl (fun j => Int32.ofInt (f (j : Int))))
  | 4 => .inl (cA 4, k.2, .inl (fun j => Int32.ofInt (f (j : Int))))
  | i + 5 => .inl (cA (i + 5), k.2, .inr (.inr (.inr (.inr (fun j => gRf n0 (f (j : Int)))))))
def gws (n0 : Nat) (cA : Nat → ClassId) (M : gM) (sz : Nat) : va_W := (List.range sz).map (fun (o : Nat) => (n0 + o, gent n0 cA (glay (o : Int)) (M (o : Int))))
abbrev gtys (cA : Nat → ClassId) : List (ClassId × FieldType) := [(cA 1, .int), (cA 2, .long), (cA 3, .byte), (cA 4, .boolean), (cA 5, .object RX0), (cA 6, .object RX6), (cA 7, .object RX8)]
def gWd (n0 : Nat) (D : va_G) (cA : Nat → ClassId) (M : gM) (sz : Nat) (H : Heap) : Prop := H.size = n0 + sz ∧ va_P D vwCl (gws n0 cA M sz) H
theorem gws_get (n0 : Nat) (cA : Nat → ClassId) (M : gM) {sz : Nat} {o : Int} (h0 : 0 ≤ o) (h1 : o < (sz : Int)) : (gws n0 cA M sz)[o.toNat]? = some (n0 + o.toNat, gent n0 cA (glay o) (M o)) := by
  have h2 : o.toNat < sz := by omega
  have h3 : ((o.toNat : Nat) : Int) = o := by omega
  simp only [gws, List.getElem?_map, List.getElem?_range h2, Option.map_some, h3]
theorem gws_D (n0 : Nat) (cA : Nat → ClassId) (M : gM) (sz : Nat) : va_D (fun q => n0 ≤ q) (gws n0 cA M sz) := by
  have key : ∀ (i : Nat) (p : Nat × va_E), (gws n0 cA M sz)[i]? = some p → p.1 = n0 + i := by
    intro i p h
    simp only [gws, List.getElem?_map] at h
    cases hi : (List.range sz)[i]? with
    | none => rw [hi] at h; cases h
    | some x =>
      rw [hi] at h
      have hx := (List.getElem?_eq_some_iff.mp hi).2
      rw [List.getElem_range] at hx
      subst hx
      have h2 := Option.some.inj h
      rw [← h2]
  refine ⟨fun i j p q hi hj hpq => ?_, fun k q hk => ?_⟩
  · have a := key i p hi
    have b := key j q hj
    omega
  · have a := key k q hk
    show n0 ≤ q.1
    omega
/-- one place of the world is written -/
theorem gws_set (n0 : Nat) (cA : Nat → ClassId) (M M' : gM) {sz : Nat} {o : Int} (h0 : 0 ≤ o) (h1 : o < (sz : Int)) (e : va_E) (he : e = gent n0 cA (glay o) (M' o)) (ho : ∀ a : Int, a ≠ o → M' a = M a) : (gws n0 cA M sz).set o.toNat (n0 + o.toNat, e) = gws n0 cA M' sz := by
  subst he
  have h2 : o.toNat < sz := by omega
  have h3 : ((o.toNat : Nat) : Int) = o := by omega
  refine List.ext_getElem? fun i => ?_
  by_cases hi : i = o.toNat
  · subst hi
    rw [List.getElem?_set_self (by simpa [gws] using h2), gws_get n0 cA M' h0 h1]
  · rw [List.getElem?_set_ne (Ne.symm hi)]
    simp only [gws, List.getElem?_map]
    cases hr : (List.range sz)[i]? with
    | none => rfl
    | some x =>
      have hx := (List.getElem?_eq_some_iff.mp hr).2
      rw [List.getElem_range] at hx
      subst hx
      have hne : (i : Int) ≠ o := by omega
      simp only [Option.map_some, ho _ hne]
theorem gws_push (n0 : Nat) (cA : Nat → ClassId) (M M' : gM) (sz : Nat) (e : va_E) (he : e = gent n0 cA (glay (sz : Int)) (M' (sz : Int))) (ho : ∀ a : Int, a ≠ (sz : Int) → M' a = M a) : gws n0 cA M sz ++ [(n0 + sz, e)] = gws n0 cA M' (sz + 1) := by
  subst he
  simp only [gws, List.range_succ, List.map_append, List.map_cons, List.map_nil]
  congr 1
  refine List.map_congr_left fun i hi => ?_
  have : i < sz := List.mem_range.mp hi
  rw [ho (i : Int) (by omega)]
theorem gset_off {M : gM} {o k z : Int} : ∀ a : Int, a ≠ o → gset M o k z a = M a := fun a h => by funext b; exact gset_ne (fun q => h q.1)
theorem gset_on {M : gM} {o k z : Int} : gset M o k z o = fun b => if b = k then z else M o b := by funext b; simp [gset]
theorem gnew_off {M : gM} {o : Int} : ∀ a : Int, a ≠ o → gnew M o a = M a := fun a h => by funext b; exact gnew_ne h
theorem gnew_on {M : gM} {o : Int} : gnew M o o = fun _ => 0 := by funext b; simp [gnew]
/-! numbers -/
theorem gi_toInt {z : Int} (h : -2147483648 ≤ z ∧ z ≤ 2147483647) : (Int32.ofInt z).toInt = z := by
  rw [Int32.toInt_ofInt]
  exact Int.bmod_eq_of_le (by show -(Int.ofNat (Int32.size / 2)) ≤ z; simp [Int32.size]; omega) (by simp [Int32.size]; omega)
theorem gi_of (x : Int32) : x = Int32.ofInt x.toInt := (Int32.ofInt_toInt x).symm
theorem gi_rg (x : Int32) : -2147483648 ≤ x.toInt ∧ x.toInt ≤ 2147483647 := ⟨Int32.le_toInt x, by have := Int32.toInt_lt x; omega⟩
theorem gi_lt {a b : Int} (ha : -2147483648 ≤ a ∧ a ≤ 2147483647) (hb : -2147483648 ≤ b ∧ b ≤ 2147483647) : Int32.ofInt a < Int32.ofInt b ↔ a < b := by rw [Int32.lt_iff_toInt_lt, gi_toInt ha, gi_toInt hb]
theorem gi_le {a b : Int} (ha : -2147483648 ≤ a ∧ a ≤ 2147483647) (hb : -2147483648 ≤ b ∧ b ≤ 2147483647) : Int32.ofInt a ≤ Int32.ofInt b ↔ a ≤ b := by rw [Int32.le_iff_toInt_le, gi_toInt ha, gi_toInt hb]
theorem gi_eq {a b : Int} (ha : -2147483648 ≤ a ∧ a ≤ 2147483647) (hb : -2147483648 ≤ b ∧ b ≤ 2147483647) : Int32.ofInt a = Int32.ofInt b ↔ a = b := by rw [← Int32.toInt_inj, gi_toInt ha, gi_toInt hb]
theorem gi_0 : (0 : Int32) = Int32.ofInt 0 := by decide +kernel
theorem gi_in {i : Int} {n : Nat} (h0 : 0 ≤ i) (h1 : i < (n : Int)) (hn : (n : Int) ≤ 2147483647) : vp_in (Int32.ofInt i) n := by
  rw [vp_in_iff, gi_toInt ⟨by omega, by omega⟩]
  exact ⟨h0, h1⟩
theorem gi_cl {i : Int} (h0 : 0 ≤ i) (h1 : i ≤ 2147483647) : (((Int32.ofInt i).toNatClampNeg : Nat) : Int) = i := by
  show (((Int32.ofInt i).toInt.toNat : Nat) : Int) = i
  rw [gi_toInt ⟨by omega, h1⟩]
  omega
theorem gl_of (x : Int64) : x = Int64.ofInt x.toInt := (Int64.ofInt_toInt x).symm
theorem gl_rg (x : Int64) : -9223372036854775808 ≤ x.toInt ∧ x.toInt ≤ 9223372036854775807 := ⟨Int64.le_toInt x, by have := Int64.toInt_lt x; omega⟩
theorem gl_toInt {z : Int} (h : -9223372036854775808 ≤ z ∧ z ≤ 9223372036854775807) : (Int64.ofInt z).toInt = z := by
  rw [Int64.toInt_ofInt]
  exact Int.bmod_eq_of_le (by simp [Int64.size]; omega) (by simp [Int64.size]; omega)
theorem gl_lt {a b : Int} (ha : -9223372036854775808 ≤ a ∧ a ≤ 9223372036854775807) (hb : -9223372036854775808 ≤ b ∧ b ≤ 9223372036854775807) : Int64.ofInt a < Int64.ofInt b ↔ a < b := by rw [Int64.lt_iff_toInt_lt, gl_toInt ha, gl_toInt hb]
theorem gl_eq {a b : Int} (ha : -9223372036854775808 ≤ a ∧ a ≤ 9223372036854775807) (hb : -9223372036854775808 ≤ b ∧ b ≤ 9223372036854775807) : Int64.ofInt a = Int64.ofInt b ↔ a = b := by rw [← Int64.toInt_inj, gl_toInt ha, gl_toInt hb]
theorem gi_and_m1 (a : Int) : Int32.ofInt a &&& Int32.ofInt (-1) = Int32.ofInt a := by
  have h : (Int32.ofInt (-1)) = -1 := by decide +kernel
  rw [h]
  exact Int32.and_neg_one
def gP10 (i : Int) : Int := if i = 0 then 1 else if i = 1 then 10 else if i = 2 then 100 else if i = 3 then 1000 else if i = 4 then 10000 else if i = 5 then 100000 else if i = 6 then 1000000 else if i = 7 then 10000000 else if i = 8 then 100000000 else if i = 9 then 1000000000 else 10000000000
theorem gP10_s {i : Int} (h0 : 0 ≤ i) (h1 : i < 10) : gP10 (i + 1) = gP10 i * 10 := by
  have h : i = 0 ∨ i = 1 ∨ i = 2 ∨ i = 3 ∨ i = 4 ∨ i = 5 ∨ i = 6 ∨ i = 7 ∨ i = 8 ∨ i = 9 := by omega
  rcases h with rfl | rfl | rfl | rfl | rfl | rfl | rfl | rfl | rfl | rfl <;> decide
theorem gP10_b {i : Int} : 1 ≤ gP10 i ∧ gP10 i ≤ 10000000000 := by
  unfold gP10
  repeat' split
  all_goals omega
/-! what every method may use -/
def gNM (U : State) : Prop := ∀ q ∈ gNestM, va_Nw (.methodLinkNest q.1 q.2.1 q.2.2.1 q.2.2.2) U
def gNFs (U : State) : Prop := ∀ q ∈ gNestF, va_Nw (.fieldLinkNest q.1 q.2.1 q.2.2.1 q.2.2.2.1 q.2.2.2.2.1 q.2.2.2.2.2) U
def gK (D : va_G) (cA : Nat → ClassId) (U : State) : Prop := va_K D vwCl (gtys cA) U ∧ gNM U ∧ gNFs U ∧ va_AO RX0 U ∧ va_AO RX6 U ∧ va_AO RX8 U
theorem gK.same {D : va_G} {cA : Nat → ClassId} {u U : State} (h : u.vm = U.vm) (k : gK D cA u) : gK D cA U := by
  obtain ⟨k1, k2, k3, k4, k5, k6⟩ := k
  have ha : u.vm.Alike U.vm := by rw [h]; exact Vm.Alike.refl _
  exact ⟨va_K.moved ha k1, fun q hq => va_Nw.same rfl h (k2 q hq), fun q hq => va_Nw.same rfl h (k3 q hq), va_AO.moved ha k4, va_AO.moved ha k5, va_AO.moved ha k6⟩
theorem gK.warm {D : va_G} {cA : Nat → ClassId} {s U : State} (h : s.WarmedH U.vm) (k : gK D cA s) : gK D cA U := by
  obtain ⟨k1, k2, k3, k4, k5, k6⟩ := k
  exact ⟨va_K.moved h.alike k1, fun q hq => va_Nw.warmM h (k2 q hq), fun q hq => va_Nw.warmF h (k3 q hq), va_AO.moved h.alike k4, va_AO.moved h.alike k5, va_AO.moved h.alike k6⟩
/-- the two arrays that statics hold, below n0 -/
def gOld (n0 : Nat) (U : State) (H : Heap) : Prop := n0 ≤ H.size ∧ ∃ b1 b2 : Nat, b1 < n0 ∧ b2 < n0 ∧ va_Z "ParishUnion" "KIND_ABOVE" "[I" (.ref b1) (fun q => n0 ≤ q) U H ∧ va_X b1 5 gKA U H ∧ va_Z "ParishUnion" "WITHOUT_ACTS" "[I" (.ref b2) (fun q => n0 ≤ q) U H ∧ va_X b2 10 gWA U H
theorem gOld.moved {n0 : Nat} {u U : State} {H : Heap} (h : u.vm.Alike U.vm) (k : gOld n0 u H) : gOld n0 U H := by
  obtain ⟨k0, b1, b2, k1, k2, k3, k4, k5, k6⟩ := k
  exact ⟨k0, b1, b2, k1, k2, va_Z.moved h k3, va_X.moved h k4, va_Z.moved h k5, va_X.moved h k6⟩
theorem gOld.kept {n0 : Nat} {U : State} {H H1 : Heap} (k : gOld n0 U H) (hz : H.size ≤ H1.size) (hq : ∀ q : Nat, q < H.size → ¬ n0 ≤ q → H1[q]? = H[q]?) : gOld n0 U H1 := by
  obtain ⟨k0, b1, b2, k1, k2, k3, k4, k5, k6⟩ := k
  exact ⟨Nat.le_trans k0 hz, b1, b2, k1, k2, va_Z.kept k3 hq, va_X.kept k4 (hq b1 (Nat.lt_of_lt_of_le k1 k0) (by omega)), va_Z.kept k5 hq, va_X.kept k6 (hq b2 (Nat.lt_of_lt_of_le k2 k0) (by omega))⟩
/-! contracts -/
def gPc (n0 : Nat) (D : va_G) (cA : Nat → ClassId) (av : List Value) (M : gM) (sz : Nat) : Array Value → State → Prop := va_Pc av (fun U => gWd n0 D cA M sz U.heap ∧ gK D cA U ∧ gOld n0 U U.heap)
def gQi (n0 : Nat) (D : va_G) (cA : Nat → ClassId) (sz : Nat) (Po : Int → gM → Prop) : Array Value → State → Outcome → State → Prop := va_Qi (S := Int × gM) (fun r u => r = Int32.ofInt u.1 ∧ Po u.1 u.2) (fun u t => gWd n0 D cA u.2 sz t.heap) (fun q => n0 ≤ q)
def gQl (n0 : Nat) (D : va_G) (cA : Nat → ClassId) (sz : Nat) (Po : Int → gM → Prop) : Array Value → State → Outcome → State → Prop := va_Ql (S := Int × gM) (fun r u => r = Int64.ofInt u.1 ∧ Po u.1 u.2) (fun u t => gWd n0 D cA u.2 sz t.heap) (fun q => n0 ≤ q)
def gQv (n0 : Nat) (D : va_G) (cA : Nat → ClassId) (sz : Nat) (Po : gM → Prop) : Array Value → State → Outcome → State → Prop := va_Qv (S := gM) (fun u => Po u) (fun u t => gWd n0 D cA u sz t.heap) (fun q => n0 ≤ q)
theorem gPc_blind {n0 : Nat} {D : va_G} {cA : Nat → ClassId} {av : List Value} {M : gM} {sz : Nat} : FrameBlind (gPc n0 D cA av M sz) := fun a U g mk q => ⟨q.1, q.2.1, gK.same (u := U) (U := U.calling g mk a) rfl q.2.2.1, gOld.moved (u := U) (U := U.calling g mk a) (Vm.Alike.refl U.vm) q.2.2.2⟩
abbrev gWsOf (y : MethodName) (bytes : ByteArray) (maxL : Nat) (ret : Option FieldType) : List Cond := .code y bytes maxL ret :: gT
theorem gT_good : GoodIn gT gT := fun w hw => ⟨hw, good_of_word (List.mem_filter.mp hw).2⟩
theorem gT_ok {y : MethodName} {bytes : ByteArray} {maxL : Nat} {ret : Option FieldType} (h : Cond.code y bytes maxL ret ∈ gT) : GoodIn gT (gWsOf y bytes maxL ret) := fun w hw => (List.mem_cons.mp hw).elim (fun e => e ▸ gT_good _ h) (fun e => gT_good _ e)
theorem gT_in {i : Nat} {w : Cond} (h : lw_tbl[i]? = some w) (hg : goodWord w = true) : w ∈ gT := List.mem_filter.mpr ⟨List.mem_of_getElem? h, hg⟩
def gCx (p : Program) (s : State) (m : MethodId) (args : Array Value) (meth : Method) (c : Code) (n0 : Nat) (D : va_G) (cA : Nat → ClassId) (own : String) (cc : ByteArray) (nL : Nat) : Prop :=
  p.tables.exec = Jvm.exec ∧ c.code = cc ∧ c.maxLocals = nL ∧ s.vm.findClass own = some m.cls ∧ (∀ w ∈ gT, w.before args s = true) ∧ meth.locks = false ∧ gK D cA s ∧ gOld n0 s s.heap
def G (p : Program) (l : Launch) (e : Env) (R : Room) (s : State) (m : MethodId) (args : Array Value) (below : List Frame) (meth : Method) (c : Code) (n0 : Nat) (D : va_G) (cA : Nat → ClassId) (nL : Nat) (Q : State → Prop) (cells slots : Nat) (M : gM) (sz : Nat) (pc : Nat) (L : List (Nat × Value)) (st : List Value) : Prop :=
  ∀ (H : Heap) (locs : List Loc) (ls : Array Slot), lv_has ls nL L → gWd n0 D cA M sz H → va_S (fun q => n0 ≤ q) s.heap H locs → W p l e R s m args below meth c H locs cells slots Q (F0 m pc ls st)
section GROWS
variable {p : Program} {l : Launch} {e : Env} {R : Room} {s : State} {m : MethodId} {args : Array Value} {below : List Frame} {meth : Method} {c : Code} {n0 : Nat} {D : va_G} {cA : Nat → ClassId} {nL : Nat} {Q : State → Prop} {cells slots : Nat} {M : gM} {sz pc n : Nat} {L : List (Nat × Value)} {st : List Value} {own : String} {cc : ByteArray}
theorem G.widen {k j : Nat} (h1 : cells ≤ k) (h2 : slots ≤ j) (kk : G p l e R s m args below meth c n0 D cA nL Q k j M sz pc L st) : G p l e R s m args below meth c n0 D cA nL Q cells slots M sz pc L st := fun H locs ls hl hW hS => W.widen h1 h2 (kk H locs ls hl hW hS)
theorem G.sub {L' : List (Nat × Value)} (ks : List Nat) (hl : lv_pick L ks = L') (kk : G p l e R s m args below meth c n0 D cA nL Q cells slots M sz pc L' st) : G p l e R s m args below meth c n0 D cA nL Q cells slots M sz pc L st := fun H locs ls h hW hS => kk H locs ls (lv_sub h ks hl) hW hS
theorem G.cong {M' : gM} (h : M = M') (kk : G p l e R s m args below meth c n0 D cA nL Q cells slots M' sz pc L st) : G p l e R s m args below meth c n0 D cA nL Q cells slots M sz pc L st := h ▸ kk
theorem g_iload (X : gCx p s m args meth c n0 D cA own cc nL) (k : Nat) {i : Nat} {z : Int} (hd : decode cc pc = .ok (.iload i, 2)) (hk : L[k]? = some (i, gJ z)) (hn : pc + 2 = n) (kk : G p l e R s m args below meth c n0 D cA nL Q cells slots M sz n L (gJ z :: st)) : G p l e R s m args below meth c n0 D cA nL Q cells slots M sz pc L st := by
  subst hn
  exact fun H locs ls hl hW hS => lv_iload X.1 X.2.1 hd (lv_at hl k hk) (kk H locs ls hl hW hS)
theorem g_iload_n (X : gCx p s m args meth c n0 D cA own cc nL) (k : Nat) {j : Fin 4} {i : Nat} {z : Int} (hd : decode cc pc = .ok (.iload_n j, 1)) (hi : (j : Nat) = i) (hk : L[k]? = some (i, gJ z)) (hn : pc + 1 = n) (kk : G p l e R s m args below meth c n0 D cA nL Q cells slots M sz n L (gJ z :: st)) : G p l e R s m args below meth c n0 D cA nL Q cells slots M sz pc L st := by
  subst hn
  exact fun H locs ls hl hW hS => lv_iload_n X.1 X.2.1 hd hi (lv_at hl k hk) (kk H locs ls hl hW hS)
theorem g_aload (X : gCx p s m args meth c n0 D cA own cc nL) (k : Nat) {i : Nat} {o : Nat} (hd : decode cc pc = .ok (.aload i, 2)) (hk : L[k]? = some (i, .ref o)) (hn : pc + 2 = n) (kk : G p l e R s m args below meth c n0 D cA nL Q cells slots M sz n L (.ref o :: st)) : G p l e R s m args below meth c n0 D cA nL Q cells slots M sz pc L st := by
  subst hn
  exact fun H locs ls hl hW hS => lv_aload X.1 X.2.1 hd (lv_at hl k hk) (kk H locs ls hl hW hS)
theorem g_aload_n (X : gCx p s m args meth c n0 D cA own cc nL) (k : Nat) {j : Fin 4} {i : Nat} {o : Nat} (hd : decode cc pc = .ok (.aload_n j, 1)) (hi : (j : Nat) = i) (hk : L[k]? = some (i, .ref o)) (hn : pc + 1 = n) (kk : G p l e R s m args below meth c n0 D cA nL Q cells slots M sz n L (.ref o :: st)) : G p l e R s m args below meth c n0 D cA nL Q cells slots M sz pc L st := by
  subst hn
  exact fun H locs ls hl hW hS => lv_aload_n X.1 X.2.1 hd hi (lv_at hl k hk) (kk H locs ls hl hW hS)
theorem g_lload (X : gCx p s m args meth c n0 D cA own cc nL) (k : Nat) {i : Nat} {z : Int} (hd : decode cc pc = .ok (.lload i, 2)) (hk : L[k]? = some (i, gV z)) (hn : pc + 2 = n) (kk : G p l e R s m args below meth c n0 D cA nL Q cells slots M sz n L (gV z :: st)) : G p l e R s m args below meth c n0 D cA nL Q cells slots M sz pc L st := by
  subst hn
  exact fun H locs ls hl hW hS => lv_lload X.1 X.2.1 hd (lv_at hl k hk) (kk H locs ls hl hW hS)
theorem g_lload_n (X : gCx p s m args meth c n0 D cA own cc nL) (k : Nat) {j : Fin 4} {i : Nat} {z : Int} (hd : decode cc pc = .ok (.lload_n j, 1)) (hi : (j : Nat) = i) (hk : L[k]? = some (i, gV z)) (hn : pc + 1 = n) (kk : G p l e R s m args below meth c n0 D cA nL Q cells slots M sz n L (gV z :: st)) : G p l e R s m args below meth c n0 D cA nL Q cells slots M sz pc L st := by
  subst hn
  exact fun H locs ls hl hW hS => lv_lload_n X.1 X.2.1 hd hi (lv_at hl k hk) (kk H locs ls hl hW hS)
theorem g_istore (X : gCx p s m args meth c n0 D cA own cc nL) {i : Nat} {z : Int} {L' : List (Nat × Value)} (hd : decode cc pc = .ok (.istore i, 2)) (hn' : i < nL) (hL : (i, gJ z) :: L.filter (fun q => !(q.1 == i) && !(q.1 + 1 == i && q.2.category == 2)) = L') (hn : pc + 2 = n) (kk : G p l e R s m args below meth c n0 D cA nL Q cells slots M sz n L' st) : G p l e R s m args below meth c n0 D cA nL Q cells slots M sz pc L (gJ z :: st) := by
  subst hn
  exact fun H locs ls hl hW hS => lv_istore X.1 X.2.1 hd hl hn' hL (fun ls hl => kk H locs ls hl hW hS)
theorem g_istore_n (X : gCx p s m args meth c n0 D cA own cc nL) {j : Fin 4} {i : Nat} {z : Int} {L' : List (Nat × Value)} (hd : decode cc pc = .ok (.istore_n j, 1)) (hi : (j : Nat) = i) (hn' : i < nL) (hL : (i, gJ z) :: L.filter (fun q => !(q.1 == i) && !(q.1 + 1 == i && q.2.category == 2)) = L') (hn : pc + 1 = n) (kk : G p l e R s m args below meth c n0 D cA nL Q cells slots M sz n L' st) : G p l e R s m args below meth c n0 D cA nL Q cells slots M sz pc L (gJ z :: st) := by
  subst hn
  exact fun H locs ls hl hW hS => lv_istore_n X.1 X.2.1 hd hi hl hn' hL (fun ls hl => kk H locs ls hl hW hS)
theorem g_astore (X : gCx p s m args meth c n0 D cA own cc nL) {i : Nat} {o : Nat} {L' : List (Nat × Value)} (hd : decode cc pc = .ok (.astore i, 2)) (hn' : i < nL) (hL : (i, .ref o) :: L.filter (fun q => !(q.1 == i) && !(q.1 + 1 == i && q.2.category == 2)) = L') (hn : pc + 2 = n) (kk : G p l e R s m args below meth c n0 D cA nL Q cells slots M sz n L' st) : G p l e R s m args below meth c n0 D cA nL Q cells slots M sz pc L (.ref o :: st) := by
  subst hn
  exact fun H locs ls hl hW hS => lv_astore X.1 X.2.1 hd hl hn' hL (fun ls hl => kk H locs ls hl hW hS)
theorem g_astore_n (X : gCx p s m args meth c n0 D cA own cc nL) {j : Fin 4} {i : Nat} {o : Nat} {L' : List (Nat × Value)} (hd : decode cc pc = .ok (.astore_n j, 1)) (hi : (j : Nat) = i) (hn' : i < nL) (hL : (i, .ref o) :: L.filter (fun q => !(q.1 == i) && !(q.1 + 1 == i && q.2.category == 2)) = L') (hn : pc + 1 = n) (kk : G p l e R s m args below meth c n0 D cA nL Q cells slots M sz n L' st) : G p l e R s m args below meth c n0 D cA nL Q cells slots M sz pc L (.ref o :: st) := by
  subst hn
  exact fun H locs ls hl hW hS => lv_astore_n X.1 X.2.1 hd hi hl hn' hL (fun ls hl => kk H locs ls hl hW hS)
theorem g_lstore (X : gCx p s m args meth c n0 D cA own cc nL) {i : Nat} {z : Int} {L' : List (Nat × Value)} (hd : decode cc pc = .ok (.lstore i, 2)) (hn' : i + 1 < nL) (hL : (i, gV z) :: L.filter (fun q => !(q.1 == i) && (!(q.1 == i + 1) && !(q.1 + 1 == i && q.2.category == 2))) = L') (hn : pc + 2 = n) (kk : G p l e R s m args below meth c n0 D cA nL Q cells slots M sz n L' st) : G p l e R s m args below meth c n0 D cA nL Q cells slots M sz pc L (gV z :: st) := by
  subst hn
  exact fun H locs ls hl hW hS => lv_lstore X.1 X.2.1 hd hl hn' hL (fun ls hl => kk H locs ls hl hW hS)
theorem g_lstore_n (X : gCx p s m args meth c n0 D cA own cc nL) {j : Fin 4} {i : Nat} {z : Int} {L' : List (Nat × Value)} (hd : decode cc pc = .ok (.lstore_n j, 1)) (hi : (j : Nat) = i) (hn' : i + 1 < nL) (hL : (i, gV z) :: L.filter (fun q => !(q.1 == i) && (!(q.1 == i + 1) && !(q.1 + 1 == i && q.2.category == 2))) = L') (hn : pc + 1 = n) (kk : G p l e R s m args below meth c n0 D cA nL Q cells slots M sz n L' st) : G p l e R s m args below meth c n0 D cA nL Q cells slots M sz pc L (gV z :: st) := by
  subst hn
  exact fun H locs ls hl hW hS => lv_lstore_n X.1 X.2.1 hd hi hl hn' hL (fun ls hl => kk H locs ls hl hW hS)
theorem g_iinc (X : gCx p s m args meth c n0 D cA own cc nL) (k : Nat) {i : Nat} {d z w : Int} {L' : List (Nat × Value)} (hd : decode cc pc = .ok (.iinc i d, 3)) (hk : L[k]? = some (i, gJ z)) (hv : z + d = w) (hn' : i < nL) (hL : (i, gJ w) :: L.filter (fun q => !(q.1 == i) && !(q.1 + 1 == i && q.2.category == 2)) = L') (hn : pc + 3 = n) (kk : G p l e R s m args below meth c n0 D cA nL Q cells slots M sz n L' st) : G p l e R s m args below meth c n0 D cA nL Q cells slots M sz pc L st := by
  subst hn
  exact fun H locs ls hl hW hS => lv_iinc (v := Int32.ofInt w) X.1 X.2.1 hd hl hk (by rw [← Int32.ofInt_add, hv]) hn' hL (fun ls hl => kk H locs ls hl hW hS)
theorem g_iconst (X : gCx p s m args meth c n0 D cA own cc nL) {z : Int} (hd : decode cc pc = .ok (.iconst z, 1))  (hn : pc + 1 = n) (kk : G p l e R s m args below meth c n0 D cA nL Q cells slots M sz n L (gJ z :: st)) : G p l e R s m args below meth c n0 D cA nL Q cells slots M sz pc L st := by
  subst hn
  exact fun H locs ls hl hW hS => lv_iconst X.1 X.2.1 hd rfl (kk H locs ls hl hW hS)
theorem g_bipush (X : gCx p s m args meth c n0 D cA own cc nL) {z : Int} (hd : decode cc pc = .ok (.bipush z, 2)) (hv : (Int8.ofInt z).toInt32 = Int32.ofInt z) (hn : pc + 2 = n) (kk : G p l e R s m args below meth c n0 D cA nL Q cells slots M sz n L (gJ z :: st)) : G p l e R s m args below meth c n0 D cA nL Q cells slots M sz pc L st := by
  subst hn
  exact fun H locs ls hl hW hS => lv_bipush X.1 X.2.1 hd hv (kk H locs ls hl hW hS)
theorem g_sipush (X : gCx p s m args meth c n0 D cA own cc nL) {z : Int} (hd : decode cc pc = .ok (.sipush z, 3)) (hv : (Int16.ofInt z).toInt32 = Int32.ofInt z) (hn : pc + 3 = n) (kk : G p l e R s m args below meth c n0 D cA nL Q cells slots M sz n L (gJ z :: st)) : G p l e R s m args below meth c n0 D cA nL Q cells slots M sz pc L st := by
  subst hn
  exact fun H locs ls hl hW hS => lv_sipush X.1 X.2.1 hd hv (kk H locs ls hl hW hS)
theorem g_lconst (X : gCx p s m args meth c n0 D cA own cc nL) {j : Fin 2} {z : Int} (hd : decode cc pc = .ok (.lconst j, 1)) (hv : Int64.ofNat (j : Nat) = Int64.ofInt z) (hn : pc + 1 = n) (kk : G p l e R s m args below meth c n0 D cA nL Q cells slots M sz n L (gV z :: st)) : G p l e R s m args below meth c n0 D cA nL Q cells slots M sz pc L st := by
  subst hn
  exact fun H locs ls hl hW hS => lv_lconst X.1 X.2.1 hd hv (kk H locs ls hl hW hS)
theorem g_ldc (X : gCx p s m args meth c n0 D cA own cc nL) {index : Nat} {v : Int32} {z : Int} (hd : decode cc pc = .ok (.ldc index, 2)) (hw : Cond.constant own index v ∈ gT) (hv : Int32.ofInt z = v) (hn : pc + 2 = n) (kk : G p l e R s m args below meth c n0 D cA nL Q cells slots M sz n L (gJ z :: st)) : G p l e R s m args below meth c n0 D cA nL Q cells slots M sz pc L st := by
  subst hn
  exact fun H locs ls hl hW hS => lv_ldc X.1 X.2.1 X.2.2.2.1 (X.2.2.2.2.1 _ hw) hd (hv ▸ (kk H locs ls hl hW hS))
theorem g_ldc2 (X : gCx p s m args meth c n0 D cA own cc nL) {index : Nat} {v : Int64} {z : Int} (hd : decode cc pc = .ok (.ldc2_w index, 3)) (hw : Cond.constantLong own index v ∈ gT) (hv : Int64.ofInt z = v) (hn : pc + 3 = n) (kk : G p l e R s m args below meth c n0 D cA nL Q cells slots M sz n L (gV z :: st)) : G p l e R s m args below meth c n0 D cA nL Q cells slots M sz pc L st := by
  subst hn
  exact fun H locs ls hl hW hS => lv_ldc2 X.1 X.2.1 X.2.2.2.1 (X.2.2.2.2.1 _ hw) hd (hv ▸ (kk H locs ls hl hW hS))
theorem g_iadd (X : gCx p s m args meth c n0 D cA own cc nL) {a b z : Int} (hd : decode cc pc = .ok (.iadd, 1)) (hv : a + b = z) (hn : pc + 1 = n) (kk : G p l e R s m args below meth c n0 D cA nL Q cells slots M sz n L (gJ z :: st)) : G p l e R s m args below meth c n0 D cA nL Q cells slots M sz pc L (gJ b :: gJ a :: st) := by
  subst hn
  exact fun H locs ls hl hW hS => lv_iadd X.1 X.2.1 hd (by rw [← Int32.ofInt_add, hv]; exact (kk H locs ls hl hW hS))
theorem g_isub (X : gCx p s m args meth c n0 D cA own cc nL) {a b z : Int} (hd : decode cc pc = .ok (.isub, 1)) (hv : a - b = z) (hn : pc + 1 = n) (kk : G p l e R s m args below meth c n0 D cA nL Q cells slots M sz n L (gJ z :: st)) : G p l e R s m args below meth c n0 D cA nL Q cells slots M sz pc L (gJ b :: gJ a :: st) := by
  subst hn
  exact fun H locs ls hl hW hS => lv_isub X.1 X.2.1 hd (by rw [← Int32.ofInt_sub, hv]; exact (kk H locs ls hl hW hS))
theorem g_imul (X : gCx p s m args meth c n0 D cA own cc nL) {a b z : Int} (hd : decode cc pc = .ok (.imul, 1)) (hv : a * b = z) (hn : pc + 1 = n) (kk : G p l e R s m args below meth c n0 D cA nL Q cells slots M sz n L (gJ z :: st)) : G p l e R s m args below meth c n0 D cA nL Q cells slots M sz pc L (gJ b :: gJ a :: st) := by
  subst hn
  exact fun H locs ls hl hW hS => lv_imul X.1 X.2.1 hd (by rw [← Int32.ofInt_mul, hv]; exact (kk H locs ls hl hW hS))
theorem g_ladd (X : gCx p s m args meth c n0 D cA own cc nL) {a b z : Int} (hd : decode cc pc = .ok (.ladd, 1)) (hv : a + b = z) (hn : pc + 1 = n) (kk : G p l e R s m args below meth c n0 D cA nL Q cells slots M sz n L (gV z :: st)) : G p l e R s m args below meth c n0 D cA nL Q cells slots M sz pc L (gV b :: gV a :: st) := by
  subst hn
  exact fun H locs ls hl hW hS => lv_ladd X.1 X.2.1 hd (by rw [← Int64.ofInt_add, hv]; exact (kk H locs ls hl hW hS))
theorem g_lsub (X : gCx p s m args meth c n0 D cA own cc nL) {a b z : Int} (hd : decode cc pc = .ok (.lsub, 1)) (hv : a - b = z) (hn : pc + 1 = n) (kk : G p l e R s m args below meth c n0 D cA nL Q cells slots M sz n L (gV z :: st)) : G p l e R s m args below meth c n0 D cA nL Q cells slots M sz pc L (gV b :: gV a :: st) := by
  subst hn
  exact fun H locs ls hl hW hS => lv_lsub X.1 X.2.1 hd (by rw [← Int64.ofInt_sub, hv]; exact (kk H locs ls hl hW hS))
theorem g_lmul (X : gCx p s m args meth c n0 D cA own cc nL) {a b z : Int} (hd : decode cc pc = .ok (.lmul, 1)) (hv : a * b = z) (hn : pc + 1 = n) (kk : G p l e R s m args below meth c n0 D cA nL Q cells slots M sz n L (gV z :: st)) : G p l e R s m args below meth c n0 D cA nL Q cells slots M sz pc L (gV b :: gV a :: st) := by
  subst hn
  exact fun H locs ls hl hW hS => lv_lmul X.1 X.2.1 hd (by rw [← Int64.ofInt_mul, hv]; exact (kk H locs ls hl hW hS))
theorem g_ishlE (X : gCx p s m args meth c n0 D cA own cc nL) {a b z : Int} (hd : decode cc pc = .ok (.ishl, 1)) (hv : Int32.ofInt a <<< (Int32.ofInt b &&& 31) = Int32.ofInt z) (hn : pc + 1 = n) (kk : G p l e R s m args below meth c n0 D cA nL Q cells slots M sz n L (gJ z :: st)) : G p l e R s m args below meth c n0 D cA nL Q cells slots M sz pc L (gJ b :: gJ a :: st) := by
  subst hn
  exact fun H locs ls hl hW hS => lv_ishl X.1 X.2.1 hd (by rw [hv]; exact (kk H locs ls hl hW hS))
theorem g_ishrE (X : gCx p s m args meth c n0 D cA own cc nL) {a b z : Int} (hd : decode cc pc = .ok (.ishr, 1)) (hv : Int32.ofInt a >>> (Int32.ofInt b &&& 31) = Int32.ofInt z) (hn : pc + 1 = n) (kk : G p l e R s m args below meth c n0 D cA nL Q cells slots M sz n L (gJ z :: st)) : G p l e R s m args below meth c n0 D cA nL Q cells slots M sz pc L (gJ b :: gJ a :: st) := by
  subst hn
  exact fun H locs ls hl hW hS => lv_ishr X.1 X.2.1 hd (by rw [hv]; exact (kk H locs ls hl hW hS))
theorem g_iandE (X : gCx p s m args meth c n0 D cA own cc nL) {a b z : Int} (hd : decode cc pc = .ok (.iand, 1)) (hv : Int32.ofInt a &&& Int32.ofInt b = Int32.ofInt z) (hn : pc + 1 = n) (kk : G p l e R s m args below meth c n0 D cA nL Q cells slots M sz n L (gJ z :: st)) : G p l e R s m args below meth c n0 D cA nL Q cells slots M sz pc L (gJ b :: gJ a :: st) := by
  subst hn
  exact fun H locs ls hl hW hS => lv_iand X.1 X.2.1 hd (by rw [hv]; exact (kk H locs ls hl hW hS))
theorem g_iorE (X : gCx p s m args meth c n0 D cA own cc nL) {a b z : Int} (hd : decode cc pc = .ok (.ior, 1)) (hv : Int32.ofInt a ||| Int32.ofInt b = Int32.ofInt z) (hn : pc + 1 = n) (kk : G p l e R s m args below meth c n0 D cA nL Q cells slots M sz n L (gJ z :: st)) : G p l e R s m args below meth c n0 D cA nL Q cells slots M sz pc L (gJ b :: gJ a :: st) := by
  subst hn
  exact fun H locs ls hl hW hS => lv_ior X.1 X.2.1 hd (by rw [hv]; exact (kk H locs ls hl hW hS))
theorem g_ixorE (X : gCx p s m args meth c n0 D cA own cc nL) {a b z : Int} (hd : decode cc pc = .ok (.ixor, 1)) (hv : Int32.ofInt a ^^^ Int32.ofInt b = Int32.ofInt z) (hn : pc + 1 = n) (kk : G p l e R s m args below meth c n0 D cA nL Q cells slots M sz n L (gJ z :: st)) : G p l e R s m args below meth c n0 D cA nL Q cells slots M sz pc L (gJ b :: gJ a :: st) := by
  subst hn
  exact fun H locs ls hl hW hS => lv_ixor X.1 X.2.1 hd (by rw [hv]; exact (kk H locs ls hl hW hS))
theorem g_landE (X : gCx p s m args meth c n0 D cA own cc nL) {a b z : Int} (hd : decode cc pc = .ok (.land, 1)) (hv : Int64.ofInt a &&& Int64.ofInt b = Int64.ofInt z) (hn : pc + 1 = n) (kk : G p l e R s m args below meth c n0 D cA nL Q cells slots M sz n L (gV z :: st)) : G p l e R s m args below meth c n0 D cA nL Q cells slots M sz pc L (gV b :: gV a :: st) := by
  subst hn
  exact fun H locs ls hl hW hS => lv_land X.1 X.2.1 hd (by rw [hv]; exact (kk H locs ls hl hW hS))
theorem g_lorE (X : gCx p s m args meth c n0 D cA own cc nL) {a b z : Int} (hd : decode cc pc = .ok (.lor, 1)) (hv : Int64.ofInt a ||| Int64.ofInt b = Int64.ofInt z) (hn : pc + 1 = n) (kk : G p l e R s m args below meth c n0 D cA nL Q cells slots M sz n L (gV z :: st)) : G p l e R s m args below meth c n0 D cA nL Q cells slots M sz pc L (gV b :: gV a :: st) := by
  subst hn
  exact fun H locs ls hl hW hS => lv_lor X.1 X.2.1 hd (by rw [hv]; exact (kk H locs ls hl hW hS))
theorem g_idivE (X : gCx p s m args meth c n0 D cA own cc nL) {a b z : Int} (hd : decode cc pc = .ok (.idiv, 1)) (hne : ¬ Int32.ofInt b = 0) (hv : Int32.ofInt a / Int32.ofInt b = Int32.ofInt z) (hn : pc + 1 = n) (kk : G p l e R s m args below meth c n0 D cA nL Q cells slots M sz n L (gJ z :: st)) : G p l e R s m args below meth c n0 D cA nL Q cells slots M sz pc L (gJ b :: gJ a :: st) := by
  subst hn
  exact fun H locs ls hl hW hS => lv_idiv X.1 X.2.1 hd hne (by rw [hv]; exact (kk H locs ls hl hW hS))
theorem g_iremE (X : gCx p s m args meth c n0 D cA own cc nL) {a b z : Int} (hd : decode cc pc = .ok (.irem, 1)) (hne : ¬ Int32.ofInt b = 0) (hv : Int32.ofInt a - Int32.ofInt a / Int32.ofInt b * Int32.ofInt b = Int32.ofInt z) (hn : pc + 1 = n) (kk : G p l e R s m args below meth c n0 D cA nL Q cells slots M sz n L (gJ z :: st)) : G p l e R s m args below meth c n0 D cA nL Q cells slots M sz pc L (gJ b :: gJ a :: st) := by
  subst hn
  exact fun H locs ls hl hW hS => lv_irem X.1 X.2.1 hd hne (by rw [hv]; exact (kk H locs ls hl hW hS))
theorem g_ldivE (X : gCx p s m args meth c n0 D cA own cc nL) {a b z : Int} (hd : decode cc pc = .ok (.ldiv, 1)) (hne : ¬ Int64.ofInt b = 0) (hv : Int64.ofInt a / Int64.ofInt b = Int64.ofInt z) (hn : pc + 1 = n) (kk : G p l e R s m args below meth c n0 D cA nL Q cells slots M sz n L (gV z :: st)) : G p l e R s m args below meth c n0 D cA nL Q cells slots M sz pc L (gV b :: gV a :: st) := by
  subst hn
  exact fun H locs ls hl hW hS => lv_ldiv X.1 X.2.1 hd hne (by rw [hv]; exact (kk H locs ls hl hW hS))
theorem g_lremE (X : gCx p s m args meth c n0 D cA own cc nL) {a b z : Int} (hd : decode cc pc = .ok (.lrem, 1)) (hne : ¬ Int64.ofInt b = 0) (hv : Int64.ofInt a - Int64.ofInt a / Int64.ofInt b * Int64.ofInt b = Int64.ofInt z) (hn : pc + 1 = n) (kk : G p l e R s m args below meth c n0 D cA nL Q cells slots M sz n L (gV z :: st)) : G p l e R s m args below meth c n0 D cA nL Q cells slots M sz pc L (gV b :: gV a :: st) := by
  subst hn
  exact fun H locs ls hl hW hS => lv_lrem X.1 X.2.1 hd hne (by rw [hv]; exact (kk H locs ls hl hW hS))
theorem g_lshlE (X : gCx p s m args meth c n0 D cA own cc nL) {a b z : Int} (hd : decode cc pc = .ok (.lshl, 1)) (hv : Int64.ofInt a <<< ((Int32.ofInt b).toInt64 &&& 63) = Int64.ofInt z) (hn : pc + 1 = n) (kk : G p l e R s m args below meth c n0 D cA nL Q cells slots M sz n L (gV z :: st)) : G p l e R s m args below meth c n0 D cA nL Q cells slots M sz pc L (gJ b :: gV a :: st) := by
  subst hn
  exact fun H locs ls hl hW hS => lv_lshl X.1 X.2.1 hd hv (kk H locs ls hl hW hS)
theorem g_lshrE (X : gCx p s m args meth c n0 D cA own cc nL) {a b z : Int} (hd : decode cc pc = .ok (.lshr, 1)) (hv : Int64.ofInt a >>> ((Int32.ofInt b).toInt64 &&& 63) = Int64.ofInt z) (hn : pc + 1 = n) (kk : G p l e R s m args below meth c n0 D cA nL Q cells slots M sz n L (gV z :: st)) : G p l e R s m args below meth c n0 D cA nL Q cells slots M sz pc L (gJ b :: gV a :: st) := by
  subst hn
  exact fun H locs ls hl hW hS => lv_lshr X.1 X.2.1 hd hv (kk H locs ls hl hW hS)
theorem g_lushrE (X : gCx p s m args meth c n0 D cA own cc nL) {a b z : Int} (hd : decode cc pc = .ok (.lushr, 1)) (hv : ((Int64.ofInt a).toUInt64 >>> ((Int32.ofInt b).toInt64.toUInt64 &&& Int64.toUInt64 63)).toInt64 = Int64.ofInt z) (hn : pc + 1 = n) (kk : G p l e R s m args below meth c n0 D cA nL Q cells slots M sz n L (gV z :: st)) : G p l e R s m args below meth c n0 D cA nL Q cells slots M sz pc L (gJ b :: gV a :: st) := by
  subst hn
  exact fun H locs ls hl hW hS => lv_lushr X.1 X.2.1 hd hv (kk H locs ls hl hW hS)
theorem g_i2lE (X : gCx p s m args meth c n0 D cA own cc nL) {a z : Int} (hd : decode cc pc = .ok (.i2l, 1)) (hv : (Int32.ofInt a).toInt64 = Int64.ofInt z) (hn : pc + 1 = n) (kk : G p l e R s m args below meth c n0 D cA nL Q cells slots M sz n L (gV z :: st)) : G p l e R s m args below meth c n0 D cA nL Q cells slots M sz pc L (gJ a :: st) := by
  subst hn
  exact fun H locs ls hl hW hS => lv_i2l X.1 X.2.1 hd hv (kk H locs ls hl hW hS)
theorem g_l2iE (X : gCx p s m args meth c n0 D cA own cc nL) {a z : Int} (hd : decode cc pc = .ok (.l2i, 1)) (hv : (Int64.ofInt a).toInt32 = Int32.ofInt z) (hn : pc + 1 = n) (kk : G p l e R s m args below meth c n0 D cA nL Q cells slots M sz n L (gJ z :: st)) : G p l e R s m args below meth c n0 D cA nL Q cells slots M sz pc L (gV a :: st) := by
  subst hn
  exact fun H locs ls hl hW hS => lv_l2i X.1 X.2.1 hd hv (kk H locs ls hl hW hS)
theorem g_i2bE (X : gCx p s m args meth c n0 D cA own cc nL) {a z : Int} (hd : decode cc pc = .ok (.i2b, 1)) (hv : (Int32.ofInt a).toInt8.toInt32 = Int32.ofInt z) (hn : pc + 1 = n) (kk : G p l e R s m args below meth c n0 D cA nL Q cells slots M sz n L (gJ z :: st)) : G p l e R s m args below meth c n0 D cA nL Q cells slots M sz pc L (gJ a :: st) := by
  subst hn
  exact fun H locs ls hl hW hS => lv_i2b X.1 X.2.1 hd hv (kk H locs ls hl hW hS)
theorem g_ishlA (X : gCx p s m args meth c n0 D cA own cc nL) {a b : Int} (hd : decode cc pc = .ok (.ishl, 1)) (hn : pc + 1 = n) (kk : ∀ z : Int, -2147483648 ≤ z ∧ z ≤ 2147483647 → Int32.ofInt a <<< (Int32.ofInt b &&& 31) = Int32.ofInt z → G p l e R s m args below meth c n0 D cA nL Q cells slots M sz n L (gJ z :: st)) : G p l e R s m args below meth c n0 D cA nL Q cells slots M sz pc L (gJ b :: gJ a :: st) := g_ishlE X hd (gi_of _) hn (kk _ (gi_rg _) (gi_of _))
theorem g_ishrA (X : gCx p s m args meth c n0 D cA own cc nL) {a b : Int} (hd : decode cc pc = .ok (.ishr, 1)) (hn : pc + 1 = n) (kk : ∀ z : Int, -2147483648 ≤ z ∧ z ≤ 2147483647 → Int32.ofInt a >>> (Int32.ofInt b &&& 31) = Int32.ofInt z → G p l e R s m args below meth c n0 D cA nL Q cells slots M sz n L (gJ z :: st)) : G p l e R s m args below meth c n0 D cA nL Q cells slots M sz pc L (gJ b :: gJ a :: st) := g_ishrE X hd (gi_of _) hn (kk _ (gi_rg _) (gi_of _))
theorem g_iandA (X : gCx p s m args meth c n0 D cA own cc nL) {a b : Int} (hd : decode cc pc = .ok (.iand, 1)) (hn : pc + 1 = n) (kk : ∀ z : Int, -2147483648 ≤ z ∧ z ≤ 2147483647 → Int32.ofInt a &&& Int32.ofInt b = Int32.ofInt z → G p l e R s m args below meth c n0 D cA nL Q cells slots M sz n L (gJ z :: st)) : G p l e R s m args below meth c n0 D cA nL Q cells slots M sz pc L (gJ b :: gJ a :: st) := g_iandE X hd (gi_of _) hn (kk _ (gi_rg _) (gi_of _))
theorem g_iorA (X : gCx p s m args meth c n0 D cA own cc nL) {a b : Int} (hd : decode cc pc = .ok (.ior, 1)) (hn : pc + 1 = n) (kk : ∀ z : Int, -2147483648 ≤ z ∧ z ≤ 2147483647 → Int32.ofInt a ||| Int32.ofInt b = Int32.ofInt z → G p l e R s m args below meth c n0 D cA nL Q cells slots M sz n L (gJ z :: st)) : G p l e R s m args below meth c n0 D cA nL Q cells slots M sz pc L (gJ b :: gJ a :: st) := g_iorE X hd (gi_of _) hn (kk _ (gi_rg _) (gi_of _))
theorem g_ixorA (X : gCx p s m args meth c n0 D cA own cc nL) {a b : Int} (hd : decode cc pc = .ok (.ixor, 1)) (hn : pc + 1 = n) (kk : ∀ z : Int, -2147483648 ≤ z ∧ z ≤ 2147483647 → Int32.ofInt a ^^^ Int32.ofInt b = Int32.ofInt z → G p l e R s m args below meth c n0 D cA nL Q cells slots M sz n L (gJ z :: st)) : G p l e R s m args below meth c n0 D cA nL Q cells slots M sz pc L (gJ b :: gJ a :: st) := g_ixorE X hd (gi_of _) hn (kk _ (gi_rg _) (gi_of _))
theorem g_idivA (X : gCx p s m args meth c n0 D cA own cc nL) {a b : Int} (hd : decode cc pc = .ok (.idiv, 1)) (hne : ¬ Int32.ofInt b = 0) (hn : pc + 1 = n) (kk : ∀ z : Int, -2147483648 ≤ z ∧ z ≤ 2147483647 → Int32.ofInt a / Int32.ofInt b = Int32.ofInt z → G p l e R s m args below meth c n0 D cA nL Q cells slots M sz n L (gJ z :: st)) : G p l e R s m args below meth c n0 D cA nL Q cells slots M sz pc L (gJ b :: gJ a :: st) := g_idivE X hd hne (gi_of _) hn (kk _ (gi_rg _) (gi_of _))
theorem g_iremA (X : gCx p s m args meth c n0 D cA own cc nL) {a b : Int} (hd : decode cc pc = .ok (.irem, 1)) (hne : ¬ Int32.ofInt b = 0) (hn : pc + 1 = n) (kk : ∀ z : Int, -2147483648 ≤ z ∧ z ≤ 2147483647 → Int32.ofInt a - Int32.ofInt a / Int32.ofInt b * Int32.ofInt b = Int32.ofInt z → G p l e R s m args below meth c n0 D cA nL Q cells slots M sz n L (gJ z :: st)) : G p l e R s m args below meth c n0 D cA nL Q cells slots M sz pc L (gJ b :: gJ a :: st) := g_iremE X hd hne (gi_of _) hn (kk _ (gi_rg _) (gi_of _))
theorem g_ldivA (X : gCx p s m args meth c n0 D cA own cc nL) {a b : Int} (hd : decode cc pc = .ok (.ldiv, 1)) (hne : ¬ Int64.ofInt b = 0) (hn : pc + 1 = n) (kk : ∀ z : Int, -9223372036854775808 ≤ z ∧ z ≤ 9223372036854775807 → Int64.ofInt a / Int64.ofInt b = Int64.ofInt z → G p l e R s m args below meth c n0 D cA nL Q cells slots M sz n L (gV z :: st)) : G p l e R s m args below meth c n0 D cA nL Q cells slots M sz pc L (gV b :: gV a :: st) := g_ldivE X hd hne (gl_of _) hn (kk _ (gl_rg _) (gl_of _))
theorem g_lremA (X : gCx p s m args meth c n0 D cA own cc nL) {a b : Int} (hd : decode cc pc = .ok (.lrem, 1)) (hne : ¬ Int64.ofInt b = 0) (hn : pc + 1 = n) (kk : ∀ z : Int, -9223372036854775808 ≤ z ∧ z ≤ 9223372036854775807 → Int64.ofInt a - Int64.ofInt a / Int64.ofInt b * Int64.ofInt b = Int64.ofInt z → G p l e R s m args below meth c n0 D cA nL Q cells slots M sz n L (gV z :: st)) : G p l e R s m args below meth c n0 D cA nL Q cells slots M sz pc L (gV b :: gV a :: st) := g_lremE X hd hne (gl_of _) hn (kk _ (gl_rg _) (gl_of _))
theorem g_landA (X : gCx p s m args meth c n0 D cA own cc nL) {a b : Int} (hd : decode cc pc = .ok (.land, 1)) (hn : pc + 1 = n) (kk : ∀ z : Int, -9223372036854775808 ≤ z ∧ z ≤ 9223372036854775807 → Int64.ofInt a &&& Int64.ofInt b = Int64.ofInt z → G p l e R s m args below meth c n0 D cA nL Q cells slots M sz n L (gV z :: st)) : G p l e R s m args below meth c n0 D cA nL Q cells slots M sz pc L (gV b :: gV a :: st) := g_landE X hd (gl_of _) hn (kk _ (gl_rg _) (gl_of _))
theorem g_lorA (X : gCx p s m args meth c n0 D cA own cc nL) {a b : Int} (hd : decode cc pc = .ok (.lor, 1)) (hn : pc + 1 = n) (kk : ∀ z : Int, -9223372036854775808 ≤ z ∧ z ≤ 9223372036854775807 → Int64.ofInt a ||| Int64.ofInt b = Int64.ofInt z → G p l e R s m args below meth c n0 D cA nL Q cells slots M sz n L (gV z :: st)) : G p l e R s m args below meth c n0 D cA nL Q cells slots M sz pc L (gV b :: gV a :: st) := g_lorE X hd (gl_of _) hn (kk _ (gl_rg _) (gl_of _))
theorem g_lshlA (X : gCx p s m args meth c n0 D cA own cc nL) {a b : Int} (hd : decode cc pc = .ok (.lshl, 1)) (hn : pc + 1 = n) (kk : ∀ z : Int, -9223372036854775808 ≤ z ∧ z ≤ 9223372036854775807 → Int64.ofInt a <<< ((Int32.ofInt b).toInt64 &&& 63) = Int64.ofInt z → G p l e R s m args below meth c n0 D cA nL Q cells slots M sz n L (gV z :: st)) : G p l e R s m args below meth c n0 D cA nL Q cells slots M sz pc L (gJ b :: gV a :: st) := g_lshlE X hd (gl_of _) hn (kk _ (gl_rg _) (gl_of _))
theorem g_lshrA (X : gCx p s m args meth c n0 D cA own cc nL) {a b : Int} (hd : decode cc pc = .ok (.lshr, 1)) (hn : pc + 1 = n) (kk : ∀ z : Int, -9223372036854775808 ≤ z ∧ z ≤ 9223372036854775807 → Int64.ofInt a >>> ((Int32.ofInt b).toInt64 &&& 63) = Int64.ofInt z → G p l e R s m args below meth c n0 D cA nL Q cells slots M sz n L (gV z :: st)) : G p l e R s m args below meth c n0 D cA nL Q cells slots M sz pc L (gJ b :: gV a :: st) := g_lshrE X hd (gl_of _) hn (kk _ (gl_rg _) (gl_of _))
theorem g_lushrA (X : gCx p s m args meth c n0 D cA own cc nL) {a b : Int} (hd : decode cc pc = .ok (.lushr, 1)) (hn : pc + 1 = n) (kk : ∀ z : Int, -9223372036854775808 ≤ z ∧ z ≤ 9223372036854775807 → ((Int64.ofInt a).toUInt64 >>> ((Int32.ofInt b).toInt64.toUInt64 &&& Int64.toUInt64 63)).toInt64 = Int64.ofInt z → G p l e R s m args below meth c n0 D cA nL Q cells slots M sz n L (gV z :: st)) : G p l e R s m args below meth c n0 D cA nL Q cells slots M sz pc L (gJ b :: gV a :: st) := g_lushrE X hd (gl_of _) hn (kk _ (gl_rg _) (gl_of _))
theorem g_i2lA (X : gCx p s m args meth c n0 D cA own cc nL) {a : Int} (hd : decode cc pc = .ok (.i2l, 1)) (hn : pc + 1 = n) (kk : ∀ z : Int, -9223372036854775808 ≤ z ∧ z ≤ 9223372036854775807 → (Int32.ofInt a).toInt64 = Int64.ofInt z → G p l e R s m args below meth c n0 D cA nL Q cells slots M sz n L (gV z :: st)) : G p l e R s m args below meth c n0 D cA nL Q cells slots M sz pc L (gJ a :: st) := g_i2lE X hd (gl_of _) hn (kk _ (gl_rg _) (gl_of _))
theorem g_l2iA (X : gCx p s m args meth c n0 D cA own cc nL) {a : Int} (hd : decode cc pc = .ok (.l2i, 1)) (hn : pc + 1 = n) (kk : ∀ z : Int, -2147483648 ≤ z ∧ z ≤ 2147483647 → (Int64.ofInt a).toInt32 = Int32.ofInt z → G p l e R s m args below meth c n0 D cA nL Q cells slots M sz n L (gJ z :: st)) : G p l e R s m args below meth c n0 D cA nL Q cells slots M sz pc L (gV a :: st) := g_l2iE X hd (gi_of _) hn (kk _ (gi_rg _) (gi_of _))
theorem g_i2bA (X : gCx p s m args meth c n0 D cA own cc nL) {a : Int} (hd : decode cc pc = .ok (.i2b, 1)) (hn : pc + 1 = n) (kk : ∀ z : Int, -2147483648 ≤ z ∧ z ≤ 2147483647 → (Int32.ofInt a).toInt8.toInt32 = Int32.ofInt z → G p l e R s m args below meth c n0 D cA nL Q cells slots M sz n L (gJ z :: st)) : G p l e R s m args below meth c n0 D cA nL Q cells slots M sz pc L (gJ a :: st) := g_i2bE X hd (gi_of _) hn (kk _ (gi_rg _) (gi_of _))
theorem g_dup (X : gCx p s m args meth c n0 D cA own cc nL) {v : Value} (hd : decode cc pc = .ok (.dup, 1)) (hv : v.category = 1) (hn : pc + 1 = n) (kk : G p l e R s m args below meth c n0 D cA nL Q cells slots M sz n L (v :: v :: st)) : G p l e R s m args below meth c n0 D cA nL Q cells slots M sz pc L (v :: st) := by
  subst hn
  exact fun H locs ls hl hW hS => lv_dup X.1 X.2.1 hd hv (kk H locs ls hl hW hS)
theorem g_dup2 (X : gCx p s m args meth c n0 D cA own cc nL) {v w : Value} (hd : decode cc pc = .ok (.dup2, 1)) (hv : v.category = 1) (hw : w.category = 1) (hn : pc + 1 = n) (kk : G p l e R s m args below meth c n0 D cA nL Q cells slots M sz n L (v :: w :: v :: w :: st)) : G p l e R s m args below meth c n0 D cA nL Q cells slots M sz pc L (v :: w :: st) := by
  subst hn
  exact fun H locs ls hl hW hS => lv_dup2_11 X.1 X.2.1 hd hv hw (kk H locs ls hl hW hS)
theorem g_dup_x1 (X : gCx p s m args meth c n0 D cA own cc nL) {v w : Value} (hd : decode cc pc = .ok (.dup_x1, 1)) (hv : v.category = 1) (hw : w.category = 1) (hn : pc + 1 = n) (kk : G p l e R s m args below meth c n0 D cA nL Q cells slots M sz n L (v :: w :: v :: st)) : G p l e R s m args below meth c n0 D cA nL Q cells slots M sz pc L (v :: w :: st) := by
  subst hn
  exact fun H locs ls hl hW hS => lv_dup_x1 X.1 X.2.1 hd hv hw (kk H locs ls hl hW hS)
theorem g_pop (X : gCx p s m args meth c n0 D cA own cc nL) {v : Value} (hd : decode cc pc = .ok (.pop, 1)) (hv : v.category = 1) (hn : pc + 1 = n) (kk : G p l e R s m args below meth c n0 D cA nL Q cells slots M sz n L st) : G p l e R s m args below meth c n0 D cA nL Q cells slots M sz pc L (v :: st) := by
  subst hn
  exact fun H locs ls hl hW hS => lv_pop X.1 X.2.1 hd hv (kk H locs ls hl hW hS)
theorem g_null (X : gCx p s m args meth c n0 D cA own cc nL)  (hd : decode cc pc = .ok (.aconst_null, 1))  (hn : pc + 1 = n) (kk : G p l e R s m args below meth c n0 D cA nL Q cells slots M sz n L (.null :: st)) : G p l e R s m args below meth c n0 D cA nL Q cells slots M sz pc L st := by
  subst hn
  exact fun H locs ls hl hW hS => lv_null X.1 X.2.1 hd (kk H locs ls hl hW hS)
theorem g_icmp_lt (X : gCx p s m args meth c n0 D cA own cc nL) {off : Int} {tgt : Nat} {a b : Int} (hd : decode cc pc = .ok (.if_icmp .lt off, 3)) (ht : (pc : Int) + off = (tgt : Int)) (ha : -2147483648 ≤ a ∧ a ≤ 2147483647) (hb : -2147483648 ≤ b ∧ b ≤ 2147483647) (hn : pc + 3 = n) (kt : a < b → G p l e R s m args below meth c n0 D cA nL Q cells slots M sz tgt L st) (kf : ¬ a < b → G p l e R s m args below meth c n0 D cA nL Q cells slots M sz n L st) : G p l e R s m args below meth c n0 D cA nL Q cells slots M sz pc L (gJ b :: gJ a :: st) := by
  subst hn
  exact fun H locs ls hl hW hS => lv_icmp_lt X.1 X.2.1 hd ht (fun q => kt ((gi_lt ha hb).mp q) H locs ls hl hW hS) (fun q => kf (fun z => q ((gi_lt ha hb).mpr z)) H locs ls hl hW hS)
theorem g_if_lt (X : gCx p s m args meth c n0 D cA own cc nL) {off : Int} {tgt : Nat} {a : Int} (hd : decode cc pc = .ok (.ifCond .lt off, 3)) (ht : (pc : Int) + off = (tgt : Int)) (ha : -2147483648 ≤ a ∧ a ≤ 2147483647) (hn : pc + 3 = n) (kt : a < 0 → G p l e R s m args below meth c n0 D cA nL Q cells slots M sz tgt L st) (kf : ¬ a < 0 → G p l e R s m args below meth c n0 D cA nL Q cells slots M sz n L st) : G p l e R s m args below meth c n0 D cA nL Q cells slots M sz pc L (gJ a :: st) := by
  subst hn
  have h0 : -2147483648 ≤ (0 : Int) ∧ (0 : Int) ≤ 2147483647 := by omega
  exact fun H locs ls hl hW hS => lv_if_lt X.1 X.2.1 hd ht (fun q => kt ((gi_lt ha h0).mp (by rw [← gi_0]; exact q)) H locs ls hl hW hS) (fun q => kf (fun z => q (by rw [gi_0]; exact (gi_lt ha h0).mpr z)) H locs ls hl hW hS)
theorem g_icmp_ge (X : gCx p s m args meth c n0 D cA own cc nL) {off : Int} {tgt : Nat} {a b : Int} (hd : decode cc pc = .ok (.if_icmp .ge off, 3)) (ht : (pc : Int) + off = (tgt : Int)) (ha : -2147483648 ≤ a ∧ a ≤ 2147483647) (hb : -2147483648 ≤ b ∧ b ≤ 2147483647) (hn : pc + 3 = n) (kt : b ≤ a → G p l e R s m args below meth c n0 D cA nL Q cells slots M sz tgt L st) (kf : ¬ b ≤ a → G p l e R s m args below meth c n0 D cA nL Q cells slots M sz n L st) : G p l e R s m args below meth c n0 D cA nL Q cells slots M sz pc L (gJ b :: gJ a :: st) := by
  subst hn
  exact fun H locs ls hl hW hS => lv_icmp_ge X.1 X.2.1 hd ht (fun q => kt ((gi_le hb ha).mp q) H locs ls hl hW hS) (fun q => kf (fun z => q ((gi_le hb ha).mpr z)) H locs ls hl hW hS)
theorem g_if_ge (X : gCx p s m args meth c n0 D cA own cc nL) {off : Int} {tgt : Nat} {a : Int} (hd : decode cc pc = .ok (.ifCond .ge off, 3)) (ht : (pc : Int) + off = (tgt : Int)) (ha : -2147483648 ≤ a ∧ a ≤ 2147483647) (hn : pc + 3 = n) (kt : 0 ≤ a → G p l e R s m args below meth c n0 D cA nL Q cells slots M sz tgt L st) (kf : ¬ 0 ≤ a → G p l e R s m args below meth c n0 D cA nL Q cells slots M sz n L st) : G p l e R s m args below meth c n0 D cA nL Q cells slots M sz pc L (gJ a :: st) := by
  subst hn
  have h0 : -2147483648 ≤ (0 : Int) ∧ (0 : Int) ≤ 2147483647 := by omega
  exact fun H locs ls hl hW hS => lv_if_ge X.1 X.2.1 hd ht (fun q => kt ((gi_le h0 ha).mp (by rw [← gi_0]; exact q)) H locs ls hl hW hS) (fun q => kf (fun z => q (by rw [gi_0]; exact (gi_le h0 ha).mpr z)) H locs ls hl hW hS)
theorem g_icmp_gt (X : gCx p s m args meth c n0 D cA own cc nL) {off : Int} {tgt : Nat} {a b : Int} (hd : decode cc pc = .ok (.if_icmp .gt off, 3)) (ht : (pc : Int) + off = (tgt : Int)) (ha : -2147483648 ≤ a ∧ a ≤ 2147483647) (hb : -2147483648 ≤ b ∧ b ≤ 2147483647) (hn : pc + 3 = n) (kt : b < a → G p l e R s m args below meth c n0 D cA nL Q cells slots M sz tgt L st) (kf : ¬ b < a → G p l e R s m args below meth c n0 D cA nL Q cells slots M sz n L st) : G p l e R s m args below meth c n0 D cA nL Q cells slots M sz pc L (gJ b :: gJ a :: st) := by
  subst hn
  exact fun H locs ls hl hW hS => lv_icmp_gt X.1 X.2.1 hd ht (fun q => kt ((gi_lt hb ha).mp q) H locs ls hl hW hS) (fun q => kf (fun z => q ((gi_lt hb ha).mpr z)) H locs ls hl hW hS)
theorem g_if_gt (X : gCx p s m args meth c n0 D cA own cc nL) {off : Int} {tgt : Nat} {a : Int} (hd : decode cc pc = .ok (.ifCond .gt off, 3)) (ht : (pc : Int) + off = (tgt : Int)) (ha : -2147483648 ≤ a ∧ a ≤ 2147483647) (hn : pc + 3 = n) (kt : 0 < a → G p l e R s m args below meth c n0 D cA nL Q cells slots M sz tgt L st) (kf : ¬ 0 < a → G p l e R s m args below meth c n0 D cA nL Q cells slots M sz n L st) : G p l e R s m args below meth c n0 D cA nL Q cells slots M sz pc L (gJ a :: st) := by
  subst hn
  have h0 : -2147483648 ≤ (0 : Int) ∧ (0 : Int) ≤ 2147483647 := by omega
  exact fun H locs ls hl hW hS => lv_if_gt X.1 X.2.1 hd ht (fun q => kt ((gi_lt h0 ha).mp (by rw [← gi_0]; exact q)) H locs ls hl hW hS) (fun q => kf (fun z => q (by rw [gi_0]; exact (gi_lt h0 ha).mpr z)) H locs ls hl hW hS)
theorem g_icmp_le (X : gCx p s m args meth c n0 D cA own cc nL) {off : Int} {tgt : Nat} {a b : Int} (hd : decode cc pc = .ok (.if_icmp .le off, 3)) (ht : (pc : Int) + off = (tgt : Int)) (ha : -2147483648 ≤ a ∧ a ≤ 2147483647) (hb : -2147483648 ≤ b ∧ b ≤ 2147483647) (hn : pc + 3 = n) (kt : a ≤ b → G p l e R s m args below meth c n0 D cA nL Q cells slots M sz tgt L st) (kf : ¬ a ≤ b → G p l e R s m args below meth c n0 D cA nL Q cells slots M sz n L st) : G p l e R s m args below meth c n0 D cA nL Q cells slots M sz pc L (gJ b :: gJ a :: st) := by
  subst hn
  exact fun H locs ls hl hW hS => lv_icmp_le X.1 X.2.1 hd ht (fun q => kt ((gi_le ha hb).mp q) H locs ls hl hW hS) (fun q => kf (fun z => q ((gi_le ha hb).mpr z)) H locs ls hl hW hS)
theorem g_if_le (X : gCx p s m args meth c n0 D cA own cc nL) {off : Int} {tgt : Nat} {a : Int} (hd : decode cc pc = .ok (.ifCond .le off, 3)) (ht : (pc : Int) + off = (tgt : Int)) (ha : -2147483648 ≤ a ∧ a ≤ 2147483647) (hn : pc + 3 = n) (kt : a ≤ 0 → G p l e R s m args below meth c n0 D cA nL Q cells slots M sz tgt L st) (kf : ¬ a ≤ 0 → G p l e R s m args below meth c n0 D cA nL Q cells slots M sz n L st) : G p l e R s m args below meth c n0 D cA nL Q cells slots M sz pc L (gJ a :: st) := by
  subst hn
  have h0 : -2147483648 ≤ (0 : Int) ∧ (0 : Int) ≤ 2147483647 := by omega
  exact fun H locs ls hl hW hS => lv_if_le X.1 X.2.1 hd ht (fun q => kt ((gi_le ha h0).mp (by rw [← gi_0]; exact q)) H locs ls hl hW hS) (fun q => kf (fun z => q (by rw [gi_0]; exact (gi_le ha h0).mpr z)) H locs ls hl hW hS)
theorem g_icmp_eq (X : gCx p s m args meth c n0 D cA own cc nL) {off : Int} {tgt : Nat} {a b : Int} (hd : decode cc pc = .ok (.if_icmp .eq off, 3)) (ht : (pc : Int) + off = (tgt : Int)) (ha : -2147483648 ≤ a ∧ a ≤ 2147483647) (hb : -2147483648 ≤ b ∧ b ≤ 2147483647) (hn : pc + 3 = n) (kt : a = b → G p l e R s m args below meth c n0 D cA nL Q cells slots M sz tgt L st) (kf : ¬ a = b → G p l e R s m args below meth c n0 D cA nL Q cells slots M sz n L st) : G p l e R s m args below meth c n0 D cA nL Q cells slots M sz pc L (gJ b :: gJ a :: st) := by
  subst hn
  exact fun H locs ls hl hW hS => lv_icmp_eq X.1 X.2.1 hd ht (fun q => kt ((gi_eq ha hb).mp q) H locs ls hl hW hS) (fun q => kf (fun z => q ((gi_eq ha hb).mpr z)) H locs ls hl hW hS)
theorem g_if_eq (X : gCx p s m args meth c n0 D cA own cc nL) {off : Int} {tgt : Nat} {a : Int} (hd : decode cc pc = .ok (.ifCond .eq off, 3)) (ht : (pc : Int) + off = (tgt : Int)) (ha : -2147483648 ≤ a ∧ a ≤ 2147483647) (hn : pc + 3 = n) (kt : a = 0 → G p l e R s m args below meth c n0 D cA nL Q cells slots M sz tgt L st) (kf : ¬ a = 0 → G p l e R s m args below meth c n0 D cA nL Q cells slots M sz n L st) : G p l e R s m args below meth c n0 D cA nL Q cells slots M sz pc L (gJ a :: st) := by
  subst hn
  have h0 : -2147483648 ≤ (0 : Int) ∧ (0 : Int) ≤ 2147483647 := by omega
  exact fun H locs ls hl hW hS => lv_if_eq X.1 X.2.1 hd ht (fun q => kt ((gi_eq ha h0).mp (by rw [← gi_0]; exact q)) H locs ls hl hW hS) (fun q => kf (fun z => q (by rw [gi_0]; exact (gi_eq ha h0).mpr z)) H locs ls hl hW hS)
theorem g_icmp_ne (X : gCx p s m args meth c n0 D cA own cc nL) {off : Int} {tgt : Nat} {a b : Int} (hd : decode cc pc = .ok (.if_icmp .ne off, 3)) (ht : (pc : Int) + off = (tgt : Int)) (ha : -2147483648 ≤ a ∧ a ≤ 2147483647) (hb : -2147483648 ≤ b ∧ b ≤ 2147483647) (hn : pc + 3 = n) (kt : ¬ a = b → G p l e R s m args below meth c n0 D cA nL Q cells slots M sz tgt L st) (kf : a = b → G p l e R s m args below meth c n0 D cA nL Q cells slots M sz n L st) : G p l e R s m args below meth c n0 D cA nL Q cells slots M sz pc L (gJ b :: gJ a :: st) := by
  subst hn
  exact fun H locs ls hl hW hS => lv_icmp_ne X.1 X.2.1 hd ht (fun q => kt (fun z => q ((gi_eq ha hb).mpr z)) H locs ls hl hW hS) (fun q => kf ((gi_eq ha hb).mp q) H locs ls hl hW hS)
theorem g_if_ne (X : gCx p s m args meth c n0 D cA own cc nL) {off : Int} {tgt : Nat} {a : Int} (hd : decode cc pc = .ok (.ifCond .ne off, 3)) (ht : (pc : Int) + off = (tgt : Int)) (ha : -2147483648 ≤ a ∧ a ≤ 2147483647) (hn : pc + 3 = n) (kt : ¬ a = 0 → G p l e R s m args below meth c n0 D cA nL Q cells slots M sz tgt L st) (kf : a = 0 → G p l e R s m args below meth c n0 D cA nL Q cells slots M sz n L st) : G p l e R s m args below meth c n0 D cA nL Q cells slots M sz pc L (gJ a :: st) := by
  subst hn
  have h0 : -2147483648 ≤ (0 : Int) ∧ (0 : Int) ≤ 2147483647 := by omega
  exact fun H locs ls hl hW hS => lv_if_ne X.1 X.2.1 hd ht (fun q => kt (fun z => q (by rw [gi_0]; exact (gi_eq ha h0).mpr z)) H locs ls hl hW hS) (fun q => kf ((gi_eq ha h0).mp (by rw [← gi_0]; exact q)) H locs ls hl hW hS)
theorem g_goto (X : gCx p s m args meth c n0 D cA own cc nL) {off : Int} {tgt : Nat} (hd : decode cc pc = .ok (.goto off, 3)) (ht : (pc : Int) + off = (tgt : Int)) (kk : G p l e R s m args below meth c n0 D cA nL Q cells slots M sz tgt L st) : G p l e R s m args below meth c n0 D cA nL Q cells slots M sz pc L st := fun H locs ls hl hW hS => lv_goto X.1 X.2.1 hd ht (kk H locs ls hl hW hS)
theorem g_ifnull (X : gCx p s m args meth c n0 D cA own cc nL) {off : Int} {o : Nat} (hd : decode cc pc = .ok (.ifnull off, 3)) (hn : pc + 3 = n) (kk : G p l e R s m args below meth c n0 D cA nL Q cells slots M sz n L st) : G p l e R s m args below meth c n0 D cA nL Q cells slots M sz pc L (.ref o :: st) := by
  subst hn
  exact fun H locs ls hl hW hS => lv_ifnull X.1 X.2.1 hd (kk H locs ls hl hW hS)
theorem g_ifnullN (X : gCx p s m args meth c n0 D cA own cc nL) {off : Int} {tgt : Nat} (hd : decode cc pc = .ok (.ifnull off, 3)) (ht : (pc : Int) + off = (tgt : Int)) (kk : G p l e R s m args below meth c n0 D cA nL Q cells slots M sz tgt L st) : G p l e R s m args below meth c n0 D cA nL Q cells slots M sz pc L (.null :: st) := fun H locs ls hl hW hS => lv_ifnullN X.1 X.2.1 hd ht (kk H locs ls hl hW hS)
theorem g_ifnonnull (X : gCx p s m args meth c n0 D cA own cc nL) {off : Int} {tgt : Nat} {o : Nat} (hd : decode cc pc = .ok (.ifnonnull off, 3)) (ht : (pc : Int) + off = (tgt : Int)) (kk : G p l e R s m args below meth c n0 D cA nL Q cells slots M sz tgt L st) : G p l e R s m args below meth c n0 D cA nL Q cells slots M sz pc L (.ref o :: st) := fun H locs ls hl hW hS => lv_ifnonnull X.1 X.2.1 hd ht (kk H locs ls hl hW hS)
theorem g_ifnonnullN (X : gCx p s m args meth c n0 D cA own cc nL) {off : Int} (hd : decode cc pc = .ok (.ifnonnull off, 3)) (hn : pc + 3 = n) (kk : G p l e R s m args below meth c n0 D cA nL Q cells slots M sz n L st) : G p l e R s m args below meth c n0 D cA nL Q cells slots M sz pc L (.null :: st) := by
  subst hn
  exact fun H locs ls hl hW hS => lv_ifnonnullN X.1 X.2.1 hd (kk H locs ls hl hW hS)
theorem g_tableIn (X : gCx p s m args meth c n0 D cA own cc nL) {dflt lo hi : Int} {offs : Array Int} {len : Nat} {z off : Int} {tgt : Nat} (j : Nat) (hd : decode cc pc = .ok (.tableswitch dflt lo hi offs, len)) (hz : -2147483648 ≤ z ∧ z ≤ 2147483647) (h1 : lo ≤ z) (h2 : z ≤ hi) (hj : z - lo = (j : Int)) (ho : offs[j]? = some off) (ht : (pc : Int) + off = (tgt : Int)) (kk : G p l e R s m args below meth c n0 D cA nL Q cells slots M sz tgt L st) : G p l e R s m args below meth c n0 D cA nL Q cells slots M sz pc L (gJ z :: st) := fun H locs ls hl hW hS => lv_tableIn X.1 X.2.1 hd (by rw [gi_toInt hz]; omega) (by rw [gi_toInt hz]; omega) (by rw [gi_toInt hz, hj]; exact ho) ht (kk H locs ls hl hW hS)
theorem g_tableOut (X : gCx p s m args meth c n0 D cA own cc nL) {dflt lo hi : Int} {offs : Array Int} {len : Nat} {z : Int} {tgt : Nat} (hd : decode cc pc = .ok (.tableswitch dflt lo hi offs, len)) (hz : -2147483648 ≤ z ∧ z ≤ 2147483647) (h1 : z < lo ∨ hi < z) (ht : (pc : Int) + dflt = (tgt : Int)) (kk : G p l e R s m args below meth c n0 D cA nL Q cells slots M sz tgt L st) : G p l e R s m args below meth c n0 D cA nL Q cells slots M sz pc L (gJ z :: st) := fun H locs ls hl hW hS => lv_tableOut X.1 X.2.1 hd (by rw [gi_toInt hz]; exact h1) ht (kk H locs ls hl hW hS)
theorem g_lookup (X : gCx p s m args meth c n0 D cA own cc nL) {dflt : Int} {ps : Array (Int × Int)} {len : Nat} {z off : Int} {tgt : Nat} (hd : decode cc pc = .ok (.lookupswitch dflt ps, len)) (hz : -2147483648 ≤ z ∧ z ≤ 2147483647) (hp : (ps.toList.zip (ps.toList.drop 1)).all (fun (a, next) => a.1 < next.1) = true) (ho : Op.lookupswitch.offset ps.toList dflt z = off) (ht : (pc : Int) + off = (tgt : Int)) (kk : G p l e R s m args below meth c n0 D cA nL Q cells slots M sz tgt L st) : G p l e R s m args below meth c n0 D cA nL Q cells slots M sz pc L (gJ z :: st) := fun H locs ls hl hW hS => lv_lookup X.1 X.2.1 hd hp (by rw [gi_toInt hz]; exact ho) ht (kk H locs ls hl hW hS)
/-! rows that touch the memory -/
theorem gfv_0 (n0 : Nat) (ty : FieldType) (h : (match ty with | .float => false | .double => false | _ => true) = true) : gfv n0 ty 0 = defaultValue ty := by
  cases ty <;> first | rfl | cases h
theorem g_he0 {ci : Nat} {o : Int} (h0 : 0 ≤ o) (h1 : o < (sz : Int)) (hlay : glay o = (0, ci)) : (gws n0 cA M sz)[o.toNat]? = some (n0 + o.toNat, .inr (ci, (List.range (gNF ci)).map (fun j => gfv n0 (gTY ci j) (M o (j : Int))))) := by rw [gws_get n0 cA M h0 h1, hlay]; rfl
theorem g_hv {ci k N : Nat} {o : Int} (hNF : gNF ci = N) (hk : k < N) : ((List.range (gNF ci)).map (fun j => gfv n0 (gTY ci j) (M o (j : Int))))[k]? = some (gfv n0 (gTY ci k) (M o (k : Int))) := by
  rw [List.getElem?_map, List.getElem?_range (by omega)]; rfl
theorem g_get (X : gCx p s m args meth c n0 D cA own cc nL) {ref C : String} {T : u_T} {N ci index : Nat} {o : Int} (k : Nat) (hin : ∀ w ∈ u_ws C T N, w ∈ gT) (hc : vwCl[ci]? = some (C, T, N)) (hNF : gNF ci = N) (hk : k < N) (h0 : 0 ≤ o) (h1 : o < (sz : Int)) (hlay : glay o = (0, ci)) (hw : Cond.fieldLink own index ref (T k).2.1 (T k).2.2.1 ∈ gT) (href : ref = (T k).1) (hd : decode cc pc = .ok (.getfield index, 3)) (hn : pc + 3 = n) {v : Value} (hv : gfv n0 (gTY ci k) (M o (k : Int)) = v) (kk : G p l e R s m args below meth c n0 D cA nL Q cells slots M sz n L (v :: st)) : G p l e R s m args below meth c n0 D cA nL Q cells slots M sz pc L (gA n0 o :: st) := by
  subst hn; subst hv; subst href
  intro H locs ls hl hW hS
  exact va_get X.1 X.2.1 X.2.2.2.2.1 hin X.2.2.2.1 X.2.2.2.2.2.2.1.1 hW.2 o.toNat (g_he0 h0 h1 hlay) hc k hk (X.2.2.2.2.1 _ hw) (fun x hx => hx) (g_hv hNF hk) hd (kk H locs ls hl hW hS)
theorem g_put (X : gCx p s m args meth c n0 D cA own cc nL) {ref C : String} {T : u_T} {N ci index : Nat} {o z : Int} (k : Nat) (hin : ∀ w ∈ u_ws C T N, w ∈ gT) (ty0 : Nat → FieldType) (hty : ∀ k, k < N → parseFieldDescriptor (T k).2.2.1 = some (ty0 k)) (hnm : ∀ a, a < N → ∀ b, b < N → a ≠ b → (T a).2.1 ≠ (T b).2.1) (hc : vwCl[ci]? = some (C, T, N)) (hNF : gNF ci = N) (hk : k < N) (h0 : 0 ≤ o) (h1 : o < (sz : Int)) (hlay : glay o = (0, ci)) (hw : Cond.fieldLink own index ref (T k).2.1 (T k).2.2.1 ∈ gT) (href : ref = (T k).1) (hfin : (T k).2.2.2 = false ∨ ((T k).2.2.2 = true ∧ meth.name = "<init>" ∧ (T k).1 = own)) {v : Value} (hv : gfv n0 (gTY ci k) z = v) (hnr : narrow (ty0 k) v = v) (hfit : fits (ty0 k) v = true) (hd : decode cc pc = .ok (.putfield index, 3)) (hn : pc + 3 = n) (kk : G p l e R s m args below meth c n0 D cA nL Q cells slots (gset M o (k : Int) z) sz n L st) : G p l e R s m args below meth c n0 D cA nL Q cells slots M sz pc L (v :: gA n0 o :: st) := by
  subst hn; subst href
  intro H locs ls hl hW hS
  have hts := X.2.2.2.2.1
  have hK := X.2.2.2.2.2.2.1.1
  have he := g_he0 (n0 := n0) (cA := cA) (M := M) h0 h1 hlay
  have hap := va_apart (own := own) hts hin ty0 hty hnm hK hc
  obtain ⟨r, h1', cell, q1, q2, q3, q4⟩ := hW.2 o.toNat _ he
  have hr : r = (C, T, N) := Option.some.inj (h1'.symm.trans hc)
  subst hr
  obtain ⟨hS', hfc, kC, hkC, hkind⟩ := hK.1 ci _ hc
  obtain ⟨cf, kf, fi, f, hi, hsl⟩ := hS' k hk
  have hst := (u_facts hfc hkC (u_lays hts hin hk) hi).1
  have hlen : k < ((List.range (gNF ci)).map (fun j => gfv n0 (gTY ci j) (M o (j : Int)))).length := by simp; omega
  have hent : (Sum.inr (ci, ((List.range (gNF ci)).map (fun j => gfv n0 (gTY ci j) (M o (j : Int)))).set k v) : va_E) = gent n0 cA (glay o) (gset M o (k : Int) z o) := by
    rw [hlay]
    show _ = (Sum.inr (ci, (List.range (gNF ci)).map (fun j => gfv n0 (gTY ci j) (gset M o (k : Int) z o (j : Int)))) : va_E)
    congr 2
    refine List.ext_getElem? fun i => ?_
    by_cases hik : i = k
    · subst hik
      rw [List.getElem?_set_self hlen, List.getElem?_map, List.getElem?_range (by omega)]
      simp only [Option.map_some, gset_eq, hv]
    · rw [List.getElem?_set_ne (Ne.symm hik), List.getElem?_map, List.getElem?_map]
      cases hr : (List.range (gNF ci))[i]? with
      | none => rfl
      | some x =>
        have hx := (List.getElem?_eq_some_iff.mp hr).2
        rw [List.getElem_range] at hx
        subst hx
        simp only [Option.map_some]
        rw [gset_ne (by omega)]
  have fin : ∀ (H' : Heap) (locs' : List Loc), H'[n0 + o.toNat]? = some (cell.setSlot (D.2 ci k) v) → H'.size = H.size → (∀ q, q ≠ n0 + o.toNat → H'[q]? = H[q]?) → va_S (fun q => n0 ≤ q) s.heap H' locs' → W p l e R s m args below meth c H' locs' cells slots Q (F0 m (pc + 3) ls st) := by
    intro H' locs' e1 e2 e3 hS2
    refine kk H' locs' ls hl ⟨e2.trans hW.1, ?_⟩ hS2
    rw [← gws_set n0 cA M (gset M o (k : Int) z) h0 h1 _ hent gset_off]
    exact hW.2.set (gws_D n0 cA M sz) he ⟨_, hc, t_OB.to (V := updV (vp_V _) k v) ⟨_, e1, q2, q3, t_set q4 hap hk v⟩ (fun j _ => vp_updV_set hlen v j)⟩ e3
  rcases hfin with hfin | ⟨hfin, hin2, hdecl⟩
  · have hlay2 := hts _ (hin _ (u_in_lay hk))
    unfold u_lay at hlay2
    rw [if_neg (by rw [hfin]; decide)] at hlay2
    have h6 := u_store hfc hkC hkind hlay2 hi (hty k hk) hnr hfit
    refine W.putK X.1 X.2.1 (f := f) ⟨X.2.2.2.1, hts _ hw, ⟨_, _, _, hi⟩, hst⟩ (by rw [q2]; exact h6) q1 q3 (by rw [hsl]; exact k2_hasslot (q4 k hk)) rfl rfl hd fun H' e1 e2 e3 => ?_
    rw [hsl] at e1 ⊢
    exact fin H' _ e1 e2 e3 (hS.put e2 e3 (Nat.le_add_right _ _))
  · have hlay2 := hts _ (hin _ (u_in_lay hk))
    unfold u_lay at hlay2
    rw [if_pos hfin] at hlay2
    have hcf : m.cls = cf := by
      obtain ⟨_, _, c', _, _, _, -, -, hf', -, -, -, hown2, -⟩ := Cond.laysFinal_spec hlay2
      have e1 : c' = cf := by have := hi.symm.trans hf'; simp at this; exact this.1.symm
      rw [hdecl] at hown2
      rw [← e1]; exact Option.some.inj (X.2.2.2.1.symm.trans hown2)
    have h6 := u_fits hfc hkC hkind (Or.inr hlay2) hi (hty k hk) hnr hfit
    refine W.putFinK X.1 X.2.1 X.2.2.2.1 (hts _ hw) hi hst hcf hin2 (by rw [q2]; exact h6) q1 q3 (by rw [hsl]; exact k2_hasslot (q4 k hk)) rfl rfl hd fun H' e1 e2 e3 => ?_
    rw [hsl] at e1 ⊢
    exact fin H' _ e1 e2 e3 (hS.put e2 e3 (Nat.le_add_right _ _))
theorem g_hei {N : Nat} {o : Int} (h0 : 0 ≤ o) (h1 : o < (sz : Int)) (hlay : glay o = (1, N)) : (gws n0 cA M sz)[o.toNat]? = some (n0 + o.toNat, .inl (cA 1, N, .inl (fun j : Nat => Int32.ofInt (M o (j : Int))))) := by rw [gws_get n0 cA M h0 h1, hlay]; rfl
theorem g_iald (X : gCx p s m args meth c n0 D cA own cc nL) {N : Nat} {o i : Int} (h0 : 0 ≤ o) (h1 : o < (sz : Int)) (hlay : glay o = (1, N)) (hi0 : 0 ≤ i) (hi1 : i < (N : Int)) (hN : (N : Int) ≤ 2147483647) (hd : decode cc pc = .ok (.iaload, 1)) (hn : pc + 1 = n) (kk : G p l e R s m args below meth c n0 D cA nL Q cells slots M sz n L (gJ (M o i) :: st)) : G p l e R s m args below meth c n0 D cA nL Q cells slots M sz pc L (gJ i :: gA n0 o :: st) := by
  subst hn
  intro H locs ls hl hW hS
  refine va_iald X.1 X.2.1 X.2.2.2.2.2.2.1.1 hW.2 o.toNat 0 (g_hei h0 h1 hlay) rfl (gi_in hi0 hi1 hN) hd ?_
  rw [gi_cl hi0 (by omega)]
  exact kk H locs ls hl hW hS
theorem g_iast (X : gCx p s m args meth c n0 D cA own cc nL) {N : Nat} {o i z : Int} (h0 : 0 ≤ o) (h1 : o < (sz : Int)) (hlay : glay o = (1, N)) (hi0 : 0 ≤ i) (hi1 : i < (N : Int)) (hN : (N : Int) ≤ 2147483647) (hd : decode cc pc = .ok (.iastore, 1)) (hn : pc + 1 = n) (kk : G p l e R s m args below meth c n0 D cA nL Q cells slots (gset M o i z) sz n L st) : G p l e R s m args below meth c n0 D cA nL Q cells slots M sz pc L (gJ z :: gJ i :: gA n0 o :: st) := by
  subst hn
  intro H locs ls hl hW hS
  have he := g_hei (n0 := n0) (cA := cA) (M := M) h0 h1 hlay
  have hin := gi_in hi0 hi1 hN
  refine W.iast X.1 X.2.1 (hW.2 o.toNat _ he) ((X.2.2.2.2.2.2.1.1.2 0 _ rfl).1 N (fun j => .int (Int32.ofInt (M o (j : Int))))) (fun q => by cases q) (by show ¬ (Int32.ofInt i < 0 ∨ (arrV _ _ _).slots.size ≤ _); rw [arrV_size]; exact hin) rfl rfl hd fun H1 e1 e2 e3 => ?_
  refine kk H1 _ ls hl ⟨e2.trans hW.1, ?_⟩ (hS.put e2 e3 (Nat.le_add_right _ _))
  have hent : (Sum.inl (cA 1, N, .inl (fun j : Nat => Int32.ofInt (gset M o i z o (j : Int)))) : va_E) = gent n0 cA (glay o) (gset M o i z o) := by rw [hlay]; rfl
  rw [← gws_set n0 cA M (gset M o i z) h0 h1 _ hent gset_off]
  refine hW.2.set (gws_D n0 cA M sz) he ?_ e3
  show H1[n0 + o.toNat]? = some (vp_cell _ _)
  rw [e1]
  rw [vp_cell_i, vp_cell_i, arrV_store]
  congr 2
  funext q
  have hcl := gi_cl hi0 (by omega : i ≤ 2147483647)
  by_cases hq : q = (Int32.ofInt i).toNatClampNeg
  · have h3 : ((q : Nat) : Int) = i := by omega
    rw [hq]
    simp only [updV, if_true, hcl, gset_eq]
  · have h3 : ¬ ((q : Nat) : Int) = i := by omega
    simp only [updV, if_neg hq]
    rw [gset_ne (fun z => h3 z.2)]
theorem g_hel {N : Nat} {o : Int} (h0 : 0 ≤ o) (h1 : o < (sz : Int)) (hlay : glay o = (2, N)) : (gws n0 cA M sz)[o.toNat]? = some (n0 + o.toNat, .inl (cA 2, N, .inr (.inl (fun j : Nat => Int64.ofInt (M o (j : Int)))))) := by rw [gws_get n0 cA M h0 h1, hlay]; rfl
theorem g_lald (X : gCx p s m args meth c n0 D cA own cc nL) {N : Nat} {o i : Int} (h0 : 0 ≤ o) (h1 : o < (sz : Int)) (hlay : glay o = (2, N)) (hi0 : 0 ≤ i) (hi1 : i < (N : Int)) (hN : (N : Int) ≤ 2147483647) (hd : decode cc pc = .ok (.laload, 1)) (hn : pc + 1 = n) (kk : G p l e R s m args below meth c n0 D cA nL Q cells slots M sz n L (gV (M o i) :: st)) : G p l e R s m args below meth c n0 D cA nL Q cells slots M sz pc L (gJ i :: gA n0 o :: st) := by
  subst hn
  intro H locs ls hl hW hS
  refine va_lald X.1 X.2.1 X.2.2.2.2.2.2.1.1 hW.2 o.toNat 1 (g_hel h0 h1 hlay) rfl (gi_in hi0 hi1 hN) hd ?_
  rw [gi_cl hi0 (by omega)]
  exact kk H locs ls hl hW hS
theorem g_last (X : gCx p s m args meth c n0 D cA own cc nL) {N : Nat} {o i z : Int} (h0 : 0 ≤ o) (h1 : o < (sz : Int)) (hlay : glay o = (2, N)) (hi0 : 0 ≤ i) (hi1 : i < (N : Int)) (hN : (N : Int) ≤ 2147483647) (hd : decode cc pc = .ok (.lastore, 1)) (hn : pc + 1 = n) (kk : G p l e R s m args below meth c n0 D cA nL Q cells slots (gset M o i z) sz n L st) : G p l e R s m args below meth c n0 D cA nL Q cells slots M sz pc L (gV z :: gJ i :: gA n0 o :: st) := by
  subst hn
  intro H locs ls hl hW hS
  have he := g_hel (n0 := n0) (cA := cA) (M := M) h0 h1 hlay
  have hin := gi_in hi0 hi1 hN
  refine W.last X.1 X.2.1 (hW.2 o.toNat _ he) ((X.2.2.2.2.2.2.1.1.2 1 _ rfl).1 N (fun j => .long (Int64.ofInt (M o (j : Int))))) (fun q => by cases q) (by show ¬ (Int32.ofInt i < 0 ∨ (arrV _ _ _).slots.size ≤ _); rw [arrV_size]; exact hin) rfl rfl hd fun H1 e1 e2 e3 => ?_
  refine kk H1 _ ls hl ⟨e2.trans hW.1, ?_⟩ (hS.put e2 e3 (Nat.le_add_right _ _))
  have hent : (Sum.inl (cA 2, N, .inr (.inl (fun j : Nat => Int64.ofInt (gset M o i z o (j : Int))))) : va_E) = gent n0 cA (glay o) (gset M o i z o) := by rw [hlay]; rfl
  rw [← gws_set n0 cA M (gset M o i z) h0 h1 _ hent gset_off]
  refine hW.2.set (gws_D n0 cA M sz) he ?_ e3
  show H1[n0 + o.toNat]? = some (vp_cell _ _)
  rw [e1]
  rw [vp_cell_l, vp_cell_l, arrV_store]
  congr 2
  funext q
  have hcl := gi_cl hi0 (by omega : i ≤ 2147483647)
  by_cases hq : q = (Int32.ofInt i).toNatClampNeg
  · have h3 : ((q : Nat) : Int) = i := by omega
    rw [hq]
    simp only [updV, if_true, hcl, gset_eq]
  · have h3 : ¬ ((q : Nat) : Int) = i := by omega
    simp only [updV, if_neg hq]
    rw [gset_ne (fun z => h3 z.2)]
theorem g_heb {N : Nat} {o : Int} (h0 : 0 ≤ o) (h1 : o < (sz : Int)) (hlay : glay o = (3, N)) : (gws n0 cA M sz)[o.toNat]? = some (n0 + o.toNat, .inl (cA 3, N, .inl (fun j : Nat => Int32.ofInt (M o (j : Int))))) := by rw [gws_get n0 cA M h0 h1, hlay]; rfl
theorem g_bald (X : gCx p s m args meth c n0 D cA own cc nL) {N : Nat} {o i : Int} (h0 : 0 ≤ o) (h1 : o < (sz : Int)) (hlay : glay o = (3, N)) (hi0 : 0 ≤ i) (hi1 : i < (N : Int)) (hN : (N : Int) ≤ 2147483647) (hd : decode cc pc = .ok (.baload, 1)) (hn : pc + 1 = n) (kk : G p l e R s m args below meth c n0 D cA nL Q cells slots M sz n L (gJ (M o i) :: st)) : G p l e R s m args below meth c n0 D cA nL Q cells slots M sz pc L (gJ i :: gA n0 o :: st) := by
  subst hn
  intro H locs ls hl hW hS
  refine va_bald X.1 X.2.1 X.2.2.2.2.2.2.1.1 hW.2 o.toNat 2 (g_heb h0 h1 hlay) rfl (gi_in hi0 hi1 hN) hd ?_
  rw [gi_cl hi0 (by omega)]
  exact kk H locs ls hl hW hS
theorem g_bast (X : gCx p s m args meth c n0 D cA own cc nL) {N : Nat} {o i x z : Int} (h0 : 0 ≤ o) (h1 : o < (sz : Int)) (hlay : glay o = (3, N)) (hi0 : 0 ≤ i) (hi1 : i < (N : Int)) (hN : (N : Int) ≤ 2147483647) (hv : vp_nar .byte (Int32.ofInt x) = Int32.ofInt z) (hd : decode cc pc = .ok (.bastore, 1)) (hn : pc + 1 = n) (kk : G p l e R s m args below meth c n0 D cA nL Q cells slots (gset M o i z) sz n L st) : G p l e R s m args below meth c n0 D cA nL Q cells slots M sz pc L (gJ x :: gJ i :: gA n0 o :: st) := by
  subst hn
  intro H locs ls hl hW hS
  have he := g_heb (n0 := n0) (cA := cA) (M := M) h0 h1 hlay
  have hin := gi_in hi0 hi1 hN
  refine W.bast X.1 X.2.1 (hW.2 o.toNat _ he) ((X.2.2.2.2.2.2.1.1.2 2 _ rfl).1 N (fun j => .int (Int32.ofInt (M o (j : Int))))) (fun q => by cases q) (by show ¬ (Int32.ofInt i < 0 ∨ (arrV _ _ _).slots.size ≤ _); rw [arrV_size]; exact hin) rfl rfl hd fun H1 e1 e2 e3 => ?_
  refine kk H1 _ ls hl ⟨e2.trans hW.1, ?_⟩ (hS.put e2 e3 (Nat.le_add_right _ _))
  have hent : (Sum.inl (cA 3, N, .inl (fun j : Nat => Int32.ofInt (gset M o i z o (j : Int)))) : va_E) = gent n0 cA (glay o) (gset M o i z o) := by rw [hlay]; rfl
  rw [← gws_set n0 cA M (gset M o i z) h0 h1 _ hent gset_off]
  refine hW.2.set (gws_D n0 cA M sz) he ?_ e3
  show H1[n0 + o.toNat]? = some (vp_cell _ _)
  rw [e1]
  rw [vp_cell_i, vp_cell_i, arrV_store]
  congr 2
  funext q
  have hcl := gi_cl hi0 (by omega : i ≤ 2147483647)
  by_cases hq : q = (Int32.ofInt i).toNatClampNeg
  · have h3 : ((q : Nat) : Int) = i := by omega
    rw [hq]
    simp only [updV, if_true, hcl, gset_eq]
    first | exact congrArg Value.int hv | (rw [← hv]; rfl)
  · have h3 : ¬ ((q : Nat) : Int) = i := by omega
    simp only [updV, if_neg hq]
    rw [gset_ne (fun z => h3 z.2)]
theorem g_hez {N : Nat} {o : Int} (h0 : 0 ≤ o) (h1 : o < (sz : Int)) (hlay : glay o = (4, N)) : (gws n0 cA M sz)[o.toNat]? = some (n0 + o.toNat, .inl (cA 4, N, .inl (fun j : Nat => Int32.ofInt (M o (j : Int))))) := by rw [gws_get n0 cA M h0 h1, hlay]; rfl
theorem g_zald (X : gCx p s m args meth c n0 D cA own cc nL) {N : Nat} {o i : Int} (h0 : 0 ≤ o) (h1 : o < (sz : Int)) (hlay : glay o = (4, N)) (hi0 : 0 ≤ i) (hi1 : i < (N : Int)) (hN : (N : Int) ≤ 2147483647) (hd : decode cc pc = .ok (.baload, 1)) (hn : pc + 1 = n) (kk : G p l e R s m args below meth c n0 D cA nL Q cells slots M sz n L (gJ (M o i) :: st)) : G p l e R s m args below meth c n0 D cA nL Q cells slots M sz pc L (gJ i :: gA n0 o :: st) := by
  subst hn
  intro H locs ls hl hW hS
  refine va_zald X.1 X.2.1 X.2.2.2.2.2.2.1.1 hW.2 o.toNat 3 (g_hez h0 h1 hlay) rfl (gi_in hi0 hi1 hN) hd ?_
  rw [gi_cl hi0 (by omega)]
  exact kk H locs ls hl hW hS
theorem g_zast (X : gCx p s m args meth c n0 D cA own cc nL) {N : Nat} {o i x z : Int} (h0 : 0 ≤ o) (h1 : o < (sz : Int)) (hlay : glay o = (4, N)) (hi0 : 0 ≤ i) (hi1 : i < (N : Int)) (hN : (N : Int) ≤ 2147483647) (hv : vp_nar .boolean (Int32.ofInt x) = Int32.ofInt z) (hd : decode cc pc = .ok (.bastore, 1)) (hn : pc + 1 = n) (kk : G p l e R s m args below meth c n0 D cA nL Q cells slots (gset M o i z) sz n L st) : G p l e R s m args below meth c n0 D cA nL Q cells slots M sz pc L (gJ x :: gJ i :: gA n0 o :: st) := by
  subst hn
  intro H locs ls hl hW hS
  have he := g_hez (n0 := n0) (cA := cA) (M := M) h0 h1 hlay
  have hin := gi_in hi0 hi1 hN
  refine W.zast X.1 X.2.1 (hW.2 o.toNat _ he) ((X.2.2.2.2.2.2.1.1.2 3 _ rfl).1 N (fun j => .int (Int32.ofInt (M o (j : Int))))) (fun q => by cases q) (by show ¬ (Int32.ofInt i < 0 ∨ (arrV _ _ _).slots.size ≤ _); rw [arrV_size]; exact hin) rfl rfl hd fun H1 e1 e2 e3 => ?_
  refine kk H1 _ ls hl ⟨e2.trans hW.1, ?_⟩ (hS.put e2 e3 (Nat.le_add_right _ _))
  have hent : (Sum.inl (cA 4, N, .inl (fun j : Nat => Int32.ofInt (gset M o i z o (j : Int)))) : va_E) = gent n0 cA (glay o) (gset M o i z o) := by rw [hlay]; rfl
  rw [← gws_set n0 cA M (gset M o i z) h0 h1 _ hent gset_off]
  refine hW.2.set (gws_D n0 cA M sz) he ?_ e3
  show H1[n0 + o.toNat]? = some (vp_cell _ _)
  rw [e1]
  rw [vp_cell_i, vp_cell_i, arrV_store]
  congr 2
  funext q
  have hcl := gi_cl hi0 (by omega : i ≤ 2147483647)
  by_cases hq : q = (Int32.ofInt i).toNatClampNeg
  · have h3 : ((q : Nat) : Int) = i := by omega
    rw [hq]
    simp only [updV, if_true, hcl, gset_eq]
    first | exact congrArg Value.int hv | (rw [← hv]; rfl)
  · have h3 : ¬ ((q : Nat) : Int) = i := by omega
    simp only [updV, if_neg hq]
    rw [gset_ne (fun z => h3 z.2)]
theorem g_heq5 {N : Nat} {o : Int} (h0 : 0 ≤ o) (h1 : o < (sz : Int)) (hlay : glay o = (5, N)) : (gws n0 cA M sz)[o.toNat]? = some (n0 + o.toNat, .inl (cA 5, N, .inr (.inr (.inr (.inr (fun j : Nat => gRf n0 (M o (j : Int)))))))) := by rw [gws_get n0 cA M h0 h1, hlay]; rfl
theorem g_aald5 (X : gCx p s m args meth c n0 D cA own cc nL) {N : Nat} {o i t : Int} (h0 : 0 ≤ o) (h1 : o < (sz : Int)) (hlay : glay o = (5, N)) (hi0 : 0 ≤ i) (hi1 : i < (N : Int)) (hN : (N : Int) ≤ 2147483647) (hr : M o i = t + 1) (ht : 0 ≤ t) (hd : decode cc pc = .ok (.aaload, 1)) (hn : pc + 1 = n) (kk : G p l e R s m args below meth c n0 D cA nL Q cells slots M sz n L (gA n0 t :: st)) : G p l e R s m args below meth c n0 D cA nL Q cells slots M sz pc L (gJ i :: gA n0 o :: st) := by
  subst hn
  intro H locs ls hl hW hS
  refine va_aldq X.1 X.2.1 X.2.2.2.2.2.2.1.1 hW.2 o.toNat 4 (g_heq5 h0 h1 hlay) rfl (gi_in hi0 hi1 hN) hd ?_
  rw [gi_cl hi0 (by omega), hr]
  have h : gRf n0 (t + 1) = some (n0 + t.toNat) := by simp only [gRf]; rw [if_neg (by omega)]; congr 2; omega
  rw [h]
  exact kk H locs ls hl hW hS
theorem g_aast5 (X : gCx p s m args meth c n0 D cA own cc nL) {N : Nat} {o i t : Int} (h0 : 0 ≤ o) (h1 : o < (sz : Int)) (hlay : glay o = (5, N)) (hi0 : 0 ≤ i) (hi1 : i < (N : Int)) (hN : (N : Int) ≤ 2147483647) (ht0 : 0 ≤ t) (ht1 : t < (sz : Int)) (hlt : glay t = (0, 0)) (hd : decode cc pc = .ok (.aastore, 1)) (hn : pc + 1 = n) (kk : G p l e R s m args below meth c n0 D cA nL Q cells slots (gset M o i (t + 1)) sz n L st) : G p l e R s m args below meth c n0 D cA nL Q cells slots M sz pc L (gA n0 t :: gJ i :: gA n0 o :: st) := by
  subst hn
  intro H locs ls hl hW hS
  have hK := X.2.2.2.2.2.2.1.1
  have he := g_heq5 (n0 := n0) (cA := cA) (M := M) h0 h1 hlay
  have hin := gi_in hi0 hi1 hN
  have hlt0 : (Int32.ofInt i).toNatClampNeg < N := by have := gi_cl hi0 (by omega : i ≤ 2147483647); omega
  have h00 : ¬ Int32.ofInt i < 0 := fun q => hin (Or.inl q)
  obtain ⟨r', hr', cellV, g1, g2, g3, -⟩ := hW.2 t.toNat _ (g_he0 ht0 ht1 hlt)
  have hcls := (hK.1 0 _ rfl).2
  obtain ⟨kA, comp, k1, k2, k3, -⟩ := (hK.2 4 _ rfl).2
  have hcomp : comp = D.1 0 := Option.some.inj (k3.symm.trans hcls.1)
  subst hcomp
  obtain ⟨kC, hkC, -⟩ := hcls.2
  refine W.aast X.1 X.2.1 (hW.2 o.toNat _ he) (fun q h => by cases h) (fun h => by cases h) k1 k2 rfl hkC ⟨h00, by show _ < (arrV _ _ _).slots.size; rw [arrV_size]; exact hlt0⟩ g1 (fun q h => by rw [g3] at h; cases h) (by rw [g2]; exact hkC) (by rw [g2]; exact va_assign hcls) rfl rfl hd fun H1 e1 e2 e3 => ?_
  refine kk H1 _ ls hl ⟨e2.trans hW.1, ?_⟩ (hS.put e2 e3 (Nat.le_add_right _ _))
  have hent : (Sum.inl (cA 5, N, .inr (.inr (.inr (.inr (fun j : Nat => gRf n0 (gset M o i (t + 1) o (j : Int))))))) : va_E) = gent n0 cA (glay o) (gset M o i (t + 1) o) := by rw [hlay]; rfl
  rw [← gws_set n0 cA M (gset M o i (t + 1)) h0 h1 _ hent gset_off]
  refine hW.2.set (gws_D n0 cA M sz) he ?_ e3
  show H1[n0 + o.toNat]? = some (vp_cell _ _)
  rw [e1]
  rw [vp_cell_q, vp_cell_q, arrV_store]
  congr 2
  funext q
  have hcl := gi_cl hi0 (by omega : i ≤ 2147483647)
  by_cases hq : q = (Int32.ofInt i).toNatClampNeg
  · have h3 : ((q : Nat) : Int) = i := by omega
    have h : gRf n0 (t + 1) = some (n0 + t.toNat) := by simp only [gRf]; rw [if_neg (by omega)]; congr 2; omega
    simp only [updV, hq, if_true, hcl, gset_eq, h]
    rfl
  · have h3 : ¬ ((q : Nat) : Int) = i := by omega
    simp only [updV, if_neg hq]
    rw [gset_ne (fun z => h3 z.2)]
theorem g_heq6 {N : Nat} {o : Int} (h0 : 0 ≤ o) (h1 : o < (sz : Int)) (hlay : glay o = (6, N)) : (gws n0 cA M sz)[o.toNat]? = some (n0 + o.toNat, .inl (cA 6, N, .inr (.inr (.inr (.inr (fun j : Nat => gRf n0 (M o (j : Int)))))))) := by rw [gws_get n0 cA M h0 h1, hlay]; rfl
theorem g_aald6 (X : gCx p s m args meth c n0 D cA own cc nL) {N : Nat} {o i t : Int} (h0 : 0 ≤ o) (h1 : o < (sz : Int)) (hlay : glay o = (6, N)) (hi0 : 0 ≤ i) (hi1 : i < (N : Int)) (hN : (N : Int) ≤ 2147483647) (hr : M o i = t + 1) (ht : 0 ≤ t) (hd : decode cc pc = .ok (.aaload, 1)) (hn : pc + 1 = n) (kk : G p l e R s m args below meth c n0 D cA nL Q cells slots M sz n L (gA n0 t :: st)) : G p l e R s m args below meth c n0 D cA nL Q cells slots M sz pc L (gJ i :: gA n0 o :: st) := by
  subst hn
  intro H locs ls hl hW hS
  refine va_aldq X.1 X.2.1 X.2.2.2.2.2.2.1.1 hW.2 o.toNat 5 (g_heq6 h0 h1 hlay) rfl (gi_in hi0 hi1 hN) hd ?_
  rw [gi_cl hi0 (by omega), hr]
  have h : gRf n0 (t + 1) = some (n0 + t.toNat) := by simp only [gRf]; rw [if_neg (by omega)]; congr 2; omega
  rw [h]
  exact kk H locs ls hl hW hS
theorem g_aast6 (X : gCx p s m args meth c n0 D cA own cc nL) {N : Nat} {o i t : Int} (h0 : 0 ≤ o) (h1 : o < (sz : Int)) (hlay : glay o = (6, N)) (hi0 : 0 ≤ i) (hi1 : i < (N : Int)) (hN : (N : Int) ≤ 2147483647) (ht0 : 0 ≤ t) (ht1 : t < (sz : Int)) (hlt : glay t = (0, 6)) (hd : decode cc pc = .ok (.aastore, 1)) (hn : pc + 1 = n) (kk : G p l e R s m args below meth c n0 D cA nL Q cells slots (gset M o i (t + 1)) sz n L st) : G p l e R s m args below meth c n0 D cA nL Q cells slots M sz pc L (gA n0 t :: gJ i :: gA n0 o :: st) := by
  subst hn
  intro H locs ls hl hW hS
  have hK := X.2.2.2.2.2.2.1.1
  have he := g_heq6 (n0 := n0) (cA := cA) (M := M) h0 h1 hlay
  have hin := gi_in hi0 hi1 hN
  have hlt0 : (Int32.ofInt i).toNatClampNeg < N := by have := gi_cl hi0 (by omega : i ≤ 2147483647); omega
  have h00 : ¬ Int32.ofInt i < 0 := fun q => hin (Or.inl q)
  obtain ⟨r', hr', cellV, g1, g2, g3, -⟩ := hW.2 t.toNat _ (g_he0 ht0 ht1 hlt)
  have hcls := (hK.1 6 _ rfl).2
  obtain ⟨kA, comp, k1, k2, k3, -⟩ := (hK.2 5 _ rfl).2
  have hcomp : comp = D.1 6 := Option.some.inj (k3.symm.trans hcls.1)
  subst hcomp
  obtain ⟨kC, hkC, -⟩ := hcls.2
  refine W.aast X.1 X.2.1 (hW.2 o.toNat _ he) (fun q h => by cases h) (fun h => by cases h) k1 k2 rfl hkC ⟨h00, by show _ < (arrV _ _ _).slots.size; rw [arrV_size]; exact hlt0⟩ g1 (fun q h => by rw [g3] at h; cases h) (by rw [g2]; exact hkC) (by rw [g2]; exact va_assign hcls) rfl rfl hd fun H1 e1 e2 e3 => ?_
  refine kk H1 _ ls hl ⟨e2.trans hW.1, ?_⟩ (hS.put e2 e3 (Nat.le_add_right _ _))
  have hent : (Sum.inl (cA 6, N, .inr (.inr (.inr (.inr (fun j : Nat => gRf n0 (gset M o i (t + 1) o (j : Int))))))) : va_E) = gent n0 cA (glay o) (gset M o i (t + 1) o) := by rw [hlay]; rfl
  rw [← gws_set n0 cA M (gset M o i (t + 1)) h0 h1 _ hent gset_off]
  refine hW.2.set (gws_D n0 cA M sz) he ?_ e3
  show H1[n0 + o.toNat]? = some (vp_cell _ _)
  rw [e1]
  rw [vp_cell_q, vp_cell_q, arrV_store]
  congr 2
  funext q
  have hcl := gi_cl hi0 (by omega : i ≤ 2147483647)
  by_cases hq : q = (Int32.ofInt i).toNatClampNeg
  · have h3 : ((q : Nat) : Int) = i := by omega
    have h : gRf n0 (t + 1) = some (n0 + t.toNat) := by simp only [gRf]; rw [if_neg (by omega)]; congr 2; omega
    simp only [updV, hq, if_true, hcl, gset_eq, h]
    rfl
  · have h3 : ¬ ((q : Nat) : Int) = i := by omega
    simp only [updV, if_neg hq]
    rw [gset_ne (fun z => h3 z.2)]
theorem g_heq7 {N : Nat} {o : Int} (h0 : 0 ≤ o) (h1 : o < (sz : Int)) (hlay : glay o = (7, N)) : (gws n0 cA M sz)[o.toNat]? = some (n0 + o.toNat, .inl (cA 7, N, .inr (.inr (.inr (.inr (fun j : Nat => gRf n0 (M o (j : Int)))))))) := by rw [gws_get n0 cA M h0 h1, hlay]; rfl
theorem g_aald7 (X : gCx p s m args meth c n0 D cA own cc nL) {N : Nat} {o i t : Int} (h0 : 0 ≤ o) (h1 : o < (sz : Int)) (hlay : glay o = (7, N)) (hi0 : 0 ≤ i) (hi1 : i < (N : Int)) (hN : (N : Int) ≤ 2147483647) (hr : M o i = t + 1) (ht : 0 ≤ t) (hd : decode cc pc = .ok (.aaload, 1)) (hn : pc + 1 = n) (kk : G p l e R s m args below meth c n0 D cA nL Q cells slots M sz n L (gA n0 t :: st)) : G p l e R s m args below meth c n0 D cA nL Q cells slots M sz pc L (gJ i :: gA n0 o :: st) := by
  subst hn
  intro H locs ls hl hW hS
  refine va_aldq X.1 X.2.1 X.2.2.2.2.2.2.1.1 hW.2 o.toNat 6 (g_heq7 h0 h1 hlay) rfl (gi_in hi0 hi1 hN) hd ?_
  rw [gi_cl hi0 (by omega), hr]
  have h : gRf n0 (t + 1) = some (n0 + t.toNat) := by simp only [gRf]; rw [if_neg (by omega)]; congr 2; omega
  rw [h]
  exact kk H locs ls hl hW hS
theorem g_aast7 (X : gCx p s m args meth c n0 D cA own cc nL) {N : Nat} {o i t : Int} (h0 : 0 ≤ o) (h1 : o < (sz : Int)) (hlay : glay o = (7, N)) (hi0 : 0 ≤ i) (hi1 : i < (N : Int)) (hN : (N : Int) ≤ 2147483647) (ht0 : 0 ≤ t) (ht1 : t < (sz : Int)) (hlt : glay t = (0, 8)) (hd : decode cc pc = .ok (.aastore, 1)) (hn : pc + 1 = n) (kk : G p l e R s m args below meth c n0 D cA nL Q cells slots (gset M o i (t + 1)) sz n L st) : G p l e R s m args below meth c n0 D cA nL Q cells slots M sz pc L (gA n0 t :: gJ i :: gA n0 o :: st) := by
  subst hn
  intro H locs ls hl hW hS
  have hK := X.2.2.2.2.2.2.1.1
  have he := g_heq7 (n0 := n0) (cA := cA) (M := M) h0 h1 hlay
  have hin := gi_in hi0 hi1 hN
  have hlt0 : (Int32.ofInt i).toNatClampNeg < N := by have := gi_cl hi0 (by omega : i ≤ 2147483647); omega
  have h00 : ¬ Int32.ofInt i < 0 := fun q => hin (Or.inl q)
  obtain ⟨r', hr', cellV, g1, g2, g3, -⟩ := hW.2 t.toNat _ (g_he0 ht0 ht1 hlt)
  have hcls := (hK.1 8 _ rfl).2
  obtain ⟨kA, comp, k1, k2, k3, -⟩ := (hK.2 6 _ rfl).2
  have hcomp : comp = D.1 8 := Option.some.inj (k3.symm.trans hcls.1)
  subst hcomp
  obtain ⟨kC, hkC, -⟩ := hcls.2
  refine W.aast X.1 X.2.1 (hW.2 o.toNat _ he) (fun q h => by cases h) (fun h => by cases h) k1 k2 rfl hkC ⟨h00, by show _ < (arrV _ _ _).slots.size; rw [arrV_size]; exact hlt0⟩ g1 (fun q h => by rw [g3] at h; cases h) (by rw [g2]; exact hkC) (by rw [g2]; exact va_assign hcls) rfl rfl hd fun H1 e1 e2 e3 => ?_
  refine kk H1 _ ls hl ⟨e2.trans hW.1, ?_⟩ (hS.put e2 e3 (Nat.le_add_right _ _))
  have hent : (Sum.inl (cA 7, N, .inr (.inr (.inr (.inr (fun j : Nat => gRf n0 (gset M o i (t + 1) o (j : Int))))))) : va_E) = gent n0 cA (glay o) (gset M o i (t + 1) o) := by rw [hlay]; rfl
  rw [← gws_set n0 cA M (gset M o i (t + 1)) h0 h1 _ hent gset_off]
  refine hW.2.set (gws_D n0 cA M sz) he ?_ e3
  show H1[n0 + o.toNat]? = some (vp_cell _ _)
  rw [e1]
  rw [vp_cell_q, vp_cell_q, arrV_store]
  congr 2
  funext q
  have hcl := gi_cl hi0 (by omega : i ≤ 2147483647)
  by_cases hq : q = (Int32.ofInt i).toNatClampNeg
  · have h3 : ((q : Nat) : Int) = i := by omega
    have h : gRf n0 (t + 1) = some (n0 + t.toNat) := by simp only [gRf]; rw [if_neg (by omega)]; congr 2; omega
    simp only [updV, hq, if_true, hcl, gset_eq, h]
    rfl
  · have h3 : ¬ ((q : Nat) : Int) = i := by omega
    simp only [updV, if_neg hq]
    rw [gset_ne (fun z => h3 z.2)]
/-! makings -/
theorem gws_new (H H1 : Heap) (M' : gM) (e : va_E) (hP : va_P D vwCl (gws n0 cA M sz) H) (hz : H.size = n0 + sz) (z1 : H1.size = H.size + 1) (o1 : ∀ q, q < H.size → H1[q]? = H[q]?) (he : e = gent n0 cA (glay (sz : Int)) (M' (sz : Int))) (ho : ∀ a : Int, a ≠ (sz : Int) → M' a = M a) (ha : va_at D vwCl (n0 + sz, e) H1) : gWd n0 D cA M' (sz + 1) H1 := by
  refine ⟨by omega, ?_⟩
  rw [← gws_push n0 cA M M' sz e he ho]
  refine (hP.kept (fun k x hx => o1 x.1 ((hP k x hx).lt))).app (fun k x hx => ?_)
  have h1 : k < 1 := (List.getElem?_eq_some_iff.mp hx).1
  rw [show k = 0 by omega] at hx
  cases hx
  exact ha
theorem g_new (X : gCx p s m args meth c n0 D cA own cc nL) {C : String} {T : u_T} {N ci index : Nat} (ty0 : Nat → FieldType) (hin : ∀ w ∈ u_ws C T N, w ∈ gT) (hty : ∀ k, k < N → parseFieldDescriptor (T k).2.2.1 = some (ty0 k)) (hc : vwCl[ci]? = some (C, T, N)) (hNF : gNF ci = N) (hTY : ∀ k, k < N → gTY ci k = ty0 k ∧ (match ty0 k with | .float => false | .double => false | _ => true) = true) (hw1 : Cond.classLink own index C ∈ gT) (hw2 : Cond.instantiable C N ∈ gT) (hw3 : Cond.initialized C ∈ gT) (hlay : glay (sz : Int) = (0, ci)) (hcells : cells + 1 ≤ R.cells) (hslots : slots + N ≤ R.slots) (hd : decode cc pc = .ok (.new index, 3)) (hn : pc + 3 = n) (kk : G p l e R s m args below meth c n0 D cA nL Q (cells + 1) (slots + N) (gnew M (sz : Int)) (sz + 1) n L (gA n0 (sz : Int) :: st)) : G p l e R s m args below meth c n0 D cA nL Q cells slots M sz pc L st := by
  subst hn
  intro H locs ls hl hW hS
  have hts := X.2.2.2.2.1
  have hKn := X.2.2.2.2.2.2.1.1.1 ci _ hc
  refine W.newcK X.1 X.2.1 X.2.2.2.1 (hts _ hw1) (hts _ hw2) (hts _ hw3) rfl hd hcells hslots hKn.2.1 hW.1 fun H1 kC hkC e1 z1 o1 => ?_
  have hS2 : va_S (fun q => n0 ≤ q) s.heap H1 locs := ⟨by have := hS.1; have := hW.1; omega, fun x h1 h2 => (o1 x (by omega)).trans (hS.2.1 x h1 h2), hS.2.2⟩
  refine kk H1 locs ls hl (gws_new H H1 (gnew M (sz : Int)) (.inr (ci, (List.range (gNF ci)).map (fun j => gfv n0 (gTY ci j) 0))) hW.2 hW.1 (by rw [z1, hW.1]) (by rw [hW.1]; exact o1) (by rw [hlay, gnew_on]; rfl) gnew_off ?_) hS2
  refine ⟨_, hc, (u_born ty0 hts hin hKn hkC e1 hty).to fun k hk => ?_⟩
  have h1 : ((List.range (gNF ci)).map (fun j => gfv n0 (gTY ci j) 0))[k]? = some (gfv n0 (gTY ci k) 0) := by rw [List.getElem?_map, List.getElem?_range (by omega)]; rfl
  show defaultValue (ty0 k) = vp_V _ k
  simp only [vp_V, List.getD, h1, Option.getD_some]
  rw [(hTY k hk).1, gfv_0 _ _ (hTY k hk).2]
theorem g_newI (X : gCx p s m args meth c n0 D cA own cc nL) {N : Nat} {z : Int} (hz : z = (N : Int)) (hN : (N : Int) ≤ 100000) (hw : Cond.arrayClass .int ∈ gT) (hlay : glay (sz : Int) = (1, N)) (hcells : cells + 1 ≤ R.cells) (hslots : slots + N ≤ R.slots) (hd : decode cc pc = .ok (.newarray .int, 2)) (hn : pc + 2 = n) (kk : G p l e R s m args below meth c n0 D cA nL Q (cells + 1) (slots + N) (gnew M (sz : Int)) (sz + 1) n L (gA n0 (sz : Int) :: st)) : G p l e R s m args below meth c n0 D cA nL Q cells slots M sz pc L (gJ z :: st) := by
  subst hn; subst hz
  intro H locs ls hl hW hS
  have hts := X.2.2.2.2.1
  have hcl : (Int32.ofInt (N : Int)).toNatClampNeg = N := by have := gi_cl (i := (N : Int)) (by omega) (by omega); omega
  refine va_newaK X.1 X.2.1 (atype := .int) (hts _ hw) rfl hd rfl (by rw [gi_0, gi_lt ⟨by omega, by omega⟩ ⟨by omega, by omega⟩]; omega) hcl (by show N * 4 ≤ _; omega) hcells hslots hW.1 fun H1 cA' e1 z1 o1 hAr hNm => ?_
  have hS2 : va_S (fun q => n0 ≤ q) s.heap H1 locs := ⟨by have := hS.1; have := hW.1; omega, fun x h1 h2 => (o1 x (by have := hS.1; have := hW.1; omega)).trans (hS.2.1 x h1 h2), hS.2.2⟩
  have hcA : cA' = cA 1 := Option.some.inj (hNm.symm.trans (X.2.2.2.2.2.2.1.1.2 0 _ rfl).2)
  subst hcA
  refine kk H1 locs ls hl (gws_new H H1 (gnew M (sz : Int)) (.inl (cA 1, N, .inl (fun _ => Int32.ofInt 0))) hW.2 hW.1 (by rw [z1, hW.1]) (by rw [hW.1]; exact o1) (by rw [hlay, gnew_on]; rfl) gnew_off ?_) hS2
  exact e1
theorem g_newL (X : gCx p s m args meth c n0 D cA own cc nL) {N : Nat} {z : Int} (hz : z = (N : Int)) (hN : (N : Int) ≤ 100000) (hw : Cond.arrayClass .long ∈ gT) (hlay : glay (sz : Int) = (2, N)) (hcells : cells + 1 ≤ R.cells) (hslots : slots + N ≤ R.slots) (hd : decode cc pc = .ok (.newarray .long, 2)) (hn : pc + 2 = n) (kk : G p l e R s m args below meth c n0 D cA nL Q (cells + 1) (slots + N) (gnew M (sz : Int)) (sz + 1) n L (gA n0 (sz : Int) :: st)) : G p l e R s m args below meth c n0 D cA nL Q cells slots M sz pc L (gJ z :: st) := by
  subst hn; subst hz
  intro H locs ls hl hW hS
  have hts := X.2.2.2.2.1
  have hcl : (Int32.ofInt (N : Int)).toNatClampNeg = N := by have := gi_cl (i := (N : Int)) (by omega) (by omega); omega
  refine va_newaK X.1 X.2.1 (atype := .long) (hts _ hw) rfl hd rfl (by rw [gi_0, gi_lt ⟨by omega, by omega⟩ ⟨by omega, by omega⟩]; omega) hcl (by show N * 8 ≤ _; omega) hcells hslots hW.1 fun H1 cA' e1 z1 o1 hAr hNm => ?_
  have hS2 : va_S (fun q => n0 ≤ q) s.heap H1 locs := ⟨by have := hS.1; have := hW.1; omega, fun x h1 h2 => (o1 x (by have := hS.1; have := hW.1; omega)).trans (hS.2.1 x h1 h2), hS.2.2⟩
  have hcA : cA' = cA 2 := Option.some.inj (hNm.symm.trans (X.2.2.2.2.2.2.1.1.2 1 _ rfl).2)
  subst hcA
  refine kk H1 locs ls hl (gws_new H H1 (gnew M (sz : Int)) (.inl (cA 2, N, .inr (.inl (fun _ => Int64.ofInt 0)))) hW.2 hW.1 (by rw [z1, hW.1]) (by rw [hW.1]; exact o1) (by rw [hlay, gnew_on]; rfl) gnew_off ?_) hS2
  exact e1
theorem g_newB (X : gCx p s m args meth c n0 D cA own cc nL) {N : Nat} {z : Int} (hz : z = (N : Int)) (hN : (N : Int) ≤ 100000) (hw : Cond.arrayClass .byte ∈ gT) (hlay : glay (sz : Int) = (3, N)) (hcells : cells + 1 ≤ R.cells) (hslots : slots + N ≤ R.slots) (hd : decode cc pc = .ok (.newarray .byte, 2)) (hn : pc + 2 = n) (kk : G p l e R s m args below meth c n0 D cA nL Q (cells + 1) (slots + N) (gnew M (sz : Int)) (sz + 1) n L (gA n0 (sz : Int) :: st)) : G p l e R s m args below meth c n0 D cA nL Q cells slots M sz pc L (gJ z :: st) := by
  subst hn; subst hz
  intro H locs ls hl hW hS
  have hts := X.2.2.2.2.1
  have hcl : (Int32.ofInt (N : Int)).toNatClampNeg = N := by have := gi_cl (i := (N : Int)) (by omega) (by omega); omega
  refine va_newaK X.1 X.2.1 (atype := .byte) (hts _ hw) rfl hd rfl (by rw [gi_0, gi_lt ⟨by omega, by omega⟩ ⟨by omega, by omega⟩]; omega) hcl (by show N * 1 ≤ _; omega) hcells hslots hW.1 fun H1 cA' e1 z1 o1 hAr hNm => ?_
  have hS2 : va_S (fun q => n0 ≤ q) s.heap H1 locs := ⟨by have := hS.1; have := hW.1; omega, fun x h1 h2 => (o1 x (by have := hS.1; have := hW.1; omega)).trans (hS.2.1 x h1 h2), hS.2.2⟩
  have hcA : cA' = cA 3 := Option.some.inj (hNm.symm.trans (X.2.2.2.2.2.2.1.1.2 2 _ rfl).2)
  subst hcA
  refine kk H1 locs ls hl (gws_new H H1 (gnew M (sz : Int)) (.inl (cA 3, N, .inl (fun _ => Int32.ofInt 0))) hW.2 hW.1 (by rw [z1, hW.1]) (by rw [hW.1]; exact o1) (by rw [hlay, gnew_on]; rfl) gnew_off ?_) hS2
  exact e1
theorem g_newZ (X : gCx p s m args meth c n0 D cA own cc nL) {N : Nat} {z : Int} (hz : z = (N : Int)) (hN : (N : Int) ≤ 100000) (hw : Cond.arrayClass .boolean ∈ gT) (hlay : glay (sz : Int) = (4, N)) (hcells : cells + 1 ≤ R.cells) (hslots : slots + N ≤ R.slots) (hd : decode cc pc = .ok (.newarray .boolean, 2)) (hn : pc + 2 = n) (kk : G p l e R s m args below meth c n0 D cA nL Q (cells + 1) (slots + N) (gnew M (sz : Int)) (sz + 1) n L (gA n0 (sz : Int) :: st)) : G p l e R s m args below meth c n0 D cA nL Q cells slots M sz pc L (gJ z :: st) := by
  subst hn; subst hz
  intro H locs ls hl hW hS
  have hts := X.2.2.2.2.1
  have hcl : (Int32.ofInt (N : Int)).toNatClampNeg = N := by have := gi_cl (i := (N : Int)) (by omega) (by omega); omega
  refine va_newaK X.1 X.2.1 (atype := .boolean) (hts _ hw) rfl hd rfl (by rw [gi_0, gi_lt ⟨by omega, by omega⟩ ⟨by omega, by omega⟩]; omega) hcl (by show N * 1 ≤ _; omega) hcells hslots hW.1 fun H1 cA' e1 z1 o1 hAr hNm => ?_
  have hS2 : va_S (fun q => n0 ≤ q) s.heap H1 locs := ⟨by have := hS.1; have := hW.1; omega, fun x h1 h2 => (o1 x (by have := hS.1; have := hW.1; omega)).trans (hS.2.1 x h1 h2), hS.2.2⟩
  have hcA : cA' = cA 4 := Option.some.inj (hNm.symm.trans (X.2.2.2.2.2.2.1.1.2 3 _ rfl).2)
  subst hcA
  refine kk H1 locs ls hl (gws_new H H1 (gnew M (sz : Int)) (.inl (cA 4, N, .inl (fun _ => Int32.ofInt 0))) hW.2 hW.1 (by rw [z1, hW.1]) (by rw [hW.1]; exact o1) (by rw [hlay, gnew_on]; rfl) gnew_off ?_) hS2
  exact e1
theorem g_newQ (X : gCx p s m args meth c n0 D cA own cc nL) {C : String} {N kd t0 index : Nat} {z : Int} (hz : z = (N : Int)) (hN : (N : Int) ≤ 100000) (hw : Cond.classLink own index C ∈ gT) (hAO : va_AO C s) (ht : (gtys cA)[t0]? = some (cA (kd + 5), .object C)) (hlay : glay (sz : Int) = (kd + 5, N)) (hcells : cells + 1 ≤ R.cells) (hslots : slots + N ≤ R.slots) (hd : decode cc pc = .ok (.anewarray index, 3)) (hn : pc + 3 = n) (kk : G p l e R s m args below meth c n0 D cA nL Q (cells + 1) (slots + N) (gnew M (sz : Int)) (sz + 1) n L (gA n0 (sz : Int) :: st)) : G p l e R s m args below meth c n0 D cA nL Q cells slots M sz pc L (gJ z :: st) := by
  subst hn; subst hz
  intro H locs ls hl hW hS
  have hts := X.2.2.2.2.1
  have hcl : (Int32.ofInt (N : Int)).toNatClampNeg = N := by have := gi_cl (i := (N : Int)) (by omega) (by omega); omega
  refine W.anew X.1 X.2.1 X.2.2.2.1 (hts _ hw) (va_AO.use hAO) rfl hd rfl (by rw [gi_0, gi_lt ⟨by omega, by omega⟩ ⟨by omega, by omega⟩]; omega) (by rw [hcl]; omega) hcells (by rw [hcl]; exact hslots) fun cA' kA comp f1 f2 f3 f4 => ?_
  rw [hcl]
  have hsz := hW.1
  have hcA : cA' = cA (kd + 5) := by
    obtain ⟨kA', comp', g1, g2, g3, g4⟩ := (X.2.2.2.2.2.2.1.1.2 t0 _ ht).2
    exact Option.some.inj (f1.symm.trans g4)
  subst hcA
  generalize hH1 : H.push ({ cls := cA (kd + 5), slots := Array.replicate N .null, vm := .none } : Cell) = H1
  have z1 : H1.size = H.size + 1 := by rw [← hH1, Array.size_push]
  have e1 : H1[H.size]? = some (arrV (cA (kd + 5)) N (fun _ => .null)) := by rw [← hH1, Array.getElem?_push_size, ← arrV_new]
  have o1 : ∀ q : Nat, q < H.size → H1[q]? = H[q]? := fun q hq => by rw [← hH1, Array.getElem?_push, if_neg (Nat.ne_of_lt hq)]
  have hS2 : va_S (fun q => n0 ≤ q) s.heap H1 locs := ⟨by have := hS.1; omega, fun x h1 h2 => (o1 x (by have := hS.1; omega)).trans (hS.2.1 x h1 h2), hS.2.2⟩
  rw [show (Value.ref H.size) = gA n0 (sz : Int) by rw [hsz]; rfl]
  refine kk H1 locs ls hl (gws_new H H1 (gnew M (sz : Int)) (.inl (cA (kd + 5), N, .inr (.inr (.inr (.inr (fun _ => none)))))) hW.2 hW.1 z1 o1 (by rw [hlay, gnew_on]; rfl) gnew_off ?_) hS2
  rw [← hsz]
  exact e1
/-! the ends -/
theorem g_ireturn (X : gCx p s m args meth c n0 D cA own cc nL) {Po : Int → gM → Prop} {z : Int} (hr : meth.sig.returnType = some .int) (hd : decode cc pc = .ok (.ireturn, 1)) (hP : Po z M) : G p l e R s m args below meth c n0 D cA nL (MQ below (gQi n0 D cA sz Po) args s cells slots (fun q => n0 ≤ q)) cells slots M sz pc L [gJ z] :=
  fun H locs ls hl hW hS => W.iret X.1 X.2.1 hr (fun t ht hWm => ⟨⟨_, (z, M), rfl, ⟨rfl, hP⟩, by show gWd n0 D cA M sz t.heap; rw [ht]; exact hW⟩, hS.F ht⟩) hS.2.2 hd X.2.2.2.2.2.1
theorem g_zreturn (X : gCx p s m args meth c n0 D cA own cc nL) {Po : Int → gM → Prop} {z : Int} (hz : z = 0 ∨ z = 1) (hr : meth.sig.returnType = some .boolean) (hd : decode cc pc = .ok (.ireturn, 1)) (hP : Po z M) : G p l e R s m args below meth c n0 D cA nL (MQ below (gQi n0 D cA sz Po) args s cells slots (fun q => n0 ≤ q)) cells slots M sz pc L [gJ z] :=
  fun H locs ls hl hW hS => W.zret X.1 X.2.1 hr (by rcases hz with rfl | rfl <;> decide +kernel) (fun t ht hWm => ⟨⟨_, (z, M), rfl, ⟨rfl, hP⟩, by show gWd n0 D cA M sz t.heap; rw [ht]; exact hW⟩, hS.F ht⟩) hS.2.2 hd X.2.2.2.2.2.1
theorem g_lreturn (X : gCx p s m args meth c n0 D cA own cc nL) {Po : Int → gM → Prop} {z : Int} (hr : meth.sig.returnType = some .long) (hd : decode cc pc = .ok (.lreturn, 1)) (hP : Po z M) : G p l e R s m args below meth c n0 D cA nL (MQ below (gQl n0 D cA sz Po) args s cells slots (fun q => n0 ≤ q)) cells slots M sz pc L [gV z] :=
  fun H locs ls hl hW hS => W.lret X.1 X.2.1 hr (fun t ht hWm => ⟨⟨_, (z, M), rfl, ⟨rfl, hP⟩, by show gWd n0 D cA M sz t.heap; rw [ht]; exact hW⟩, hS.F ht⟩) hS.2.2 hd X.2.2.2.2.2.1
theorem g_return (X : gCx p s m args meth c n0 D cA own cc nL) {Po : gM → Prop} (hr : meth.sig.returnType = none) (hd : decode cc pc = .ok (.return_, 1)) (hP : Po M) : G p l e R s m args below meth c n0 D cA nL (MQ below (gQv n0 D cA sz Po) args s cells slots (fun q => n0 ≤ q)) cells slots M sz pc L [] :=
  fun H locs ls hl hW hS => W.vret X.1 X.2.1 hr (fun t ht hWm => ⟨⟨M, rfl, hP, by show gWd n0 D cA M sz t.heap; rw [ht]; exact hW⟩, hS.F ht⟩) hS.2.2 hd X.2.2.2.2.2.1
/-! a method's walk gives its contract -/
theorem gMet_of {y : MethodName} {bytes : ByteArray} {maxL : Nat} {ret : Option FieldType} {rm : Room} {Qc : Array Value → State → Outcome → State → Prop} {mc ms : Nat} (av : List Value) (hy : plainName y.cls = true) (hav : (lg_sl av).length ≤ maxL)
    (body : ∀ p e s m args below meth c, gCx p s m args meth c n0 D cA y.cls bytes maxL → meth.sig.returnType = ret → meth.name = y.name → G p l e rm s m args below meth c n0 D cA maxL (MQ below Qc args s mc ms (fun q => n0 ≤ q)) 0 0 M sz 0 (lv_args 0 av) []) : Met l y (gWsOf y bytes maxL ret) rm (gPc n0 D cA av M sz) Qc mc ms (fun q => n0 ≤ q) := by
  refine Met.ofW (cc := bytes) (maxL := maxL) (ret := ret) hy rfl ?_
  intro p e s m args below meth c s₁ B hml hv
  obtain ⟨rfl, hW, hK, hO⟩ := hv
  have hts := atoms_spec (ws := gWsOf y bytes maxL ret) B.pre
  rw [lg_entry_eq]
  exact body p e s m _ below meth c ⟨B.exec, B.bytes, hml, findClass_of_methodNamed B.named, fun w hw => hts w (List.mem_cons_of_mem _ hw), B.notSynchronized, hK, hO⟩ B.returns (name_of_methodNamed B.named B.method).1 s.heap [] _ (lv_entry av hav) hW va_S.rf
/-! calls -/
theorem gPre (X : gCx p s m args meth c n0 D cA own cc nL) {H : Heap} {locs : List Loc} {As : List Value} (hW : gWd n0 D cA M sz H) (hS : va_S (fun q => n0 ≤ q) s.heap H locs) : PreS s H (gPc n0 D cA As M sz) As :=
  ⟨gPc_blind, fun U hU hWm => ⟨rfl, by rw [hU]; exact hW, gK.warm hWm X.2.2.2.2.2.2.1, by rw [hU]; exact gOld.moved hWm.alike (gOld.kept X.2.2.2.2.2.2.2 hS.1 hS.2.1)⟩⟩
theorem gPreV (X : gCx p s m args meth c n0 D cA own cc nL) {H : Heap} {locs : List Loc} {As : List Value} {C : String} {T : u_T} {N ci : Nat} {o : Int} (hc : vwCl[ci]? = some (C, T, N)) (h0 : 0 ≤ o) (h1 : o < (sz : Int)) (hlay : glay o = (0, ci)) (hW : gWd n0 D cA M sz H) (hS : va_S (fun q => n0 ≤ q) s.heap H locs) : PreV s H C (n0 + o.toNat) (gPc n0 D cA (gA n0 o :: As) M sz) As :=
  ⟨gPc_blind, va_recv X.2.2.2.2.2.2.1.1 hW.2 hc (g_he0 h0 h1 hlay), (gPre X hW hS).2⟩
abbrev gQok (y : MethodName) (bytes : ByteArray) (maxL : Nat) (ret : Option FieldType) (k : Nat) : Prop := Cond.code y bytes maxL ret ∈ gT ∧ Cond.initialized y.cls ∈ gT ∧ y.cls ≠ "java/lang/invoke/MethodHandle" ∧ y.cls ≠ "java/lang/invoke/VarHandle" ∧ (parseMethodDescriptor y.desc).map (fun d => d.parameters.length) = some k
theorem gCallB (X : gCx p s m args meth c n0 D cA own cc nL) {y : MethodName} {bytes : ByteArray} {maxL index k mc ms : Nat} {ret : Option FieldType} {rm : Room} (hy : gQok y bytes maxL ret k) (hl : Cond.methodLink own index y ∈ gT) (hrm : rm.cells = mc ∧ rm.slots = ms) (hR : rm.frames + 1 ≤ R.frames ∧ 8 + (maxL + 11) + rm.locals ≤ R.locals) : CallB R s args own index y bytes maxL ret (gWsOf y bytes maxL ret) rm mc ms k :=
  callB_of k X.2.2.2.2.1 (gT_ok hy.1) rfl hrm.1 hrm.2 (X.2.2.2.2.1 _ hy.2.1) (X.2.2.2.2.1 _ hl) hy.2.2 hR
theorem gCallN (X : gCx p s m args meth c n0 D cA own cc nL) {y : MethodName} {bytes : ByteArray} {maxL index k mc ms : Nat} {ret : Option FieldType} {rm : Room} {host : String} (hy : gQok y bytes maxL ret k) (hl : (own, index, y, host) ∈ gNestM) (hrm : rm.cells = mc ∧ rm.slots = ms) (hR : rm.frames + 1 ≤ R.frames ∧ 8 + (maxL + 11) + rm.locals ≤ R.locals) : va_CN R s args own index y host bytes maxL ret (gWsOf y bytes maxL ret) rm mc ms k :=
  va_cnB k X.2.2.2.2.1 (gT_ok hy.1) rfl hrm.1 hrm.2 (X.2.2.2.2.2.2.1.2.1 _ hl) (X.2.2.2.2.1 _ hy.2.1) hy.2.2 hR
theorem gFix (X : gCx p s m args meth c n0 D cA own cc nL) : CallFix p m c cc nL s args gT own := ⟨X.1, X.2.1, X.2.2.1, X.2.2.2.1, X.2.2.2.2.1⟩
/-- what a run of a call gives: the answer and the new memory -/
theorem gAfter_i {As rest : List Value} {sz1 mc ms : Nat} {Po : Int → gM → Prop} {a : Array Value} {ls : Array Slot} {H : Heap} {locs : List Loc} {st0 : List Value} (hn : pc + 3 = n) (hl : lv_has ls nL L) (hS : va_S (fun q => n0 ≤ q) s.heap H locs) (hr : va_Run p l e R s m args below meth c H locs cells slots mc ms (F0 m pc ls st0) rest (gQi n0 D cA sz1 Po a) (fun q => n0 ≤ q)) (kk : ∀ (z : Int) (M1 : gM), Po z M1 → G p l e R s m args below meth c n0 D cA nL Q (cells + mc) (slots + ms) M1 sz1 n L (gJ z :: rest)) : W p l e R s m args below meth c H locs cells slots Q (F0 m pc ls st0) := by
  subst hn
  refine va_calli hr hS (fun q _ h => h) (fun q h => h) (fun r u t H1 locs1 ht hvm hw hB hz1 hk1 hS1 => ?_)
  obtain ⟨z, M1⟩ := u
  obtain ⟨rfl, hP⟩ := hw
  exact kk z M1 hP H1 locs1 ls hl (by rw [← ht]; exact hB) hS1
theorem gAfter_l {As rest : List Value} {sz1 mc ms : Nat} {Po : Int → gM → Prop} {a : Array Value} {ls : Array Slot} {H : Heap} {locs : List Loc} {st0 : List Value} (hn : pc + 3 = n) (hl : lv_has ls nL L) (hS : va_S (fun q => n0 ≤ q) s.heap H locs) (hr : va_Run p l e R s m args below meth c H locs cells slots mc ms (F0 m pc ls st0) rest (gQl n0 D cA sz1 Po a) (fun q => n0 ≤ q)) (kk : ∀ (z : Int) (M1 : gM), Po z M1 → G p l e R s m args below meth c n0 D cA nL Q (cells + mc) (slots + ms) M1 sz1 n L (gV z :: rest)) : W p l e R s m args below meth c H locs cells slots Q (F0 m pc ls st0) := by
  subst hn
  refine va_calll hr hS (fun q _ h => h) (fun q h => h) (fun r u t H1 locs1 ht hvm hw hB hz1 hk1 hS1 => ?_)
  obtain ⟨z, M1⟩ := u
  obtain ⟨rfl, hP⟩ := hw
  exact kk z M1 hP H1 locs1 ls hl (by rw [← ht]; exact hB) hS1
theorem gAfter_v {As rest : List Value} {sz1 mc ms : Nat} {Po : gM → Prop} {a : Array Value} {ls : Array Slot} {H : Heap} {locs : List Loc} {st0 : List Value} (hn : pc + 3 = n) (hl : lv_has ls nL L) (hS : va_S (fun q => n0 ≤ q) s.heap H locs) (hr : va_Run p l e R s m args below meth c H locs cells slots mc ms (F0 m pc ls st0) rest (gQv n0 D cA sz1 Po a) (fun q => n0 ≤ q)) (kk : ∀ (M1 : gM), Po M1 → G p l e R s m args below meth c n0 D cA nL Q (cells + mc) (slots + ms) M1 sz1 n L rest) : W p l e R s m args below meth c H locs cells slots Q (F0 m pc ls st0) := by
  subst hn
  refine va_callv hr hS (fun q _ h => h) (fun q h => h) (fun u t H1 locs1 ht hvm hw hB hz1 hk1 hS1 => ?_)
  exact kk u hw H1 locs1 ls hl (by rw [← ht]; exact hB) hS1
theorem g_callVi (X : gCx p s m args meth c n0 D cA own cc nL) {y : MethodName} {bytes : ByteArray} {maxL index k mc ms sz1 cs1 ss1 : Nat} {ret : Option FieldType} {rm : Room} {C : String} {T : u_T} {N ci : Nat} {o : Int} {As rest st0 : List Value} {Po : Int → gM → Prop} (hM : Met l y (gWsOf y bytes maxL ret) rm (gPc n0 D cA (gA n0 o :: As) M sz) (gQi n0 D cA sz1 Po) mc ms (fun q => n0 ≤ q)) (hy : gQok y bytes maxL ret k) (hl : Cond.methodLink own index y ∈ gT) (hw : Cond.instanceMethod y ∈ gT ∧ Cond.selects C y y ∈ gT) (hrm : rm.cells = mc ∧ rm.slots = ms) (hR : rm.frames + 1 ≤ R.frames ∧ 8 + (maxL + 11) + rm.locals ≤ R.locals) (hc : vwCl[ci]? = some (C, T, N)) (h0 : 0 ≤ o) (h1 : o < (sz : Int)) (hlay : glay o = (0, ci)) (hk : As.length = k) (hst : st0 = As.reverse ++ (gA n0 o :: rest)) (hcat : (rest.map fun v => v.category).sum ≤ 8) (hroom : cells + mc ≤ R.cells ∧ slots + ms ≤ R.slots) (hcc : cells + mc = cs1) (hss : slots + ms = ss1) (hd : decode cc pc = .ok (.invokevirtual index, 3)) (hn : pc + 3 = n) (kk : ∀ (z : Int) (M1 : gM), Po z M1 → G p l e R s m args below meth c n0 D cA nL Q cs1 ss1 M1 sz1 n L (gJ z :: rest)) : G p l e R s m args below meth c n0 D cA nL Q cells slots M sz pc L st0 := by
  subst hcc; subst hss
  intro H locs ls hl' hW hS
  exact gAfter_i (As := As) hn hl' hS (va_runV (As := As) (rest := rest) (gFix X) hM ⟨gCallB X hy hl hrm hR, X.2.2.2.2.1 _ hw.1, X.2.2.2.2.1 _ hw.2⟩ (gPreV X hc h0 h1 hlay hW hS) rfl hk hl'.1 hst (lv_room hcat) hd hroom) kk
theorem g_callVl (X : gCx p s m args meth c n0 D cA own cc nL) {y : MethodName} {bytes : ByteArray} {maxL index k mc ms sz1 cs1 ss1 : Nat} {ret : Option FieldType} {rm : Room} {C : String} {T : u_T} {N ci : Nat} {o : Int} {As rest st0 : List Value} {Po : Int → gM → Prop} (hM : Met l y (gWsOf y bytes maxL ret) rm (gPc n0 D cA (gA n0 o :: As) M sz) (gQl n0 D cA sz1 Po) mc ms (fun q => n0 ≤ q)) (hy : gQok y bytes maxL ret k) (hl : Cond.methodLink own index y ∈ gT) (hw : Cond.instanceMethod y ∈ gT ∧ Cond.selects C y y ∈ gT) (hrm : rm.cells = mc ∧ rm.slots = ms) (hR : rm.frames + 1 ≤ R.frames ∧ 8 + (maxL + 11) + rm.locals ≤ R.locals) (hc : vwCl[ci]? = some (C, T, N)) (h0 : 0 ≤ o) (h1 : o < (sz : Int)) (hlay : glay o = (0, ci)) (hk : As.length = k) (hst : st0 = As.reverse ++ (gA n0 o :: rest)) (hcat : (rest.map fun v => v.category).sum ≤ 8) (hroom : cells + mc ≤ R.cells ∧ slots + ms ≤ R.slots) (hcc : cells + mc = cs1) (hss : slots + ms = ss1) (hd : decode cc pc = .ok (.invokevirtual index, 3)) (hn : pc + 3 = n) (kk : ∀ (z : Int) (M1 : gM), Po z M1 → G p l e R s m args below meth c n0 D cA nL Q cs1 ss1 M1 sz1 n L (gV z :: rest)) : G p l e R s m args below meth c n0 D cA nL Q cells slots M sz pc L st0 := by
  subst hcc; subst hss
  intro H locs ls hl' hW hS
  exact gAfter_l (As := As) hn hl' hS (va_runV (As := As) (rest := rest) (gFix X) hM ⟨gCallB X hy hl hrm hR, X.2.2.2.2.1 _ hw.1, X.2.2.2.2.1 _ hw.2⟩ (gPreV X hc h0 h1 hlay hW hS) rfl hk hl'.1 hst (lv_room hcat) hd hroom) kk
theorem g_callVv (X : gCx p s m args meth c n0 D cA own cc nL) {y : MethodName} {bytes : ByteArray} {maxL index k mc ms sz1 cs1 ss1 : Nat} {ret : Option FieldType} {rm : Room} {C : String} {T : u_T} {N ci : Nat} {o : Int} {As rest st0 : List Value} {Po : gM → Prop} (hM : Met l y (gWsOf y bytes maxL ret) rm (gPc n0 D cA (gA n0 o :: As) M sz) (gQv n0 D cA sz1 Po) mc ms (fun q => n0 ≤ q)) (hy : gQok y bytes maxL ret k) (hl : Cond.methodLink own index y ∈ gT) (hw : Cond.instanceMethod y ∈ gT ∧ Cond.selects C y y ∈ gT) (hrm : rm.cells = mc ∧ rm.slots = ms) (hR : rm.frames + 1 ≤ R.frames ∧ 8 + (maxL + 11) + rm.locals ≤ R.locals) (hc : vwCl[ci]? = some (C, T, N)) (h0 : 0 ≤ o) (h1 : o < (sz : Int)) (hlay : glay o = (0, ci)) (hk : As.length = k) (hst : st0 = As.reverse ++ (gA n0 o :: rest)) (hcat : (rest.map fun v => v.category).sum ≤ 8) (hroom : cells + mc ≤ R.cells ∧ slots + ms ≤ R.slots) (hcc : cells + mc = cs1) (hss : slots + ms = ss1) (hd : decode cc pc = .ok (.invokevirtual index, 3)) (hn : pc + 3 = n) (kk : ∀ (M1 : gM), Po M1 → G p l e R s m args below meth c n0 D cA nL Q cs1 ss1 M1 sz1 n L rest) : G p l e R s m args below meth c n0 D cA nL Q cells slots M sz pc L st0 := by
  subst hcc; subst hss
  intro H locs ls hl' hW hS
  exact gAfter_v (As := As) hn hl' hS (va_runV (As := As) (rest := rest) (gFix X) hM ⟨gCallB X hy hl hrm hR, X.2.2.2.2.1 _ hw.1, X.2.2.2.2.1 _ hw.2⟩ (gPreV X hc h0 h1 hlay hW hS) rfl hk hl'.1 hst (lv_room hcat) hd hroom) kk
theorem g_callVNi (X : gCx p s m args meth c n0 D cA own cc nL) {y : MethodName} {bytes : ByteArray} {maxL index k mc ms sz1 cs1 ss1 : Nat} {ret : Option FieldType} {rm : Room} {host : String} {C : String} {T : u_T} {N ci : Nat} {o : Int} {As rest st0 : List Value} {Po : Int → gM → Prop} (hM : Met l y (gWsOf y bytes maxL ret) rm (gPc n0 D cA (gA n0 o :: As) M sz) (gQi n0 D cA sz1 Po) mc ms (fun q => n0 ≤ q)) (hy : gQok y bytes maxL ret k) (hl : (own, index, y, host) ∈ gNestM) (hw : Cond.instanceMethod y ∈ gT ∧ Cond.selects C y y ∈ gT) (hrm : rm.cells = mc ∧ rm.slots = ms) (hR : rm.frames + 1 ≤ R.frames ∧ 8 + (maxL + 11) + rm.locals ≤ R.locals) (hc : vwCl[ci]? = some (C, T, N)) (h0 : 0 ≤ o) (h1 : o < (sz : Int)) (hlay : glay o = (0, ci)) (hk : As.length = k) (hst : st0 = As.reverse ++ (gA n0 o :: rest)) (hcat : (rest.map fun v => v.category).sum ≤ 8) (hroom : cells + mc ≤ R.cells ∧ slots + ms ≤ R.slots) (hcc : cells + mc = cs1) (hss : slots + ms = ss1) (hd : decode cc pc = .ok (.invokevirtual index, 3)) (hn : pc + 3 = n) (kk : ∀ (z : Int) (M1 : gM), Po z M1 → G p l e R s m args below meth c n0 D cA nL Q cs1 ss1 M1 sz1 n L (gJ z :: rest)) : G p l e R s m args below meth c n0 D cA nL Q cells slots M sz pc L st0 := by
  subst hcc; subst hss
  intro H locs ls hl' hW hS
  exact gAfter_i (As := As) hn hl' hS (va_runVN (As := As) (rest := rest) (gFix X) hM ⟨gCallN X hy hl hrm hR, X.2.2.2.2.1 _ hw.1, X.2.2.2.2.1 _ hw.2⟩ (gPreV X hc h0 h1 hlay hW hS) rfl hk hl'.1 hst (lv_room hcat) hd hroom) kk
theorem g_callVNv (X : gCx p s m args meth c n0 D cA own cc nL) {y : MethodName} {bytes : ByteArray} {maxL index k mc ms sz1 cs1 ss1 : Nat} {ret : Option FieldType} {rm : Room} {host : String} {C : String} {T : u_T} {N ci : Nat} {o : Int} {As rest st0 : List Value} {Po : gM → Prop} (hM : Met l y (gWsOf y bytes maxL ret) rm (gPc n0 D cA (gA n0 o :: As) M sz) (gQv n0 D cA sz1 Po) mc ms (fun q => n0 ≤ q)) (hy : gQok y bytes maxL ret k) (hl : (own, index, y, host) ∈ gNestM) (hw : Cond.instanceMethod y ∈ gT ∧ Cond.selects C y y ∈ gT) (hrm : rm.cells = mc ∧ rm.slots = ms) (hR : rm.frames + 1 ≤ R.frames ∧ 8 + (maxL + 11) + rm.locals ≤ R.locals) (hc : vwCl[ci]? = some (C, T, N)) (h0 : 0 ≤ o) (h1 : o < (sz : Int)) (hlay : glay o = (0, ci)) (hk : As.length = k) (hst : st0 = As.reverse ++ (gA n0 o :: rest)) (hcat : (rest.map fun v => v.category).sum ≤ 8) (hroom : cells + mc ≤ R.cells ∧ slots + ms ≤ R.slots) (hcc : cells + mc = cs1) (hss : slots + ms = ss1) (hd : decode cc pc = .ok (.invokevirtual index, 3)) (hn : pc + 3 = n) (kk : ∀ (M1 : gM), Po M1 → G p l e R s m args below meth c n0 D cA nL Q cs1 ss1 M1 sz1 n L rest) : G p l e R s m args below meth c n0 D cA nL Q cells slots M sz pc L st0 := by
  subst hcc; subst hss
  intro H locs ls hl' hW hS
  exact gAfter_v (As := As) hn hl' hS (va_runVN (As := As) (rest := rest) (gFix X) hM ⟨gCallN X hy hl hrm hR, X.2.2.2.2.1 _ hw.1, X.2.2.2.2.1 _ hw.2⟩ (gPreV X hc h0 h1 hlay hW hS) rfl hk hl'.1 hst (lv_room hcat) hd hroom) kk
theorem g_callSi (X : gCx p s m args meth c n0 D cA own cc nL) {y : MethodName} {bytes : ByteArray} {maxL index k mc ms sz1 cs1 ss1 : Nat} {ret : Option FieldType} {rm : Room} {As rest st0 : List Value} {Po : Int → gM → Prop} (hM : Met l y (gWsOf y bytes maxL ret) rm (gPc n0 D cA As M sz) (gQi n0 D cA sz1 Po) mc ms (fun q => n0 ≤ q)) (hy : gQok y bytes maxL ret k) (hl : Cond.methodLink own index y ∈ gT) (hw : Cond.static y ∈ gT) (hrm : rm.cells = mc ∧ rm.slots = ms) (hR : rm.frames + 1 ≤ R.frames ∧ 8 + (maxL + 11) + rm.locals ≤ R.locals) (hk : As.length = k) (hst : st0 = As.reverse ++ rest) (hcat : (rest.map fun v => v.category).sum ≤ 8) (hroom : cells + mc ≤ R.cells ∧ slots + ms ≤ R.slots) (hcc : cells + mc = cs1) (hss : slots + ms = ss1) (hd : decode cc pc = .ok (.invokestatic index, 3)) (hn : pc + 3 = n) (kk : ∀ (z : Int) (M1 : gM), Po z M1 → G p l e R s m args below meth c n0 D cA nL Q cs1 ss1 M1 sz1 n L (gJ z :: rest)) : G p l e R s m args below meth c n0 D cA nL Q cells slots M sz pc L st0 := by
  subst hcc; subst hss
  intro H locs ls hl' hW hS
  exact gAfter_i (As := As) hn hl' hS (va_runS (As := As) (rest := rest) (gFix X) hM ⟨gCallB X hy hl hrm hR, X.2.2.2.2.1 _ hw⟩ (gPre X hW hS) rfl hk hl'.1 hst (lv_room hcat) hd hroom) kk
theorem g_callSl (X : gCx p s m args meth c n0 D cA own cc nL) {y : MethodName} {bytes : ByteArray} {maxL index k mc ms sz1 cs1 ss1 : Nat} {ret : Option FieldType} {rm : Room} {As rest st0 : List Value} {Po : Int → gM → Prop} (hM : Met l y (gWsOf y bytes maxL ret) rm (gPc n0 D cA As M sz) (gQl n0 D cA sz1 Po) mc ms (fun q => n0 ≤ q)) (hy : gQok y bytes maxL ret k) (hl : Cond.methodLink own index y ∈ gT) (hw : Cond.static y ∈ gT) (hrm : rm.cells = mc ∧ rm.slots = ms) (hR : rm.frames + 1 ≤ R.frames ∧ 8 + (maxL + 11) + rm.locals ≤ R.locals) (hk : As.length = k) (hst : st0 = As.reverse ++ rest) (hcat : (rest.map fun v => v.category).sum ≤ 8) (hroom : cells + mc ≤ R.cells ∧ slots + ms ≤ R.slots) (hcc : cells + mc = cs1) (hss : slots + ms = ss1) (hd : decode cc pc = .ok (.invokestatic index, 3)) (hn : pc + 3 = n) (kk : ∀ (z : Int) (M1 : gM), Po z M1 → G p l e R s m args below meth c n0 D cA nL Q cs1 ss1 M1 sz1 n L (gV z :: rest)) : G p l e R s m args below meth c n0 D cA nL Q cells slots M sz pc L st0 := by
  subst hcc; subst hss
  intro H locs ls hl' hW hS
  exact gAfter_l (As := As) hn hl' hS (va_runS (As := As) (rest := rest) (gFix X) hM ⟨gCallB X hy hl hrm hR, X.2.2.2.2.1 _ hw⟩ (gPre X hW hS) rfl hk hl'.1 hst (lv_room hcat) hd hroom) kk
theorem g_callSv (X : gCx p s m args meth c n0 D cA own cc nL) {y : MethodName} {bytes : ByteArray} {maxL index k mc ms sz1 cs1 ss1 : Nat} {ret : Option FieldType} {rm : Room} {As rest st0 : List Value} {Po : gM → Prop} (hM : Met l y (gWsOf y bytes maxL ret) rm (gPc n0 D cA As M sz) (gQv n0 D cA sz1 Po) mc ms (fun q => n0 ≤ q)) (hy : gQok y bytes maxL ret k) (hl : Cond.methodLink own index y ∈ gT) (hw : Cond.static y ∈ gT) (hrm : rm.cells = mc ∧ rm.slots = ms) (hR : rm.frames + 1 ≤ R.frames ∧ 8 + (maxL + 11) + rm.locals ≤ R.locals) (hk : As.length = k) (hst : st0 = As.reverse ++ rest) (hcat : (rest.map fun v => v.category).sum ≤ 8) (hroom : cells + mc ≤ R.cells ∧ slots + ms ≤ R.slots) (hcc : cells + mc = cs1) (hss : slots + ms = ss1) (hd : decode cc pc = .ok (.invokestatic index, 3)) (hn : pc + 3 = n) (kk : ∀ (M1 : gM), Po M1 → G p l e R s m args below meth c n0 D cA nL Q cs1 ss1 M1 sz1 n L rest) : G p l e R s m args below meth c n0 D cA nL Q cells slots M sz pc L st0 := by
  subst hcc; subst hss
  intro H locs ls hl' hW hS
  exact gAfter_v (As := As) hn hl' hS (va_runS (As := As) (rest := rest) (gFix X) hM ⟨gCallB X hy hl hrm hR, X.2.2.2.2.1 _ hw⟩ (gPre X hW hS) rfl hk hl'.1 hst (lv_room hcat) hd hroom) kk
theorem g_callSNi (X : gCx p s m args meth c n0 D cA own cc nL) {y : MethodName} {bytes : ByteArray} {maxL index k mc ms sz1 cs1 ss1 : Nat} {ret : Option FieldType} {rm : Room} {host : String} {As rest st0 : List Value} {Po : Int → gM → Prop} (hM : Met l y (gWsOf y bytes maxL ret) rm (gPc n0 D cA As M sz) (gQi n0 D cA sz1 Po) mc ms (fun q => n0 ≤ q)) (hy : gQok y bytes maxL ret k) (hl : (own, index, y, host) ∈ gNestM) (hw : Cond.static y ∈ gT) (hrm : rm.cells = mc ∧ rm.slots = ms) (hR : rm.frames + 1 ≤ R.frames ∧ 8 + (maxL + 11) + rm.locals ≤ R.locals) (hk : As.length = k) (hst : st0 = As.reverse ++ rest) (hcat : (rest.map fun v => v.category).sum ≤ 8) (hroom : cells + mc ≤ R.cells ∧ slots + ms ≤ R.slots) (hcc : cells + mc = cs1) (hss : slots + ms = ss1) (hd : decode cc pc = .ok (.invokestatic index, 3)) (hn : pc + 3 = n) (kk : ∀ (z : Int) (M1 : gM), Po z M1 → G p l e R s m args below meth c n0 D cA nL Q cs1 ss1 M1 sz1 n L (gJ z :: rest)) : G p l e R s m args below meth c n0 D cA nL Q cells slots M sz pc L st0 := by
  subst hcc; subst hss
  intro H locs ls hl' hW hS
  exact gAfter_i (As := As) hn hl' hS (va_runSN (As := As) (rest := rest) (gFix X) hM ⟨gCallN X hy hl hrm hR, X.2.2.2.2.1 _ hw, trivial⟩ (gPre X hW hS) rfl hk hl'.1 hst (lv_room hcat) hd hroom) kk
theorem g_callSNv (X : gCx p s m args meth c n0 D cA own cc nL) {y : MethodName} {bytes : ByteArray} {maxL index k mc ms sz1 cs1 ss1 : Nat} {ret : Option FieldType} {rm : Room} {host : String} {As rest st0 : List Value} {Po : gM → Prop} (hM : Met l y (gWsOf y bytes maxL ret) rm (gPc n0 D cA As M sz) (gQv n0 D cA sz1 Po) mc ms (fun q => n0 ≤ q)) (hy : gQok y bytes maxL ret k) (hl : (own, index, y, host) ∈ gNestM) (hw : Cond.static y ∈ gT) (hrm : rm.cells = mc ∧ rm.slots = ms) (hR : rm.frames + 1 ≤ R.frames ∧ 8 + (maxL + 11) + rm.locals ≤ R.locals) (hk : As.length = k) (hst : st0 = As.reverse ++ rest) (hcat : (rest.map fun v => v.category).sum ≤ 8) (hroom : cells + mc ≤ R.cells ∧ slots + ms ≤ R.slots) (hcc : cells + mc = cs1) (hss : slots + ms = ss1) (hd : decode cc pc = .ok (.invokestatic index, 3)) (hn : pc + 3 = n) (kk : ∀ (M1 : gM), Po M1 → G p l e R s m args below meth c n0 D cA nL Q cs1 ss1 M1 sz1 n L rest) : G p l e R s m args below meth c n0 D cA nL Q cells slots M sz pc L st0 := by
  subst hcc; subst hss
  intro H locs ls hl' hW hS
  exact gAfter_v (As := As) hn hl' hS (va_runSN (As := As) (rest := rest) (gFix X) hM ⟨gCallN X hy hl hrm hR, X.2.2.2.2.1 _ hw, trivial⟩ (gPre X hW hS) rfl hk hl'.1 hst (lv_room hcat) hd hroom) kk
theorem g_callIv (X : gCx p s m args meth c n0 D cA own cc nL) {y : MethodName} {bytes : ByteArray} {maxL index k mc ms sz1 cs1 ss1 : Nat} {rm : Room} {o : Int} {As rest st0 : List Value} {Po : gM → Prop} (hM : Met l y (gWsOf y bytes maxL none) rm (gPc n0 D cA (gA n0 o :: As) M sz) (gQv n0 D cA sz1 Po) mc ms (fun q => n0 ≤ q)) (hy : gQok y bytes maxL none k) (hl : Cond.methodLink own index y ∈ gT) (hw : Cond.instanceMethod y ∈ gT) (hyn : y.name = "<init>") (hrm : rm.cells = mc ∧ rm.slots = ms) (hR : rm.frames + 1 ≤ R.frames ∧ 8 + (maxL + 11) + rm.locals ≤ R.locals) (hk : As.length = k) (hst : st0 = As.reverse ++ (gA n0 o :: rest)) (hcat : (rest.map fun v => v.category).sum ≤ 8) (hroom : cells + mc ≤ R.cells ∧ slots + ms ≤ R.slots) (hcc : cells + mc = cs1) (hss : slots + ms = ss1) (hd : decode cc pc = .ok (.invokespecial index, 3)) (hn : pc + 3 = n) (kk : ∀ (M1 : gM), Po M1 → G p l e R s m args below meth c n0 D cA nL Q cs1 ss1 M1 sz1 n L rest) : G p l e R s m args below meth c n0 D cA nL Q cells slots M sz pc L st0 := by
  subst hcc; subst hss
  intro H locs ls hl' hW hS
  exact gAfter_v (As := As) hn hl' hS (va_runI (As := As) (rest := rest) (gFix X) hM ⟨gCallB X hy hl hrm hR, hyn, X.2.2.2.2.1 _ hw⟩ (gPre X hW hS) rfl hk hl'.1 hst (lv_room hcat) hd hroom) kk
theorem g_callINv (X : gCx p s m args meth c n0 D cA own cc nL) {y : MethodName} {bytes : ByteArray} {maxL index k mc ms sz1 cs1 ss1 : Nat} {rm : Room} {host : String} {o : Int} {As rest st0 : List Value} {Po : gM → Prop} (hM : Met l y (gWsOf y bytes maxL none) rm (gPc n0 D cA (gA n0 o :: As) M sz) (gQv n0 D cA sz1 Po) mc ms (fun q => n0 ≤ q)) (hy : gQok y bytes maxL none k) (hl : (own, index, y, host) ∈ gNestM) (hw : Cond.instanceMethod y ∈ gT) (hyn : y.name = "<init>") (hrm : rm.cells = mc ∧ rm.slots = ms) (hR : rm.frames + 1 ≤ R.frames ∧ 8 + (maxL + 11) + rm.locals ≤ R.locals) (hk : As.length = k) (hst : st0 = As.reverse ++ (gA n0 o :: rest)) (hcat : (rest.map fun v => v.category).sum ≤ 8) (hroom : cells + mc ≤ R.cells ∧ slots + ms ≤ R.slots) (hcc : cells + mc = cs1) (hss : slots + ms = ss1) (hd : decode cc pc = .ok (.invokespecial index, 3)) (hn : pc + 3 = n) (kk : ∀ (M1 : gM), Po M1 → G p l e R s m args below meth c n0 D cA nL Q cs1 ss1 M1 sz1 n L rest) : G p l e R s m args below meth c n0 D cA nL Q cells slots M sz pc L st0 := by
  subst hcc; subst hss
  intro H locs ls hl' hW hS
  exact gAfter_v (As := As) hn hl' hS (va_runIN (As := As) (rest := rest) (gFix X) hM ⟨gCallN X hy hl hrm hR, hyn, X.2.2.2.2.1 _ hw⟩ (gPre X hW hS) rfl hk hl'.1 hst (lv_room hcat) hd hroom) kk
/-! further rows -/
theorem G.nm (kk : ∀ M1 : gM, M1 = M → G p l e R s m args below meth c n0 D cA nL Q cells slots M1 sz pc L st) : G p l e R s m args below meth c n0 D cA nL Q cells slots M sz pc L st := kk M rfl
theorem g_objInit (X : gCx p s m args meth c n0 D cA own cc nL) {idx : Nat} {o : Int} {rest st0 : List Value} (hw1 : Cond.methodLink own idx Lib.objectInit ∈ gT) (hw2 : Cond.instanceMethod Lib.objectInit ∈ gT) (hw3 : Cond.code Lib.objectInit ⟨#[0xb1]⟩ 1 none ∈ gT) (hst : st0 = gA n0 o :: rest) (hd : decode cc pc = .ok (.invokespecial idx, 3)) (hframes : 1 ≤ R.frames) (hlocals : (rest.map fun v => v.category).sum + 12 ≤ R.locals) (hn : pc + 3 = n) (kk : G p l e R s m args below meth c n0 D cA nL Q cells slots M sz n L rest) : G p l e R s m args below meth c n0 D cA nL Q cells slots M sz pc L st0 := by
  subst hn; subst hst
  intro H locs ls hl hW hS
  have hts := X.2.2.2.2.1
  exact W.objInit X.1 X.2.1 X.2.2.2.1 (hts _ hw1) (hts _ hw2) (hts _ hw3) rfl (hl.1.trans X.2.2.1.symm) rfl hd hframes (by show 2 * 0 + _ + 12 ≤ _; omega) (kk H locs ls hl hW hS)
theorem g_mmin (X : gCx p s m args meth c n0 D cA own cc nL) {index : Nat} {a b : Int} (hw1 : Cond.methodLink own index Lib.Math.min.name ∈ gT) (hw2 : Cond.static Lib.Math.min.name ∈ gT) (hw3 : Cond.initialized "java/lang/Math" ∈ gT) (hw4 : Cond.code Lib.Math.min.name Lib.Math.min.code 2 (some .int) ∈ gT) (ha : -2147483648 ≤ a ∧ a ≤ 2147483647) (hb : -2147483648 ≤ b ∧ b ≤ 2147483647) (hframes : 1 ≤ R.frames) (hlocals : (st.map fun v => v.category).sum + 13 ≤ R.locals) (hc : cells ≤ R.cells) (hs : slots ≤ R.slots) (hd : decode cc pc = .ok (.invokestatic index, 3)) (hn : pc + 3 = n) (kk : ∀ x : Int, (a ≤ b → x = a) ∧ (b < a → x = b) → G p l e R s m args below meth c n0 D cA nL Q cells slots M sz n L (gJ x :: st)) : G p l e R s m args below meth c n0 D cA nL Q cells slots M sz pc L (gJ b :: gJ a :: st) := by
  subst hn
  intro H locs ls hl hW hS
  have hts := X.2.2.2.2.1
  refine va_mmin X.1 X.2.1 (X.2.2.1.trans hl.1.symm) X.2.2.2.1 (hts _ hw1) (hts _ hw2) (hts _ hw3) (hts _ hw4) hframes hlocals hc hs hd ?_
  by_cases h : b < a
  · rw [if_pos ((gi_lt hb ha).mpr h)]
    exact kk b ⟨fun q => by omega, fun _ => rfl⟩ H locs ls hl hW hS
  · rw [if_neg (fun q => h ((gi_lt hb ha).mp q))]
    exact kk a ⟨fun _ => rfl, fun q => by omega⟩ H locs ls hl hW hS
theorem g_mmax (X : gCx p s m args meth c n0 D cA own cc nL) {index : Nat} {a b : Int} (hw1 : Cond.methodLink own index Lib.Math.max.name ∈ gT) (hw2 : Cond.static Lib.Math.max.name ∈ gT) (hw3 : Cond.initialized "java/lang/Math" ∈ gT) (hw4 : Cond.code Lib.Math.max.name Lib.Math.max.code 2 (some .int) ∈ gT) (ha : -2147483648 ≤ a ∧ a ≤ 2147483647) (hb : -2147483648 ≤ b ∧ b ≤ 2147483647) (hframes : 1 ≤ R.frames) (hlocals : (st.map fun v => v.category).sum + 13 ≤ R.locals) (hc : cells ≤ R.cells) (hs : slots ≤ R.slots) (hd : decode cc pc = .ok (.invokestatic index, 3)) (hn : pc + 3 = n) (kk : ∀ x : Int, (a < b → x = b) ∧ (b ≤ a → x = a) → G p l e R s m args below meth c n0 D cA nL Q cells slots M sz n L (gJ x :: st)) : G p l e R s m args below meth c n0 D cA nL Q cells slots M sz pc L (gJ b :: gJ a :: st) := by
  subst hn
  intro H locs ls hl hW hS
  have hts := X.2.2.2.2.1
  refine va_mmax X.1 X.2.1 (X.2.2.1.trans hl.1.symm) X.2.2.2.1 (hts _ hw1) (hts _ hw2) (hts _ hw3) (hts _ hw4) hframes hlocals hc hs hd ?_
  by_cases h : a < b
  · rw [if_pos ((gi_lt ha hb).mpr h)]
    exact kk b ⟨fun _ => rfl, fun q => by omega⟩ H locs ls hl hW hS
  · rw [if_neg (fun q => h ((gi_lt ha hb).mp q))]
    exact kk a ⟨fun q => by omega, fun _ => rfl⟩ H locs ls hl hW hS
theorem g_lcmp (X : gCx p s m args meth c n0 D cA own cc nL) {a b : Int} (hd : decode cc pc = .ok (.lcmp, 1)) (ha : -9223372036854775808 ≤ a ∧ a ≤ 9223372036854775807) (hb : -9223372036854775808 ≤ b ∧ b ≤ 9223372036854775807) (hn : pc + 1 = n) (kk : ∀ z : Int, (b < a → z = 1) ∧ (a = b → z = 0) ∧ (a < b → z = -1) → G p l e R s m args below meth c n0 D cA nL Q cells slots M sz n L (gJ z :: st)) : G p l e R s m args below meth c n0 D cA nL Q cells slots M sz pc L (gV b :: gV a :: st) := by
  subst hn
  intro H locs ls hl hW hS
  refine W.lcmp X.1 X.2.1 hd ?_
  by_cases h1 : b < a
  · have h := (gl_lt hb ha).mpr h1
    rw [(show lg_cmp (Int64.ofInt a) (Int64.ofInt b) = 1 by simp [lg_cmp, h]).trans (by decide +kernel : (1 : Int32) = Int32.ofInt 1)]
    exact kk 1 ⟨fun _ => rfl, fun q => by omega, fun q => by omega⟩ H locs ls hl hW hS
  · by_cases h2 : a = b
    · subst h2
      rw [(show lg_cmp (Int64.ofInt a) (Int64.ofInt a) = 0 by simp [lg_cmp]).trans (by decide +kernel : (0 : Int32) = Int32.ofInt 0)]
      exact kk 0 ⟨fun q => by omega, fun _ => rfl, fun q => by omega⟩ H locs ls hl hW hS
    · have h3 : ¬ Int64.ofInt b < Int64.ofInt a := fun q => h1 ((gl_lt hb ha).mp q)
      have h4 : ¬ Int64.ofInt a = Int64.ofInt b := fun q => h2 ((gl_eq ha hb).mp q)
      rw [(show lg_cmp (Int64.ofInt a) (Int64.ofInt b) = -1 by simp [lg_cmp, h3, h4]).trans (by decide +kernel : (-1 : Int32) = Int32.ofInt (-1))]
      exact kk (-1) ⟨fun q => by omega, fun q => by omega, fun q => rfl⟩ H locs ls hl hW hS
theorem g_getsWA (X : gCx p s m args meth c n0 D cA own cc nL) {index : Nat} {ref host : String} (hl : (own, index, ref, "WITHOUT_ACTS", "[I", host) ∈ gNestF) (href : ref = "ParishUnion") (hd : decode cc pc = .ok (.getstatic index, 3)) (hn : pc + 3 = n) (kk : ∀ b : Nat, b < n0 ∧ va_X b 10 gWA s s.heap → G p l e R s m args below meth c n0 D cA nL Q cells slots M sz n L (.ref b :: st)) : G p l e R s m args below meth c n0 D cA nL Q cells slots M sz pc L st := by
  subst hn; subst href
  intro H locs ls hl' hW hS
  obtain ⟨k0, b1, b2, k1, k2, k3, k4, k5, k6⟩ := X.2.2.2.2.2.2.2
  exact va_getsN X.1 X.2.1 k5 hS X.2.2.2.1 (va_Nw.use rfl (X.2.2.2.2.2.2.1.2.2.1 _ hl)) (fun x hx => hx) hd (kk b2 ⟨k2, k6⟩ H locs ls hl' hW hS)
theorem g_getsKA (X : gCx p s m args meth c n0 D cA own cc nL) {index : Nat} {ref host : String} (hl : (own, index, ref, "KIND_ABOVE", "[I", host) ∈ gNestF) (href : ref = "ParishUnion") (hd : decode cc pc = .ok (.getstatic index, 3)) (hn : pc + 3 = n) (kk : ∀ b : Nat, b < n0 ∧ va_X b 5 gKA s s.heap → G p l e R s m args below meth c n0 D cA nL Q cells slots M sz n L (.ref b :: st)) : G p l e R s m args below meth c n0 D cA nL Q cells slots M sz pc L st := by
  subst hn; subst href
  intro H locs ls hl' hW hS
  obtain ⟨k0, b1, b2, k1, k2, k3, k4, k5, k6⟩ := X.2.2.2.2.2.2.2
  exact va_getsN X.1 X.2.1 k3 hS X.2.2.2.1 (va_Nw.use rfl (X.2.2.2.2.2.2.1.2.2.1 _ hl)) (fun x hx => hx) hd (kk b1 ⟨k1, k4⟩ H locs ls hl' hW hS)
theorem g_oldld (X : gCx p s m args meth c n0 D cA own cc nL) {b N : Nat} {f : Nat → Int32} {i z : Int} (hb : b < n0 ∧ va_X b N f s s.heap) (hi0 : 0 ≤ i) (hi1 : i < (N : Int)) (hN : (N : Int) ≤ 2147483647) (hd : decode cc pc = .ok (.iaload, 1)) (hn : pc + 1 = n) (hv : f i.toNat = Int32.ofInt z) (kk : G p l e R s m args below meth c n0 D cA nL Q cells slots M sz n L (gJ z :: st)) : G p l e R s m args below meth c n0 D cA nL Q cells slots M sz pc L (gJ i :: .ref b :: st) := by
  subst hn
  intro H locs ls hl hW hS
  have hbl : b < s.heap.size := Nat.lt_of_lt_of_le hb.1 X.2.2.2.2.2.2.2.1
  refine va_sld X.1 X.2.1 hb.2 hbl (fun q => absurd q (by have := hb.1; omega)) hS (gi_in hi0 hi1 hN) hd ?_
  have hcl := gi_cl hi0 (by omega : i ≤ 2147483647)
  rw [show (Int32.ofInt i).toNatClampNeg = i.toNat by omega, hv]
  exact kk H locs ls hl hW hS
end GROWS
end
section
section GFIELDS
variable {p : Program} {l : Launch} {e : Env} {R : Room} {s : State} {m : MethodId} {args : Array Value} {below : List Frame} {meth : Method} {c : Code} {n0 : Nat} {D : va_G} {cA : Nat → ClassId} {nL : Nat} {Q : State → Prop} {cells slots : Nat} {M : gM} {sz pc n : Nat} {L : List (Nat × Value)} {st : List Value} {own : String} {cc : ByteArray}
theorem g_rfv (n0 : Nat) (ty : FieldType) (h : (match ty with | .object _ => true | .array _ => true | _ => false) = true) {z : Int} (ht : 0 ≤ z) : gfv n0 ty (z + 1) = gA n0 z := by
  have h1 : gRf n0 (z + 1) = some (n0 + z.toNat) := by simp only [gRf]; rw [if_neg (by omega)]; congr 2; omega
  cases ty <;> first | (show va_rf (gRf n0 (z + 1)) = _; rw [h1]; rfl) | exact absurd h (by decide)
theorem gg_0_0 (X : gCx p s m args meth c n0 D cA own cc nL) {index : Nat} {o z : Int} (h0 : 0 ≤ o) (h1 : o < (sz : Int)) (hlay : glay o = (0, 0)) (hw : Cond.fieldLink own index "ParishUnion$Act" "text" "[B" ∈ gT) (hd : decode cc pc = .ok (.getfield index, 3)) (hn : pc + 3 = n) (hz : M o 0 = z + 1) (ht : 0 ≤ z) (kk : G p l e R s m args below meth c n0 D cA nL Q cells slots M sz n L (gA n0 z :: st)) : G p l e R s m args below meth c n0 D cA nL Q cells slots M sz pc L (gA n0 o :: st) := g_get X 0 iX0 rfl rfl (by decide) h0 h1 hlay hw rfl hd hn (by rw [show M o ((0 : Nat) : Int) = z + 1 from hz]; exact g_rfv n0 _ rfl ht) kk
theorem gp_0_0 (X : gCx p s m args meth c n0 D cA own cc nL) {index : Nat} {o z : Int} (h0 : 0 ≤ o) (h1 : o < (sz : Int)) (hlay : glay o = (0, 0)) (hw : Cond.fieldLink own index "ParishUnion$Act" "text" "[B" ∈ gT) (ht : 0 ≤ z) (hm : meth.name = "<init>") (ho : RX0 = own) (hd : decode cc pc = .ok (.putfield index, 3)) (hn : pc + 3 = n) (kk : G p l e R s m args below meth c n0 D cA nL Q cells slots (gset M o 0 (z + 1)) sz n L st) : G p l e R s m args below meth c n0 D cA nL Q cells slots M sz pc L (gA n0 z :: gA n0 o :: st) := g_put X (z := z + 1) 0 iX0 tyX0 tyX0_ok nmX0 rfl rfl (by decide) h0 h1 hlay hw rfl (Or.inr ⟨rfl, hm, ho⟩) (g_rfv n0 _ rfl ht) rfl rfl hd hn kk
theorem gg_0_1 (X : gCx p s m args meth c n0 D cA own cc nL) {index : Nat} {o z : Int} (h0 : 0 ≤ o) (h1 : o < (sz : Int)) (hlay : glay o = (0, 0)) (hw : Cond.fieldLink own index "ParishUnion$Act" "says" "[I" ∈ gT) (hd : decode cc pc = .ok (.getfield index, 3)) (hn : pc + 3 = n) (hz : M o 1 = z + 1) (ht : 0 ≤ z) (kk : G p l e R s m args below meth c n0 D cA nL Q cells slots M sz n L (gA n0 z :: st)) : G p l e R s m args below meth c n0 D cA nL Q cells slots M sz pc L (gA n0 o :: st) := g_get X 1 iX0 rfl rfl (by decide) h0 h1 hlay hw rfl hd hn (by rw [show M o ((1 : Nat) : Int) = z + 1 from hz]; exact g_rfv n0 _ rfl ht) kk
theorem gp_0_1 (X : gCx p s m args meth c n0 D cA own cc nL) {index : Nat} {o z : Int} (h0 : 0 ≤ o) (h1 : o < (sz : Int)) (hlay : glay o = (0, 0)) (hw : Cond.fieldLink own index "ParishUnion$Act" "says" "[I" ∈ gT) (ht : 0 ≤ z) (hm : meth.name = "<init>") (ho : RX0 = own) (hd : decode cc pc = .ok (.putfield index, 3)) (hn : pc + 3 = n) (kk : G p l e R s m args below meth c n0 D cA nL Q cells slots (gset M o 1 (z + 1)) sz n L st) : G p l e R s m args below meth c n0 D cA nL Q cells slots M sz pc L (gA n0 z :: gA n0 o :: st) := g_put X (z := z + 1) 1 iX0 tyX0 tyX0_ok nmX0 rfl rfl (by decide) h0 h1 hlay hw rfl (Or.inr ⟨rfl, hm, ho⟩) (g_rfv n0 _ rfl ht) rfl rfl hd hn kk
theorem gg_0_2 (X : gCx p s m args meth c n0 D cA own cc nL) {index : Nat} {o z : Int} (h0 : 0 ≤ o) (h1 : o < (sz : Int)) (hlay : glay o = (0, 0)) (hw : Cond.fieldLink own index "ParishUnion$Act" "word" "[I" ∈ gT) (hd : decode cc pc = .ok (.getfield index, 3)) (hn : pc + 3 = n) (hz : M o 2 = z + 1) (ht : 0 ≤ z) (kk : G p l e R s m args below meth c n0 D cA nL Q cells slots M sz n L (gA n0 z :: st)) : G p l e R s m args below meth c n0 D cA nL Q cells slots M sz pc L (gA n0 o :: st) := g_get X 2 iX0 rfl rfl (by decide) h0 h1 hlay hw rfl hd hn (by rw [show M o ((2 : Nat) : Int) = z + 1 from hz]; exact g_rfv n0 _ rfl ht) kk
theorem gp_0_2 (X : gCx p s m args meth c n0 D cA own cc nL) {index : Nat} {o z : Int} (h0 : 0 ≤ o) (h1 : o < (sz : Int)) (hlay : glay o = (0, 0)) (hw : Cond.fieldLink own index "ParishUnion$Act" "word" "[I" ∈ gT) (ht : 0 ≤ z) (hm : meth.name = "<init>") (ho : RX0 = own) (hd : decode cc pc = .ok (.putfield index, 3)) (hn : pc + 3 = n) (kk : G p l e R s m args below meth c n0 D cA nL Q cells slots (gset M o 2 (z + 1)) sz n L st) : G p l e R s m args below meth c n0 D cA nL Q cells slots M sz pc L (gA n0 z :: gA n0 o :: st) := g_put X (z := z + 1) 2 iX0 tyX0 tyX0_ok nmX0 rfl rfl (by decide) h0 h1 hlay hw rfl (Or.inr ⟨rfl, hm, ho⟩) (g_rfv n0 _ rfl ht) rfl rfl hd hn kk
theorem gg_0_3 (X : gCx p s m args meth c n0 D cA own cc nL) {index : Nat} {o z : Int} (h0 : 0 ≤ o) (h1 : o < (sz : Int)) (hlay : glay o = (0, 0)) (hw : Cond.fieldLink own index "ParishUnion$Act" "n" "[I" ∈ gT) (hd : decode cc pc = .ok (.getfield index, 3)) (hn : pc + 3 = n) (hz : M o 3 = z + 1) (ht : 0 ≤ z) (kk : G p l e R s m args below meth c n0 D cA nL Q cells slots M sz n L (gA n0 z :: st)) : G p l e R s m args below meth c n0 D cA nL Q cells slots M sz pc L (gA n0 o :: st) := g_get X 3 iX0 rfl rfl (by decide) h0 h1 hlay hw rfl hd hn (by rw [show M o ((3 : Nat) : Int) = z + 1 from hz]; exact g_rfv n0 _ rfl ht) kk
theorem gp_0_3 (X : gCx p s m args meth c n0 D cA own cc nL) {index : Nat} {o z : Int} (h0 : 0 ≤ o) (h1 : o < (sz : Int)) (hlay : glay o = (0, 0)) (hw : Cond.fieldLink own index "ParishUnion$Act" "n" "[I" ∈ gT) (ht : 0 ≤ z) (hm : meth.name = "<init>") (ho : RX0 = own) (hd : decode cc pc = .ok (.putfield index, 3)) (hn : pc + 3 = n) (kk : G p l e R s m args below meth c n0 D cA nL Q cells slots (gset M o 3 (z + 1)) sz n L st) : G p l e R s m args below meth c n0 D cA nL Q cells slots M sz pc L (gA n0 z :: gA n0 o :: st) := g_put X (z := z + 1) 3 iX0 tyX0 tyX0_ok nmX0 rfl rfl (by decide) h0 h1 hlay hw rfl (Or.inr ⟨rfl, hm, ho⟩) (g_rfv n0 _ rfl ht) rfl rfl hd hn kk
theorem gg_0_4 (X : gCx p s m args meth c n0 D cA own cc nL) {index : Nat} {o z : Int} (h0 : 0 ≤ o) (h1 : o < (sz : Int)) (hlay : glay o = (0, 0)) (hw : Cond.fieldLink own index "ParishUnion$Act" "place" "[I" ∈ gT) (hd : decode cc pc = .ok (.getfield index, 3)) (hn : pc + 3 = n) (hz : M o 4 = z + 1) (ht : 0 ≤ z) (kk : G p l e R s m args below meth c n0 D cA nL Q cells slots M sz n L (gA n0 z :: st)) : G p l e R s m args below meth c n0 D cA nL Q cells slots M sz pc L (gA n0 o :: st) := g_get X 4 iX0 rfl rfl (by decide) h0 h1 hlay hw rfl hd hn (by rw [show M o ((4 : Nat) : Int) = z + 1 from hz]; exact g_rfv n0 _ rfl ht) kk
theorem gp_0_4 (X : gCx p s m args meth c n0 D cA own cc nL) {index : Nat} {o z : Int} (h0 : 0 ≤ o) (h1 : o < (sz : Int)) (hlay : glay o = (0, 0)) (hw : Cond.fieldLink own index "ParishUnion$Act" "place" "[I" ∈ gT) (ht : 0 ≤ z) (hm : meth.name = "<init>") (ho : RX0 = own) (hd : decode cc pc = .ok (.putfield index, 3)) (hn : pc + 3 = n) (kk : G p l e R s m args below meth c n0 D cA nL Q cells slots (gset M o 4 (z + 1)) sz n L st) : G p l e R s m args below meth c n0 D cA nL Q cells slots M sz pc L (gA n0 z :: gA n0 o :: st) := g_put X (z := z + 1) 4 iX0 tyX0 tyX0_ok nmX0 rfl rfl (by decide) h0 h1 hlay hw rfl (Or.inr ⟨rfl, hm, ho⟩) (g_rfv n0 _ rfl ht) rfl rfl hd hn kk
theorem gg_0_5 (X : gCx p s m args meth c n0 D cA own cc nL) {index : Nat} {o z : Int} (h0 : 0 ≤ o) (h1 : o < (sz : Int)) (hlay : glay o = (0, 0)) (hw : Cond.fieldLink own index "ParishUnion$Act" "size" "I" ∈ gT) (hd : decode cc pc = .ok (.getfield index, 3)) (hn : pc + 3 = n) (hz : M o 5 = z) (kk : G p l e R s m args below meth c n0 D cA nL Q cells slots M sz n L (gJ z :: st)) : G p l e R s m args below meth c n0 D cA nL Q cells slots M sz pc L (gA n0 o :: st) := g_get X 5 iX0 rfl rfl (by decide) h0 h1 hlay hw rfl hd hn (by rw [show M o ((5 : Nat) : Int) = z from hz]; rfl) kk
theorem gp_0_5 (X : gCx p s m args meth c n0 D cA own cc nL) {index : Nat} {o z : Int} (h0 : 0 ≤ o) (h1 : o < (sz : Int)) (hlay : glay o = (0, 0)) (hw : Cond.fieldLink own index "ParishUnion$Act" "size" "I" ∈ gT) (hd : decode cc pc = .ok (.putfield index, 3)) (hn : pc + 3 = n) (kk : G p l e R s m args below meth c n0 D cA nL Q cells slots (gset M o 5 z) sz n L st) : G p l e R s m args below meth c n0 D cA nL Q cells slots M sz pc L (gJ z :: gA n0 o :: st) := g_put X (z := z) 5 iX0 tyX0 tyX0_ok nmX0 rfl rfl (by decide) h0 h1 hlay hw rfl (Or.inl rfl) rfl rfl rfl hd hn kk
theorem gg_0_6 (X : gCx p s m args meth c n0 D cA own cc nL) {index : Nat} {o z : Int} (h0 : 0 ≤ o) (h1 : o < (sz : Int)) (hlay : glay o = (0, 0)) (hw : Cond.fieldLink own index "ParishUnion$Act" "week" "I" ∈ gT) (hd : decode cc pc = .ok (.getfield index, 3)) (hn : pc + 3 = n) (hz : M o 6 = z) (kk : G p l e R s m args below meth c n0 D cA nL Q cells slots M sz n L (gJ z :: st)) : G p l e R s m args below meth c n0 D cA nL Q cells slots M sz pc L (gA n0 o :: st) := g_get X 6 iX0 rfl rfl (by decide) h0 h1 hlay hw rfl hd hn (by rw [show M o ((6 : Nat) : Int) = z from hz]; rfl) kk
theorem gp_0_6 (X : gCx p s m args meth c n0 D cA own cc nL) {index : Nat} {o z : Int} (h0 : 0 ≤ o) (h1 : o < (sz : Int)) (hlay : glay o = (0, 0)) (hw : Cond.fieldLink own index "ParishUnion$Act" "week" "I" ∈ gT) (hd : decode cc pc = .ok (.putfield index, 3)) (hn : pc + 3 = n) (kk : G p l e R s m args below meth c n0 D cA nL Q cells slots (gset M o 6 z) sz n L st) : G p l e R s m args below meth c n0 D cA nL Q cells slots M sz pc L (gJ z :: gA n0 o :: st) := g_put X (z := z) 6 iX0 tyX0 tyX0_ok nmX0 rfl rfl (by decide) h0 h1 hlay hw rfl (Or.inl rfl) rfl rfl rfl hd hn kk
theorem gg_0_7 (X : gCx p s m args meth c n0 D cA own cc nL) {index : Nat} {o z : Int} (h0 : 0 ≤ o) (h1 : o < (sz : Int)) (hlay : glay o = (0, 0)) (hw : Cond.fieldLink own index "ParishUnion$Act" "clauses" "I" ∈ gT) (hd : decode cc pc = .ok (.getfield index, 3)) (hn : pc + 3 = n) (hz : M o 7 = z) (kk : G p l e R s m args below meth c n0 D cA nL Q cells slots M sz n L (gJ z :: st)) : G p l e R s m args below meth c n0 D cA nL Q cells slots M sz pc L (gA n0 o :: st) := g_get X 7 iX0 rfl rfl (by decide) h0 h1 hlay hw rfl hd hn (by rw [show M o ((7 : Nat) : Int) = z from hz]; rfl) kk
theorem gp_0_7 (X : gCx p s m args meth c n0 D cA own cc nL) {index : Nat} {o z : Int} (h0 : 0 ≤ o) (h1 : o < (sz : Int)) (hlay : glay o = (0, 0)) (hw : Cond.fieldLink own index "ParishUnion$Act" "clauses" "I" ∈ gT) (hd : decode cc pc = .ok (.putfield index, 3)) (hn : pc + 3 = n) (kk : G p l e R s m args below meth c n0 D cA nL Q cells slots (gset M o 7 z) sz n L st) : G p l e R s m args below meth c n0 D cA nL Q cells slots M sz pc L (gJ z :: gA n0 o :: st) := g_put X (z := z) 7 iX0 tyX0 tyX0_ok nmX0 rfl rfl (by decide) h0 h1 hlay hw rfl (Or.inl rfl) rfl rfl rfl hd hn kk
theorem gg_1_0 (X : gCx p s m args meth c n0 D cA own cc nL) {index : Nat} {o z : Int} (h0 : 0 ≤ o) (h1 : o < (sz : Int)) (hlay : glay o = (0, 1)) (hw : Cond.fieldLink own index "ParishUnion$Bench" "held" "[I" ∈ gT) (hd : decode cc pc = .ok (.getfield index, 3)) (hn : pc + 3 = n) (hz : M o 0 = z + 1) (ht : 0 ≤ z) (kk : G p l e R s m args below meth c n0 D cA nL Q cells slots M sz n L (gA n0 z :: st)) : G p l e R s m args below meth c n0 D cA nL Q cells slots M sz pc L (gA n0 o :: st) := g_get X 0 iX1 rfl rfl (by decide) h0 h1 hlay hw rfl hd hn (by rw [show M o ((0 : Nat) : Int) = z + 1 from hz]; exact g_rfv n0 _ rfl ht) kk
theorem gp_1_0 (X : gCx p s m args meth c n0 D cA own cc nL) {index : Nat} {o z : Int} (h0 : 0 ≤ o) (h1 : o < (sz : Int)) (hlay : glay o = (0, 1)) (hw : Cond.fieldLink own index "ParishUnion$Bench" "held" "[I" ∈ gT) (ht : 0 ≤ z) (hm : meth.name = "<init>") (ho : RX1 = own) (hd : decode cc pc = .ok (.putfield index, 3)) (hn : pc + 3 = n) (kk : G p l e R s m args below meth c n0 D cA nL Q cells slots (gset M o 0 (z + 1)) sz n L st) : G p l e R s m args below meth c n0 D cA nL Q cells slots M sz pc L (gA n0 z :: gA n0 o :: st) := g_put X (z := z + 1) 0 iX1 tyX1 tyX1_ok nmX1 rfl rfl (by decide) h0 h1 hlay hw rfl (Or.inr ⟨rfl, hm, ho⟩) (g_rfv n0 _ rfl ht) rfl rfl hd hn kk
theorem gg_1_1 (X : gCx p s m args meth c n0 D cA own cc nL) {index : Nat} {o z : Int} (h0 : 0 ≤ o) (h1 : o < (sz : Int)) (hlay : glay o = (0, 1)) (hw : Cond.fieldLink own index "ParishUnion$Bench" "lawful" "[Z" ∈ gT) (hd : decode cc pc = .ok (.getfield index, 3)) (hn : pc + 3 = n) (hz : M o 1 = z + 1) (ht : 0 ≤ z) (kk : G p l e R s m args below meth c n0 D cA nL Q cells slots M sz n L (gA n0 z :: st)) : G p l e R s m args below meth c n0 D cA nL Q cells slots M sz pc L (gA n0 o :: st) := g_get X 1 iX1 rfl rfl (by decide) h0 h1 hlay hw rfl hd hn (by rw [show M o ((1 : Nat) : Int) = z + 1 from hz]; exact g_rfv n0 _ rfl ht) kk
theorem gp_1_1 (X : gCx p s m args meth c n0 D cA own cc nL) {index : Nat} {o z : Int} (h0 : 0 ≤ o) (h1 : o < (sz : Int)) (hlay : glay o = (0, 1)) (hw : Cond.fieldLink own index "ParishUnion$Bench" "lawful" "[Z" ∈ gT) (ht : 0 ≤ z) (hm : meth.name = "<init>") (ho : RX1 = own) (hd : decode cc pc = .ok (.putfield index, 3)) (hn : pc + 3 = n) (kk : G p l e R s m args below meth c n0 D cA nL Q cells slots (gset M o 1 (z + 1)) sz n L st) : G p l e R s m args below meth c n0 D cA nL Q cells slots M sz pc L (gA n0 z :: gA n0 o :: st) := g_put X (z := z + 1) 1 iX1 tyX1 tyX1_ok nmX1 rfl rfl (by decide) h0 h1 hlay hw rfl (Or.inr ⟨rfl, hm, ho⟩) (g_rfv n0 _ rfl ht) rfl rfl hd hn kk
theorem gg_1_2 (X : gCx p s m args meth c n0 D cA own cc nL) {index : Nat} {o z : Int} (h0 : 0 ≤ o) (h1 : o < (sz : Int)) (hlay : glay o = (0, 1)) (hw : Cond.fieldLink own index "ParishUnion$Bench" "doubted" "[I" ∈ gT) (hd : decode cc pc = .ok (.getfield index, 3)) (hn : pc + 3 = n) (hz : M o 2 = z + 1) (ht : 0 ≤ z) (kk : G p l e R s m args below meth c n0 D cA nL Q cells slots M sz n L (gA n0 z :: st)) : G p l e R s m args below meth c n0 D cA nL Q cells slots M sz pc L (gA n0 o :: st) := g_get X 2 iX1 rfl rfl (by decide) h0 h1 hlay hw rfl hd hn (by rw [show M o ((2 : Nat) : Int) = z + 1 from hz]; exact g_rfv n0 _ rfl ht) kk
theorem gp_1_2 (X : gCx p s m args meth c n0 D cA own cc nL) {index : Nat} {o z : Int} (h0 : 0 ≤ o) (h1 : o < (sz : Int)) (hlay : glay o = (0, 1)) (hw : Cond.fieldLink own index "ParishUnion$Bench" "doubted" "[I" ∈ gT) (ht : 0 ≤ z) (hm : meth.name = "<init>") (ho : RX1 = own) (hd : decode cc pc = .ok (.putfield index, 3)) (hn : pc + 3 = n) (kk : G p l e R s m args below meth c n0 D cA nL Q cells slots (gset M o 2 (z + 1)) sz n L st) : G p l e R s m args below meth c n0 D cA nL Q cells slots M sz pc L (gA n0 z :: gA n0 o :: st) := g_put X (z := z + 1) 2 iX1 tyX1 tyX1_ok nmX1 rfl rfl (by decide) h0 h1 hlay hw rfl (Or.inr ⟨rfl, hm, ho⟩) (g_rfv n0 _ rfl ht) rfl rfl hd hn kk
theorem gg_1_3 (X : gCx p s m args meth c n0 D cA own cc nL) {index : Nat} {o z : Int} (h0 : 0 ≤ o) (h1 : o < (sz : Int)) (hlay : glay o = (0, 1)) (hw : Cond.fieldLink own index "ParishUnion$Bench" "maybeIfSo" "[I" ∈ gT) (hd : decode cc pc = .ok (.getfield index, 3)) (hn : pc + 3 = n) (hz : M o 3 = z + 1) (ht : 0 ≤ z) (kk : G p l e R s m args below meth c n0 D cA nL Q cells slots M sz n L (gA n0 z :: st)) : G p l e R s m args below meth c n0 D cA nL Q cells slots M sz pc L (gA n0 o :: st) := g_get X 3 iX1 rfl rfl (by decide) h0 h1 hlay hw rfl hd hn (by rw [show M o ((3 : Nat) : Int) = z + 1 from hz]; exact g_rfv n0 _ rfl ht) kk
theorem gp_1_3 (X : gCx p s m args meth c n0 D cA own cc nL) {index : Nat} {o z : Int} (h0 : 0 ≤ o) (h1 : o < (sz : Int)) (hlay : glay o = (0, 1)) (hw : Cond.fieldLink own index "ParishUnion$Bench" "maybeIfSo" "[I" ∈ gT) (ht : 0 ≤ z) (hm : meth.name = "<init>") (ho : RX1 = own) (hd : decode cc pc = .ok (.putfield index, 3)) (hn : pc + 3 = n) (kk : G p l e R s m args below meth c n0 D cA nL Q cells slots (gset M o 3 (z + 1)) sz n L st) : G p l e R s m args below meth c n0 D cA nL Q cells slots M sz pc L (gA n0 z :: gA n0 o :: st) := g_put X (z := z + 1) 3 iX1 tyX1 tyX1_ok nmX1 rfl rfl (by decide) h0 h1 hlay hw rfl (Or.inr ⟨rfl, hm, ho⟩) (g_rfv n0 _ rfl ht) rfl rfl hd hn kk
theorem gg_1_4 (X : gCx p s m args meth c n0 D cA own cc nL) {index : Nat} {o z : Int} (h0 : 0 ≤ o) (h1 : o < (sz : Int)) (hlay : glay o = (0, 1)) (hw : Cond.fieldLink own index "ParishUnion$Bench" "maybeIfNot" "[I" ∈ gT) (hd : decode cc pc = .ok (.getfield index, 3)) (hn : pc + 3 = n) (hz : M o 4 = z + 1) (ht : 0 ≤ z) (kk : G p l e R s m args below meth c n0 D cA nL Q cells slots M sz n L (gA n0 z :: st)) : G p l e R s m args below meth c n0 D cA nL Q cells slots M sz pc L (gA n0 o :: st) := g_get X 4 iX1 rfl rfl (by decide) h0 h1 hlay hw rfl hd hn (by rw [show M o ((4 : Nat) : Int) = z + 1 from hz]; exact g_rfv n0 _ rfl ht) kk
theorem gp_1_4 (X : gCx p s m args meth c n0 D cA own cc nL) {index : Nat} {o z : Int} (h0 : 0 ≤ o) (h1 : o < (sz : Int)) (hlay : glay o = (0, 1)) (hw : Cond.fieldLink own index "ParishUnion$Bench" "maybeIfNot" "[I" ∈ gT) (ht : 0 ≤ z) (hm : meth.name = "<init>") (ho : RX1 = own) (hd : decode cc pc = .ok (.putfield index, 3)) (hn : pc + 3 = n) (kk : G p l e R s m args below meth c n0 D cA nL Q cells slots (gset M o 4 (z + 1)) sz n L st) : G p l e R s m args below meth c n0 D cA nL Q cells slots M sz pc L (gA n0 z :: gA n0 o :: st) := g_put X (z := z + 1) 4 iX1 tyX1 tyX1_ok nmX1 rfl rfl (by decide) h0 h1 hlay hw rfl (Or.inr ⟨rfl, hm, ho⟩) (g_rfv n0 _ rfl ht) rfl rfl hd hn kk
theorem gg_1_5 (X : gCx p s m args meth c n0 D cA own cc nL) {index : Nat} {o z : Int} (h0 : 0 ≤ o) (h1 : o < (sz : Int)) (hlay : glay o = (0, 1)) (hw : Cond.fieldLink own index "ParishUnion$Bench" "doubtedCount" "I" ∈ gT) (hd : decode cc pc = .ok (.getfield index, 3)) (hn : pc + 3 = n) (hz : M o 5 = z) (kk : G p l e R s m args below meth c n0 D cA nL Q cells slots M sz n L (gJ z :: st)) : G p l e R s m args below meth c n0 D cA nL Q cells slots M sz pc L (gA n0 o :: st) := g_get X 5 iX1 rfl rfl (by decide) h0 h1 hlay hw rfl hd hn (by rw [show M o ((5 : Nat) : Int) = z from hz]; rfl) kk
theorem gp_1_5 (X : gCx p s m args meth c n0 D cA own cc nL) {index : Nat} {o z : Int} (h0 : 0 ≤ o) (h1 : o < (sz : Int)) (hlay : glay o = (0, 1)) (hw : Cond.fieldLink own index "ParishUnion$Bench" "doubtedCount" "I" ∈ gT) (hd : decode cc pc = .ok (.putfield index, 3)) (hn : pc + 3 = n) (kk : G p l e R s m args below meth c n0 D cA nL Q cells slots (gset M o 5 z) sz n L st) : G p l e R s m args below meth c n0 D cA nL Q cells slots M sz pc L (gJ z :: gA n0 o :: st) := g_put X (z := z) 5 iX1 tyX1 tyX1_ok nmX1 rfl rfl (by decide) h0 h1 hlay hw rfl (Or.inl rfl) rfl rfl rfl hd hn kk
theorem gg_1_6 (X : gCx p s m args meth c n0 D cA own cc nL) {index : Nat} {o z : Int} (h0 : 0 ≤ o) (h1 : o < (sz : Int)) (hlay : glay o = (0, 1)) (hw : Cond.fieldLink own index "ParishUnion$Bench" "kin" "Z" ∈ gT) (hd : decode cc pc = .ok (.getfield index, 3)) (hn : pc + 3 = n) (hz : M o 6 = z) (kk : G p l e R s m args below meth c n0 D cA nL Q cells slots M sz n L (gJ z :: st)) : G p l e R s m args below meth c n0 D cA nL Q cells slots M sz pc L (gA n0 o :: st) := g_get X 6 iX1 rfl rfl (by decide) h0 h1 hlay hw rfl hd hn (by rw [show M o ((6 : Nat) : Int) = z from hz]; rfl) kk
theorem gp_1_6 (X : gCx p s m args meth c n0 D cA own cc nL) {index : Nat} {o z : Int} (h0 : 0 ≤ o) (h1 : o < (sz : Int)) (hlay : glay o = (0, 1)) (hw : Cond.fieldLink own index "ParishUnion$Bench" "kin" "Z" ∈ gT) (hb : z = 0 ∨ z = 1) (hd : decode cc pc = .ok (.putfield index, 3)) (hn : pc + 3 = n) (kk : G p l e R s m args below meth c n0 D cA nL Q cells slots (gset M o 6 z) sz n L st) : G p l e R s m args below meth c n0 D cA nL Q cells slots M sz pc L (gJ z :: gA n0 o :: st) := g_put X (z := z) 6 iX1 tyX1 tyX1_ok nmX1 rfl rfl (by decide) h0 h1 hlay hw rfl (Or.inl rfl) rfl (by rcases hb with rfl | rfl <;> decide +kernel) (by rcases hb with rfl | rfl <;> decide +kernel) hd hn kk
theorem gg_1_7 (X : gCx p s m args meth c n0 D cA own cc nL) {index : Nat} {o z : Int} (h0 : 0 ≤ o) (h1 : o < (sz : Int)) (hlay : glay o = (0, 1)) (hw : Cond.fieldLink own index "ParishUnion$Bench" "maybe" "I" ∈ gT) (hd : decode cc pc = .ok (.getfield index, 3)) (hn : pc + 3 = n) (hz : M o 7 = z) (kk : G p l e R s m args below meth c n0 D cA nL Q cells slots M sz n L (gJ z :: st)) : G p l e R s m args below meth c n0 D cA nL Q cells slots M sz pc L (gA n0 o :: st) := g_get X 7 iX1 rfl rfl (by decide) h0 h1 hlay hw rfl hd hn (by rw [show M o ((7 : Nat) : Int) = z from hz]; rfl) kk
theorem gp_1_7 (X : gCx p s m args meth c n0 D cA own cc nL) {index : Nat} {o z : Int} (h0 : 0 ≤ o) (h1 : o < (sz : Int)) (hlay : glay o = (0, 1)) (hw : Cond.fieldLink own index "ParishUnion$Bench" "maybe" "I" ∈ gT) (hd : decode cc pc = .ok (.putfield index, 3)) (hn : pc + 3 = n) (kk : G p l e R s m args below meth c n0 D cA nL Q cells slots (gset M o 7 z) sz n L st) : G p l e R s m args below meth c n0 D cA nL Q cells slots M sz pc L (gJ z :: gA n0 o :: st) := g_put X (z := z) 7 iX1 tyX1 tyX1_ok nmX1 rfl rfl (by decide) h0 h1 hlay hw rfl (Or.inl rfl) rfl rfl rfl hd hn kk
theorem gg_2_0 (X : gCx p s m args meth c n0 D cA own cc nL) {index : Nat} {o z : Int} (h0 : 0 ≤ o) (h1 : o < (sz : Int)) (hlay : glay o = (0, 2)) (hw : Cond.fieldLink own index "ParishUnion$House" "beds" "[I" ∈ gT) (hd : decode cc pc = .ok (.getfield index, 3)) (hn : pc + 3 = n) (hz : M o 0 = z + 1) (ht : 0 ≤ z) (kk : G p l e R s m args below meth c n0 D cA nL Q cells slots M sz n L (gA n0 z :: st)) : G p l e R s m args below meth c n0 D cA nL Q cells slots M sz pc L (gA n0 o :: st) := g_get X 0 iX2 rfl rfl (by decide) h0 h1 hlay hw rfl hd hn (by rw [show M o ((0 : Nat) : Int) = z + 1 from hz]; exact g_rfv n0 _ rfl ht) kk
theorem gp_2_0 (X : gCx p s m args meth c n0 D cA own cc nL) {index : Nat} {o z : Int} (h0 : 0 ≤ o) (h1 : o < (sz : Int)) (hlay : glay o = (0, 2)) (hw : Cond.fieldLink own index "ParishUnion$House" "beds" "[I" ∈ gT) (ht : 0 ≤ z) (hm : meth.name = "<init>") (ho : RX2 = own) (hd : decode cc pc = .ok (.putfield index, 3)) (hn : pc + 3 = n) (kk : G p l e R s m args below meth c n0 D cA nL Q cells slots (gset M o 0 (z + 1)) sz n L st) : G p l e R s m args below meth c n0 D cA nL Q cells slots M sz pc L (gA n0 z :: gA n0 o :: st) := g_put X (z := z + 1) 0 iX2 tyX2 tyX2_ok nmX2 rfl rfl (by decide) h0 h1 hlay hw rfl (Or.inr ⟨rfl, hm, ho⟩) (g_rfv n0 _ rfl ht) rfl rfl hd hn kk
theorem gg_2_1 (X : gCx p s m args meth c n0 D cA own cc nL) {index : Nat} {o z : Int} (h0 : 0 ≤ o) (h1 : o < (sz : Int)) (hlay : glay o = (0, 2)) (hw : Cond.fieldLink own index "ParishUnion$House" "frost" "[I" ∈ gT) (hd : decode cc pc = .ok (.getfield index, 3)) (hn : pc + 3 = n) (hz : M o 1 = z + 1) (ht : 0 ≤ z) (kk : G p l e R s m args below meth c n0 D cA nL Q cells slots M sz n L (gA n0 z :: st)) : G p l e R s m args below meth c n0 D cA nL Q cells slots M sz pc L (gA n0 o :: st) := g_get X 1 iX2 rfl rfl (by decide) h0 h1 hlay hw rfl hd hn (by rw [show M o ((1 : Nat) : Int) = z + 1 from hz]; exact g_rfv n0 _ rfl ht) kk
theorem gp_2_1 (X : gCx p s m args meth c n0 D cA own cc nL) {index : Nat} {o z : Int} (h0 : 0 ≤ o) (h1 : o < (sz : Int)) (hlay : glay o = (0, 2)) (hw : Cond.fieldLink own index "ParishUnion$House" "frost" "[I" ∈ gT) (ht : 0 ≤ z) (hm : meth.name = "<init>") (ho : RX2 = own) (hd : decode cc pc = .ok (.putfield index, 3)) (hn : pc + 3 = n) (kk : G p l e R s m args below meth c n0 D cA nL Q cells slots (gset M o 1 (z + 1)) sz n L st) : G p l e R s m args below meth c n0 D cA nL Q cells slots M sz pc L (gA n0 z :: gA n0 o :: st) := g_put X (z := z + 1) 1 iX2 tyX2 tyX2_ok nmX2 rfl rfl (by decide) h0 h1 hlay hw rfl (Or.inr ⟨rfl, hm, ho⟩) (g_rfv n0 _ rfl ht) rfl rfl hd hn kk
theorem gg_2_2 (X : gCx p s m args meth c n0 D cA own cc nL) {index : Nat} {o z : Int} (h0 : 0 ≤ o) (h1 : o < (sz : Int)) (hlay : glay o = (0, 2)) (hw : Cond.fieldLink own index "ParishUnion$House" "rowSize" "[I" ∈ gT) (hd : decode cc pc = .ok (.getfield index, 3)) (hn : pc + 3 = n) (hz : M o 2 = z + 1) (ht : 0 ≤ z) (kk : G p l e R s m args below meth c n0 D cA nL Q cells slots M sz n L (gA n0 z :: st)) : G p l e R s m args below meth c n0 D cA nL Q cells slots M sz pc L (gA n0 o :: st) := g_get X 2 iX2 rfl rfl (by decide) h0 h1 hlay hw rfl hd hn (by rw [show M o ((2 : Nat) : Int) = z + 1 from hz]; exact g_rfv n0 _ rfl ht) kk
theorem gp_2_2 (X : gCx p s m args meth c n0 D cA own cc nL) {index : Nat} {o z : Int} (h0 : 0 ≤ o) (h1 : o < (sz : Int)) (hlay : glay o = (0, 2)) (hw : Cond.fieldLink own index "ParishUnion$House" "rowSize" "[I" ∈ gT) (ht : 0 ≤ z) (hm : meth.name = "<init>") (ho : RX2 = own) (hd : decode cc pc = .ok (.putfield index, 3)) (hn : pc + 3 = n) (kk : G p l e R s m args below meth c n0 D cA nL Q cells slots (gset M o 2 (z + 1)) sz n L st) : G p l e R s m args below meth c n0 D cA nL Q cells slots M sz pc L (gA n0 z :: gA n0 o :: st) := g_put X (z := z + 1) 2 iX2 tyX2 tyX2_ok nmX2 rfl rfl (by decide) h0 h1 hlay hw rfl (Or.inr ⟨rfl, hm, ho⟩) (g_rfv n0 _ rfl ht) rfl rfl hd hn kk
theorem gg_2_3 (X : gCx p s m args meth c n0 D cA own cc nL) {index : Nat} {o z : Int} (h0 : 0 ≤ o) (h1 : o < (sz : Int)) (hlay : glay o = (0, 2)) (hw : Cond.fieldLink own index "ParishUnion$House" "rowFrost" "[I" ∈ gT) (hd : decode cc pc = .ok (.getfield index, 3)) (hn : pc + 3 = n) (hz : M o 3 = z + 1) (ht : 0 ≤ z) (kk : G p l e R s m args below meth c n0 D cA nL Q cells slots M sz n L (gA n0 z :: st)) : G p l e R s m args below meth c n0 D cA nL Q cells slots M sz pc L (gA n0 o :: st) := g_get X 3 iX2 rfl rfl (by decide) h0 h1 hlay hw rfl hd hn (by rw [show M o ((3 : Nat) : Int) = z + 1 from hz]; exact g_rfv n0 _ rfl ht) kk
theorem gp_2_3 (X : gCx p s m args meth c n0 D cA own cc nL) {index : Nat} {o z : Int} (h0 : 0 ≤ o) (h1 : o < (sz : Int)) (hlay : glay o = (0, 2)) (hw : Cond.fieldLink own index "ParishUnion$House" "rowFrost" "[I" ∈ gT) (ht : 0 ≤ z) (hm : meth.name = "<init>") (ho : RX2 = own) (hd : decode cc pc = .ok (.putfield index, 3)) (hn : pc + 3 = n) (kk : G p l e R s m args below meth c n0 D cA nL Q cells slots (gset M o 3 (z + 1)) sz n L st) : G p l e R s m args below meth c n0 D cA nL Q cells slots M sz pc L (gA n0 z :: gA n0 o :: st) := g_put X (z := z + 1) 3 iX2 tyX2 tyX2_ok nmX2 rfl rfl (by decide) h0 h1 hlay hw rfl (Or.inr ⟨rfl, hm, ho⟩) (g_rfv n0 _ rfl ht) rfl rfl hd hn kk
theorem gg_2_4 (X : gCx p s m args meth c n0 D cA own cc nL) {index : Nat} {o z : Int} (h0 : 0 ≤ o) (h1 : o < (sz : Int)) (hlay : glay o = (0, 2)) (hw : Cond.fieldLink own index "ParishUnion$House" "choiceFor" "[I" ∈ gT) (hd : decode cc pc = .ok (.getfield index, 3)) (hn : pc + 3 = n) (hz : M o 4 = z + 1) (ht : 0 ≤ z) (kk : G p l e R s m args below meth c n0 D cA nL Q cells slots M sz n L (gA n0 z :: st)) : G p l e R s m args below meth c n0 D cA nL Q cells slots M sz pc L (gA n0 o :: st) := g_get X 4 iX2 rfl rfl (by decide) h0 h1 hlay hw rfl hd hn (by rw [show M o ((4 : Nat) : Int) = z + 1 from hz]; exact g_rfv n0 _ rfl ht) kk
theorem gp_2_4 (X : gCx p s m args meth c n0 D cA own cc nL) {index : Nat} {o z : Int} (h0 : 0 ≤ o) (h1 : o < (sz : Int)) (hlay : glay o = (0, 2)) (hw : Cond.fieldLink own index "ParishUnion$House" "choiceFor" "[I" ∈ gT) (ht : 0 ≤ z) (hm : meth.name = "<init>") (ho : RX2 = own) (hd : decode cc pc = .ok (.putfield index, 3)) (hn : pc + 3 = n) (kk : G p l e R s m args below meth c n0 D cA nL Q cells slots (gset M o 4 (z + 1)) sz n L st) : G p l e R s m args below meth c n0 D cA nL Q cells slots M sz pc L (gA n0 z :: gA n0 o :: st) := g_put X (z := z + 1) 4 iX2 tyX2 tyX2_ok nmX2 rfl rfl (by decide) h0 h1 hlay hw rfl (Or.inr ⟨rfl, hm, ho⟩) (g_rfv n0 _ rfl ht) rfl rfl hd hn kk
theorem gg_2_5 (X : gCx p s m args meth c n0 D cA own cc nL) {index : Nat} {o z : Int} (h0 : 0 ≤ o) (h1 : o < (sz : Int)) (hlay : glay o = (0, 2)) (hw : Cond.fieldLink own index "ParishUnion$House" "choiceMore" "[I" ∈ gT) (hd : decode cc pc = .ok (.getfield index, 3)) (hn : pc + 3 = n) (hz : M o 5 = z + 1) (ht : 0 ≤ z) (kk : G p l e R s m args below meth c n0 D cA nL Q cells slots M sz n L (gA n0 z :: st)) : G p l e R s m args below meth c n0 D cA nL Q cells slots M sz pc L (gA n0 o :: st) := g_get X 5 iX2 rfl rfl (by decide) h0 h1 hlay hw rfl hd hn (by rw [show M o ((5 : Nat) : Int) = z + 1 from hz]; exact g_rfv n0 _ rfl ht) kk
theorem gp_2_5 (X : gCx p s m args meth c n0 D cA own cc nL) {index : Nat} {o z : Int} (h0 : 0 ≤ o) (h1 : o < (sz : Int)) (hlay : glay o = (0, 2)) (hw : Cond.fieldLink own index "ParishUnion$House" "choiceMore" "[I" ∈ gT) (ht : 0 ≤ z) (hm : meth.name = "<init>") (ho : RX2 = own) (hd : decode cc pc = .ok (.putfield index, 3)) (hn : pc + 3 = n) (kk : G p l e R s m args below meth c n0 D cA nL Q cells slots (gset M o 5 (z + 1)) sz n L st) : G p l e R s m args below meth c n0 D cA nL Q cells slots M sz pc L (gA n0 z :: gA n0 o :: st) := g_put X (z := z + 1) 5 iX2 tyX2 tyX2_ok nmX2 rfl rfl (by decide) h0 h1 hlay hw rfl (Or.inr ⟨rfl, hm, ho⟩) (g_rfv n0 _ rfl ht) rfl rfl hd hn kk
theorem gg_2_6 (X : gCx p s m args meth c n0 D cA own cc nL) {index : Nat} {o z : Int} (h0 : 0 ≤ o) (h1 : o < (sz : Int)) (hlay : glay o = (0, 2)) (hw : Cond.fieldLink own index "ParishUnion$House" "choiceCost" "[I" ∈ gT) (hd : decode cc pc = .ok (.getfield index, 3)) (hn : pc + 3 = n) (hz : M o 6 = z + 1) (ht : 0 ≤ z) (kk : G p l e R s m args below meth c n0 D cA nL Q cells slots M sz n L (gA n0 z :: st)) : G p l e R s m args below meth c n0 D cA nL Q cells slots M sz pc L (gA n0 o :: st) := g_get X 6 iX2 rfl rfl (by decide) h0 h1 hlay hw rfl hd hn (by rw [show M o ((6 : Nat) : Int) = z + 1 from hz]; exact g_rfv n0 _ rfl ht) kk
theorem gp_2_6 (X : gCx p s m args meth c n0 D cA own cc nL) {index : Nat} {o z : Int} (h0 : 0 ≤ o) (h1 : o < (sz : Int)) (hlay : glay o = (0, 2)) (hw : Cond.fieldLink own index "ParishUnion$House" "choiceCost" "[I" ∈ gT) (ht : 0 ≤ z) (hm : meth.name = "<init>") (ho : RX2 = own) (hd : decode cc pc = .ok (.putfield index, 3)) (hn : pc + 3 = n) (kk : G p l e R s m args below meth c n0 D cA nL Q cells slots (gset M o 6 (z + 1)) sz n L st) : G p l e R s m args below meth c n0 D cA nL Q cells slots M sz pc L (gA n0 z :: gA n0 o :: st) := g_put X (z := z + 1) 6 iX2 tyX2 tyX2_ok nmX2 rfl rfl (by decide) h0 h1 hlay hw rfl (Or.inr ⟨rfl, hm, ho⟩) (g_rfv n0 _ rfl ht) rfl rfl hd hn kk
theorem gg_2_7 (X : gCx p s m args meth c n0 D cA own cc nL) {index : Nat} {o z : Int} (h0 : 0 ≤ o) (h1 : o < (sz : Int)) (hlay : glay o = (0, 2)) (hw : Cond.fieldLink own index "ParishUnion$House" "choices" "I" ∈ gT) (hd : decode cc pc = .ok (.getfield index, 3)) (hn : pc + 3 = n) (hz : M o 7 = z) (kk : G p l e R s m args below meth c n0 D cA nL Q cells slots M sz n L (gJ z :: st)) : G p l e R s m args below meth c n0 D cA nL Q cells slots M sz pc L (gA n0 o :: st) := g_get X 7 iX2 rfl rfl (by decide) h0 h1 hlay hw rfl hd hn (by rw [show M o ((7 : Nat) : Int) = z from hz]; rfl) kk
theorem gp_2_7 (X : gCx p s m args meth c n0 D cA own cc nL) {index : Nat} {o z : Int} (h0 : 0 ≤ o) (h1 : o < (sz : Int)) (hlay : glay o = (0, 2)) (hw : Cond.fieldLink own index "ParishUnion$House" "choices" "I" ∈ gT) (hd : decode cc pc = .ok (.putfield index, 3)) (hn : pc + 3 = n) (kk : G p l e R s m args below meth c n0 D cA nL Q cells slots (gset M o 7 z) sz n L st) : G p l e R s m args below meth c n0 D cA nL Q cells slots M sz pc L (gJ z :: gA n0 o :: st) := g_put X (z := z) 7 iX2 tyX2 tyX2_ok nmX2 rfl rfl (by decide) h0 h1 hlay hw rfl (Or.inl rfl) rfl rfl rfl hd hn kk
theorem gg_2_8 (X : gCx p s m args meth c n0 D cA own cc nL) {index : Nat} {o z : Int} (h0 : 0 ≤ o) (h1 : o < (sz : Int)) (hlay : glay o = (0, 2)) (hw : Cond.fieldLink own index "ParishUnion$House" "store" "I" ∈ gT) (hd : decode cc pc = .ok (.getfield index, 3)) (hn : pc + 3 = n) (hz : M o 8 = z) (kk : G p l e R s m args below meth c n0 D cA nL Q cells slots M sz n L (gJ z :: st)) : G p l e R s m args below meth c n0 D cA nL Q cells slots M sz pc L (gA n0 o :: st) := g_get X 8 iX2 rfl rfl (by decide) h0 h1 hlay hw rfl hd hn (by rw [show M o ((8 : Nat) : Int) = z from hz]; rfl) kk
theorem gp_2_8 (X : gCx p s m args meth c n0 D cA own cc nL) {index : Nat} {o z : Int} (h0 : 0 ≤ o) (h1 : o < (sz : Int)) (hlay : glay o = (0, 2)) (hw : Cond.fieldLink own index "ParishUnion$House" "store" "I" ∈ gT) (hd : decode cc pc = .ok (.putfield index, 3)) (hn : pc + 3 = n) (kk : G p l e R s m args below meth c n0 D cA nL Q cells slots (gset M o 8 z) sz n L st) : G p l e R s m args below meth c n0 D cA nL Q cells slots M sz pc L (gJ z :: gA n0 o :: st) := g_put X (z := z) 8 iX2 tyX2 tyX2_ok nmX2 rfl rfl (by decide) h0 h1 hlay hw rfl (Or.inl rfl) rfl rfl rfl hd hn kk
theorem gg_2_9 (X : gCx p s m args meth c n0 D cA own cc nL) {index : Nat} {o z : Int} (h0 : 0 ≤ o) (h1 : o < (sz : Int)) (hlay : glay o = (0, 2)) (hw : Cond.fieldLink own index "ParishUnion$House" "price" "I" ∈ gT) (hd : decode cc pc = .ok (.getfield index, 3)) (hn : pc + 3 = n) (hz : M o 9 = z) (kk : G p l e R s m args below meth c n0 D cA nL Q cells slots M sz n L (gJ z :: st)) : G p l e R s m args below meth c n0 D cA nL Q cells slots M sz pc L (gA n0 o :: st) := g_get X 9 iX2 rfl rfl (by decide) h0 h1 hlay hw rfl hd hn (by rw [show M o ((9 : Nat) : Int) = z from hz]; rfl) kk
theorem gp_2_9 (X : gCx p s m args meth c n0 D cA own cc nL) {index : Nat} {o z : Int} (h0 : 0 ≤ o) (h1 : o < (sz : Int)) (hlay : glay o = (0, 2)) (hw : Cond.fieldLink own index "ParishUnion$House" "price" "I" ∈ gT) (hd : decode cc pc = .ok (.putfield index, 3)) (hn : pc + 3 = n) (kk : G p l e R s m args below meth c n0 D cA nL Q cells slots (gset M o 9 z) sz n L st) : G p l e R s m args below meth c n0 D cA nL Q cells slots M sz pc L (gJ z :: gA n0 o :: st) := g_put X (z := z) 9 iX2 tyX2 tyX2_ok nmX2 rfl rfl (by decide) h0 h1 hlay hw rfl (Or.inl rfl) rfl rfl rfl hd hn kk
theorem gg_3_0 (X : gCx p s m args meth c n0 D cA own cc nL) {index : Nat} {o z : Int} (h0 : 0 ≤ o) (h1 : o < (sz : Int)) (hlay : glay o = (0, 3)) (hw : Cond.fieldLink own index "ParishUnion$Land" "rents" "[I" ∈ gT) (hd : decode cc pc = .ok (.getfield index, 3)) (hn : pc + 3 = n) (hz : M o 0 = z + 1) (ht : 0 ≤ z) (kk : G p l e R s m args below meth c n0 D cA nL Q cells slots M sz n L (gA n0 z :: st)) : G p l e R s m args below meth c n0 D cA nL Q cells slots M sz pc L (gA n0 o :: st) := g_get X 0 iX3 rfl rfl (by decide) h0 h1 hlay hw rfl hd hn (by rw [show M o ((0 : Nat) : Int) = z + 1 from hz]; exact g_rfv n0 _ rfl ht) kk
theorem gp_3_0 (X : gCx p s m args meth c n0 D cA own cc nL) {index : Nat} {o z : Int} (h0 : 0 ≤ o) (h1 : o < (sz : Int)) (hlay : glay o = (0, 3)) (hw : Cond.fieldLink own index "ParishUnion$Land" "rents" "[I" ∈ gT) (ht : 0 ≤ z) (hm : meth.name = "<init>") (ho : RX3 = own) (hd : decode cc pc = .ok (.putfield index, 3)) (hn : pc + 3 = n) (kk : G p l e R s m args below meth c n0 D cA nL Q cells slots (gset M o 0 (z + 1)) sz n L st) : G p l e R s m args below meth c n0 D cA nL Q cells slots M sz pc L (gA n0 z :: gA n0 o :: st) := g_put X (z := z + 1) 0 iX3 tyX3 tyX3_ok nmX3 rfl rfl (by decide) h0 h1 hlay hw rfl (Or.inr ⟨rfl, hm, ho⟩) (g_rfv n0 _ rfl ht) rfl rfl hd hn kk
theorem gg_3_1 (X : gCx p s m args meth c n0 D cA own cc nL) {index : Nat} {o z : Int} (h0 : 0 ≤ o) (h1 : o < (sz : Int)) (hlay : glay o = (0, 3)) (hw : Cond.fieldLink own index "ParishUnion$Land" "way" "[I" ∈ gT) (hd : decode cc pc = .ok (.getfield index, 3)) (hn : pc + 3 = n) (hz : M o 1 = z + 1) (ht : 0 ≤ z) (kk : G p l e R s m args below meth c n0 D cA nL Q cells slots M sz n L (gA n0 z :: st)) : G p l e R s m args below meth c n0 D cA nL Q cells slots M sz pc L (gA n0 o :: st) := g_get X 1 iX3 rfl rfl (by decide) h0 h1 hlay hw rfl hd hn (by rw [show M o ((1 : Nat) : Int) = z + 1 from hz]; exact g_rfv n0 _ rfl ht) kk
theorem gp_3_1 (X : gCx p s m args meth c n0 D cA own cc nL) {index : Nat} {o z : Int} (h0 : 0 ≤ o) (h1 : o < (sz : Int)) (hlay : glay o = (0, 3)) (hw : Cond.fieldLink own index "ParishUnion$Land" "way" "[I" ∈ gT) (ht : 0 ≤ z) (hm : meth.name = "<init>") (ho : RX3 = own) (hd : decode cc pc = .ok (.putfield index, 3)) (hn : pc + 3 = n) (kk : G p l e R s m args below meth c n0 D cA nL Q cells slots (gset M o 1 (z + 1)) sz n L st) : G p l e R s m args below meth c n0 D cA nL Q cells slots M sz pc L (gA n0 z :: gA n0 o :: st) := g_put X (z := z + 1) 1 iX3 tyX3 tyX3_ok nmX3 rfl rfl (by decide) h0 h1 hlay hw rfl (Or.inr ⟨rfl, hm, ho⟩) (g_rfv n0 _ rfl ht) rfl rfl hd hn kk
theorem gg_4_0 (X : gCx p s m args meth c n0 D cA own cc nL) {index : Nat} {o z : Int} (h0 : 0 ≤ o) (h1 : o < (sz : Int)) (hlay : glay o = (0, 4)) (hw : Cond.fieldLink own index "ParishUnion$Orders" "person" "[I" ∈ gT) (hd : decode cc pc = .ok (.getfield index, 3)) (hn : pc + 3 = n) (hz : M o 0 = z + 1) (ht : 0 ≤ z) (kk : G p l e R s m args below meth c n0 D cA nL Q cells slots M sz n L (gA n0 z :: st)) : G p l e R s m args below meth c n0 D cA nL Q cells slots M sz pc L (gA n0 o :: st) := g_get X 0 iX4 rfl rfl (by decide) h0 h1 hlay hw rfl hd hn (by rw [show M o ((0 : Nat) : Int) = z + 1 from hz]; exact g_rfv n0 _ rfl ht) kk
theorem gp_4_0 (X : gCx p s m args meth c n0 D cA own cc nL) {index : Nat} {o z : Int} (h0 : 0 ≤ o) (h1 : o < (sz : Int)) (hlay : glay o = (0, 4)) (hw : Cond.fieldLink own index "ParishUnion$Orders" "person" "[I" ∈ gT) (ht : 0 ≤ z) (hm : meth.name = "<init>") (ho : RX4 = own) (hd : decode cc pc = .ok (.putfield index, 3)) (hn : pc + 3 = n) (kk : G p l e R s m args below meth c n0 D cA nL Q cells slots (gset M o 0 (z + 1)) sz n L st) : G p l e R s m args below meth c n0 D cA nL Q cells slots M sz pc L (gA n0 z :: gA n0 o :: st) := g_put X (z := z + 1) 0 iX4 tyX4 tyX4_ok nmX4 rfl rfl (by decide) h0 h1 hlay hw rfl (Or.inr ⟨rfl, hm, ho⟩) (g_rfv n0 _ rfl ht) rfl rfl hd hn kk
theorem gg_4_1 (X : gCx p s m args meth c n0 D cA own cc nL) {index : Nat} {o z : Int} (h0 : 0 ≤ o) (h1 : o < (sz : Int)) (hlay : glay o = (0, 4)) (hw : Cond.fieldLink own index "ParishUnion$Orders" "from" "[I" ∈ gT) (hd : decode cc pc = .ok (.getfield index, 3)) (hn : pc + 3 = n) (hz : M o 1 = z + 1) (ht : 0 ≤ z) (kk : G p l e R s m args below meth c n0 D cA nL Q cells slots M sz n L (gA n0 z :: st)) : G p l e R s m args below meth c n0 D cA nL Q cells slots M sz pc L (gA n0 o :: st) := g_get X 1 iX4 rfl rfl (by decide) h0 h1 hlay hw rfl hd hn (by rw [show M o ((1 : Nat) : Int) = z + 1 from hz]; exact g_rfv n0 _ rfl ht) kk
theorem gp_4_1 (X : gCx p s m args meth c n0 D cA own cc nL) {index : Nat} {o z : Int} (h0 : 0 ≤ o) (h1 : o < (sz : Int)) (hlay : glay o = (0, 4)) (hw : Cond.fieldLink own index "ParishUnion$Orders" "from" "[I" ∈ gT) (ht : 0 ≤ z) (hm : meth.name = "<init>") (ho : RX4 = own) (hd : decode cc pc = .ok (.putfield index, 3)) (hn : pc + 3 = n) (kk : G p l e R s m args below meth c n0 D cA nL Q cells slots (gset M o 1 (z + 1)) sz n L st) : G p l e R s m args below meth c n0 D cA nL Q cells slots M sz pc L (gA n0 z :: gA n0 o :: st) := g_put X (z := z + 1) 1 iX4 tyX4 tyX4_ok nmX4 rfl rfl (by decide) h0 h1 hlay hw rfl (Or.inr ⟨rfl, hm, ho⟩) (g_rfv n0 _ rfl ht) rfl rfl hd hn kk
theorem gg_4_2 (X : gCx p s m args meth c n0 D cA own cc nL) {index : Nat} {o z : Int} (h0 : 0 ≤ o) (h1 : o < (sz : Int)) (hlay : glay o = (0, 4)) (hw : Cond.fieldLink own index "ParishUnion$Orders" "to" "[I" ∈ gT) (hd : decode cc pc = .ok (.getfield index, 3)) (hn : pc + 3 = n) (hz : M o 2 = z + 1) (ht : 0 ≤ z) (kk : G p l e R s m args below meth c n0 D cA nL Q cells slots M sz n L (gA n0 z :: st)) : G p l e R s m args below meth c n0 D cA nL Q cells slots M sz pc L (gA n0 o :: st) := g_get X 2 iX4 rfl rfl (by decide) h0 h1 hlay hw rfl hd hn (by rw [show M o ((2 : Nat) : Int) = z + 1 from hz]; exact g_rfv n0 _ rfl ht) kk
theorem gp_4_2 (X : gCx p s m args meth c n0 D cA own cc nL) {index : Nat} {o z : Int} (h0 : 0 ≤ o) (h1 : o < (sz : Int)) (hlay : glay o = (0, 4)) (hw : Cond.fieldLink own index "ParishUnion$Orders" "to" "[I" ∈ gT) (ht : 0 ≤ z) (hm : meth.name = "<init>") (ho : RX4 = own) (hd : decode cc pc = .ok (.putfield index, 3)) (hn : pc + 3 = n) (kk : G p l e R s m args below meth c n0 D cA nL Q cells slots (gset M o 2 (z + 1)) sz n L st) : G p l e R s m args below meth c n0 D cA nL Q cells slots M sz pc L (gA n0 z :: gA n0 o :: st) := g_put X (z := z + 1) 2 iX4 tyX4 tyX4_ok nmX4 rfl rfl (by decide) h0 h1 hlay hw rfl (Or.inr ⟨rfl, hm, ho⟩) (g_rfv n0 _ rfl ht) rfl rfl hd hn kk
theorem gg_4_3 (X : gCx p s m args meth c n0 D cA own cc nL) {index : Nat} {o z : Int} (h0 : 0 ≤ o) (h1 : o < (sz : Int)) (hlay : glay o = (0, 4)) (hw : Cond.fieldLink own index "ParishUnion$Orders" "week" "[I" ∈ gT) (hd : decode cc pc = .ok (.getfield index, 3)) (hn : pc + 3 = n) (hz : M o 3 = z + 1) (ht : 0 ≤ z) (kk : G p l e R s m args below meth c n0 D cA nL Q cells slots M sz n L (gA n0 z :: st)) : G p l e R s m args below meth c n0 D cA nL Q cells slots M sz pc L (gA n0 o :: st) := g_get X 3 iX4 rfl rfl (by decide) h0 h1 hlay hw rfl hd hn (by rw [show M o ((3 : Nat) : Int) = z + 1 from hz]; exact g_rfv n0 _ rfl ht) kk
theorem gp_4_3 (X : gCx p s m args meth c n0 D cA own cc nL) {index : Nat} {o z : Int} (h0 : 0 ≤ o) (h1 : o < (sz : Int)) (hlay : glay o = (0, 4)) (hw : Cond.fieldLink own index "ParishUnion$Orders" "week" "[I" ∈ gT) (ht : 0 ≤ z) (hm : meth.name = "<init>") (ho : RX4 = own) (hd : decode cc pc = .ok (.putfield index, 3)) (hn : pc + 3 = n) (kk : G p l e R s m args below meth c n0 D cA nL Q cells slots (gset M o 3 (z + 1)) sz n L st) : G p l e R s m args below meth c n0 D cA nL Q cells slots M sz pc L (gA n0 z :: gA n0 o :: st) := g_put X (z := z + 1) 3 iX4 tyX4 tyX4_ok nmX4 rfl rfl (by decide) h0 h1 hlay hw rfl (Or.inr ⟨rfl, hm, ho⟩) (g_rfv n0 _ rfl ht) rfl rfl hd hn kk
theorem gg_4_4 (X : gCx p s m args meth c n0 D cA own cc nL) {index : Nat} {o z : Int} (h0 : 0 ≤ o) (h1 : o < (sz : Int)) (hlay : glay o = (0, 4)) (hw : Cond.fieldLink own index "ParishUnion$Orders" "carried" "[Z" ∈ gT) (hd : decode cc pc = .ok (.getfield index, 3)) (hn : pc + 3 = n) (hz : M o 4 = z + 1) (ht : 0 ≤ z) (kk : G p l e R s m args below meth c n0 D cA nL Q cells slots M sz n L (gA n0 z :: st)) : G p l e R s m args below meth c n0 D cA nL Q cells slots M sz pc L (gA n0 o :: st) := g_get X 4 iX4 rfl rfl (by decide) h0 h1 hlay hw rfl hd hn (by rw [show M o ((4 : Nat) : Int) = z + 1 from hz]; exact g_rfv n0 _ rfl ht) kk
theorem gp_4_4 (X : gCx p s m args meth c n0 D cA own cc nL) {index : Nat} {o z : Int} (h0 : 0 ≤ o) (h1 : o < (sz : Int)) (hlay : glay o = (0, 4)) (hw : Cond.fieldLink own index "ParishUnion$Orders" "carried" "[Z" ∈ gT) (ht : 0 ≤ z) (hm : meth.name = "<init>") (ho : RX4 = own) (hd : decode cc pc = .ok (.putfield index, 3)) (hn : pc + 3 = n) (kk : G p l e R s m args below meth c n0 D cA nL Q cells slots (gset M o 4 (z + 1)) sz n L st) : G p l e R s m args below meth c n0 D cA nL Q cells slots M sz pc L (gA n0 z :: gA n0 o :: st) := g_put X (z := z + 1) 4 iX4 tyX4 tyX4_ok nmX4 rfl rfl (by decide) h0 h1 hlay hw rfl (Or.inr ⟨rfl, hm, ho⟩) (g_rfv n0 _ rfl ht) rfl rfl hd hn kk
theorem gg_4_5 (X : gCx p s m args meth c n0 D cA own cc nL) {index : Nat} {o z : Int} (h0 : 0 ≤ o) (h1 : o < (sz : Int)) (hlay : glay o = (0, 4)) (hw : Cond.fieldLink own index "ParishUnion$Orders" "count" "I" ∈ gT) (hd : decode cc pc = .ok (.getfield index, 3)) (hn : pc + 3 = n) (hz : M o 5 = z) (kk : G p l e R s m args below meth c n0 D cA nL Q cells slots M sz n L (gJ z :: st)) : G p l e R s m args below meth c n0 D cA nL Q cells slots M sz pc L (gA n0 o :: st) := g_get X 5 iX4 rfl rfl (by decide) h0 h1 hlay hw rfl hd hn (by rw [show M o ((5 : Nat) : Int) = z from hz]; rfl) kk
theorem gp_4_5 (X : gCx p s m args meth c n0 D cA own cc nL) {index : Nat} {o z : Int} (h0 : 0 ≤ o) (h1 : o < (sz : Int)) (hlay : glay o = (0, 4)) (hw : Cond.fieldLink own index "ParishUnion$Orders" "count" "I" ∈ gT) (hd : decode cc pc = .ok (.putfield index, 3)) (hn : pc + 3 = n) (kk : G p l e R s m args below meth c n0 D cA nL Q cells slots (gset M o 5 z) sz n L st) : G p l e R s m args below meth c n0 D cA nL Q cells slots M sz pc L (gJ z :: gA n0 o :: st) := g_put X (z := z) 5 iX4 tyX4 tyX4_ok nmX4 rfl rfl (by decide) h0 h1 hlay hw rfl (Or.inl rfl) rfl rfl rfl hd hn kk
theorem gg_5_0 (X : gCx p s m args meth c n0 D cA own cc nL) {index : Nat} {o z : Int} (h0 : 0 ≤ o) (h1 : o < (sz : Int)) (hlay : glay o = (0, 5)) (hw : Cond.fieldLink own index "ParishUnion$Past" "sums" "[I" ∈ gT) (hd : decode cc pc = .ok (.getfield index, 3)) (hn : pc + 3 = n) (hz : M o 0 = z + 1) (ht : 0 ≤ z) (kk : G p l e R s m args below meth c n0 D cA nL Q cells slots M sz n L (gA n0 z :: st)) : G p l e R s m args below meth c n0 D cA nL Q cells slots M sz pc L (gA n0 o :: st) := g_get X 0 iX5 rfl rfl (by decide) h0 h1 hlay hw rfl hd hn (by rw [show M o ((0 : Nat) : Int) = z + 1 from hz]; exact g_rfv n0 _ rfl ht) kk
theorem gp_5_0 (X : gCx p s m args meth c n0 D cA own cc nL) {index : Nat} {o z : Int} (h0 : 0 ≤ o) (h1 : o < (sz : Int)) (hlay : glay o = (0, 5)) (hw : Cond.fieldLink own index "ParishUnion$Past" "sums" "[I" ∈ gT) (ht : 0 ≤ z) (hm : meth.name = "<init>") (ho : RX5 = own) (hd : decode cc pc = .ok (.putfield index, 3)) (hn : pc + 3 = n) (kk : G p l e R s m args below meth c n0 D cA nL Q cells slots (gset M o 0 (z + 1)) sz n L st) : G p l e R s m args below meth c n0 D cA nL Q cells slots M sz pc L (gA n0 z :: gA n0 o :: st) := g_put X (z := z + 1) 0 iX5 tyX5 tyX5_ok nmX5 rfl rfl (by decide) h0 h1 hlay hw rfl (Or.inr ⟨rfl, hm, ho⟩) (g_rfv n0 _ rfl ht) rfl rfl hd hn kk
theorem gg_5_1 (X : gCx p s m args meth c n0 D cA own cc nL) {index : Nat} {o z : Int} (h0 : 0 ≤ o) (h1 : o < (sz : Int)) (hlay : glay o = (0, 5)) (hw : Cond.fieldLink own index "ParishUnion$Past" "marks" "[J" ∈ gT) (hd : decode cc pc = .ok (.getfield index, 3)) (hn : pc + 3 = n) (hz : M o 1 = z + 1) (ht : 0 ≤ z) (kk : G p l e R s m args below meth c n0 D cA nL Q cells slots M sz n L (gA n0 z :: st)) : G p l e R s m args below meth c n0 D cA nL Q cells slots M sz pc L (gA n0 o :: st) := g_get X 1 iX5 rfl rfl (by decide) h0 h1 hlay hw rfl hd hn (by rw [show M o ((1 : Nat) : Int) = z + 1 from hz]; exact g_rfv n0 _ rfl ht) kk
theorem gp_5_1 (X : gCx p s m args meth c n0 D cA own cc nL) {index : Nat} {o z : Int} (h0 : 0 ≤ o) (h1 : o < (sz : Int)) (hlay : glay o = (0, 5)) (hw : Cond.fieldLink own index "ParishUnion$Past" "marks" "[J" ∈ gT) (ht : 0 ≤ z) (hm : meth.name = "<init>") (ho : RX5 = own) (hd : decode cc pc = .ok (.putfield index, 3)) (hn : pc + 3 = n) (kk : G p l e R s m args below meth c n0 D cA nL Q cells slots (gset M o 1 (z + 1)) sz n L st) : G p l e R s m args below meth c n0 D cA nL Q cells slots M sz pc L (gA n0 z :: gA n0 o :: st) := g_put X (z := z + 1) 1 iX5 tyX5 tyX5_ok nmX5 rfl rfl (by decide) h0 h1 hlay hw rfl (Or.inr ⟨rfl, hm, ho⟩) (g_rfv n0 _ rfl ht) rfl rfl hd hn kk
theorem gg_6_0 (X : gCx p s m args meth c n0 D cA own cc nL) {index : Nat} {o z : Int} (h0 : 0 ≤ o) (h1 : o < (sz : Int)) (hlay : glay o = (0, 6)) (hw : Cond.fieldLink own index "ParishUnion$Person" "sex" "I" ∈ gT) (hd : decode cc pc = .ok (.getfield index, 3)) (hn : pc + 3 = n) (hz : M o 0 = z) (kk : G p l e R s m args below meth c n0 D cA nL Q cells slots M sz n L (gJ z :: st)) : G p l e R s m args below meth c n0 D cA nL Q cells slots M sz pc L (gA n0 o :: st) := g_get X 0 iX6 rfl rfl (by decide) h0 h1 hlay hw rfl hd hn (by rw [show M o ((0 : Nat) : Int) = z from hz]; rfl) kk
theorem gp_6_0 (X : gCx p s m args meth c n0 D cA own cc nL) {index : Nat} {o z : Int} (h0 : 0 ≤ o) (h1 : o < (sz : Int)) (hlay : glay o = (0, 6)) (hw : Cond.fieldLink own index "ParishUnion$Person" "sex" "I" ∈ gT) (hd : decode cc pc = .ok (.putfield index, 3)) (hn : pc + 3 = n) (kk : G p l e R s m args below meth c n0 D cA nL Q cells slots (gset M o 0 z) sz n L st) : G p l e R s m args below meth c n0 D cA nL Q cells slots M sz pc L (gJ z :: gA n0 o :: st) := g_put X (z := z) 0 iX6 tyX6 tyX6_ok nmX6 rfl rfl (by decide) h0 h1 hlay hw rfl (Or.inl rfl) rfl rfl rfl hd hn kk
theorem gg_6_1 (X : gCx p s m args meth c n0 D cA own cc nL) {index : Nat} {o z : Int} (h0 : 0 ≤ o) (h1 : o < (sz : Int)) (hlay : glay o = (0, 6)) (hw : Cond.fieldLink own index "ParishUnion$Person" "born" "I" ∈ gT) (hd : decode cc pc = .ok (.getfield index, 3)) (hn : pc + 3 = n) (hz : M o 1 = z) (kk : G p l e R s m args below meth c n0 D cA nL Q cells slots M sz n L (gJ z :: st)) : G p l e R s m args below meth c n0 D cA nL Q cells slots M sz pc L (gA n0 o :: st) := g_get X 1 iX6 rfl rfl (by decide) h0 h1 hlay hw rfl hd hn (by rw [show M o ((1 : Nat) : Int) = z from hz]; rfl) kk
theorem gp_6_1 (X : gCx p s m args meth c n0 D cA own cc nL) {index : Nat} {o z : Int} (h0 : 0 ≤ o) (h1 : o < (sz : Int)) (hlay : glay o = (0, 6)) (hw : Cond.fieldLink own index "ParishUnion$Person" "born" "I" ∈ gT) (hd : decode cc pc = .ok (.putfield index, 3)) (hn : pc + 3 = n) (kk : G p l e R s m args below meth c n0 D cA nL Q cells slots (gset M o 1 z) sz n L st) : G p l e R s m args below meth c n0 D cA nL Q cells slots M sz pc L (gJ z :: gA n0 o :: st) := g_put X (z := z) 1 iX6 tyX6 tyX6_ok nmX6 rfl rfl (by decide) h0 h1 hlay hw rfl (Or.inl rfl) rfl rfl rfl hd hn kk
theorem gg_6_2 (X : gCx p s m args meth c n0 D cA own cc nL) {index : Nat} {o z : Int} (h0 : 0 ≤ o) (h1 : o < (sz : Int)) (hlay : glay o = (0, 6)) (hw : Cond.fieldLink own index "ParishUnion$Person" "birthplace" "I" ∈ gT) (hd : decode cc pc = .ok (.getfield index, 3)) (hn : pc + 3 = n) (hz : M o 2 = z) (kk : G p l e R s m args below meth c n0 D cA nL Q cells slots M sz n L (gJ z :: st)) : G p l e R s m args below meth c n0 D cA nL Q cells slots M sz pc L (gA n0 o :: st) := g_get X 2 iX6 rfl rfl (by decide) h0 h1 hlay hw rfl hd hn (by rw [show M o ((2 : Nat) : Int) = z from hz]; rfl) kk
theorem gp_6_2 (X : gCx p s m args meth c n0 D cA own cc nL) {index : Nat} {o z : Int} (h0 : 0 ≤ o) (h1 : o < (sz : Int)) (hlay : glay o = (0, 6)) (hw : Cond.fieldLink own index "ParishUnion$Person" "birthplace" "I" ∈ gT) (hd : decode cc pc = .ok (.putfield index, 3)) (hn : pc + 3 = n) (kk : G p l e R s m args below meth c n0 D cA nL Q cells slots (gset M o 2 z) sz n L st) : G p l e R s m args below meth c n0 D cA nL Q cells slots M sz pc L (gJ z :: gA n0 o :: st) := g_put X (z := z) 2 iX6 tyX6 tyX6_ok nmX6 rfl rfl (by decide) h0 h1 hlay hw rfl (Or.inl rfl) rfl rfl rfl hd hn kk
theorem gg_6_3 (X : gCx p s m args meth c n0 D cA own cc nL) {index : Nat} {o z : Int} (h0 : 0 ≤ o) (h1 : o < (sz : Int)) (hlay : glay o = (0, 6)) (hw : Cond.fieldLink own index "ParishUnion$Person" "father" "I" ∈ gT) (hd : decode cc pc = .ok (.getfield index, 3)) (hn : pc + 3 = n) (hz : M o 3 = z) (kk : G p l e R s m args below meth c n0 D cA nL Q cells slots M sz n L (gJ z :: st)) : G p l e R s m args below meth c n0 D cA nL Q cells slots M sz pc L (gA n0 o :: st) := g_get X 3 iX6 rfl rfl (by decide) h0 h1 hlay hw rfl hd hn (by rw [show M o ((3 : Nat) : Int) = z from hz]; rfl) kk
theorem gp_6_3 (X : gCx p s m args meth c n0 D cA own cc nL) {index : Nat} {o z : Int} (h0 : 0 ≤ o) (h1 : o < (sz : Int)) (hlay : glay o = (0, 6)) (hw : Cond.fieldLink own index "ParishUnion$Person" "father" "I" ∈ gT) (hd : decode cc pc = .ok (.putfield index, 3)) (hn : pc + 3 = n) (kk : G p l e R s m args below meth c n0 D cA nL Q cells slots (gset M o 3 z) sz n L st) : G p l e R s m args below meth c n0 D cA nL Q cells slots M sz pc L (gJ z :: gA n0 o :: st) := g_put X (z := z) 3 iX6 tyX6 tyX6_ok nmX6 rfl rfl (by decide) h0 h1 hlay hw rfl (Or.inl rfl) rfl rfl rfl hd hn kk
theorem gg_6_4 (X : gCx p s m args meth c n0 D cA own cc nL) {index : Nat} {o z : Int} (h0 : 0 ≤ o) (h1 : o < (sz : Int)) (hlay : glay o = (0, 6)) (hw : Cond.fieldLink own index "ParishUnion$Person" "strength" "I" ∈ gT) (hd : decode cc pc = .ok (.getfield index, 3)) (hn : pc + 3 = n) (hz : M o 4 = z) (kk : G p l e R s m args below meth c n0 D cA nL Q cells slots M sz n L (gJ z :: st)) : G p l e R s m args below meth c n0 D cA nL Q cells slots M sz pc L (gA n0 o :: st) := g_get X 4 iX6 rfl rfl (by decide) h0 h1 hlay hw rfl hd hn (by rw [show M o ((4 : Nat) : Int) = z from hz]; rfl) kk
theorem gp_6_4 (X : gCx p s m args meth c n0 D cA own cc nL) {index : Nat} {o z : Int} (h0 : 0 ≤ o) (h1 : o < (sz : Int)) (hlay : glay o = (0, 6)) (hw : Cond.fieldLink own index "ParishUnion$Person" "strength" "I" ∈ gT) (hd : decode cc pc = .ok (.putfield index, 3)) (hn : pc + 3 = n) (kk : G p l e R s m args below meth c n0 D cA nL Q cells slots (gset M o 4 z) sz n L st) : G p l e R s m args below meth c n0 D cA nL Q cells slots M sz pc L (gJ z :: gA n0 o :: st) := g_put X (z := z) 4 iX6 tyX6 tyX6_ok nmX6 rfl rfl (by decide) h0 h1 hlay hw rfl (Or.inl rfl) rfl rfl rfl hd hn kk
theorem gg_6_5 (X : gCx p s m args meth c n0 D cA own cc nL) {index : Nat} {o z : Int} (h0 : 0 ≤ o) (h1 : o < (sz : Int)) (hlay : glay o = (0, 6)) (hw : Cond.fieldLink own index "ParishUnion$Person" "at" "I" ∈ gT) (hd : decode cc pc = .ok (.getfield index, 3)) (hn : pc + 3 = n) (hz : M o 5 = z) (kk : G p l e R s m args below meth c n0 D cA nL Q cells slots M sz n L (gJ z :: st)) : G p l e R s m args below meth c n0 D cA nL Q cells slots M sz pc L (gA n0 o :: st) := g_get X 5 iX6 rfl rfl (by decide) h0 h1 hlay hw rfl hd hn (by rw [show M o ((5 : Nat) : Int) = z from hz]; rfl) kk
theorem gp_6_5 (X : gCx p s m args meth c n0 D cA own cc nL) {index : Nat} {o z : Int} (h0 : 0 ≤ o) (h1 : o < (sz : Int)) (hlay : glay o = (0, 6)) (hw : Cond.fieldLink own index "ParishUnion$Person" "at" "I" ∈ gT) (hd : decode cc pc = .ok (.putfield index, 3)) (hn : pc + 3 = n) (kk : G p l e R s m args below meth c n0 D cA nL Q cells slots (gset M o 5 z) sz n L st) : G p l e R s m args below meth c n0 D cA nL Q cells slots M sz pc L (gJ z :: gA n0 o :: st) := g_put X (z := z) 5 iX6 tyX6 tyX6_ok nmX6 rfl rfl (by decide) h0 h1 hlay hw rfl (Or.inl rfl) rfl rfl rfl hd hn kk
theorem gg_6_6 (X : gCx p s m args meth c n0 D cA own cc nL) {index : Nat} {o z : Int} (h0 : 0 ≤ o) (h1 : o < (sz : Int)) (hlay : glay o = (0, 6)) (hw : Cond.fieldLink own index "ParishUnion$Person" "hunger" "I" ∈ gT) (hd : decode cc pc = .ok (.getfield index, 3)) (hn : pc + 3 = n) (hz : M o 6 = z) (kk : G p l e R s m args below meth c n0 D cA nL Q cells slots M sz n L (gJ z :: st)) : G p l e R s m args below meth c n0 D cA nL Q cells slots M sz pc L (gA n0 o :: st) := g_get X 6 iX6 rfl rfl (by decide) h0 h1 hlay hw rfl hd hn (by rw [show M o ((6 : Nat) : Int) = z from hz]; rfl) kk
theorem gp_6_6 (X : gCx p s m args meth c n0 D cA own cc nL) {index : Nat} {o z : Int} (h0 : 0 ≤ o) (h1 : o < (sz : Int)) (hlay : glay o = (0, 6)) (hw : Cond.fieldLink own index "ParishUnion$Person" "hunger" "I" ∈ gT) (hd : decode cc pc = .ok (.putfield index, 3)) (hn : pc + 3 = n) (kk : G p l e R s m args below meth c n0 D cA nL Q cells slots (gset M o 6 z) sz n L st) : G p l e R s m args below meth c n0 D cA nL Q cells slots M sz pc L (gJ z :: gA n0 o :: st) := g_put X (z := z) 6 iX6 tyX6 tyX6_ok nmX6 rfl rfl (by decide) h0 h1 hlay hw rfl (Or.inl rfl) rfl rfl rfl hd hn kk
theorem gg_6_7 (X : gCx p s m args meth c n0 D cA own cc nL) {index : Nat} {o z : Int} (h0 : 0 ≤ o) (h1 : o < (sz : Int)) (hlay : glay o = (0, 6)) (hw : Cond.fieldLink own index "ParishUnion$Person" "ill" "I" ∈ gT) (hd : decode cc pc = .ok (.getfield index, 3)) (hn : pc + 3 = n) (hz : M o 7 = z) (kk : G p l e R s m args below meth c n0 D cA nL Q cells slots M sz n L (gJ z :: st)) : G p l e R s m args below meth c n0 D cA nL Q cells slots M sz pc L (gA n0 o :: st) := g_get X 7 iX6 rfl rfl (by decide) h0 h1 hlay hw rfl hd hn (by rw [show M o ((7 : Nat) : Int) = z from hz]; rfl) kk
theorem gp_6_7 (X : gCx p s m args meth c n0 D cA own cc nL) {index : Nat} {o z : Int} (h0 : 0 ≤ o) (h1 : o < (sz : Int)) (hlay : glay o = (0, 6)) (hw : Cond.fieldLink own index "ParishUnion$Person" "ill" "I" ∈ gT) (hd : decode cc pc = .ok (.putfield index, 3)) (hn : pc + 3 = n) (kk : G p l e R s m args below meth c n0 D cA nL Q cells slots (gset M o 7 z) sz n L st) : G p l e R s m args below meth c n0 D cA nL Q cells slots M sz pc L (gJ z :: gA n0 o :: st) := g_put X (z := z) 7 iX6 tyX6 tyX6_ok nmX6 rfl rfl (by decide) h0 h1 hlay hw rfl (Or.inl rfl) rfl rfl rfl hd hn kk
theorem gg_6_8 (X : gCx p s m args meth c n0 D cA own cc nL) {index : Nat} {o z : Int} (h0 : 0 ≤ o) (h1 : o < (sz : Int)) (hlay : glay o = (0, 6)) (hw : Cond.fieldLink own index "ParishUnion$Person" "ward" "I" ∈ gT) (hd : decode cc pc = .ok (.getfield index, 3)) (hn : pc + 3 = n) (hz : M o 8 = z) (kk : G p l e R s m args below meth c n0 D cA nL Q cells slots M sz n L (gJ z :: st)) : G p l e R s m args below meth c n0 D cA nL Q cells slots M sz pc L (gA n0 o :: st) := g_get X 8 iX6 rfl rfl (by decide) h0 h1 hlay hw rfl hd hn (by rw [show M o ((8 : Nat) : Int) = z from hz]; rfl) kk
theorem gp_6_8 (X : gCx p s m args meth c n0 D cA own cc nL) {index : Nat} {o z : Int} (h0 : 0 ≤ o) (h1 : o < (sz : Int)) (hlay : glay o = (0, 6)) (hw : Cond.fieldLink own index "ParishUnion$Person" "ward" "I" ∈ gT) (hd : decode cc pc = .ok (.putfield index, 3)) (hn : pc + 3 = n) (kk : G p l e R s m args below meth c n0 D cA nL Q cells slots (gset M o 8 z) sz n L st) : G p l e R s m args below meth c n0 D cA nL Q cells slots M sz pc L (gJ z :: gA n0 o :: st) := g_put X (z := z) 8 iX6 tyX6 tyX6_ok nmX6 rfl rfl (by decide) h0 h1 hlay hw rfl (Or.inl rfl) rfl rfl rfl hd hn kk
theorem gg_6_9 (X : gCx p s m args meth c n0 D cA own cc nL) {index : Nat} {o z : Int} (h0 : 0 ≤ o) (h1 : o < (sz : Int)) (hlay : glay o = (0, 6)) (hw : Cond.fieldLink own index "ParishUnion$Person" "master" "I" ∈ gT) (hd : decode cc pc = .ok (.getfield index, 3)) (hn : pc + 3 = n) (hz : M o 9 = z) (kk : G p l e R s m args below meth c n0 D cA nL Q cells slots M sz n L (gJ z :: st)) : G p l e R s m args below meth c n0 D cA nL Q cells slots M sz pc L (gA n0 o :: st) := g_get X 9 iX6 rfl rfl (by decide) h0 h1 hlay hw rfl hd hn (by rw [show M o ((9 : Nat) : Int) = z from hz]; rfl) kk
theorem gp_6_9 (X : gCx p s m args meth c n0 D cA own cc nL) {index : Nat} {o z : Int} (h0 : 0 ≤ o) (h1 : o < (sz : Int)) (hlay : glay o = (0, 6)) (hw : Cond.fieldLink own index "ParishUnion$Person" "master" "I" ∈ gT) (hd : decode cc pc = .ok (.putfield index, 3)) (hn : pc + 3 = n) (kk : G p l e R s m args below meth c n0 D cA nL Q cells slots (gset M o 9 z) sz n L st) : G p l e R s m args below meth c n0 D cA nL Q cells slots M sz pc L (gJ z :: gA n0 o :: st) := g_put X (z := z) 9 iX6 tyX6 tyX6_ok nmX6 rfl rfl (by decide) h0 h1 hlay hw rfl (Or.inl rfl) rfl rfl rfl hd hn kk
theorem gg_6_10 (X : gCx p s m args meth c n0 D cA own cc nL) {index : Nat} {o z : Int} (h0 : 0 ≤ o) (h1 : o < (sz : Int)) (hlay : glay o = (0, 6)) (hw : Cond.fieldLink own index "ParishUnion$Person" "askedFrom" "I" ∈ gT) (hd : decode cc pc = .ok (.getfield index, 3)) (hn : pc + 3 = n) (hz : M o 10 = z) (kk : G p l e R s m args below meth c n0 D cA nL Q cells slots M sz n L (gJ z :: st)) : G p l e R s m args below meth c n0 D cA nL Q cells slots M sz pc L (gA n0 o :: st) := g_get X 10 iX6 rfl rfl (by decide) h0 h1 hlay hw rfl hd hn (by rw [show M o ((10 : Nat) : Int) = z from hz]; rfl) kk
theorem gp_6_10 (X : gCx p s m args meth c n0 D cA own cc nL) {index : Nat} {o z : Int} (h0 : 0 ≤ o) (h1 : o < (sz : Int)) (hlay : glay o = (0, 6)) (hw : Cond.fieldLink own index "ParishUnion$Person" "askedFrom" "I" ∈ gT) (hd : decode cc pc = .ok (.putfield index, 3)) (hn : pc + 3 = n) (kk : G p l e R s m args below meth c n0 D cA nL Q cells slots (gset M o 10 z) sz n L st) : G p l e R s m args below meth c n0 D cA nL Q cells slots M sz pc L (gJ z :: gA n0 o :: st) := g_put X (z := z) 10 iX6 tyX6 tyX6_ok nmX6 rfl rfl (by decide) h0 h1 hlay hw rfl (Or.inl rfl) rfl rfl rfl hd hn kk
theorem gg_6_11 (X : gCx p s m args meth c n0 D cA own cc nL) {index : Nat} {o z : Int} (h0 : 0 ≤ o) (h1 : o < (sz : Int)) (hlay : glay o = (0, 6)) (hw : Cond.fieldLink own index "ParishUnion$Person" "toldAt" "I" ∈ gT) (hd : decode cc pc = .ok (.getfield index, 3)) (hn : pc + 3 = n) (hz : M o 11 = z) (kk : G p l e R s m args below meth c n0 D cA nL Q cells slots M sz n L (gJ z :: st)) : G p l e R s m args below meth c n0 D cA nL Q cells slots M sz pc L (gA n0 o :: st) := g_get X 11 iX6 rfl rfl (by decide) h0 h1 hlay hw rfl hd hn (by rw [show M o ((11 : Nat) : Int) = z from hz]; rfl) kk
theorem gp_6_11 (X : gCx p s m args meth c n0 D cA own cc nL) {index : Nat} {o z : Int} (h0 : 0 ≤ o) (h1 : o < (sz : Int)) (hlay : glay o = (0, 6)) (hw : Cond.fieldLink own index "ParishUnion$Person" "toldAt" "I" ∈ gT) (hd : decode cc pc = .ok (.putfield index, 3)) (hn : pc + 3 = n) (kk : G p l e R s m args below meth c n0 D cA nL Q cells slots (gset M o 11 z) sz n L st) : G p l e R s m args below meth c n0 D cA nL Q cells slots M sz pc L (gJ z :: gA n0 o :: st) := g_put X (z := z) 11 iX6 tyX6 tyX6_ok nmX6 rfl rfl (by decide) h0 h1 hlay hw rfl (Or.inl rfl) rfl rfl rfl hd hn kk
theorem gg_6_12 (X : gCx p s m args meth c n0 D cA own cc nL) {index : Nat} {o z : Int} (h0 : 0 ≤ o) (h1 : o < (sz : Int)) (hlay : glay o = (0, 6)) (hw : Cond.fieldLink own index "ParishUnion$Person" "eaten" "I" ∈ gT) (hd : decode cc pc = .ok (.getfield index, 3)) (hn : pc + 3 = n) (hz : M o 12 = z) (kk : G p l e R s m args below meth c n0 D cA nL Q cells slots M sz n L (gJ z :: st)) : G p l e R s m args below meth c n0 D cA nL Q cells slots M sz pc L (gA n0 o :: st) := g_get X 12 iX6 rfl rfl (by decide) h0 h1 hlay hw rfl hd hn (by rw [show M o ((12 : Nat) : Int) = z from hz]; rfl) kk
theorem gp_6_12 (X : gCx p s m args meth c n0 D cA own cc nL) {index : Nat} {o z : Int} (h0 : 0 ≤ o) (h1 : o < (sz : Int)) (hlay : glay o = (0, 6)) (hw : Cond.fieldLink own index "ParishUnion$Person" "eaten" "I" ∈ gT) (hd : decode cc pc = .ok (.putfield index, 3)) (hn : pc + 3 = n) (kk : G p l e R s m args below meth c n0 D cA nL Q cells slots (gset M o 12 z) sz n L st) : G p l e R s m args below meth c n0 D cA nL Q cells slots M sz pc L (gJ z :: gA n0 o :: st) := g_put X (z := z) 12 iX6 tyX6 tyX6_ok nmX6 rfl rfl (by decide) h0 h1 hlay hw rfl (Or.inl rfl) rfl rfl rfl hd hn kk
theorem gg_6_13 (X : gCx p s m args meth c n0 D cA own cc nL) {index : Nat} {o z : Int} (h0 : 0 ≤ o) (h1 : o < (sz : Int)) (hlay : glay o = (0, 6)) (hw : Cond.fieldLink own index "ParishUnion$Person" "given" "I" ∈ gT) (hd : decode cc pc = .ok (.getfield index, 3)) (hn : pc + 3 = n) (hz : M o 13 = z) (kk : G p l e R s m args below meth c n0 D cA nL Q cells slots M sz n L (gJ z :: st)) : G p l e R s m args below meth c n0 D cA nL Q cells slots M sz pc L (gA n0 o :: st) := g_get X 13 iX6 rfl rfl (by decide) h0 h1 hlay hw rfl hd hn (by rw [show M o ((13 : Nat) : Int) = z from hz]; rfl) kk
theorem gp_6_13 (X : gCx p s m args meth c n0 D cA own cc nL) {index : Nat} {o z : Int} (h0 : 0 ≤ o) (h1 : o < (sz : Int)) (hlay : glay o = (0, 6)) (hw : Cond.fieldLink own index "ParishUnion$Person" "given" "I" ∈ gT) (hd : decode cc pc = .ok (.putfield index, 3)) (hn : pc + 3 = n) (kk : G p l e R s m args below meth c n0 D cA nL Q cells slots (gset M o 13 z) sz n L st) : G p l e R s m args below meth c n0 D cA nL Q cells slots M sz pc L (gJ z :: gA n0 o :: st) := g_put X (z := z) 13 iX6 tyX6 tyX6_ok nmX6 rfl rfl (by decide) h0 h1 hlay hw rfl (Or.inl rfl) rfl rfl rfl hd hn kk
theorem gg_6_14 (X : gCx p s m args meth c n0 D cA own cc nL) {index : Nat} {o z : Int} (h0 : 0 ≤ o) (h1 : o < (sz : Int)) (hlay : glay o = (0, 6)) (hw : Cond.fieldLink own index "ParishUnion$Person" "asked" "Z" ∈ gT) (hd : decode cc pc = .ok (.getfield index, 3)) (hn : pc + 3 = n) (hz : M o 14 = z) (kk : G p l e R s m args below meth c n0 D cA nL Q cells slots M sz n L (gJ z :: st)) : G p l e R s m args below meth c n0 D cA nL Q cells slots M sz pc L (gA n0 o :: st) := g_get X 14 iX6 rfl rfl (by decide) h0 h1 hlay hw rfl hd hn (by rw [show M o ((14 : Nat) : Int) = z from hz]; rfl) kk
theorem gp_6_14 (X : gCx p s m args meth c n0 D cA own cc nL) {index : Nat} {o z : Int} (h0 : 0 ≤ o) (h1 : o < (sz : Int)) (hlay : glay o = (0, 6)) (hw : Cond.fieldLink own index "ParishUnion$Person" "asked" "Z" ∈ gT) (hb : z = 0 ∨ z = 1) (hd : decode cc pc = .ok (.putfield index, 3)) (hn : pc + 3 = n) (kk : G p l e R s m args below meth c n0 D cA nL Q cells slots (gset M o 14 z) sz n L st) : G p l e R s m args below meth c n0 D cA nL Q cells slots M sz pc L (gJ z :: gA n0 o :: st) := g_put X (z := z) 14 iX6 tyX6 tyX6_ok nmX6 rfl rfl (by decide) h0 h1 hlay hw rfl (Or.inl rfl) rfl (by rcases hb with rfl | rfl <;> decide +kernel) (by rcases hb with rfl | rfl <;> decide +kernel) hd hn kk
theorem gg_6_15 (X : gCx p s m args meth c n0 D cA own cc nL) {index : Nat} {o z : Int} (h0 : 0 ≤ o) (h1 : o < (sz : Int)) (hlay : glay o = (0, 6)) (hw : Cond.fieldLink own index "ParishUnion$Person" "home" "I" ∈ gT) (hd : decode cc pc = .ok (.getfield index, 3)) (hn : pc + 3 = n) (hz : M o 15 = z) (kk : G p l e R s m args below meth c n0 D cA nL Q cells slots M sz n L (gJ z :: st)) : G p l e R s m args below meth c n0 D cA nL Q cells slots M sz pc L (gA n0 o :: st) := g_get X 15 iX6 rfl rfl (by decide) h0 h1 hlay hw rfl hd hn (by rw [show M o ((15 : Nat) : Int) = z from hz]; rfl) kk
theorem gp_6_15 (X : gCx p s m args meth c n0 D cA own cc nL) {index : Nat} {o z : Int} (h0 : 0 ≤ o) (h1 : o < (sz : Int)) (hlay : glay o = (0, 6)) (hw : Cond.fieldLink own index "ParishUnion$Person" "home" "I" ∈ gT) (hd : decode cc pc = .ok (.putfield index, 3)) (hn : pc + 3 = n) (kk : G p l e R s m args below meth c n0 D cA nL Q cells slots (gset M o 15 z) sz n L st) : G p l e R s m args below meth c n0 D cA nL Q cells slots M sz pc L (gJ z :: gA n0 o :: st) := g_put X (z := z) 15 iX6 tyX6 tyX6_ok nmX6 rfl rfl (by decide) h0 h1 hlay hw rfl (Or.inl rfl) rfl rfl rfl hd hn kk
theorem gg_7_0 (X : gCx p s m args meth c n0 D cA own cc nL) {index : Nat} {o z : Int} (h0 : 0 ≤ o) (h1 : o < (sz : Int)) (hlay : glay o = (0, 7)) (hw : Cond.fieldLink own index "ParishUnion$Reader" "text" "[B" ∈ gT) (hd : decode cc pc = .ok (.getfield index, 3)) (hn : pc + 3 = n) (hz : M o 0 = z + 1) (ht : 0 ≤ z) (kk : G p l e R s m args below meth c n0 D cA nL Q cells slots M sz n L (gA n0 z :: st)) : G p l e R s m args below meth c n0 D cA nL Q cells slots M sz pc L (gA n0 o :: st) := g_get X 0 iX7 rfl rfl (by decide) h0 h1 hlay hw rfl hd hn (by rw [show M o ((0 : Nat) : Int) = z + 1 from hz]; exact g_rfv n0 _ rfl ht) kk
theorem gp_7_0 (X : gCx p s m args meth c n0 D cA own cc nL) {index : Nat} {o z : Int} (h0 : 0 ≤ o) (h1 : o < (sz : Int)) (hlay : glay o = (0, 7)) (hw : Cond.fieldLink own index "ParishUnion$Reader" "text" "[B" ∈ gT) (ht : 0 ≤ z) (hd : decode cc pc = .ok (.putfield index, 3)) (hn : pc + 3 = n) (kk : G p l e R s m args below meth c n0 D cA nL Q cells slots (gset M o 0 (z + 1)) sz n L st) : G p l e R s m args below meth c n0 D cA nL Q cells slots M sz pc L (gA n0 z :: gA n0 o :: st) := g_put X (z := z + 1) 0 iX7 tyX7 tyX7_ok nmX7 rfl rfl (by decide) h0 h1 hlay hw rfl (Or.inl rfl) (g_rfv n0 _ rfl ht) rfl rfl hd hn kk
theorem gg_7_1 (X : gCx p s m args meth c n0 D cA own cc nL) {index : Nat} {o z : Int} (h0 : 0 ≤ o) (h1 : o < (sz : Int)) (hlay : glay o = (0, 7)) (hw : Cond.fieldLink own index "ParishUnion$Reader" "size" "I" ∈ gT) (hd : decode cc pc = .ok (.getfield index, 3)) (hn : pc + 3 = n) (hz : M o 1 = z) (kk : G p l e R s m args below meth c n0 D cA nL Q cells slots M sz n L (gJ z :: st)) : G p l e R s m args below meth c n0 D cA nL Q cells slots M sz pc L (gA n0 o :: st) := g_get X 1 iX7 rfl rfl (by decide) h0 h1 hlay hw rfl hd hn (by rw [show M o ((1 : Nat) : Int) = z from hz]; rfl) kk
theorem gp_7_1 (X : gCx p s m args meth c n0 D cA own cc nL) {index : Nat} {o z : Int} (h0 : 0 ≤ o) (h1 : o < (sz : Int)) (hlay : glay o = (0, 7)) (hw : Cond.fieldLink own index "ParishUnion$Reader" "size" "I" ∈ gT) (hd : decode cc pc = .ok (.putfield index, 3)) (hn : pc + 3 = n) (kk : G p l e R s m args below meth c n0 D cA nL Q cells slots (gset M o 1 z) sz n L st) : G p l e R s m args below meth c n0 D cA nL Q cells slots M sz pc L (gJ z :: gA n0 o :: st) := g_put X (z := z) 1 iX7 tyX7 tyX7_ok nmX7 rfl rfl (by decide) h0 h1 hlay hw rfl (Or.inl rfl) rfl rfl rfl hd hn kk
theorem gg_7_2 (X : gCx p s m args meth c n0 D cA own cc nL) {index : Nat} {o z : Int} (h0 : 0 ≤ o) (h1 : o < (sz : Int)) (hlay : glay o = (0, 7)) (hw : Cond.fieldLink own index "ParishUnion$Reader" "place" "I" ∈ gT) (hd : decode cc pc = .ok (.getfield index, 3)) (hn : pc + 3 = n) (hz : M o 2 = z) (kk : G p l e R s m args below meth c n0 D cA nL Q cells slots M sz n L (gJ z :: st)) : G p l e R s m args below meth c n0 D cA nL Q cells slots M sz pc L (gA n0 o :: st) := g_get X 2 iX7 rfl rfl (by decide) h0 h1 hlay hw rfl hd hn (by rw [show M o ((2 : Nat) : Int) = z from hz]; rfl) kk
theorem gp_7_2 (X : gCx p s m args meth c n0 D cA own cc nL) {index : Nat} {o z : Int} (h0 : 0 ≤ o) (h1 : o < (sz : Int)) (hlay : glay o = (0, 7)) (hw : Cond.fieldLink own index "ParishUnion$Reader" "place" "I" ∈ gT) (hd : decode cc pc = .ok (.putfield index, 3)) (hn : pc + 3 = n) (kk : G p l e R s m args below meth c n0 D cA nL Q cells slots (gset M o 2 z) sz n L st) : G p l e R s m args below meth c n0 D cA nL Q cells slots M sz pc L (gJ z :: gA n0 o :: st) := g_put X (z := z) 2 iX7 tyX7 tyX7_ok nmX7 rfl rfl (by decide) h0 h1 hlay hw rfl (Or.inl rfl) rfl rfl rfl hd hn kk
theorem gg_7_3 (X : gCx p s m args meth c n0 D cA own cc nL) {index : Nat} {o z : Int} (h0 : 0 ≤ o) (h1 : o < (sz : Int)) (hlay : glay o = (0, 7)) (hw : Cond.fieldLink own index "ParishUnion$Reader" "open" "I" ∈ gT) (hd : decode cc pc = .ok (.getfield index, 3)) (hn : pc + 3 = n) (hz : M o 3 = z) (kk : G p l e R s m args below meth c n0 D cA nL Q cells slots M sz n L (gJ z :: st)) : G p l e R s m args below meth c n0 D cA nL Q cells slots M sz pc L (gA n0 o :: st) := g_get X 3 iX7 rfl rfl (by decide) h0 h1 hlay hw rfl hd hn (by rw [show M o ((3 : Nat) : Int) = z from hz]; rfl) kk
theorem gp_7_3 (X : gCx p s m args meth c n0 D cA own cc nL) {index : Nat} {o z : Int} (h0 : 0 ≤ o) (h1 : o < (sz : Int)) (hlay : glay o = (0, 7)) (hw : Cond.fieldLink own index "ParishUnion$Reader" "open" "I" ∈ gT) (hd : decode cc pc = .ok (.putfield index, 3)) (hn : pc + 3 = n) (kk : G p l e R s m args below meth c n0 D cA nL Q cells slots (gset M o 3 z) sz n L st) : G p l e R s m args below meth c n0 D cA nL Q cells slots M sz pc L (gJ z :: gA n0 o :: st) := g_put X (z := z) 3 iX7 tyX7 tyX7_ok nmX7 rfl rfl (by decide) h0 h1 hlay hw rfl (Or.inl rfl) rfl rfl rfl hd hn kk
theorem gg_7_4 (X : gCx p s m args meth c n0 D cA own cc nL) {index : Nat} {o z : Int} (h0 : 0 ≤ o) (h1 : o < (sz : Int)) (hlay : glay o = (0, 7)) (hw : Cond.fieldLink own index "ParishUnion$Reader" "nots" "I" ∈ gT) (hd : decode cc pc = .ok (.getfield index, 3)) (hn : pc + 3 = n) (hz : M o 4 = z) (kk : G p l e R s m args below meth c n0 D cA nL Q cells slots M sz n L (gJ z :: st)) : G p l e R s m args below meth c n0 D cA nL Q cells slots M sz pc L (gA n0 o :: st) := g_get X 4 iX7 rfl rfl (by decide) h0 h1 hlay hw rfl hd hn (by rw [show M o ((4 : Nat) : Int) = z from hz]; rfl) kk
theorem gp_7_4 (X : gCx p s m args meth c n0 D cA own cc nL) {index : Nat} {o z : Int} (h0 : 0 ≤ o) (h1 : o < (sz : Int)) (hlay : glay o = (0, 7)) (hw : Cond.fieldLink own index "ParishUnion$Reader" "nots" "I" ∈ gT) (hd : decode cc pc = .ok (.putfield index, 3)) (hn : pc + 3 = n) (kk : G p l e R s m args below meth c n0 D cA nL Q cells slots (gset M o 4 z) sz n L st) : G p l e R s m args below meth c n0 D cA nL Q cells slots M sz pc L (gJ z :: gA n0 o :: st) := g_put X (z := z) 4 iX7 tyX7 tyX7_ok nmX7 rfl rfl (by decide) h0 h1 hlay hw rfl (Or.inl rfl) rfl rfl rfl hd hn kk
theorem gg_8_0 (X : gCx p s m args meth c n0 D cA own cc nL) {index : Nat} {o z : Int} (h0 : 0 ≤ o) (h1 : o < (sz : Int)) (hlay : glay o = (0, 8)) (hw : Cond.fieldLink own index "ParishUnion$Right" "kind" "I" ∈ gT) (hd : decode cc pc = .ok (.getfield index, 3)) (hn : pc + 3 = n) (hz : M o 0 = z) (kk : G p l e R s m args below meth c n0 D cA nL Q cells slots M sz n L (gJ z :: st)) : G p l e R s m args below meth c n0 D cA nL Q cells slots M sz pc L (gA n0 o :: st) := g_get X 0 iX8 rfl rfl (by decide) h0 h1 hlay hw rfl hd hn (by rw [show M o ((0 : Nat) : Int) = z from hz]; rfl) kk
theorem gp_8_0 (X : gCx p s m args meth c n0 D cA own cc nL) {index : Nat} {o z : Int} (h0 : 0 ≤ o) (h1 : o < (sz : Int)) (hlay : glay o = (0, 8)) (hw : Cond.fieldLink own index "ParishUnion$Right" "kind" "I" ∈ gT) (hd : decode cc pc = .ok (.putfield index, 3)) (hn : pc + 3 = n) (kk : G p l e R s m args below meth c n0 D cA nL Q cells slots (gset M o 0 z) sz n L st) : G p l e R s m args below meth c n0 D cA nL Q cells slots M sz pc L (gJ z :: gA n0 o :: st) := g_put X (z := z) 0 iX8 tyX8 tyX8_ok nmX8 rfl rfl (by decide) h0 h1 hlay hw rfl (Or.inl rfl) rfl rfl rfl hd hn kk
theorem gg_8_1 (X : gCx p s m args meth c n0 D cA own cc nL) {index : Nat} {o z : Int} (h0 : 0 ≤ o) (h1 : o < (sz : Int)) (hlay : glay o = (0, 8)) (hw : Cond.fieldLink own index "ParishUnion$Right" "person" "I" ∈ gT) (hd : decode cc pc = .ok (.getfield index, 3)) (hn : pc + 3 = n) (hz : M o 1 = z) (kk : G p l e R s m args below meth c n0 D cA nL Q cells slots M sz n L (gJ z :: st)) : G p l e R s m args below meth c n0 D cA nL Q cells slots M sz pc L (gA n0 o :: st) := g_get X 1 iX8 rfl rfl (by decide) h0 h1 hlay hw rfl hd hn (by rw [show M o ((1 : Nat) : Int) = z from hz]; rfl) kk
theorem gp_8_1 (X : gCx p s m args meth c n0 D cA own cc nL) {index : Nat} {o z : Int} (h0 : 0 ≤ o) (h1 : o < (sz : Int)) (hlay : glay o = (0, 8)) (hw : Cond.fieldLink own index "ParishUnion$Right" "person" "I" ∈ gT) (hd : decode cc pc = .ok (.putfield index, 3)) (hn : pc + 3 = n) (kk : G p l e R s m args below meth c n0 D cA nL Q cells slots (gset M o 1 z) sz n L st) : G p l e R s m args below meth c n0 D cA nL Q cells slots M sz pc L (gJ z :: gA n0 o :: st) := g_put X (z := z) 1 iX8 tyX8 tyX8_ok nmX8 rfl rfl (by decide) h0 h1 hlay hw rfl (Or.inl rfl) rfl rfl rfl hd hn kk
theorem gg_8_2 (X : gCx p s m args meth c n0 D cA own cc nL) {index : Nat} {o z : Int} (h0 : 0 ≤ o) (h1 : o < (sz : Int)) (hlay : glay o = (0, 8)) (hw : Cond.fieldLink own index "ParishUnion$Right" "place" "I" ∈ gT) (hd : decode cc pc = .ok (.getfield index, 3)) (hn : pc + 3 = n) (hz : M o 2 = z) (kk : G p l e R s m args below meth c n0 D cA nL Q cells slots M sz n L (gJ z :: st)) : G p l e R s m args below meth c n0 D cA nL Q cells slots M sz pc L (gA n0 o :: st) := g_get X 2 iX8 rfl rfl (by decide) h0 h1 hlay hw rfl hd hn (by rw [show M o ((2 : Nat) : Int) = z from hz]; rfl) kk
theorem gp_8_2 (X : gCx p s m args meth c n0 D cA own cc nL) {index : Nat} {o z : Int} (h0 : 0 ≤ o) (h1 : o < (sz : Int)) (hlay : glay o = (0, 8)) (hw : Cond.fieldLink own index "ParishUnion$Right" "place" "I" ∈ gT) (hd : decode cc pc = .ok (.putfield index, 3)) (hn : pc + 3 = n) (kk : G p l e R s m args below meth c n0 D cA nL Q cells slots (gset M o 2 z) sz n L st) : G p l e R s m args below meth c n0 D cA nL Q cells slots M sz pc L (gJ z :: gA n0 o :: st) := g_put X (z := z) 2 iX8 tyX8 tyX8_ok nmX8 rfl rfl (by decide) h0 h1 hlay hw rfl (Or.inl rfl) rfl rfl rfl hd hn kk
theorem gg_8_3 (X : gCx p s m args meth c n0 D cA own cc nL) {index : Nat} {o z : Int} (h0 : 0 ≤ o) (h1 : o < (sz : Int)) (hlay : glay o = (0, 8)) (hw : Cond.fieldLink own index "ParishUnion$Right" "n" "I" ∈ gT) (hd : decode cc pc = .ok (.getfield index, 3)) (hn : pc + 3 = n) (hz : M o 3 = z) (kk : G p l e R s m args below meth c n0 D cA nL Q cells slots M sz n L (gJ z :: st)) : G p l e R s m args below meth c n0 D cA nL Q cells slots M sz pc L (gA n0 o :: st) := g_get X 3 iX8 rfl rfl (by decide) h0 h1 hlay hw rfl hd hn (by rw [show M o ((3 : Nat) : Int) = z from hz]; rfl) kk
theorem gp_8_3 (X : gCx p s m args meth c n0 D cA own cc nL) {index : Nat} {o z : Int} (h0 : 0 ≤ o) (h1 : o < (sz : Int)) (hlay : glay o = (0, 8)) (hw : Cond.fieldLink own index "ParishUnion$Right" "n" "I" ∈ gT) (hd : decode cc pc = .ok (.putfield index, 3)) (hn : pc + 3 = n) (kk : G p l e R s m args below meth c n0 D cA nL Q cells slots (gset M o 3 z) sz n L st) : G p l e R s m args below meth c n0 D cA nL Q cells slots M sz pc L (gJ z :: gA n0 o :: st) := g_put X (z := z) 3 iX8 tyX8 tyX8_ok nmX8 rfl rfl (by decide) h0 h1 hlay hw rfl (Or.inl rfl) rfl rfl rfl hd hn kk
theorem gg_8_4 (X : gCx p s m args meth c n0 D cA own cc nL) {index : Nat} {o z : Int} (h0 : 0 ≤ o) (h1 : o < (sz : Int)) (hlay : glay o = (0, 8)) (hw : Cond.fieldLink own index "ParishUnion$Right" "week" "I" ∈ gT) (hd : decode cc pc = .ok (.getfield index, 3)) (hn : pc + 3 = n) (hz : M o 4 = z) (kk : G p l e R s m args below meth c n0 D cA nL Q cells slots M sz n L (gJ z :: st)) : G p l e R s m args below meth c n0 D cA nL Q cells slots M sz pc L (gA n0 o :: st) := g_get X 4 iX8 rfl rfl (by decide) h0 h1 hlay hw rfl hd hn (by rw [show M o ((4 : Nat) : Int) = z from hz]; rfl) kk
theorem gp_8_4 (X : gCx p s m args meth c n0 D cA own cc nL) {index : Nat} {o z : Int} (h0 : 0 ≤ o) (h1 : o < (sz : Int)) (hlay : glay o = (0, 8)) (hw : Cond.fieldLink own index "ParishUnion$Right" "week" "I" ∈ gT) (hd : decode cc pc = .ok (.putfield index, 3)) (hn : pc + 3 = n) (kk : G p l e R s m args below meth c n0 D cA nL Q cells slots (gset M o 4 z) sz n L st) : G p l e R s m args below meth c n0 D cA nL Q cells slots M sz pc L (gJ z :: gA n0 o :: st) := g_put X (z := z) 4 iX8 tyX8 tyX8_ok nmX8 rfl rfl (by decide) h0 h1 hlay hw rfl (Or.inl rfl) rfl rfl rfl hd hn kk
theorem gg_8_5 (X : gCx p s m args meth c n0 D cA own cc nL) {index : Nat} {o z : Int} (h0 : 0 ≤ o) (h1 : o < (sz : Int)) (hlay : glay o = (0, 8)) (hw : Cond.fieldLink own index "ParishUnion$Right" "sure" "Z" ∈ gT) (hd : decode cc pc = .ok (.getfield index, 3)) (hn : pc + 3 = n) (hz : M o 5 = z) (kk : G p l e R s m args below meth c n0 D cA nL Q cells slots M sz n L (gJ z :: st)) : G p l e R s m args below meth c n0 D cA nL Q cells slots M sz pc L (gA n0 o :: st) := g_get X 5 iX8 rfl rfl (by decide) h0 h1 hlay hw rfl hd hn (by rw [show M o ((5 : Nat) : Int) = z from hz]; rfl) kk
theorem gp_8_5 (X : gCx p s m args meth c n0 D cA own cc nL) {index : Nat} {o z : Int} (h0 : 0 ≤ o) (h1 : o < (sz : Int)) (hlay : glay o = (0, 8)) (hw : Cond.fieldLink own index "ParishUnion$Right" "sure" "Z" ∈ gT) (hb : z = 0 ∨ z = 1) (hd : decode cc pc = .ok (.putfield index, 3)) (hn : pc + 3 = n) (kk : G p l e R s m args below meth c n0 D cA nL Q cells slots (gset M o 5 z) sz n L st) : G p l e R s m args below meth c n0 D cA nL Q cells slots M sz pc L (gJ z :: gA n0 o :: st) := g_put X (z := z) 5 iX8 tyX8 tyX8_ok nmX8 rfl rfl (by decide) h0 h1 hlay hw rfl (Or.inl rfl) rfl (by rcases hb with rfl | rfl <;> decide +kernel) (by rcases hb with rfl | rfl <;> decide +kernel) hd hn kk
theorem gg_8_6 (X : gCx p s m args meth c n0 D cA own cc nL) {index : Nat} {o z : Int} (h0 : 0 ≤ o) (h1 : o < (sz : Int)) (hlay : glay o = (0, 8)) (hw : Cond.fieldLink own index "ParishUnion$Right" "toldEntry" "I" ∈ gT) (hd : decode cc pc = .ok (.getfield index, 3)) (hn : pc + 3 = n) (hz : M o 6 = z) (kk : G p l e R s m args below meth c n0 D cA nL Q cells slots M sz n L (gJ z :: st)) : G p l e R s m args below meth c n0 D cA nL Q cells slots M sz pc L (gA n0 o :: st) := g_get X 6 iX8 rfl rfl (by decide) h0 h1 hlay hw rfl hd hn (by rw [show M o ((6 : Nat) : Int) = z from hz]; rfl) kk
theorem gp_8_6 (X : gCx p s m args meth c n0 D cA own cc nL) {index : Nat} {o z : Int} (h0 : 0 ≤ o) (h1 : o < (sz : Int)) (hlay : glay o = (0, 8)) (hw : Cond.fieldLink own index "ParishUnion$Right" "toldEntry" "I" ∈ gT) (hd : decode cc pc = .ok (.putfield index, 3)) (hn : pc + 3 = n) (kk : G p l e R s m args below meth c n0 D cA nL Q cells slots (gset M o 6 z) sz n L st) : G p l e R s m args below meth c n0 D cA nL Q cells slots M sz pc L (gJ z :: gA n0 o :: st) := g_put X (z := z) 6 iX8 tyX8 tyX8_ok nmX8 rfl rfl (by decide) h0 h1 hlay hw rfl (Or.inl rfl) rfl rfl rfl hd hn kk
theorem gg_8_7 (X : gCx p s m args meth c n0 D cA own cc nL) {index : Nat} {o z : Int} (h0 : 0 ≤ o) (h1 : o < (sz : Int)) (hlay : glay o = (0, 8)) (hw : Cond.fieldLink own index "ParishUnion$Right" "proofEntry" "I" ∈ gT) (hd : decode cc pc = .ok (.getfield index, 3)) (hn : pc + 3 = n) (hz : M o 7 = z) (kk : G p l e R s m args below meth c n0 D cA nL Q cells slots M sz n L (gJ z :: st)) : G p l e R s m args below meth c n0 D cA nL Q cells slots M sz pc L (gA n0 o :: st) := g_get X 7 iX8 rfl rfl (by decide) h0 h1 hlay hw rfl hd hn (by rw [show M o ((7 : Nat) : Int) = z from hz]; rfl) kk
theorem gp_8_7 (X : gCx p s m args meth c n0 D cA own cc nL) {index : Nat} {o z : Int} (h0 : 0 ≤ o) (h1 : o < (sz : Int)) (hlay : glay o = (0, 8)) (hw : Cond.fieldLink own index "ParishUnion$Right" "proofEntry" "I" ∈ gT) (hd : decode cc pc = .ok (.putfield index, 3)) (hn : pc + 3 = n) (kk : G p l e R s m args below meth c n0 D cA nL Q cells slots (gset M o 7 z) sz n L st) : G p l e R s m args below meth c n0 D cA nL Q cells slots M sz pc L (gJ z :: gA n0 o :: st) := g_put X (z := z) 7 iX8 tyX8 tyX8_ok nmX8 rfl rfl (by decide) h0 h1 hlay hw rfl (Or.inl rfl) rfl rfl rfl hd hn kk
theorem gg_8_8 (X : gCx p s m args meth c n0 D cA own cc nL) {index : Nat} {o z : Int} (h0 : 0 ≤ o) (h1 : o < (sz : Int)) (hlay : glay o = (0, 8)) (hw : Cond.fieldLink own index "ParishUnion$Right" "proved" "Z" ∈ gT) (hd : decode cc pc = .ok (.getfield index, 3)) (hn : pc + 3 = n) (hz : M o 8 = z) (kk : G p l e R s m args below meth c n0 D cA nL Q cells slots M sz n L (gJ z :: st)) : G p l e R s m args below meth c n0 D cA nL Q cells slots M sz pc L (gA n0 o :: st) := g_get X 8 iX8 rfl rfl (by decide) h0 h1 hlay hw rfl hd hn (by rw [show M o ((8 : Nat) : Int) = z from hz]; rfl) kk
theorem gp_8_8 (X : gCx p s m args meth c n0 D cA own cc nL) {index : Nat} {o z : Int} (h0 : 0 ≤ o) (h1 : o < (sz : Int)) (hlay : glay o = (0, 8)) (hw : Cond.fieldLink own index "ParishUnion$Right" "proved" "Z" ∈ gT) (hb : z = 0 ∨ z = 1) (hd : decode cc pc = .ok (.putfield index, 3)) (hn : pc + 3 = n) (kk : G p l e R s m args below meth c n0 D cA nL Q cells slots (gset M o 8 z) sz n L st) : G p l e R s m args below meth c n0 D cA nL Q cells slots M sz pc L (gJ z :: gA n0 o :: st) := g_put X (z := z) 8 iX8 tyX8 tyX8_ok nmX8 rfl rfl (by decide) h0 h1 hlay hw rfl (Or.inl rfl) rfl (by rcases hb with rfl | rfl <;> decide +kernel) (by rcases hb with rfl | rfl <;> decide +kernel) hd hn kk
theorem gg_9_0 (X : gCx p s m args meth c n0 D cA own cc nL) {index : Nat} {o z : Int} (h0 : 0 ≤ o) (h1 : o < (sz : Int)) (hlay : glay o = (0, 9)) (hw : Cond.fieldLink own index "ParishUnion$Union" "land" "LParishUnion$Land;" ∈ gT) (hd : decode cc pc = .ok (.getfield index, 3)) (hn : pc + 3 = n) (hz : M o 0 = z + 1) (ht : 0 ≤ z) (kk : G p l e R s m args below meth c n0 D cA nL Q cells slots M sz n L (gA n0 z :: st)) : G p l e R s m args below meth c n0 D cA nL Q cells slots M sz pc L (gA n0 o :: st) := g_get X 0 iX9 rfl rfl (by decide) h0 h1 hlay hw rfl hd hn (by rw [show M o ((0 : Nat) : Int) = z + 1 from hz]; exact g_rfv n0 _ rfl ht) kk
theorem gp_9_0 (X : gCx p s m args meth c n0 D cA own cc nL) {index : Nat} {o z : Int} (h0 : 0 ≤ o) (h1 : o < (sz : Int)) (hlay : glay o = (0, 9)) (hw : Cond.fieldLink own index "ParishUnion$Union" "land" "LParishUnion$Land;" ∈ gT) (ht : 0 ≤ z) (hm : meth.name = "<init>") (ho : RX9 = own) (hd : decode cc pc = .ok (.putfield index, 3)) (hn : pc + 3 = n) (kk : G p l e R s m args below meth c n0 D cA nL Q cells slots (gset M o 0 (z + 1)) sz n L st) : G p l e R s m args below meth c n0 D cA nL Q cells slots M sz pc L (gA n0 z :: gA n0 o :: st) := g_put X (z := z + 1) 0 iX9 tyX9 tyX9_ok nmX9 rfl rfl (by decide) h0 h1 hlay hw rfl (Or.inr ⟨rfl, hm, ho⟩) (g_rfv n0 _ rfl ht) rfl rfl hd hn kk
theorem gg_9_1 (X : gCx p s m args meth c n0 D cA own cc nL) {index : Nat} {o z : Int} (h0 : 0 ≤ o) (h1 : o < (sz : Int)) (hlay : glay o = (0, 9)) (hw : Cond.fieldLink own index "ParishUnion$Union" "persons" "[LParishUnion$Person;" ∈ gT) (hd : decode cc pc = .ok (.getfield index, 3)) (hn : pc + 3 = n) (hz : M o 1 = z + 1) (ht : 0 ≤ z) (kk : G p l e R s m args below meth c n0 D cA nL Q cells slots M sz n L (gA n0 z :: st)) : G p l e R s m args below meth c n0 D cA nL Q cells slots M sz pc L (gA n0 o :: st) := g_get X 1 iX9 rfl rfl (by decide) h0 h1 hlay hw rfl hd hn (by rw [show M o ((1 : Nat) : Int) = z + 1 from hz]; exact g_rfv n0 _ rfl ht) kk
theorem gp_9_1 (X : gCx p s m args meth c n0 D cA own cc nL) {index : Nat} {o z : Int} (h0 : 0 ≤ o) (h1 : o < (sz : Int)) (hlay : glay o = (0, 9)) (hw : Cond.fieldLink own index "ParishUnion$Union" "persons" "[LParishUnion$Person;" ∈ gT) (ht : 0 ≤ z) (hm : meth.name = "<init>") (ho : RX9 = own) (hd : decode cc pc = .ok (.putfield index, 3)) (hn : pc + 3 = n) (kk : G p l e R s m args below meth c n0 D cA nL Q cells slots (gset M o 1 (z + 1)) sz n L st) : G p l e R s m args below meth c n0 D cA nL Q cells slots M sz pc L (gA n0 z :: gA n0 o :: st) := g_put X (z := z + 1) 1 iX9 tyX9 tyX9_ok nmX9 rfl rfl (by decide) h0 h1 hlay hw rfl (Or.inr ⟨rfl, hm, ho⟩) (g_rfv n0 _ rfl ht) rfl rfl hd hn kk
theorem gg_9_2 (X : gCx p s m args meth c n0 D cA own cc nL) {index : Nat} {o z : Int} (h0 : 0 ≤ o) (h1 : o < (sz : Int)) (hlay : glay o = (0, 9)) (hw : Cond.fieldLink own index "ParishUnion$Union" "rights" "[LParishUnion$Right;" ∈ gT) (hd : decode cc pc = .ok (.getfield index, 3)) (hn : pc + 3 = n) (hz : M o 2 = z + 1) (ht : 0 ≤ z) (kk : G p l e R s m args below meth c n0 D cA nL Q cells slots M sz n L (gA n0 z :: st)) : G p l e R s m args below meth c n0 D cA nL Q cells slots M sz pc L (gA n0 o :: st) := g_get X 2 iX9 rfl rfl (by decide) h0 h1 hlay hw rfl hd hn (by rw [show M o ((2 : Nat) : Int) = z + 1 from hz]; exact g_rfv n0 _ rfl ht) kk
theorem gp_9_2 (X : gCx p s m args meth c n0 D cA own cc nL) {index : Nat} {o z : Int} (h0 : 0 ≤ o) (h1 : o < (sz : Int)) (hlay : glay o = (0, 9)) (hw : Cond.fieldLink own index "ParishUnion$Union" "rights" "[LParishUnion$Right;" ∈ gT) (ht : 0 ≤ z) (hm : meth.name = "<init>") (ho : RX9 = own) (hd : decode cc pc = .ok (.putfield index, 3)) (hn : pc + 3 = n) (kk : G p l e R s m args below meth c n0 D cA nL Q cells slots (gset M o 2 (z + 1)) sz n L st) : G p l e R s m args below meth c n0 D cA nL Q cells slots M sz pc L (gA n0 z :: gA n0 o :: st) := g_put X (z := z + 1) 2 iX9 tyX9 tyX9_ok nmX9 rfl rfl (by decide) h0 h1 hlay hw rfl (Or.inr ⟨rfl, hm, ho⟩) (g_rfv n0 _ rfl ht) rfl rfl hd hn kk
theorem gg_9_3 (X : gCx p s m args meth c n0 D cA own cc nL) {index : Nat} {o z : Int} (h0 : 0 ≤ o) (h1 : o < (sz : Int)) (hlay : glay o = (0, 9)) (hw : Cond.fieldLink own index "ParishUnion$Union" "acts" "[LParishUnion$Act;" ∈ gT) (hd : decode cc pc = .ok (.getfield index, 3)) (hn : pc + 3 = n) (hz : M o 3 = z + 1) (ht : 0 ≤ z) (kk : G p l e R s m args below meth c n0 D cA nL Q cells slots M sz n L (gA n0 z :: st)) : G p l e R s m args below meth c n0 D cA nL Q cells slots M sz pc L (gA n0 o :: st) := g_get X 3 iX9 rfl rfl (by decide) h0 h1 hlay hw rfl hd hn (by rw [show M o ((3 : Nat) : Int) = z + 1 from hz]; exact g_rfv n0 _ rfl ht) kk
theorem gp_9_3 (X : gCx p s m args meth c n0 D cA own cc nL) {index : Nat} {o z : Int} (h0 : 0 ≤ o) (h1 : o < (sz : Int)) (hlay : glay o = (0, 9)) (hw : Cond.fieldLink own index "ParishUnion$Union" "acts" "[LParishUnion$Act;" ∈ gT) (ht : 0 ≤ z) (hm : meth.name = "<init>") (ho : RX9 = own) (hd : decode cc pc = .ok (.putfield index, 3)) (hn : pc + 3 = n) (kk : G p l e R s m args below meth c n0 D cA nL Q cells slots (gset M o 3 (z + 1)) sz n L st) : G p l e R s m args below meth c n0 D cA nL Q cells slots M sz pc L (gA n0 z :: gA n0 o :: st) := g_put X (z := z + 1) 3 iX9 tyX9 tyX9_ok nmX9 rfl rfl (by decide) h0 h1 hlay hw rfl (Or.inr ⟨rfl, hm, ho⟩) (g_rfv n0 _ rfl ht) rfl rfl hd hn kk
theorem gg_9_4 (X : gCx p s m args meth c n0 D cA own cc nL) {index : Nat} {o z : Int} (h0 : 0 ≤ o) (h1 : o < (sz : Int)) (hlay : glay o = (0, 9)) (hw : Cond.fieldLink own index "ParishUnion$Union" "tape" "[B" ∈ gT) (hd : decode cc pc = .ok (.getfield index, 3)) (hn : pc + 3 = n) (hz : M o 4 = z + 1) (ht : 0 ≤ z) (kk : G p l e R s m args below meth c n0 D cA nL Q cells slots M sz n L (gA n0 z :: st)) : G p l e R s m args below meth c n0 D cA nL Q cells slots M sz pc L (gA n0 o :: st) := g_get X 4 iX9 rfl rfl (by decide) h0 h1 hlay hw rfl hd hn (by rw [show M o ((4 : Nat) : Int) = z + 1 from hz]; exact g_rfv n0 _ rfl ht) kk
theorem gp_9_4 (X : gCx p s m args meth c n0 D cA own cc nL) {index : Nat} {o z : Int} (h0 : 0 ≤ o) (h1 : o < (sz : Int)) (hlay : glay o = (0, 9)) (hw : Cond.fieldLink own index "ParishUnion$Union" "tape" "[B" ∈ gT) (ht : 0 ≤ z) (hm : meth.name = "<init>") (ho : RX9 = own) (hd : decode cc pc = .ok (.putfield index, 3)) (hn : pc + 3 = n) (kk : G p l e R s m args below meth c n0 D cA nL Q cells slots (gset M o 4 (z + 1)) sz n L st) : G p l e R s m args below meth c n0 D cA nL Q cells slots M sz pc L (gA n0 z :: gA n0 o :: st) := g_put X (z := z + 1) 4 iX9 tyX9 tyX9_ok nmX9 rfl rfl (by decide) h0 h1 hlay hw rfl (Or.inr ⟨rfl, hm, ho⟩) (g_rfv n0 _ rfl ht) rfl rfl hd hn kk
theorem gg_9_5 (X : gCx p s m args meth c n0 D cA own cc nL) {index : Nat} {o z : Int} (h0 : 0 ≤ o) (h1 : o < (sz : Int)) (hlay : glay o = (0, 9)) (hw : Cond.fieldLink own index "ParishUnion$Union" "orders" "LParishUnion$Orders;" ∈ gT) (hd : decode cc pc = .ok (.getfield index, 3)) (hn : pc + 3 = n) (hz : M o 5 = z + 1) (ht : 0 ≤ z) (kk : G p l e R s m args below meth c n0 D cA nL Q cells slots M sz n L (gA n0 z :: st)) : G p l e R s m args below meth c n0 D cA nL Q cells slots M sz pc L (gA n0 o :: st) := g_get X 5 iX9 rfl rfl (by decide) h0 h1 hlay hw rfl hd hn (by rw [show M o ((5 : Nat) : Int) = z + 1 from hz]; exact g_rfv n0 _ rfl ht) kk
theorem gp_9_5 (X : gCx p s m args meth c n0 D cA own cc nL) {index : Nat} {o z : Int} (h0 : 0 ≤ o) (h1 : o < (sz : Int)) (hlay : glay o = (0, 9)) (hw : Cond.fieldLink own index "ParishUnion$Union" "orders" "LParishUnion$Orders;" ∈ gT) (ht : 0 ≤ z) (hm : meth.name = "<init>") (ho : RX9 = own) (hd : decode cc pc = .ok (.putfield index, 3)) (hn : pc + 3 = n) (kk : G p l e R s m args below meth c n0 D cA nL Q cells slots (gset M o 5 (z + 1)) sz n L st) : G p l e R s m args below meth c n0 D cA nL Q cells slots M sz pc L (gA n0 z :: gA n0 o :: st) := g_put X (z := z + 1) 5 iX9 tyX9 tyX9_ok nmX9 rfl rfl (by decide) h0 h1 hlay hw rfl (Or.inr ⟨rfl, hm, ho⟩) (g_rfv n0 _ rfl ht) rfl rfl hd hn kk
theorem gg_9_6 (X : gCx p s m args meth c n0 D cA own cc nL) {index : Nat} {o z : Int} (h0 : 0 ≤ o) (h1 : o < (sz : Int)) (hlay : glay o = (0, 9)) (hw : Cond.fieldLink own index "ParishUnion$Union" "house" "LParishUnion$House;" ∈ gT) (hd : decode cc pc = .ok (.getfield index, 3)) (hn : pc + 3 = n) (hz : M o 6 = z + 1) (ht : 0 ≤ z) (kk : G p l e R s m args below meth c n0 D cA nL Q cells slots M sz n L (gA n0 z :: st)) : G p l e R s m args below meth c n0 D cA nL Q cells slots M sz pc L (gA n0 o :: st) := g_get X 6 iX9 rfl rfl (by decide) h0 h1 hlay hw rfl hd hn (by rw [show M o ((6 : Nat) : Int) = z + 1 from hz]; exact g_rfv n0 _ rfl ht) kk
theorem gp_9_6 (X : gCx p s m args meth c n0 D cA own cc nL) {index : Nat} {o z : Int} (h0 : 0 ≤ o) (h1 : o < (sz : Int)) (hlay : glay o = (0, 9)) (hw : Cond.fieldLink own index "ParishUnion$Union" "house" "LParishUnion$House;" ∈ gT) (ht : 0 ≤ z) (hm : meth.name = "<init>") (ho : RX9 = own) (hd : decode cc pc = .ok (.putfield index, 3)) (hn : pc + 3 = n) (kk : G p l e R s m args below meth c n0 D cA nL Q cells slots (gset M o 6 (z + 1)) sz n L st) : G p l e R s m args below meth c n0 D cA nL Q cells slots M sz pc L (gA n0 z :: gA n0 o :: st) := g_put X (z := z + 1) 6 iX9 tyX9 tyX9_ok nmX9 rfl rfl (by decide) h0 h1 hlay hw rfl (Or.inr ⟨rfl, hm, ho⟩) (g_rfv n0 _ rfl ht) rfl rfl hd hn kk
theorem gg_9_7 (X : gCx p s m args meth c n0 D cA own cc nL) {index : Nat} {o z : Int} (h0 : 0 ≤ o) (h1 : o < (sz : Int)) (hlay : glay o = (0, 9)) (hw : Cond.fieldLink own index "ParishUnion$Union" "past" "LParishUnion$Past;" ∈ gT) (hd : decode cc pc = .ok (.getfield index, 3)) (hn : pc + 3 = n) (hz : M o 7 = z + 1) (ht : 0 ≤ z) (kk : G p l e R s m args below meth c n0 D cA nL Q cells slots M sz n L (gA n0 z :: st)) : G p l e R s m args below meth c n0 D cA nL Q cells slots M sz pc L (gA n0 o :: st) := g_get X 7 iX9 rfl rfl (by decide) h0 h1 hlay hw rfl hd hn (by rw [show M o ((7 : Nat) : Int) = z + 1 from hz]; exact g_rfv n0 _ rfl ht) kk
theorem gp_9_7 (X : gCx p s m args meth c n0 D cA own cc nL) {index : Nat} {o z : Int} (h0 : 0 ≤ o) (h1 : o < (sz : Int)) (hlay : glay o = (0, 9)) (hw : Cond.fieldLink own index "ParishUnion$Union" "past" "LParishUnion$Past;" ∈ gT) (ht : 0 ≤ z) (hm : meth.name = "<init>") (ho : RX9 = own) (hd : decode cc pc = .ok (.putfield index, 3)) (hn : pc + 3 = n) (kk : G p l e R s m args below meth c n0 D cA nL Q cells slots (gset M o 7 (z + 1)) sz n L st) : G p l e R s m args below meth c n0 D cA nL Q cells slots M sz pc L (gA n0 z :: gA n0 o :: st) := g_put X (z := z + 1) 7 iX9 tyX9 tyX9_ok nmX9 rfl rfl (by decide) h0 h1 hlay hw rfl (Or.inr ⟨rfl, hm, ho⟩) (g_rfv n0 _ rfl ht) rfl rfl hd hn kk
theorem gg_9_8 (X : gCx p s m args meth c n0 D cA own cc nL) {index : Nat} {o z : Int} (h0 : 0 ≤ o) (h1 : o < (sz : Int)) (hlay : glay o = (0, 9)) (hw : Cond.fieldLink own index "ParishUnion$Union" "vagrants" "LParishUnion$Vagrants;" ∈ gT) (hd : decode cc pc = .ok (.getfield index, 3)) (hn : pc + 3 = n) (hz : M o 8 = z + 1) (ht : 0 ≤ z) (kk : G p l e R s m args below meth c n0 D cA nL Q cells slots M sz n L (gA n0 z :: st)) : G p l e R s m args below meth c n0 D cA nL Q cells slots M sz pc L (gA n0 o :: st) := g_get X 8 iX9 rfl rfl (by decide) h0 h1 hlay hw rfl hd hn (by rw [show M o ((8 : Nat) : Int) = z + 1 from hz]; exact g_rfv n0 _ rfl ht) kk
theorem gp_9_8 (X : gCx p s m args meth c n0 D cA own cc nL) {index : Nat} {o z : Int} (h0 : 0 ≤ o) (h1 : o < (sz : Int)) (hlay : glay o = (0, 9)) (hw : Cond.fieldLink own index "ParishUnion$Union" "vagrants" "LParishUnion$Vagrants;" ∈ gT) (ht : 0 ≤ z) (hm : meth.name = "<init>") (ho : RX9 = own) (hd : decode cc pc = .ok (.putfield index, 3)) (hn : pc + 3 = n) (kk : G p l e R s m args below meth c n0 D cA nL Q cells slots (gset M o 8 (z + 1)) sz n L st) : G p l e R s m args below meth c n0 D cA nL Q cells slots M sz pc L (gA n0 z :: gA n0 o :: st) := g_put X (z := z + 1) 8 iX9 tyX9 tyX9_ok nmX9 rfl rfl (by decide) h0 h1 hlay hw rfl (Or.inr ⟨rfl, hm, ho⟩) (g_rfv n0 _ rfl ht) rfl rfl hd hn kk
theorem gg_9_9 (X : gCx p s m args meth c n0 D cA own cc nL) {index : Nat} {o z : Int} (h0 : 0 ≤ o) (h1 : o < (sz : Int)) (hlay : glay o = (0, 9)) (hw : Cond.fieldLink own index "ParishUnion$Union" "rooms" "[I" ∈ gT) (hd : decode cc pc = .ok (.getfield index, 3)) (hn : pc + 3 = n) (hz : M o 9 = z + 1) (ht : 0 ≤ z) (kk : G p l e R s m args below meth c n0 D cA nL Q cells slots M sz n L (gA n0 z :: st)) : G p l e R s m args below meth c n0 D cA nL Q cells slots M sz pc L (gA n0 o :: st) := g_get X 9 iX9 rfl rfl (by decide) h0 h1 hlay hw rfl hd hn (by rw [show M o ((9 : Nat) : Int) = z + 1 from hz]; exact g_rfv n0 _ rfl ht) kk
theorem gp_9_9 (X : gCx p s m args meth c n0 D cA own cc nL) {index : Nat} {o z : Int} (h0 : 0 ≤ o) (h1 : o < (sz : Int)) (hlay : glay o = (0, 9)) (hw : Cond.fieldLink own index "ParishUnion$Union" "rooms" "[I" ∈ gT) (ht : 0 ≤ z) (hm : meth.name = "<init>") (ho : RX9 = own) (hd : decode cc pc = .ok (.putfield index, 3)) (hn : pc + 3 = n) (kk : G p l e R s m args below meth c n0 D cA nL Q cells slots (gset M o 9 (z + 1)) sz n L st) : G p l e R s m args below meth c n0 D cA nL Q cells slots M sz pc L (gA n0 z :: gA n0 o :: st) := g_put X (z := z + 1) 9 iX9 tyX9 tyX9_ok nmX9 rfl rfl (by decide) h0 h1 hlay hw rfl (Or.inr ⟨rfl, hm, ho⟩) (g_rfv n0 _ rfl ht) rfl rfl hd hn kk
theorem gg_9_10 (X : gCx p s m args meth c n0 D cA own cc nL) {index : Nat} {o z : Int} (h0 : 0 ≤ o) (h1 : o < (sz : Int)) (hlay : glay o = (0, 9)) (hw : Cond.fieldLink own index "ParishUnion$Union" "personCount" "I" ∈ gT) (hd : decode cc pc = .ok (.getfield index, 3)) (hn : pc + 3 = n) (hz : M o 10 = z) (kk : G p l e R s m args below meth c n0 D cA nL Q cells slots M sz n L (gJ z :: st)) : G p l e R s m args below meth c n0 D cA nL Q cells slots M sz pc L (gA n0 o :: st) := g_get X 10 iX9 rfl rfl (by decide) h0 h1 hlay hw rfl hd hn (by rw [show M o ((10 : Nat) : Int) = z from hz]; rfl) kk
theorem gp_9_10 (X : gCx p s m args meth c n0 D cA own cc nL) {index : Nat} {o z : Int} (h0 : 0 ≤ o) (h1 : o < (sz : Int)) (hlay : glay o = (0, 9)) (hw : Cond.fieldLink own index "ParishUnion$Union" "personCount" "I" ∈ gT) (hd : decode cc pc = .ok (.putfield index, 3)) (hn : pc + 3 = n) (kk : G p l e R s m args below meth c n0 D cA nL Q cells slots (gset M o 10 z) sz n L st) : G p l e R s m args below meth c n0 D cA nL Q cells slots M sz pc L (gJ z :: gA n0 o :: st) := g_put X (z := z) 10 iX9 tyX9 tyX9_ok nmX9 rfl rfl (by decide) h0 h1 hlay hw rfl (Or.inl rfl) rfl rfl rfl hd hn kk
theorem gg_9_11 (X : gCx p s m args meth c n0 D cA own cc nL) {index : Nat} {o z : Int} (h0 : 0 ≤ o) (h1 : o < (sz : Int)) (hlay : glay o = (0, 9)) (hw : Cond.fieldLink own index "ParishUnion$Union" "rightCount" "I" ∈ gT) (hd : decode cc pc = .ok (.getfield index, 3)) (hn : pc + 3 = n) (hz : M o 11 = z) (kk : G p l e R s m args below meth c n0 D cA nL Q cells slots M sz n L (gJ z :: st)) : G p l e R s m args below meth c n0 D cA nL Q cells slots M sz pc L (gA n0 o :: st) := g_get X 11 iX9 rfl rfl (by decide) h0 h1 hlay hw rfl hd hn (by rw [show M o ((11 : Nat) : Int) = z from hz]; rfl) kk
theorem gp_9_11 (X : gCx p s m args meth c n0 D cA own cc nL) {index : Nat} {o z : Int} (h0 : 0 ≤ o) (h1 : o < (sz : Int)) (hlay : glay o = (0, 9)) (hw : Cond.fieldLink own index "ParishUnion$Union" "rightCount" "I" ∈ gT) (hd : decode cc pc = .ok (.putfield index, 3)) (hn : pc + 3 = n) (kk : G p l e R s m args below meth c n0 D cA nL Q cells slots (gset M o 11 z) sz n L st) : G p l e R s m args below meth c n0 D cA nL Q cells slots M sz pc L (gJ z :: gA n0 o :: st) := g_put X (z := z) 11 iX9 tyX9 tyX9_ok nmX9 rfl rfl (by decide) h0 h1 hlay hw rfl (Or.inl rfl) rfl rfl rfl hd hn kk
theorem gg_9_12 (X : gCx p s m args meth c n0 D cA own cc nL) {index : Nat} {o z : Int} (h0 : 0 ≤ o) (h1 : o < (sz : Int)) (hlay : glay o = (0, 9)) (hw : Cond.fieldLink own index "ParishUnion$Union" "entries" "I" ∈ gT) (hd : decode cc pc = .ok (.getfield index, 3)) (hn : pc + 3 = n) (hz : M o 12 = z) (kk : G p l e R s m args below meth c n0 D cA nL Q cells slots M sz n L (gJ z :: st)) : G p l e R s m args below meth c n0 D cA nL Q cells slots M sz pc L (gA n0 o :: st) := g_get X 12 iX9 rfl rfl (by decide) h0 h1 hlay hw rfl hd hn (by rw [show M o ((12 : Nat) : Int) = z from hz]; rfl) kk
theorem gp_9_12 (X : gCx p s m args meth c n0 D cA own cc nL) {index : Nat} {o z : Int} (h0 : 0 ≤ o) (h1 : o < (sz : Int)) (hlay : glay o = (0, 9)) (hw : Cond.fieldLink own index "ParishUnion$Union" "entries" "I" ∈ gT) (hd : decode cc pc = .ok (.putfield index, 3)) (hn : pc + 3 = n) (kk : G p l e R s m args below meth c n0 D cA nL Q cells slots (gset M o 12 z) sz n L st) : G p l e R s m args below meth c n0 D cA nL Q cells slots M sz pc L (gJ z :: gA n0 o :: st) := g_put X (z := z) 12 iX9 tyX9 tyX9_ok nmX9 rfl rfl (by decide) h0 h1 hlay hw rfl (Or.inl rfl) rfl rfl rfl hd hn kk
theorem gg_9_13 (X : gCx p s m args meth c n0 D cA own cc nL) {index : Nat} {o z : Int} (h0 : 0 ≤ o) (h1 : o < (sz : Int)) (hlay : glay o = (0, 9)) (hw : Cond.fieldLink own index "ParishUnion$Union" "actCount" "I" ∈ gT) (hd : decode cc pc = .ok (.getfield index, 3)) (hn : pc + 3 = n) (hz : M o 13 = z) (kk : G p l e R s m args below meth c n0 D cA nL Q cells slots M sz n L (gJ z :: st)) : G p l e R s m args below meth c n0 D cA nL Q cells slots M sz pc L (gA n0 o :: st) := g_get X 13 iX9 rfl rfl (by decide) h0 h1 hlay hw rfl hd hn (by rw [show M o ((13 : Nat) : Int) = z from hz]; rfl) kk
theorem gp_9_13 (X : gCx p s m args meth c n0 D cA own cc nL) {index : Nat} {o z : Int} (h0 : 0 ≤ o) (h1 : o < (sz : Int)) (hlay : glay o = (0, 9)) (hw : Cond.fieldLink own index "ParishUnion$Union" "actCount" "I" ∈ gT) (hd : decode cc pc = .ok (.putfield index, 3)) (hn : pc + 3 = n) (kk : G p l e R s m args below meth c n0 D cA nL Q cells slots (gset M o 13 z) sz n L st) : G p l e R s m args below meth c n0 D cA nL Q cells slots M sz pc L (gJ z :: gA n0 o :: st) := g_put X (z := z) 13 iX9 tyX9 tyX9_ok nmX9 rfl rfl (by decide) h0 h1 hlay hw rfl (Or.inl rfl) rfl rfl rfl hd hn kk
theorem gg_9_14 (X : gCx p s m args meth c n0 D cA own cc nL) {index : Nat} {o z : Int} (h0 : 0 ≤ o) (h1 : o < (sz : Int)) (hlay : glay o = (0, 9)) (hw : Cond.fieldLink own index "ParishUnion$Union" "tapeSize" "I" ∈ gT) (hd : decode cc pc = .ok (.getfield index, 3)) (hn : pc + 3 = n) (hz : M o 14 = z) (kk : G p l e R s m args below meth c n0 D cA nL Q cells slots M sz n L (gJ z :: st)) : G p l e R s m args below meth c n0 D cA nL Q cells slots M sz pc L (gA n0 o :: st) := g_get X 14 iX9 rfl rfl (by decide) h0 h1 hlay hw rfl hd hn (by rw [show M o ((14 : Nat) : Int) = z from hz]; rfl) kk
theorem gp_9_14 (X : gCx p s m args meth c n0 D cA own cc nL) {index : Nat} {o z : Int} (h0 : 0 ≤ o) (h1 : o < (sz : Int)) (hlay : glay o = (0, 9)) (hw : Cond.fieldLink own index "ParishUnion$Union" "tapeSize" "I" ∈ gT) (hd : decode cc pc = .ok (.putfield index, 3)) (hn : pc + 3 = n) (kk : G p l e R s m args below meth c n0 D cA nL Q cells slots (gset M o 14 z) sz n L st) : G p l e R s m args below meth c n0 D cA nL Q cells slots M sz pc L (gJ z :: gA n0 o :: st) := g_put X (z := z) 14 iX9 tyX9 tyX9_ok nmX9 rfl rfl (by decide) h0 h1 hlay hw rfl (Or.inl rfl) rfl rfl rfl hd hn kk
theorem gg_9_15 (X : gCx p s m args meth c n0 D cA own cc nL) {index : Nat} {o z : Int} (h0 : 0 ≤ o) (h1 : o < (sz : Int)) (hlay : glay o = (0, 9)) (hw : Cond.fieldLink own index "ParishUnion$Union" "now" "I" ∈ gT) (hd : decode cc pc = .ok (.getfield index, 3)) (hn : pc + 3 = n) (hz : M o 15 = z) (kk : G p l e R s m args below meth c n0 D cA nL Q cells slots M sz n L (gJ z :: st)) : G p l e R s m args below meth c n0 D cA nL Q cells slots M sz pc L (gA n0 o :: st) := g_get X 15 iX9 rfl rfl (by decide) h0 h1 hlay hw rfl hd hn (by rw [show M o ((15 : Nat) : Int) = z from hz]; rfl) kk
theorem gp_9_15 (X : gCx p s m args meth c n0 D cA own cc nL) {index : Nat} {o z : Int} (h0 : 0 ≤ o) (h1 : o < (sz : Int)) (hlay : glay o = (0, 9)) (hw : Cond.fieldLink own index "ParishUnion$Union" "now" "I" ∈ gT) (hd : decode cc pc = .ok (.putfield index, 3)) (hn : pc + 3 = n) (kk : G p l e R s m args below meth c n0 D cA nL Q cells slots (gset M o 15 z) sz n L st) : G p l e R s m args below meth c n0 D cA nL Q cells slots M sz pc L (gJ z :: gA n0 o :: st) := g_put X (z := z) 15 iX9 tyX9 tyX9_ok nmX9 rfl rfl (by decide) h0 h1 hlay hw rfl (Or.inl rfl) rfl rfl rfl hd hn kk
theorem gg_10_0 (X : gCx p s m args meth c n0 D cA own cc nL) {index : Nat} {o z : Int} (h0 : 0 ≤ o) (h1 : o < (sz : Int)) (hlay : glay o = (0, 10)) (hw : Cond.fieldLink own index "ParishUnion$Vagrants" "name" "[I" ∈ gT) (hd : decode cc pc = .ok (.getfield index, 3)) (hn : pc + 3 = n) (hz : M o 0 = z + 1) (ht : 0 ≤ z) (kk : G p l e R s m args below meth c n0 D cA nL Q cells slots M sz n L (gA n0 z :: st)) : G p l e R s m args below meth c n0 D cA nL Q cells slots M sz pc L (gA n0 o :: st) := g_get X 0 iX10 rfl rfl (by decide) h0 h1 hlay hw rfl hd hn (by rw [show M o ((0 : Nat) : Int) = z + 1 from hz]; exact g_rfv n0 _ rfl ht) kk
theorem gp_10_0 (X : gCx p s m args meth c n0 D cA own cc nL) {index : Nat} {o z : Int} (h0 : 0 ≤ o) (h1 : o < (sz : Int)) (hlay : glay o = (0, 10)) (hw : Cond.fieldLink own index "ParishUnion$Vagrants" "name" "[I" ∈ gT) (ht : 0 ≤ z) (hm : meth.name = "<init>") (ho : RX10 = own) (hd : decode cc pc = .ok (.putfield index, 3)) (hn : pc + 3 = n) (kk : G p l e R s m args below meth c n0 D cA nL Q cells slots (gset M o 0 (z + 1)) sz n L st) : G p l e R s m args below meth c n0 D cA nL Q cells slots M sz pc L (gA n0 z :: gA n0 o :: st) := g_put X (z := z + 1) 0 iX10 tyX10 tyX10_ok nmX10 rfl rfl (by decide) h0 h1 hlay hw rfl (Or.inr ⟨rfl, hm, ho⟩) (g_rfv n0 _ rfl ht) rfl rfl hd hn kk
theorem gg_10_1 (X : gCx p s m args meth c n0 D cA own cc nL) {index : Nat} {o z : Int} (h0 : 0 ≤ o) (h1 : o < (sz : Int)) (hlay : glay o = (0, 10)) (hw : Cond.fieldLink own index "ParishUnion$Vagrants" "parish" "[I" ∈ gT) (hd : decode cc pc = .ok (.getfield index, 3)) (hn : pc + 3 = n) (hz : M o 1 = z + 1) (ht : 0 ≤ z) (kk : G p l e R s m args below meth c n0 D cA nL Q cells slots M sz n L (gA n0 z :: st)) : G p l e R s m args below meth c n0 D cA nL Q cells slots M sz pc L (gA n0 o :: st) := g_get X 1 iX10 rfl rfl (by decide) h0 h1 hlay hw rfl hd hn (by rw [show M o ((1 : Nat) : Int) = z + 1 from hz]; exact g_rfv n0 _ rfl ht) kk
theorem gp_10_1 (X : gCx p s m args meth c n0 D cA own cc nL) {index : Nat} {o z : Int} (h0 : 0 ≤ o) (h1 : o < (sz : Int)) (hlay : glay o = (0, 10)) (hw : Cond.fieldLink own index "ParishUnion$Vagrants" "parish" "[I" ∈ gT) (ht : 0 ≤ z) (hm : meth.name = "<init>") (ho : RX10 = own) (hd : decode cc pc = .ok (.putfield index, 3)) (hn : pc + 3 = n) (kk : G p l e R s m args below meth c n0 D cA nL Q cells slots (gset M o 1 (z + 1)) sz n L st) : G p l e R s m args below meth c n0 D cA nL Q cells slots M sz pc L (gA n0 z :: gA n0 o :: st) := g_put X (z := z + 1) 1 iX10 tyX10 tyX10_ok nmX10 rfl rfl (by decide) h0 h1 hlay hw rfl (Or.inr ⟨rfl, hm, ho⟩) (g_rfv n0 _ rfl ht) rfl rfl hd hn kk
theorem gg_10_2 (X : gCx p s m args meth c n0 D cA own cc nL) {index : Nat} {o z : Int} (h0 : 0 ≤ o) (h1 : o < (sz : Int)) (hlay : glay o = (0, 10)) (hw : Cond.fieldLink own index "ParishUnion$Vagrants" "week" "[I" ∈ gT) (hd : decode cc pc = .ok (.getfield index, 3)) (hn : pc + 3 = n) (hz : M o 2 = z + 1) (ht : 0 ≤ z) (kk : G p l e R s m args below meth c n0 D cA nL Q cells slots M sz n L (gA n0 z :: st)) : G p l e R s m args below meth c n0 D cA nL Q cells slots M sz pc L (gA n0 o :: st) := g_get X 2 iX10 rfl rfl (by decide) h0 h1 hlay hw rfl hd hn (by rw [show M o ((2 : Nat) : Int) = z + 1 from hz]; exact g_rfv n0 _ rfl ht) kk
theorem gp_10_2 (X : gCx p s m args meth c n0 D cA own cc nL) {index : Nat} {o z : Int} (h0 : 0 ≤ o) (h1 : o < (sz : Int)) (hlay : glay o = (0, 10)) (hw : Cond.fieldLink own index "ParishUnion$Vagrants" "week" "[I" ∈ gT) (ht : 0 ≤ z) (hm : meth.name = "<init>") (ho : RX10 = own) (hd : decode cc pc = .ok (.putfield index, 3)) (hn : pc + 3 = n) (kk : G p l e R s m args below meth c n0 D cA nL Q cells slots (gset M o 2 (z + 1)) sz n L st) : G p l e R s m args below meth c n0 D cA nL Q cells slots M sz pc L (gA n0 z :: gA n0 o :: st) := g_put X (z := z + 1) 2 iX10 tyX10 tyX10_ok nmX10 rfl rfl (by decide) h0 h1 hlay hw rfl (Or.inr ⟨rfl, hm, ho⟩) (g_rfv n0 _ rfl ht) rfl rfl hd hn kk
theorem gg_10_3 (X : gCx p s m args meth c n0 D cA own cc nL) {index : Nat} {o z : Int} (h0 : 0 ≤ o) (h1 : o < (sz : Int)) (hlay : glay o = (0, 10)) (hw : Cond.fieldLink own index "ParishUnion$Vagrants" "count" "I" ∈ gT) (hd : decode cc pc = .ok (.getfield index, 3)) (hn : pc + 3 = n) (hz : M o 3 = z) (kk : G p l e R s m args below meth c n0 D cA nL Q cells slots M sz n L (gJ z :: st)) : G p l e R s m args below meth c n0 D cA nL Q cells slots M sz pc L (gA n0 o :: st) := g_get X 3 iX10 rfl rfl (by decide) h0 h1 hlay hw rfl hd hn (by rw [show M o ((3 : Nat) : Int) = z from hz]; rfl) kk
theorem gp_10_3 (X : gCx p s m args meth c n0 D cA own cc nL) {index : Nat} {o z : Int} (h0 : 0 ≤ o) (h1 : o < (sz : Int)) (hlay : glay o = (0, 10)) (hw : Cond.fieldLink own index "ParishUnion$Vagrants" "count" "I" ∈ gT) (hd : decode cc pc = .ok (.putfield index, 3)) (hn : pc + 3 = n) (kk : G p l e R s m args below meth c n0 D cA nL Q cells slots (gset M o 3 z) sz n L st) : G p l e R s m args below meth c n0 D cA nL Q cells slots M sz pc L (gJ z :: gA n0 o :: st) := g_put X (z := z) 3 iX10 tyX10 tyX10_ok nmX10 rfl rfl (by decide) h0 h1 hlay hw rfl (Or.inl rfl) rfl rfl rfl hd hn kk
theorem gg_11_0 (X : gCx p s m args meth c n0 D cA own cc nL) {index : Nat} {o z : Int} (h0 : 0 ≤ o) (h1 : o < (sz : Int)) (hlay : glay o = (0, 11)) (hw : Cond.fieldLink own index "ParishUnion" "union" "LParishUnion$Union;" ∈ gT) (hd : decode cc pc = .ok (.getfield index, 3)) (hn : pc + 3 = n) (hz : M o 0 = z + 1) (ht : 0 ≤ z) (kk : G p l e R s m args below meth c n0 D cA nL Q cells slots M sz n L (gA n0 z :: st)) : G p l e R s m args below meth c n0 D cA nL Q cells slots M sz pc L (gA n0 o :: st) := g_get X 0 iX11 rfl rfl (by decide) h0 h1 hlay hw rfl hd hn (by rw [show M o ((0 : Nat) : Int) = z + 1 from hz]; exact g_rfv n0 _ rfl ht) kk
theorem gp_11_0 (X : gCx p s m args meth c n0 D cA own cc nL) {index : Nat} {o z : Int} (h0 : 0 ≤ o) (h1 : o < (sz : Int)) (hlay : glay o = (0, 11)) (hw : Cond.fieldLink own index "ParishUnion" "union" "LParishUnion$Union;" ∈ gT) (ht : 0 ≤ z) (hm : meth.name = "<init>") (ho : RX11 = own) (hd : decode cc pc = .ok (.putfield index, 3)) (hn : pc + 3 = n) (kk : G p l e R s m args below meth c n0 D cA nL Q cells slots (gset M o 0 (z + 1)) sz n L st) : G p l e R s m args below meth c n0 D cA nL Q cells slots M sz pc L (gA n0 z :: gA n0 o :: st) := g_put X (z := z + 1) 0 iX11 tyX11 tyX11_ok nmX11 rfl rfl (by decide) h0 h1 hlay hw rfl (Or.inr ⟨rfl, hm, ho⟩) (g_rfv n0 _ rfl ht) rfl rfl hd hn kk
theorem gg_11_1 (X : gCx p s m args meth c n0 D cA own cc nL) {index : Nat} {o z : Int} (h0 : 0 ≤ o) (h1 : o < (sz : Int)) (hlay : glay o = (0, 11)) (hw : Cond.fieldLink own index "ParishUnion" "bench" "LParishUnion$Bench;" ∈ gT) (hd : decode cc pc = .ok (.getfield index, 3)) (hn : pc + 3 = n) (hz : M o 1 = z + 1) (ht : 0 ≤ z) (kk : G p l e R s m args below meth c n0 D cA nL Q cells slots M sz n L (gA n0 z :: st)) : G p l e R s m args below meth c n0 D cA nL Q cells slots M sz pc L (gA n0 o :: st) := g_get X 1 iX11 rfl rfl (by decide) h0 h1 hlay hw rfl hd hn (by rw [show M o ((1 : Nat) : Int) = z + 1 from hz]; exact g_rfv n0 _ rfl ht) kk
theorem gp_11_1 (X : gCx p s m args meth c n0 D cA own cc nL) {index : Nat} {o z : Int} (h0 : 0 ≤ o) (h1 : o < (sz : Int)) (hlay : glay o = (0, 11)) (hw : Cond.fieldLink own index "ParishUnion" "bench" "LParishUnion$Bench;" ∈ gT) (ht : 0 ≤ z) (hm : meth.name = "<init>") (ho : RX11 = own) (hd : decode cc pc = .ok (.putfield index, 3)) (hn : pc + 3 = n) (kk : G p l e R s m args below meth c n0 D cA nL Q cells slots (gset M o 1 (z + 1)) sz n L st) : G p l e R s m args below meth c n0 D cA nL Q cells slots M sz pc L (gA n0 z :: gA n0 o :: st) := g_put X (z := z + 1) 1 iX11 tyX11 tyX11_ok nmX11 rfl rfl (by decide) h0 h1 hlay hw rfl (Or.inr ⟨rfl, hm, ho⟩) (g_rfv n0 _ rfl ht) rfl rfl hd hn kk
theorem gg_11_2 (X : gCx p s m args meth c n0 D cA own cc nL) {index : Nat} {o z : Int} (h0 : 0 ≤ o) (h1 : o < (sz : Int)) (hlay : glay o = (0, 11)) (hw : Cond.fieldLink own index "ParishUnion" "reader" "LParishUnion$Reader;" ∈ gT) (hd : decode cc pc = .ok (.getfield index, 3)) (hn : pc + 3 = n) (hz : M o 2 = z + 1) (ht : 0 ≤ z) (kk : G p l e R s m args below meth c n0 D cA nL Q cells slots M sz n L (gA n0 z :: st)) : G p l e R s m args below meth c n0 D cA nL Q cells slots M sz pc L (gA n0 o :: st) := g_get X 2 iX11 rfl rfl (by decide) h0 h1 hlay hw rfl hd hn (by rw [show M o ((2 : Nat) : Int) = z + 1 from hz]; exact g_rfv n0 _ rfl ht) kk
theorem gp_11_2 (X : gCx p s m args meth c n0 D cA own cc nL) {index : Nat} {o z : Int} (h0 : 0 ≤ o) (h1 : o < (sz : Int)) (hlay : glay o = (0, 11)) (hw : Cond.fieldLink own index "ParishUnion" "reader" "LParishUnion$Reader;" ∈ gT) (ht : 0 ≤ z) (hm : meth.name = "<init>") (ho : RX11 = own) (hd : decode cc pc = .ok (.putfield index, 3)) (hn : pc + 3 = n) (kk : G p l e R s m args below meth c n0 D cA nL Q cells slots (gset M o 2 (z + 1)) sz n L st) : G p l e R s m args below meth c n0 D cA nL Q cells slots M sz pc L (gA n0 z :: gA n0 o :: st) := g_put X (z := z + 1) 2 iX11 tyX11 tyX11_ok nmX11 rfl rfl (by decide) h0 h1 hlay hw rfl (Or.inr ⟨rfl, hm, ho⟩) (g_rfv n0 _ rfl ht) rfl rfl hd hn kk
theorem gg_11_3 (X : gCx p s m args meth c n0 D cA own cc nL) {index : Nat} {o z : Int} (h0 : 0 ≤ o) (h1 : o < (sz : Int)) (hlay : glay o = (0, 11)) (hw : Cond.fieldLink own index "ParishUnion" "personsBefore" "[LParishUnion$Person;" ∈ gT) (hd : decode cc pc = .ok (.getfield index, 3)) (hn : pc + 3 = n) (hz : M o 3 = z + 1) (ht : 0 ≤ z) (kk : G p l e R s m args below meth c n0 D cA nL Q cells slots M sz n L (gA n0 z :: st)) : G p l e R s m args below meth c n0 D cA nL Q cells slots M sz pc L (gA n0 o :: st) := g_get X 3 iX11 rfl rfl (by decide) h0 h1 hlay hw rfl hd hn (by rw [show M o ((3 : Nat) : Int) = z + 1 from hz]; exact g_rfv n0 _ rfl ht) kk
theorem gp_11_3 (X : gCx p s m args meth c n0 D cA own cc nL) {index : Nat} {o z : Int} (h0 : 0 ≤ o) (h1 : o < (sz : Int)) (hlay : glay o = (0, 11)) (hw : Cond.fieldLink own index "ParishUnion" "personsBefore" "[LParishUnion$Person;" ∈ gT) (ht : 0 ≤ z) (hm : meth.name = "<init>") (ho : RX11 = own) (hd : decode cc pc = .ok (.putfield index, 3)) (hn : pc + 3 = n) (kk : G p l e R s m args below meth c n0 D cA nL Q cells slots (gset M o 3 (z + 1)) sz n L st) : G p l e R s m args below meth c n0 D cA nL Q cells slots M sz pc L (gA n0 z :: gA n0 o :: st) := g_put X (z := z + 1) 3 iX11 tyX11 tyX11_ok nmX11 rfl rfl (by decide) h0 h1 hlay hw rfl (Or.inr ⟨rfl, hm, ho⟩) (g_rfv n0 _ rfl ht) rfl rfl hd hn kk
theorem gg_11_4 (X : gCx p s m args meth c n0 D cA own cc nL) {index : Nat} {o z : Int} (h0 : 0 ≤ o) (h1 : o < (sz : Int)) (hlay : glay o = (0, 11)) (hw : Cond.fieldLink own index "ParishUnion" "houseBefore" "LParishUnion$House;" ∈ gT) (hd : decode cc pc = .ok (.getfield index, 3)) (hn : pc + 3 = n) (hz : M o 4 = z + 1) (ht : 0 ≤ z) (kk : G p l e R s m args below meth c n0 D cA nL Q cells slots M sz n L (gA n0 z :: st)) : G p l e R s m args below meth c n0 D cA nL Q cells slots M sz pc L (gA n0 o :: st) := g_get X 4 iX11 rfl rfl (by decide) h0 h1 hlay hw rfl hd hn (by rw [show M o ((4 : Nat) : Int) = z + 1 from hz]; exact g_rfv n0 _ rfl ht) kk
theorem gp_11_4 (X : gCx p s m args meth c n0 D cA own cc nL) {index : Nat} {o z : Int} (h0 : 0 ≤ o) (h1 : o < (sz : Int)) (hlay : glay o = (0, 11)) (hw : Cond.fieldLink own index "ParishUnion" "houseBefore" "LParishUnion$House;" ∈ gT) (ht : 0 ≤ z) (hm : meth.name = "<init>") (ho : RX11 = own) (hd : decode cc pc = .ok (.putfield index, 3)) (hn : pc + 3 = n) (kk : G p l e R s m args below meth c n0 D cA nL Q cells slots (gset M o 4 (z + 1)) sz n L st) : G p l e R s m args below meth c n0 D cA nL Q cells slots M sz pc L (gA n0 z :: gA n0 o :: st) := g_put X (z := z + 1) 4 iX11 tyX11 tyX11_ok nmX11 rfl rfl (by decide) h0 h1 hlay hw rfl (Or.inr ⟨rfl, hm, ho⟩) (g_rfv n0 _ rfl ht) rfl rfl hd hn kk
theorem gg_11_5 (X : gCx p s m args meth c n0 D cA own cc nL) {index : Nat} {o z : Int} (h0 : 0 ≤ o) (h1 : o < (sz : Int)) (hlay : glay o = (0, 11)) (hw : Cond.fieldLink own index "ParishUnion" "weights" "[J" ∈ gT) (hd : decode cc pc = .ok (.getfield index, 3)) (hn : pc + 3 = n) (hz : M o 5 = z + 1) (ht : 0 ≤ z) (kk : G p l e R s m args below meth c n0 D cA nL Q cells slots M sz n L (gA n0 z :: st)) : G p l e R s m args below meth c n0 D cA nL Q cells slots M sz pc L (gA n0 o :: st) := g_get X 5 iX11 rfl rfl (by decide) h0 h1 hlay hw rfl hd hn (by rw [show M o ((5 : Nat) : Int) = z + 1 from hz]; exact g_rfv n0 _ rfl ht) kk
theorem gp_11_5 (X : gCx p s m args meth c n0 D cA own cc nL) {index : Nat} {o z : Int} (h0 : 0 ≤ o) (h1 : o < (sz : Int)) (hlay : glay o = (0, 11)) (hw : Cond.fieldLink own index "ParishUnion" "weights" "[J" ∈ gT) (ht : 0 ≤ z) (hm : meth.name = "<init>") (ho : RX11 = own) (hd : decode cc pc = .ok (.putfield index, 3)) (hn : pc + 3 = n) (kk : G p l e R s m args below meth c n0 D cA nL Q cells slots (gset M o 5 (z + 1)) sz n L st) : G p l e R s m args below meth c n0 D cA nL Q cells slots M sz pc L (gA n0 z :: gA n0 o :: st) := g_put X (z := z + 1) 5 iX11 tyX11 tyX11_ok nmX11 rfl rfl (by decide) h0 h1 hlay hw rfl (Or.inr ⟨rfl, hm, ho⟩) (g_rfv n0 _ rfl ht) rfl rfl hd hn kk
theorem gg_11_6 (X : gCx p s m args meth c n0 D cA own cc nL) {index : Nat} {o z : Int} (h0 : 0 ≤ o) (h1 : o < (sz : Int)) (hlay : glay o = (0, 11)) (hw : Cond.fieldLink own index "ParishUnion" "rests" "[J" ∈ gT) (hd : decode cc pc = .ok (.getfield index, 3)) (hn : pc + 3 = n) (hz : M o 6 = z + 1) (ht : 0 ≤ z) (kk : G p l e R s m args below meth c n0 D cA nL Q cells slots M sz n L (gA n0 z :: st)) : G p l e R s m args below meth c n0 D cA nL Q cells slots M sz pc L (gA n0 o :: st) := g_get X 6 iX11 rfl rfl (by decide) h0 h1 hlay hw rfl hd hn (by rw [show M o ((6 : Nat) : Int) = z + 1 from hz]; exact g_rfv n0 _ rfl ht) kk
theorem gp_11_6 (X : gCx p s m args meth c n0 D cA own cc nL) {index : Nat} {o z : Int} (h0 : 0 ≤ o) (h1 : o < (sz : Int)) (hlay : glay o = (0, 11)) (hw : Cond.fieldLink own index "ParishUnion" "rests" "[J" ∈ gT) (ht : 0 ≤ z) (hm : meth.name = "<init>") (ho : RX11 = own) (hd : decode cc pc = .ok (.putfield index, 3)) (hn : pc + 3 = n) (kk : G p l e R s m args below meth c n0 D cA nL Q cells slots (gset M o 6 (z + 1)) sz n L st) : G p l e R s m args below meth c n0 D cA nL Q cells slots M sz pc L (gA n0 z :: gA n0 o :: st) := g_put X (z := z + 1) 6 iX11 tyX11 tyX11_ok nmX11 rfl rfl (by decide) h0 h1 hlay hw rfl (Or.inr ⟨rfl, hm, ho⟩) (g_rfv n0 _ rfl ht) rfl rfl hd hn kk
theorem gg_11_7 (X : gCx p s m args meth c n0 D cA own cc nL) {index : Nat} {o z : Int} (h0 : 0 ≤ o) (h1 : o < (sz : Int)) (hlay : glay o = (0, 11)) (hw : Cond.fieldLink own index "ParishUnion" "shares" "[I" ∈ gT) (hd : decode cc pc = .ok (.getfield index, 3)) (hn : pc + 3 = n) (hz : M o 7 = z + 1) (ht : 0 ≤ z) (kk : G p l e R s m args below meth c n0 D cA nL Q cells slots M sz n L (gA n0 z :: st)) : G p l e R s m args below meth c n0 D cA nL Q cells slots M sz pc L (gA n0 o :: st) := g_get X 7 iX11 rfl rfl (by decide) h0 h1 hlay hw rfl hd hn (by rw [show M o ((7 : Nat) : Int) = z + 1 from hz]; exact g_rfv n0 _ rfl ht) kk
theorem gp_11_7 (X : gCx p s m args meth c n0 D cA own cc nL) {index : Nat} {o z : Int} (h0 : 0 ≤ o) (h1 : o < (sz : Int)) (hlay : glay o = (0, 11)) (hw : Cond.fieldLink own index "ParishUnion" "shares" "[I" ∈ gT) (ht : 0 ≤ z) (hm : meth.name = "<init>") (ho : RX11 = own) (hd : decode cc pc = .ok (.putfield index, 3)) (hn : pc + 3 = n) (kk : G p l e R s m args below meth c n0 D cA nL Q cells slots (gset M o 7 (z + 1)) sz n L st) : G p l e R s m args below meth c n0 D cA nL Q cells slots M sz pc L (gA n0 z :: gA n0 o :: st) := g_put X (z := z + 1) 7 iX11 tyX11 tyX11_ok nmX11 rfl rfl (by decide) h0 h1 hlay hw rfl (Or.inr ⟨rfl, hm, ho⟩) (g_rfv n0 _ rfl ht) rfl rfl hd hn kk
theorem gg_11_8 (X : gCx p s m args meth c n0 D cA own cc nL) {index : Nat} {o z : Int} (h0 : 0 ≤ o) (h1 : o < (sz : Int)) (hlay : glay o = (0, 11)) (hw : Cond.fieldLink own index "ParishUnion" "burdens" "[J" ∈ gT) (hd : decode cc pc = .ok (.getfield index, 3)) (hn : pc + 3 = n) (hz : M o 8 = z + 1) (ht : 0 ≤ z) (kk : G p l e R s m args below meth c n0 D cA nL Q cells slots M sz n L (gA n0 z :: st)) : G p l e R s m args below meth c n0 D cA nL Q cells slots M sz pc L (gA n0 o :: st) := g_get X 8 iX11 rfl rfl (by decide) h0 h1 hlay hw rfl hd hn (by rw [show M o ((8 : Nat) : Int) = z + 1 from hz]; exact g_rfv n0 _ rfl ht) kk
theorem gp_11_8 (X : gCx p s m args meth c n0 D cA own cc nL) {index : Nat} {o z : Int} (h0 : 0 ≤ o) (h1 : o < (sz : Int)) (hlay : glay o = (0, 11)) (hw : Cond.fieldLink own index "ParishUnion" "burdens" "[J" ∈ gT) (ht : 0 ≤ z) (hm : meth.name = "<init>") (ho : RX11 = own) (hd : decode cc pc = .ok (.putfield index, 3)) (hn : pc + 3 = n) (kk : G p l e R s m args below meth c n0 D cA nL Q cells slots (gset M o 8 (z + 1)) sz n L st) : G p l e R s m args below meth c n0 D cA nL Q cells slots M sz pc L (gA n0 z :: gA n0 o :: st) := g_put X (z := z + 1) 8 iX11 tyX11 tyX11_ok nmX11 rfl rfl (by decide) h0 h1 hlay hw rfl (Or.inr ⟨rfl, hm, ho⟩) (g_rfv n0 _ rfl ht) rfl rfl hd hn kk
theorem gg_11_9 (X : gCx p s m args meth c n0 D cA own cc nL) {index : Nat} {o z : Int} (h0 : 0 ≤ o) (h1 : o < (sz : Int)) (hlay : glay o = (0, 11)) (hw : Cond.fieldLink own index "ParishUnion" "kept" "LParishUnion$Union;" ∈ gT) (hd : decode cc pc = .ok (.getfield index, 3)) (hn : pc + 3 = n) (hz : M o 9 = z + 1) (ht : 0 ≤ z) (kk : G p l e R s m args below meth c n0 D cA nL Q cells slots M sz n L (gA n0 z :: st)) : G p l e R s m args below meth c n0 D cA nL Q cells slots M sz pc L (gA n0 o :: st) := g_get X 9 iX11 rfl rfl (by decide) h0 h1 hlay hw rfl hd hn (by rw [show M o ((9 : Nat) : Int) = z + 1 from hz]; exact g_rfv n0 _ rfl ht) kk
theorem gp_11_9 (X : gCx p s m args meth c n0 D cA own cc nL) {index : Nat} {o z : Int} (h0 : 0 ≤ o) (h1 : o < (sz : Int)) (hlay : glay o = (0, 11)) (hw : Cond.fieldLink own index "ParishUnion" "kept" "LParishUnion$Union;" ∈ gT) (ht : 0 ≤ z) (hd : decode cc pc = .ok (.putfield index, 3)) (hn : pc + 3 = n) (kk : G p l e R s m args below meth c n0 D cA nL Q cells slots (gset M o 9 (z + 1)) sz n L st) : G p l e R s m args below meth c n0 D cA nL Q cells slots M sz pc L (gA n0 z :: gA n0 o :: st) := g_put X (z := z + 1) 9 iX11 tyX11 tyX11_ok nmX11 rfl rfl (by decide) h0 h1 hlay hw rfl (Or.inl rfl) (g_rfv n0 _ rfl ht) rfl rfl hd hn kk
theorem gn_11_9 (X : gCx p s m args meth c n0 D cA own cc nL) {index : Nat} {o : Int} (h0 : 0 ≤ o) (h1 : o < (sz : Int)) (hlay : glay o = (0, 11)) (hw : Cond.fieldLink own index "ParishUnion" "kept" "LParishUnion$Union;" ∈ gT) (hd : decode cc pc = .ok (.getfield index, 3)) (hn : pc + 3 = n) (hz : M o 9 = 0) (kk : G p l e R s m args below meth c n0 D cA nL Q cells slots M sz n L (.null :: st)) : G p l e R s m args below meth c n0 D cA nL Q cells slots M sz pc L (gA n0 o :: st) := g_get X 9 iX11 rfl rfl (by decide) h0 h1 hlay hw rfl hd hn (by rw [show M o ((9 : Nat) : Int) = 0 from hz]; rfl) kk
theorem gg_12_0 (X : gCx p s m args meth c n0 D cA own cc nL) {index : Nat} {o z : Int} (h0 : 0 ≤ o) (h1 : o < (sz : Int)) (hlay : glay o = (0, 12)) (hw : Cond.fieldLink own index "ParishUnionModel" "thrown" "I" ∈ gT) (hd : decode cc pc = .ok (.getfield index, 3)) (hn : pc + 3 = n) (hz : M o 0 = z) (kk : G p l e R s m args below meth c n0 D cA nL Q cells slots M sz n L (gJ z :: st)) : G p l e R s m args below meth c n0 D cA nL Q cells slots M sz pc L (gA n0 o :: st) := g_get X 0 iX12 rfl rfl (by decide) h0 h1 hlay hw rfl hd hn (by rw [show M o ((0 : Nat) : Int) = z from hz]; rfl) kk
theorem gp_12_0 (X : gCx p s m args meth c n0 D cA own cc nL) {index : Nat} {o z : Int} (h0 : 0 ≤ o) (h1 : o < (sz : Int)) (hlay : glay o = (0, 12)) (hw : Cond.fieldLink own index "ParishUnionModel" "thrown" "I" ∈ gT) (hd : decode cc pc = .ok (.putfield index, 3)) (hn : pc + 3 = n) (kk : G p l e R s m args below meth c n0 D cA nL Q cells slots (gset M o 0 z) sz n L st) : G p l e R s m args below meth c n0 D cA nL Q cells slots M sz pc L (gJ z :: gA n0 o :: st) := g_put X (z := z) 0 iX12 tyX12 tyX12_ok nmX12 rfl rfl (by decide) h0 h1 hlay hw rfl (Or.inl rfl) rfl rfl rfl hd hn kk
theorem gg_12_1 (X : gCx p s m args meth c n0 D cA own cc nL) {index : Nat} {o z : Int} (h0 : 0 ≤ o) (h1 : o < (sz : Int)) (hlay : glay o = (0, 12)) (hw : Cond.fieldLink own index "ParishUnionModel" "s" "[I" ∈ gT) (hd : decode cc pc = .ok (.getfield index, 3)) (hn : pc + 3 = n) (hz : M o 1 = z + 1) (ht : 0 ≤ z) (kk : G p l e R s m args below meth c n0 D cA nL Q cells slots M sz n L (gA n0 z :: st)) : G p l e R s m args below meth c n0 D cA nL Q cells slots M sz pc L (gA n0 o :: st) := g_get X 1 iX12 rfl rfl (by decide) h0 h1 hlay hw rfl hd hn (by rw [show M o ((1 : Nat) : Int) = z + 1 from hz]; exact g_rfv n0 _ rfl ht) kk
theorem gp_12_1 (X : gCx p s m args meth c n0 D cA own cc nL) {index : Nat} {o z : Int} (h0 : 0 ≤ o) (h1 : o < (sz : Int)) (hlay : glay o = (0, 12)) (hw : Cond.fieldLink own index "ParishUnionModel" "s" "[I" ∈ gT) (ht : 0 ≤ z) (hm : meth.name = "<init>") (ho : RX12 = own) (hd : decode cc pc = .ok (.putfield index, 3)) (hn : pc + 3 = n) (kk : G p l e R s m args below meth c n0 D cA nL Q cells slots (gset M o 1 (z + 1)) sz n L st) : G p l e R s m args below meth c n0 D cA nL Q cells slots M sz pc L (gA n0 z :: gA n0 o :: st) := g_put X (z := z + 1) 1 iX12 tyX12 tyX12_ok nmX12 rfl rfl (by decide) h0 h1 hlay hw rfl (Or.inr ⟨rfl, hm, ho⟩) (g_rfv n0 _ rfl ht) rfl rfl hd hn kk
theorem gg_12_2 (X : gCx p s m args meth c n0 D cA own cc nL) {index : Nat} {o z : Int} (h0 : 0 ≤ o) (h1 : o < (sz : Int)) (hlay : glay o = (0, 12)) (hw : Cond.fieldLink own index "ParishUnionModel" "kept" "[I" ∈ gT) (hd : decode cc pc = .ok (.getfield index, 3)) (hn : pc + 3 = n) (hz : M o 2 = z + 1) (ht : 0 ≤ z) (kk : G p l e R s m args below meth c n0 D cA nL Q cells slots M sz n L (gA n0 z :: st)) : G p l e R s m args below meth c n0 D cA nL Q cells slots M sz pc L (gA n0 o :: st) := g_get X 2 iX12 rfl rfl (by decide) h0 h1 hlay hw rfl hd hn (by rw [show M o ((2 : Nat) : Int) = z + 1 from hz]; exact g_rfv n0 _ rfl ht) kk
theorem gp_12_2 (X : gCx p s m args meth c n0 D cA own cc nL) {index : Nat} {o z : Int} (h0 : 0 ≤ o) (h1 : o < (sz : Int)) (hlay : glay o = (0, 12)) (hw : Cond.fieldLink own index "ParishUnionModel" "kept" "[I" ∈ gT) (ht : 0 ≤ z) (hm : meth.name = "<init>") (ho : RX12 = own) (hd : decode cc pc = .ok (.putfield index, 3)) (hn : pc + 3 = n) (kk : G p l e R s m args below meth c n0 D cA nL Q cells slots (gset M o 2 (z + 1)) sz n L st) : G p l e R s m args below meth c n0 D cA nL Q cells slots M sz pc L (gA n0 z :: gA n0 o :: st) := g_put X (z := z + 1) 2 iX12 tyX12 tyX12_ok nmX12 rfl rfl (by decide) h0 h1 hlay hw rfl (Or.inr ⟨rfl, hm, ho⟩) (g_rfv n0 _ rfl ht) rfl rfl hd hn kk
theorem gn_12_2 (X : gCx p s m args meth c n0 D cA own cc nL) {index : Nat} {o : Int} (h0 : 0 ≤ o) (h1 : o < (sz : Int)) (hlay : glay o = (0, 12)) (hw : Cond.fieldLink own index "ParishUnionModel" "kept" "[I" ∈ gT) (hd : decode cc pc = .ok (.getfield index, 3)) (hn : pc + 3 = n) (hz : M o 2 = 0) (kk : G p l e R s m args below meth c n0 D cA nL Q cells slots M sz n L (.null :: st)) : G p l e R s m args below meth c n0 D cA nL Q cells slots M sz pc L (gA n0 o :: st) := g_get X 2 iX12 rfl rfl (by decide) h0 h1 hlay hw rfl hd hn (by rw [show M o ((2 : Nat) : Int) = 0 from hz]; rfl) kk
theorem gg_12_3 (X : gCx p s m args meth c n0 D cA own cc nL) {index : Nat} {o z : Int} (h0 : 0 ≤ o) (h1 : o < (sz : Int)) (hlay : glay o = (0, 12)) (hw : Cond.fieldLink own index "ParishUnionModel" "image" "[I" ∈ gT) (hd : decode cc pc = .ok (.getfield index, 3)) (hn : pc + 3 = n) (hz : M o 3 = z + 1) (ht : 0 ≤ z) (kk : G p l e R s m args below meth c n0 D cA nL Q cells slots M sz n L (gA n0 z :: st)) : G p l e R s m args below meth c n0 D cA nL Q cells slots M sz pc L (gA n0 o :: st) := g_get X 3 iX12 rfl rfl (by decide) h0 h1 hlay hw rfl hd hn (by rw [show M o ((3 : Nat) : Int) = z + 1 from hz]; exact g_rfv n0 _ rfl ht) kk
theorem gp_12_3 (X : gCx p s m args meth c n0 D cA own cc nL) {index : Nat} {o z : Int} (h0 : 0 ≤ o) (h1 : o < (sz : Int)) (hlay : glay o = (0, 12)) (hw : Cond.fieldLink own index "ParishUnionModel" "image" "[I" ∈ gT) (ht : 0 ≤ z) (hm : meth.name = "<init>") (ho : RX12 = own) (hd : decode cc pc = .ok (.putfield index, 3)) (hn : pc + 3 = n) (kk : G p l e R s m args below meth c n0 D cA nL Q cells slots (gset M o 3 (z + 1)) sz n L st) : G p l e R s m args below meth c n0 D cA nL Q cells slots M sz pc L (gA n0 z :: gA n0 o :: st) := g_put X (z := z + 1) 3 iX12 tyX12 tyX12_ok nmX12 rfl rfl (by decide) h0 h1 hlay hw rfl (Or.inr ⟨rfl, hm, ho⟩) (g_rfv n0 _ rfl ht) rfl rfl hd hn kk
theorem gg_12_4 (X : gCx p s m args meth c n0 D cA own cc nL) {index : Nat} {o z : Int} (h0 : 0 ≤ o) (h1 : o < (sz : Int)) (hlay : glay o = (0, 12)) (hw : Cond.fieldLink own index "ParishUnionModel" "hasImage" "Z" ∈ gT) (hd : decode cc pc = .ok (.getfield index, 3)) (hn : pc + 3 = n) (hz : M o 4 = z) (kk : G p l e R s m args below meth c n0 D cA nL Q cells slots M sz n L (gJ z :: st)) : G p l e R s m args below meth c n0 D cA nL Q cells slots M sz pc L (gA n0 o :: st) := g_get X 4 iX12 rfl rfl (by decide) h0 h1 hlay hw rfl hd hn (by rw [show M o ((4 : Nat) : Int) = z from hz]; rfl) kk
theorem gp_12_4 (X : gCx p s m args meth c n0 D cA own cc nL) {index : Nat} {o z : Int} (h0 : 0 ≤ o) (h1 : o < (sz : Int)) (hlay : glay o = (0, 12)) (hw : Cond.fieldLink own index "ParishUnionModel" "hasImage" "Z" ∈ gT) (hb : z = 0 ∨ z = 1) (hd : decode cc pc = .ok (.putfield index, 3)) (hn : pc + 3 = n) (kk : G p l e R s m args below meth c n0 D cA nL Q cells slots (gset M o 4 z) sz n L st) : G p l e R s m args below meth c n0 D cA nL Q cells slots M sz pc L (gJ z :: gA n0 o :: st) := g_put X (z := z) 4 iX12 tyX12 tyX12_ok nmX12 rfl rfl (by decide) h0 h1 hlay hw rfl (Or.inl rfl) rfl (by rcases hb with rfl | rfl <;> decide +kernel) (by rcases hb with rfl | rfl <;> decide +kernel) hd hn kk
theorem gg_12_5 (X : gCx p s m args meth c n0 D cA own cc nL) {index : Nat} {o z : Int} (h0 : 0 ≤ o) (h1 : o < (sz : Int)) (hlay : glay o = (0, 12)) (hw : Cond.fieldLink own index "ParishUnionModel" "fresh" "[I" ∈ gT) (hd : decode cc pc = .ok (.getfield index, 3)) (hn : pc + 3 = n) (hz : M o 5 = z + 1) (ht : 0 ≤ z) (kk : G p l e R s m args below meth c n0 D cA nL Q cells slots M sz n L (gA n0 z :: st)) : G p l e R s m args below meth c n0 D cA nL Q cells slots M sz pc L (gA n0 o :: st) := g_get X 5 iX12 rfl rfl (by decide) h0 h1 hlay hw rfl hd hn (by rw [show M o ((5 : Nat) : Int) = z + 1 from hz]; exact g_rfv n0 _ rfl ht) kk
theorem gp_12_5 (X : gCx p s m args meth c n0 D cA own cc nL) {index : Nat} {o z : Int} (h0 : 0 ≤ o) (h1 : o < (sz : Int)) (hlay : glay o = (0, 12)) (hw : Cond.fieldLink own index "ParishUnionModel" "fresh" "[I" ∈ gT) (ht : 0 ≤ z) (hm : meth.name = "<init>") (ho : RX12 = own) (hd : decode cc pc = .ok (.putfield index, 3)) (hn : pc + 3 = n) (kk : G p l e R s m args below meth c n0 D cA nL Q cells slots (gset M o 5 (z + 1)) sz n L st) : G p l e R s m args below meth c n0 D cA nL Q cells slots M sz pc L (gA n0 z :: gA n0 o :: st) := g_put X (z := z + 1) 5 iX12 tyX12 tyX12_ok nmX12 rfl rfl (by decide) h0 h1 hlay hw rfl (Or.inr ⟨rfl, hm, ho⟩) (g_rfv n0 _ rfl ht) rfl rfl hd hn kk
theorem gg_12_6 (X : gCx p s m args meth c n0 D cA own cc nL) {index : Nat} {o z : Int} (h0 : 0 ≤ o) (h1 : o < (sz : Int)) (hlay : glay o = (0, 12)) (hw : Cond.fieldLink own index "ParishUnionModel" "known" "[I" ∈ gT) (hd : decode cc pc = .ok (.getfield index, 3)) (hn : pc + 3 = n) (hz : M o 6 = z + 1) (ht : 0 ≤ z) (kk : G p l e R s m args below meth c n0 D cA nL Q cells slots M sz n L (gA n0 z :: st)) : G p l e R s m args below meth c n0 D cA nL Q cells slots M sz pc L (gA n0 o :: st) := g_get X 6 iX12 rfl rfl (by decide) h0 h1 hlay hw rfl hd hn (by rw [show M o ((6 : Nat) : Int) = z + 1 from hz]; exact g_rfv n0 _ rfl ht) kk
theorem gp_12_6 (X : gCx p s m args meth c n0 D cA own cc nL) {index : Nat} {o z : Int} (h0 : 0 ≤ o) (h1 : o < (sz : Int)) (hlay : glay o = (0, 12)) (hw : Cond.fieldLink own index "ParishUnionModel" "known" "[I" ∈ gT) (ht : 0 ≤ z) (hm : meth.name = "<init>") (ho : RX12 = own) (hd : decode cc pc = .ok (.putfield index, 3)) (hn : pc + 3 = n) (kk : G p l e R s m args below meth c n0 D cA nL Q cells slots (gset M o 6 (z + 1)) sz n L st) : G p l e R s m args below meth c n0 D cA nL Q cells slots M sz pc L (gA n0 z :: gA n0 o :: st) := g_put X (z := z + 1) 6 iX12 tyX12 tyX12_ok nmX12 rfl rfl (by decide) h0 h1 hlay hw rfl (Or.inr ⟨rfl, hm, ho⟩) (g_rfv n0 _ rfl ht) rfl rfl hd hn kk
theorem gg_12_7 (X : gCx p s m args meth c n0 D cA own cc nL) {index : Nat} {o z : Int} (h0 : 0 ≤ o) (h1 : o < (sz : Int)) (hlay : glay o = (0, 12)) (hw : Cond.fieldLink own index "ParishUnionModel" "line" "[I" ∈ gT) (hd : decode cc pc = .ok (.getfield index, 3)) (hn : pc + 3 = n) (hz : M o 7 = z + 1) (ht : 0 ≤ z) (kk : G p l e R s m args below meth c n0 D cA nL Q cells slots M sz n L (gA n0 z :: st)) : G p l e R s m args below meth c n0 D cA nL Q cells slots M sz pc L (gA n0 o :: st) := g_get X 7 iX12 rfl rfl (by decide) h0 h1 hlay hw rfl hd hn (by rw [show M o ((7 : Nat) : Int) = z + 1 from hz]; exact g_rfv n0 _ rfl ht) kk
theorem gp_12_7 (X : gCx p s m args meth c n0 D cA own cc nL) {index : Nat} {o z : Int} (h0 : 0 ≤ o) (h1 : o < (sz : Int)) (hlay : glay o = (0, 12)) (hw : Cond.fieldLink own index "ParishUnionModel" "line" "[I" ∈ gT) (ht : 0 ≤ z) (hm : meth.name = "<init>") (ho : RX12 = own) (hd : decode cc pc = .ok (.putfield index, 3)) (hn : pc + 3 = n) (kk : G p l e R s m args below meth c n0 D cA nL Q cells slots (gset M o 7 (z + 1)) sz n L st) : G p l e R s m args below meth c n0 D cA nL Q cells slots M sz pc L (gA n0 z :: gA n0 o :: st) := g_put X (z := z + 1) 7 iX12 tyX12 tyX12_ok nmX12 rfl rfl (by decide) h0 h1 hlay hw rfl (Or.inr ⟨rfl, hm, ho⟩) (g_rfv n0 _ rfl ht) rfl rfl hd hn kk
theorem gg_12_8 (X : gCx p s m args meth c n0 D cA own cc nL) {index : Nat} {o z : Int} (h0 : 0 ≤ o) (h1 : o < (sz : Int)) (hlay : glay o = (0, 12)) (hw : Cond.fieldLink own index "ParishUnionModel" "lined" "I" ∈ gT) (hd : decode cc pc = .ok (.getfield index, 3)) (hn : pc + 3 = n) (hz : M o 8 = z) (kk : G p l e R s m args below meth c n0 D cA nL Q cells slots M sz n L (gJ z :: st)) : G p l e R s m args below meth c n0 D cA nL Q cells slots M sz pc L (gA n0 o :: st) := g_get X 8 iX12 rfl rfl (by decide) h0 h1 hlay hw rfl hd hn (by rw [show M o ((8 : Nat) : Int) = z from hz]; rfl) kk
theorem gp_12_8 (X : gCx p s m args meth c n0 D cA own cc nL) {index : Nat} {o z : Int} (h0 : 0 ≤ o) (h1 : o < (sz : Int)) (hlay : glay o = (0, 12)) (hw : Cond.fieldLink own index "ParishUnionModel" "lined" "I" ∈ gT) (hd : decode cc pc = .ok (.putfield index, 3)) (hn : pc + 3 = n) (kk : G p l e R s m args below meth c n0 D cA nL Q cells slots (gset M o 8 z) sz n L st) : G p l e R s m args below meth c n0 D cA nL Q cells slots M sz pc L (gJ z :: gA n0 o :: st) := g_put X (z := z) 8 iX12 tyX12 tyX12_ok nmX12 rfl rfl (by decide) h0 h1 hlay hw rfl (Or.inl rfl) rfl rfl rfl hd hn kk
theorem gg_12_9 (X : gCx p s m args meth c n0 D cA own cc nL) {index : Nat} {o z : Int} (h0 : 0 ≤ o) (h1 : o < (sz : Int)) (hlay : glay o = (0, 12)) (hw : Cond.fieldLink own index "ParishUnionModel" "isSo" "[Z" ∈ gT) (hd : decode cc pc = .ok (.getfield index, 3)) (hn : pc + 3 = n) (hz : M o 9 = z + 1) (ht : 0 ≤ z) (kk : G p l e R s m args below meth c n0 D cA nL Q cells slots M sz n L (gA n0 z :: st)) : G p l e R s m args below meth c n0 D cA nL Q cells slots M sz pc L (gA n0 o :: st) := g_get X 9 iX12 rfl rfl (by decide) h0 h1 hlay hw rfl hd hn (by rw [show M o ((9 : Nat) : Int) = z + 1 from hz]; exact g_rfv n0 _ rfl ht) kk
theorem gp_12_9 (X : gCx p s m args meth c n0 D cA own cc nL) {index : Nat} {o z : Int} (h0 : 0 ≤ o) (h1 : o < (sz : Int)) (hlay : glay o = (0, 12)) (hw : Cond.fieldLink own index "ParishUnionModel" "isSo" "[Z" ∈ gT) (ht : 0 ≤ z) (hm : meth.name = "<init>") (ho : RX12 = own) (hd : decode cc pc = .ok (.putfield index, 3)) (hn : pc + 3 = n) (kk : G p l e R s m args below meth c n0 D cA nL Q cells slots (gset M o 9 (z + 1)) sz n L st) : G p l e R s m args below meth c n0 D cA nL Q cells slots M sz pc L (gA n0 z :: gA n0 o :: st) := g_put X (z := z + 1) 9 iX12 tyX12 tyX12_ok nmX12 rfl rfl (by decide) h0 h1 hlay hw rfl (Or.inr ⟨rfl, hm, ho⟩) (g_rfv n0 _ rfl ht) rfl rfl hd hn kk
theorem gg_12_10 (X : gCx p s m args meth c n0 D cA own cc nL) {index : Nat} {o z : Int} (h0 : 0 ≤ o) (h1 : o < (sz : Int)) (hlay : glay o = (0, 12)) (hw : Cond.fieldLink own index "ParishUnionModel" "may" "[I" ∈ gT) (hd : decode cc pc = .ok (.getfield index, 3)) (hn : pc + 3 = n) (hz : M o 10 = z + 1) (ht : 0 ≤ z) (kk : G p l e R s m args below meth c n0 D cA nL Q cells slots M sz n L (gA n0 z :: st)) : G p l e R s m args below meth c n0 D cA nL Q cells slots M sz pc L (gA n0 o :: st) := g_get X 10 iX12 rfl rfl (by decide) h0 h1 hlay hw rfl hd hn (by rw [show M o ((10 : Nat) : Int) = z + 1 from hz]; exact g_rfv n0 _ rfl ht) kk
theorem gp_12_10 (X : gCx p s m args meth c n0 D cA own cc nL) {index : Nat} {o z : Int} (h0 : 0 ≤ o) (h1 : o < (sz : Int)) (hlay : glay o = (0, 12)) (hw : Cond.fieldLink own index "ParishUnionModel" "may" "[I" ∈ gT) (ht : 0 ≤ z) (hm : meth.name = "<init>") (ho : RX12 = own) (hd : decode cc pc = .ok (.putfield index, 3)) (hn : pc + 3 = n) (kk : G p l e R s m args below meth c n0 D cA nL Q cells slots (gset M o 10 (z + 1)) sz n L st) : G p l e R s m args below meth c n0 D cA nL Q cells slots M sz pc L (gA n0 z :: gA n0 o :: st) := g_put X (z := z + 1) 10 iX12 tyX12 tyX12_ok nmX12 rfl rfl (by decide) h0 h1 hlay hw rfl (Or.inr ⟨rfl, hm, ho⟩) (g_rfv n0 _ rfl ht) rfl rfl hd hn kk
theorem gg_12_11 (X : gCx p s m args meth c n0 D cA own cc nL) {index : Nat} {o z : Int} (h0 : 0 ≤ o) (h1 : o < (sz : Int)) (hlay : glay o = (0, 12)) (hw : Cond.fieldLink own index "ParishUnionModel" "act" "I" ∈ gT) (hd : decode cc pc = .ok (.getfield index, 3)) (hn : pc + 3 = n) (hz : M o 11 = z) (kk : G p l e R s m args below meth c n0 D cA nL Q cells slots M sz n L (gJ z :: st)) : G p l e R s m args below meth c n0 D cA nL Q cells slots M sz pc L (gA n0 o :: st) := g_get X 11 iX12 rfl rfl (by decide) h0 h1 hlay hw rfl hd hn (by rw [show M o ((11 : Nat) : Int) = z from hz]; rfl) kk
theorem gp_12_11 (X : gCx p s m args meth c n0 D cA own cc nL) {index : Nat} {o z : Int} (h0 : 0 ≤ o) (h1 : o < (sz : Int)) (hlay : glay o = (0, 12)) (hw : Cond.fieldLink own index "ParishUnionModel" "act" "I" ∈ gT) (hd : decode cc pc = .ok (.putfield index, 3)) (hn : pc + 3 = n) (kk : G p l e R s m args below meth c n0 D cA nL Q cells slots (gset M o 11 z) sz n L st) : G p l e R s m args below meth c n0 D cA nL Q cells slots M sz pc L (gJ z :: gA n0 o :: st) := g_put X (z := z) 11 iX12 tyX12 tyX12_ok nmX12 rfl rfl (by decide) h0 h1 hlay hw rfl (Or.inl rfl) rfl rfl rfl hd hn kk
theorem gg_12_12 (X : gCx p s m args meth c n0 D cA own cc nL) {index : Nat} {o z : Int} (h0 : 0 ≤ o) (h1 : o < (sz : Int)) (hlay : glay o = (0, 12)) (hw : Cond.fieldLink own index "ParishUnionModel" "spot" "I" ∈ gT) (hd : decode cc pc = .ok (.getfield index, 3)) (hn : pc + 3 = n) (hz : M o 12 = z) (kk : G p l e R s m args below meth c n0 D cA nL Q cells slots M sz n L (gJ z :: st)) : G p l e R s m args below meth c n0 D cA nL Q cells slots M sz pc L (gA n0 o :: st) := g_get X 12 iX12 rfl rfl (by decide) h0 h1 hlay hw rfl hd hn (by rw [show M o ((12 : Nat) : Int) = z from hz]; rfl) kk
theorem gp_12_12 (X : gCx p s m args meth c n0 D cA own cc nL) {index : Nat} {o z : Int} (h0 : 0 ≤ o) (h1 : o < (sz : Int)) (hlay : glay o = (0, 12)) (hw : Cond.fieldLink own index "ParishUnionModel" "spot" "I" ∈ gT) (hd : decode cc pc = .ok (.putfield index, 3)) (hn : pc + 3 = n) (kk : G p l e R s m args below meth c n0 D cA nL Q cells slots (gset M o 12 z) sz n L st) : G p l e R s m args below meth c n0 D cA nL Q cells slots M sz pc L (gJ z :: gA n0 o :: st) := g_put X (z := z) 12 iX12 tyX12 tyX12_ok nmX12 rfl rfl (by decide) h0 h1 hlay hw rfl (Or.inl rfl) rfl rfl rfl hd hn kk
theorem gg_12_13 (X : gCx p s m args meth c n0 D cA own cc nL) {index : Nat} {o z : Int} (h0 : 0 ≤ o) (h1 : o < (sz : Int)) (hlay : glay o = (0, 12)) (hw : Cond.fieldLink own index "ParishUnionModel" "isWrong" "Z" ∈ gT) (hd : decode cc pc = .ok (.getfield index, 3)) (hn : pc + 3 = n) (hz : M o 13 = z) (kk : G p l e R s m args below meth c n0 D cA nL Q cells slots M sz n L (gJ z :: st)) : G p l e R s m args below meth c n0 D cA nL Q cells slots M sz pc L (gA n0 o :: st) := g_get X 13 iX12 rfl rfl (by decide) h0 h1 hlay hw rfl hd hn (by rw [show M o ((13 : Nat) : Int) = z from hz]; rfl) kk
theorem gp_12_13 (X : gCx p s m args meth c n0 D cA own cc nL) {index : Nat} {o z : Int} (h0 : 0 ≤ o) (h1 : o < (sz : Int)) (hlay : glay o = (0, 12)) (hw : Cond.fieldLink own index "ParishUnionModel" "isWrong" "Z" ∈ gT) (hb : z = 0 ∨ z = 1) (hd : decode cc pc = .ok (.putfield index, 3)) (hn : pc + 3 = n) (kk : G p l e R s m args below meth c n0 D cA nL Q cells slots (gset M o 13 z) sz n L st) : G p l e R s m args below meth c n0 D cA nL Q cells slots M sz pc L (gJ z :: gA n0 o :: st) := g_put X (z := z) 13 iX12 tyX12 tyX12_ok nmX12 rfl rfl (by decide) h0 h1 hlay hw rfl (Or.inl rfl) rfl (by rcases hb with rfl | rfl <;> decide +kernel) (by rcases hb with rfl | rfl <;> decide +kernel) hd hn kk
theorem gg_12_14 (X : gCx p s m args meth c n0 D cA own cc nL) {index : Nat} {o z : Int} (h0 : 0 ≤ o) (h1 : o < (sz : Int)) (hlay : glay o = (0, 12)) (hw : Cond.fieldLink own index "ParishUnionModel" "open" "I" ∈ gT) (hd : decode cc pc = .ok (.getfield index, 3)) (hn : pc + 3 = n) (hz : M o 14 = z) (kk : G p l e R s m args below meth c n0 D cA nL Q cells slots M sz n L (gJ z :: st)) : G p l e R s m args below meth c n0 D cA nL Q cells slots M sz pc L (gA n0 o :: st) := g_get X 14 iX12 rfl rfl (by decide) h0 h1 hlay hw rfl hd hn (by rw [show M o ((14 : Nat) : Int) = z from hz]; rfl) kk
theorem gp_12_14 (X : gCx p s m args meth c n0 D cA own cc nL) {index : Nat} {o z : Int} (h0 : 0 ≤ o) (h1 : o < (sz : Int)) (hlay : glay o = (0, 12)) (hw : Cond.fieldLink own index "ParishUnionModel" "open" "I" ∈ gT) (hd : decode cc pc = .ok (.putfield index, 3)) (hn : pc + 3 = n) (kk : G p l e R s m args below meth c n0 D cA nL Q cells slots (gset M o 14 z) sz n L st) : G p l e R s m args below meth c n0 D cA nL Q cells slots M sz pc L (gJ z :: gA n0 o :: st) := g_put X (z := z) 14 iX12 tyX12 tyX12_ok nmX12 rfl rfl (by decide) h0 h1 hlay hw rfl (Or.inl rfl) rfl rfl rfl hd hn kk
theorem gg_12_15 (X : gCx p s m args meth c n0 D cA own cc nL) {index : Nat} {o z : Int} (h0 : 0 ≤ o) (h1 : o < (sz : Int)) (hlay : glay o = (0, 12)) (hw : Cond.fieldLink own index "ParishUnionModel" "asked" "I" ∈ gT) (hd : decode cc pc = .ok (.getfield index, 3)) (hn : pc + 3 = n) (hz : M o 15 = z) (kk : G p l e R s m args below meth c n0 D cA nL Q cells slots M sz n L (gJ z :: st)) : G p l e R s m args below meth c n0 D cA nL Q cells slots M sz pc L (gA n0 o :: st) := g_get X 15 iX12 rfl rfl (by decide) h0 h1 hlay hw rfl hd hn (by rw [show M o ((15 : Nat) : Int) = z from hz]; rfl) kk
theorem gp_12_15 (X : gCx p s m args meth c n0 D cA own cc nL) {index : Nat} {o z : Int} (h0 : 0 ≤ o) (h1 : o < (sz : Int)) (hlay : glay o = (0, 12)) (hw : Cond.fieldLink own index "ParishUnionModel" "asked" "I" ∈ gT) (hd : decode cc pc = .ok (.putfield index, 3)) (hn : pc + 3 = n) (kk : G p l e R s m args below meth c n0 D cA nL Q cells slots (gset M o 15 z) sz n L st) : G p l e R s m args below meth c n0 D cA nL Q cells slots M sz pc L (gJ z :: gA n0 o :: st) := g_put X (z := z) 15 iX12 tyX12 tyX12_ok nmX12 rfl rfl (by decide) h0 h1 hlay hw rfl (Or.inl rfl) rfl rfl rfl hd hn kk
theorem gg_12_16 (X : gCx p s m args meth c n0 D cA own cc nL) {index : Nat} {o z : Int} (h0 : 0 ≤ o) (h1 : o < (sz : Int)) (hlay : glay o = (0, 12)) (hw : Cond.fieldLink own index "ParishUnionModel" "ownOf" "[I" ∈ gT) (hd : decode cc pc = .ok (.getfield index, 3)) (hn : pc + 3 = n) (hz : M o 16 = z + 1) (ht : 0 ≤ z) (kk : G p l e R s m args below meth c n0 D cA nL Q cells slots M sz n L (gA n0 z :: st)) : G p l e R s m args below meth c n0 D cA nL Q cells slots M sz pc L (gA n0 o :: st) := g_get X 16 iX12 rfl rfl (by decide) h0 h1 hlay hw rfl hd hn (by rw [show M o ((16 : Nat) : Int) = z + 1 from hz]; exact g_rfv n0 _ rfl ht) kk
theorem gp_12_16 (X : gCx p s m args meth c n0 D cA own cc nL) {index : Nat} {o z : Int} (h0 : 0 ≤ o) (h1 : o < (sz : Int)) (hlay : glay o = (0, 12)) (hw : Cond.fieldLink own index "ParishUnionModel" "ownOf" "[I" ∈ gT) (ht : 0 ≤ z) (hm : meth.name = "<init>") (ho : RX12 = own) (hd : decode cc pc = .ok (.putfield index, 3)) (hn : pc + 3 = n) (kk : G p l e R s m args below meth c n0 D cA nL Q cells slots (gset M o 16 (z + 1)) sz n L st) : G p l e R s m args below meth c n0 D cA nL Q cells slots M sz pc L (gA n0 z :: gA n0 o :: st) := g_put X (z := z + 1) 16 iX12 tyX12 tyX12_ok nmX12 rfl rfl (by decide) h0 h1 hlay hw rfl (Or.inr ⟨rfl, hm, ho⟩) (g_rfv n0 _ rfl ht) rfl rfl hd hn kk
theorem gg_12_17 (X : gCx p s m args meth c n0 D cA own cc nL) {index : Nat} {o z : Int} (h0 : 0 ≤ o) (h1 : o < (sz : Int)) (hlay : glay o = (0, 12)) (hw : Cond.fieldLink own index "ParishUnionModel" "ownWeek" "[I" ∈ gT) (hd : decode cc pc = .ok (.getfield index, 3)) (hn : pc + 3 = n) (hz : M o 17 = z + 1) (ht : 0 ≤ z) (kk : G p l e R s m args below meth c n0 D cA nL Q cells slots M sz n L (gA n0 z :: st)) : G p l e R s m args below meth c n0 D cA nL Q cells slots M sz pc L (gA n0 o :: st) := g_get X 17 iX12 rfl rfl (by decide) h0 h1 hlay hw rfl hd hn (by rw [show M o ((17 : Nat) : Int) = z + 1 from hz]; exact g_rfv n0 _ rfl ht) kk
theorem gp_12_17 (X : gCx p s m args meth c n0 D cA own cc nL) {index : Nat} {o z : Int} (h0 : 0 ≤ o) (h1 : o < (sz : Int)) (hlay : glay o = (0, 12)) (hw : Cond.fieldLink own index "ParishUnionModel" "ownWeek" "[I" ∈ gT) (ht : 0 ≤ z) (hm : meth.name = "<init>") (ho : RX12 = own) (hd : decode cc pc = .ok (.putfield index, 3)) (hn : pc + 3 = n) (kk : G p l e R s m args below meth c n0 D cA nL Q cells slots (gset M o 17 (z + 1)) sz n L st) : G p l e R s m args below meth c n0 D cA nL Q cells slots M sz pc L (gA n0 z :: gA n0 o :: st) := g_put X (z := z + 1) 17 iX12 tyX12 tyX12_ok nmX12 rfl rfl (by decide) h0 h1 hlay hw rfl (Or.inr ⟨rfl, hm, ho⟩) (g_rfv n0 _ rfl ht) rfl rfl hd hn kk
theorem gg_12_18 (X : gCx p s m args meth c n0 D cA own cc nL) {index : Nat} {o z : Int} (h0 : 0 ≤ o) (h1 : o < (sz : Int)) (hlay : glay o = (0, 12)) (hw : Cond.fieldLink own index "ParishUnionModel" "ownStamp" "[I" ∈ gT) (hd : decode cc pc = .ok (.getfield index, 3)) (hn : pc + 3 = n) (hz : M o 18 = z + 1) (ht : 0 ≤ z) (kk : G p l e R s m args below meth c n0 D cA nL Q cells slots M sz n L (gA n0 z :: st)) : G p l e R s m args below meth c n0 D cA nL Q cells slots M sz pc L (gA n0 o :: st) := g_get X 18 iX12 rfl rfl (by decide) h0 h1 hlay hw rfl hd hn (by rw [show M o ((18 : Nat) : Int) = z + 1 from hz]; exact g_rfv n0 _ rfl ht) kk
theorem gp_12_18 (X : gCx p s m args meth c n0 D cA own cc nL) {index : Nat} {o z : Int} (h0 : 0 ≤ o) (h1 : o < (sz : Int)) (hlay : glay o = (0, 12)) (hw : Cond.fieldLink own index "ParishUnionModel" "ownStamp" "[I" ∈ gT) (ht : 0 ≤ z) (hm : meth.name = "<init>") (ho : RX12 = own) (hd : decode cc pc = .ok (.putfield index, 3)) (hn : pc + 3 = n) (kk : G p l e R s m args below meth c n0 D cA nL Q cells slots (gset M o 18 (z + 1)) sz n L st) : G p l e R s m args below meth c n0 D cA nL Q cells slots M sz pc L (gA n0 z :: gA n0 o :: st) := g_put X (z := z + 1) 18 iX12 tyX12 tyX12_ok nmX12 rfl rfl (by decide) h0 h1 hlay hw rfl (Or.inr ⟨rfl, hm, ho⟩) (g_rfv n0 _ rfl ht) rfl rfl hd hn kk
theorem gg_12_19 (X : gCx p s m args meth c n0 D cA own cc nL) {index : Nat} {o z : Int} (h0 : 0 ≤ o) (h1 : o < (sz : Int)) (hlay : glay o = (0, 12)) (hw : Cond.fieldLink own index "ParishUnionModel" "stamp" "I" ∈ gT) (hd : decode cc pc = .ok (.getfield index, 3)) (hn : pc + 3 = n) (hz : M o 19 = z) (kk : G p l e R s m args below meth c n0 D cA nL Q cells slots M sz n L (gJ z :: st)) : G p l e R s m args below meth c n0 D cA nL Q cells slots M sz pc L (gA n0 o :: st) := g_get X 19 iX12 rfl rfl (by decide) h0 h1 hlay hw rfl hd hn (by rw [show M o ((19 : Nat) : Int) = z from hz]; rfl) kk
theorem gp_12_19 (X : gCx p s m args meth c n0 D cA own cc nL) {index : Nat} {o z : Int} (h0 : 0 ≤ o) (h1 : o < (sz : Int)) (hlay : glay o = (0, 12)) (hw : Cond.fieldLink own index "ParishUnionModel" "stamp" "I" ∈ gT) (hd : decode cc pc = .ok (.putfield index, 3)) (hn : pc + 3 = n) (kk : G p l e R s m args below meth c n0 D cA nL Q cells slots (gset M o 19 z) sz n L st) : G p l e R s m args below meth c n0 D cA nL Q cells slots M sz pc L (gJ z :: gA n0 o :: st) := g_put X (z := z) 19 iX12 tyX12 tyX12_ok nmX12 rfl rfl (by decide) h0 h1 hlay hw rfl (Or.inl rfl) rfl rfl rfl hd hn kk
theorem gg_12_20 (X : gCx p s m args meth c n0 D cA own cc nL) {index : Nat} {o z : Int} (h0 : 0 ≤ o) (h1 : o < (sz : Int)) (hlay : glay o = (0, 12)) (hw : Cond.fieldLink own index "ParishUnionModel" "weights" "[J" ∈ gT) (hd : decode cc pc = .ok (.getfield index, 3)) (hn : pc + 3 = n) (hz : M o 20 = z + 1) (ht : 0 ≤ z) (kk : G p l e R s m args below meth c n0 D cA nL Q cells slots M sz n L (gA n0 z :: st)) : G p l e R s m args below meth c n0 D cA nL Q cells slots M sz pc L (gA n0 o :: st) := g_get X 20 iX12 rfl rfl (by decide) h0 h1 hlay hw rfl hd hn (by rw [show M o ((20 : Nat) : Int) = z + 1 from hz]; exact g_rfv n0 _ rfl ht) kk
theorem gp_12_20 (X : gCx p s m args meth c n0 D cA own cc nL) {index : Nat} {o z : Int} (h0 : 0 ≤ o) (h1 : o < (sz : Int)) (hlay : glay o = (0, 12)) (hw : Cond.fieldLink own index "ParishUnionModel" "weights" "[J" ∈ gT) (ht : 0 ≤ z) (hm : meth.name = "<init>") (ho : RX12 = own) (hd : decode cc pc = .ok (.putfield index, 3)) (hn : pc + 3 = n) (kk : G p l e R s m args below meth c n0 D cA nL Q cells slots (gset M o 20 (z + 1)) sz n L st) : G p l e R s m args below meth c n0 D cA nL Q cells slots M sz pc L (gA n0 z :: gA n0 o :: st) := g_put X (z := z + 1) 20 iX12 tyX12 tyX12_ok nmX12 rfl rfl (by decide) h0 h1 hlay hw rfl (Or.inr ⟨rfl, hm, ho⟩) (g_rfv n0 _ rfl ht) rfl rfl hd hn kk
theorem gg_12_21 (X : gCx p s m args meth c n0 D cA own cc nL) {index : Nat} {o z : Int} (h0 : 0 ≤ o) (h1 : o < (sz : Int)) (hlay : glay o = (0, 12)) (hw : Cond.fieldLink own index "ParishUnionModel" "rests" "[J" ∈ gT) (hd : decode cc pc = .ok (.getfield index, 3)) (hn : pc + 3 = n) (hz : M o 21 = z + 1) (ht : 0 ≤ z) (kk : G p l e R s m args below meth c n0 D cA nL Q cells slots M sz n L (gA n0 z :: st)) : G p l e R s m args below meth c n0 D cA nL Q cells slots M sz pc L (gA n0 o :: st) := g_get X 21 iX12 rfl rfl (by decide) h0 h1 hlay hw rfl hd hn (by rw [show M o ((21 : Nat) : Int) = z + 1 from hz]; exact g_rfv n0 _ rfl ht) kk
theorem gp_12_21 (X : gCx p s m args meth c n0 D cA own cc nL) {index : Nat} {o z : Int} (h0 : 0 ≤ o) (h1 : o < (sz : Int)) (hlay : glay o = (0, 12)) (hw : Cond.fieldLink own index "ParishUnionModel" "rests" "[J" ∈ gT) (ht : 0 ≤ z) (hm : meth.name = "<init>") (ho : RX12 = own) (hd : decode cc pc = .ok (.putfield index, 3)) (hn : pc + 3 = n) (kk : G p l e R s m args below meth c n0 D cA nL Q cells slots (gset M o 21 (z + 1)) sz n L st) : G p l e R s m args below meth c n0 D cA nL Q cells slots M sz pc L (gA n0 z :: gA n0 o :: st) := g_put X (z := z + 1) 21 iX12 tyX12 tyX12_ok nmX12 rfl rfl (by decide) h0 h1 hlay hw rfl (Or.inr ⟨rfl, hm, ho⟩) (g_rfv n0 _ rfl ht) rfl rfl hd hn kk
theorem gg_12_22 (X : gCx p s m args meth c n0 D cA own cc nL) {index : Nat} {o z : Int} (h0 : 0 ≤ o) (h1 : o < (sz : Int)) (hlay : glay o = (0, 12)) (hw : Cond.fieldLink own index "ParishUnionModel" "shares" "[I" ∈ gT) (hd : decode cc pc = .ok (.getfield index, 3)) (hn : pc + 3 = n) (hz : M o 22 = z + 1) (ht : 0 ≤ z) (kk : G p l e R s m args below meth c n0 D cA nL Q cells slots M sz n L (gA n0 z :: st)) : G p l e R s m args below meth c n0 D cA nL Q cells slots M sz pc L (gA n0 o :: st) := g_get X 22 iX12 rfl rfl (by decide) h0 h1 hlay hw rfl hd hn (by rw [show M o ((22 : Nat) : Int) = z + 1 from hz]; exact g_rfv n0 _ rfl ht) kk
theorem gp_12_22 (X : gCx p s m args meth c n0 D cA own cc nL) {index : Nat} {o z : Int} (h0 : 0 ≤ o) (h1 : o < (sz : Int)) (hlay : glay o = (0, 12)) (hw : Cond.fieldLink own index "ParishUnionModel" "shares" "[I" ∈ gT) (ht : 0 ≤ z) (hm : meth.name = "<init>") (ho : RX12 = own) (hd : decode cc pc = .ok (.putfield index, 3)) (hn : pc + 3 = n) (kk : G p l e R s m args below meth c n0 D cA nL Q cells slots (gset M o 22 (z + 1)) sz n L st) : G p l e R s m args below meth c n0 D cA nL Q cells slots M sz pc L (gA n0 z :: gA n0 o :: st) := g_put X (z := z + 1) 22 iX12 tyX12 tyX12_ok nmX12 rfl rfl (by decide) h0 h1 hlay hw rfl (Or.inr ⟨rfl, hm, ho⟩) (g_rfv n0 _ rfl ht) rfl rfl hd hn kk
theorem gg_12_23 (X : gCx p s m args meth c n0 D cA own cc nL) {index : Nat} {o z : Int} (h0 : 0 ≤ o) (h1 : o < (sz : Int)) (hlay : glay o = (0, 12)) (hw : Cond.fieldLink own index "ParishUnionModel" "sums" "[J" ∈ gT) (hd : decode cc pc = .ok (.getfield index, 3)) (hn : pc + 3 = n) (hz : M o 23 = z + 1) (ht : 0 ≤ z) (kk : G p l e R s m args below meth c n0 D cA nL Q cells slots M sz n L (gA n0 z :: st)) : G p l e R s m args below meth c n0 D cA nL Q cells slots M sz pc L (gA n0 o :: st) := g_get X 23 iX12 rfl rfl (by decide) h0 h1 hlay hw rfl hd hn (by rw [show M o ((23 : Nat) : Int) = z + 1 from hz]; exact g_rfv n0 _ rfl ht) kk
theorem gp_12_23 (X : gCx p s m args meth c n0 D cA own cc nL) {index : Nat} {o z : Int} (h0 : 0 ≤ o) (h1 : o < (sz : Int)) (hlay : glay o = (0, 12)) (hw : Cond.fieldLink own index "ParishUnionModel" "sums" "[J" ∈ gT) (ht : 0 ≤ z) (hm : meth.name = "<init>") (ho : RX12 = own) (hd : decode cc pc = .ok (.putfield index, 3)) (hn : pc + 3 = n) (kk : G p l e R s m args below meth c n0 D cA nL Q cells slots (gset M o 23 (z + 1)) sz n L st) : G p l e R s m args below meth c n0 D cA nL Q cells slots M sz pc L (gA n0 z :: gA n0 o :: st) := g_put X (z := z + 1) 23 iX12 tyX12 tyX12_ok nmX12 rfl rfl (by decide) h0 h1 hlay hw rfl (Or.inr ⟨rfl, hm, ho⟩) (g_rfv n0 _ rfl ht) rfl rfl hd hn kk
theorem gtyok_0 : ∀ k, k < 8 → gTY 0 k = tyX0 k ∧ (match tyX0 k with | .float => false | .double => false | _ => true) = true := by decide +kernel
theorem gtyok_1 : ∀ k, k < 8 → gTY 1 k = tyX1 k ∧ (match tyX1 k with | .float => false | .double => false | _ => true) = true := by decide +kernel
theorem gtyok_2 : ∀ k, k < 10 → gTY 2 k = tyX2 k ∧ (match tyX2 k with | .float => false | .double => false | _ => true) = true := by decide +kernel
theorem gtyok_3 : ∀ k, k < 2 → gTY 3 k = tyX3 k ∧ (match tyX3 k with | .float => false | .double => false | _ => true) = true := by decide +kernel
theorem gtyok_4 : ∀ k, k < 6 → gTY 4 k = tyX4 k ∧ (match tyX4 k with | .float => false | .double => false | _ => true) = true := by decide +kernel
theorem gtyok_5 : ∀ k, k < 2 → gTY 5 k = tyX5 k ∧ (match tyX5 k with | .float => false | .double => false | _ => true) = true := by decide +kernel
theorem gtyok_6 : ∀ k, k < 16 → gTY 6 k = tyX6 k ∧ (match tyX6 k with | .float => false | .double => false | _ => true) = true := by decide +kernel
theorem gtyok_7 : ∀ k, k < 5 → gTY 7 k = tyX7 k ∧ (match tyX7 k with | .float => false | .double => false | _ => true) = true := by decide +kernel
theorem gtyok_8 : ∀ k, k < 9 → gTY 8 k = tyX8 k ∧ (match tyX8 k with | .float => false | .double => false | _ => true) = true := by decide +kernel
theorem gtyok_9 : ∀ k, k < 16 → gTY 9 k = tyX9 k ∧ (match tyX9 k with | .float => false | .double => false | _ => true) = true := by decide +kernel
theorem gtyok_10 : ∀ k, k < 4 → gTY 10 k = tyX10 k ∧ (match tyX10 k with | .float => false | .double => false | _ => true) = true := by decide +kernel
theorem gtyok_11 : ∀ k, k < 10 → gTY 11 k = tyX11 k ∧ (match tyX11 k with | .float => false | .double => false | _ => true) = true := by decide +kernel
theorem gtyok_12 : ∀ k, k < 24 → gTY 12 k = tyX12 k ∧ (match tyX12 k with | .float => false | .double => false | _ => true) = true := by decide +kernel
end GFIELDS
end
section
theorem dX11_within_0 : decode cX11_within 0 = .ok (.iload_n 0, 1) := by decide +kernel
theorem dX11_within_1 : decode cX11_within 1 = .ok (.iload_n 1, 1) := by decide +kernel
theorem dX11_within_2 : decode cX11_within 2 = .ok (.if_icmp .lt 12, 3) := by decide +kernel
theorem dX11_within_14 : decode cX11_within 14 = .ok (.iconst 0, 1) := by decide +kernel
theorem dX11_within_15 : decode cX11_within 15 = .ok (.ireturn, 1) := by decide +kernel
theorem dX11_within_5 : decode cX11_within 5 = .ok (.iload_n 0, 1) := by decide +kernel
theorem dX11_within_6 : decode cX11_within 6 = .ok (.iload_n 2, 1) := by decide +kernel
theorem dX11_within_7 : decode cX11_within 7 = .ok (.if_icmp .gt 7, 3) := by decide +kernel
theorem dX11_within_10 : decode cX11_within 10 = .ok (.iconst 1, 1) := by decide +kernel
theorem dX11_within_11 : decode cX11_within 11 = .ok (.goto 4, 3) := by decide +kernel
set_option maxRecDepth 100000 in
set_option maxHeartbeats 4000000 in
theorem c_X11_within {l : Launch} {n0 : Nat} {D : va_G} {cA : Nat → ClassId} {M : gM} (a b c : Int) (r_a : -2147483648 ≤ a ∧ a ≤ 2147483647) (r_b : -2147483648 ≤ b ∧ b ≤ 2147483647) (r_c : -2147483648 ≤ c ∧ c ≤ 2147483647) {sz : Nat} (hsz : 206 ≤ sz) : Met l yX11_within (gWsOf yX11_within cX11_within 3 (Option.some Jvm.ClassFile.FieldType.boolean)) { frames := 0, cells := 0, slots := 0, locals := 0 } (gPc n0 D cA [gJ a, gJ b, gJ c] M sz) (gQi n0 D cA sz (fun z M1 => M = M1 ∧ ((b ≤ a ∧ a ≤ c) ∧ z = 1 ∨ ¬(b ≤ a ∧ a ≤ c) ∧ z = 0))) 0 0 (fun q => n0 ≤ q) := by
  refine gMet_of [gJ a, gJ b, gJ c] (by decide) (Nat.le_of_ble_eq_true rfl) ?_
  intro p e s m args below meth cd X hr hm
  have X : gCx p s m args meth cd n0 D cA "ParishUnion" cX11_within 3 := X
  show G p l e ({ frames := 0, cells := 0, slots := 0, locals := 0 } : Room) s m args below meth cd n0 D cA 3 (MQ below (gQi n0 D cA sz (fun z M1 => M = M1 ∧ ((b ≤ a ∧ a ≤ c) ∧ z = 1 ∨ ¬(b ≤ a ∧ a ≤ c) ∧ z = 0))) args s 0 0 (fun q => n0 ≤ q)) 0 0 M sz 0 [(0, gJ a), (1, gJ b), (2, gJ c)] []
  refine g_iload_n (n := 1) X 0 dX11_within_0 rfl rfl rfl ?_
  refine g_iload_n (n := 2) X 1 dX11_within_1 rfl rfl rfl ?_
  refine g_icmp_lt (n := 5) (tgt := 14) X dX11_within_2 (by decide) (by omega) (by omega) rfl (fun c1 => ?_) (fun c1 => ?_)
  · refine g_iconst (n := 15) X dX11_within_14 rfl ?_
    exact g_zreturn X (by omega) hr dX11_within_15 (by exact ⟨rfl, by omega⟩)
  · refine g_iload_n (n := 6) X 0 dX11_within_5 rfl rfl rfl ?_
    refine g_iload_n (n := 7) X 2 dX11_within_6 rfl rfl rfl ?_
    refine g_icmp_gt (n := 10) (tgt := 14) X dX11_within_7 (by decide) (by omega) (by omega) rfl (fun c2 => ?_) (fun c2 => ?_)
    · refine g_iconst (n := 15) X dX11_within_14 rfl ?_
      exact g_zreturn X (by omega) hr dX11_within_15 (by exact ⟨rfl, by omega⟩)
    · refine g_iconst (n := 11) X dX11_within_10 rfl ?_
      refine g_goto (tgt := 15) X dX11_within_11 (by decide) ?_
      exact g_zreturn X (by omega) hr dX11_within_15 (by exact ⟨rfl, by omega⟩)
theorem dX11_isParish_0 : decode cX11_isParish 0 = .ok (.iload_n 0, 1) := by decide +kernel
theorem dX11_isParish_1 : decode cX11_isParish 1 = .ok (.iconst 0, 1) := by decide +kernel
theorem dX11_isParish_2 : decode cX11_isParish 2 = .ok (.iconst 5, 1) := by decide +kernel
theorem dX11_isParish_3 : decode cX11_isParish 3 = .ok (.invokestatic 62, 3) := by decide +kernel
theorem kw_3_29 : (Jvm.Cond.methodLink "ParishUnion" (62 : Nat) ({ cls := "ParishUnion", name := "within", desc := "(III)Z" } : Jvm.MethodName)) ∈ gT := gT_of (tb_3 _ (List.mem_of_getElem? (i := 29) rfl)) rfl
theorem kw_3_31 : (Jvm.Cond.code ({ cls := "ParishUnion", name := "within", desc := "(III)Z" } : Jvm.MethodName) prog_1_method_48_code (3 : Nat) (Option.some Jvm.ClassFile.FieldType.boolean)) ∈ gT := gT_of (tb_3 _ (List.mem_of_getElem? (i := 31) rfl)) rfl
theorem kw_1_1 : (Jvm.Cond.initialized "ParishUnion") ∈ gT := gT_of (tb_1 _ (List.mem_of_getElem? (i := 1) rfl)) rfl
theorem okX11_within : gQok yX11_within cX11_within 3 (Option.some Jvm.ClassFile.FieldType.boolean) 3 := ⟨kw_3_31, kw_1_1, by decide +kernel, by decide +kernel, by decide +kernel⟩
theorem kw_3_30 : (Jvm.Cond.static ({ cls := "ParishUnion", name := "within", desc := "(III)Z" } : Jvm.MethodName)) ∈ gT := gT_of (tb_3 _ (List.mem_of_getElem? (i := 30) rfl)) rfl
theorem dX11_isParish_6 : decode cX11_isParish 6 = .ok (.ireturn, 1) := by decide +kernel
set_option maxRecDepth 100000 in
set_option maxHeartbeats 4000000 in
theorem c_X11_isParish {l : Launch} {n0 : Nat} {D : va_G} {cA : Nat → ClassId} {M : gM} (a : Int) (r_a : -2147483648 ≤ a ∧ a ≤ 2147483647) {sz : Nat} (hsz : 206 ≤ sz) : Met l yX11_isParish (gWsOf yX11_isParish cX11_isParish 1 (Option.some Jvm.ClassFile.FieldType.boolean)) { frames := 1, cells := 0, slots := 0, locals := 22 } (gPc n0 D cA [gJ a] M sz) (gQi n0 D cA sz (fun z M1 => M = M1 ∧ ((0 ≤ a ∧ a ≤ 5) ∧ z = 1 ∨ ¬(0 ≤ a ∧ a ≤ 5) ∧ z = 0))) 0 0 (fun q => n0 ≤ q) := by
  refine gMet_of [gJ a] (by decide) (Nat.le_of_ble_eq_true rfl) ?_
  intro p e s m args below meth cd X hr hm
  have X : gCx p s m args meth cd n0 D cA "ParishUnion" cX11_isParish 1 := X
  show G p l e ({ frames := 1, cells := 0, slots := 0, locals := 22 } : Room) s m args below meth cd n0 D cA 1 (MQ below (gQi n0 D cA sz (fun z M1 => M = M1 ∧ ((0 ≤ a ∧ a ≤ 5) ∧ z = 1 ∨ ¬(0 ≤ a ∧ a ≤ 5) ∧ z = 0))) args s 0 0 (fun q => n0 ≤ q)) 0 0 M sz 0 [(0, gJ a)] []
  refine g_iload_n (n := 1) X 0 dX11_isParish_0 rfl rfl rfl ?_
  refine g_iconst (n := 2) X dX11_isParish_1 rfl ?_
  refine g_iconst (n := 3) X dX11_isParish_2 rfl ?_
  refine g_callSi (n := 6) (As := [gJ a, gJ 0, gJ 5]) (rest := []) (cs1 := 0) (ss1 := 0) X (c_X11_within a 0 5 (by omega) (by omega) (by omega) (by omega)) okX11_within kw_3_29 kw_3_30 ⟨rfl, rfl⟩ ⟨Nat.le_of_ble_eq_true rfl, Nat.le_of_ble_eq_true rfl⟩ rfl rfl (Nat.le_of_ble_eq_true rfl) ⟨Nat.le_of_ble_eq_true rfl, Nat.le_of_ble_eq_true rfl⟩ rfl rfl dX11_isParish_3 rfl (fun z1 M2 P3 => ?_)
  obtain ⟨rfl, P3⟩ := P3
  exact g_zreturn X (by omega) hr dX11_isParish_6 (by exact ⟨rfl, by omega⟩)
theorem dX11_isBench_0 : decode cX11_isBench 0 = .ok (.iload_n 0, 1) := by decide +kernel
theorem dX11_isBench_1 : decode cX11_isBench 1 = .ok (.iconst 0, 1) := by decide +kernel
theorem dX11_isBench_2 : decode cX11_isBench 2 = .ok (.iconst 1, 1) := by decide +kernel
theorem dX11_isBench_3 : decode cX11_isBench 3 = .ok (.invokestatic 62, 3) := by decide +kernel
theorem dX11_isBench_6 : decode cX11_isBench 6 = .ok (.ireturn, 1) := by decide +kernel
set_option maxRecDepth 100000 in
set_option maxHeartbeats 4000000 in
theorem c_X11_isBench {l : Launch} {n0 : Nat} {D : va_G} {cA : Nat → ClassId} {M : gM} (a : Int) (r_a : -2147483648 ≤ a ∧ a ≤ 2147483647) {sz : Nat} (hsz : 206 ≤ sz) : Met l yX11_isBench (gWsOf yX11_isBench cX11_isBench 1 (Option.some Jvm.ClassFile.FieldType.boolean)) { frames := 1, cells := 0, slots := 0, locals := 22 } (gPc n0 D cA [gJ a] M sz) (gQi n0 D cA sz (fun z M1 => M = M1 ∧ ((0 ≤ a ∧ a ≤ 1) ∧ z = 1 ∨ ¬(0 ≤ a ∧ a ≤ 1) ∧ z = 0))) 0 0 (fun q => n0 ≤ q) := by
  refine gMet_of [gJ a] (by decide) (Nat.le_of_ble_eq_true rfl) ?_
  intro p e s m args below meth cd X hr hm
  have X : gCx p s m args meth cd n0 D cA "ParishUnion" cX11_isBench 1 := X
  show G p l e ({ frames := 1, cells := 0, slots := 0, locals := 22 } : Room) s m args below meth cd n0 D cA 1 (MQ below (gQi n0 D cA sz (fun z M1 => M = M1 ∧ ((0 ≤ a ∧ a ≤ 1) ∧ z = 1 ∨ ¬(0 ≤ a ∧ a ≤ 1) ∧ z = 0))) args s 0 0 (fun q => n0 ≤ q)) 0 0 M sz 0 [(0, gJ a)] []
  refine g_iload_n (n := 1) X 0 dX11_isBench_0 rfl rfl rfl ?_
  refine g_iconst (n := 2) X dX11_isBench_1 rfl ?_
  refine g_iconst (n := 3) X dX11_isBench_2 rfl ?_
  refine g_callSi (n := 6) (As := [gJ a, gJ 0, gJ 1]) (rest := []) (cs1 := 0) (ss1 := 0) X (c_X11_within a 0 1 (by omega) (by omega) (by omega) (by omega)) okX11_within kw_3_29 kw_3_30 ⟨rfl, rfl⟩ ⟨Nat.le_of_ble_eq_true rfl, Nat.le_of_ble_eq_true rfl⟩ rfl rfl (Nat.le_of_ble_eq_true rfl) ⟨Nat.le_of_ble_eq_true rfl, Nat.le_of_ble_eq_true rfl⟩ rfl rfl dX11_isBench_3 rfl (fun z1 M2 P3 => ?_)
  obtain ⟨rfl, P3⟩ := P3
  exact g_zreturn X (by omega) hr dX11_isBench_6 (by exact ⟨rfl, by omega⟩)
theorem dX11_isPerson_0 : decode cX11_isPerson 0 = .ok (.iload_n 1, 1) := by decide +kernel
theorem dX11_isPerson_1 : decode cX11_isPerson 1 = .ok (.iconst 0, 1) := by decide +kernel
theorem dX11_isPerson_2 : decode cX11_isPerson 2 = .ok (.aload_n 0, 1) := by decide +kernel
theorem dX11_isPerson_3 : decode cX11_isPerson 3 = .ok (.getfield 10, 3) := by decide +kernel
theorem kw_2_231 : (Jvm.Cond.fieldLink "ParishUnion" (10 : Nat) "ParishUnion" "union" "LParishUnion$Union;") ∈ gT := gT_of (tb_2 _ (List.mem_of_getElem? (i := 231) rfl)) rfl
theorem dX11_isPerson_6 : decode cX11_isPerson 6 = .ok (.getfield 98, 3) := by decide +kernel
theorem kw_2_127 : (Jvm.Cond.fieldLink "ParishUnion" (98 : Nat) "ParishUnion$Union" "personCount" "I") ∈ gT := gT_of (tb_2 _ (List.mem_of_getElem? (i := 127) rfl)) rfl
theorem dX11_isPerson_9 : decode cX11_isPerson 9 = .ok (.iconst 1, 1) := by decide +kernel
theorem dX11_isPerson_10 : decode cX11_isPerson 10 = .ok (.isub, 1) := by decide +kernel
theorem dX11_isPerson_11 : decode cX11_isPerson 11 = .ok (.invokestatic 62, 3) := by decide +kernel
theorem dX11_isPerson_14 : decode cX11_isPerson 14 = .ok (.ireturn, 1) := by decide +kernel
set_option maxRecDepth 100000 in
set_option maxHeartbeats 4000000 in
theorem c_X11_isPerson {l : Launch} {n0 : Nat} {D : va_G} {cA : Nat → ClassId} {M : gM} (a : Int) (r_a : -2147483648 ≤ a ∧ a ≤ 2147483647) {sz : Nat} (hsz : 206 ≤ sz) (f_0_0 : M 0 0 = 2) (f_1_10 : M 1 10 = 0) : Met l yX11_isPerson (gWsOf yX11_isPerson cX11_isPerson 2 (Option.some Jvm.ClassFile.FieldType.boolean)) { frames := 1, cells := 0, slots := 0, locals := 22 } (gPc n0 D cA [gA n0 0, gJ a] M sz) (gQi n0 D cA sz (fun z M1 => M = M1 ∧ (z = 0))) 0 0 (fun q => n0 ≤ q) := by
  refine gMet_of [gA n0 0, gJ a] (by decide) (Nat.le_of_ble_eq_true rfl) ?_
  intro p e s m args below meth cd X hr hm
  have X : gCx p s m args meth cd n0 D cA "ParishUnion" cX11_isPerson 2 := X
  show G p l e ({ frames := 1, cells := 0, slots := 0, locals := 22 } : Room) s m args below meth cd n0 D cA 2 (MQ below (gQi n0 D cA sz (fun z M1 => M = M1 ∧ (z = 0))) args s 0 0 (fun q => n0 ≤ q)) 0 0 M sz 0 [(0, gA n0 0), (1, gJ a)] []
  refine g_iload_n (n := 1) X 1 dX11_isPerson_0 rfl rfl rfl ?_
  refine g_iconst (n := 2) X dX11_isPerson_1 rfl ?_
  refine g_aload_n (n := 3) X 0 dX11_isPerson_2 rfl rfl rfl ?_
  refine gg_11_0 (n := 6) (z := 1) X (by omega) (by omega) lay_0 kw_2_231 dX11_isPerson_3 rfl f_0_0 (by omega) ?_
  refine gg_9_10 (n := 9) (z := 0) X (by omega) (by omega) lay_1 kw_2_127 dX11_isPerson_6 rfl f_1_10 ?_
  refine g_iconst (n := 10) X dX11_isPerson_9 rfl ?_
  refine g_isub (n := 11) (z := (-1)) X dX11_isPerson_10 rfl rfl ?_
  refine g_callSi (n := 14) (As := [gJ a, gJ 0, gJ (-1)]) (rest := []) (cs1 := 0) (ss1 := 0) X (c_X11_within a 0 (-1) (by omega) (by omega) (by omega) (by omega)) okX11_within kw_3_29 kw_3_30 ⟨rfl, rfl⟩ ⟨Nat.le_of_ble_eq_true rfl, Nat.le_of_ble_eq_true rfl⟩ rfl rfl (Nat.le_of_ble_eq_true rfl) ⟨Nat.le_of_ble_eq_true rfl, Nat.le_of_ble_eq_true rfl⟩ rfl rfl dX11_isPerson_11 rfl (fun z1 M2 P3 => ?_)
  obtain ⟨rfl, P3⟩ := P3
  exact g_zreturn X (by omega) hr dX11_isPerson_14 (by exact ⟨rfl, by omega⟩)
theorem dX11_isRight_0 : decode cX11_isRight 0 = .ok (.iload_n 1, 1) := by decide +kernel
theorem dX11_isRight_1 : decode cX11_isRight 1 = .ok (.iconst 0, 1) := by decide +kernel
theorem dX11_isRight_2 : decode cX11_isRight 2 = .ok (.aload_n 0, 1) := by decide +kernel
theorem dX11_isRight_3 : decode cX11_isRight 3 = .ok (.getfield 10, 3) := by decide +kernel
theorem dX11_isRight_6 : decode cX11_isRight 6 = .ok (.getfield 423, 3) := by decide +kernel
theorem kw_2_130 : (Jvm.Cond.fieldLink "ParishUnion" (423 : Nat) "ParishUnion$Union" "rightCount" "I") ∈ gT := gT_of (tb_2 _ (List.mem_of_getElem? (i := 130) rfl)) rfl
theorem dX11_isRight_9 : decode cX11_isRight 9 = .ok (.iconst 1, 1) := by decide +kernel
theorem dX11_isRight_10 : decode cX11_isRight 10 = .ok (.isub, 1) := by decide +kernel
theorem dX11_isRight_11 : decode cX11_isRight 11 = .ok (.invokestatic 62, 3) := by decide +kernel
theorem dX11_isRight_14 : decode cX11_isRight 14 = .ok (.ireturn, 1) := by decide +kernel
set_option maxRecDepth 100000 in
set_option maxHeartbeats 4000000 in
theorem c_X11_isRight {l : Launch} {n0 : Nat} {D : va_G} {cA : Nat → ClassId} {M : gM} (a : Int) (r_a : -2147483648 ≤ a ∧ a ≤ 2147483647) {sz : Nat} (hsz : 206 ≤ sz) (f_0_0 : M 0 0 = 2) (f_1_11 : M 1 11 = 0) : Met l yX11_isRight (gWsOf yX11_isRight cX11_isRight 2 (Option.some Jvm.ClassFile.FieldType.boolean)) { frames := 1, cells := 0, slots := 0, locals := 22 } (gPc n0 D cA [gA n0 0, gJ a] M sz) (gQi n0 D cA sz (fun z M1 => M = M1 ∧ (z = 0))) 0 0 (fun q => n0 ≤ q) := by
  refine gMet_of [gA n0 0, gJ a] (by decide) (Nat.le_of_ble_eq_true rfl) ?_
  intro p e s m args below meth cd X hr hm
  have X : gCx p s m args meth cd n0 D cA "ParishUnion" cX11_isRight 2 := X
  show G p l e ({ frames := 1, cells := 0, slots := 0, locals := 22 } : Room) s m args below meth cd n0 D cA 2 (MQ below (gQi n0 D cA sz (fun z M1 => M = M1 ∧ (z = 0))) args s 0 0 (fun q => n0 ≤ q)) 0 0 M sz 0 [(0, gA n0 0), (1, gJ a)] []
  refine g_iload_n (n := 1) X 1 dX11_isRight_0 rfl rfl rfl ?_
  refine g_iconst (n := 2) X dX11_isRight_1 rfl ?_
  refine g_aload_n (n := 3) X 0 dX11_isRight_2 rfl rfl rfl ?_
  refine gg_11_0 (n := 6) (z := 1) X (by omega) (by omega) lay_0 kw_2_231 dX11_isRight_3 rfl f_0_0 (by omega) ?_
  refine gg_9_11 (n := 9) (z := 0) X (by omega) (by omega) lay_1 kw_2_130 dX11_isRight_6 rfl f_1_11 ?_
  refine g_iconst (n := 10) X dX11_isRight_9 rfl ?_
  refine g_isub (n := 11) (z := (-1)) X dX11_isRight_10 rfl rfl ?_
  refine g_callSi (n := 14) (As := [gJ a, gJ 0, gJ (-1)]) (rest := []) (cs1 := 0) (ss1 := 0) X (c_X11_within a 0 (-1) (by omega) (by omega) (by omega) (by omega)) okX11_within kw_3_29 kw_3_30 ⟨rfl, rfl⟩ ⟨Nat.le_of_ble_eq_true rfl, Nat.le_of_ble_eq_true rfl⟩ rfl rfl (Nat.le_of_ble_eq_true rfl) ⟨Nat.le_of_ble_eq_true rfl, Nat.le_of_ble_eq_true rfl⟩ rfl rfl dX11_isRight_11 rfl (fun z1 M2 P3 => ?_)
  obtain ⟨rfl, P3⟩ := P3
  exact g_zreturn X (by omega) hr dX11_isRight_14 (by exact ⟨rfl, by omega⟩)
theorem dX11_isOrder_0 : decode cX11_isOrder 0 = .ok (.iload_n 1, 1) := by decide +kernel
theorem dX11_isOrder_1 : decode cX11_isOrder 1 = .ok (.iconst 0, 1) := by decide +kernel
theorem dX11_isOrder_2 : decode cX11_isOrder 2 = .ok (.aload_n 0, 1) := by decide +kernel
theorem dX11_isOrder_3 : decode cX11_isOrder 3 = .ok (.getfield 10, 3) := by decide +kernel
theorem dX11_isOrder_6 : decode cX11_isOrder 6 = .ok (.getfield 247, 3) := by decide +kernel
theorem kw_2_117 : (Jvm.Cond.fieldLink "ParishUnion" (247 : Nat) "ParishUnion$Union" "orders" "LParishUnion$Orders;") ∈ gT := gT_of (tb_2 _ (List.mem_of_getElem? (i := 117) rfl)) rfl
theorem dX11_isOrder_9 : decode cX11_isOrder 9 = .ok (.getfield 251, 3) := by decide +kernel
theorem kw_1_73 : (Jvm.Cond.fieldLink "ParishUnion" (251 : Nat) "ParishUnion$Orders" "count" "I") ∈ gT := gT_of (tb_1 _ (List.mem_of_getElem? (i := 73) rfl)) rfl
theorem dX11_isOrder_12 : decode cX11_isOrder 12 = .ok (.iconst 1, 1) := by decide +kernel
theorem dX11_isOrder_13 : decode cX11_isOrder 13 = .ok (.isub, 1) := by decide +kernel
theorem dX11_isOrder_14 : decode cX11_isOrder 14 = .ok (.invokestatic 62, 3) := by decide +kernel
theorem dX11_isOrder_17 : decode cX11_isOrder 17 = .ok (.ireturn, 1) := by decide +kernel
set_option maxRecDepth 100000 in
set_option maxHeartbeats 4000000 in
theorem c_X11_isOrder {l : Launch} {n0 : Nat} {D : va_G} {cA : Nat → ClassId} {M : gM} (a : Int) (r_a : -2147483648 ≤ a ∧ a ≤ 2147483647) {sz : Nat} (hsz : 206 ≤ sz) (f_0_0 : M 0 0 = 2) (f_1_5 : M 1 5 = 10) (f_9_5 : M 9 5 = 0) : Met l yX11_isOrder (gWsOf yX11_isOrder cX11_isOrder 2 (Option.some Jvm.ClassFile.FieldType.boolean)) { frames := 1, cells := 0, slots := 0, locals := 22 } (gPc n0 D cA [gA n0 0, gJ a] M sz) (gQi n0 D cA sz (fun z M1 => M = M1 ∧ (z = 0))) 0 0 (fun q => n0 ≤ q) := by
  refine gMet_of [gA n0 0, gJ a] (by decide) (Nat.le_of_ble_eq_true rfl) ?_
  intro p e s m args below meth cd X hr hm
  have X : gCx p s m args meth cd n0 D cA "ParishUnion" cX11_isOrder 2 := X
  show G p l e ({ frames := 1, cells := 0, slots := 0, locals := 22 } : Room) s m args below meth cd n0 D cA 2 (MQ below (gQi n0 D cA sz (fun z M1 => M = M1 ∧ (z = 0))) args s 0 0 (fun q => n0 ≤ q)) 0 0 M sz 0 [(0, gA n0 0), (1, gJ a)] []
  refine g_iload_n (n := 1) X 1 dX11_isOrder_0 rfl rfl rfl ?_
  refine g_iconst (n := 2) X dX11_isOrder_1 rfl ?_
  refine g_aload_n (n := 3) X 0 dX11_isOrder_2 rfl rfl rfl ?_
  refine gg_11_0 (n := 6) (z := 1) X (by omega) (by omega) lay_0 kw_2_231 dX11_isOrder_3 rfl f_0_0 (by omega) ?_
  refine gg_9_5 (n := 9) (z := 9) X (by omega) (by omega) lay_1 kw_2_117 dX11_isOrder_6 rfl f_1_5 (by omega) ?_
  refine gg_4_5 (n := 12) (z := 0) X (by omega) (by omega) lay_9 kw_1_73 dX11_isOrder_9 rfl f_9_5 ?_
  refine g_iconst (n := 13) X dX11_isOrder_12 rfl ?_
  refine g_isub (n := 14) (z := (-1)) X dX11_isOrder_13 rfl rfl ?_
  refine g_callSi (n := 17) (As := [gJ a, gJ 0, gJ (-1)]) (rest := []) (cs1 := 0) (ss1 := 0) X (c_X11_within a 0 (-1) (by omega) (by omega) (by omega) (by omega)) okX11_within kw_3_29 kw_3_30 ⟨rfl, rfl⟩ ⟨Nat.le_of_ble_eq_true rfl, Nat.le_of_ble_eq_true rfl⟩ rfl rfl (Nat.le_of_ble_eq_true rfl) ⟨Nat.le_of_ble_eq_true rfl, Nat.le_of_ble_eq_true rfl⟩ rfl rfl dX11_isOrder_14 rfl (fun z1 M2 P3 => ?_)
  obtain ⟨rfl, P3⟩ := P3
  exact g_zreturn X (by omega) hr dX11_isOrder_17 (by exact ⟨rfl, by omega⟩)
theorem dX11_isEntryCount_0 : decode cX11_isEntryCount 0 = .ok (.iload_n 1, 1) := by decide +kernel
theorem dX11_isEntryCount_1 : decode cX11_isEntryCount 1 = .ok (.iconst (-1), 1) := by decide +kernel
theorem dX11_isEntryCount_2 : decode cX11_isEntryCount 2 = .ok (.aload_n 0, 1) := by decide +kernel
theorem dX11_isEntryCount_3 : decode cX11_isEntryCount 3 = .ok (.getfield 10, 3) := by decide +kernel
theorem dX11_isEntryCount_6 : decode cX11_isEntryCount 6 = .ok (.getfield 152, 3) := by decide +kernel
theorem kw_2_133 : (Jvm.Cond.fieldLink "ParishUnion" (152 : Nat) "ParishUnion$Union" "entries" "I") ∈ gT := gT_of (tb_2 _ (List.mem_of_getElem? (i := 133) rfl)) rfl
theorem dX11_isEntryCount_9 : decode cX11_isEntryCount 9 = .ok (.invokestatic 62, 3) := by decide +kernel
theorem dX11_isEntryCount_12 : decode cX11_isEntryCount 12 = .ok (.ireturn, 1) := by decide +kernel
set_option maxRecDepth 100000 in
set_option maxHeartbeats 4000000 in
theorem c_X11_isEntryCount {l : Launch} {n0 : Nat} {D : va_G} {cA : Nat → ClassId} {M : gM} (a : Int) (r_a : -2147483648 ≤ a ∧ a ≤ 2147483647) {sz : Nat} (hsz : 206 ≤ sz) (f_0_0 : M 0 0 = 2) (f_1_12 : M 1 12 = 0) : Met l yX11_isEntryCount (gWsOf yX11_isEntryCount cX11_isEntryCount 2 (Option.some Jvm.ClassFile.FieldType.boolean)) { frames := 1, cells := 0, slots := 0, locals := 22 } (gPc n0 D cA [gA n0 0, gJ a] M sz) (gQi n0 D cA sz (fun z M1 => M = M1 ∧ ((-1 ≤ a ∧ a ≤ 0) ∧ z = 1 ∨ ¬(-1 ≤ a ∧ a ≤ 0) ∧ z = 0))) 0 0 (fun q => n0 ≤ q) := by
  refine gMet_of [gA n0 0, gJ a] (by decide) (Nat.le_of_ble_eq_true rfl) ?_
  intro p e s m args below meth cd X hr hm
  have X : gCx p s m args meth cd n0 D cA "ParishUnion" cX11_isEntryCount 2 := X
  show G p l e ({ frames := 1, cells := 0, slots := 0, locals := 22 } : Room) s m args below meth cd n0 D cA 2 (MQ below (gQi n0 D cA sz (fun z M1 => M = M1 ∧ ((-1 ≤ a ∧ a ≤ 0) ∧ z = 1 ∨ ¬(-1 ≤ a ∧ a ≤ 0) ∧ z = 0))) args s 0 0 (fun q => n0 ≤ q)) 0 0 M sz 0 [(0, gA n0 0), (1, gJ a)] []
  refine g_iload_n (n := 1) X 1 dX11_isEntryCount_0 rfl rfl rfl ?_
  refine g_iconst (n := 2) X dX11_isEntryCount_1 rfl ?_
  refine g_aload_n (n := 3) X 0 dX11_isEntryCount_2 rfl rfl rfl ?_
  refine gg_11_0 (n := 6) (z := 1) X (by omega) (by omega) lay_0 kw_2_231 dX11_isEntryCount_3 rfl f_0_0 (by omega) ?_
  refine gg_9_12 (n := 9) (z := 0) X (by omega) (by omega) lay_1 kw_2_133 dX11_isEntryCount_6 rfl f_1_12 ?_
  refine g_callSi (n := 12) (As := [gJ a, gJ (-1), gJ 0]) (rest := []) (cs1 := 0) (ss1 := 0) X (c_X11_within a (-1) 0 (by omega) (by omega) (by omega) (by omega)) okX11_within kw_3_29 kw_3_30 ⟨rfl, rfl⟩ ⟨Nat.le_of_ble_eq_true rfl, Nat.le_of_ble_eq_true rfl⟩ rfl rfl (Nat.le_of_ble_eq_true rfl) ⟨Nat.le_of_ble_eq_true rfl, Nat.le_of_ble_eq_true rfl⟩ rfl rfl dX11_isEntryCount_9 rfl (fun z1 M2 P3 => ?_)
  obtain ⟨rfl, P3⟩ := P3
  exact g_zreturn X (by omega) hr dX11_isEntryCount_12 (by exact ⟨rfl, by omega⟩)
theorem dX11_isGone_0 : decode cX11_isGone 0 = .ok (.iload_n 1, 1) := by decide +kernel
theorem dX11_isGone_1 : decode cX11_isGone 1 = .ok (.iconst 0, 1) := by decide +kernel
theorem dX11_isGone_2 : decode cX11_isGone 2 = .ok (.aload_n 0, 1) := by decide +kernel
theorem dX11_isGone_3 : decode cX11_isGone 3 = .ok (.getfield 10, 3) := by decide +kernel
theorem dX11_isGone_6 : decode cX11_isGone 6 = .ok (.getfield 85, 3) := by decide +kernel
theorem kw_2_139 : (Jvm.Cond.fieldLink "ParishUnion" (85 : Nat) "ParishUnion$Union" "now" "I") ∈ gT := gT_of (tb_2 _ (List.mem_of_getElem? (i := 139) rfl)) rfl
theorem dX11_isGone_9 : decode cX11_isGone 9 = .ok (.iconst 1, 1) := by decide +kernel
theorem dX11_isGone_10 : decode cX11_isGone 10 = .ok (.isub, 1) := by decide +kernel
theorem dX11_isGone_11 : decode cX11_isGone 11 = .ok (.invokestatic 62, 3) := by decide +kernel
theorem dX11_isGone_14 : decode cX11_isGone 14 = .ok (.ireturn, 1) := by decide +kernel
set_option maxRecDepth 100000 in
set_option maxHeartbeats 4000000 in
theorem c_X11_isGone {l : Launch} {n0 : Nat} {D : va_G} {cA : Nat → ClassId} {M : gM} (a : Int) (r_a : -2147483648 ≤ a ∧ a ≤ 2147483647) {sz : Nat} (hsz : 206 ≤ sz) (f_0_0 : M 0 0 = 2) (f_1_15 : M 1 15 = 0) : Met l yX11_isGone (gWsOf yX11_isGone cX11_isGone 2 (Option.some Jvm.ClassFile.FieldType.boolean)) { frames := 1, cells := 0, slots := 0, locals := 22 } (gPc n0 D cA [gA n0 0, gJ a] M sz) (gQi n0 D cA sz (fun z M1 => M = M1 ∧ (z = 0))) 0 0 (fun q => n0 ≤ q) := by
  refine gMet_of [gA n0 0, gJ a] (by decide) (Nat.le_of_ble_eq_true rfl) ?_
  intro p e s m args below meth cd X hr hm
  have X : gCx p s m args meth cd n0 D cA "ParishUnion" cX11_isGone 2 := X
  show G p l e ({ frames := 1, cells := 0, slots := 0, locals := 22 } : Room) s m args below meth cd n0 D cA 2 (MQ below (gQi n0 D cA sz (fun z M1 => M = M1 ∧ (z = 0))) args s 0 0 (fun q => n0 ≤ q)) 0 0 M sz 0 [(0, gA n0 0), (1, gJ a)] []
  refine g_iload_n (n := 1) X 1 dX11_isGone_0 rfl rfl rfl ?_
  refine g_iconst (n := 2) X dX11_isGone_1 rfl ?_
  refine g_aload_n (n := 3) X 0 dX11_isGone_2 rfl rfl rfl ?_
  refine gg_11_0 (n := 6) (z := 1) X (by omega) (by omega) lay_0 kw_2_231 dX11_isGone_3 rfl f_0_0 (by omega) ?_
  refine gg_9_15 (n := 9) (z := 0) X (by omega) (by omega) lay_1 kw_2_139 dX11_isGone_6 rfl f_1_15 ?_
  refine g_iconst (n := 10) X dX11_isGone_9 rfl ?_
  refine g_isub (n := 11) (z := (-1)) X dX11_isGone_10 rfl rfl ?_
  refine g_callSi (n := 14) (As := [gJ a, gJ 0, gJ (-1)]) (rest := []) (cs1 := 0) (ss1 := 0) X (c_X11_within a 0 (-1) (by omega) (by omega) (by omega) (by omega)) okX11_within kw_3_29 kw_3_30 ⟨rfl, rfl⟩ ⟨Nat.le_of_ble_eq_true rfl, Nat.le_of_ble_eq_true rfl⟩ rfl rfl (Nat.le_of_ble_eq_true rfl) ⟨Nat.le_of_ble_eq_true rfl, Nat.le_of_ble_eq_true rfl⟩ rfl rfl dX11_isGone_11 rfl (fun z1 M2 P3 => ?_)
  obtain ⟨rfl, P3⟩ := P3
  exact g_zreturn X (by omega) hr dX11_isGone_14 (by exact ⟨rfl, by omega⟩)
theorem dX11_parish_0 : decode cX11_parish 0 = .ok (.iload_n 1, 1) := by decide +kernel
theorem dX11_parish_1 : decode cX11_parish 1 = .ok (.invokestatic 58, 3) := by decide +kernel
theorem kw_3_26 : (Jvm.Cond.methodLink "ParishUnion" (58 : Nat) ({ cls := "ParishUnion", name := "isParish", desc := "(I)Z" } : Jvm.MethodName)) ∈ gT := gT_of (tb_3 _ (List.mem_of_getElem? (i := 26) rfl)) rfl
theorem kw_3_28 : (Jvm.Cond.code ({ cls := "ParishUnion", name := "isParish", desc := "(I)Z" } : Jvm.MethodName) prog_1_method_49_code (1 : Nat) (Option.some Jvm.ClassFile.FieldType.boolean)) ∈ gT := gT_of (tb_3 _ (List.mem_of_getElem? (i := 28) rfl)) rfl
theorem okX11_isParish : gQok yX11_isParish cX11_isParish 1 (Option.some Jvm.ClassFile.FieldType.boolean) 1 := ⟨kw_3_28, kw_1_1, by decide +kernel, by decide +kernel, by decide +kernel⟩
theorem kw_3_27 : (Jvm.Cond.static ({ cls := "ParishUnion", name := "isParish", desc := "(I)Z" } : Jvm.MethodName)) ∈ gT := gT_of (tb_3 _ (List.mem_of_getElem? (i := 27) rfl)) rfl
theorem dX11_parish_4 : decode cX11_parish 4 = .ok (.ifCond .ne 5, 3) := by decide +kernel
theorem dX11_parish_9 : decode cX11_parish 9 = .ok (.iload_n 2, 1) := by decide +kernel
theorem dX11_parish_10 : decode cX11_parish 10 = .ok (.iconst 0, 1) := by decide +kernel
theorem dX11_parish_11 : decode cX11_parish 11 = .ok (.sipush 9999, 3) := by decide +kernel
theorem dX11_parish_14 : decode cX11_parish 14 = .ok (.invokestatic 62, 3) := by decide +kernel
theorem dX11_parish_17 : decode cX11_parish 17 = .ok (.ifCond .ne 6, 3) := by decide +kernel
theorem dX11_parish_23 : decode cX11_parish 23 = .ok (.aload_n 0, 1) := by decide +kernel
theorem dX11_parish_24 : decode cX11_parish 24 = .ok (.getfield 10, 3) := by decide +kernel
theorem dX11_parish_27 : decode cX11_parish 27 = .ok (.getfield 66, 3) := by decide +kernel
theorem kw_2_105 : (Jvm.Cond.fieldLink "ParishUnion" (66 : Nat) "ParishUnion$Union" "land" "LParishUnion$Land;") ∈ gT := gT_of (tb_2 _ (List.mem_of_getElem? (i := 105) rfl)) rfl
theorem dX11_parish_30 : decode cX11_parish 30 = .ok (.getfield 70, 3) := by decide +kernel
theorem kw_1_42 : (Jvm.Cond.fieldLink "ParishUnion" (70 : Nat) "ParishUnion$Land" "rents" "[I") ∈ gT := gT_of (tb_1 _ (List.mem_of_getElem? (i := 42) rfl)) rfl
theorem dX11_parish_33 : decode cX11_parish 33 = .ok (.iload_n 1, 1) := by decide +kernel
theorem dX11_parish_34 : decode cX11_parish 34 = .ok (.iaload, 1) := by decide +kernel
theorem dX11_parish_35 : decode cX11_parish 35 = .ok (.istore_n 3, 1) := by decide +kernel
theorem dX11_parish_36 : decode cX11_parish 36 = .ok (.aload_n 0, 1) := by decide +kernel
theorem dX11_parish_37 : decode cX11_parish 37 = .ok (.getfield 10, 3) := by decide +kernel
theorem dX11_parish_40 : decode cX11_parish 40 = .ok (.getfield 66, 3) := by decide +kernel
theorem dX11_parish_43 : decode cX11_parish 43 = .ok (.getfield 70, 3) := by decide +kernel
theorem dX11_parish_46 : decode cX11_parish 46 = .ok (.iload_n 1, 1) := by decide +kernel
theorem dX11_parish_47 : decode cX11_parish 47 = .ok (.iload_n 2, 1) := by decide +kernel
theorem dX11_parish_48 : decode cX11_parish 48 = .ok (.iastore, 1) := by decide +kernel
theorem dX11_parish_49 : decode cX11_parish 49 = .ok (.iload_n 3, 1) := by decide +kernel
theorem dX11_parish_50 : decode cX11_parish 50 = .ok (.ireturn, 1) := by decide +kernel
theorem dX11_parish_20 : decode cX11_parish 20 = .ok (.bipush (-2), 2) := by decide +kernel
theorem dX11_parish_22 : decode cX11_parish 22 = .ok (.ireturn, 1) := by decide +kernel
theorem dX11_parish_7 : decode cX11_parish 7 = .ok (.iconst (-1), 1) := by decide +kernel
theorem dX11_parish_8 : decode cX11_parish 8 = .ok (.ireturn, 1) := by decide +kernel
set_option maxRecDepth 100000 in
set_option maxHeartbeats 4000000 in
theorem c_X11_parish {l : Launch} {n0 : Nat} {D : va_G} {cA : Nat → ClassId} {M : gM} (a b : Int) (r_a : -2147483648 ≤ a ∧ a ≤ 2147483647) (r_b : -2147483648 ≤ b ∧ b ≤ 2147483647) {sz : Nat} (hsz : 206 ≤ sz) (f_0_0 : M 0 0 = 2) (f_1_0 : M 1 0 = 3) (f_2_0 : M 2 0 = 4) (rents : ∀ i : Int, 0 ≤ i → i < 6 → M 3 i = 100) : Met l yX11_parish (gWsOf yX11_parish cX11_parish 4 (Option.some Jvm.ClassFile.FieldType.int)) { frames := 2, cells := 0, slots := 0, locals := 42 } (gPc n0 D cA [gA n0 0, gJ a, gJ b] M sz) (gQi n0 D cA sz (fun z M1 => (((¬(0 ≤ a ∧ a ≤ 5)) → z = -1) ∧ (¬(¬(0 ≤ a ∧ a ≤ 5)) → (¬(0 ≤ b ∧ b ≤ 9999)) → z = -2) ∧ (¬(¬(0 ≤ a ∧ a ≤ 5)) → ¬(¬(0 ≤ b ∧ b ≤ 9999)) → (z = 100))) ∧ ∀ a : Int, a ≠ 3 → M1 a = M a)) 0 0 (fun q => n0 ≤ q) := by
  refine gMet_of [gA n0 0, gJ a, gJ b] (by decide) (Nat.le_of_ble_eq_true rfl) ?_
  intro p e s m args below meth cd X hr hm
  have X : gCx p s m args meth cd n0 D cA "ParishUnion" cX11_parish 4 := X
  show G p l e ({ frames := 2, cells := 0, slots := 0, locals := 42 } : Room) s m args below meth cd n0 D cA 4 (MQ below (gQi n0 D cA sz (fun z M1 => (((¬(0 ≤ a ∧ a ≤ 5)) → z = -1) ∧ (¬(¬(0 ≤ a ∧ a ≤ 5)) → (¬(0 ≤ b ∧ b ≤ 9999)) → z = -2) ∧ (¬(¬(0 ≤ a ∧ a ≤ 5)) → ¬(¬(0 ≤ b ∧ b ≤ 9999)) → (z = 100))) ∧ ∀ a : Int, a ≠ 3 → M1 a = M a)) args s 0 0 (fun q => n0 ≤ q)) 0 0 M sz 0 [(0, gA n0 0), (1, gJ a), (2, gJ b)] []
  refine g_iload_n (n := 1) X 1 dX11_parish_0 rfl rfl rfl ?_
  refine g_callSi (n := 4) (As := [gJ a]) (rest := []) (cs1 := 0) (ss1 := 0) X (c_X11_isParish a (by omega) (by omega)) okX11_isParish kw_3_26 kw_3_27 ⟨rfl, rfl⟩ ⟨Nat.le_of_ble_eq_true rfl, Nat.le_of_ble_eq_true rfl⟩ rfl rfl (Nat.le_of_ble_eq_true rfl) ⟨Nat.le_of_ble_eq_true rfl, Nat.le_of_ble_eq_true rfl⟩ rfl rfl dX11_parish_1 rfl (fun z1 M2 P3 => ?_)
  obtain ⟨rfl, P3⟩ := P3
  refine g_if_ne (n := 7) (tgt := 9) X dX11_parish_4 (by decide) (by omega) rfl (fun c4 => ?_) (fun c4 => ?_)
  · refine g_iload_n (n := 10) X 2 dX11_parish_9 rfl rfl rfl ?_
    refine g_iconst (n := 11) X dX11_parish_10 rfl ?_
    refine g_sipush (n := 14) X dX11_parish_11 (by decide +kernel) rfl ?_
    refine g_callSi (n := 17) (As := [gJ b, gJ 0, gJ 9999]) (rest := []) (cs1 := 0) (ss1 := 0) X (c_X11_within b 0 9999 (by omega) (by omega) (by omega) (by omega)) okX11_within kw_3_29 kw_3_30 ⟨rfl, rfl⟩ ⟨Nat.le_of_ble_eq_true rfl, Nat.le_of_ble_eq_true rfl⟩ rfl rfl (Nat.le_of_ble_eq_true rfl) ⟨Nat.le_of_ble_eq_true rfl, Nat.le_of_ble_eq_true rfl⟩ rfl rfl dX11_parish_14 rfl (fun z5 M6 P7 => ?_)
    obtain ⟨rfl, P7⟩ := P7
    refine g_if_ne (n := 20) (tgt := 23) X dX11_parish_17 (by decide) (by omega) rfl (fun c8 => ?_) (fun c8 => ?_)
    · refine g_aload_n (n := 24) X 0 dX11_parish_23 rfl rfl rfl ?_
      refine gg_11_0 (n := 27) (z := 1) X (by omega) (by omega) lay_0 kw_2_231 dX11_parish_24 rfl f_0_0 (by omega) ?_
      refine gg_9_0 (n := 30) (z := 2) X (by omega) (by omega) lay_1 kw_2_105 dX11_parish_27 rfl f_1_0 (by omega) ?_
      refine gg_3_0 (n := 33) (z := 3) X (by omega) (by omega) lay_2 kw_1_42 dX11_parish_30 rfl f_2_0 (by omega) ?_
      refine g_iload_n (n := 34) X 1 dX11_parish_33 rfl rfl rfl ?_
      refine g_iald (n := 35) X (by omega) (by omega) lay_3 (by omega) (by omega) (by omega) dX11_parish_34 rfl ?_
      rw [show M 3 a = 100 from (rents _ (by omega) (by omega))]
      refine g_istore_n (n := 36) (L' := [(3, gJ 100), (0, gA n0 0), (1, gJ a), (2, gJ b)]) X dX11_parish_35 rfl (by decide) rfl rfl ?_
      refine g_aload_n (n := 37) X 1 dX11_parish_36 rfl rfl rfl ?_
      refine gg_11_0 (n := 40) (z := 1) X (by omega) (by omega) lay_0 kw_2_231 dX11_parish_37 rfl f_0_0 (by omega) ?_
      refine gg_9_0 (n := 43) (z := 2) X (by omega) (by omega) lay_1 kw_2_105 dX11_parish_40 rfl f_1_0 (by omega) ?_
      refine gg_3_0 (n := 46) (z := 3) X (by omega) (by omega) lay_2 kw_1_42 dX11_parish_43 rfl f_2_0 (by omega) ?_
      refine g_iload_n (n := 47) X 2 dX11_parish_46 rfl rfl rfl ?_
      refine g_iload_n (n := 48) X 3 dX11_parish_47 rfl rfl rfl ?_
      refine g_iast (n := 49) X (by omega) (by omega) lay_3 (by omega) (by omega) (by omega) dX11_parish_48 rfl ?_
      refine G.nm (fun M9 e10 => ?_)
      refine g_iload_n (n := 50) X 0 dX11_parish_49 rfl rfl rfl ?_
      exact g_ireturn X hr dX11_parish_50 (by exact ⟨by omega, fun a h0 => ((congrFun e10 a).trans ((gset_off a (by omega)).trans rfl))⟩)
    · refine g_bipush (n := 22) X dX11_parish_20 (by decide +kernel) rfl ?_
      exact g_ireturn X hr dX11_parish_22 (by exact ⟨by omega, fun a h0 => rfl⟩)
  · refine g_iconst (n := 8) X dX11_parish_7 rfl ?_
    exact g_ireturn X hr dX11_parish_8 (by exact ⟨by omega, fun a h0 => rfl⟩)
theorem dX11_price_0 : decode cX11_price 0 = .ok (.iload_n 1, 1) := by decide +kernel
theorem dX11_price_1 : decode cX11_price 1 = .ok (.iconst 0, 1) := by decide +kernel
theorem dX11_price_2 : decode cX11_price 2 = .ok (.bipush 99, 2) := by decide +kernel
theorem dX11_price_4 : decode cX11_price 4 = .ok (.invokestatic 62, 3) := by decide +kernel
theorem dX11_price_7 : decode cX11_price 7 = .ok (.ifCond .ne 6, 3) := by decide +kernel
theorem dX11_price_13 : decode cX11_price 13 = .ok (.aload_n 0, 1) := by decide +kernel
theorem dX11_price_14 : decode cX11_price 14 = .ok (.getfield 10, 3) := by decide +kernel
theorem dX11_price_17 : decode cX11_price 17 = .ok (.getfield 279, 3) := by decide +kernel
theorem kw_2_119 : (Jvm.Cond.fieldLink "ParishUnion" (279 : Nat) "ParishUnion$Union" "house" "LParishUnion$House;") ∈ gT := gT_of (tb_2 _ (List.mem_of_getElem? (i := 119) rfl)) rfl
theorem dX11_price_20 : decode cX11_price 20 = .ok (.getfield 288, 3) := by decide +kernel
theorem kw_1_114 : (Jvm.Cond.fieldLink "ParishUnion" (288 : Nat) "ParishUnion$House" "price" "I") ∈ gT := gT_of (tb_1 _ (List.mem_of_getElem? (i := 114) rfl)) rfl
theorem dX11_price_23 : decode cX11_price 23 = .ok (.istore_n 2, 1) := by decide +kernel
theorem dX11_price_24 : decode cX11_price 24 = .ok (.aload_n 0, 1) := by decide +kernel
theorem dX11_price_25 : decode cX11_price 25 = .ok (.getfield 10, 3) := by decide +kernel
theorem dX11_price_28 : decode cX11_price 28 = .ok (.getfield 279, 3) := by decide +kernel
theorem dX11_price_31 : decode cX11_price 31 = .ok (.iload_n 1, 1) := by decide +kernel
theorem dX11_price_32 : decode cX11_price 32 = .ok (.putfield 288, 3) := by decide +kernel
theorem dX11_price_35 : decode cX11_price 35 = .ok (.iload_n 2, 1) := by decide +kernel
theorem dX11_price_36 : decode cX11_price 36 = .ok (.ireturn, 1) := by decide +kernel
theorem dX11_price_10 : decode cX11_price 10 = .ok (.bipush (-2), 2) := by decide +kernel
theorem dX11_price_12 : decode cX11_price 12 = .ok (.ireturn, 1) := by decide +kernel
set_option maxRecDepth 100000 in
set_option maxHeartbeats 4000000 in
theorem c_X11_price {l : Launch} {n0 : Nat} {D : va_G} {cA : Nat → ClassId} {M : gM} (a : Int) (r_a : -2147483648 ≤ a ∧ a ≤ 2147483647) {sz : Nat} (hsz : 206 ≤ sz) (f_0_0 : M 0 0 = 2) (f_1_6 : M 1 6 = 16) (f_15_9 : M 15 9 = 1) : Met l yX11_price (gWsOf yX11_price cX11_price 3 (Option.some Jvm.ClassFile.FieldType.int)) { frames := 1, cells := 0, slots := 0, locals := 22 } (gPc n0 D cA [gA n0 0, gJ a] M sz) (gQi n0 D cA sz (fun z M1 => (((¬(0 ≤ a ∧ a ≤ 99)) → z = -2) ∧ (¬(¬(0 ≤ a ∧ a ≤ 99)) → (z = 1))) ∧ ∀ a : Int, a ≠ 15 → M1 a = M a)) 0 0 (fun q => n0 ≤ q) := by
  refine gMet_of [gA n0 0, gJ a] (by decide) (Nat.le_of_ble_eq_true rfl) ?_
  intro p e s m args below meth cd X hr hm
  have X : gCx p s m args meth cd n0 D cA "ParishUnion" cX11_price 3 := X
  show G p l e ({ frames := 1, cells := 0, slots := 0, locals := 22 } : Room) s m args below meth cd n0 D cA 3 (MQ below (gQi n0 D cA sz (fun z M1 => (((¬(0 ≤ a ∧ a ≤ 99)) → z = -2) ∧ (¬(¬(0 ≤ a ∧ a ≤ 99)) → (z = 1))) ∧ ∀ a : Int, a ≠ 15 → M1 a = M a)) args s 0 0 (fun q => n0 ≤ q)) 0 0 M sz 0 [(0, gA n0 0), (1, gJ a)] []
  refine g_iload_n (n := 1) X 1 dX11_price_0 rfl rfl rfl ?_
  refine g_iconst (n := 2) X dX11_price_1 rfl ?_
  refine g_bipush (n := 4) X dX11_price_2 (by decide +kernel) rfl ?_
  refine g_callSi (n := 7) (As := [gJ a, gJ 0, gJ 99]) (rest := []) (cs1 := 0) (ss1 := 0) X (c_X11_within a 0 99 (by omega) (by omega) (by omega) (by omega)) okX11_within kw_3_29 kw_3_30 ⟨rfl, rfl⟩ ⟨Nat.le_of_ble_eq_true rfl, Nat.le_of_ble_eq_true rfl⟩ rfl rfl (Nat.le_of_ble_eq_true rfl) ⟨Nat.le_of_ble_eq_true rfl, Nat.le_of_ble_eq_true rfl⟩ rfl rfl dX11_price_4 rfl (fun z1 M2 P3 => ?_)
  obtain ⟨rfl, P3⟩ := P3
  refine g_if_ne (n := 10) (tgt := 13) X dX11_price_7 (by decide) (by omega) rfl (fun c4 => ?_) (fun c4 => ?_)
  · refine g_aload_n (n := 14) X 0 dX11_price_13 rfl rfl rfl ?_
    refine gg_11_0 (n := 17) (z := 1) X (by omega) (by omega) lay_0 kw_2_231 dX11_price_14 rfl f_0_0 (by omega) ?_
    refine gg_9_6 (n := 20) (z := 15) X (by omega) (by omega) lay_1 kw_2_119 dX11_price_17 rfl f_1_6 (by omega) ?_
    refine gg_2_9 (n := 23) (z := 1) X (by omega) (by omega) lay_15 kw_1_114 dX11_price_20 rfl f_15_9 ?_
    refine g_istore_n (n := 24) (L' := [(2, gJ 1), (0, gA n0 0), (1, gJ a)]) X dX11_price_23 rfl (by decide) rfl rfl ?_
    refine g_aload_n (n := 25) X 1 dX11_price_24 rfl rfl rfl ?_
    refine gg_11_0 (n := 28) (z := 1) X (by omega) (by omega) lay_0 kw_2_231 dX11_price_25 rfl f_0_0 (by omega) ?_
    refine gg_9_6 (n := 31) (z := 15) X (by omega) (by omega) lay_1 kw_2_119 dX11_price_28 rfl f_1_6 (by omega) ?_
    refine g_iload_n (n := 32) X 2 dX11_price_31 rfl rfl rfl ?_
    refine gp_2_9 (n := 35) X (by omega) (by omega) lay_15 kw_1_114 dX11_price_32 rfl ?_
    refine G.nm (fun M5 e6 => ?_)
    refine g_iload_n (n := 36) X 0 dX11_price_35 rfl rfl rfl ?_
    exact g_ireturn X hr dX11_price_36 (by exact ⟨by omega, fun a h0 => ((congrFun e6 a).trans ((gset_off a (by omega)).trans rfl))⟩)
  · refine g_bipush (n := 12) X dX11_price_10 (by decide +kernel) rfl ?_
    exact g_ireturn X hr dX11_price_12 (by exact ⟨by omega, fun a h0 => rfl⟩)
theorem dX3_distance_0 : decode cX3_distance 0 = .ok (.aload_n 0, 1) := by decide +kernel
theorem dX3_distance_1 : decode cX3_distance 1 = .ok (.getfield 15, 3) := by decide +kernel
theorem kw_1_43 : (Jvm.Cond.fieldLink "ParishUnion$Land" (15 : Nat) "ParishUnion$Land" "way" "[I") ∈ gT := gT_of (tb_1 _ (List.mem_of_getElem? (i := 43) rfl)) rfl
theorem dX3_distance_4 : decode cX3_distance 4 = .ok (.iload_n 1, 1) := by decide +kernel
theorem dX3_distance_5 : decode cX3_distance 5 = .ok (.bipush 6, 2) := by decide +kernel
theorem dX3_distance_7 : decode cX3_distance 7 = .ok (.imul, 1) := by decide +kernel
theorem dX3_distance_8 : decode cX3_distance 8 = .ok (.iload_n 2, 1) := by decide +kernel
theorem dX3_distance_9 : decode cX3_distance 9 = .ok (.iadd, 1) := by decide +kernel
theorem dX3_distance_10 : decode cX3_distance 10 = .ok (.iaload, 1) := by decide +kernel
theorem dX3_distance_11 : decode cX3_distance 11 = .ok (.ireturn, 1) := by decide +kernel
set_option maxRecDepth 100000 in
set_option maxHeartbeats 4000000 in
theorem c_X3_distance {l : Launch} {n0 : Nat} {D : va_G} {cA : Nat → ClassId} {M : gM} (a b : Int) (r_a : -2147483648 ≤ a ∧ a ≤ 2147483647) (r_b : -2147483648 ≤ b ∧ b ≤ 2147483647) {sz : Nat} (hsz : 206 ≤ sz) (f_2_1 : M 2 1 = 5) (hab : 0 ≤ a ∧ a ≤ 5 ∧ 0 ≤ b ∧ b ≤ 5) (way : ∀ i : Int, 0 ≤ i → i < 36 → (i % 7 = 0 → M 4 i = 0) ∧ (¬ i % 7 = 0 → M 4 i = 99)) : Met l yX3_distance (gWsOf yX3_distance cX3_distance 3 (Option.some Jvm.ClassFile.FieldType.int)) { frames := 0, cells := 0, slots := 0, locals := 0 } (gPc n0 D cA [gA n0 2, gJ a, gJ b] M sz) (gQi n0 D cA sz (fun z M1 => M = M1 ∧ ((a = b → z = 0) ∧ (¬ a = b → z = 99)))) 0 0 (fun q => n0 ≤ q) := by
  refine gMet_of [gA n0 2, gJ a, gJ b] (by decide) (Nat.le_of_ble_eq_true rfl) ?_
  intro p e s m args below meth cd X hr hm
  have X : gCx p s m args meth cd n0 D cA "ParishUnion$Land" cX3_distance 3 := X
  show G p l e ({ frames := 0, cells := 0, slots := 0, locals := 0 } : Room) s m args below meth cd n0 D cA 3 (MQ below (gQi n0 D cA sz (fun z M1 => M = M1 ∧ ((a = b → z = 0) ∧ (¬ a = b → z = 99)))) args s 0 0 (fun q => n0 ≤ q)) 0 0 M sz 0 [(0, gA n0 2), (1, gJ a), (2, gJ b)] []
  refine g_aload_n (n := 1) X 0 dX3_distance_0 rfl rfl rfl ?_
  refine gg_3_1 (n := 4) (z := 4) X (by omega) (by omega) lay_2 kw_1_43 dX3_distance_1 rfl f_2_1 (by omega) ?_
  refine g_iload_n (n := 5) X 1 dX3_distance_4 rfl rfl rfl ?_
  refine g_bipush (n := 7) X dX3_distance_5 (by decide +kernel) rfl ?_
  refine g_imul (n := 8) (z := a * 6) X dX3_distance_7 rfl rfl ?_
  refine g_iload_n (n := 9) X 2 dX3_distance_8 rfl rfl rfl ?_
  refine g_iadd (n := 10) (z := (a * 6) + b) X dX3_distance_9 rfl rfl ?_
  refine g_iald (n := 11) X (by omega) (by omega) lay_4 (by omega) (by omega) (by omega) dX3_distance_10 rfl ?_
  exact g_ireturn X hr dX3_distance_11 (by exact ⟨rfl, by have hw := way (a * 6 + b) (by omega) (by omega); omega⟩)
theorem dX11_far_0 : decode cX11_far 0 = .ok (.iload_n 1, 1) := by decide +kernel
theorem dX11_far_1 : decode cX11_far 1 = .ok (.invokestatic 58, 3) := by decide +kernel
theorem dX11_far_4 : decode cX11_far 4 = .ok (.ifCond .eq 10, 3) := by decide +kernel
theorem dX11_far_14 : decode cX11_far 14 = .ok (.iconst (-1), 1) := by decide +kernel
theorem dX11_far_15 : decode cX11_far 15 = .ok (.ireturn, 1) := by decide +kernel
theorem dX11_far_7 : decode cX11_far 7 = .ok (.iload_n 2, 1) := by decide +kernel
theorem dX11_far_8 : decode cX11_far 8 = .ok (.invokestatic 58, 3) := by decide +kernel
theorem dX11_far_11 : decode cX11_far 11 = .ok (.ifCond .ne 5, 3) := by decide +kernel
theorem dX11_far_16 : decode cX11_far 16 = .ok (.aload_n 0, 1) := by decide +kernel
theorem dX11_far_17 : decode cX11_far 17 = .ok (.getfield 10, 3) := by decide +kernel
theorem dX11_far_20 : decode cX11_far 20 = .ok (.getfield 66, 3) := by decide +kernel
theorem dX11_far_23 : decode cX11_far 23 = .ok (.iload_n 1, 1) := by decide +kernel
theorem dX11_far_24 : decode cX11_far 24 = .ok (.iload_n 2, 1) := by decide +kernel
theorem dX11_far_25 : decode cX11_far 25 = .ok (.invokevirtual 78, 3) := by decide +kernel
theorem kw_3_51 : (Jvm.Cond.methodLink "ParishUnion" (78 : Nat) ({ cls := "ParishUnion$Land", name := "distance", desc := "(II)I" } : Jvm.MethodName)) ∈ gT := gT_of (tb_3 _ (List.mem_of_getElem? (i := 51) rfl)) rfl
theorem kw_3_43 : (Jvm.Cond.code ({ cls := "ParishUnion$Land", name := "distance", desc := "(II)I" } : Jvm.MethodName) prog_5_method_3_code (3 : Nat) (Option.some Jvm.ClassFile.FieldType.int)) ∈ gT := gT_of (tb_3 _ (List.mem_of_getElem? (i := 43) rfl)) rfl
theorem kw_1_3 : (Jvm.Cond.initialized "ParishUnion$Land") ∈ gT := gT_of (tb_1 _ (List.mem_of_getElem? (i := 3) rfl)) rfl
theorem okX3_distance : gQok yX3_distance cX3_distance 3 (Option.some Jvm.ClassFile.FieldType.int) 2 := ⟨kw_3_43, kw_1_3, by decide +kernel, by decide +kernel, by decide +kernel⟩
theorem kw_3_41 : (Jvm.Cond.instanceMethod ({ cls := "ParishUnion$Land", name := "distance", desc := "(II)I" } : Jvm.MethodName)) ∈ gT := gT_of (tb_3 _ (List.mem_of_getElem? (i := 41) rfl)) rfl
theorem kw_3_42 : (Jvm.Cond.selects "ParishUnion$Land" ({ cls := "ParishUnion$Land", name := "distance", desc := "(II)I" } : Jvm.MethodName) ({ cls := "ParishUnion$Land", name := "distance", desc := "(II)I" } : Jvm.MethodName)) ∈ gT := gT_of (tb_3 _ (List.mem_of_getElem? (i := 42) rfl)) rfl
theorem dX11_far_28 : decode cX11_far 28 = .ok (.ireturn, 1) := by decide +kernel
set_option maxRecDepth 100000 in
set_option maxHeartbeats 4000000 in
theorem c_X11_far {l : Launch} {n0 : Nat} {D : va_G} {cA : Nat → ClassId} {M : gM} (a b : Int) (r_a : -2147483648 ≤ a ∧ a ≤ 2147483647) (r_b : -2147483648 ≤ b ∧ b ≤ 2147483647) {sz : Nat} (hsz : 206 ≤ sz) (f_0_0 : M 0 0 = 2) (f_1_0 : M 1 0 = 3) (f_2_1 : M 2 1 = 5) (way : ∀ i : Int, 0 ≤ i → i < 36 → (i % 7 = 0 → M 4 i = 0) ∧ (¬ i % 7 = 0 → M 4 i = 99)) : Met l yX11_far (gWsOf yX11_far cX11_far 3 (Option.some Jvm.ClassFile.FieldType.int)) { frames := 2, cells := 0, slots := 0, locals := 42 } (gPc n0 D cA [gA n0 0, gJ a, gJ b] M sz) (gQi n0 D cA sz (fun z M1 => (((¬(0 ≤ a ∧ a ≤ 5) ∨ ¬(0 ≤ b ∧ b ≤ 5)) → z = -1) ∧ (¬(¬(0 ≤ a ∧ a ≤ 5) ∨ ¬(0 ≤ b ∧ b ≤ 5)) → ((a = b → z = 0) ∧ (¬ a = b → z = 99)))) ∧ ∀ a : Int, M1 a = M a)) 0 0 (fun q => n0 ≤ q) := by
  refine gMet_of [gA n0 0, gJ a, gJ b] (by decide) (Nat.le_of_ble_eq_true rfl) ?_
  intro p e s m args below meth cd X hr hm
  have X : gCx p s m args meth cd n0 D cA "ParishUnion" cX11_far 3 := X
  show G p l e ({ frames := 2, cells := 0, slots := 0, locals := 42 } : Room) s m args below meth cd n0 D cA 3 (MQ below (gQi n0 D cA sz (fun z M1 => (((¬(0 ≤ a ∧ a ≤ 5) ∨ ¬(0 ≤ b ∧ b ≤ 5)) → z = -1) ∧ (¬(¬(0 ≤ a ∧ a ≤ 5) ∨ ¬(0 ≤ b ∧ b ≤ 5)) → ((a = b → z = 0) ∧ (¬ a = b → z = 99)))) ∧ ∀ a : Int, M1 a = M a)) args s 0 0 (fun q => n0 ≤ q)) 0 0 M sz 0 [(0, gA n0 0), (1, gJ a), (2, gJ b)] []
  refine g_iload_n (n := 1) X 1 dX11_far_0 rfl rfl rfl ?_
  refine g_callSi (n := 4) (As := [gJ a]) (rest := []) (cs1 := 0) (ss1 := 0) X (c_X11_isParish a (by omega) (by omega)) okX11_isParish kw_3_26 kw_3_27 ⟨rfl, rfl⟩ ⟨Nat.le_of_ble_eq_true rfl, Nat.le_of_ble_eq_true rfl⟩ rfl rfl (Nat.le_of_ble_eq_true rfl) ⟨Nat.le_of_ble_eq_true rfl, Nat.le_of_ble_eq_true rfl⟩ rfl rfl dX11_far_1 rfl (fun z1 M2 P3 => ?_)
  obtain ⟨rfl, P3⟩ := P3
  refine g_if_eq (n := 7) (tgt := 14) X dX11_far_4 (by decide) (by omega) rfl (fun c4 => ?_) (fun c4 => ?_)
  · refine g_iconst (n := 15) X dX11_far_14 rfl ?_
    exact g_ireturn X hr dX11_far_15 (by exact ⟨by omega, fun a  => rfl⟩)
  · refine g_iload_n (n := 8) X 2 dX11_far_7 rfl rfl rfl ?_
    refine g_callSi (n := 11) (As := [gJ b]) (rest := []) (cs1 := 0) (ss1 := 0) X (c_X11_isParish b (by omega) (by omega)) okX11_isParish kw_3_26 kw_3_27 ⟨rfl, rfl⟩ ⟨Nat.le_of_ble_eq_true rfl, Nat.le_of_ble_eq_true rfl⟩ rfl rfl (Nat.le_of_ble_eq_true rfl) ⟨Nat.le_of_ble_eq_true rfl, Nat.le_of_ble_eq_true rfl⟩ rfl rfl dX11_far_8 rfl (fun z5 M6 P7 => ?_)
    obtain ⟨rfl, P7⟩ := P7
    refine g_if_ne (n := 14) (tgt := 16) X dX11_far_11 (by decide) (by omega) rfl (fun c8 => ?_) (fun c8 => ?_)
    · refine g_aload_n (n := 17) X 0 dX11_far_16 rfl rfl rfl ?_
      refine gg_11_0 (n := 20) (z := 1) X (by omega) (by omega) lay_0 kw_2_231 dX11_far_17 rfl f_0_0 (by omega) ?_
      refine gg_9_0 (n := 23) (z := 2) X (by omega) (by omega) lay_1 kw_2_105 dX11_far_20 rfl f_1_0 (by omega) ?_
      refine g_iload_n (n := 24) X 1 dX11_far_23 rfl rfl rfl ?_
      refine g_iload_n (n := 25) X 2 dX11_far_24 rfl rfl rfl ?_
      refine g_callVi (n := 28) (As := [gJ a, gJ b]) (rest := []) (cs1 := 0) (ss1 := 0) X (c_X3_distance a b (by omega) (by omega) (by omega) f_2_1 (by omega) way) okX3_distance kw_3_51 ⟨kw_3_41, kw_3_42⟩ ⟨rfl, rfl⟩ ⟨Nat.le_of_ble_eq_true rfl, Nat.le_of_ble_eq_true rfl⟩ rfl (by omega) (by omega) lay_2 rfl rfl (Nat.le_of_ble_eq_true rfl) ⟨Nat.le_of_ble_eq_true rfl, Nat.le_of_ble_eq_true rfl⟩ rfl rfl dX11_far_25 rfl (fun z9 M10 P11 => ?_)
      obtain ⟨rfl, P11⟩ := P11
      exact g_ireturn X hr dX11_far_28 (by exact ⟨by omega, fun a  => rfl⟩)
    · refine g_iconst (n := 15) X dX11_far_14 rfl ?_
      exact g_ireturn X hr dX11_far_15 (by exact ⟨by omega, fun a  => rfl⟩)
theorem dX6_goTo_0 : decode cX6_goTo 0 = .ok (.aload_n 0, 1) := by decide +kernel
theorem dX6_goTo_1 : decode cX6_goTo 1 = .ok (.iload_n 1, 1) := by decide +kernel
theorem dX6_goTo_2 : decode cX6_goTo 2 = .ok (.putfield 40, 3) := by decide +kernel
theorem kw_1_191 : (Jvm.Cond.fieldLink "ParishUnion$Person" (40 : Nat) "ParishUnion$Person" "at" "I") ∈ gT := gT_of (tb_1 _ (List.mem_of_getElem? (i := 191) rfl)) rfl
theorem dX6_goTo_5 : decode cX6_goTo 5 = .ok (.aload_n 0, 1) := by decide +kernel
theorem dX6_goTo_6 : decode cX6_goTo 6 = .ok (.iconst (-1), 1) := by decide +kernel
theorem dX6_goTo_7 : decode cX6_goTo 7 = .ok (.putfield 43, 3) := by decide +kernel
theorem kw_1_203 : (Jvm.Cond.fieldLink "ParishUnion$Person" (43 : Nat) "ParishUnion$Person" "ward" "I") ∈ gT := gT_of (tb_1 _ (List.mem_of_getElem? (i := 203) rfl)) rfl
theorem dX6_goTo_10 : decode cX6_goTo 10 = .ok (.aload_n 0, 1) := by decide +kernel
theorem dX6_goTo_11 : decode cX6_goTo 11 = .ok (.iconst (-1), 1) := by decide +kernel
theorem dX6_goTo_12 : decode cX6_goTo 12 = .ok (.putfield 46, 3) := by decide +kernel
theorem kw_1_206 : (Jvm.Cond.fieldLink "ParishUnion$Person" (46 : Nat) "ParishUnion$Person" "master" "I") ∈ gT := gT_of (tb_1 _ (List.mem_of_getElem? (i := 206) rfl)) rfl
theorem dX6_goTo_15 : decode cX6_goTo 15 = .ok (.aload_n 0, 1) := by decide +kernel
theorem dX6_goTo_16 : decode cX6_goTo 16 = .ok (.iconst (-1), 1) := by decide +kernel
theorem dX6_goTo_17 : decode cX6_goTo 17 = .ok (.putfield 49, 3) := by decide +kernel
theorem kw_1_209 : (Jvm.Cond.fieldLink "ParishUnion$Person" (49 : Nat) "ParishUnion$Person" "askedFrom" "I") ∈ gT := gT_of (tb_1 _ (List.mem_of_getElem? (i := 209) rfl)) rfl
theorem dX6_goTo_20 : decode cX6_goTo 20 = .ok (.return_, 1) := by decide +kernel
set_option maxRecDepth 100000 in
set_option maxHeartbeats 4000000 in
theorem c_X6_goTo {l : Launch} {n0 : Nat} {D : va_G} {cA : Nat → ClassId} {M : gM} (a : Int) (r_a : -2147483648 ≤ a ∧ a ≤ 2147483647) {sz : Nat} (hsz : 206 ≤ sz) : Met l yX6_goTo (gWsOf yX6_goTo cX6_goTo 2 (Option.none : Option Jvm.ClassFile.FieldType)) { frames := 0, cells := 0, slots := 0, locals := 0 } (gPc n0 D cA [gA n0 31, gJ a] M sz) (gQv n0 D cA sz (fun M1 => ∀ a : Int, a ≠ 31 → M1 a = M a)) 0 0 (fun q => n0 ≤ q) := by
  refine gMet_of [gA n0 31, gJ a] (by decide) (Nat.le_of_ble_eq_true rfl) ?_
  intro p e s m args below meth cd X hr hm
  have X : gCx p s m args meth cd n0 D cA "ParishUnion$Person" cX6_goTo 2 := X
  show G p l e ({ frames := 0, cells := 0, slots := 0, locals := 0 } : Room) s m args below meth cd n0 D cA 2 (MQ below (gQv n0 D cA sz (fun M1 => ∀ a : Int, a ≠ 31 → M1 a = M a)) args s 0 0 (fun q => n0 ≤ q)) 0 0 M sz 0 [(0, gA n0 31), (1, gJ a)] []
  refine g_aload_n (n := 1) X 0 dX6_goTo_0 rfl rfl rfl ?_
  refine g_iload_n (n := 2) X 1 dX6_goTo_1 rfl rfl rfl ?_
  refine gp_6_5 (n := 5) X (by omega) (by omega) lay_31 kw_1_191 dX6_goTo_2 rfl ?_
  refine G.nm (fun M1 e2 => ?_)
  refine g_aload_n (n := 6) X 0 dX6_goTo_5 rfl rfl rfl ?_
  refine g_iconst (n := 7) X dX6_goTo_6 rfl ?_
  refine gp_6_8 (n := 10) X (by omega) (by omega) lay_31 kw_1_203 dX6_goTo_7 rfl ?_
  refine G.nm (fun M3 e4 => ?_)
  refine g_aload_n (n := 11) X 0 dX6_goTo_10 rfl rfl rfl ?_
  refine g_iconst (n := 12) X dX6_goTo_11 rfl ?_
  refine gp_6_9 (n := 15) X (by omega) (by omega) lay_31 kw_1_206 dX6_goTo_12 rfl ?_
  refine G.nm (fun M5 e6 => ?_)
  refine g_aload_n (n := 16) X 0 dX6_goTo_15 rfl rfl rfl ?_
  refine g_iconst (n := 17) X dX6_goTo_16 rfl ?_
  refine gp_6_10 (n := 20) X (by omega) (by omega) lay_31 kw_1_209 dX6_goTo_17 rfl ?_
  refine G.nm (fun M7 e8 => ?_)
  exact g_return X hr dX6_goTo_20 (by exact (fun a h0 => ((congrFun e8 a).trans ((gset_off a (by omega)).trans ((congrFun e6 a).trans ((gset_off a (by omega)).trans ((congrFun e4 a).trans ((gset_off a (by omega)).trans ((congrFun e2 a).trans ((gset_off a (by omega)).trans rfl))))))))))
theorem dX6_begin_0 : decode cX6_begin 0 = .ok (.aload_n 0, 1) := by decide +kernel
theorem dX6_begin_1 : decode cX6_begin 1 = .ok (.iload_n 1, 1) := by decide +kernel
theorem dX6_begin_2 : decode cX6_begin 2 = .ok (.putfield 9, 3) := by decide +kernel
theorem kw_1_175 : (Jvm.Cond.fieldLink "ParishUnion$Person" (9 : Nat) "ParishUnion$Person" "sex" "I") ∈ gT := gT_of (tb_1 _ (List.mem_of_getElem? (i := 175) rfl)) rfl
theorem dX6_begin_5 : decode cX6_begin 5 = .ok (.aload_n 0, 1) := by decide +kernel
theorem dX6_begin_6 : decode cX6_begin 6 = .ok (.iload_n 2, 1) := by decide +kernel
theorem dX6_begin_7 : decode cX6_begin 7 = .ok (.putfield 15, 3) := by decide +kernel
theorem kw_1_178 : (Jvm.Cond.fieldLink "ParishUnion$Person" (15 : Nat) "ParishUnion$Person" "born" "I") ∈ gT := gT_of (tb_1 _ (List.mem_of_getElem? (i := 178) rfl)) rfl
theorem dX6_begin_10 : decode cX6_begin 10 = .ok (.aload_n 0, 1) := by decide +kernel
theorem dX6_begin_11 : decode cX6_begin 11 = .ok (.iload_n 3, 1) := by decide +kernel
theorem dX6_begin_12 : decode cX6_begin 12 = .ok (.putfield 18, 3) := by decide +kernel
theorem kw_1_181 : (Jvm.Cond.fieldLink "ParishUnion$Person" (18 : Nat) "ParishUnion$Person" "birthplace" "I") ∈ gT := gT_of (tb_1 _ (List.mem_of_getElem? (i := 181) rfl)) rfl
theorem dX6_begin_15 : decode cX6_begin 15 = .ok (.aload_n 0, 1) := by decide +kernel
theorem dX6_begin_16 : decode cX6_begin 16 = .ok (.iload 4, 2) := by decide +kernel
theorem dX6_begin_18 : decode cX6_begin 18 = .ok (.putfield 21, 3) := by decide +kernel
theorem kw_1_184 : (Jvm.Cond.fieldLink "ParishUnion$Person" (21 : Nat) "ParishUnion$Person" "father" "I") ∈ gT := gT_of (tb_1 _ (List.mem_of_getElem? (i := 184) rfl)) rfl
theorem dX6_begin_21 : decode cX6_begin 21 = .ok (.aload_n 0, 1) := by decide +kernel
theorem dX6_begin_22 : decode cX6_begin 22 = .ok (.iload 5, 2) := by decide +kernel
theorem dX6_begin_24 : decode cX6_begin 24 = .ok (.putfield 24, 3) := by decide +kernel
theorem kw_1_187 : (Jvm.Cond.fieldLink "ParishUnion$Person" (24 : Nat) "ParishUnion$Person" "strength" "I") ∈ gT := gT_of (tb_1 _ (List.mem_of_getElem? (i := 187) rfl)) rfl
theorem dX6_begin_27 : decode cX6_begin 27 = .ok (.aload_n 0, 1) := by decide +kernel
theorem dX6_begin_28 : decode cX6_begin 28 = .ok (.iconst 0, 1) := by decide +kernel
theorem dX6_begin_29 : decode cX6_begin 29 = .ok (.putfield 27, 3) := by decide +kernel
theorem kw_1_196 : (Jvm.Cond.fieldLink "ParishUnion$Person" (27 : Nat) "ParishUnion$Person" "hunger" "I") ∈ gT := gT_of (tb_1 _ (List.mem_of_getElem? (i := 196) rfl)) rfl
theorem dX6_begin_32 : decode cX6_begin 32 = .ok (.aload_n 0, 1) := by decide +kernel
theorem dX6_begin_33 : decode cX6_begin 33 = .ok (.iconst 0, 1) := by decide +kernel
theorem dX6_begin_34 : decode cX6_begin 34 = .ok (.putfield 30, 3) := by decide +kernel
theorem kw_1_200 : (Jvm.Cond.fieldLink "ParishUnion$Person" (30 : Nat) "ParishUnion$Person" "ill" "I") ∈ gT := gT_of (tb_1 _ (List.mem_of_getElem? (i := 200) rfl)) rfl
theorem dX6_begin_37 : decode cX6_begin 37 = .ok (.aload_n 0, 1) := by decide +kernel
theorem dX6_begin_38 : decode cX6_begin 38 = .ok (.iconst 0, 1) := by decide +kernel
theorem dX6_begin_39 : decode cX6_begin 39 = .ok (.putfield 33, 3) := by decide +kernel
theorem kw_1_212 : (Jvm.Cond.fieldLink "ParishUnion$Person" (33 : Nat) "ParishUnion$Person" "toldAt" "I") ∈ gT := gT_of (tb_1 _ (List.mem_of_getElem? (i := 212) rfl)) rfl
theorem dX6_begin_42 : decode cX6_begin 42 = .ok (.aload_n 0, 1) := by decide +kernel
theorem dX6_begin_43 : decode cX6_begin 43 = .ok (.iload_n 3, 1) := by decide +kernel
theorem dX6_begin_44 : decode cX6_begin 44 = .ok (.invokevirtual 36, 3) := by decide +kernel
theorem kw_3_64 : (Jvm.Cond.methodLink "ParishUnion$Person" (36 : Nat) ({ cls := "ParishUnion$Person", name := "goTo", desc := "(I)V" } : Jvm.MethodName)) ∈ gT := gT_of (tb_3 _ (List.mem_of_getElem? (i := 64) rfl)) rfl
theorem kw_3_67 : (Jvm.Cond.code ({ cls := "ParishUnion$Person", name := "goTo", desc := "(I)V" } : Jvm.MethodName) prog_8_method_6_code (2 : Nat) (Option.none : Option Jvm.ClassFile.FieldType)) ∈ gT := gT_of (tb_3 _ (List.mem_of_getElem? (i := 67) rfl)) rfl
theorem kw_1_8 : (Jvm.Cond.initialized "ParishUnion$Person") ∈ gT := gT_of (tb_1 _ (List.mem_of_getElem? (i := 8) rfl)) rfl
theorem okX6_goTo : gQok yX6_goTo cX6_goTo 2 (Option.none : Option Jvm.ClassFile.FieldType) 1 := ⟨kw_3_67, kw_1_8, by decide +kernel, by decide +kernel, by decide +kernel⟩
theorem kw_3_65 : (Jvm.Cond.instanceMethod ({ cls := "ParishUnion$Person", name := "goTo", desc := "(I)V" } : Jvm.MethodName)) ∈ gT := gT_of (tb_3 _ (List.mem_of_getElem? (i := 65) rfl)) rfl
theorem kw_3_66 : (Jvm.Cond.selects "ParishUnion$Person" ({ cls := "ParishUnion$Person", name := "goTo", desc := "(I)V" } : Jvm.MethodName) ({ cls := "ParishUnion$Person", name := "goTo", desc := "(I)V" } : Jvm.MethodName)) ∈ gT := gT_of (tb_3 _ (List.mem_of_getElem? (i := 66) rfl)) rfl
theorem dX6_begin_47 : decode cX6_begin 47 = .ok (.return_, 1) := by decide +kernel
set_option maxRecDepth 100000 in
set_option maxHeartbeats 4000000 in
theorem c_X6_begin {l : Launch} {n0 : Nat} {D : va_G} {cA : Nat → ClassId} {M : gM} (a b c d f : Int) (r_a : -2147483648 ≤ a ∧ a ≤ 2147483647) (r_b : -2147483648 ≤ b ∧ b ≤ 2147483647) (r_c : -2147483648 ≤ c ∧ c ≤ 2147483647) (r_d : -2147483648 ≤ d ∧ d ≤ 2147483647) (r_f : -2147483648 ≤ f ∧ f ≤ 2147483647) {sz : Nat} (hsz : 206 ≤ sz) : Met l yX6_begin (gWsOf yX6_begin cX6_begin 6 (Option.none : Option Jvm.ClassFile.FieldType)) { frames := 1, cells := 0, slots := 0, locals := 21 } (gPc n0 D cA [gA n0 31, gJ a, gJ b, gJ c, gJ d, gJ f] M sz) (gQv n0 D cA sz (fun M1 => ∀ a : Int, a ≠ 31 → M1 a = M a)) 0 0 (fun q => n0 ≤ q) := by
  refine gMet_of [gA n0 31, gJ a, gJ b, gJ c, gJ d, gJ f] (by decide) (Nat.le_of_ble_eq_true rfl) ?_
  intro p e s m args below meth cd X hr hm
  have X : gCx p s m args meth cd n0 D cA "ParishUnion$Person" cX6_begin 6 := X
  show G p l e ({ frames := 1, cells := 0, slots := 0, locals := 21 } : Room) s m args below meth cd n0 D cA 6 (MQ below (gQv n0 D cA sz (fun M1 => ∀ a : Int, a ≠ 31 → M1 a = M a)) args s 0 0 (fun q => n0 ≤ q)) 0 0 M sz 0 [(0, gA n0 31), (1, gJ a), (2, gJ b), (3, gJ c), (4, gJ d), (5, gJ f)] []
  refine g_aload_n (n := 1) X 0 dX6_begin_0 rfl rfl rfl ?_
  refine g_iload_n (n := 2) X 1 dX6_begin_1 rfl rfl rfl ?_
  refine gp_6_0 (n := 5) X (by omega) (by omega) lay_31 kw_1_175 dX6_begin_2 rfl ?_
  refine G.nm (fun M1 e2 => ?_)
  refine g_aload_n (n := 6) X 0 dX6_begin_5 rfl rfl rfl ?_
  refine g_iload_n (n := 7) X 2 dX6_begin_6 rfl rfl rfl ?_
  refine gp_6_1 (n := 10) X (by omega) (by omega) lay_31 kw_1_178 dX6_begin_7 rfl ?_
  refine G.nm (fun M3 e4 => ?_)
  refine g_aload_n (n := 11) X 0 dX6_begin_10 rfl rfl rfl ?_
  refine g_iload_n (n := 12) X 3 dX6_begin_11 rfl rfl rfl ?_
  refine gp_6_2 (n := 15) X (by omega) (by omega) lay_31 kw_1_181 dX6_begin_12 rfl ?_
  refine G.nm (fun M5 e6 => ?_)
  refine g_aload_n (n := 16) X 0 dX6_begin_15 rfl rfl rfl ?_
  refine g_iload (n := 18) X 4 dX6_begin_16 rfl rfl ?_
  refine gp_6_3 (n := 21) X (by omega) (by omega) lay_31 kw_1_184 dX6_begin_18 rfl ?_
  refine G.nm (fun M7 e8 => ?_)
  refine g_aload_n (n := 22) X 0 dX6_begin_21 rfl rfl rfl ?_
  refine g_iload (n := 24) X 5 dX6_begin_22 rfl rfl ?_
  refine gp_6_4 (n := 27) X (by omega) (by omega) lay_31 kw_1_187 dX6_begin_24 rfl ?_
  refine G.nm (fun M9 e10 => ?_)
  refine g_aload_n (n := 28) X 0 dX6_begin_27 rfl rfl rfl ?_
  refine g_iconst (n := 29) X dX6_begin_28 rfl ?_
  refine gp_6_6 (n := 32) X (by omega) (by omega) lay_31 kw_1_196 dX6_begin_29 rfl ?_
  refine G.nm (fun M11 e12 => ?_)
  refine g_aload_n (n := 33) X 0 dX6_begin_32 rfl rfl rfl ?_
  refine g_iconst (n := 34) X dX6_begin_33 rfl ?_
  refine gp_6_7 (n := 37) X (by omega) (by omega) lay_31 kw_1_200 dX6_begin_34 rfl ?_
  refine G.nm (fun M13 e14 => ?_)
  refine g_aload_n (n := 38) X 0 dX6_begin_37 rfl rfl rfl ?_
  refine g_iconst (n := 39) X dX6_begin_38 rfl ?_
  refine gp_6_11 (n := 42) X (by omega) (by omega) lay_31 kw_1_212 dX6_begin_39 rfl ?_
  refine G.nm (fun M15 e16 => ?_)
  refine g_aload_n (n := 43) X 0 dX6_begin_42 rfl rfl rfl ?_
  refine g_iload_n (n := 44) X 3 dX6_begin_43 rfl rfl rfl ?_
  refine g_callVv (n := 47) (As := [gJ c]) (rest := []) (cs1 := 0) (ss1 := 0) X (c_X6_goTo c (by omega) (by omega)) okX6_goTo kw_3_64 ⟨kw_3_65, kw_3_66⟩ ⟨rfl, rfl⟩ ⟨Nat.le_of_ble_eq_true rfl, Nat.le_of_ble_eq_true rfl⟩ rfl (by omega) (by omega) lay_31 rfl rfl (Nat.le_of_ble_eq_true rfl) ⟨Nat.le_of_ble_eq_true rfl, Nat.le_of_ble_eq_true rfl⟩ rfl rfl dX6_begin_44 rfl (fun M18 P19 => ?_)
  have F20 := P19
  exact g_return X hr dX6_begin_47 (by exact (fun a h0 => ((F20 a (by omega)).trans ((congrFun e16 a).trans ((gset_off a (by omega)).trans ((congrFun e14 a).trans ((gset_off a (by omega)).trans ((congrFun e12 a).trans ((gset_off a (by omega)).trans ((congrFun e10 a).trans ((gset_off a (by omega)).trans ((congrFun e8 a).trans ((gset_off a (by omega)).trans ((congrFun e6 a).trans ((gset_off a (by omega)).trans ((congrFun e4 a).trans ((gset_off a (by omega)).trans ((congrFun e2 a).trans ((gset_off a (by omega)).trans rfl)))))))))))))))))))
theorem dX11_person_0 : decode cX11_person 0 = .ok (.iload 4, 2) := by decide +kernel
theorem dX11_person_2 : decode cX11_person 2 = .ok (.iconst (-1), 1) := by decide +kernel
theorem dX11_person_3 : decode cX11_person 3 = .ok (.if_icmp .eq 7, 3) := by decide +kernel
theorem dX11_person_10 : decode cX11_person 10 = .ok (.iconst 0, 1) := by decide +kernel
theorem dX11_person_11 : decode cX11_person 11 = .ok (.istore 6, 2) := by decide +kernel
theorem dX11_person_13 : decode cX11_person 13 = .ok (.iload_n 3, 1) := by decide +kernel
theorem dX11_person_14 : decode cX11_person 14 = .ok (.invokestatic 58, 3) := by decide +kernel
theorem dX11_person_17 : decode cX11_person 17 = .ok (.ifCond .eq 17, 3) := by decide +kernel
theorem dX11_person_34 : decode cX11_person 34 = .ok (.iconst (-1), 1) := by decide +kernel
theorem dX11_person_35 : decode cX11_person 35 = .ok (.ireturn, 1) := by decide +kernel
theorem dX11_person_20 : decode cX11_person 20 = .ok (.iload 6, 2) := by decide +kernel
theorem dX11_person_22 : decode cX11_person 22 = .ok (.ifCond .eq 14, 3) := by decide +kernel
theorem dX11_person_36 : decode cX11_person 36 = .ok (.iload_n 1, 1) := by decide +kernel
theorem dX11_person_37 : decode cX11_person 37 = .ok (.iconst 0, 1) := by decide +kernel
theorem dX11_person_38 : decode cX11_person 38 = .ok (.iconst 1, 1) := by decide +kernel
theorem dX11_person_39 : decode cX11_person 39 = .ok (.invokestatic 62, 3) := by decide +kernel
theorem dX11_person_42 : decode cX11_person 42 = .ok (.ifCond .eq 31, 3) := by decide +kernel
theorem dX11_person_73 : decode cX11_person 73 = .ok (.bipush (-2), 2) := by decide +kernel
theorem dX11_person_75 : decode cX11_person 75 = .ok (.ireturn, 1) := by decide +kernel
theorem dX11_person_45 : decode cX11_person 45 = .ok (.iload_n 2, 1) := by decide +kernel
theorem dX11_person_46 : decode cX11_person 46 = .ok (.sipush (-3000), 3) := by decide +kernel
theorem dX11_person_49 : decode cX11_person 49 = .ok (.aload_n 0, 1) := by decide +kernel
theorem dX11_person_50 : decode cX11_person 50 = .ok (.getfield 10, 3) := by decide +kernel
theorem dX11_person_53 : decode cX11_person 53 = .ok (.getfield 85, 3) := by decide +kernel
theorem dX11_person_56 : decode cX11_person 56 = .ok (.invokestatic 62, 3) := by decide +kernel
theorem dX11_person_59 : decode cX11_person 59 = .ok (.ifCond .eq 14, 3) := by decide +kernel
theorem dX11_person_62 : decode cX11_person 62 = .ok (.iload 5, 2) := by decide +kernel
theorem dX11_person_64 : decode cX11_person 64 = .ok (.iconst 0, 1) := by decide +kernel
theorem dX11_person_65 : decode cX11_person 65 = .ok (.bipush 9, 2) := by decide +kernel
theorem dX11_person_67 : decode cX11_person 67 = .ok (.invokestatic 62, 3) := by decide +kernel
theorem dX11_person_70 : decode cX11_person 70 = .ok (.ifCond .ne 6, 3) := by decide +kernel
theorem dX11_person_76 : decode cX11_person 76 = .ok (.iload 6, 2) := by decide +kernel
theorem dX11_person_78 : decode cX11_person 78 = .ok (.ifCond .eq 39, 3) := by decide +kernel
theorem dX11_person_117 : decode cX11_person 117 = .ok (.aload_n 0, 1) := by decide +kernel
theorem dX11_person_118 : decode cX11_person 118 = .ok (.getfield 10, 3) := by decide +kernel
theorem dX11_person_121 : decode cX11_person 121 = .ok (.getfield 98, 3) := by decide +kernel
theorem dX11_person_124 : decode cX11_person 124 = .ok (.bipush 16, 2) := by decide +kernel
theorem dX11_person_126 : decode cX11_person 126 = .ok (.if_icmp .lt 6, 3) := by decide +kernel
theorem dX11_person_132 : decode cX11_person 132 = .ok (.aload_n 0, 1) := by decide +kernel
theorem dX11_person_133 : decode cX11_person 133 = .ok (.getfield 10, 3) := by decide +kernel
theorem dX11_person_136 : decode cX11_person 136 = .ok (.getfield 89, 3) := by decide +kernel
theorem kw_2_108 : (Jvm.Cond.fieldLink "ParishUnion" (89 : Nat) "ParishUnion$Union" "persons" "[LParishUnion$Person;") ∈ gT := gT_of (tb_2 _ (List.mem_of_getElem? (i := 108) rfl)) rfl
theorem dX11_person_139 : decode cX11_person 139 = .ok (.aload_n 0, 1) := by decide +kernel
theorem dX11_person_140 : decode cX11_person 140 = .ok (.getfield 10, 3) := by decide +kernel
theorem dX11_person_143 : decode cX11_person 143 = .ok (.getfield 98, 3) := by decide +kernel
theorem dX11_person_146 : decode cX11_person 146 = .ok (.aaload, 1) := by decide +kernel
theorem dX11_person_147 : decode cX11_person 147 = .ok (.iload_n 1, 1) := by decide +kernel
theorem dX11_person_148 : decode cX11_person 148 = .ok (.iload_n 2, 1) := by decide +kernel
theorem dX11_person_149 : decode cX11_person 149 = .ok (.iload_n 3, 1) := by decide +kernel
theorem dX11_person_150 : decode cX11_person 150 = .ok (.iload 4, 2) := by decide +kernel
theorem dX11_person_152 : decode cX11_person 152 = .ok (.iload 5, 2) := by decide +kernel
theorem dX11_person_154 : decode cX11_person 154 = .ok (.invokevirtual 101, 3) := by decide +kernel
theorem kw_3_60 : (Jvm.Cond.methodLink "ParishUnion" (101 : Nat) ({ cls := "ParishUnion$Person", name := "begin", desc := "(IIIII)V" } : Jvm.MethodName)) ∈ gT := gT_of (tb_3 _ (List.mem_of_getElem? (i := 60) rfl)) rfl
theorem kw_3_63 : (Jvm.Cond.code ({ cls := "ParishUnion$Person", name := "begin", desc := "(IIIII)V" } : Jvm.MethodName) prog_8_method_2_code (6 : Nat) (Option.none : Option Jvm.ClassFile.FieldType)) ∈ gT := gT_of (tb_3 _ (List.mem_of_getElem? (i := 63) rfl)) rfl
theorem okX6_begin : gQok yX6_begin cX6_begin 6 (Option.none : Option Jvm.ClassFile.FieldType) 5 := ⟨kw_3_63, kw_1_8, by decide +kernel, by decide +kernel, by decide +kernel⟩
theorem kw_3_61 : (Jvm.Cond.instanceMethod ({ cls := "ParishUnion$Person", name := "begin", desc := "(IIIII)V" } : Jvm.MethodName)) ∈ gT := gT_of (tb_3 _ (List.mem_of_getElem? (i := 61) rfl)) rfl
theorem kw_3_62 : (Jvm.Cond.selects "ParishUnion$Person" ({ cls := "ParishUnion$Person", name := "begin", desc := "(IIIII)V" } : Jvm.MethodName) ({ cls := "ParishUnion$Person", name := "begin", desc := "(IIIII)V" } : Jvm.MethodName)) ∈ gT := gT_of (tb_3 _ (List.mem_of_getElem? (i := 62) rfl)) rfl
theorem dX11_person_157 : decode cX11_person 157 = .ok (.aload_n 0, 1) := by decide +kernel
theorem dX11_person_158 : decode cX11_person 158 = .ok (.getfield 10, 3) := by decide +kernel
theorem dX11_person_161 : decode cX11_person 161 = .ok (.dup, 1) := by decide +kernel
theorem dX11_person_162 : decode cX11_person 162 = .ok (.getfield 98, 3) := by decide +kernel
theorem dX11_person_165 : decode cX11_person 165 = .ok (.dup_x1, 1) := by decide +kernel
theorem dX11_person_166 : decode cX11_person 166 = .ok (.iconst 1, 1) := by decide +kernel
theorem dX11_person_167 : decode cX11_person 167 = .ok (.iadd, 1) := by decide +kernel
theorem dX11_person_168 : decode cX11_person 168 = .ok (.putfield 98, 3) := by decide +kernel
theorem dX11_person_171 : decode cX11_person 171 = .ok (.ireturn, 1) := by decide +kernel
theorem dX11_person_6 : decode cX11_person 6 = .ok (.iconst 1, 1) := by decide +kernel
theorem dX11_person_7 : decode cX11_person 7 = .ok (.goto 4, 3) := by decide +kernel
theorem dX11_person_25 : decode cX11_person 25 = .ok (.aload_n 0, 1) := by decide +kernel
theorem dX11_person_26 : decode cX11_person 26 = .ok (.iload 4, 2) := by decide +kernel
theorem dX11_person_28 : decode cX11_person 28 = .ok (.invokevirtual 82, 3) := by decide +kernel
theorem kw_3_56 : (Jvm.Cond.methodLink "ParishUnion" (82 : Nat) ({ cls := "ParishUnion", name := "isPerson", desc := "(I)Z" } : Jvm.MethodName)) ∈ gT := gT_of (tb_3 _ (List.mem_of_getElem? (i := 56) rfl)) rfl
theorem kw_3_59 : (Jvm.Cond.code ({ cls := "ParishUnion", name := "isPerson", desc := "(I)Z" } : Jvm.MethodName) prog_1_method_51_code (2 : Nat) (Option.some Jvm.ClassFile.FieldType.boolean)) ∈ gT := gT_of (tb_3 _ (List.mem_of_getElem? (i := 59) rfl)) rfl
theorem okX11_isPerson : gQok yX11_isPerson cX11_isPerson 2 (Option.some Jvm.ClassFile.FieldType.boolean) 1 := ⟨kw_3_59, kw_1_1, by decide +kernel, by decide +kernel, by decide +kernel⟩
theorem kw_3_58 : (Jvm.Cond.instanceMethod ({ cls := "ParishUnion", name := "isPerson", desc := "(I)Z" } : Jvm.MethodName)) ∈ gT := gT_of (tb_3 _ (List.mem_of_getElem? (i := 58) rfl)) rfl
theorem kw_0_0 : (Jvm.Cond.selects "ParishUnion" ({ cls := "ParishUnion", name := "isPerson", desc := "(I)Z" } : Jvm.MethodName) ({ cls := "ParishUnion", name := "isPerson", desc := "(I)Z" } : Jvm.MethodName)) ∈ gT := gT_of (tb_0 _ (List.mem_of_getElem? (i := 0) rfl)) rfl
theorem dX11_person_31 : decode cX11_person 31 = .ok (.ifCond .ne 5, 3) := by decide +kernel
set_option maxRecDepth 100000 in
set_option maxHeartbeats 4000000 in
theorem c_X11_person {l : Launch} {n0 : Nat} {D : va_G} {cA : Nat → ClassId} {M : gM} (a b c d f : Int) (r_a : -2147483648 ≤ a ∧ a ≤ 2147483647) (r_b : -2147483648 ≤ b ∧ b ≤ 2147483647) (r_c : -2147483648 ≤ c ∧ c ≤ 2147483647) (r_d : -2147483648 ≤ d ∧ d ≤ 2147483647) (r_f : -2147483648 ≤ f ∧ f ≤ 2147483647) {sz : Nat} (hsz : 206 ≤ sz) (f_0_0 : M 0 0 = 2) (f_1_10 : M 1 10 = 0) (f_1_15 : M 1 15 = 0) (f_1_1 : M 1 1 = 6) (f_5_0 : M 5 0 = 32) : Met l yX11_person (gWsOf yX11_person cX11_person 7 (Option.some Jvm.ClassFile.FieldType.int)) { frames := 2, cells := 0, slots := 0, locals := 46 } (gPc n0 D cA [gA n0 0, gJ a, gJ b, gJ c, gJ d, gJ f] M sz) (gQi n0 D cA sz (fun z M1 => (((¬(0 ≤ c ∧ c ≤ 5) ∨ ¬ d = -1) → z = -1) ∧ (¬(¬(0 ≤ c ∧ c ≤ 5) ∨ ¬ d = -1) → (¬(0 ≤ a ∧ a ≤ 1) ∨ ¬(-3000 ≤ b ∧ b ≤ 0) ∨ ¬(0 ≤ f ∧ f ≤ 9)) → z = -2) ∧ (¬(¬(0 ≤ c ∧ c ≤ 5) ∨ ¬ d = -1) → ¬(¬(0 ≤ a ∧ a ≤ 1) ∨ ¬(-3000 ≤ b ∧ b ≤ 0) ∨ ¬(0 ≤ f ∧ f ≤ 9)) → (z = 0))) ∧ ∀ a : Int, a ≠ 1 → a ≠ 31 → M1 a = M a)) 0 0 (fun q => n0 ≤ q) := by
  refine gMet_of [gA n0 0, gJ a, gJ b, gJ c, gJ d, gJ f] (by decide) (Nat.le_of_ble_eq_true rfl) ?_
  intro p e s m args below meth cd X hr hm
  have X : gCx p s m args meth cd n0 D cA "ParishUnion" cX11_person 7 := X
  show G p l e ({ frames := 2, cells := 0, slots := 0, locals := 46 } : Room) s m args below meth cd n0 D cA 7 (MQ below (gQi n0 D cA sz (fun z M1 => (((¬(0 ≤ c ∧ c ≤ 5) ∨ ¬ d = -1) → z = -1) ∧ (¬(¬(0 ≤ c ∧ c ≤ 5) ∨ ¬ d = -1) → (¬(0 ≤ a ∧ a ≤ 1) ∨ ¬(-3000 ≤ b ∧ b ≤ 0) ∨ ¬(0 ≤ f ∧ f ≤ 9)) → z = -2) ∧ (¬(¬(0 ≤ c ∧ c ≤ 5) ∨ ¬ d = -1) → ¬(¬(0 ≤ a ∧ a ≤ 1) ∨ ¬(-3000 ≤ b ∧ b ≤ 0) ∨ ¬(0 ≤ f ∧ f ≤ 9)) → (z = 0))) ∧ ∀ a : Int, a ≠ 1 → a ≠ 31 → M1 a = M a)) args s 0 0 (fun q => n0 ≤ q)) 0 0 M sz 0 [(0, gA n0 0), (1, gJ a), (2, gJ b), (3, gJ c), (4, gJ d), (5, gJ f)] []
  refine g_iload (n := 2) X 4 dX11_person_0 rfl rfl ?_
  refine g_iconst (n := 3) X dX11_person_2 rfl ?_
  refine g_icmp_eq (n := 6) (tgt := 10) X dX11_person_3 (by decide) (by omega) (by omega) rfl (fun c1 => ?_) (fun c1 => ?_)
  · refine g_iconst (n := 11) X dX11_person_10 rfl ?_
    refine g_istore (n := 13) (L' := [(6, gJ 0), (0, gA n0 0), (1, gJ a), (2, gJ b), (3, gJ c), (4, gJ d), (5, gJ f)]) X dX11_person_11 (by decide) rfl rfl ?_
    refine g_iload_n (n := 14) X 4 dX11_person_13 rfl rfl rfl ?_
    refine g_callSi (n := 17) (As := [gJ c]) (rest := []) (cs1 := 0) (ss1 := 0) X (c_X11_isParish c (by omega) (by omega)) okX11_isParish kw_3_26 kw_3_27 ⟨rfl, rfl⟩ ⟨Nat.le_of_ble_eq_true rfl, Nat.le_of_ble_eq_true rfl⟩ rfl rfl (Nat.le_of_ble_eq_true rfl) ⟨Nat.le_of_ble_eq_true rfl, Nat.le_of_ble_eq_true rfl⟩ rfl rfl dX11_person_14 rfl (fun z2 M3 P4 => ?_)
    obtain ⟨rfl, P4⟩ := P4
    refine g_if_eq (n := 20) (tgt := 34) X dX11_person_17 (by decide) (by omega) rfl (fun c5 => ?_) (fun c5 => ?_)
    · refine g_iconst (n := 35) X dX11_person_34 rfl ?_
      exact g_ireturn X hr dX11_person_35 (by exact ⟨by omega, fun a h0 h1 => rfl⟩)
    · refine g_iload (n := 22) X 0 dX11_person_20 rfl rfl ?_
      refine g_if_eq (n := 25) (tgt := 36) X dX11_person_22 (by decide) (by omega) rfl (fun c6 => ?_) (fun c6 => by exfalso; omega)
      refine g_iload_n (n := 37) X 2 dX11_person_36 rfl rfl rfl ?_
      refine g_iconst (n := 38) X dX11_person_37 rfl ?_
      refine g_iconst (n := 39) X dX11_person_38 rfl ?_
      refine g_callSi (n := 42) (As := [gJ a, gJ 0, gJ 1]) (rest := []) (cs1 := 0) (ss1 := 0) X (c_X11_within a 0 1 (by omega) (by omega) (by omega) (by omega)) okX11_within kw_3_29 kw_3_30 ⟨rfl, rfl⟩ ⟨Nat.le_of_ble_eq_true rfl, Nat.le_of_ble_eq_true rfl⟩ rfl rfl (Nat.le_of_ble_eq_true rfl) ⟨Nat.le_of_ble_eq_true rfl, Nat.le_of_ble_eq_true rfl⟩ rfl rfl dX11_person_39 rfl (fun z7 M8 P9 => ?_)
      obtain ⟨rfl, P9⟩ := P9
      refine g_if_eq (n := 45) (tgt := 73) X dX11_person_42 (by decide) (by omega) rfl (fun c10 => ?_) (fun c10 => ?_)
      · refine g_bipush (n := 75) X dX11_person_73 (by decide +kernel) rfl ?_
        exact g_ireturn X hr dX11_person_75 (by exact ⟨by omega, fun a h0 h1 => rfl⟩)
      · refine g_iload_n (n := 46) X 3 dX11_person_45 rfl rfl rfl ?_
        refine g_sipush (n := 49) X dX11_person_46 (by decide +kernel) rfl ?_
        refine g_aload_n (n := 50) X 1 dX11_person_49 rfl rfl rfl ?_
        refine gg_11_0 (n := 53) (z := 1) X (by omega) (by omega) lay_0 kw_2_231 dX11_person_50 rfl f_0_0 (by omega) ?_
        refine gg_9_15 (n := 56) (z := 0) X (by omega) (by omega) lay_1 kw_2_139 dX11_person_53 rfl f_1_15 ?_
        refine g_callSi (n := 59) (As := [gJ b, gJ (-3000), gJ 0]) (rest := []) (cs1 := 0) (ss1 := 0) X (c_X11_within b (-3000) 0 (by omega) (by omega) (by omega) (by omega)) okX11_within kw_3_29 kw_3_30 ⟨rfl, rfl⟩ ⟨Nat.le_of_ble_eq_true rfl, Nat.le_of_ble_eq_true rfl⟩ rfl rfl (Nat.le_of_ble_eq_true rfl) ⟨Nat.le_of_ble_eq_true rfl, Nat.le_of_ble_eq_true rfl⟩ rfl rfl dX11_person_56 rfl (fun z11 M12 P13 => ?_)
        obtain ⟨rfl, P13⟩ := P13
        refine g_if_eq (n := 62) (tgt := 73) X dX11_person_59 (by decide) (by omega) rfl (fun c14 => ?_) (fun c14 => ?_)
        · refine g_bipush (n := 75) X dX11_person_73 (by decide +kernel) rfl ?_
          exact g_ireturn X hr dX11_person_75 (by exact ⟨by omega, fun a h0 h1 => rfl⟩)
        · refine g_iload (n := 64) X 6 dX11_person_62 rfl rfl ?_
          refine g_iconst (n := 65) X dX11_person_64 rfl ?_
          refine g_bipush (n := 67) X dX11_person_65 (by decide +kernel) rfl ?_
          refine g_callSi (n := 70) (As := [gJ f, gJ 0, gJ 9]) (rest := []) (cs1 := 0) (ss1 := 0) X (c_X11_within f 0 9 (by omega) (by omega) (by omega) (by omega)) okX11_within kw_3_29 kw_3_30 ⟨rfl, rfl⟩ ⟨Nat.le_of_ble_eq_true rfl, Nat.le_of_ble_eq_true rfl⟩ rfl rfl (Nat.le_of_ble_eq_true rfl) ⟨Nat.le_of_ble_eq_true rfl, Nat.le_of_ble_eq_true rfl⟩ rfl rfl dX11_person_67 rfl (fun z15 M16 P17 => ?_)
          obtain ⟨rfl, P17⟩ := P17
          refine g_if_ne (n := 73) (tgt := 76) X dX11_person_70 (by decide) (by omega) rfl (fun c18 => ?_) (fun c18 => ?_)
          · refine g_iload (n := 78) X 0 dX11_person_76 rfl rfl ?_
            refine g_if_eq (n := 81) (tgt := 117) X dX11_person_78 (by decide) (by omega) rfl (fun c19 => ?_) (fun c19 => by exfalso; omega)
            refine g_aload_n (n := 118) X 1 dX11_person_117 rfl rfl rfl ?_
            refine gg_11_0 (n := 121) (z := 1) X (by omega) (by omega) lay_0 kw_2_231 dX11_person_118 rfl f_0_0 (by omega) ?_
            refine gg_9_10 (n := 124) (z := 0) X (by omega) (by omega) lay_1 kw_2_127 dX11_person_121 rfl f_1_10 ?_
            refine g_bipush (n := 126) X dX11_person_124 (by decide +kernel) rfl ?_
            refine g_icmp_lt (n := 129) (tgt := 132) X dX11_person_126 (by decide) (by omega) (by omega) rfl (fun c20 => ?_) (fun c20 => by exfalso; omega)
            refine g_aload_n (n := 133) X 1 dX11_person_132 rfl rfl rfl ?_
            refine gg_11_0 (n := 136) (z := 1) X (by omega) (by omega) lay_0 kw_2_231 dX11_person_133 rfl f_0_0 (by omega) ?_
            refine gg_9_1 (n := 139) (z := 5) X (by omega) (by omega) lay_1 kw_2_108 dX11_person_136 rfl f_1_1 (by omega) ?_
            refine g_aload_n (n := 140) X 1 dX11_person_139 rfl rfl rfl ?_
            refine gg_11_0 (n := 143) (z := 1) X (by omega) (by omega) lay_0 kw_2_231 dX11_person_140 rfl f_0_0 (by omega) ?_
            refine gg_9_10 (n := 146) (z := 0) X (by omega) (by omega) lay_1 kw_2_127 dX11_person_143 rfl f_1_10 ?_
            refine g_aald6 (n := 147) (t := 31) X (by omega) (by omega) lay_5 (by omega) (by omega) (by omega) f_5_0 (by omega) dX11_person_146 rfl ?_
            refine g_iload_n (n := 148) X 2 dX11_person_147 rfl rfl rfl ?_
            refine g_iload_n (n := 149) X 3 dX11_person_148 rfl rfl rfl ?_
            refine g_iload_n (n := 150) X 4 dX11_person_149 rfl rfl rfl ?_
            refine g_iload (n := 152) X 5 dX11_person_150 rfl rfl ?_
            refine g_iload (n := 154) X 6 dX11_person_152 rfl rfl ?_
            refine g_callVv (n := 157) (As := [gJ a, gJ b, gJ c, gJ d, gJ f]) (rest := []) (cs1 := 0) (ss1 := 0) X (c_X6_begin a b c d f (by omega) (by omega) (by omega) (by omega) (by omega) (by omega)) okX6_begin kw_3_60 ⟨kw_3_61, kw_3_62⟩ ⟨rfl, rfl⟩ ⟨Nat.le_of_ble_eq_true rfl, Nat.le_of_ble_eq_true rfl⟩ rfl (by omega) (by omega) lay_31 rfl rfl (Nat.le_of_ble_eq_true rfl) ⟨Nat.le_of_ble_eq_true rfl, Nat.le_of_ble_eq_true rfl⟩ rfl rfl dX11_person_154 rfl (fun M22 P23 => ?_)
            have F24 := P23
            refine g_aload_n (n := 158) X 1 dX11_person_157 rfl rfl rfl ?_
            refine gg_11_0 (n := 161) (z := 1) X (by omega) (by omega) lay_0 kw_2_231 dX11_person_158 rfl ((congrFun (F24 0 (by omega)) _).trans f_0_0) (by omega) ?_
            refine g_dup (n := 162) X dX11_person_161 rfl rfl ?_
            refine gg_9_10 (n := 165) (z := 0) X (by omega) (by omega) lay_1 kw_2_127 dX11_person_162 rfl ((congrFun (F24 1 (by omega)) _).trans f_1_10) ?_
            refine g_dup_x1 (n := 166) X dX11_person_165 rfl rfl rfl ?_
            refine g_iconst (n := 167) X dX11_person_166 rfl ?_
            refine g_iadd (n := 168) (z := 1) X dX11_person_167 rfl rfl ?_
            refine gp_9_10 (n := 171) X (by omega) (by omega) lay_1 kw_2_127 dX11_person_168 rfl ?_
            refine G.nm (fun M25 e26 => ?_)
            exact g_ireturn X hr dX11_person_171 (by exact ⟨by omega, fun a h0 h1 => ((congrFun e26 a).trans ((gset_off a (by omega)).trans ((F24 a (by omega)).trans rfl)))⟩)
          · refine g_bipush (n := 75) X dX11_person_73 (by decide +kernel) rfl ?_
            exact g_ireturn X hr dX11_person_75 (by exact ⟨by omega, fun a h0 h1 => rfl⟩)
  · refine g_iconst (n := 7) X dX11_person_6 rfl ?_
    refine g_goto (tgt := 11) X dX11_person_7 (by decide) ?_
    refine g_istore (n := 13) (L' := [(6, gJ 1), (0, gA n0 0), (1, gJ a), (2, gJ b), (3, gJ c), (4, gJ d), (5, gJ f)]) X dX11_person_11 (by decide) rfl rfl ?_
    refine g_iload_n (n := 14) X 4 dX11_person_13 rfl rfl rfl ?_
    refine g_callSi (n := 17) (As := [gJ c]) (rest := []) (cs1 := 0) (ss1 := 0) X (c_X11_isParish c (by omega) (by omega)) okX11_isParish kw_3_26 kw_3_27 ⟨rfl, rfl⟩ ⟨Nat.le_of_ble_eq_true rfl, Nat.le_of_ble_eq_true rfl⟩ rfl rfl (Nat.le_of_ble_eq_true rfl) ⟨Nat.le_of_ble_eq_true rfl, Nat.le_of_ble_eq_true rfl⟩ rfl rfl dX11_person_14 rfl (fun z27 M28 P29 => ?_)
    obtain ⟨rfl, P29⟩ := P29
    refine g_if_eq (n := 20) (tgt := 34) X dX11_person_17 (by decide) (by omega) rfl (fun c30 => ?_) (fun c30 => ?_)
    · refine g_iconst (n := 35) X dX11_person_34 rfl ?_
      exact g_ireturn X hr dX11_person_35 (by exact ⟨by omega, fun a h0 h1 => rfl⟩)
    · refine g_iload (n := 22) X 0 dX11_person_20 rfl rfl ?_
      refine g_if_eq (n := 25) (tgt := 36) X dX11_person_22 (by decide) (by omega) rfl (fun c31 => by exfalso; omega) (fun c31 => ?_)
      refine g_aload_n (n := 26) X 1 dX11_person_25 rfl rfl rfl ?_
      refine g_iload (n := 28) X 5 dX11_person_26 rfl rfl ?_
      refine g_callVi (n := 31) (As := [gJ d]) (rest := []) (cs1 := 0) (ss1 := 0) X (c_X11_isPerson d (by omega) (by omega) f_0_0 f_1_10) okX11_isPerson kw_3_56 ⟨kw_3_58, kw_0_0⟩ ⟨rfl, rfl⟩ ⟨Nat.le_of_ble_eq_true rfl, Nat.le_of_ble_eq_true rfl⟩ rfl (by omega) (by omega) lay_0 rfl rfl (Nat.le_of_ble_eq_true rfl) ⟨Nat.le_of_ble_eq_true rfl, Nat.le_of_ble_eq_true rfl⟩ rfl rfl dX11_person_28 rfl (fun z32 M33 P34 => ?_)
      obtain ⟨rfl, rfl⟩ := P34
      refine g_if_ne (n := 34) (tgt := 36) X dX11_person_31 (by decide) (by omega) rfl (fun c35 => by exfalso; omega) (fun c35 => ?_)
      refine g_iconst (n := 35) X dX11_person_34 rfl ?_
      exact g_ireturn X hr dX11_person_35 (by exact ⟨by omega, fun a h0 h1 => rfl⟩)
theorem dX11_about_0 : decode cX11_about 0 = .ok (.aload_n 0, 1) := by decide +kernel
theorem dX11_about_1 : decode cX11_about 1 = .ok (.iload_n 1, 1) := by decide +kernel
theorem dX11_about_2 : decode cX11_about 2 = .ok (.invokevirtual 82, 3) := by decide +kernel
theorem dX11_about_5 : decode cX11_about 5 = .ok (.ifCond .ne 5, 3) := by decide +kernel
theorem dX11_about_8 : decode cX11_about 8 = .ok (.iconst (-1), 1) := by decide +kernel
theorem dX11_about_9 : decode cX11_about 9 = .ok (.ireturn, 1) := by decide +kernel
set_option maxRecDepth 100000 in
set_option maxHeartbeats 4000000 in
theorem c_X11_about {l : Launch} {n0 : Nat} {D : va_G} {cA : Nat → ClassId} {M : gM} (a b : Int) (r_a : -2147483648 ≤ a ∧ a ≤ 2147483647) (r_b : -2147483648 ≤ b ∧ b ≤ 2147483647) {sz : Nat} (hsz : 206 ≤ sz) (f_0_0 : M 0 0 = 2) (f_1_10 : M 1 10 = 0) : Met l yX11_about (gWsOf yX11_about cX11_about 4 (Option.some Jvm.ClassFile.FieldType.int)) { frames := 2, cells := 0, slots := 0, locals := 43 } (gPc n0 D cA [gA n0 0, gJ a, gJ b] M sz) (gQi n0 D cA sz (fun z M1 => (z = -1) ∧ ∀ a : Int, M1 a = M a)) 0 0 (fun q => n0 ≤ q) := by
  refine gMet_of [gA n0 0, gJ a, gJ b] (by decide) (Nat.le_of_ble_eq_true rfl) ?_
  intro p e s m args below meth cd X hr hm
  have X : gCx p s m args meth cd n0 D cA "ParishUnion" cX11_about 4 := X
  show G p l e ({ frames := 2, cells := 0, slots := 0, locals := 43 } : Room) s m args below meth cd n0 D cA 4 (MQ below (gQi n0 D cA sz (fun z M1 => (z = -1) ∧ ∀ a : Int, M1 a = M a)) args s 0 0 (fun q => n0 ≤ q)) 0 0 M sz 0 [(0, gA n0 0), (1, gJ a), (2, gJ b)] []
  refine g_aload_n (n := 1) X 0 dX11_about_0 rfl rfl rfl ?_
  refine g_iload_n (n := 2) X 1 dX11_about_1 rfl rfl rfl ?_
  refine g_callVi (n := 5) (As := [gJ a]) (rest := []) (cs1 := 0) (ss1 := 0) X (c_X11_isPerson a (by omega) (by omega) f_0_0 f_1_10) okX11_isPerson kw_3_56 ⟨kw_3_58, kw_0_0⟩ ⟨rfl, rfl⟩ ⟨Nat.le_of_ble_eq_true rfl, Nat.le_of_ble_eq_true rfl⟩ rfl (by omega) (by omega) lay_0 rfl rfl (Nat.le_of_ble_eq_true rfl) ⟨Nat.le_of_ble_eq_true rfl, Nat.le_of_ble_eq_true rfl⟩ rfl rfl dX11_about_2 rfl (fun z1 M2 P3 => ?_)
  obtain ⟨rfl, rfl⟩ := P3
  refine g_if_ne (n := 8) (tgt := 10) X dX11_about_5 (by decide) (by omega) rfl (fun c4 => by exfalso; omega) (fun c4 => ?_)
  refine g_iconst (n := 9) X dX11_about_8 rfl ?_
  exact g_ireturn X hr dX11_about_9 (by exact ⟨by omega, fun a  => rfl⟩)
theorem dX11_hire_0 : decode cX11_hire 0 = .ok (.aload_n 0, 1) := by decide +kernel
theorem dX11_hire_1 : decode cX11_hire 1 = .ok (.iload_n 1, 1) := by decide +kernel
theorem dX11_hire_2 : decode cX11_hire 2 = .ok (.invokevirtual 82, 3) := by decide +kernel
theorem dX11_hire_5 : decode cX11_hire 5 = .ok (.ifCond .eq 10, 3) := by decide +kernel
theorem dX11_hire_15 : decode cX11_hire 15 = .ok (.iconst (-1), 1) := by decide +kernel
theorem dX11_hire_16 : decode cX11_hire 16 = .ok (.ireturn, 1) := by decide +kernel
set_option maxRecDepth 100000 in
set_option maxHeartbeats 4000000 in
theorem c_X11_hire {l : Launch} {n0 : Nat} {D : va_G} {cA : Nat → ClassId} {M : gM} (a b c d f g : Int) (r_a : -2147483648 ≤ a ∧ a ≤ 2147483647) (r_b : -2147483648 ≤ b ∧ b ≤ 2147483647) (r_c : -2147483648 ≤ c ∧ c ≤ 2147483647) (r_d : -2147483648 ≤ d ∧ d ≤ 2147483647) (r_f : f = 0 ∨ f = 1) (r_g : g = 0 ∨ g = 1) {sz : Nat} (hsz : 206 ≤ sz) (f_0_0 : M 0 0 = 2) (f_1_10 : M 1 10 = 0) : Met l yX11_hire (gWsOf yX11_hire cX11_hire 7 (Option.some Jvm.ClassFile.FieldType.int)) { frames := 2, cells := 0, slots := 0, locals := 52 } (gPc n0 D cA [gA n0 0, gJ a, gJ b, gJ c, gJ d, gJ f, gJ g] M sz) (gQi n0 D cA sz (fun z M1 => (z = -1) ∧ ∀ a : Int, M1 a = M a)) 0 0 (fun q => n0 ≤ q) := by
  refine gMet_of [gA n0 0, gJ a, gJ b, gJ c, gJ d, gJ f, gJ g] (by decide) (Nat.le_of_ble_eq_true rfl) ?_
  intro p e s m args below meth cd X hr hm
  have X : gCx p s m args meth cd n0 D cA "ParishUnion" cX11_hire 7 := X
  show G p l e ({ frames := 2, cells := 0, slots := 0, locals := 52 } : Room) s m args below meth cd n0 D cA 7 (MQ below (gQi n0 D cA sz (fun z M1 => (z = -1) ∧ ∀ a : Int, M1 a = M a)) args s 0 0 (fun q => n0 ≤ q)) 0 0 M sz 0 [(0, gA n0 0), (1, gJ a), (2, gJ b), (3, gJ c), (4, gJ d), (5, gJ f), (6, gJ g)] []
  refine g_aload_n (n := 1) X 0 dX11_hire_0 rfl rfl rfl ?_
  refine g_iload_n (n := 2) X 1 dX11_hire_1 rfl rfl rfl ?_
  refine g_callVi (n := 5) (As := [gJ a]) (rest := []) (cs1 := 0) (ss1 := 0) X (c_X11_isPerson a (by omega) (by omega) f_0_0 f_1_10) okX11_isPerson kw_3_56 ⟨kw_3_58, kw_0_0⟩ ⟨rfl, rfl⟩ ⟨Nat.le_of_ble_eq_true rfl, Nat.le_of_ble_eq_true rfl⟩ rfl (by omega) (by omega) lay_0 rfl rfl (Nat.le_of_ble_eq_true rfl) ⟨Nat.le_of_ble_eq_true rfl, Nat.le_of_ble_eq_true rfl⟩ rfl rfl dX11_hire_2 rfl (fun z1 M2 P3 => ?_)
  obtain ⟨rfl, rfl⟩ := P3
  refine g_if_eq (n := 8) (tgt := 15) X dX11_hire_5 (by decide) (by omega) rfl (fun c4 => ?_) (fun c4 => by exfalso; omega)
  refine g_iconst (n := 16) X dX11_hire_15 rfl ?_
  exact g_ireturn X hr dX11_hire_16 (by exact ⟨by omega, fun a  => rfl⟩)
theorem dX11_rated_0 : decode cX11_rated 0 = .ok (.aload_n 0, 1) := by decide +kernel
theorem dX11_rated_1 : decode cX11_rated 1 = .ok (.iload_n 1, 1) := by decide +kernel
theorem dX11_rated_2 : decode cX11_rated 2 = .ok (.invokevirtual 82, 3) := by decide +kernel
theorem dX11_rated_5 : decode cX11_rated 5 = .ok (.ifCond .eq 10, 3) := by decide +kernel
theorem dX11_rated_15 : decode cX11_rated 15 = .ok (.iconst (-1), 1) := by decide +kernel
theorem dX11_rated_16 : decode cX11_rated 16 = .ok (.ireturn, 1) := by decide +kernel
set_option maxRecDepth 100000 in
set_option maxHeartbeats 4000000 in
theorem c_X11_rated {l : Launch} {n0 : Nat} {D : va_G} {cA : Nat → ClassId} {M : gM} (a b c d f : Int) (r_a : -2147483648 ≤ a ∧ a ≤ 2147483647) (r_b : -2147483648 ≤ b ∧ b ≤ 2147483647) (r_c : -2147483648 ≤ c ∧ c ≤ 2147483647) (r_d : -2147483648 ≤ d ∧ d ≤ 2147483647) (r_f : f = 0 ∨ f = 1) {sz : Nat} (hsz : 206 ≤ sz) (f_0_0 : M 0 0 = 2) (f_1_10 : M 1 10 = 0) : Met l yX11_rated (gWsOf yX11_rated cX11_rated 6 (Option.some Jvm.ClassFile.FieldType.int)) { frames := 2, cells := 0, slots := 0, locals := 52 } (gPc n0 D cA [gA n0 0, gJ a, gJ b, gJ c, gJ d, gJ f] M sz) (gQi n0 D cA sz (fun z M1 => (z = -1) ∧ ∀ a : Int, M1 a = M a)) 0 0 (fun q => n0 ≤ q) := by
  refine gMet_of [gA n0 0, gJ a, gJ b, gJ c, gJ d, gJ f] (by decide) (Nat.le_of_ble_eq_true rfl) ?_
  intro p e s m args below meth cd X hr hm
  have X : gCx p s m args meth cd n0 D cA "ParishUnion" cX11_rated 6 := X
  show G p l e ({ frames := 2, cells := 0, slots := 0, locals := 52 } : Room) s m args below meth cd n0 D cA 6 (MQ below (gQi n0 D cA sz (fun z M1 => (z = -1) ∧ ∀ a : Int, M1 a = M a)) args s 0 0 (fun q => n0 ≤ q)) 0 0 M sz 0 [(0, gA n0 0), (1, gJ a), (2, gJ b), (3, gJ c), (4, gJ d), (5, gJ f)] []
  refine g_aload_n (n := 1) X 0 dX11_rated_0 rfl rfl rfl ?_
  refine g_iload_n (n := 2) X 1 dX11_rated_1 rfl rfl rfl ?_
  refine g_callVi (n := 5) (As := [gJ a]) (rest := []) (cs1 := 0) (ss1 := 0) X (c_X11_isPerson a (by omega) (by omega) f_0_0 f_1_10) okX11_isPerson kw_3_56 ⟨kw_3_58, kw_0_0⟩ ⟨rfl, rfl⟩ ⟨Nat.le_of_ble_eq_true rfl, Nat.le_of_ble_eq_true rfl⟩ rfl (by omega) (by omega) lay_0 rfl rfl (Nat.le_of_ble_eq_true rfl) ⟨Nat.le_of_ble_eq_true rfl, Nat.le_of_ble_eq_true rfl⟩ rfl rfl dX11_rated_2 rfl (fun z1 M2 P3 => ?_)
  obtain ⟨rfl, rfl⟩ := P3
  refine g_if_eq (n := 8) (tgt := 15) X dX11_rated_5 (by decide) (by omega) rfl (fun c4 => ?_) (fun c4 => by exfalso; omega)
  refine g_iconst (n := 16) X dX11_rated_15 rfl ?_
  exact g_ireturn X hr dX11_rated_16 (by exact ⟨by omega, fun a  => rfl⟩)
theorem dX11_wed_0 : decode cX11_wed 0 = .ok (.aload_n 0, 1) := by decide +kernel
theorem dX11_wed_1 : decode cX11_wed 1 = .ok (.iload_n 1, 1) := by decide +kernel
theorem dX11_wed_2 : decode cX11_wed 2 = .ok (.invokevirtual 82, 3) := by decide +kernel
theorem dX11_wed_5 : decode cX11_wed 5 = .ok (.ifCond .eq 11, 3) := by decide +kernel
theorem dX11_wed_16 : decode cX11_wed 16 = .ok (.iconst (-1), 1) := by decide +kernel
theorem dX11_wed_17 : decode cX11_wed 17 = .ok (.ireturn, 1) := by decide +kernel
set_option maxRecDepth 100000 in
set_option maxHeartbeats 4000000 in
theorem c_X11_wed {l : Launch} {n0 : Nat} {D : va_G} {cA : Nat → ClassId} {M : gM} (a b c f : Int) (r_a : -2147483648 ≤ a ∧ a ≤ 2147483647) (r_b : -2147483648 ≤ b ∧ b ≤ 2147483647) (r_c : -2147483648 ≤ c ∧ c ≤ 2147483647) (r_f : f = 0 ∨ f = 1) {sz : Nat} (hsz : 206 ≤ sz) (f_0_0 : M 0 0 = 2) (f_1_10 : M 1 10 = 0) : Met l yX11_wed (gWsOf yX11_wed cX11_wed 5 (Option.some Jvm.ClassFile.FieldType.int)) { frames := 2, cells := 0, slots := 0, locals := 52 } (gPc n0 D cA [gA n0 0, gJ a, gJ b, gJ c, gJ f] M sz) (gQi n0 D cA sz (fun z M1 => (z = -1) ∧ ∀ a : Int, M1 a = M a)) 0 0 (fun q => n0 ≤ q) := by
  refine gMet_of [gA n0 0, gJ a, gJ b, gJ c, gJ f] (by decide) (Nat.le_of_ble_eq_true rfl) ?_
  intro p e s m args below meth cd X hr hm
  have X : gCx p s m args meth cd n0 D cA "ParishUnion" cX11_wed 5 := X
  show G p l e ({ frames := 2, cells := 0, slots := 0, locals := 52 } : Room) s m args below meth cd n0 D cA 5 (MQ below (gQi n0 D cA sz (fun z M1 => (z = -1) ∧ ∀ a : Int, M1 a = M a)) args s 0 0 (fun q => n0 ≤ q)) 0 0 M sz 0 [(0, gA n0 0), (1, gJ a), (2, gJ b), (3, gJ c), (4, gJ f)] []
  refine g_aload_n (n := 1) X 0 dX11_wed_0 rfl rfl rfl ?_
  refine g_iload_n (n := 2) X 1 dX11_wed_1 rfl rfl rfl ?_
  refine g_callVi (n := 5) (As := [gJ a]) (rest := []) (cs1 := 0) (ss1 := 0) X (c_X11_isPerson a (by omega) (by omega) f_0_0 f_1_10) okX11_isPerson kw_3_56 ⟨kw_3_58, kw_0_0⟩ ⟨rfl, rfl⟩ ⟨Nat.le_of_ble_eq_true rfl, Nat.le_of_ble_eq_true rfl⟩ rfl (by omega) (by omega) lay_0 rfl rfl (Nat.le_of_ble_eq_true rfl) ⟨Nat.le_of_ble_eq_true rfl, Nat.le_of_ble_eq_true rfl⟩ rfl rfl dX11_wed_2 rfl (fun z1 M2 P3 => ?_)
  obtain ⟨rfl, rfl⟩ := P3
  refine g_if_eq (n := 8) (tgt := 16) X dX11_wed_5 (by decide) (by omega) rfl (fun c4 => ?_) (fun c4 => by exfalso; omega)
  refine g_iconst (n := 17) X dX11_wed_16 rfl ?_
  exact g_ireturn X hr dX11_wed_17 (by exact ⟨by omega, fun a  => rfl⟩)
theorem dX11_proof_0 : decode cX11_proof 0 = .ok (.aload_n 0, 1) := by decide +kernel
theorem dX11_proof_1 : decode cX11_proof 1 = .ok (.iload_n 1, 1) := by decide +kernel
theorem dX11_proof_2 : decode cX11_proof 2 = .ok (.invokevirtual 136, 3) := by decide +kernel
theorem kw_3_96 : (Jvm.Cond.methodLink "ParishUnion" (136 : Nat) ({ cls := "ParishUnion", name := "isRight", desc := "(I)Z" } : Jvm.MethodName)) ∈ gT := gT_of (tb_3 _ (List.mem_of_getElem? (i := 96) rfl)) rfl
theorem kw_3_99 : (Jvm.Cond.code ({ cls := "ParishUnion", name := "isRight", desc := "(I)Z" } : Jvm.MethodName) prog_1_method_52_code (2 : Nat) (Option.some Jvm.ClassFile.FieldType.boolean)) ∈ gT := gT_of (tb_3 _ (List.mem_of_getElem? (i := 99) rfl)) rfl
theorem okX11_isRight : gQok yX11_isRight cX11_isRight 2 (Option.some Jvm.ClassFile.FieldType.boolean) 1 := ⟨kw_3_99, kw_1_1, by decide +kernel, by decide +kernel, by decide +kernel⟩
theorem kw_3_98 : (Jvm.Cond.instanceMethod ({ cls := "ParishUnion", name := "isRight", desc := "(I)Z" } : Jvm.MethodName)) ∈ gT := gT_of (tb_3 _ (List.mem_of_getElem? (i := 98) rfl)) rfl
theorem kw_0_1 : (Jvm.Cond.selects "ParishUnion" ({ cls := "ParishUnion", name := "isRight", desc := "(I)Z" } : Jvm.MethodName) ({ cls := "ParishUnion", name := "isRight", desc := "(I)Z" } : Jvm.MethodName)) ∈ gT := gT_of (tb_0 _ (List.mem_of_getElem? (i := 1) rfl)) rfl
theorem dX11_proof_5 : decode cX11_proof 5 = .ok (.ifCond .ne 5, 3) := by decide +kernel
theorem dX11_proof_8 : decode cX11_proof 8 = .ok (.iconst (-1), 1) := by decide +kernel
theorem dX11_proof_9 : decode cX11_proof 9 = .ok (.ireturn, 1) := by decide +kernel
set_option maxRecDepth 100000 in
set_option maxHeartbeats 4000000 in
theorem c_X11_proof {l : Launch} {n0 : Nat} {D : va_G} {cA : Nat → ClassId} {M : gM} (a b : Int) (r_a : -2147483648 ≤ a ∧ a ≤ 2147483647) (r_b : b = 0 ∨ b = 1) {sz : Nat} (hsz : 206 ≤ sz) (f_0_0 : M 0 0 = 2) (f_1_11 : M 1 11 = 0) : Met l yX11_proof (gWsOf yX11_proof cX11_proof 4 (Option.some Jvm.ClassFile.FieldType.int)) { frames := 2, cells := 0, slots := 0, locals := 43 } (gPc n0 D cA [gA n0 0, gJ a, gJ b] M sz) (gQi n0 D cA sz (fun z M1 => (z = -1) ∧ ∀ a : Int, M1 a = M a)) 0 0 (fun q => n0 ≤ q) := by
  refine gMet_of [gA n0 0, gJ a, gJ b] (by decide) (Nat.le_of_ble_eq_true rfl) ?_
  intro p e s m args below meth cd X hr hm
  have X : gCx p s m args meth cd n0 D cA "ParishUnion" cX11_proof 4 := X
  show G p l e ({ frames := 2, cells := 0, slots := 0, locals := 43 } : Room) s m args below meth cd n0 D cA 4 (MQ below (gQi n0 D cA sz (fun z M1 => (z = -1) ∧ ∀ a : Int, M1 a = M a)) args s 0 0 (fun q => n0 ≤ q)) 0 0 M sz 0 [(0, gA n0 0), (1, gJ a), (2, gJ b)] []
  refine g_aload_n (n := 1) X 0 dX11_proof_0 rfl rfl rfl ?_
  refine g_iload_n (n := 2) X 1 dX11_proof_1 rfl rfl rfl ?_
  refine g_callVi (n := 5) (As := [gJ a]) (rest := []) (cs1 := 0) (ss1 := 0) X (c_X11_isRight a (by omega) (by omega) f_0_0 f_1_11) okX11_isRight kw_3_96 ⟨kw_3_98, kw_0_1⟩ ⟨rfl, rfl⟩ ⟨Nat.le_of_ble_eq_true rfl, Nat.le_of_ble_eq_true rfl⟩ rfl (by omega) (by omega) lay_0 rfl rfl (Nat.le_of_ble_eq_true rfl) ⟨Nat.le_of_ble_eq_true rfl, Nat.le_of_ble_eq_true rfl⟩ rfl rfl dX11_proof_2 rfl (fun z1 M2 P3 => ?_)
  obtain ⟨rfl, rfl⟩ := P3
  refine g_if_ne (n := 8) (tgt := 10) X dX11_proof_5 (by decide) (by omega) rfl (fun c4 => by exfalso; omega) (fun c4 => ?_)
  refine g_iconst (n := 9) X dX11_proof_8 rfl ?_
  exact g_ireturn X hr dX11_proof_9 (by exact ⟨by omega, fun a  => rfl⟩)
theorem dX11_right_0 : decode cX11_right 0 = .ok (.aload_n 0, 1) := by decide +kernel
theorem dX11_right_1 : decode cX11_right 1 = .ok (.iload_n 1, 1) := by decide +kernel
theorem dX11_right_2 : decode cX11_right 2 = .ok (.invokevirtual 136, 3) := by decide +kernel
theorem dX11_right_5 : decode cX11_right 5 = .ok (.ifCond .ne 5, 3) := by decide +kernel
theorem dX11_right_8 : decode cX11_right 8 = .ok (.iconst (-1), 1) := by decide +kernel
theorem dX11_right_9 : decode cX11_right 9 = .ok (.ireturn, 1) := by decide +kernel
set_option maxRecDepth 100000 in
set_option maxHeartbeats 4000000 in
theorem c_X11_right {l : Launch} {n0 : Nat} {D : va_G} {cA : Nat → ClassId} {M : gM} (a b : Int) (r_a : -2147483648 ≤ a ∧ a ≤ 2147483647) (r_b : -2147483648 ≤ b ∧ b ≤ 2147483647) {sz : Nat} (hsz : 206 ≤ sz) (f_0_0 : M 0 0 = 2) (f_1_11 : M 1 11 = 0) : Met l yX11_right (gWsOf yX11_right cX11_right 4 (Option.some Jvm.ClassFile.FieldType.int)) { frames := 2, cells := 0, slots := 0, locals := 43 } (gPc n0 D cA [gA n0 0, gJ a, gJ b] M sz) (gQi n0 D cA sz (fun z M1 => (z = -1) ∧ ∀ a : Int, M1 a = M a)) 0 0 (fun q => n0 ≤ q) := by
  refine gMet_of [gA n0 0, gJ a, gJ b] (by decide) (Nat.le_of_ble_eq_true rfl) ?_
  intro p e s m args below meth cd X hr hm
  have X : gCx p s m args meth cd n0 D cA "ParishUnion" cX11_right 4 := X
  show G p l e ({ frames := 2, cells := 0, slots := 0, locals := 43 } : Room) s m args below meth cd n0 D cA 4 (MQ below (gQi n0 D cA sz (fun z M1 => (z = -1) ∧ ∀ a : Int, M1 a = M a)) args s 0 0 (fun q => n0 ≤ q)) 0 0 M sz 0 [(0, gA n0 0), (1, gJ a), (2, gJ b)] []
  refine g_aload_n (n := 1) X 0 dX11_right_0 rfl rfl rfl ?_
  refine g_iload_n (n := 2) X 1 dX11_right_1 rfl rfl rfl ?_
  refine g_callVi (n := 5) (As := [gJ a]) (rest := []) (cs1 := 0) (ss1 := 0) X (c_X11_isRight a (by omega) (by omega) f_0_0 f_1_11) okX11_isRight kw_3_96 ⟨kw_3_98, kw_0_1⟩ ⟨rfl, rfl⟩ ⟨Nat.le_of_ble_eq_true rfl, Nat.le_of_ble_eq_true rfl⟩ rfl (by omega) (by omega) lay_0 rfl rfl (Nat.le_of_ble_eq_true rfl) ⟨Nat.le_of_ble_eq_true rfl, Nat.le_of_ble_eq_true rfl⟩ rfl rfl dX11_right_2 rfl (fun z1 M2 P3 => ?_)
  obtain ⟨rfl, rfl⟩ := P3
  refine g_if_ne (n := 8) (tgt := 10) X dX11_right_5 (by decide) (by omega) rfl (fun c4 => by exfalso; omega) (fun c4 => ?_)
  refine g_iconst (n := 9) X dX11_right_8 rfl ?_
  exact g_ireturn X hr dX11_right_9 (by exact ⟨by omega, fun a  => rfl⟩)
theorem dX11_taken_0 : decode cX11_taken 0 = .ok (.aload_n 0, 1) := by decide +kernel
theorem dX11_taken_1 : decode cX11_taken 1 = .ok (.iload_n 1, 1) := by decide +kernel
theorem dX11_taken_2 : decode cX11_taken 2 = .ok (.invokevirtual 136, 3) := by decide +kernel
theorem dX11_taken_5 : decode cX11_taken 5 = .ok (.ifCond .eq 12, 3) := by decide +kernel
theorem dX11_taken_17 : decode cX11_taken 17 = .ok (.iconst (-1), 1) := by decide +kernel
theorem dX11_taken_18 : decode cX11_taken 18 = .ok (.ireturn, 1) := by decide +kernel
set_option maxRecDepth 100000 in
set_option maxHeartbeats 4000000 in
theorem c_X11_taken {l : Launch} {n0 : Nat} {D : va_G} {cA : Nat → ClassId} {M : gM} (a b : Int) (r_a : -2147483648 ≤ a ∧ a ≤ 2147483647) (r_b : -2147483648 ≤ b ∧ b ≤ 2147483647) {sz : Nat} (hsz : 206 ≤ sz) (f_0_0 : M 0 0 = 2) (f_1_11 : M 1 11 = 0) : Met l yX11_taken (gWsOf yX11_taken cX11_taken 4 (Option.some Jvm.ClassFile.FieldType.int)) { frames := 2, cells := 0, slots := 0, locals := 43 } (gPc n0 D cA [gA n0 0, gJ a, gJ b] M sz) (gQi n0 D cA sz (fun z M1 => (z = -1) ∧ ∀ a : Int, M1 a = M a)) 0 0 (fun q => n0 ≤ q) := by
  refine gMet_of [gA n0 0, gJ a, gJ b] (by decide) (Nat.le_of_ble_eq_true rfl) ?_
  intro p e s m args below meth cd X hr hm
  have X : gCx p s m args meth cd n0 D cA "ParishUnion" cX11_taken 4 := X
  show G p l e ({ frames := 2, cells := 0, slots := 0, locals := 43 } : Room) s m args below meth cd n0 D cA 4 (MQ below (gQi n0 D cA sz (fun z M1 => (z = -1) ∧ ∀ a : Int, M1 a = M a)) args s 0 0 (fun q => n0 ≤ q)) 0 0 M sz 0 [(0, gA n0 0), (1, gJ a), (2, gJ b)] []
  refine g_aload_n (n := 1) X 0 dX11_taken_0 rfl rfl rfl ?_
  refine g_iload_n (n := 2) X 1 dX11_taken_1 rfl rfl rfl ?_
  refine g_callVi (n := 5) (As := [gJ a]) (rest := []) (cs1 := 0) (ss1 := 0) X (c_X11_isRight a (by omega) (by omega) f_0_0 f_1_11) okX11_isRight kw_3_96 ⟨kw_3_98, kw_0_1⟩ ⟨rfl, rfl⟩ ⟨Nat.le_of_ble_eq_true rfl, Nat.le_of_ble_eq_true rfl⟩ rfl (by omega) (by omega) lay_0 rfl rfl (Nat.le_of_ble_eq_true rfl) ⟨Nat.le_of_ble_eq_true rfl, Nat.le_of_ble_eq_true rfl⟩ rfl rfl dX11_taken_2 rfl (fun z1 M2 P3 => ?_)
  obtain ⟨rfl, rfl⟩ := P3
  refine g_if_eq (n := 8) (tgt := 17) X dX11_taken_5 (by decide) (by omega) rfl (fun c4 => ?_) (fun c4 => by exfalso; omega)
  refine g_iconst (n := 18) X dX11_taken_17 rfl ?_
  exact g_ireturn X hr dX11_taken_18 (by exact ⟨by omega, fun a  => rfl⟩)
theorem dX11_settle_0 : decode cX11_settle 0 = .ok (.aload_n 0, 1) := by decide +kernel
theorem dX11_settle_1 : decode cX11_settle 1 = .ok (.iload_n 1, 1) := by decide +kernel
theorem dX11_settle_2 : decode cX11_settle 2 = .ok (.invokevirtual 82, 3) := by decide +kernel
theorem dX11_settle_5 : decode cX11_settle 5 = .ok (.ifCond .eq 19, 3) := by decide +kernel
theorem dX11_settle_24 : decode cX11_settle 24 = .ok (.iconst (-1), 1) := by decide +kernel
theorem dX11_settle_25 : decode cX11_settle 25 = .ok (.ireturn, 1) := by decide +kernel
set_option maxRecDepth 100000 in
set_option maxHeartbeats 4000000 in
theorem c_X11_settle {l : Launch} {n0 : Nat} {D : va_G} {cA : Nat → ClassId} {M : gM} (a b c d : Int) (r_a : -2147483648 ≤ a ∧ a ≤ 2147483647) (r_b : -2147483648 ≤ b ∧ b ≤ 2147483647) (r_c : -2147483648 ≤ c ∧ c ≤ 2147483647) (r_d : -2147483648 ≤ d ∧ d ≤ 2147483647) {sz : Nat} (hsz : 206 ≤ sz) (f_0_0 : M 0 0 = 2) (f_1_10 : M 1 10 = 0) : Met l yX11_settle (gWsOf yX11_settle cX11_settle 5 (Option.some Jvm.ClassFile.FieldType.int)) { frames := 6, cells := 0, slots := 0, locals := 167 } (gPc n0 D cA [gA n0 0, gJ a, gJ b, gJ c, gJ d] M sz) (gQi n0 D cA sz (fun z M1 => (z = -1) ∧ ∀ a : Int, M1 a = M a)) 0 0 (fun q => n0 ≤ q) := by
  refine gMet_of [gA n0 0, gJ a, gJ b, gJ c, gJ d] (by decide) (Nat.le_of_ble_eq_true rfl) ?_
  intro p e s m args below meth cd X hr hm
  have X : gCx p s m args meth cd n0 D cA "ParishUnion" cX11_settle 5 := X
  show G p l e ({ frames := 6, cells := 0, slots := 0, locals := 167 } : Room) s m args below meth cd n0 D cA 5 (MQ below (gQi n0 D cA sz (fun z M1 => (z = -1) ∧ ∀ a : Int, M1 a = M a)) args s 0 0 (fun q => n0 ≤ q)) 0 0 M sz 0 [(0, gA n0 0), (1, gJ a), (2, gJ b), (3, gJ c), (4, gJ d)] []
  refine g_aload_n (n := 1) X 0 dX11_settle_0 rfl rfl rfl ?_
  refine g_iload_n (n := 2) X 1 dX11_settle_1 rfl rfl rfl ?_
  refine g_callVi (n := 5) (As := [gJ a]) (rest := []) (cs1 := 0) (ss1 := 0) X (c_X11_isPerson a (by omega) (by omega) f_0_0 f_1_10) okX11_isPerson kw_3_56 ⟨kw_3_58, kw_0_0⟩ ⟨rfl, rfl⟩ ⟨Nat.le_of_ble_eq_true rfl, Nat.le_of_ble_eq_true rfl⟩ rfl (by omega) (by omega) lay_0 rfl rfl (Nat.le_of_ble_eq_true rfl) ⟨Nat.le_of_ble_eq_true rfl, Nat.le_of_ble_eq_true rfl⟩ rfl rfl dX11_settle_2 rfl (fun z1 M2 P3 => ?_)
  obtain ⟨rfl, rfl⟩ := P3
  refine g_if_eq (n := 8) (tgt := 24) X dX11_settle_5 (by decide) (by omega) rfl (fun c4 => ?_) (fun c4 => by exfalso; omega)
  refine g_iconst (n := 25) X dX11_settle_24 rfl ?_
  exact g_ireturn X hr dX11_settle_25 (by exact ⟨by omega, fun a  => rfl⟩)
theorem dX11_maybe_0 : decode cX11_maybe 0 = .ok (.aload_n 0, 1) := by decide +kernel
theorem dX11_maybe_1 : decode cX11_maybe 1 = .ok (.iload_n 1, 1) := by decide +kernel
theorem dX11_maybe_2 : decode cX11_maybe 2 = .ok (.invokevirtual 82, 3) := by decide +kernel
theorem dX11_maybe_5 : decode cX11_maybe 5 = .ok (.ifCond .eq 21, 3) := by decide +kernel
theorem dX11_maybe_26 : decode cX11_maybe 26 = .ok (.iconst (-1), 1) := by decide +kernel
theorem dX11_maybe_27 : decode cX11_maybe 27 = .ok (.ireturn, 1) := by decide +kernel
set_option maxRecDepth 100000 in
set_option maxHeartbeats 4000000 in
theorem c_X11_maybe {l : Launch} {n0 : Nat} {D : va_G} {cA : Nat → ClassId} {M : gM} (a b c d : Int) (r_a : -2147483648 ≤ a ∧ a ≤ 2147483647) (r_b : -2147483648 ≤ b ∧ b ≤ 2147483647) (r_c : -2147483648 ≤ c ∧ c ≤ 2147483647) (r_d : -2147483648 ≤ d ∧ d ≤ 2147483647) {sz : Nat} (hsz : 206 ≤ sz) (f_0_0 : M 0 0 = 2) (f_1_10 : M 1 10 = 0) : Met l yX11_maybe (gWsOf yX11_maybe cX11_maybe 5 (Option.some Jvm.ClassFile.FieldType.int)) { frames := 6, cells := 0, slots := 0, locals := 167 } (gPc n0 D cA [gA n0 0, gJ a, gJ b, gJ c, gJ d] M sz) (gQi n0 D cA sz (fun z M1 => (z = -1) ∧ ∀ a : Int, M1 a = M a)) 0 0 (fun q => n0 ≤ q) := by
  refine gMet_of [gA n0 0, gJ a, gJ b, gJ c, gJ d] (by decide) (Nat.le_of_ble_eq_true rfl) ?_
  intro p e s m args below meth cd X hr hm
  have X : gCx p s m args meth cd n0 D cA "ParishUnion" cX11_maybe 5 := X
  show G p l e ({ frames := 6, cells := 0, slots := 0, locals := 167 } : Room) s m args below meth cd n0 D cA 5 (MQ below (gQi n0 D cA sz (fun z M1 => (z = -1) ∧ ∀ a : Int, M1 a = M a)) args s 0 0 (fun q => n0 ≤ q)) 0 0 M sz 0 [(0, gA n0 0), (1, gJ a), (2, gJ b), (3, gJ c), (4, gJ d)] []
  refine g_aload_n (n := 1) X 0 dX11_maybe_0 rfl rfl rfl ?_
  refine g_iload_n (n := 2) X 1 dX11_maybe_1 rfl rfl rfl ?_
  refine g_callVi (n := 5) (As := [gJ a]) (rest := []) (cs1 := 0) (ss1 := 0) X (c_X11_isPerson a (by omega) (by omega) f_0_0 f_1_10) okX11_isPerson kw_3_56 ⟨kw_3_58, kw_0_0⟩ ⟨rfl, rfl⟩ ⟨Nat.le_of_ble_eq_true rfl, Nat.le_of_ble_eq_true rfl⟩ rfl (by omega) (by omega) lay_0 rfl rfl (Nat.le_of_ble_eq_true rfl) ⟨Nat.le_of_ble_eq_true rfl, Nat.le_of_ble_eq_true rfl⟩ rfl rfl dX11_maybe_2 rfl (fun z1 M2 P3 => ?_)
  obtain ⟨rfl, rfl⟩ := P3
  refine g_if_eq (n := 8) (tgt := 26) X dX11_maybe_5 (by decide) (by omega) rfl (fun c4 => ?_) (fun c4 => by exfalso; omega)
  refine g_iconst (n := 27) X dX11_maybe_26 rfl ?_
  exact g_ireturn X hr dX11_maybe_27 (by exact ⟨by omega, fun a  => rfl⟩)
theorem dX11_offer_0 : decode cX11_offer 0 = .ok (.aload_n 0, 1) := by decide +kernel
theorem dX11_offer_1 : decode cX11_offer 1 = .ok (.iload_n 1, 1) := by decide +kernel
theorem dX11_offer_2 : decode cX11_offer 2 = .ok (.invokevirtual 82, 3) := by decide +kernel
theorem dX11_offer_5 : decode cX11_offer 5 = .ok (.ifCond .eq 12, 3) := by decide +kernel
theorem dX11_offer_17 : decode cX11_offer 17 = .ok (.iconst (-1), 1) := by decide +kernel
theorem dX11_offer_18 : decode cX11_offer 18 = .ok (.ireturn, 1) := by decide +kernel
set_option maxRecDepth 100000 in
set_option maxHeartbeats 4000000 in
theorem c_X11_offer {l : Launch} {n0 : Nat} {D : va_G} {cA : Nat → ClassId} {M : gM} (a b : Int) (r_a : -2147483648 ≤ a ∧ a ≤ 2147483647) (r_b : -2147483648 ≤ b ∧ b ≤ 2147483647) {sz : Nat} (hsz : 206 ≤ sz) (f_0_0 : M 0 0 = 2) (f_1_10 : M 1 10 = 0) : Met l yX11_offer (gWsOf yX11_offer cX11_offer 4 (Option.some Jvm.ClassFile.FieldType.int)) { frames := 7, cells := 0, slots := 0, locals := 188 } (gPc n0 D cA [gA n0 0, gJ a, gJ b] M sz) (gQi n0 D cA sz (fun z M1 => (z = -1) ∧ ∀ a : Int, M1 a = M a)) 0 0 (fun q => n0 ≤ q) := by
  refine gMet_of [gA n0 0, gJ a, gJ b] (by decide) (Nat.le_of_ble_eq_true rfl) ?_
  intro p e s m args below meth cd X hr hm
  have X : gCx p s m args meth cd n0 D cA "ParishUnion" cX11_offer 4 := X
  show G p l e ({ frames := 7, cells := 0, slots := 0, locals := 188 } : Room) s m args below meth cd n0 D cA 4 (MQ below (gQi n0 D cA sz (fun z M1 => (z = -1) ∧ ∀ a : Int, M1 a = M a)) args s 0 0 (fun q => n0 ≤ q)) 0 0 M sz 0 [(0, gA n0 0), (1, gJ a), (2, gJ b)] []
  refine g_aload_n (n := 1) X 0 dX11_offer_0 rfl rfl rfl ?_
  refine g_iload_n (n := 2) X 1 dX11_offer_1 rfl rfl rfl ?_
  refine g_callVi (n := 5) (As := [gJ a]) (rest := []) (cs1 := 0) (ss1 := 0) X (c_X11_isPerson a (by omega) (by omega) f_0_0 f_1_10) okX11_isPerson kw_3_56 ⟨kw_3_58, kw_0_0⟩ ⟨rfl, rfl⟩ ⟨Nat.le_of_ble_eq_true rfl, Nat.le_of_ble_eq_true rfl⟩ rfl (by omega) (by omega) lay_0 rfl rfl (Nat.le_of_ble_eq_true rfl) ⟨Nat.le_of_ble_eq_true rfl, Nat.le_of_ble_eq_true rfl⟩ rfl rfl dX11_offer_2 rfl (fun z1 M2 P3 => ?_)
  obtain ⟨rfl, rfl⟩ := P3
  refine g_if_eq (n := 8) (tgt := 17) X dX11_offer_5 (by decide) (by omega) rfl (fun c4 => ?_) (fun c4 => by exfalso; omega)
  refine g_iconst (n := 18) X dX11_offer_17 rfl ?_
  exact g_ireturn X hr dX11_offer_18 (by exact ⟨by omega, fun a  => rfl⟩)
theorem dX11_order_0 : decode cX11_order 0 = .ok (.aload_n 0, 1) := by decide +kernel
theorem dX11_order_1 : decode cX11_order 1 = .ok (.iload_n 1, 1) := by decide +kernel
theorem dX11_order_2 : decode cX11_order 2 = .ok (.invokevirtual 82, 3) := by decide +kernel
theorem dX11_order_5 : decode cX11_order 5 = .ok (.ifCond .eq 10, 3) := by decide +kernel
theorem dX11_order_15 : decode cX11_order 15 = .ok (.iconst (-1), 1) := by decide +kernel
theorem dX11_order_16 : decode cX11_order 16 = .ok (.ireturn, 1) := by decide +kernel
set_option maxRecDepth 100000 in
set_option maxHeartbeats 4000000 in
theorem c_X11_order {l : Launch} {n0 : Nat} {D : va_G} {cA : Nat → ClassId} {M : gM} (a b : Int) (r_a : -2147483648 ≤ a ∧ a ≤ 2147483647) (r_b : -2147483648 ≤ b ∧ b ≤ 2147483647) {sz : Nat} (hsz : 206 ≤ sz) (f_0_0 : M 0 0 = 2) (f_1_10 : M 1 10 = 0) : Met l yX11_order (gWsOf yX11_order cX11_order 4 (Option.some Jvm.ClassFile.FieldType.int)) { frames := 2, cells := 0, slots := 0, locals := 43 } (gPc n0 D cA [gA n0 0, gJ a, gJ b] M sz) (gQi n0 D cA sz (fun z M1 => (z = -1) ∧ ∀ a : Int, M1 a = M a)) 0 0 (fun q => n0 ≤ q) := by
  refine gMet_of [gA n0 0, gJ a, gJ b] (by decide) (Nat.le_of_ble_eq_true rfl) ?_
  intro p e s m args below meth cd X hr hm
  have X : gCx p s m args meth cd n0 D cA "ParishUnion" cX11_order 4 := X
  show G p l e ({ frames := 2, cells := 0, slots := 0, locals := 43 } : Room) s m args below meth cd n0 D cA 4 (MQ below (gQi n0 D cA sz (fun z M1 => (z = -1) ∧ ∀ a : Int, M1 a = M a)) args s 0 0 (fun q => n0 ≤ q)) 0 0 M sz 0 [(0, gA n0 0), (1, gJ a), (2, gJ b)] []
  refine g_aload_n (n := 1) X 0 dX11_order_0 rfl rfl rfl ?_
  refine g_iload_n (n := 2) X 1 dX11_order_1 rfl rfl rfl ?_
  refine g_callVi (n := 5) (As := [gJ a]) (rest := []) (cs1 := 0) (ss1 := 0) X (c_X11_isPerson a (by omega) (by omega) f_0_0 f_1_10) okX11_isPerson kw_3_56 ⟨kw_3_58, kw_0_0⟩ ⟨rfl, rfl⟩ ⟨Nat.le_of_ble_eq_true rfl, Nat.le_of_ble_eq_true rfl⟩ rfl (by omega) (by omega) lay_0 rfl rfl (Nat.le_of_ble_eq_true rfl) ⟨Nat.le_of_ble_eq_true rfl, Nat.le_of_ble_eq_true rfl⟩ rfl rfl dX11_order_2 rfl (fun z1 M2 P3 => ?_)
  obtain ⟨rfl, rfl⟩ := P3
  refine g_if_eq (n := 8) (tgt := 15) X dX11_order_5 (by decide) (by omega) rfl (fun c4 => ?_) (fun c4 => by exfalso; omega)
  refine g_iconst (n := 16) X dX11_order_15 rfl ?_
  exact g_ireturn X hr dX11_order_16 (by exact ⟨by omega, fun a  => rfl⟩)
theorem dX11_appeal_0 : decode cX11_appeal 0 = .ok (.aload_n 0, 1) := by decide +kernel
theorem dX11_appeal_1 : decode cX11_appeal 1 = .ok (.iload_n 1, 1) := by decide +kernel
theorem dX11_appeal_2 : decode cX11_appeal 2 = .ok (.invokevirtual 260, 3) := by decide +kernel
theorem kw_4_139 : (Jvm.Cond.methodLink "ParishUnion" (260 : Nat) ({ cls := "ParishUnion", name := "isOrder", desc := "(I)Z" } : Jvm.MethodName)) ∈ gT := gT_of (tb_4 _ (List.mem_of_getElem? (i := 139) rfl)) rfl
theorem kw_4_142 : (Jvm.Cond.code ({ cls := "ParishUnion", name := "isOrder", desc := "(I)Z" } : Jvm.MethodName) prog_1_method_53_code (2 : Nat) (Option.some Jvm.ClassFile.FieldType.boolean)) ∈ gT := gT_of (tb_4 _ (List.mem_of_getElem? (i := 142) rfl)) rfl
theorem okX11_isOrder : gQok yX11_isOrder cX11_isOrder 2 (Option.some Jvm.ClassFile.FieldType.boolean) 1 := ⟨kw_4_142, kw_1_1, by decide +kernel, by decide +kernel, by decide +kernel⟩
theorem kw_4_141 : (Jvm.Cond.instanceMethod ({ cls := "ParishUnion", name := "isOrder", desc := "(I)Z" } : Jvm.MethodName)) ∈ gT := gT_of (tb_4 _ (List.mem_of_getElem? (i := 141) rfl)) rfl
theorem kw_0_20 : (Jvm.Cond.selects "ParishUnion" ({ cls := "ParishUnion", name := "isOrder", desc := "(I)Z" } : Jvm.MethodName) ({ cls := "ParishUnion", name := "isOrder", desc := "(I)Z" } : Jvm.MethodName)) ∈ gT := gT_of (tb_0 _ (List.mem_of_getElem? (i := 20) rfl)) rfl
theorem dX11_appeal_5 : decode cX11_appeal 5 = .ok (.ifCond .eq 18, 3) := by decide +kernel
theorem dX11_appeal_23 : decode cX11_appeal 23 = .ok (.iconst (-1), 1) := by decide +kernel
theorem dX11_appeal_24 : decode cX11_appeal 24 = .ok (.ireturn, 1) := by decide +kernel
set_option maxRecDepth 100000 in
set_option maxHeartbeats 4000000 in
theorem c_X11_appeal {l : Launch} {n0 : Nat} {D : va_G} {cA : Nat → ClassId} {M : gM} (a b c : Int) (r_a : -2147483648 ≤ a ∧ a ≤ 2147483647) (r_b : -2147483648 ≤ b ∧ b ≤ 2147483647) (r_c : -2147483648 ≤ c ∧ c ≤ 2147483647) {sz : Nat} (hsz : 206 ≤ sz) (f_0_0 : M 0 0 = 2) (f_1_5 : M 1 5 = 10) (f_9_5 : M 9 5 = 0) : Met l yX11_appeal (gWsOf yX11_appeal cX11_appeal 4 (Option.some Jvm.ClassFile.FieldType.int)) { frames := 6, cells := 0, slots := 0, locals := 167 } (gPc n0 D cA [gA n0 0, gJ a, gJ b, gJ c] M sz) (gQi n0 D cA sz (fun z M1 => (z = -1) ∧ ∀ a : Int, M1 a = M a)) 0 0 (fun q => n0 ≤ q) := by
  refine gMet_of [gA n0 0, gJ a, gJ b, gJ c] (by decide) (Nat.le_of_ble_eq_true rfl) ?_
  intro p e s m args below meth cd X hr hm
  have X : gCx p s m args meth cd n0 D cA "ParishUnion" cX11_appeal 4 := X
  show G p l e ({ frames := 6, cells := 0, slots := 0, locals := 167 } : Room) s m args below meth cd n0 D cA 4 (MQ below (gQi n0 D cA sz (fun z M1 => (z = -1) ∧ ∀ a : Int, M1 a = M a)) args s 0 0 (fun q => n0 ≤ q)) 0 0 M sz 0 [(0, gA n0 0), (1, gJ a), (2, gJ b), (3, gJ c)] []
  refine g_aload_n (n := 1) X 0 dX11_appeal_0 rfl rfl rfl ?_
  refine g_iload_n (n := 2) X 1 dX11_appeal_1 rfl rfl rfl ?_
  refine g_callVi (n := 5) (As := [gJ a]) (rest := []) (cs1 := 0) (ss1 := 0) X (c_X11_isOrder a (by omega) (by omega) f_0_0 f_1_5 f_9_5) okX11_isOrder kw_4_139 ⟨kw_4_141, kw_0_20⟩ ⟨rfl, rfl⟩ ⟨Nat.le_of_ble_eq_true rfl, Nat.le_of_ble_eq_true rfl⟩ rfl (by omega) (by omega) lay_0 rfl rfl (Nat.le_of_ble_eq_true rfl) ⟨Nat.le_of_ble_eq_true rfl, Nat.le_of_ble_eq_true rfl⟩ rfl rfl dX11_appeal_2 rfl (fun z1 M2 P3 => ?_)
  obtain ⟨rfl, rfl⟩ := P3
  refine g_if_eq (n := 8) (tgt := 23) X dX11_appeal_5 (by decide) (by omega) rfl (fun c4 => ?_) (fun c4 => by exfalso; omega)
  refine g_iconst (n := 24) X dX11_appeal_23 rfl ?_
  exact g_ireturn X hr dX11_appeal_24 (by exact ⟨by omega, fun a  => rfl⟩)
theorem dX11_carry_0 : decode cX11_carry 0 = .ok (.aload_n 0, 1) := by decide +kernel
theorem dX11_carry_1 : decode cX11_carry 1 = .ok (.iload_n 1, 1) := by decide +kernel
theorem dX11_carry_2 : decode cX11_carry 2 = .ok (.invokevirtual 260, 3) := by decide +kernel
theorem dX11_carry_5 : decode cX11_carry 5 = .ok (.ifCond .ne 5, 3) := by decide +kernel
theorem dX11_carry_8 : decode cX11_carry 8 = .ok (.iconst (-1), 1) := by decide +kernel
theorem dX11_carry_9 : decode cX11_carry 9 = .ok (.ireturn, 1) := by decide +kernel
set_option maxRecDepth 100000 in
set_option maxHeartbeats 4000000 in
theorem c_X11_carry {l : Launch} {n0 : Nat} {D : va_G} {cA : Nat → ClassId} {M : gM} (a : Int) (r_a : -2147483648 ≤ a ∧ a ≤ 2147483647) {sz : Nat} (hsz : 206 ≤ sz) (f_0_0 : M 0 0 = 2) (f_1_5 : M 1 5 = 10) (f_9_5 : M 9 5 = 0) : Met l yX11_carry (gWsOf yX11_carry cX11_carry 4 (Option.some Jvm.ClassFile.FieldType.int)) { frames := 2, cells := 0, slots := 0, locals := 43 } (gPc n0 D cA [gA n0 0, gJ a] M sz) (gQi n0 D cA sz (fun z M1 => (z = -1) ∧ ∀ a : Int, M1 a = M a)) 0 0 (fun q => n0 ≤ q) := by
  refine gMet_of [gA n0 0, gJ a] (by decide) (Nat.le_of_ble_eq_true rfl) ?_
  intro p e s m args below meth cd X hr hm
  have X : gCx p s m args meth cd n0 D cA "ParishUnion" cX11_carry 4 := X
  show G p l e ({ frames := 2, cells := 0, slots := 0, locals := 43 } : Room) s m args below meth cd n0 D cA 4 (MQ below (gQi n0 D cA sz (fun z M1 => (z = -1) ∧ ∀ a : Int, M1 a = M a)) args s 0 0 (fun q => n0 ≤ q)) 0 0 M sz 0 [(0, gA n0 0), (1, gJ a)] []
  refine g_aload_n (n := 1) X 0 dX11_carry_0 rfl rfl rfl ?_
  refine g_iload_n (n := 2) X 1 dX11_carry_1 rfl rfl rfl ?_
  refine g_callVi (n := 5) (As := [gJ a]) (rest := []) (cs1 := 0) (ss1 := 0) X (c_X11_isOrder a (by omega) (by omega) f_0_0 f_1_5 f_9_5) okX11_isOrder kw_4_139 ⟨kw_4_141, kw_0_20⟩ ⟨rfl, rfl⟩ ⟨Nat.le_of_ble_eq_true rfl, Nat.le_of_ble_eq_true rfl⟩ rfl (by omega) (by omega) lay_0 rfl rfl (Nat.le_of_ble_eq_true rfl) ⟨Nat.le_of_ble_eq_true rfl, Nat.le_of_ble_eq_true rfl⟩ rfl rfl dX11_carry_2 rfl (fun z1 M2 P3 => ?_)
  obtain ⟨rfl, rfl⟩ := P3
  refine g_if_ne (n := 8) (tgt := 10) X dX11_carry_5 (by decide) (by omega) rfl (fun c4 => by exfalso; omega) (fun c4 => ?_)
  refine g_iconst (n := 9) X dX11_carry_8 rfl ?_
  exact g_ireturn X hr dX11_carry_9 (by exact ⟨by omega, fun a  => rfl⟩)
theorem dX11_gone_0 : decode cX11_gone 0 = .ok (.aload_n 0, 1) := by decide +kernel
theorem dX11_gone_1 : decode cX11_gone 1 = .ok (.iload_n 1, 1) := by decide +kernel
theorem dX11_gone_2 : decode cX11_gone 2 = .ok (.invokevirtual 301, 3) := by decide +kernel
theorem kw_5_11 : (Jvm.Cond.methodLink "ParishUnion" (301 : Nat) ({ cls := "ParishUnion", name := "isGone", desc := "(I)Z" } : Jvm.MethodName)) ∈ gT := gT_of (tb_5 _ (List.mem_of_getElem? (i := 11) rfl)) rfl
theorem kw_5_14 : (Jvm.Cond.code ({ cls := "ParishUnion", name := "isGone", desc := "(I)Z" } : Jvm.MethodName) prog_1_method_55_code (2 : Nat) (Option.some Jvm.ClassFile.FieldType.boolean)) ∈ gT := gT_of (tb_5 _ (List.mem_of_getElem? (i := 14) rfl)) rfl
theorem okX11_isGone : gQok yX11_isGone cX11_isGone 2 (Option.some Jvm.ClassFile.FieldType.boolean) 1 := ⟨kw_5_14, kw_1_1, by decide +kernel, by decide +kernel, by decide +kernel⟩
theorem kw_5_13 : (Jvm.Cond.instanceMethod ({ cls := "ParishUnion", name := "isGone", desc := "(I)Z" } : Jvm.MethodName)) ∈ gT := gT_of (tb_5 _ (List.mem_of_getElem? (i := 13) rfl)) rfl
theorem kw_0_28 : (Jvm.Cond.selects "ParishUnion" ({ cls := "ParishUnion", name := "isGone", desc := "(I)Z" } : Jvm.MethodName) ({ cls := "ParishUnion", name := "isGone", desc := "(I)Z" } : Jvm.MethodName)) ∈ gT := gT_of (tb_0 _ (List.mem_of_getElem? (i := 28) rfl)) rfl
theorem dX11_gone_5 : decode cX11_gone 5 = .ok (.ifCond .eq 13, 3) := by decide +kernel
theorem dX11_gone_18 : decode cX11_gone 18 = .ok (.iconst (-1), 1) := by decide +kernel
theorem dX11_gone_19 : decode cX11_gone 19 = .ok (.ireturn, 1) := by decide +kernel
set_option maxRecDepth 100000 in
set_option maxHeartbeats 4000000 in
theorem c_X11_gone {l : Launch} {n0 : Nat} {D : va_G} {cA : Nat → ClassId} {M : gM} (a b : Int) (r_a : -2147483648 ≤ a ∧ a ≤ 2147483647) (r_b : -2147483648 ≤ b ∧ b ≤ 2147483647) {sz : Nat} (hsz : 206 ≤ sz) (f_0_0 : M 0 0 = 2) (f_1_15 : M 1 15 = 0) : Met l yX11_gone (gWsOf yX11_gone cX11_gone 3 (Option.some Jvm.ClassFile.FieldType.int)) { frames := 2, cells := 0, slots := 0, locals := 43 } (gPc n0 D cA [gA n0 0, gJ a, gJ b] M sz) (gQi n0 D cA sz (fun z M1 => (z = -1) ∧ ∀ a : Int, M1 a = M a)) 0 0 (fun q => n0 ≤ q) := by
  refine gMet_of [gA n0 0, gJ a, gJ b] (by decide) (Nat.le_of_ble_eq_true rfl) ?_
  intro p e s m args below meth cd X hr hm
  have X : gCx p s m args meth cd n0 D cA "ParishUnion" cX11_gone 3 := X
  show G p l e ({ frames := 2, cells := 0, slots := 0, locals := 43 } : Room) s m args below meth cd n0 D cA 3 (MQ below (gQi n0 D cA sz (fun z M1 => (z = -1) ∧ ∀ a : Int, M1 a = M a)) args s 0 0 (fun q => n0 ≤ q)) 0 0 M sz 0 [(0, gA n0 0), (1, gJ a), (2, gJ b)] []
  refine g_aload_n (n := 1) X 0 dX11_gone_0 rfl rfl rfl ?_
  refine g_iload_n (n := 2) X 1 dX11_gone_1 rfl rfl rfl ?_
  refine g_callVi (n := 5) (As := [gJ a]) (rest := []) (cs1 := 0) (ss1 := 0) X (c_X11_isGone a (by omega) (by omega) f_0_0 f_1_15) okX11_isGone kw_5_11 ⟨kw_5_13, kw_0_28⟩ ⟨rfl, rfl⟩ ⟨Nat.le_of_ble_eq_true rfl, Nat.le_of_ble_eq_true rfl⟩ rfl (by omega) (by omega) lay_0 rfl rfl (Nat.le_of_ble_eq_true rfl) ⟨Nat.le_of_ble_eq_true rfl, Nat.le_of_ble_eq_true rfl⟩ rfl rfl dX11_gone_2 rfl (fun z1 M2 P3 => ?_)
  obtain ⟨rfl, rfl⟩ := P3
  refine g_if_eq (n := 8) (tgt := 18) X dX11_gone_5 (by decide) (by omega) rfl (fun c4 => ?_) (fun c4 => by exfalso; omega)
  refine g_iconst (n := 19) X dX11_gone_18 rfl ?_
  exact g_ireturn X hr dX11_gone_19 (by exact ⟨by omega, fun a  => rfl⟩)
theorem dX11_was_0 : decode cX11_was 0 = .ok (.aload_n 0, 1) := by decide +kernel
theorem dX11_was_1 : decode cX11_was 1 = .ok (.iload_n 1, 1) := by decide +kernel
theorem dX11_was_2 : decode cX11_was 2 = .ok (.invokevirtual 82, 3) := by decide +kernel
theorem dX11_was_5 : decode cX11_was 5 = .ok (.ifCond .eq 20, 3) := by decide +kernel
theorem dX11_was_25 : decode cX11_was 25 = .ok (.iconst (-1), 1) := by decide +kernel
theorem dX11_was_26 : decode cX11_was 26 = .ok (.ireturn, 1) := by decide +kernel
set_option maxRecDepth 100000 in
set_option maxHeartbeats 4000000 in
theorem c_X11_was {l : Launch} {n0 : Nat} {D : va_G} {cA : Nat → ClassId} {M : gM} (a b c : Int) (r_a : -2147483648 ≤ a ∧ a ≤ 2147483647) (r_b : -2147483648 ≤ b ∧ b ≤ 2147483647) (r_c : -2147483648 ≤ c ∧ c ≤ 2147483647) {sz : Nat} (hsz : 206 ≤ sz) (f_0_0 : M 0 0 = 2) (f_1_10 : M 1 10 = 0) : Met l yX11_was (gWsOf yX11_was cX11_was 5 (Option.some Jvm.ClassFile.FieldType.int)) { frames := 3, cells := 0, slots := 0, locals := 66 } (gPc n0 D cA [gA n0 0, gJ a, gJ b, gJ c] M sz) (gQi n0 D cA sz (fun z M1 => (z = -1) ∧ ∀ a : Int, M1 a = M a)) 0 0 (fun q => n0 ≤ q) := by
  refine gMet_of [gA n0 0, gJ a, gJ b, gJ c] (by decide) (Nat.le_of_ble_eq_true rfl) ?_
  intro p e s m args below meth cd X hr hm
  have X : gCx p s m args meth cd n0 D cA "ParishUnion" cX11_was 5 := X
  show G p l e ({ frames := 3, cells := 0, slots := 0, locals := 66 } : Room) s m args below meth cd n0 D cA 5 (MQ below (gQi n0 D cA sz (fun z M1 => (z = -1) ∧ ∀ a : Int, M1 a = M a)) args s 0 0 (fun q => n0 ≤ q)) 0 0 M sz 0 [(0, gA n0 0), (1, gJ a), (2, gJ b), (3, gJ c)] []
  refine g_aload_n (n := 1) X 0 dX11_was_0 rfl rfl rfl ?_
  refine g_iload_n (n := 2) X 1 dX11_was_1 rfl rfl rfl ?_
  refine g_callVi (n := 5) (As := [gJ a]) (rest := []) (cs1 := 0) (ss1 := 0) X (c_X11_isPerson a (by omega) (by omega) f_0_0 f_1_10) okX11_isPerson kw_3_56 ⟨kw_3_58, kw_0_0⟩ ⟨rfl, rfl⟩ ⟨Nat.le_of_ble_eq_true rfl, Nat.le_of_ble_eq_true rfl⟩ rfl (by omega) (by omega) lay_0 rfl rfl (Nat.le_of_ble_eq_true rfl) ⟨Nat.le_of_ble_eq_true rfl, Nat.le_of_ble_eq_true rfl⟩ rfl rfl dX11_was_2 rfl (fun z1 M2 P3 => ?_)
  obtain ⟨rfl, rfl⟩ := P3
  refine g_if_eq (n := 8) (tgt := 25) X dX11_was_5 (by decide) (by omega) rfl (fun c4 => ?_) (fun c4 => by exfalso; omega)
  refine g_iconst (n := 26) X dX11_was_25 rfl ?_
  exact g_ireturn X hr dX11_was_26 (by exact ⟨by omega, fun a  => rfl⟩)
theorem dX11_share_0 : decode cX11_share 0 = .ok (.iload_n 1, 1) := by decide +kernel
theorem dX11_share_1 : decode cX11_share 1 = .ok (.invokestatic 58, 3) := by decide +kernel
theorem dX11_share_4 : decode cX11_share 4 = .ok (.ifCond .eq 19, 3) := by decide +kernel
theorem dX11_share_23 : decode cX11_share 23 = .ok (.iconst (-1), 1) := by decide +kernel
theorem dX11_share_24 : decode cX11_share 24 = .ok (.ireturn, 1) := by decide +kernel
theorem dX11_share_7 : decode cX11_share 7 = .ok (.aload_n 0, 1) := by decide +kernel
theorem dX11_share_8 : decode cX11_share 8 = .ok (.iload_n 2, 1) := by decide +kernel
theorem dX11_share_9 : decode cX11_share 9 = .ok (.invokevirtual 301, 3) := by decide +kernel
theorem dX11_share_12 : decode cX11_share 12 = .ok (.ifCond .eq 11, 3) := by decide +kernel
set_option maxRecDepth 100000 in
set_option maxHeartbeats 4000000 in
theorem c_X11_share {l : Launch} {n0 : Nat} {D : va_G} {cA : Nat → ClassId} {M : gM} (a b c : Int) (r_a : -2147483648 ≤ a ∧ a ≤ 2147483647) (r_b : -2147483648 ≤ b ∧ b ≤ 2147483647) (r_c : -2147483648 ≤ c ∧ c ≤ 2147483647) {sz : Nat} (hsz : 206 ≤ sz) (f_0_0 : M 0 0 = 2) (f_1_15 : M 1 15 = 0) : Met l yX11_share (gWsOf yX11_share cX11_share 4 (Option.some Jvm.ClassFile.FieldType.int)) { frames := 6, cells := 0, slots := 0, locals := 167 } (gPc n0 D cA [gA n0 0, gJ a, gJ b, gJ c] M sz) (gQi n0 D cA sz (fun z M1 => (z = -1) ∧ ∀ a : Int, M1 a = M a)) 0 0 (fun q => n0 ≤ q) := by
  refine gMet_of [gA n0 0, gJ a, gJ b, gJ c] (by decide) (Nat.le_of_ble_eq_true rfl) ?_
  intro p e s m args below meth cd X hr hm
  have X : gCx p s m args meth cd n0 D cA "ParishUnion" cX11_share 4 := X
  show G p l e ({ frames := 6, cells := 0, slots := 0, locals := 167 } : Room) s m args below meth cd n0 D cA 4 (MQ below (gQi n0 D cA sz (fun z M1 => (z = -1) ∧ ∀ a : Int, M1 a = M a)) args s 0 0 (fun q => n0 ≤ q)) 0 0 M sz 0 [(0, gA n0 0), (1, gJ a), (2, gJ b), (3, gJ c)] []
  refine g_iload_n (n := 1) X 1 dX11_share_0 rfl rfl rfl ?_
  refine g_callSi (n := 4) (As := [gJ a]) (rest := []) (cs1 := 0) (ss1 := 0) X (c_X11_isParish a (by omega) (by omega)) okX11_isParish kw_3_26 kw_3_27 ⟨rfl, rfl⟩ ⟨Nat.le_of_ble_eq_true rfl, Nat.le_of_ble_eq_true rfl⟩ rfl rfl (Nat.le_of_ble_eq_true rfl) ⟨Nat.le_of_ble_eq_true rfl, Nat.le_of_ble_eq_true rfl⟩ rfl rfl dX11_share_1 rfl (fun z1 M2 P3 => ?_)
  obtain ⟨rfl, P3⟩ := P3
  refine g_if_eq (n := 7) (tgt := 23) X dX11_share_4 (by decide) (by omega) rfl (fun c4 => ?_) (fun c4 => ?_)
  · refine g_iconst (n := 24) X dX11_share_23 rfl ?_
    exact g_ireturn X hr dX11_share_24 (by exact ⟨by omega, fun a  => rfl⟩)
  · refine g_aload_n (n := 8) X 0 dX11_share_7 rfl rfl rfl ?_
    refine g_iload_n (n := 9) X 2 dX11_share_8 rfl rfl rfl ?_
    refine g_callVi (n := 12) (As := [gJ b]) (rest := []) (cs1 := 0) (ss1 := 0) X (c_X11_isGone b (by omega) (by omega) f_0_0 f_1_15) okX11_isGone kw_5_11 ⟨kw_5_13, kw_0_28⟩ ⟨rfl, rfl⟩ ⟨Nat.le_of_ble_eq_true rfl, Nat.le_of_ble_eq_true rfl⟩ rfl (by omega) (by omega) lay_0 rfl rfl (Nat.le_of_ble_eq_true rfl) ⟨Nat.le_of_ble_eq_true rfl, Nat.le_of_ble_eq_true rfl⟩ rfl rfl dX11_share_9 rfl (fun z5 M6 P7 => ?_)
    obtain ⟨rfl, rfl⟩ := P7
    refine g_if_eq (n := 15) (tgt := 23) X dX11_share_12 (by decide) (by omega) rfl (fun c8 => ?_) (fun c8 => by exfalso; omega)
    refine g_iconst (n := 24) X dX11_share_23 rfl ?_
    exact g_ireturn X hr dX11_share_24 (by exact ⟨by omega, fun a  => rfl⟩)
theorem dX11_sink_0 : decode cX11_sink 0 = .ok (.aload_n 0, 1) := by decide +kernel
theorem dX11_sink_1 : decode cX11_sink 1 = .ok (.iload_n 1, 1) := by decide +kernel
theorem dX11_sink_2 : decode cX11_sink 2 = .ok (.invokevirtual 301, 3) := by decide +kernel
theorem dX11_sink_5 : decode cX11_sink 5 = .ok (.ifCond .eq 19, 3) := by decide +kernel
theorem dX11_sink_24 : decode cX11_sink 24 = .ok (.iconst (-1), 1) := by decide +kernel
theorem dX11_sink_25 : decode cX11_sink 25 = .ok (.ireturn, 1) := by decide +kernel
set_option maxRecDepth 100000 in
set_option maxHeartbeats 4000000 in
theorem c_X11_sink {l : Launch} {n0 : Nat} {D : va_G} {cA : Nat → ClassId} {M : gM} (a b c : Int) (r_a : -2147483648 ≤ a ∧ a ≤ 2147483647) (r_b : -2147483648 ≤ b ∧ b ≤ 2147483647) (r_c : -2147483648 ≤ c ∧ c ≤ 2147483647) {sz : Nat} (hsz : 206 ≤ sz) (f_0_0 : M 0 0 = 2) (f_1_15 : M 1 15 = 0) : Met l yX11_sink (gWsOf yX11_sink cX11_sink 6 (Option.some Jvm.ClassFile.FieldType.int)) { frames := 6, cells := 0, slots := 0, locals := 167 } (gPc n0 D cA [gA n0 0, gJ a, gJ b, gJ c] M sz) (gQi n0 D cA sz (fun z M1 => (z = -1) ∧ ∀ a : Int, M1 a = M a)) 0 0 (fun q => n0 ≤ q) := by
  refine gMet_of [gA n0 0, gJ a, gJ b, gJ c] (by decide) (Nat.le_of_ble_eq_true rfl) ?_
  intro p e s m args below meth cd X hr hm
  have X : gCx p s m args meth cd n0 D cA "ParishUnion" cX11_sink 6 := X
  show G p l e ({ frames := 6, cells := 0, slots := 0, locals := 167 } : Room) s m args below meth cd n0 D cA 6 (MQ below (gQi n0 D cA sz (fun z M1 => (z = -1) ∧ ∀ a : Int, M1 a = M a)) args s 0 0 (fun q => n0 ≤ q)) 0 0 M sz 0 [(0, gA n0 0), (1, gJ a), (2, gJ b), (3, gJ c)] []
  refine g_aload_n (n := 1) X 0 dX11_sink_0 rfl rfl rfl ?_
  refine g_iload_n (n := 2) X 1 dX11_sink_1 rfl rfl rfl ?_
  refine g_callVi (n := 5) (As := [gJ a]) (rest := []) (cs1 := 0) (ss1 := 0) X (c_X11_isGone a (by omega) (by omega) f_0_0 f_1_15) okX11_isGone kw_5_11 ⟨kw_5_13, kw_0_28⟩ ⟨rfl, rfl⟩ ⟨Nat.le_of_ble_eq_true rfl, Nat.le_of_ble_eq_true rfl⟩ rfl (by omega) (by omega) lay_0 rfl rfl (Nat.le_of_ble_eq_true rfl) ⟨Nat.le_of_ble_eq_true rfl, Nat.le_of_ble_eq_true rfl⟩ rfl rfl dX11_sink_2 rfl (fun z1 M2 P3 => ?_)
  obtain ⟨rfl, rfl⟩ := P3
  refine g_if_eq (n := 8) (tgt := 24) X dX11_sink_5 (by decide) (by omega) rfl (fun c4 => ?_) (fun c4 => by exfalso; omega)
  refine g_iconst (n := 25) X dX11_sink_24 rfl ?_
  exact g_ireturn X hr dX11_sink_25 (by exact ⟨by omega, fun a  => rfl⟩)
theorem dX11_owed_0 : decode cX11_owed 0 = .ok (.iload_n 1, 1) := by decide +kernel
theorem dX11_owed_1 : decode cX11_owed 1 = .ok (.invokestatic 58, 3) := by decide +kernel
theorem dX11_owed_4 : decode cX11_owed 4 = .ok (.ifCond .eq 28, 3) := by decide +kernel
theorem dX11_owed_32 : decode cX11_owed 32 = .ok (.iconst (-1), 1) := by decide +kernel
theorem dX11_owed_33 : decode cX11_owed 33 = .ok (.ireturn, 1) := by decide +kernel
theorem dX11_owed_7 : decode cX11_owed 7 = .ok (.aload_n 0, 1) := by decide +kernel
theorem dX11_owed_8 : decode cX11_owed 8 = .ok (.iload_n 2, 1) := by decide +kernel
theorem dX11_owed_9 : decode cX11_owed 9 = .ok (.invokevirtual 301, 3) := by decide +kernel
theorem dX11_owed_12 : decode cX11_owed 12 = .ok (.ifCond .eq 20, 3) := by decide +kernel
set_option maxRecDepth 100000 in
set_option maxHeartbeats 4000000 in
theorem c_X11_owed {l : Launch} {n0 : Nat} {D : va_G} {cA : Nat → ClassId} {M : gM} (a b c d : Int) (r_a : -2147483648 ≤ a ∧ a ≤ 2147483647) (r_b : -2147483648 ≤ b ∧ b ≤ 2147483647) (r_c : -2147483648 ≤ c ∧ c ≤ 2147483647) (r_d : -2147483648 ≤ d ∧ d ≤ 2147483647) {sz : Nat} (hsz : 206 ≤ sz) (f_0_0 : M 0 0 = 2) (f_1_15 : M 1 15 = 0) : Met l yX11_owed (gWsOf yX11_owed cX11_owed 9 (Option.some Jvm.ClassFile.FieldType.int)) { frames := 6, cells := 0, slots := 0, locals := 167 } (gPc n0 D cA [gA n0 0, gJ a, gJ b, gJ c, gJ d] M sz) (gQi n0 D cA sz (fun z M1 => (z = -1) ∧ ∀ a : Int, M1 a = M a)) 0 0 (fun q => n0 ≤ q) := by
  refine gMet_of [gA n0 0, gJ a, gJ b, gJ c, gJ d] (by decide) (Nat.le_of_ble_eq_true rfl) ?_
  intro p e s m args below meth cd X hr hm
  have X : gCx p s m args meth cd n0 D cA "ParishUnion" cX11_owed 9 := X
  show G p l e ({ frames := 6, cells := 0, slots := 0, locals := 167 } : Room) s m args below meth cd n0 D cA 9 (MQ below (gQi n0 D cA sz (fun z M1 => (z = -1) ∧ ∀ a : Int, M1 a = M a)) args s 0 0 (fun q => n0 ≤ q)) 0 0 M sz 0 [(0, gA n0 0), (1, gJ a), (2, gJ b), (3, gJ c), (4, gJ d)] []
  refine g_iload_n (n := 1) X 1 dX11_owed_0 rfl rfl rfl ?_
  refine g_callSi (n := 4) (As := [gJ a]) (rest := []) (cs1 := 0) (ss1 := 0) X (c_X11_isParish a (by omega) (by omega)) okX11_isParish kw_3_26 kw_3_27 ⟨rfl, rfl⟩ ⟨Nat.le_of_ble_eq_true rfl, Nat.le_of_ble_eq_true rfl⟩ rfl rfl (Nat.le_of_ble_eq_true rfl) ⟨Nat.le_of_ble_eq_true rfl, Nat.le_of_ble_eq_true rfl⟩ rfl rfl dX11_owed_1 rfl (fun z1 M2 P3 => ?_)
  obtain ⟨rfl, P3⟩ := P3
  refine g_if_eq (n := 7) (tgt := 32) X dX11_owed_4 (by decide) (by omega) rfl (fun c4 => ?_) (fun c4 => ?_)
  · refine g_iconst (n := 33) X dX11_owed_32 rfl ?_
    exact g_ireturn X hr dX11_owed_33 (by exact ⟨by omega, fun a  => rfl⟩)
  · refine g_aload_n (n := 8) X 0 dX11_owed_7 rfl rfl rfl ?_
    refine g_iload_n (n := 9) X 2 dX11_owed_8 rfl rfl rfl ?_
    refine g_callVi (n := 12) (As := [gJ b]) (rest := []) (cs1 := 0) (ss1 := 0) X (c_X11_isGone b (by omega) (by omega) f_0_0 f_1_15) okX11_isGone kw_5_11 ⟨kw_5_13, kw_0_28⟩ ⟨rfl, rfl⟩ ⟨Nat.le_of_ble_eq_true rfl, Nat.le_of_ble_eq_true rfl⟩ rfl (by omega) (by omega) lay_0 rfl rfl (Nat.le_of_ble_eq_true rfl) ⟨Nat.le_of_ble_eq_true rfl, Nat.le_of_ble_eq_true rfl⟩ rfl rfl dX11_owed_9 rfl (fun z5 M6 P7 => ?_)
    obtain ⟨rfl, rfl⟩ := P7
    refine g_if_eq (n := 15) (tgt := 32) X dX11_owed_12 (by decide) (by omega) rfl (fun c8 => ?_) (fun c8 => by exfalso; omega)
    refine g_iconst (n := 33) X dX11_owed_32 rfl ?_
    exact g_ireturn X hr dX11_owed_33 (by exact ⟨by omega, fun a  => rfl⟩)
theorem dX11_bind_0 : decode cX11_bind 0 = .ok (.aload_n 0, 1) := by decide +kernel
theorem dX11_bind_1 : decode cX11_bind 1 = .ok (.iload_n 1, 1) := by decide +kernel
theorem dX11_bind_2 : decode cX11_bind 2 = .ok (.invokevirtual 82, 3) := by decide +kernel
theorem dX11_bind_5 : decode cX11_bind 5 = .ok (.ifCond .eq 12, 3) := by decide +kernel
theorem dX11_bind_17 : decode cX11_bind 17 = .ok (.iconst (-1), 1) := by decide +kernel
theorem dX11_bind_18 : decode cX11_bind 18 = .ok (.ireturn, 1) := by decide +kernel
set_option maxRecDepth 100000 in
set_option maxHeartbeats 4000000 in
theorem c_X11_bind {l : Launch} {n0 : Nat} {D : va_G} {cA : Nat → ClassId} {M : gM} (a b : Int) (r_a : -2147483648 ≤ a ∧ a ≤ 2147483647) (r_b : -2147483648 ≤ b ∧ b ≤ 2147483647) {sz : Nat} (hsz : 206 ≤ sz) (f_0_0 : M 0 0 = 2) (f_1_10 : M 1 10 = 0) : Met l yX11_bind (gWsOf yX11_bind cX11_bind 7 (Option.some Jvm.ClassFile.FieldType.int)) { frames := 2, cells := 0, slots := 0, locals := 48 } (gPc n0 D cA [gA n0 0, gJ a, gJ b] M sz) (gQi n0 D cA sz (fun z M1 => (z = -1) ∧ ∀ a : Int, M1 a = M a)) 0 0 (fun q => n0 ≤ q) := by
  refine gMet_of [gA n0 0, gJ a, gJ b] (by decide) (Nat.le_of_ble_eq_true rfl) ?_
  intro p e s m args below meth cd X hr hm
  have X : gCx p s m args meth cd n0 D cA "ParishUnion" cX11_bind 7 := X
  show G p l e ({ frames := 2, cells := 0, slots := 0, locals := 48 } : Room) s m args below meth cd n0 D cA 7 (MQ below (gQi n0 D cA sz (fun z M1 => (z = -1) ∧ ∀ a : Int, M1 a = M a)) args s 0 0 (fun q => n0 ≤ q)) 0 0 M sz 0 [(0, gA n0 0), (1, gJ a), (2, gJ b)] []
  refine g_aload_n (n := 1) X 0 dX11_bind_0 rfl rfl rfl ?_
  refine g_iload_n (n := 2) X 1 dX11_bind_1 rfl rfl rfl ?_
  refine g_callVi (n := 5) (As := [gJ a]) (rest := []) (cs1 := 0) (ss1 := 0) X (c_X11_isPerson a (by omega) (by omega) f_0_0 f_1_10) okX11_isPerson kw_3_56 ⟨kw_3_58, kw_0_0⟩ ⟨rfl, rfl⟩ ⟨Nat.le_of_ble_eq_true rfl, Nat.le_of_ble_eq_true rfl⟩ rfl (by omega) (by omega) lay_0 rfl rfl (Nat.le_of_ble_eq_true rfl) ⟨Nat.le_of_ble_eq_true rfl, Nat.le_of_ble_eq_true rfl⟩ rfl rfl dX11_bind_2 rfl (fun z1 M2 P3 => ?_)
  obtain ⟨rfl, rfl⟩ := P3
  refine g_if_eq (n := 8) (tgt := 17) X dX11_bind_5 (by decide) (by omega) rfl (fun c4 => ?_) (fun c4 => by exfalso; omega)
  refine g_iconst (n := 18) X dX11_bind_17 rfl ?_
  exact g_ireturn X hr dX11_bind_18 (by exact ⟨by omega, fun a  => rfl⟩)
theorem dX11_run_0 : decode cX11_run 0 = .ok (.aload_n 0, 1) := by decide +kernel
theorem dX11_run_1 : decode cX11_run 1 = .ok (.iload_n 1, 1) := by decide +kernel
theorem dX11_run_2 : decode cX11_run 2 = .ok (.invokevirtual 82, 3) := by decide +kernel
theorem dX11_run_5 : decode cX11_run 5 = .ok (.ifCond .ne 5, 3) := by decide +kernel
theorem dX11_run_8 : decode cX11_run 8 = .ok (.iconst (-1), 1) := by decide +kernel
theorem dX11_run_9 : decode cX11_run 9 = .ok (.ireturn, 1) := by decide +kernel
set_option maxRecDepth 100000 in
set_option maxHeartbeats 4000000 in
theorem c_X11_run {l : Launch} {n0 : Nat} {D : va_G} {cA : Nat → ClassId} {M : gM} (a : Int) (r_a : -2147483648 ≤ a ∧ a ≤ 2147483647) {sz : Nat} (hsz : 206 ≤ sz) (f_0_0 : M 0 0 = 2) (f_1_10 : M 1 10 = 0) : Met l yX11_run (gWsOf yX11_run cX11_run 3 (Option.some Jvm.ClassFile.FieldType.int)) { frames := 2, cells := 0, slots := 0, locals := 43 } (gPc n0 D cA [gA n0 0, gJ a] M sz) (gQi n0 D cA sz (fun z M1 => (z = -1) ∧ ∀ a : Int, M1 a = M a)) 0 0 (fun q => n0 ≤ q) := by
  refine gMet_of [gA n0 0, gJ a] (by decide) (Nat.le_of_ble_eq_true rfl) ?_
  intro p e s m args below meth cd X hr hm
  have X : gCx p s m args meth cd n0 D cA "ParishUnion" cX11_run 3 := X
  show G p l e ({ frames := 2, cells := 0, slots := 0, locals := 43 } : Room) s m args below meth cd n0 D cA 3 (MQ below (gQi n0 D cA sz (fun z M1 => (z = -1) ∧ ∀ a : Int, M1 a = M a)) args s 0 0 (fun q => n0 ≤ q)) 0 0 M sz 0 [(0, gA n0 0), (1, gJ a)] []
  refine g_aload_n (n := 1) X 0 dX11_run_0 rfl rfl rfl ?_
  refine g_iload_n (n := 2) X 1 dX11_run_1 rfl rfl rfl ?_
  refine g_callVi (n := 5) (As := [gJ a]) (rest := []) (cs1 := 0) (ss1 := 0) X (c_X11_isPerson a (by omega) (by omega) f_0_0 f_1_10) okX11_isPerson kw_3_56 ⟨kw_3_58, kw_0_0⟩ ⟨rfl, rfl⟩ ⟨Nat.le_of_ble_eq_true rfl, Nat.le_of_ble_eq_true rfl⟩ rfl (by omega) (by omega) lay_0 rfl rfl (Nat.le_of_ble_eq_true rfl) ⟨Nat.le_of_ble_eq_true rfl, Nat.le_of_ble_eq_true rfl⟩ rfl rfl dX11_run_2 rfl (fun z1 M2 P3 => ?_)
  obtain ⟨rfl, rfl⟩ := P3
  refine g_if_ne (n := 8) (tgt := 10) X dX11_run_5 (by decide) (by omega) rfl (fun c4 => by exfalso; omega) (fun c4 => ?_)
  refine g_iconst (n := 9) X dX11_run_8 rfl ?_
  exact g_ireturn X hr dX11_run_9 (by exact ⟨by omega, fun a  => rfl⟩)
theorem dX11_told_0 : decode cX11_told 0 = .ok (.aload_n 0, 1) := by decide +kernel
theorem dX11_told_1 : decode cX11_told 1 = .ok (.iload_n 1, 1) := by decide +kernel
theorem dX11_told_2 : decode cX11_told 2 = .ok (.invokevirtual 82, 3) := by decide +kernel
theorem dX11_told_5 : decode cX11_told 5 = .ok (.ifCond .ne 5, 3) := by decide +kernel
theorem dX11_told_8 : decode cX11_told 8 = .ok (.iconst (-1), 1) := by decide +kernel
theorem dX11_told_9 : decode cX11_told 9 = .ok (.ireturn, 1) := by decide +kernel
set_option maxRecDepth 100000 in
set_option maxHeartbeats 4000000 in
theorem c_X11_told {l : Launch} {n0 : Nat} {D : va_G} {cA : Nat → ClassId} {M : gM} (a b : Int) (r_a : -2147483648 ≤ a ∧ a ≤ 2147483647) (r_b : -2147483648 ≤ b ∧ b ≤ 2147483647) {sz : Nat} (hsz : 206 ≤ sz) (f_0_0 : M 0 0 = 2) (f_1_10 : M 1 10 = 0) : Met l yX11_told (gWsOf yX11_told cX11_told 4 (Option.some Jvm.ClassFile.FieldType.int)) { frames := 2, cells := 0, slots := 0, locals := 43 } (gPc n0 D cA [gA n0 0, gJ a, gJ b] M sz) (gQi n0 D cA sz (fun z M1 => (z = -1) ∧ ∀ a : Int, M1 a = M a)) 0 0 (fun q => n0 ≤ q) := by
  refine gMet_of [gA n0 0, gJ a, gJ b] (by decide) (Nat.le_of_ble_eq_true rfl) ?_
  intro p e s m args below meth cd X hr hm
  have X : gCx p s m args meth cd n0 D cA "ParishUnion" cX11_told 4 := X
  show G p l e ({ frames := 2, cells := 0, slots := 0, locals := 43 } : Room) s m args below meth cd n0 D cA 4 (MQ below (gQi n0 D cA sz (fun z M1 => (z = -1) ∧ ∀ a : Int, M1 a = M a)) args s 0 0 (fun q => n0 ≤ q)) 0 0 M sz 0 [(0, gA n0 0), (1, gJ a), (2, gJ b)] []
  refine g_aload_n (n := 1) X 0 dX11_told_0 rfl rfl rfl ?_
  refine g_iload_n (n := 2) X 1 dX11_told_1 rfl rfl rfl ?_
  refine g_callVi (n := 5) (As := [gJ a]) (rest := []) (cs1 := 0) (ss1 := 0) X (c_X11_isPerson a (by omega) (by omega) f_0_0 f_1_10) okX11_isPerson kw_3_56 ⟨kw_3_58, kw_0_0⟩ ⟨rfl, rfl⟩ ⟨Nat.le_of_ble_eq_true rfl, Nat.le_of_ble_eq_true rfl⟩ rfl (by omega) (by omega) lay_0 rfl rfl (Nat.le_of_ble_eq_true rfl) ⟨Nat.le_of_ble_eq_true rfl, Nat.le_of_ble_eq_true rfl⟩ rfl rfl dX11_told_2 rfl (fun z1 M2 P3 => ?_)
  obtain ⟨rfl, rfl⟩ := P3
  refine g_if_ne (n := 8) (tgt := 10) X dX11_told_5 (by decide) (by omega) rfl (fun c4 => by exfalso; omega) (fun c4 => ?_)
  refine g_iconst (n := 9) X dX11_told_8 rfl ?_
  exact g_ireturn X hr dX11_told_9 (by exact ⟨by omega, fun a  => rfl⟩)
theorem dX11_check_0 : decode cX11_check 0 = .ok (.aload_n 0, 1) := by decide +kernel
theorem dX11_check_1 : decode cX11_check 1 = .ok (.iload_n 1, 1) := by decide +kernel
theorem dX11_check_2 : decode cX11_check 2 = .ok (.invokevirtual 301, 3) := by decide +kernel
theorem dX11_check_5 : decode cX11_check 5 = .ok (.ifCond .ne 5, 3) := by decide +kernel
theorem dX11_check_8 : decode cX11_check 8 = .ok (.iconst (-1), 1) := by decide +kernel
theorem dX11_check_9 : decode cX11_check 9 = .ok (.ireturn, 1) := by decide +kernel
set_option maxRecDepth 100000 in
set_option maxHeartbeats 4000000 in
theorem c_X11_check {l : Launch} {n0 : Nat} {D : va_G} {cA : Nat → ClassId} {M : gM} (a : Int) (r_a : -2147483648 ≤ a ∧ a ≤ 2147483647) {sz : Nat} (hsz : 206 ≤ sz) (f_0_0 : M 0 0 = 2) (f_1_15 : M 1 15 = 0) : Met l yX11_check (gWsOf yX11_check cX11_check 3 (Option.some Jvm.ClassFile.FieldType.int)) { frames := 2, cells := 0, slots := 0, locals := 44 } (gPc n0 D cA [gA n0 0, gJ a] M sz) (gQi n0 D cA sz (fun z M1 => (z = -1) ∧ ∀ a : Int, M1 a = M a)) 0 0 (fun q => n0 ≤ q) := by
  refine gMet_of [gA n0 0, gJ a] (by decide) (Nat.le_of_ble_eq_true rfl) ?_
  intro p e s m args below meth cd X hr hm
  have X : gCx p s m args meth cd n0 D cA "ParishUnion" cX11_check 3 := X
  show G p l e ({ frames := 2, cells := 0, slots := 0, locals := 44 } : Room) s m args below meth cd n0 D cA 3 (MQ below (gQi n0 D cA sz (fun z M1 => (z = -1) ∧ ∀ a : Int, M1 a = M a)) args s 0 0 (fun q => n0 ≤ q)) 0 0 M sz 0 [(0, gA n0 0), (1, gJ a)] []
  refine g_aload_n (n := 1) X 0 dX11_check_0 rfl rfl rfl ?_
  refine g_iload_n (n := 2) X 1 dX11_check_1 rfl rfl rfl ?_
  refine g_callVi (n := 5) (As := [gJ a]) (rest := []) (cs1 := 0) (ss1 := 0) X (c_X11_isGone a (by omega) (by omega) f_0_0 f_1_15) okX11_isGone kw_5_11 ⟨kw_5_13, kw_0_28⟩ ⟨rfl, rfl⟩ ⟨Nat.le_of_ble_eq_true rfl, Nat.le_of_ble_eq_true rfl⟩ rfl (by omega) (by omega) lay_0 rfl rfl (Nat.le_of_ble_eq_true rfl) ⟨Nat.le_of_ble_eq_true rfl, Nat.le_of_ble_eq_true rfl⟩ rfl rfl dX11_check_2 rfl (fun z1 M2 P3 => ?_)
  obtain ⟨rfl, rfl⟩ := P3
  refine g_if_ne (n := 8) (tgt := 10) X dX11_check_5 (by decide) (by omega) rfl (fun c4 => by exfalso; omega) (fun c4 => ?_)
  refine g_iconst (n := 9) X dX11_check_8 rfl ?_
  exact g_ireturn X hr dX11_check_9 (by exact ⟨by omega, fun a  => rfl⟩)
theorem dX11_undo_0 : decode cX11_undo 0 = .ok (.aload_n 0, 1) := by decide +kernel
theorem dX11_undo_1 : decode cX11_undo 1 = .ok (.getfield 416, 3) := by decide +kernel
theorem kw_3_0 : (Jvm.Cond.fieldLink "ParishUnion" (416 : Nat) "ParishUnion" "kept" "LParishUnion$Union;") ∈ gT := gT_of (tb_3 _ (List.mem_of_getElem? (i := 0) rfl)) rfl
theorem dX11_undo_4 : decode cX11_undo 4 = .ok (.ifnonnull 6, 3) := by decide +kernel
theorem dX11_undo_7 : decode cX11_undo 7 = .ok (.bipush (-3), 2) := by decide +kernel
theorem dX11_undo_9 : decode cX11_undo 9 = .ok (.ireturn, 1) := by decide +kernel
set_option maxRecDepth 100000 in
set_option maxHeartbeats 4000000 in
theorem c_X11_undo {l : Launch} {n0 : Nat} {D : va_G} {cA : Nat → ClassId} {M : gM}  {sz : Nat} (hsz : 206 ≤ sz) (f_0_9 : M 0 9 = 0) : Met l yX11_undo (gWsOf yX11_undo cX11_undo 1 (Option.some Jvm.ClassFile.FieldType.int)) { frames := 7, cells := 0, slots := 0, locals := 187 } (gPc n0 D cA [gA n0 0] M sz) (gQi n0 D cA sz (fun z M1 => (z = -3) ∧ ∀ a : Int, M1 a = M a)) 0 0 (fun q => n0 ≤ q) := by
  refine gMet_of [gA n0 0] (by decide) (Nat.le_of_ble_eq_true rfl) ?_
  intro p e s m args below meth cd X hr hm
  have X : gCx p s m args meth cd n0 D cA "ParishUnion" cX11_undo 1 := X
  show G p l e ({ frames := 7, cells := 0, slots := 0, locals := 187 } : Room) s m args below meth cd n0 D cA 1 (MQ below (gQi n0 D cA sz (fun z M1 => (z = -3) ∧ ∀ a : Int, M1 a = M a)) args s 0 0 (fun q => n0 ≤ q)) 0 0 M sz 0 [(0, gA n0 0)] []
  refine g_aload_n (n := 1) X 0 dX11_undo_0 rfl rfl rfl ?_
  refine gn_11_9 (n := 4) X (by omega) (by omega) lay_0 kw_3_0 dX11_undo_1 rfl f_0_9 ?_
  refine g_ifnonnullN (n := 7) X dX11_undo_4 rfl ?_
  refine g_bipush (n := 9) X dX11_undo_7 (by decide +kernel) rfl ?_
  exact g_ireturn X hr dX11_undo_9 (by exact ⟨by omega, fun a  => rfl⟩)
end
section
theorem dX11_house_0 : decode cX11_house 0 = .ok (.iload_n 1, 1) := by decide +kernel
theorem dX11_house_1 : decode cX11_house 1 = .ok (.iconst 0, 1) := by decide +kernel
theorem dX11_house_2 : decode cX11_house 2 = .ok (.iconst 4, 1) := by decide +kernel
theorem dX11_house_3 : decode cX11_house 3 = .ok (.invokestatic 62, 3) := by decide +kernel
theorem dX11_house_6 : decode cX11_house 6 = .ok (.ifCond .ne 5, 3) := by decide +kernel
theorem dX11_house_11 : decode cX11_house 11 = .ok (.iload_n 2, 1) := by decide +kernel
theorem dX11_house_12 : decode cX11_house 12 = .ok (.iconst 0, 1) := by decide +kernel
theorem dX11_house_13 : decode cX11_house 13 = .ok (.iload_n 1, 1) := by decide +kernel
theorem dX11_house_14 : decode cX11_house 14 = .ok (.iconst 4, 1) := by decide +kernel
theorem dX11_house_15 : decode cX11_house 15 = .ok (.if_icmp .ne 9, 3) := by decide +kernel
theorem dX11_house_24 : decode cX11_house 24 = .ok (.bipush 20, 2) := by decide +kernel
theorem dX11_house_26 : decode cX11_house 26 = .ok (.invokestatic 62, 3) := by decide +kernel
theorem dX11_house_29 : decode cX11_house 29 = .ok (.ifCond .ne 6, 3) := by decide +kernel
theorem dX11_house_35 : decode cX11_house 35 = .ok (.aload_n 0, 1) := by decide +kernel
theorem dX11_house_36 : decode cX11_house 36 = .ok (.getfield 10, 3) := by decide +kernel
theorem dX11_house_39 : decode cX11_house 39 = .ok (.getfield 279, 3) := by decide +kernel
theorem dX11_house_42 : decode cX11_house 42 = .ok (.astore_n 3, 1) := by decide +kernel
theorem dX11_house_43 : decode cX11_house 43 = .ok (.iload_n 1, 1) := by decide +kernel
theorem dX11_house_44 : decode cX11_house 44 = .ok (.iconst 4, 1) := by decide +kernel
theorem dX11_house_45 : decode cX11_house 45 = .ok (.if_icmp .ne 10, 3) := by decide +kernel
theorem dX11_house_55 : decode cX11_house 55 = .ok (.aload_n 3, 1) := by decide +kernel
theorem dX11_house_56 : decode cX11_house 56 = .ok (.getfield 285, 3) := by decide +kernel
theorem kw_1_97 : (Jvm.Cond.fieldLink "ParishUnion" (285 : Nat) "ParishUnion$House" "beds" "[I") ∈ gT := gT_of (tb_1 _ (List.mem_of_getElem? (i := 97) rfl)) rfl
theorem dX11_house_59 : decode cX11_house 59 = .ok (.iload_n 1, 1) := by decide +kernel
theorem dX11_house_60 : decode cX11_house 60 = .ok (.iaload, 1) := by decide +kernel
theorem dX11_house_61 : decode cX11_house 61 = .ok (.istore 4, 2) := by decide +kernel
theorem dX11_house_63 : decode cX11_house 63 = .ok (.iload_n 1, 1) := by decide +kernel
theorem dX11_house_64 : decode cX11_house 64 = .ok (.iconst 4, 1) := by decide +kernel
theorem dX11_house_65 : decode cX11_house 65 = .ok (.if_icmp .ne 11, 3) := by decide +kernel
theorem dX11_house_76 : decode cX11_house 76 = .ok (.aload_n 3, 1) := by decide +kernel
theorem dX11_house_77 : decode cX11_house 77 = .ok (.getfield 285, 3) := by decide +kernel
theorem dX11_house_80 : decode cX11_house 80 = .ok (.iload_n 1, 1) := by decide +kernel
theorem dX11_house_81 : decode cX11_house 81 = .ok (.iload_n 2, 1) := by decide +kernel
theorem dX11_house_82 : decode cX11_house 82 = .ok (.iastore, 1) := by decide +kernel
theorem dX11_house_83 : decode cX11_house 83 = .ok (.iload 4, 2) := by decide +kernel
theorem dX11_house_85 : decode cX11_house 85 = .ok (.ireturn, 1) := by decide +kernel
theorem dX11_house_68 : decode cX11_house 68 = .ok (.aload_n 3, 1) := by decide +kernel
theorem dX11_house_69 : decode cX11_house 69 = .ok (.iload_n 2, 1) := by decide +kernel
theorem dX11_house_70 : decode cX11_house 70 = .ok (.putfield 282, 3) := by decide +kernel
theorem kw_1_111 : (Jvm.Cond.fieldLink "ParishUnion" (282 : Nat) "ParishUnion$House" "store" "I") ∈ gT := gT_of (tb_1 _ (List.mem_of_getElem? (i := 111) rfl)) rfl
theorem dX11_house_73 : decode cX11_house 73 = .ok (.goto 10, 3) := by decide +kernel
theorem dX11_house_48 : decode cX11_house 48 = .ok (.aload_n 3, 1) := by decide +kernel
theorem dX11_house_49 : decode cX11_house 49 = .ok (.getfield 282, 3) := by decide +kernel
theorem dX11_house_52 : decode cX11_house 52 = .ok (.goto 9, 3) := by decide +kernel
theorem dX11_house_32 : decode cX11_house 32 = .ok (.bipush (-2), 2) := by decide +kernel
theorem dX11_house_34 : decode cX11_house 34 = .ok (.ireturn, 1) := by decide +kernel
theorem dX11_house_18 : decode cX11_house 18 = .ok (.sipush 9999, 3) := by decide +kernel
theorem dX11_house_21 : decode cX11_house 21 = .ok (.goto 5, 3) := by decide +kernel
theorem dX11_house_9 : decode cX11_house 9 = .ok (.iconst (-1), 1) := by decide +kernel
theorem dX11_house_10 : decode cX11_house 10 = .ok (.ireturn, 1) := by decide +kernel
set_option maxRecDepth 100000 in
set_option maxHeartbeats 4000000 in
theorem c_X11_house {l : Launch} {n0 : Nat} {D : va_G} {cA : Nat → ClassId} {M : gM} (a b : Int) (r_a : -2147483648 ≤ a ∧ a ≤ 2147483647) (r_b : -2147483648 ≤ b ∧ b ≤ 2147483647) {sz : Nat} (hsz : 206 ≤ sz) (f_0_0 : M 0 0 = 2) (f_1_6 : M 1 6 = 16) (f_15_8 : M 15 8 = 0) (f_15_0 : M 15 0 = 17) (beds : ∀ i : Int, 0 ≤ i → i < 4 → M 16 i = 2) : Met l yX11_house (gWsOf yX11_house cX11_house 5 (Option.some Jvm.ClassFile.FieldType.int)) { frames := 1, cells := 0, slots := 0, locals := 22 } (gPc n0 D cA [gA n0 0, gJ a, gJ b] M sz) (gQi n0 D cA sz (fun z M1 => (((¬(0 ≤ a ∧ a ≤ 4)) → z = -1) ∧ (¬(¬(0 ≤ a ∧ a ≤ 4)) → ((a = 4 ∧ ¬(0 ≤ b ∧ b ≤ 9999)) ∨ (¬ a = 4 ∧ ¬(0 ≤ b ∧ b ≤ 20))) → z = -2) ∧ (¬(¬(0 ≤ a ∧ a ≤ 4)) → ¬((a = 4 ∧ ¬(0 ≤ b ∧ b ≤ 9999)) ∨ (¬ a = 4 ∧ ¬(0 ≤ b ∧ b ≤ 20))) → ((a = 4 → z = 0) ∧ (¬ a = 4 → z = 2)))) ∧ ∀ a : Int, a ≠ 15 → a ≠ 16 → M1 a = M a)) 0 0 (fun q => n0 ≤ q) := by
  refine gMet_of [gA n0 0, gJ a, gJ b] (by decide) (Nat.le_of_ble_eq_true rfl) ?_
  intro p e s m args below meth cd X hr hm
  have X : gCx p s m args meth cd n0 D cA "ParishUnion" cX11_house 5 := X
  show G p l e ({ frames := 1, cells := 0, slots := 0, locals := 22 } : Room) s m args below meth cd n0 D cA 5 (MQ below (gQi n0 D cA sz (fun z M1 => (((¬(0 ≤ a ∧ a ≤ 4)) → z = -1) ∧ (¬(¬(0 ≤ a ∧ a ≤ 4)) → ((a = 4 ∧ ¬(0 ≤ b ∧ b ≤ 9999)) ∨ (¬ a = 4 ∧ ¬(0 ≤ b ∧ b ≤ 20))) → z = -2) ∧ (¬(¬(0 ≤ a ∧ a ≤ 4)) → ¬((a = 4 ∧ ¬(0 ≤ b ∧ b ≤ 9999)) ∨ (¬ a = 4 ∧ ¬(0 ≤ b ∧ b ≤ 20))) → ((a = 4 → z = 0) ∧ (¬ a = 4 → z = 2)))) ∧ ∀ a : Int, a ≠ 15 → a ≠ 16 → M1 a = M a)) args s 0 0 (fun q => n0 ≤ q)) 0 0 M sz 0 [(0, gA n0 0), (1, gJ a), (2, gJ b)] []
  refine g_iload_n (n := 1) X 1 dX11_house_0 rfl rfl rfl ?_
  refine g_iconst (n := 2) X dX11_house_1 rfl ?_
  refine g_iconst (n := 3) X dX11_house_2 rfl ?_
  refine g_callSi (n := 6) (As := [gJ a, gJ 0, gJ 4]) (rest := []) (cs1 := 0) (ss1 := 0) X (c_X11_within a 0 4 (by omega) (by omega) (by omega) (by omega)) okX11_within kw_3_29 kw_3_30 ⟨rfl, rfl⟩ ⟨Nat.le_of_ble_eq_true rfl, Nat.le_of_ble_eq_true rfl⟩ rfl rfl (Nat.le_of_ble_eq_true rfl) ⟨Nat.le_of_ble_eq_true rfl, Nat.le_of_ble_eq_true rfl⟩ rfl rfl dX11_house_3 rfl (fun z1 M2 P3 => ?_)
  obtain ⟨rfl, P3⟩ := P3
  refine g_if_ne (n := 9) (tgt := 11) X dX11_house_6 (by decide) (by omega) rfl (fun c4 => ?_) (fun c4 => ?_)
  · refine g_iload_n (n := 12) X 2 dX11_house_11 rfl rfl rfl ?_
    refine g_iconst (n := 13) X dX11_house_12 rfl ?_
    refine g_iload_n (n := 14) X 1 dX11_house_13 rfl rfl rfl ?_
    refine g_iconst (n := 15) X dX11_house_14 rfl ?_
    refine g_icmp_ne (n := 18) (tgt := 24) X dX11_house_15 (by decide) (by omega) (by omega) rfl (fun c5 => ?_) (fun c5 => ?_)
    · refine g_bipush (n := 26) X dX11_house_24 (by decide +kernel) rfl ?_
      refine g_callSi (n := 29) (As := [gJ b, gJ 0, gJ 20]) (rest := []) (cs1 := 0) (ss1 := 0) X (c_X11_within b 0 20 (by omega) (by omega) (by omega) (by omega)) okX11_within kw_3_29 kw_3_30 ⟨rfl, rfl⟩ ⟨Nat.le_of_ble_eq_true rfl, Nat.le_of_ble_eq_true rfl⟩ rfl rfl (Nat.le_of_ble_eq_true rfl) ⟨Nat.le_of_ble_eq_true rfl, Nat.le_of_ble_eq_true rfl⟩ rfl rfl dX11_house_26 rfl (fun z6 M7 P8 => ?_)
      obtain ⟨rfl, P8⟩ := P8
      refine g_if_ne (n := 32) (tgt := 35) X dX11_house_29 (by decide) (by omega) rfl (fun c9 => ?_) (fun c9 => ?_)
      · refine g_aload_n (n := 36) X 0 dX11_house_35 rfl rfl rfl ?_
        refine gg_11_0 (n := 39) (z := 1) X (by omega) (by omega) lay_0 kw_2_231 dX11_house_36 rfl f_0_0 (by omega) ?_
        refine gg_9_6 (n := 42) (z := 15) X (by omega) (by omega) lay_1 kw_2_119 dX11_house_39 rfl f_1_6 (by omega) ?_
        refine g_astore_n (n := 43) (L' := [(3, gA n0 15), (0, gA n0 0), (1, gJ a), (2, gJ b)]) X dX11_house_42 rfl (by decide) rfl rfl ?_
        refine g_iload_n (n := 44) X 2 dX11_house_43 rfl rfl rfl ?_
        refine g_iconst (n := 45) X dX11_house_44 rfl ?_
        refine g_icmp_ne (n := 48) (tgt := 55) X dX11_house_45 (by decide) (by omega) (by omega) rfl (fun c10 => ?_) (fun c10 => ?_)
        · refine g_aload_n (n := 56) X 0 dX11_house_55 rfl rfl rfl ?_
          refine gg_2_0 (n := 59) (z := 16) X (by omega) (by omega) lay_15 kw_1_97 dX11_house_56 rfl f_15_0 (by omega) ?_
          refine g_iload_n (n := 60) X 2 dX11_house_59 rfl rfl rfl ?_
          refine g_iald (n := 61) X (by omega) (by omega) lay_16 (by omega) (by omega) (by omega) dX11_house_60 rfl ?_
          rw [show M 16 a = 2 from (beds _ (by omega) (by omega))]
          refine g_istore (n := 63) (L' := [(4, gJ 2), (3, gA n0 15), (0, gA n0 0), (1, gJ a), (2, gJ b)]) X dX11_house_61 (by decide) rfl rfl ?_
          refine g_iload_n (n := 64) X 3 dX11_house_63 rfl rfl rfl ?_
          refine g_iconst (n := 65) X dX11_house_64 rfl ?_
          refine g_icmp_ne (n := 68) (tgt := 76) X dX11_house_65 (by decide) (by omega) (by omega) rfl (fun c11 => ?_) (fun c11 => ?_)
          · refine g_aload_n (n := 77) X 1 dX11_house_76 rfl rfl rfl ?_
            refine gg_2_0 (n := 80) (z := 16) X (by omega) (by omega) lay_15 kw_1_97 dX11_house_77 rfl f_15_0 (by omega) ?_
            refine g_iload_n (n := 81) X 3 dX11_house_80 rfl rfl rfl ?_
            refine g_iload_n (n := 82) X 4 dX11_house_81 rfl rfl rfl ?_
            refine g_iast (n := 83) X (by omega) (by omega) lay_16 (by omega) (by omega) (by omega) dX11_house_82 rfl ?_
            refine G.nm (fun M12 e13 => ?_)
            refine g_iload (n := 85) X 0 dX11_house_83 rfl rfl ?_
            exact g_ireturn X hr dX11_house_85 (by exact ⟨by omega, fun a h0 h1 => ((congrFun e13 a).trans ((gset_off a (by omega)).trans rfl))⟩)
          · refine g_aload_n (n := 69) X 1 dX11_house_68 rfl rfl rfl ?_
            refine g_iload_n (n := 70) X 4 dX11_house_69 rfl rfl rfl ?_
            refine gp_2_8 (n := 73) X (by omega) (by omega) lay_15 kw_1_111 dX11_house_70 rfl ?_
            refine G.nm (fun M14 e15 => ?_)
            refine g_goto (tgt := 83) X dX11_house_73 (by decide) ?_
            refine g_iload (n := 85) X 0 dX11_house_83 rfl rfl ?_
            exact g_ireturn X hr dX11_house_85 (by exact ⟨by omega, fun a h0 h1 => ((congrFun e15 a).trans ((gset_off a (by omega)).trans rfl))⟩)
        · refine g_aload_n (n := 49) X 0 dX11_house_48 rfl rfl rfl ?_
          refine gg_2_8 (n := 52) (z := 0) X (by omega) (by omega) lay_15 kw_1_111 dX11_house_49 rfl f_15_8 ?_
          refine g_goto (tgt := 61) X dX11_house_52 (by decide) ?_
          refine g_istore (n := 63) (L' := [(4, gJ 0), (3, gA n0 15), (0, gA n0 0), (1, gJ a), (2, gJ b)]) X dX11_house_61 (by decide) rfl rfl ?_
          refine g_iload_n (n := 64) X 3 dX11_house_63 rfl rfl rfl ?_
          refine g_iconst (n := 65) X dX11_house_64 rfl ?_
          refine g_icmp_ne (n := 68) (tgt := 76) X dX11_house_65 (by decide) (by omega) (by omega) rfl (fun c16 => ?_) (fun c16 => ?_)
          · refine g_aload_n (n := 77) X 1 dX11_house_76 rfl rfl rfl ?_
            refine gg_2_0 (n := 80) (z := 16) X (by omega) (by omega) lay_15 kw_1_97 dX11_house_77 rfl f_15_0 (by omega) ?_
            refine g_iload_n (n := 81) X 3 dX11_house_80 rfl rfl rfl ?_
            refine g_iload_n (n := 82) X 4 dX11_house_81 rfl rfl rfl ?_
            refine g_iast (n := 83) X (by omega) (by omega) lay_16 (by omega) (by omega) (by omega) dX11_house_82 rfl ?_
            refine G.nm (fun M17 e18 => ?_)
            refine g_iload (n := 85) X 0 dX11_house_83 rfl rfl ?_
            exact g_ireturn X hr dX11_house_85 (by exact ⟨by omega, fun a h0 h1 => ((congrFun e18 a).trans ((gset_off a (by omega)).trans rfl))⟩)
          · refine g_aload_n (n := 69) X 1 dX11_house_68 rfl rfl rfl ?_
            refine g_iload_n (n := 70) X 4 dX11_house_69 rfl rfl rfl ?_
            refine gp_2_8 (n := 73) X (by omega) (by omega) lay_15 kw_1_111 dX11_house_70 rfl ?_
            refine G.nm (fun M19 e20 => ?_)
            refine g_goto (tgt := 83) X dX11_house_73 (by decide) ?_
            refine g_iload (n := 85) X 0 dX11_house_83 rfl rfl ?_
            exact g_ireturn X hr dX11_house_85 (by exact ⟨by omega, fun a h0 h1 => ((congrFun e20 a).trans ((gset_off a (by omega)).trans rfl))⟩)
      · refine g_bipush (n := 34) X dX11_house_32 (by decide +kernel) rfl ?_
        exact g_ireturn X hr dX11_house_34 (by exact ⟨by omega, fun a h0 h1 => rfl⟩)
    · refine g_sipush (n := 21) X dX11_house_18 (by decide +kernel) rfl ?_
      refine g_goto (tgt := 26) X dX11_house_21 (by decide) ?_
      refine g_callSi (n := 29) (As := [gJ b, gJ 0, gJ 9999]) (rest := []) (cs1 := 0) (ss1 := 0) X (c_X11_within b 0 9999 (by omega) (by omega) (by omega) (by omega)) okX11_within kw_3_29 kw_3_30 ⟨rfl, rfl⟩ ⟨Nat.le_of_ble_eq_true rfl, Nat.le_of_ble_eq_true rfl⟩ rfl rfl (Nat.le_of_ble_eq_true rfl) ⟨Nat.le_of_ble_eq_true rfl, Nat.le_of_ble_eq_true rfl⟩ rfl rfl dX11_house_26 rfl (fun z21 M22 P23 => ?_)
      obtain ⟨rfl, P23⟩ := P23
      refine g_if_ne (n := 32) (tgt := 35) X dX11_house_29 (by decide) (by omega) rfl (fun c24 => ?_) (fun c24 => ?_)
      · refine g_aload_n (n := 36) X 0 dX11_house_35 rfl rfl rfl ?_
        refine gg_11_0 (n := 39) (z := 1) X (by omega) (by omega) lay_0 kw_2_231 dX11_house_36 rfl f_0_0 (by omega) ?_
        refine gg_9_6 (n := 42) (z := 15) X (by omega) (by omega) lay_1 kw_2_119 dX11_house_39 rfl f_1_6 (by omega) ?_
        refine g_astore_n (n := 43) (L' := [(3, gA n0 15), (0, gA n0 0), (1, gJ a), (2, gJ b)]) X dX11_house_42 rfl (by decide) rfl rfl ?_
        refine g_iload_n (n := 44) X 2 dX11_house_43 rfl rfl rfl ?_
        refine g_iconst (n := 45) X dX11_house_44 rfl ?_
        refine g_icmp_ne (n := 48) (tgt := 55) X dX11_house_45 (by decide) (by omega) (by omega) rfl (fun c25 => ?_) (fun c25 => ?_)
        · refine g_aload_n (n := 56) X 0 dX11_house_55 rfl rfl rfl ?_
          refine gg_2_0 (n := 59) (z := 16) X (by omega) (by omega) lay_15 kw_1_97 dX11_house_56 rfl f_15_0 (by omega) ?_
          refine g_iload_n (n := 60) X 2 dX11_house_59 rfl rfl rfl ?_
          refine g_iald (n := 61) X (by omega) (by omega) lay_16 (by omega) (by omega) (by omega) dX11_house_60 rfl ?_
          rw [show M 16 a = 2 from (beds _ (by omega) (by omega))]
          refine g_istore (n := 63) (L' := [(4, gJ 2), (3, gA n0 15), (0, gA n0 0), (1, gJ a), (2, gJ b)]) X dX11_house_61 (by decide) rfl rfl ?_
          refine g_iload_n (n := 64) X 3 dX11_house_63 rfl rfl rfl ?_
          refine g_iconst (n := 65) X dX11_house_64 rfl ?_
          refine g_icmp_ne (n := 68) (tgt := 76) X dX11_house_65 (by decide) (by omega) (by omega) rfl (fun c26 => ?_) (fun c26 => ?_)
          · refine g_aload_n (n := 77) X 1 dX11_house_76 rfl rfl rfl ?_
            refine gg_2_0 (n := 80) (z := 16) X (by omega) (by omega) lay_15 kw_1_97 dX11_house_77 rfl f_15_0 (by omega) ?_
            refine g_iload_n (n := 81) X 3 dX11_house_80 rfl rfl rfl ?_
            refine g_iload_n (n := 82) X 4 dX11_house_81 rfl rfl rfl ?_
            refine g_iast (n := 83) X (by omega) (by omega) lay_16 (by omega) (by omega) (by omega) dX11_house_82 rfl ?_
            refine G.nm (fun M27 e28 => ?_)
            refine g_iload (n := 85) X 0 dX11_house_83 rfl rfl ?_
            exact g_ireturn X hr dX11_house_85 (by exact ⟨by omega, fun a h0 h1 => ((congrFun e28 a).trans ((gset_off a (by omega)).trans rfl))⟩)
          · refine g_aload_n (n := 69) X 1 dX11_house_68 rfl rfl rfl ?_
            refine g_iload_n (n := 70) X 4 dX11_house_69 rfl rfl rfl ?_
            refine gp_2_8 (n := 73) X (by omega) (by omega) lay_15 kw_1_111 dX11_house_70 rfl ?_
            refine G.nm (fun M29 e30 => ?_)
            refine g_goto (tgt := 83) X dX11_house_73 (by decide) ?_
            refine g_iload (n := 85) X 0 dX11_house_83 rfl rfl ?_
            exact g_ireturn X hr dX11_house_85 (by exact ⟨by omega, fun a h0 h1 => ((congrFun e30 a).trans ((gset_off a (by omega)).trans rfl))⟩)
        · refine g_aload_n (n := 49) X 0 dX11_house_48 rfl rfl rfl ?_
          refine gg_2_8 (n := 52) (z := 0) X (by omega) (by omega) lay_15 kw_1_111 dX11_house_49 rfl f_15_8 ?_
          refine g_goto (tgt := 61) X dX11_house_52 (by decide) ?_
          refine g_istore (n := 63) (L' := [(4, gJ 0), (3, gA n0 15), (0, gA n0 0), (1, gJ a), (2, gJ b)]) X dX11_house_61 (by decide) rfl rfl ?_
          refine g_iload_n (n := 64) X 3 dX11_house_63 rfl rfl rfl ?_
          refine g_iconst (n := 65) X dX11_house_64 rfl ?_
          refine g_icmp_ne (n := 68) (tgt := 76) X dX11_house_65 (by decide) (by omega) (by omega) rfl (fun c31 => ?_) (fun c31 => ?_)
          · refine g_aload_n (n := 77) X 1 dX11_house_76 rfl rfl rfl ?_
            refine gg_2_0 (n := 80) (z := 16) X (by omega) (by omega) lay_15 kw_1_97 dX11_house_77 rfl f_15_0 (by omega) ?_
            refine g_iload_n (n := 81) X 3 dX11_house_80 rfl rfl rfl ?_
            refine g_iload_n (n := 82) X 4 dX11_house_81 rfl rfl rfl ?_
            refine g_iast (n := 83) X (by omega) (by omega) lay_16 (by omega) (by omega) (by omega) dX11_house_82 rfl ?_
            refine G.nm (fun M32 e33 => ?_)
            refine g_iload (n := 85) X 0 dX11_house_83 rfl rfl ?_
            exact g_ireturn X hr dX11_house_85 (by exact ⟨by omega, fun a h0 h1 => ((congrFun e33 a).trans ((gset_off a (by omega)).trans rfl))⟩)
          · refine g_aload_n (n := 69) X 1 dX11_house_68 rfl rfl rfl ?_
            refine g_iload_n (n := 70) X 4 dX11_house_69 rfl rfl rfl ?_
            refine gp_2_8 (n := 73) X (by omega) (by omega) lay_15 kw_1_111 dX11_house_70 rfl ?_
            refine G.nm (fun M34 e35 => ?_)
            refine g_goto (tgt := 83) X dX11_house_73 (by decide) ?_
            refine g_iload (n := 85) X 0 dX11_house_83 rfl rfl ?_
            exact g_ireturn X hr dX11_house_85 (by exact ⟨by omega, fun a h0 h1 => ((congrFun e35 a).trans ((gset_off a (by omega)).trans rfl))⟩)
      · refine g_bipush (n := 34) X dX11_house_32 (by decide +kernel) rfl ?_
        exact g_ireturn X hr dX11_house_34 (by exact ⟨by omega, fun a h0 h1 => rfl⟩)
  · refine g_iconst (n := 10) X dX11_house_9 rfl ?_
    exact g_ireturn X hr dX11_house_10 (by exact ⟨by omega, fun a h0 h1 => rfl⟩)
theorem dX11_frost_0 : decode cX11_frost 0 = .ok (.iload_n 1, 1) := by decide +kernel
theorem dX11_frost_1 : decode cX11_frost 1 = .ok (.iconst 0, 1) := by decide +kernel
theorem dX11_frost_2 : decode cX11_frost 2 = .ok (.sipush 300, 3) := by decide +kernel
theorem dX11_frost_5 : decode cX11_frost 5 = .ok (.invokestatic 62, 3) := by decide +kernel
theorem dX11_frost_8 : decode cX11_frost 8 = .ok (.ifCond .eq 13, 3) := by decide +kernel
theorem dX11_frost_21 : decode cX11_frost 21 = .ok (.bipush (-2), 2) := by decide +kernel
theorem dX11_frost_23 : decode cX11_frost 23 = .ok (.ireturn, 1) := by decide +kernel
theorem dX11_frost_11 : decode cX11_frost 11 = .ok (.iload_n 2, 1) := by decide +kernel
theorem dX11_frost_12 : decode cX11_frost 12 = .ok (.iconst 0, 1) := by decide +kernel
theorem dX11_frost_13 : decode cX11_frost 13 = .ok (.bipush 9, 2) := by decide +kernel
theorem dX11_frost_15 : decode cX11_frost 15 = .ok (.invokestatic 62, 3) := by decide +kernel
theorem dX11_frost_18 : decode cX11_frost 18 = .ok (.ifCond .ne 6, 3) := by decide +kernel
theorem dX11_frost_24 : decode cX11_frost 24 = .ok (.iload_n 1, 1) := by decide +kernel
theorem dX11_frost_25 : decode cX11_frost 25 = .ok (.aload_n 0, 1) := by decide +kernel
theorem dX11_frost_26 : decode cX11_frost 26 = .ok (.getfield 10, 3) := by decide +kernel
theorem dX11_frost_29 : decode cX11_frost 29 = .ok (.getfield 85, 3) := by decide +kernel
theorem dX11_frost_32 : decode cX11_frost 32 = .ok (.if_icmp .ge 6, 3) := by decide +kernel
theorem dX11_frost_38 : decode cX11_frost 38 = .ok (.aload_n 0, 1) := by decide +kernel
theorem dX11_frost_39 : decode cX11_frost 39 = .ok (.getfield 10, 3) := by decide +kernel
theorem dX11_frost_42 : decode cX11_frost 42 = .ok (.getfield 279, 3) := by decide +kernel
theorem dX11_frost_45 : decode cX11_frost 45 = .ok (.getfield 291, 3) := by decide +kernel
theorem kw_1_100 : (Jvm.Cond.fieldLink "ParishUnion" (291 : Nat) "ParishUnion$House" "frost" "[I") ∈ gT := gT_of (tb_1 _ (List.mem_of_getElem? (i := 100) rfl)) rfl
theorem dX11_frost_48 : decode cX11_frost 48 = .ok (.iload_n 1, 1) := by decide +kernel
theorem dX11_frost_49 : decode cX11_frost 49 = .ok (.iaload, 1) := by decide +kernel
theorem dX11_frost_50 : decode cX11_frost 50 = .ok (.istore_n 3, 1) := by decide +kernel
theorem dX11_frost_51 : decode cX11_frost 51 = .ok (.aload_n 0, 1) := by decide +kernel
theorem dX11_frost_52 : decode cX11_frost 52 = .ok (.getfield 10, 3) := by decide +kernel
theorem dX11_frost_55 : decode cX11_frost 55 = .ok (.getfield 279, 3) := by decide +kernel
theorem dX11_frost_58 : decode cX11_frost 58 = .ok (.getfield 291, 3) := by decide +kernel
theorem dX11_frost_61 : decode cX11_frost 61 = .ok (.iload_n 1, 1) := by decide +kernel
theorem dX11_frost_62 : decode cX11_frost 62 = .ok (.iload_n 2, 1) := by decide +kernel
theorem dX11_frost_63 : decode cX11_frost 63 = .ok (.iastore, 1) := by decide +kernel
theorem dX11_frost_64 : decode cX11_frost 64 = .ok (.iload_n 3, 1) := by decide +kernel
theorem dX11_frost_65 : decode cX11_frost 65 = .ok (.ireturn, 1) := by decide +kernel
theorem dX11_frost_35 : decode cX11_frost 35 = .ok (.bipush (-3), 2) := by decide +kernel
theorem dX11_frost_37 : decode cX11_frost 37 = .ok (.ireturn, 1) := by decide +kernel
set_option maxRecDepth 100000 in
set_option maxHeartbeats 4000000 in
theorem c_X11_frost {l : Launch} {n0 : Nat} {D : va_G} {cA : Nat → ClassId} {M : gM} (a b : Int) (r_a : -2147483648 ≤ a ∧ a ≤ 2147483647) (r_b : -2147483648 ≤ b ∧ b ≤ 2147483647) {sz : Nat} (hsz : 206 ≤ sz) (f_0_0 : M 0 0 = 2) (f_1_6 : M 1 6 = 16) (f_1_15 : M 1 15 = 0) (f_15_1 : M 15 1 = 18) (frost0 : ∀ i : Int, 0 ≤ i → i < 301 → M 17 i = 0) : Met l yX11_frost (gWsOf yX11_frost cX11_frost 4 (Option.some Jvm.ClassFile.FieldType.int)) { frames := 1, cells := 0, slots := 0, locals := 22 } (gPc n0 D cA [gA n0 0, gJ a, gJ b] M sz) (gQi n0 D cA sz (fun z M1 => (((¬(0 ≤ a ∧ a ≤ 300) ∨ ¬(0 ≤ b ∧ b ≤ 9)) → z = -2) ∧ (¬(¬(0 ≤ a ∧ a ≤ 300) ∨ ¬(0 ≤ b ∧ b ≤ 9)) → (z = 0))) ∧ ∀ a : Int, a ≠ 17 → M1 a = M a)) 0 0 (fun q => n0 ≤ q) := by
  refine gMet_of [gA n0 0, gJ a, gJ b] (by decide) (Nat.le_of_ble_eq_true rfl) ?_
  intro p e s m args below meth cd X hr hm
  have X : gCx p s m args meth cd n0 D cA "ParishUnion" cX11_frost 4 := X
  show G p l e ({ frames := 1, cells := 0, slots := 0, locals := 22 } : Room) s m args below meth cd n0 D cA 4 (MQ below (gQi n0 D cA sz (fun z M1 => (((¬(0 ≤ a ∧ a ≤ 300) ∨ ¬(0 ≤ b ∧ b ≤ 9)) → z = -2) ∧ (¬(¬(0 ≤ a ∧ a ≤ 300) ∨ ¬(0 ≤ b ∧ b ≤ 9)) → (z = 0))) ∧ ∀ a : Int, a ≠ 17 → M1 a = M a)) args s 0 0 (fun q => n0 ≤ q)) 0 0 M sz 0 [(0, gA n0 0), (1, gJ a), (2, gJ b)] []
  refine g_iload_n (n := 1) X 1 dX11_frost_0 rfl rfl rfl ?_
  refine g_iconst (n := 2) X dX11_frost_1 rfl ?_
  refine g_sipush (n := 5) X dX11_frost_2 (by decide +kernel) rfl ?_
  refine g_callSi (n := 8) (As := [gJ a, gJ 0, gJ 300]) (rest := []) (cs1 := 0) (ss1 := 0) X (c_X11_within a 0 300 (by omega) (by omega) (by omega) (by omega)) okX11_within kw_3_29 kw_3_30 ⟨rfl, rfl⟩ ⟨Nat.le_of_ble_eq_true rfl, Nat.le_of_ble_eq_true rfl⟩ rfl rfl (Nat.le_of_ble_eq_true rfl) ⟨Nat.le_of_ble_eq_true rfl, Nat.le_of_ble_eq_true rfl⟩ rfl rfl dX11_frost_5 rfl (fun z1 M2 P3 => ?_)
  obtain ⟨rfl, P3⟩ := P3
  refine g_if_eq (n := 11) (tgt := 21) X dX11_frost_8 (by decide) (by omega) rfl (fun c4 => ?_) (fun c4 => ?_)
  · refine g_bipush (n := 23) X dX11_frost_21 (by decide +kernel) rfl ?_
    exact g_ireturn X hr dX11_frost_23 (by exact ⟨by omega, fun a h0 => rfl⟩)
  · refine g_iload_n (n := 12) X 2 dX11_frost_11 rfl rfl rfl ?_
    refine g_iconst (n := 13) X dX11_frost_12 rfl ?_
    refine g_bipush (n := 15) X dX11_frost_13 (by decide +kernel) rfl ?_
    refine g_callSi (n := 18) (As := [gJ b, gJ 0, gJ 9]) (rest := []) (cs1 := 0) (ss1 := 0) X (c_X11_within b 0 9 (by omega) (by omega) (by omega) (by omega)) okX11_within kw_3_29 kw_3_30 ⟨rfl, rfl⟩ ⟨Nat.le_of_ble_eq_true rfl, Nat.le_of_ble_eq_true rfl⟩ rfl rfl (Nat.le_of_ble_eq_true rfl) ⟨Nat.le_of_ble_eq_true rfl, Nat.le_of_ble_eq_true rfl⟩ rfl rfl dX11_frost_15 rfl (fun z5 M6 P7 => ?_)
    obtain ⟨rfl, P7⟩ := P7
    refine g_if_ne (n := 21) (tgt := 24) X dX11_frost_18 (by decide) (by omega) rfl (fun c8 => ?_) (fun c8 => ?_)
    · refine g_iload_n (n := 25) X 1 dX11_frost_24 rfl rfl rfl ?_
      refine g_aload_n (n := 26) X 0 dX11_frost_25 rfl rfl rfl ?_
      refine gg_11_0 (n := 29) (z := 1) X (by omega) (by omega) lay_0 kw_2_231 dX11_frost_26 rfl f_0_0 (by omega) ?_
      refine gg_9_15 (n := 32) (z := 0) X (by omega) (by omega) lay_1 kw_2_139 dX11_frost_29 rfl f_1_15 ?_
      refine g_icmp_ge (n := 35) (tgt := 38) X dX11_frost_32 (by decide) (by omega) (by omega) rfl (fun c9 => ?_) (fun c9 => ?_)
      · refine g_aload_n (n := 39) X 0 dX11_frost_38 rfl rfl rfl ?_
        refine gg_11_0 (n := 42) (z := 1) X (by omega) (by omega) lay_0 kw_2_231 dX11_frost_39 rfl f_0_0 (by omega) ?_
        refine gg_9_6 (n := 45) (z := 15) X (by omega) (by omega) lay_1 kw_2_119 dX11_frost_42 rfl f_1_6 (by omega) ?_
        refine gg_2_1 (n := 48) (z := 17) X (by omega) (by omega) lay_15 kw_1_100 dX11_frost_45 rfl f_15_1 (by omega) ?_
        refine g_iload_n (n := 49) X 1 dX11_frost_48 rfl rfl rfl ?_
        refine g_iald (n := 50) X (by omega) (by omega) lay_17 (by omega) (by omega) (by omega) dX11_frost_49 rfl ?_
        rw [show M 17 a = 0 from (frost0 _ (by omega) (by omega))]
        refine g_istore_n (n := 51) (L' := [(3, gJ 0), (0, gA n0 0), (1, gJ a), (2, gJ b)]) X dX11_frost_50 rfl (by decide) rfl rfl ?_
        refine g_aload_n (n := 52) X 1 dX11_frost_51 rfl rfl rfl ?_
        refine gg_11_0 (n := 55) (z := 1) X (by omega) (by omega) lay_0 kw_2_231 dX11_frost_52 rfl f_0_0 (by omega) ?_
        refine gg_9_6 (n := 58) (z := 15) X (by omega) (by omega) lay_1 kw_2_119 dX11_frost_55 rfl f_1_6 (by omega) ?_
        refine gg_2_1 (n := 61) (z := 17) X (by omega) (by omega) lay_15 kw_1_100 dX11_frost_58 rfl f_15_1 (by omega) ?_
        refine g_iload_n (n := 62) X 2 dX11_frost_61 rfl rfl rfl ?_
        refine g_iload_n (n := 63) X 3 dX11_frost_62 rfl rfl rfl ?_
        refine g_iast (n := 64) X (by omega) (by omega) lay_17 (by omega) (by omega) (by omega) dX11_frost_63 rfl ?_
        refine G.nm (fun M10 e11 => ?_)
        refine g_iload_n (n := 65) X 0 dX11_frost_64 rfl rfl rfl ?_
        exact g_ireturn X hr dX11_frost_65 (by exact ⟨by omega, fun a h0 => ((congrFun e11 a).trans ((gset_off a (by omega)).trans rfl))⟩)
      · refine g_bipush (n := 37) X dX11_frost_35 (by decide +kernel) rfl ?_
        exact g_ireturn X hr dX11_frost_37 (by exact ⟨by omega, fun a h0 => rfl⟩)
    · refine g_bipush (n := 23) X dX11_frost_21 (by decide +kernel) rfl ?_
      exact g_ireturn X hr dX11_frost_23 (by exact ⟨by omega, fun a h0 => rfl⟩)
theorem dX9_newsIn_0 : decode cX9_newsIn 0 = .ok (.aload_n 0, 1) := by decide +kernel
theorem dX9_newsIn_1 : decode cX9_newsIn 1 = .ok (.getfield 12, 3) := by decide +kernel
theorem kw_2_104 : (Jvm.Cond.fieldLink "ParishUnion$Union" (12 : Nat) "ParishUnion$Union" "land" "LParishUnion$Land;") ∈ gT := gT_of (tb_2 _ (List.mem_of_getElem? (i := 104) rfl)) rfl
theorem dX9_newsIn_4 : decode cX9_newsIn 4 = .ok (.iconst 0, 1) := by decide +kernel
theorem dX9_newsIn_5 : decode cX9_newsIn 5 = .ok (.iload_n 1, 1) := by decide +kernel
theorem dX9_newsIn_6 : decode cX9_newsIn 6 = .ok (.invokevirtual 177, 3) := by decide +kernel
theorem kw_4_175 : (Jvm.Cond.methodLink "ParishUnion$Union" (177 : Nat) ({ cls := "ParishUnion$Land", name := "distance", desc := "(II)I" } : Jvm.MethodName)) ∈ gT := gT_of (tb_4 _ (List.mem_of_getElem? (i := 175) rfl)) rfl
theorem dX9_newsIn_9 : decode cX9_newsIn 9 = .ok (.istore_n 3, 1) := by decide +kernel
theorem dX9_newsIn_10 : decode cX9_newsIn 10 = .ok (.iload_n 2, 1) := by decide +kernel
theorem dX9_newsIn_11 : decode cX9_newsIn 11 = .ok (.iload_n 3, 1) := by decide +kernel
theorem dX9_newsIn_12 : decode cX9_newsIn 12 = .ok (.isub, 1) := by decide +kernel
theorem dX9_newsIn_13 : decode cX9_newsIn 13 = .ok (.iconst 1, 1) := by decide +kernel
theorem dX9_newsIn_14 : decode cX9_newsIn 14 = .ok (.isub, 1) := by decide +kernel
theorem dX9_newsIn_15 : decode cX9_newsIn 15 = .ok (.aload_n 0, 1) := by decide +kernel
theorem dX9_newsIn_16 : decode cX9_newsIn 16 = .ok (.getfield 110, 3) := by decide +kernel
theorem kw_2_138 : (Jvm.Cond.fieldLink "ParishUnion$Union" (110 : Nat) "ParishUnion$Union" "now" "I") ∈ gT := gT_of (tb_2 _ (List.mem_of_getElem? (i := 138) rfl)) rfl
theorem dX9_newsIn_19 : decode cX9_newsIn 19 = .ok (.iconst 1, 1) := by decide +kernel
theorem dX9_newsIn_20 : decode cX9_newsIn 20 = .ok (.isub, 1) := by decide +kernel
theorem dX9_newsIn_21 : decode cX9_newsIn 21 = .ok (.invokestatic 180, 3) := by decide +kernel
theorem kw_1_14 : (Jvm.Cond.initialized "java/lang/Math") ∈ gT := gT_of (tb_1 _ (List.mem_of_getElem? (i := 14) rfl)) rfl
theorem kw_4_176 : (Jvm.Cond.methodLink "ParishUnion$Union" (180 : Nat) ({ cls := "java/lang/Math", name := "min", desc := "(II)I" } : Jvm.MethodName)) ∈ gT := gT_of (tb_4 _ (List.mem_of_getElem? (i := 176) rfl)) rfl
theorem kw_3_45 : (Jvm.Cond.static ({ cls := "java/lang/Math", name := "min", desc := "(II)I" } : Jvm.MethodName)) ∈ gT := gT_of (tb_3 _ (List.mem_of_getElem? (i := 45) rfl)) rfl
theorem kw_3_46 : (Jvm.Cond.code ({ cls := "java/lang/Math", name := "min", desc := "(II)I" } : Jvm.MethodName) prog_16_method_69_code (2 : Nat) (Option.some Jvm.ClassFile.FieldType.int)) ∈ gT := gT_of (tb_3 _ (List.mem_of_getElem? (i := 46) rfl)) rfl
theorem dX9_newsIn_24 : decode cX9_newsIn 24 = .ok (.istore 4, 2) := by decide +kernel
theorem dX9_newsIn_26 : decode cX9_newsIn 26 = .ok (.iload_n 3, 1) := by decide +kernel
theorem dX9_newsIn_27 : decode cX9_newsIn 27 = .ok (.bipush 99, 2) := by decide +kernel
theorem dX9_newsIn_29 : decode cX9_newsIn 29 = .ok (.if_icmp .eq 8, 3) := by decide +kernel
theorem dX9_newsIn_37 : decode cX9_newsIn 37 = .ok (.iconst 0, 1) := by decide +kernel
theorem dX9_newsIn_38 : decode cX9_newsIn 38 = .ok (.goto 14, 3) := by decide +kernel
theorem dX9_newsIn_52 : decode cX9_newsIn 52 = .ok (.ireturn, 1) := by decide +kernel
theorem dX9_newsIn_32 : decode cX9_newsIn 32 = .ok (.iload 4, 2) := by decide +kernel
theorem dX9_newsIn_34 : decode cX9_newsIn 34 = .ok (.ifCond .ge 7, 3) := by decide +kernel
set_option maxRecDepth 100000 in
set_option maxHeartbeats 4000000 in
theorem c_X9_newsIn {l : Launch} {n0 : Nat} {D : va_G} {cA : Nat → ClassId} {M : gM} (a b : Int) (r_a : -2147483648 ≤ a ∧ a ≤ 2147483647) (r_b : -2147483648 ≤ b ∧ b ≤ 2147483647) {sz : Nat} (hsz : 206 ≤ sz) (f_1_0 : M 1 0 = 3) (f_2_1 : M 2 1 = 5) (f_1_15 : M 1 15 = 0) (f_1_7 : M 1 7 = 24) (f_23_0 : M 23 0 = 25) (hab : 0 ≤ a ∧ a ≤ 5 ∧ 0 ≤ b ∧ b ≤ 300) (way : ∀ i : Int, 0 ≤ i → i < 36 → (i % 7 = 0 → M 4 i = 0) ∧ (¬ i % 7 = 0 → M 4 i = 99)) : Met l yX9_newsIn (gWsOf yX9_newsIn cX9_newsIn 5 (Option.some Jvm.ClassFile.FieldType.int)) { frames := 4, cells := 0, slots := 0, locals := 120 } (gPc n0 D cA [gA n0 1, gJ a, gJ b] M sz) (gQi n0 D cA sz (fun z M1 => M = M1 ∧ (z = 0))) 0 0 (fun q => n0 ≤ q) := by
  refine gMet_of [gA n0 1, gJ a, gJ b] (by decide) (Nat.le_of_ble_eq_true rfl) ?_
  intro p e s m args below meth cd X hr hm
  have X : gCx p s m args meth cd n0 D cA "ParishUnion$Union" cX9_newsIn 5 := X
  show G p l e ({ frames := 4, cells := 0, slots := 0, locals := 120 } : Room) s m args below meth cd n0 D cA 5 (MQ below (gQi n0 D cA sz (fun z M1 => M = M1 ∧ (z = 0))) args s 0 0 (fun q => n0 ≤ q)) 0 0 M sz 0 [(0, gA n0 1), (1, gJ a), (2, gJ b)] []
  refine g_aload_n (n := 1) X 0 dX9_newsIn_0 rfl rfl rfl ?_
  refine gg_9_0 (n := 4) (z := 2) X (by omega) (by omega) lay_1 kw_2_104 dX9_newsIn_1 rfl f_1_0 (by omega) ?_
  refine g_iconst (n := 5) X dX9_newsIn_4 rfl ?_
  refine g_iload_n (n := 6) X 1 dX9_newsIn_5 rfl rfl rfl ?_
  refine g_callVi (n := 9) (As := [gJ 0, gJ a]) (rest := []) (cs1 := 0) (ss1 := 0) X (c_X3_distance 0 a (by omega) (by omega) (by omega) f_2_1 (by omega) way) okX3_distance kw_4_175 ⟨kw_3_41, kw_3_42⟩ ⟨rfl, rfl⟩ ⟨Nat.le_of_ble_eq_true rfl, Nat.le_of_ble_eq_true rfl⟩ rfl (by omega) (by omega) lay_2 rfl rfl (Nat.le_of_ble_eq_true rfl) ⟨Nat.le_of_ble_eq_true rfl, Nat.le_of_ble_eq_true rfl⟩ rfl rfl dX9_newsIn_6 rfl (fun z1 M2 P3 => ?_)
  obtain ⟨rfl, P3⟩ := P3
  refine g_istore_n (n := 10) (L' := [(3, gJ z1), (0, gA n0 1), (1, gJ a), (2, gJ b)]) X dX9_newsIn_9 rfl (by decide) rfl rfl ?_
  refine g_iload_n (n := 11) X 3 dX9_newsIn_10 rfl rfl rfl ?_
  refine g_iload_n (n := 12) X 0 dX9_newsIn_11 rfl rfl rfl ?_
  refine g_isub (n := 13) (z := b - z1) X dX9_newsIn_12 rfl rfl ?_
  refine g_iconst (n := 14) X dX9_newsIn_13 rfl ?_
  refine g_isub (n := 15) (z := (b - z1) - 1) X dX9_newsIn_14 rfl rfl ?_
  refine g_aload_n (n := 16) X 1 dX9_newsIn_15 rfl rfl rfl ?_
  refine gg_9_15 (n := 19) (z := 0) X (by omega) (by omega) lay_1 kw_2_138 dX9_newsIn_16 rfl f_1_15 ?_
  refine g_iconst (n := 20) X dX9_newsIn_19 rfl ?_
  refine g_isub (n := 21) (z := (-1)) X dX9_newsIn_20 rfl rfl ?_
  refine g_mmin (n := 24) X kw_4_176 kw_3_45 kw_1_14 kw_3_46 (by omega) (by omega) (Nat.le_of_ble_eq_true rfl) (Nat.le_of_ble_eq_true rfl) (Nat.le_of_ble_eq_true rfl) (Nat.le_of_ble_eq_true rfl) dX9_newsIn_21 rfl (fun x4 hx4 => ?_)
  refine g_istore (n := 26) (L' := [(4, gJ x4), (3, gJ z1), (0, gA n0 1), (1, gJ a), (2, gJ b)]) X dX9_newsIn_24 (by decide) rfl rfl ?_
  refine g_iload_n (n := 27) X 1 dX9_newsIn_26 rfl rfl rfl ?_
  refine g_bipush (n := 29) X dX9_newsIn_27 (by decide +kernel) rfl ?_
  refine g_icmp_eq (n := 32) (tgt := 37) X dX9_newsIn_29 (by decide) (by omega) (by omega) rfl (fun c5 => ?_) (fun c5 => ?_)
  · refine g_iconst (n := 38) X dX9_newsIn_37 rfl ?_
    refine g_goto (tgt := 52) X dX9_newsIn_38 (by decide) ?_
    exact g_ireturn X hr dX9_newsIn_52 (by exact ⟨rfl, by omega⟩)
  · refine g_iload (n := 34) X 0 dX9_newsIn_32 rfl rfl ?_
    refine g_if_ge (n := 37) (tgt := 41) X dX9_newsIn_34 (by decide) (by omega) rfl (fun c6 => by exfalso; omega) (fun c6 => ?_)
    refine g_iconst (n := 38) X dX9_newsIn_37 rfl ?_
    refine g_goto (tgt := 52) X dX9_newsIn_38 (by decide) ?_
    exact g_ireturn X hr dX9_newsIn_52 (by exact ⟨rfl, by omega⟩)
theorem dX11_heard_0 : decode cX11_heard 0 = .ok (.iload_n 1, 1) := by decide +kernel
theorem dX11_heard_1 : decode cX11_heard 1 = .ok (.invokestatic 58, 3) := by decide +kernel
theorem dX11_heard_4 : decode cX11_heard 4 = .ok (.ifCond .ne 5, 3) := by decide +kernel
theorem dX11_heard_9 : decode cX11_heard 9 = .ok (.iload_n 2, 1) := by decide +kernel
theorem dX11_heard_10 : decode cX11_heard 10 = .ok (.iconst 0, 1) := by decide +kernel
theorem dX11_heard_11 : decode cX11_heard 11 = .ok (.sipush 300, 3) := by decide +kernel
theorem dX11_heard_14 : decode cX11_heard 14 = .ok (.invokestatic 62, 3) := by decide +kernel
theorem dX11_heard_17 : decode cX11_heard 17 = .ok (.ifCond .ne 6, 3) := by decide +kernel
theorem dX11_heard_23 : decode cX11_heard 23 = .ok (.aload_n 0, 1) := by decide +kernel
theorem dX11_heard_24 : decode cX11_heard 24 = .ok (.getfield 10, 3) := by decide +kernel
theorem dX11_heard_27 : decode cX11_heard 27 = .ok (.iload_n 1, 1) := by decide +kernel
theorem dX11_heard_28 : decode cX11_heard 28 = .ok (.iload_n 2, 1) := by decide +kernel
theorem dX11_heard_29 : decode cX11_heard 29 = .ok (.invokevirtual 294, 3) := by decide +kernel
theorem kw_4_171 : (Jvm.Cond.methodLink "ParishUnion" (294 : Nat) ({ cls := "ParishUnion$Union", name := "newsIn", desc := "(II)I" } : Jvm.MethodName)) ∈ gT := gT_of (tb_4 _ (List.mem_of_getElem? (i := 171) rfl)) rfl
theorem kw_4_174 : (Jvm.Cond.code ({ cls := "ParishUnion$Union", name := "newsIn", desc := "(II)I" } : Jvm.MethodName) prog_11_method_10_code (5 : Nat) (Option.some Jvm.ClassFile.FieldType.int)) ∈ gT := gT_of (tb_4 _ (List.mem_of_getElem? (i := 174) rfl)) rfl
theorem kw_1_2 : (Jvm.Cond.initialized "ParishUnion$Union") ∈ gT := gT_of (tb_1 _ (List.mem_of_getElem? (i := 2) rfl)) rfl
theorem okX9_newsIn : gQok yX9_newsIn cX9_newsIn 5 (Option.some Jvm.ClassFile.FieldType.int) 2 := ⟨kw_4_174, kw_1_2, by decide +kernel, by decide +kernel, by decide +kernel⟩
theorem kw_4_172 : (Jvm.Cond.instanceMethod ({ cls := "ParishUnion$Union", name := "newsIn", desc := "(II)I" } : Jvm.MethodName)) ∈ gT := gT_of (tb_4 _ (List.mem_of_getElem? (i := 172) rfl)) rfl
theorem kw_4_173 : (Jvm.Cond.selects "ParishUnion$Union" ({ cls := "ParishUnion$Union", name := "newsIn", desc := "(II)I" } : Jvm.MethodName) ({ cls := "ParishUnion$Union", name := "newsIn", desc := "(II)I" } : Jvm.MethodName)) ∈ gT := gT_of (tb_4 _ (List.mem_of_getElem? (i := 173) rfl)) rfl
theorem dX11_heard_32 : decode cX11_heard 32 = .ok (.ireturn, 1) := by decide +kernel
theorem dX11_heard_20 : decode cX11_heard 20 = .ok (.bipush (-2), 2) := by decide +kernel
theorem dX11_heard_22 : decode cX11_heard 22 = .ok (.ireturn, 1) := by decide +kernel
theorem dX11_heard_7 : decode cX11_heard 7 = .ok (.iconst (-1), 1) := by decide +kernel
theorem dX11_heard_8 : decode cX11_heard 8 = .ok (.ireturn, 1) := by decide +kernel
set_option maxRecDepth 100000 in
set_option maxHeartbeats 4000000 in
theorem c_X11_heard {l : Launch} {n0 : Nat} {D : va_G} {cA : Nat → ClassId} {M : gM} (a b : Int) (r_a : -2147483648 ≤ a ∧ a ≤ 2147483647) (r_b : -2147483648 ≤ b ∧ b ≤ 2147483647) {sz : Nat} (hsz : 206 ≤ sz) (f_0_0 : M 0 0 = 2) (f_1_0 : M 1 0 = 3) (f_2_1 : M 2 1 = 5) (f_1_15 : M 1 15 = 0) (f_1_7 : M 1 7 = 24) (f_23_0 : M 23 0 = 25) (way : ∀ i : Int, 0 ≤ i → i < 36 → (i % 7 = 0 → M 4 i = 0) ∧ (¬ i % 7 = 0 → M 4 i = 99)) : Met l yX11_heard (gWsOf yX11_heard cX11_heard 3 (Option.some Jvm.ClassFile.FieldType.int)) { frames := 5, cells := 0, slots := 0, locals := 144 } (gPc n0 D cA [gA n0 0, gJ a, gJ b] M sz) (gQi n0 D cA sz (fun z M1 => (((¬(0 ≤ a ∧ a ≤ 5)) → z = -1) ∧ (¬(¬(0 ≤ a ∧ a ≤ 5)) → (¬(0 ≤ b ∧ b ≤ 300)) → z = -2) ∧ (¬(¬(0 ≤ a ∧ a ≤ 5)) → ¬(¬(0 ≤ b ∧ b ≤ 300)) → (z = 0))) ∧ ∀ a : Int, M1 a = M a)) 0 0 (fun q => n0 ≤ q) := by
  refine gMet_of [gA n0 0, gJ a, gJ b] (by decide) (Nat.le_of_ble_eq_true rfl) ?_
  intro p e s m args below meth cd X hr hm
  have X : gCx p s m args meth cd n0 D cA "ParishUnion" cX11_heard 3 := X
  show G p l e ({ frames := 5, cells := 0, slots := 0, locals := 144 } : Room) s m args below meth cd n0 D cA 3 (MQ below (gQi n0 D cA sz (fun z M1 => (((¬(0 ≤ a ∧ a ≤ 5)) → z = -1) ∧ (¬(¬(0 ≤ a ∧ a ≤ 5)) → (¬(0 ≤ b ∧ b ≤ 300)) → z = -2) ∧ (¬(¬(0 ≤ a ∧ a ≤ 5)) → ¬(¬(0 ≤ b ∧ b ≤ 300)) → (z = 0))) ∧ ∀ a : Int, M1 a = M a)) args s 0 0 (fun q => n0 ≤ q)) 0 0 M sz 0 [(0, gA n0 0), (1, gJ a), (2, gJ b)] []
  refine g_iload_n (n := 1) X 1 dX11_heard_0 rfl rfl rfl ?_
  refine g_callSi (n := 4) (As := [gJ a]) (rest := []) (cs1 := 0) (ss1 := 0) X (c_X11_isParish a (by omega) (by omega)) okX11_isParish kw_3_26 kw_3_27 ⟨rfl, rfl⟩ ⟨Nat.le_of_ble_eq_true rfl, Nat.le_of_ble_eq_true rfl⟩ rfl rfl (Nat.le_of_ble_eq_true rfl) ⟨Nat.le_of_ble_eq_true rfl, Nat.le_of_ble_eq_true rfl⟩ rfl rfl dX11_heard_1 rfl (fun z1 M2 P3 => ?_)
  obtain ⟨rfl, P3⟩ := P3
  refine g_if_ne (n := 7) (tgt := 9) X dX11_heard_4 (by decide) (by omega) rfl (fun c4 => ?_) (fun c4 => ?_)
  · refine g_iload_n (n := 10) X 2 dX11_heard_9 rfl rfl rfl ?_
    refine g_iconst (n := 11) X dX11_heard_10 rfl ?_
    refine g_sipush (n := 14) X dX11_heard_11 (by decide +kernel) rfl ?_
    refine g_callSi (n := 17) (As := [gJ b, gJ 0, gJ 300]) (rest := []) (cs1 := 0) (ss1 := 0) X (c_X11_within b 0 300 (by omega) (by omega) (by omega) (by omega)) okX11_within kw_3_29 kw_3_30 ⟨rfl, rfl⟩ ⟨Nat.le_of_ble_eq_true rfl, Nat.le_of_ble_eq_true rfl⟩ rfl rfl (Nat.le_of_ble_eq_true rfl) ⟨Nat.le_of_ble_eq_true rfl, Nat.le_of_ble_eq_true rfl⟩ rfl rfl dX11_heard_14 rfl (fun z5 M6 P7 => ?_)
    obtain ⟨rfl, P7⟩ := P7
    refine g_if_ne (n := 20) (tgt := 23) X dX11_heard_17 (by decide) (by omega) rfl (fun c8 => ?_) (fun c8 => ?_)
    · refine g_aload_n (n := 24) X 0 dX11_heard_23 rfl rfl rfl ?_
      refine gg_11_0 (n := 27) (z := 1) X (by omega) (by omega) lay_0 kw_2_231 dX11_heard_24 rfl f_0_0 (by omega) ?_
      refine g_iload_n (n := 28) X 1 dX11_heard_27 rfl rfl rfl ?_
      refine g_iload_n (n := 29) X 2 dX11_heard_28 rfl rfl rfl ?_
      refine g_callVi (n := 32) (As := [gJ a, gJ b]) (rest := []) (cs1 := 0) (ss1 := 0) X (c_X9_newsIn a b (by omega) (by omega) (by omega) f_1_0 f_2_1 f_1_15 f_1_7 f_23_0 (by omega) way) okX9_newsIn kw_4_171 ⟨kw_4_172, kw_4_173⟩ ⟨rfl, rfl⟩ ⟨Nat.le_of_ble_eq_true rfl, Nat.le_of_ble_eq_true rfl⟩ rfl (by omega) (by omega) lay_1 rfl rfl (Nat.le_of_ble_eq_true rfl) ⟨Nat.le_of_ble_eq_true rfl, Nat.le_of_ble_eq_true rfl⟩ rfl rfl dX11_heard_29 rfl (fun z9 M10 P11 => ?_)
      obtain ⟨rfl, rfl⟩ := P11
      exact g_ireturn X hr dX11_heard_32 (by exact ⟨by omega, fun a  => rfl⟩)
    · refine g_bipush (n := 22) X dX11_heard_20 (by decide +kernel) rfl ?_
      exact g_ireturn X hr dX11_heard_22 (by exact ⟨by omega, fun a  => rfl⟩)
  · refine g_iconst (n := 8) X dX11_heard_7 rfl ?_
    exact g_ireturn X hr dX11_heard_8 (by exact ⟨by omega, fun a  => rfl⟩)
end
section
set_option maxRecDepth 100000 in
set_option maxHeartbeats 4000000 in
theorem c_X3_distanceG {l : Launch} {n0 : Nat} {D : va_G} {cA : Nat → ClassId} {M : gM} (a b : Int) (r_a : -2147483648 ≤ a ∧ a ≤ 2147483647) (r_b : -2147483648 ≤ b ∧ b ≤ 2147483647) {sz : Nat} (hsz : 206 ≤ sz) (f_2_1 : M 2 1 = 5) (hab : 0 ≤ a ∧ a ≤ 5 ∧ 0 ≤ b ∧ b ≤ 5) : Met l yX3_distance (gWsOf yX3_distance cX3_distance 3 (Option.some Jvm.ClassFile.FieldType.int)) { frames := 0, cells := 0, slots := 0, locals := 0 } (gPc n0 D cA [gA n0 2, gJ a, gJ b] M sz) (gQi n0 D cA sz (fun z M1 => M = M1 ∧ (z = M 4 (a * 6 + b)))) 0 0 (fun q => n0 ≤ q) := by
  refine gMet_of [gA n0 2, gJ a, gJ b] (by decide) (Nat.le_of_ble_eq_true rfl) ?_
  intro p e s m args below meth cd X hr hm
  have X : gCx p s m args meth cd n0 D cA "ParishUnion$Land" cX3_distance 3 := X
  show G p l e ({ frames := 0, cells := 0, slots := 0, locals := 0 } : Room) s m args below meth cd n0 D cA 3 (MQ below (gQi n0 D cA sz (fun z M1 => M = M1 ∧ (z = M 4 (a * 6 + b)))) args s 0 0 (fun q => n0 ≤ q)) 0 0 M sz 0 [(0, gA n0 2), (1, gJ a), (2, gJ b)] []
  refine g_aload_n (n := 1) X 0 dX3_distance_0 rfl rfl rfl ?_
  refine gg_3_1 (n := 4) (z := 4) X (by omega) (by omega) lay_2 kw_1_43 dX3_distance_1 rfl f_2_1 (by omega) ?_
  refine g_iload_n (n := 5) X 1 dX3_distance_4 rfl rfl rfl ?_
  refine g_bipush (n := 7) X dX3_distance_5 (by decide +kernel) rfl ?_
  refine g_imul (n := 8) (z := a * 6) X dX3_distance_7 rfl rfl ?_
  refine g_iload_n (n := 9) X 2 dX3_distance_8 rfl rfl rfl ?_
  refine g_iadd (n := 10) (z := (a * 6) + b) X dX3_distance_9 rfl rfl ?_
  refine g_iald (n := 11) X (by omega) (by omega) lay_4 (by omega) (by omega) (by omega) dX3_distance_10 rfl ?_
  exact g_ireturn X hr dX3_distance_11 (by exact ⟨rfl, by rfl⟩)
theorem dX3_layRoad_0 : decode cX3_layRoad 0 = .ok (.iconst 0, 1) := by decide +kernel
theorem dX3_layRoad_1 : decode cX3_layRoad 1 = .ok (.istore 4, 2) := by decide +kernel
theorem dX3_layRoad_3 : decode cX3_layRoad 3 = .ok (.iconst 0, 1) := by decide +kernel
theorem dX3_layRoad_4 : decode cX3_layRoad 4 = .ok (.istore 5, 2) := by decide +kernel
theorem dX3_layRoad_6 : decode cX3_layRoad 6 = .ok (.iload 5, 2) := by decide +kernel
theorem dX3_layRoad_8 : decode cX3_layRoad 8 = .ok (.bipush 6, 2) := by decide +kernel
theorem dX3_layRoad_10 : decode cX3_layRoad 10 = .ok (.if_icmp .ge 95, 3) := by decide +kernel
theorem dX3_layRoad_105 : decode cX3_layRoad 105 = .ok (.iload 4, 2) := by decide +kernel
theorem dX3_layRoad_107 : decode cX3_layRoad 107 = .ok (.ireturn, 1) := by decide +kernel
theorem dX3_layRoad_13 : decode cX3_layRoad 13 = .ok (.iconst 0, 1) := by decide +kernel
theorem dX3_layRoad_14 : decode cX3_layRoad 14 = .ok (.istore 6, 2) := by decide +kernel
theorem dX3_layRoad_16 : decode cX3_layRoad 16 = .ok (.iload 6, 2) := by decide +kernel
theorem dX3_layRoad_18 : decode cX3_layRoad 18 = .ok (.bipush 6, 2) := by decide +kernel
theorem dX3_layRoad_20 : decode cX3_layRoad 20 = .ok (.if_icmp .ge 79, 3) := by decide +kernel
theorem dX3_layRoad_99 : decode cX3_layRoad 99 = .ok (.iinc 5 1, 3) := by decide +kernel
theorem dX3_layRoad_102 : decode cX3_layRoad 102 = .ok (.goto (-96), 3) := by decide +kernel
theorem dX3_layRoad_23 : decode cX3_layRoad 23 = .ok (.aload_n 0, 1) := by decide +kernel
theorem dX3_layRoad_24 : decode cX3_layRoad 24 = .ok (.iload 5, 2) := by decide +kernel
theorem dX3_layRoad_26 : decode cX3_layRoad 26 = .ok (.iload_n 1, 1) := by decide +kernel
theorem dX3_layRoad_27 : decode cX3_layRoad 27 = .ok (.invokevirtual 24, 3) := by decide +kernel
theorem kw_3_40 : (Jvm.Cond.methodLink "ParishUnion$Land" (24 : Nat) ({ cls := "ParishUnion$Land", name := "distance", desc := "(II)I" } : Jvm.MethodName)) ∈ gT := gT_of (tb_3 _ (List.mem_of_getElem? (i := 40) rfl)) rfl
theorem dX3_layRoad_30 : decode cX3_layRoad 30 = .ok (.iload_n 3, 1) := by decide +kernel
theorem dX3_layRoad_31 : decode cX3_layRoad 31 = .ok (.iadd, 1) := by decide +kernel
theorem dX3_layRoad_32 : decode cX3_layRoad 32 = .ok (.aload_n 0, 1) := by decide +kernel
theorem dX3_layRoad_33 : decode cX3_layRoad 33 = .ok (.iload_n 2, 1) := by decide +kernel
theorem dX3_layRoad_34 : decode cX3_layRoad 34 = .ok (.iload 6, 2) := by decide +kernel
theorem dX3_layRoad_36 : decode cX3_layRoad 36 = .ok (.invokevirtual 24, 3) := by decide +kernel
theorem dX3_layRoad_39 : decode cX3_layRoad 39 = .ok (.iadd, 1) := by decide +kernel
theorem dX3_layRoad_40 : decode cX3_layRoad 40 = .ok (.aload_n 0, 1) := by decide +kernel
theorem dX3_layRoad_41 : decode cX3_layRoad 41 = .ok (.iload 5, 2) := by decide +kernel
theorem dX3_layRoad_43 : decode cX3_layRoad 43 = .ok (.iload_n 2, 1) := by decide +kernel
theorem dX3_layRoad_44 : decode cX3_layRoad 44 = .ok (.invokevirtual 24, 3) := by decide +kernel
theorem dX3_layRoad_47 : decode cX3_layRoad 47 = .ok (.iload_n 3, 1) := by decide +kernel
theorem dX3_layRoad_48 : decode cX3_layRoad 48 = .ok (.iadd, 1) := by decide +kernel
theorem dX3_layRoad_49 : decode cX3_layRoad 49 = .ok (.aload_n 0, 1) := by decide +kernel
theorem dX3_layRoad_50 : decode cX3_layRoad 50 = .ok (.iload_n 1, 1) := by decide +kernel
theorem dX3_layRoad_51 : decode cX3_layRoad 51 = .ok (.iload 6, 2) := by decide +kernel
theorem dX3_layRoad_53 : decode cX3_layRoad 53 = .ok (.invokevirtual 24, 3) := by decide +kernel
theorem dX3_layRoad_56 : decode cX3_layRoad 56 = .ok (.iadd, 1) := by decide +kernel
theorem dX3_layRoad_57 : decode cX3_layRoad 57 = .ok (.invokestatic 28, 3) := by decide +kernel
theorem kw_3_44 : (Jvm.Cond.methodLink "ParishUnion$Land" (28 : Nat) ({ cls := "java/lang/Math", name := "min", desc := "(II)I" } : Jvm.MethodName)) ∈ gT := gT_of (tb_3 _ (List.mem_of_getElem? (i := 44) rfl)) rfl
theorem dX3_layRoad_60 : decode cX3_layRoad 60 = .ok (.istore 7, 2) := by decide +kernel
theorem dX3_layRoad_62 : decode cX3_layRoad 62 = .ok (.iload 7, 2) := by decide +kernel
theorem dX3_layRoad_64 : decode cX3_layRoad 64 = .ok (.aload_n 0, 1) := by decide +kernel
theorem dX3_layRoad_65 : decode cX3_layRoad 65 = .ok (.iload 5, 2) := by decide +kernel
theorem dX3_layRoad_67 : decode cX3_layRoad 67 = .ok (.iload 6, 2) := by decide +kernel
theorem dX3_layRoad_69 : decode cX3_layRoad 69 = .ok (.invokevirtual 24, 3) := by decide +kernel
theorem dX3_layRoad_72 : decode cX3_layRoad 72 = .ok (.if_icmp .ge 21, 3) := by decide +kernel
theorem dX3_layRoad_93 : decode cX3_layRoad 93 = .ok (.iinc 6 1, 3) := by decide +kernel
theorem dX3_layRoad_96 : decode cX3_layRoad 96 = .ok (.goto (-80), 3) := by decide +kernel
theorem dX3_layRoad_75 : decode cX3_layRoad 75 = .ok (.aload_n 0, 1) := by decide +kernel
theorem dX3_layRoad_76 : decode cX3_layRoad 76 = .ok (.getfield 15, 3) := by decide +kernel
theorem dX3_layRoad_79 : decode cX3_layRoad 79 = .ok (.iload 5, 2) := by decide +kernel
theorem dX3_layRoad_81 : decode cX3_layRoad 81 = .ok (.bipush 6, 2) := by decide +kernel
theorem dX3_layRoad_83 : decode cX3_layRoad 83 = .ok (.imul, 1) := by decide +kernel
theorem dX3_layRoad_84 : decode cX3_layRoad 84 = .ok (.iload 6, 2) := by decide +kernel
theorem dX3_layRoad_86 : decode cX3_layRoad 86 = .ok (.iadd, 1) := by decide +kernel
theorem dX3_layRoad_87 : decode cX3_layRoad 87 = .ok (.iload 7, 2) := by decide +kernel
theorem dX3_layRoad_89 : decode cX3_layRoad 89 = .ok (.iastore, 1) := by decide +kernel
theorem dX3_layRoad_90 : decode cX3_layRoad 90 = .ok (.iconst 1, 1) := by decide +kernel
theorem dX3_layRoad_91 : decode cX3_layRoad 91 = .ok (.istore 4, 2) := by decide +kernel
set_option maxRecDepth 100000 in
set_option maxHeartbeats 4000000 in
theorem c_X3_layRoad {l : Launch} {n0 : Nat} {D : va_G} {cA : Nat → ClassId} {M : gM} (a b g : Int) (r_a : -2147483648 ≤ a ∧ a ≤ 2147483647) (r_b : -2147483648 ≤ b ∧ b ≤ 2147483647) (r_g : -2147483648 ≤ g ∧ g ≤ 2147483647) {sz : Nat} (hsz : 206 ≤ sz) (f_2_1 : M 2 1 = 5) (hab : 0 ≤ a ∧ a ≤ 5 ∧ 0 ≤ b ∧ b ≤ 5 ∧ ¬ a = b ∧ 1 ≤ g ∧ g ≤ 9) (way : ∀ i : Int, 0 ≤ i → i < 36 → (i % 7 = 0 → M 4 i = 0) ∧ (¬ i % 7 = 0 → M 4 i = 99)) : Met l yX3_layRoad (gWsOf yX3_layRoad cX3_layRoad 8 (Option.some Jvm.ClassFile.FieldType.boolean)) { frames := 4, cells := 0, slots := 0, locals := 120 } (gPc n0 D cA [gA n0 2, gJ a, gJ b, gJ g] M sz) (gQi n0 D cA sz (fun z M1 => (z = 1) ∧ ∀ a : Int, a ≠ 4 → M1 a = M a)) 0 0 (fun q => n0 ≤ q) := by
  refine gMet_of [gA n0 2, gJ a, gJ b, gJ g] (by decide) (Nat.le_of_ble_eq_true rfl) ?_
  intro p e s m args below meth cd X hr hm
  have X : gCx p s m args meth cd n0 D cA "ParishUnion$Land" cX3_layRoad 8 := X
  show G p l e ({ frames := 4, cells := 0, slots := 0, locals := 120 } : Room) s m args below meth cd n0 D cA 8 (MQ below (gQi n0 D cA sz (fun z M1 => (z = 1) ∧ ∀ a : Int, a ≠ 4 → M1 a = M a)) args s 0 0 (fun q => n0 ≤ q)) 0 0 M sz 0 [(0, gA n0 2), (1, gJ a), (2, gJ b), (3, gJ g)] []
  refine g_iconst (n := 1) X dX3_layRoad_0 rfl ?_
  refine g_istore (n := 3) (L' := [(4, gJ 0), (0, gA n0 2), (1, gJ a), (2, gJ b), (3, gJ g)]) X dX3_layRoad_1 (by decide) rfl rfl ?_
  refine g_iconst (n := 4) X dX3_layRoad_3 rfl ?_
  refine g_istore (n := 6) (L' := [(5, gJ 0), (4, gJ 0), (0, gA n0 2), (1, gJ a), (2, gJ b), (3, gJ g)]) X dX3_layRoad_4 (by decide) rfl rfl ?_
  have loop1 : ∀ (N3 : Nat) (ch fr : Int) (M5 : gM), (∀ a : Int, a ≠ 4 → M5 a = M a) → (∀ i : Int, 0 ≤ i → i < 36 → 0 ≤ M5 4 i ∧ M5 4 i ≤ 99) → (∀ i : Int, 0 ≤ i → i < 36 → i % 7 = 0 → M5 4 i = 0) → ((ch = 0 ∨ ch = 1) ∧ (a * 6 + b < fr * 6 → ch = 1) ∧ (fr * 6 ≤ a * 6 + b → M5 4 (a * 6 + b) = 99 ∨ ch = 1)) → (0 ≤ fr ∧ fr ≤ 6) → (6 - fr).toNat < N3 → G p l e ({ frames := 4, cells := 0, slots := 0, locals := 120 } : Room) s m args below meth cd n0 D cA 8 (MQ below (gQi n0 D cA sz (fun z M1 => (z = 1) ∧ ∀ a : Int, a ≠ 4 → M1 a = M a)) args s 0 0 (fun q => n0 ≤ q)) 0 0 M5 sz 6 [(0, gA n0 2), (1, gJ a), (2, gJ b), (3, gJ g), (4, gJ ch), (5, gJ fr)] [] := by
    intro N3; induction N3 with
    | zero => intro ch fr M5 F6 iw idg ich ifr hm4; exfalso; omega
    | succ N3 ih2 =>
      intro ch fr M5 F6 iw idg ich ifr hm4
      refine g_iload (n := 8) X 5 dX3_layRoad_6 rfl rfl ?_
      refine g_bipush (n := 10) X dX3_layRoad_8 (by decide +kernel) rfl ?_
      refine g_icmp_ge (n := 13) (tgt := 105) X dX3_layRoad_10 (by decide) (by omega) (by omega) rfl (fun c7 => ?_) (fun c7 => ?_)
      · refine g_iload (n := 107) X 4 dX3_layRoad_105 rfl rfl ?_
        exact g_zreturn X (by omega) hr dX3_layRoad_107 (by exact ⟨by omega, fun a h0 => ((F6 a (by omega)).trans rfl)⟩)
      · refine g_iconst (n := 14) X dX3_layRoad_13 rfl ?_
        refine g_istore (n := 16) (L' := [(6, gJ 0), (0, gA n0 2), (1, gJ a), (2, gJ b), (3, gJ g), (4, gJ ch), (5, gJ fr)]) X dX3_layRoad_14 (by decide) rfl rfl ?_
        have loop8 : ∀ (N10 : Nat) (ch to : Int) (M12 : gM), (∀ a : Int, a ≠ 4 → M12 a = M5 a) → (∀ i : Int, 0 ≤ i → i < 36 → 0 ≤ M12 4 i ∧ M12 4 i ≤ 99) → (∀ i : Int, 0 ≤ i → i < 36 → i % 7 = 0 → M12 4 i = 0) → ((ch = 0 ∨ ch = 1) ∧ (a * 6 + b < fr * 6 + to → ch = 1) ∧ (fr * 6 + to ≤ a * 6 + b → M12 4 (a * 6 + b) = 99 ∨ ch = 1)) → (0 ≤ to ∧ to ≤ 6) → (6 - to).toNat < N10 → G p l e ({ frames := 4, cells := 0, slots := 0, locals := 120 } : Room) s m args below meth cd n0 D cA 8 (MQ below (gQi n0 D cA sz (fun z M1 => (z = 1) ∧ ∀ a : Int, a ≠ 4 → M1 a = M a)) args s 0 0 (fun q => n0 ≤ q)) 0 0 M12 sz 16 [(0, gA n0 2), (1, gJ a), (2, gJ b), (3, gJ g), (4, gJ ch), (5, gJ fr), (6, gJ to)] [] := by
          intro N10; induction N10 with
          | zero => intro ch to M12 F13 iw idg ich ito hm11; exfalso; omega
          | succ N10 ih9 =>
            intro ch to M12 F13 iw idg ich ito hm11
            refine g_iload (n := 18) X 6 dX3_layRoad_16 rfl rfl ?_
            refine g_bipush (n := 20) X dX3_layRoad_18 (by decide +kernel) rfl ?_
            refine g_icmp_ge (n := 23) (tgt := 99) X dX3_layRoad_20 (by decide) (by omega) (by omega) rfl (fun c14 => ?_) (fun c14 => ?_)
            · refine g_iinc (n := 102) (w := fr + 1) (L' := [(5, gJ (fr + 1)), (0, gA n0 2), (1, gJ a), (2, gJ b), (3, gJ g), (4, gJ ch), (6, gJ to)]) X 5 dX3_layRoad_99 rfl rfl (by decide) rfl rfl ?_
              refine g_goto (tgt := 6) X dX3_layRoad_102 (by decide) ?_
              refine G.sub (L' := [(0, gA n0 2), (1, gJ a), (2, gJ b), (3, gJ g), (4, gJ ch), (5, gJ (fr + 1))]) [1, 2, 3, 4, 5, 0] rfl ?_
              exact ih2 ch (fr + 1) M12 (fun a h0 => ((F13 a (by omega)).trans ((F6 a (by omega)).trans rfl))) (by exact iw) (by exact idg) (by omega) (by omega) (by omega)
            · refine g_aload_n (n := 24) X 0 dX3_layRoad_23 rfl rfl rfl ?_
              refine g_iload (n := 26) X 5 dX3_layRoad_24 rfl rfl ?_
              refine g_iload_n (n := 27) X 1 dX3_layRoad_26 rfl rfl rfl ?_
              refine g_callVi (n := 30) (As := [gJ fr, gJ a]) (rest := []) (cs1 := 0) (ss1 := 0) X (c_X3_distanceG fr a (by omega) (by omega) (by omega) ((congrFun (F13 2 (by omega)) _).trans ((congrFun (F6 2 (by omega)) _).trans f_2_1)) (by omega)) okX3_distance kw_3_40 ⟨kw_3_41, kw_3_42⟩ ⟨rfl, rfl⟩ ⟨Nat.le_of_ble_eq_true rfl, Nat.le_of_ble_eq_true rfl⟩ rfl (by omega) (by omega) lay_2 rfl rfl (Nat.le_of_ble_eq_true rfl) ⟨Nat.le_of_ble_eq_true rfl, Nat.le_of_ble_eq_true rfl⟩ rfl rfl dX3_layRoad_27 rfl (fun z15 M16 P17 => ?_)
              obtain ⟨rfl, P17⟩ := P17
              refine g_iload_n (n := 31) X 3 dX3_layRoad_30 rfl rfl rfl ?_
              refine g_iadd (n := 32) (z := z15 + g) X dX3_layRoad_31 rfl rfl ?_
              refine g_aload_n (n := 33) X 0 dX3_layRoad_32 rfl rfl rfl ?_
              refine g_iload_n (n := 34) X 2 dX3_layRoad_33 rfl rfl rfl ?_
              refine g_iload (n := 36) X 6 dX3_layRoad_34 rfl rfl ?_
              refine g_callVi (n := 39) (As := [gJ b, gJ to]) (rest := [gJ (z15 + g)]) (cs1 := 0) (ss1 := 0) X (c_X3_distanceG b to (by omega) (by omega) (by omega) ((congrFun (F13 2 (by omega)) _).trans ((congrFun (F6 2 (by omega)) _).trans f_2_1)) (by omega)) okX3_distance kw_3_40 ⟨kw_3_41, kw_3_42⟩ ⟨rfl, rfl⟩ ⟨Nat.le_of_ble_eq_true rfl, Nat.le_of_ble_eq_true rfl⟩ rfl (by omega) (by omega) lay_2 rfl rfl (Nat.le_of_ble_eq_true rfl) ⟨Nat.le_of_ble_eq_true rfl, Nat.le_of_ble_eq_true rfl⟩ rfl rfl dX3_layRoad_36 rfl (fun z18 M19 P20 => ?_)
              obtain ⟨rfl, P20⟩ := P20
              refine g_iadd (n := 40) (z := (z15 + g) + z18) X dX3_layRoad_39 rfl rfl ?_
              refine g_aload_n (n := 41) X 0 dX3_layRoad_40 rfl rfl rfl ?_
              refine g_iload (n := 43) X 5 dX3_layRoad_41 rfl rfl ?_
              refine g_iload_n (n := 44) X 2 dX3_layRoad_43 rfl rfl rfl ?_
              refine g_callVi (n := 47) (As := [gJ fr, gJ b]) (rest := [gJ ((z15 + g) + z18)]) (cs1 := 0) (ss1 := 0) X (c_X3_distanceG fr b (by omega) (by omega) (by omega) ((congrFun (F13 2 (by omega)) _).trans ((congrFun (F6 2 (by omega)) _).trans f_2_1)) (by omega)) okX3_distance kw_3_40 ⟨kw_3_41, kw_3_42⟩ ⟨rfl, rfl⟩ ⟨Nat.le_of_ble_eq_true rfl, Nat.le_of_ble_eq_true rfl⟩ rfl (by omega) (by omega) lay_2 rfl rfl (Nat.le_of_ble_eq_true rfl) ⟨Nat.le_of_ble_eq_true rfl, Nat.le_of_ble_eq_true rfl⟩ rfl rfl dX3_layRoad_44 rfl (fun z21 M22 P23 => ?_)
              obtain ⟨rfl, P23⟩ := P23
              refine g_iload_n (n := 48) X 3 dX3_layRoad_47 rfl rfl rfl ?_
              refine g_iadd (n := 49) (z := z21 + g) X dX3_layRoad_48 rfl rfl ?_
              refine g_aload_n (n := 50) X 0 dX3_layRoad_49 rfl rfl rfl ?_
              refine g_iload_n (n := 51) X 1 dX3_layRoad_50 rfl rfl rfl ?_
              refine g_iload (n := 53) X 6 dX3_layRoad_51 rfl rfl ?_
              refine g_callVi (n := 56) (As := [gJ a, gJ to]) (rest := [gJ (z21 + g), gJ ((z15 + g) + z18)]) (cs1 := 0) (ss1 := 0) X (c_X3_distanceG a to (by omega) (by omega) (by omega) ((congrFun (F13 2 (by omega)) _).trans ((congrFun (F6 2 (by omega)) _).trans f_2_1)) (by omega)) okX3_distance kw_3_40 ⟨kw_3_41, kw_3_42⟩ ⟨rfl, rfl⟩ ⟨Nat.le_of_ble_eq_true rfl, Nat.le_of_ble_eq_true rfl⟩ rfl (by omega) (by omega) lay_2 rfl rfl (Nat.le_of_ble_eq_true rfl) ⟨Nat.le_of_ble_eq_true rfl, Nat.le_of_ble_eq_true rfl⟩ rfl rfl dX3_layRoad_53 rfl (fun z24 M25 P26 => ?_)
              obtain ⟨rfl, P26⟩ := P26
              refine g_iadd (n := 57) (z := (z21 + g) + z24) X dX3_layRoad_56 rfl rfl ?_
              have kfra := iw (fr * 6 + a) (by omega) (by omega)
              have kbto := iw (b * 6 + to) (by omega) (by omega)
              have kfrb := iw (fr * 6 + b) (by omega) (by omega)
              have kato := iw (a * 6 + to) (by omega) (by omega)
              have kfrto := iw (fr * 6 + to) (by omega) (by omega)
              have ke : fr * 6 + to = a * 6 + b → M12 4 (fr * 6 + to) = M12 4 (a * 6 + b) := fun h => by rw [h]
              have kd1 : fr = a → M12 4 (fr * 6 + a) = 0 := fun h => idg (fr * 6 + a) (by omega) (by omega) (by omega)
              have kd2 : b = to → M12 4 (b * 6 + to) = 0 := fun h => idg (b * 6 + to) (by omega) (by omega) (by omega)
              refine g_mmin (n := 60) X kw_3_44 kw_3_45 kw_1_14 kw_3_46 (by omega) (by omega) (Nat.le_of_ble_eq_true rfl) (Nat.le_of_ble_eq_true rfl) (Nat.le_of_ble_eq_true rfl) (Nat.le_of_ble_eq_true rfl) dX3_layRoad_57 rfl (fun x27 hx27 => ?_)
              refine g_istore (n := 62) (L' := [(7, gJ x27), (0, gA n0 2), (1, gJ a), (2, gJ b), (3, gJ g), (4, gJ ch), (5, gJ fr), (6, gJ to)]) X dX3_layRoad_60 (by decide) rfl rfl ?_
              refine g_iload (n := 64) X 0 dX3_layRoad_62 rfl rfl ?_
              refine g_aload_n (n := 65) X 1 dX3_layRoad_64 rfl rfl rfl ?_
              refine g_iload (n := 67) X 6 dX3_layRoad_65 rfl rfl ?_
              refine g_iload (n := 69) X 7 dX3_layRoad_67 rfl rfl ?_
              refine g_callVi (n := 72) (As := [gJ fr, gJ to]) (rest := [gJ x27]) (cs1 := 0) (ss1 := 0) X (c_X3_distanceG fr to (by omega) (by omega) (by omega) ((congrFun (F13 2 (by omega)) _).trans ((congrFun (F6 2 (by omega)) _).trans f_2_1)) (by omega)) okX3_distance kw_3_40 ⟨kw_3_41, kw_3_42⟩ ⟨rfl, rfl⟩ ⟨Nat.le_of_ble_eq_true rfl, Nat.le_of_ble_eq_true rfl⟩ rfl (by omega) (by omega) lay_2 rfl rfl (Nat.le_of_ble_eq_true rfl) ⟨Nat.le_of_ble_eq_true rfl, Nat.le_of_ble_eq_true rfl⟩ rfl rfl dX3_layRoad_69 rfl (fun z28 M29 P30 => ?_)
              obtain ⟨rfl, P30⟩ := P30
              refine g_icmp_ge (n := 75) (tgt := 93) X dX3_layRoad_72 (by decide) (by omega) (by omega) rfl (fun c31 => ?_) (fun c31 => ?_)
              · refine g_iinc (n := 96) (w := to + 1) (L' := [(6, gJ (to + 1)), (7, gJ x27), (0, gA n0 2), (1, gJ a), (2, gJ b), (3, gJ g), (4, gJ ch), (5, gJ fr)]) X 7 dX3_layRoad_93 rfl rfl (by decide) rfl rfl ?_
                refine g_goto (tgt := 16) X dX3_layRoad_96 (by decide) ?_
                refine G.sub (L' := [(0, gA n0 2), (1, gJ a), (2, gJ b), (3, gJ g), (4, gJ ch), (5, gJ fr), (6, gJ (to + 1))]) [2, 3, 4, 5, 6, 7, 0] rfl ?_
                exact ih9 ch (to + 1) M12 (fun a h0 => ((F13 a (by omega)).trans rfl)) (by exact iw) (by exact idg) (by omega) (by omega) (by omega)
              · refine g_aload_n (n := 76) X 1 dX3_layRoad_75 rfl rfl rfl ?_
                refine gg_3_1 (n := 79) (z := 4) X (by omega) (by omega) lay_2 kw_1_43 dX3_layRoad_76 rfl ((congrFun (F13 2 (by omega)) _).trans ((congrFun (F6 2 (by omega)) _).trans f_2_1)) (by omega) ?_
                refine g_iload (n := 81) X 6 dX3_layRoad_79 rfl rfl ?_
                refine g_bipush (n := 83) X dX3_layRoad_81 (by decide +kernel) rfl ?_
                refine g_imul (n := 84) (z := fr * 6) X dX3_layRoad_83 rfl rfl ?_
                refine g_iload (n := 86) X 7 dX3_layRoad_84 rfl rfl ?_
                refine g_iadd (n := 87) (z := (fr * 6) + to) X dX3_layRoad_86 rfl rfl ?_
                refine g_iload (n := 89) X 0 dX3_layRoad_87 rfl rfl ?_
                refine g_iast (n := 90) X (by omega) (by omega) lay_4 (by omega) (by omega) (by omega) dX3_layRoad_89 rfl ?_
                refine G.nm (fun M32 e33 => ?_)
                refine g_iconst (n := 91) X dX3_layRoad_90 rfl ?_
                refine g_istore (n := 93) (L' := [(4, gJ 1), (7, gJ x27), (0, gA n0 2), (1, gJ a), (2, gJ b), (3, gJ g), (5, gJ fr), (6, gJ to)]) X dX3_layRoad_91 (by decide) rfl rfl ?_
                refine g_iinc (n := 96) (w := to + 1) (L' := [(6, gJ (to + 1)), (4, gJ 1), (7, gJ x27), (0, gA n0 2), (1, gJ a), (2, gJ b), (3, gJ g), (5, gJ fr)]) X 7 dX3_layRoad_93 rfl rfl (by decide) rfl rfl ?_
                refine g_goto (tgt := 16) X dX3_layRoad_96 (by decide) ?_
                refine G.sub (L' := [(0, gA n0 2), (1, gJ a), (2, gJ b), (3, gJ g), (4, gJ 1), (5, gJ fr), (6, gJ (to + 1))]) [3, 4, 5, 6, 1, 7, 0] rfl ?_
                exact ih9 1 (to + 1) M32 (fun a h0 => ((congrFun e33 a).trans ((gset_off a (by omega)).trans ((F13 a (by omega)).trans rfl)))) (by intro i h0 h1; rw [e33, gset_at]; have := iw i h0 h1; split <;> omega) (by intro i h0 h1 h2; have kq := idg i h0 h1 h2; rw [e33, gset_at]; split; (rename_i hh; rw [hh.2] at kq; omega); exact kq) (by rw [e33, gset_at]; split <;> omega) (by omega) (by omega)
        refine G.sub (L' := [(0, gA n0 2), (1, gJ a), (2, gJ b), (3, gJ g), (4, gJ ch), (5, gJ fr), (6, gJ 0)]) [1, 2, 3, 4, 5, 6, 0] rfl ?_
        exact loop8 _ ch 0 M5 (fun a _ => rfl) (by exact iw) (by exact idg) (by omega) (by omega) (Nat.lt_succ_self _)
  refine G.sub (L' := [(0, gA n0 2), (1, gJ a), (2, gJ b), (3, gJ g), (4, gJ 0), (5, gJ 0)]) [2, 3, 4, 5, 1, 0] rfl ?_
  exact loop1 _ 0 0 M (fun a _ => rfl) (by intro i h0 h1; have := way i h0 h1; omega) (by intro i h0 h1 h2; have := way i h0 h1; omega) (by have := way (a * 6 + b) (by omega) (by omega); omega) (by omega) (Nat.lt_succ_self _)
theorem dX11_road_0 : decode cX11_road 0 = .ok (.iload_n 1, 1) := by decide +kernel
theorem dX11_road_1 : decode cX11_road 1 = .ok (.invokestatic 58, 3) := by decide +kernel
theorem dX11_road_4 : decode cX11_road 4 = .ok (.ifCond .eq 10, 3) := by decide +kernel
theorem dX11_road_14 : decode cX11_road 14 = .ok (.iconst (-1), 1) := by decide +kernel
theorem dX11_road_15 : decode cX11_road 15 = .ok (.ireturn, 1) := by decide +kernel
theorem dX11_road_7 : decode cX11_road 7 = .ok (.iload_n 2, 1) := by decide +kernel
theorem dX11_road_8 : decode cX11_road 8 = .ok (.invokestatic 58, 3) := by decide +kernel
theorem dX11_road_11 : decode cX11_road 11 = .ok (.ifCond .ne 5, 3) := by decide +kernel
theorem dX11_road_16 : decode cX11_road 16 = .ok (.iload_n 1, 1) := by decide +kernel
theorem dX11_road_17 : decode cX11_road 17 = .ok (.iload_n 2, 1) := by decide +kernel
theorem dX11_road_18 : decode cX11_road 18 = .ok (.if_icmp .eq 13, 3) := by decide +kernel
theorem dX11_road_31 : decode cX11_road 31 = .ok (.bipush (-2), 2) := by decide +kernel
theorem dX11_road_33 : decode cX11_road 33 = .ok (.ireturn, 1) := by decide +kernel
theorem dX11_road_21 : decode cX11_road 21 = .ok (.iload_n 3, 1) := by decide +kernel
theorem dX11_road_22 : decode cX11_road 22 = .ok (.iconst 1, 1) := by decide +kernel
theorem dX11_road_23 : decode cX11_road 23 = .ok (.bipush 9, 2) := by decide +kernel
theorem dX11_road_25 : decode cX11_road 25 = .ok (.invokestatic 62, 3) := by decide +kernel
theorem dX11_road_28 : decode cX11_road 28 = .ok (.ifCond .ne 6, 3) := by decide +kernel
theorem dX11_road_34 : decode cX11_road 34 = .ok (.aload_n 0, 1) := by decide +kernel
theorem dX11_road_35 : decode cX11_road 35 = .ok (.getfield 10, 3) := by decide +kernel
theorem dX11_road_38 : decode cX11_road 38 = .ok (.getfield 66, 3) := by decide +kernel
theorem dX11_road_41 : decode cX11_road 41 = .ok (.iload_n 1, 1) := by decide +kernel
theorem dX11_road_42 : decode cX11_road 42 = .ok (.iload_n 2, 1) := by decide +kernel
theorem dX11_road_43 : decode cX11_road 43 = .ok (.iload_n 3, 1) := by decide +kernel
theorem dX11_road_44 : decode cX11_road 44 = .ok (.invokevirtual 75, 3) := by decide +kernel
theorem kw_3_36 : (Jvm.Cond.methodLink "ParishUnion" (75 : Nat) ({ cls := "ParishUnion$Land", name := "layRoad", desc := "(III)Z" } : Jvm.MethodName)) ∈ gT := gT_of (tb_3 _ (List.mem_of_getElem? (i := 36) rfl)) rfl
theorem kw_3_39 : (Jvm.Cond.code ({ cls := "ParishUnion$Land", name := "layRoad", desc := "(III)Z" } : Jvm.MethodName) prog_5_method_4_code (8 : Nat) (Option.some Jvm.ClassFile.FieldType.boolean)) ∈ gT := gT_of (tb_3 _ (List.mem_of_getElem? (i := 39) rfl)) rfl
theorem okX3_layRoad : gQok yX3_layRoad cX3_layRoad 8 (Option.some Jvm.ClassFile.FieldType.boolean) 3 := ⟨kw_3_39, kw_1_3, by decide +kernel, by decide +kernel, by decide +kernel⟩
theorem kw_3_37 : (Jvm.Cond.instanceMethod ({ cls := "ParishUnion$Land", name := "layRoad", desc := "(III)Z" } : Jvm.MethodName)) ∈ gT := gT_of (tb_3 _ (List.mem_of_getElem? (i := 37) rfl)) rfl
theorem kw_3_38 : (Jvm.Cond.selects "ParishUnion$Land" ({ cls := "ParishUnion$Land", name := "layRoad", desc := "(III)Z" } : Jvm.MethodName) ({ cls := "ParishUnion$Land", name := "layRoad", desc := "(III)Z" } : Jvm.MethodName)) ∈ gT := gT_of (tb_3 _ (List.mem_of_getElem? (i := 38) rfl)) rfl
theorem dX11_road_47 : decode cX11_road 47 = .ok (.ifCond .eq 7, 3) := by decide +kernel
theorem dX11_road_54 : decode cX11_road 54 = .ok (.iconst 0, 1) := by decide +kernel
theorem dX11_road_55 : decode cX11_road 55 = .ok (.ireturn, 1) := by decide +kernel
theorem dX11_road_50 : decode cX11_road 50 = .ok (.iconst 1, 1) := by decide +kernel
theorem dX11_road_51 : decode cX11_road 51 = .ok (.goto 4, 3) := by decide +kernel
set_option maxRecDepth 100000 in
set_option maxHeartbeats 4000000 in
theorem c_X11_road {l : Launch} {n0 : Nat} {D : va_G} {cA : Nat → ClassId} {M : gM} (a b g : Int) (r_a : -2147483648 ≤ a ∧ a ≤ 2147483647) (r_b : -2147483648 ≤ b ∧ b ≤ 2147483647) (r_g : -2147483648 ≤ g ∧ g ≤ 2147483647) {sz : Nat} (hsz : 206 ≤ sz) (f_0_0 : M 0 0 = 2) (f_1_0 : M 1 0 = 3) (f_2_1 : M 2 1 = 5) (way : ∀ i : Int, 0 ≤ i → i < 36 → (i % 7 = 0 → M 4 i = 0) ∧ (¬ i % 7 = 0 → M 4 i = 99)) : Met l yX11_road (gWsOf yX11_road cX11_road 4 (Option.some Jvm.ClassFile.FieldType.int)) { frames := 5, cells := 0, slots := 0, locals := 147 } (gPc n0 D cA [gA n0 0, gJ a, gJ b, gJ g] M sz) (gQi n0 D cA sz (fun z M1 => (((¬(0 ≤ a ∧ a ≤ 5) ∨ ¬(0 ≤ b ∧ b ≤ 5)) → z = -1) ∧ (¬(¬(0 ≤ a ∧ a ≤ 5) ∨ ¬(0 ≤ b ∧ b ≤ 5)) → (a = b ∨ ¬(1 ≤ g ∧ g ≤ 9)) → z = -2) ∧ (¬(¬(0 ≤ a ∧ a ≤ 5) ∨ ¬(0 ≤ b ∧ b ≤ 5)) → ¬(a = b ∨ ¬(1 ≤ g ∧ g ≤ 9)) → (z = 1))) ∧ ∀ a : Int, a ≠ 4 → M1 a = M a)) 0 0 (fun q => n0 ≤ q) := by
  refine gMet_of [gA n0 0, gJ a, gJ b, gJ g] (by decide) (Nat.le_of_ble_eq_true rfl) ?_
  intro p e s m args below meth cd X hr hm
  have X : gCx p s m args meth cd n0 D cA "ParishUnion" cX11_road 4 := X
  show G p l e ({ frames := 5, cells := 0, slots := 0, locals := 147 } : Room) s m args below meth cd n0 D cA 4 (MQ below (gQi n0 D cA sz (fun z M1 => (((¬(0 ≤ a ∧ a ≤ 5) ∨ ¬(0 ≤ b ∧ b ≤ 5)) → z = -1) ∧ (¬(¬(0 ≤ a ∧ a ≤ 5) ∨ ¬(0 ≤ b ∧ b ≤ 5)) → (a = b ∨ ¬(1 ≤ g ∧ g ≤ 9)) → z = -2) ∧ (¬(¬(0 ≤ a ∧ a ≤ 5) ∨ ¬(0 ≤ b ∧ b ≤ 5)) → ¬(a = b ∨ ¬(1 ≤ g ∧ g ≤ 9)) → (z = 1))) ∧ ∀ a : Int, a ≠ 4 → M1 a = M a)) args s 0 0 (fun q => n0 ≤ q)) 0 0 M sz 0 [(0, gA n0 0), (1, gJ a), (2, gJ b), (3, gJ g)] []
  refine g_iload_n (n := 1) X 1 dX11_road_0 rfl rfl rfl ?_
  refine g_callSi (n := 4) (As := [gJ a]) (rest := []) (cs1 := 0) (ss1 := 0) X (c_X11_isParish a (by omega) (by omega)) okX11_isParish kw_3_26 kw_3_27 ⟨rfl, rfl⟩ ⟨Nat.le_of_ble_eq_true rfl, Nat.le_of_ble_eq_true rfl⟩ rfl rfl (Nat.le_of_ble_eq_true rfl) ⟨Nat.le_of_ble_eq_true rfl, Nat.le_of_ble_eq_true rfl⟩ rfl rfl dX11_road_1 rfl (fun z1 M2 P3 => ?_)
  obtain ⟨rfl, P3⟩ := P3
  refine g_if_eq (n := 7) (tgt := 14) X dX11_road_4 (by decide) (by omega) rfl (fun c4 => ?_) (fun c4 => ?_)
  · refine g_iconst (n := 15) X dX11_road_14 rfl ?_
    exact g_ireturn X hr dX11_road_15 (by exact ⟨by omega, fun a h0 => rfl⟩)
  · refine g_iload_n (n := 8) X 2 dX11_road_7 rfl rfl rfl ?_
    refine g_callSi (n := 11) (As := [gJ b]) (rest := []) (cs1 := 0) (ss1 := 0) X (c_X11_isParish b (by omega) (by omega)) okX11_isParish kw_3_26 kw_3_27 ⟨rfl, rfl⟩ ⟨Nat.le_of_ble_eq_true rfl, Nat.le_of_ble_eq_true rfl⟩ rfl rfl (Nat.le_of_ble_eq_true rfl) ⟨Nat.le_of_ble_eq_true rfl, Nat.le_of_ble_eq_true rfl⟩ rfl rfl dX11_road_8 rfl (fun z5 M6 P7 => ?_)
    obtain ⟨rfl, P7⟩ := P7
    refine g_if_ne (n := 14) (tgt := 16) X dX11_road_11 (by decide) (by omega) rfl (fun c8 => ?_) (fun c8 => ?_)
    · refine g_iload_n (n := 17) X 1 dX11_road_16 rfl rfl rfl ?_
      refine g_iload_n (n := 18) X 2 dX11_road_17 rfl rfl rfl ?_
      refine g_icmp_eq (n := 21) (tgt := 31) X dX11_road_18 (by decide) (by omega) (by omega) rfl (fun c9 => ?_) (fun c9 => ?_)
      · refine g_bipush (n := 33) X dX11_road_31 (by decide +kernel) rfl ?_
        exact g_ireturn X hr dX11_road_33 (by exact ⟨by omega, fun a h0 => rfl⟩)
      · refine g_iload_n (n := 22) X 3 dX11_road_21 rfl rfl rfl ?_
        refine g_iconst (n := 23) X dX11_road_22 rfl ?_
        refine g_bipush (n := 25) X dX11_road_23 (by decide +kernel) rfl ?_
        refine g_callSi (n := 28) (As := [gJ g, gJ 1, gJ 9]) (rest := []) (cs1 := 0) (ss1 := 0) X (c_X11_within g 1 9 (by omega) (by omega) (by omega) (by omega)) okX11_within kw_3_29 kw_3_30 ⟨rfl, rfl⟩ ⟨Nat.le_of_ble_eq_true rfl, Nat.le_of_ble_eq_true rfl⟩ rfl rfl (Nat.le_of_ble_eq_true rfl) ⟨Nat.le_of_ble_eq_true rfl, Nat.le_of_ble_eq_true rfl⟩ rfl rfl dX11_road_25 rfl (fun z10 M11 P12 => ?_)
        obtain ⟨rfl, P12⟩ := P12
        refine g_if_ne (n := 31) (tgt := 34) X dX11_road_28 (by decide) (by omega) rfl (fun c13 => ?_) (fun c13 => ?_)
        · refine g_aload_n (n := 35) X 0 dX11_road_34 rfl rfl rfl ?_
          refine gg_11_0 (n := 38) (z := 1) X (by omega) (by omega) lay_0 kw_2_231 dX11_road_35 rfl f_0_0 (by omega) ?_
          refine gg_9_0 (n := 41) (z := 2) X (by omega) (by omega) lay_1 kw_2_105 dX11_road_38 rfl f_1_0 (by omega) ?_
          refine g_iload_n (n := 42) X 1 dX11_road_41 rfl rfl rfl ?_
          refine g_iload_n (n := 43) X 2 dX11_road_42 rfl rfl rfl ?_
          refine g_iload_n (n := 44) X 3 dX11_road_43 rfl rfl rfl ?_
          refine g_callVi (n := 47) (As := [gJ a, gJ b, gJ g]) (rest := []) (cs1 := 0) (ss1 := 0) X (c_X3_layRoad a b g (by omega) (by omega) (by omega) (by omega) f_2_1 (by omega) way) okX3_layRoad kw_3_36 ⟨kw_3_37, kw_3_38⟩ ⟨rfl, rfl⟩ ⟨Nat.le_of_ble_eq_true rfl, Nat.le_of_ble_eq_true rfl⟩ rfl (by omega) (by omega) lay_2 rfl rfl (Nat.le_of_ble_eq_true rfl) ⟨Nat.le_of_ble_eq_true rfl, Nat.le_of_ble_eq_true rfl⟩ rfl rfl dX11_road_44 rfl (fun z14 M15 P16 => ?_)
          obtain ⟨P16, F17⟩ := P16
          refine g_if_eq (n := 50) (tgt := 54) X dX11_road_47 (by decide) (by omega) rfl (fun c18 => ?_) (fun c18 => ?_)
          · refine g_iconst (n := 55) X dX11_road_54 rfl ?_
            exact g_ireturn X hr dX11_road_55 (by exact ⟨by omega, fun a h0 => ((F17 a (by omega)).trans rfl)⟩)
          · refine g_iconst (n := 51) X dX11_road_50 rfl ?_
            refine g_goto (tgt := 55) X dX11_road_51 (by decide) ?_
            exact g_ireturn X hr dX11_road_55 (by exact ⟨by omega, fun a h0 => ((F17 a (by omega)).trans rfl)⟩)
        · refine g_bipush (n := 33) X dX11_road_31 (by decide +kernel) rfl ?_
          exact g_ireturn X hr dX11_road_33 (by exact ⟨by omega, fun a h0 => rfl⟩)
    · refine g_iconst (n := 15) X dX11_road_14 rfl ?_
      exact g_ireturn X hr dX11_road_15 (by exact ⟨by omega, fun a h0 => rfl⟩)
end
section
theorem dX9_actInForce_0 : decode cX9_actInForce 0 = .ok (.iconst (-1), 1) := by decide +kernel
theorem dX9_actInForce_1 : decode cX9_actInForce 1 = .ok (.istore_n 3, 1) := by decide +kernel
theorem dX9_actInForce_2 : decode cX9_actInForce 2 = .ok (.iconst 0, 1) := by decide +kernel
theorem dX9_actInForce_3 : decode cX9_actInForce 3 = .ok (.istore 4, 2) := by decide +kernel
theorem dX9_actInForce_5 : decode cX9_actInForce 5 = .ok (.iload 4, 2) := by decide +kernel
theorem dX9_actInForce_7 : decode cX9_actInForce 7 = .ok (.aload_n 0, 1) := by decide +kernel
theorem dX9_actInForce_8 : decode cX9_actInForce 8 = .ok (.getfield 92, 3) := by decide +kernel
theorem kw_2_134 : (Jvm.Cond.fieldLink "ParishUnion$Union" (92 : Nat) "ParishUnion$Union" "actCount" "I") ∈ gT := gT_of (tb_2 _ (List.mem_of_getElem? (i := 134) rfl)) rfl
theorem dX9_actInForce_11 : decode cX9_actInForce 11 = .ok (.if_icmp .ge 81, 3) := by decide +kernel
theorem dX9_actInForce_92 : decode cX9_actInForce 92 = .ok (.iload_n 3, 1) := by decide +kernel
theorem dX9_actInForce_93 : decode cX9_actInForce 93 = .ok (.ireturn, 1) := by decide +kernel
set_option maxRecDepth 100000 in
set_option maxHeartbeats 4000000 in
theorem c_X9_actInForce {l : Launch} {n0 : Nat} {D : va_G} {cA : Nat → ClassId} {M : gM} (a b : Int) (r_a : -2147483648 ≤ a ∧ a ≤ 2147483647) (r_b : -2147483648 ≤ b ∧ b ≤ 2147483647) {sz : Nat} (hsz : 206 ≤ sz) (f_1_13 : M 1 13 = 0) : Met l yX9_actInForce (gWsOf yX9_actInForce cX9_actInForce 6 (Option.some Jvm.ClassFile.FieldType.int)) { frames := 0, cells := 0, slots := 0, locals := 0 } (gPc n0 D cA [gA n0 1, gJ a, gJ b] M sz) (gQi n0 D cA sz (fun z M1 => M = M1 ∧ (z = -1))) 0 0 (fun q => n0 ≤ q) := by
  refine gMet_of [gA n0 1, gJ a, gJ b] (by decide) (Nat.le_of_ble_eq_true rfl) ?_
  intro p e s m args below meth cd X hr hm
  have X : gCx p s m args meth cd n0 D cA "ParishUnion$Union" cX9_actInForce 6 := X
  show G p l e ({ frames := 0, cells := 0, slots := 0, locals := 0 } : Room) s m args below meth cd n0 D cA 6 (MQ below (gQi n0 D cA sz (fun z M1 => M = M1 ∧ (z = -1))) args s 0 0 (fun q => n0 ≤ q)) 0 0 M sz 0 [(0, gA n0 1), (1, gJ a), (2, gJ b)] []
  refine g_iconst (n := 1) X dX9_actInForce_0 rfl ?_
  refine g_istore_n (n := 2) (L' := [(3, gJ (-1)), (0, gA n0 1), (1, gJ a), (2, gJ b)]) X dX9_actInForce_1 rfl (by decide) rfl rfl ?_
  refine g_iconst (n := 3) X dX9_actInForce_2 rfl ?_
  refine g_istore (n := 5) (L' := [(4, gJ 0), (3, gJ (-1)), (0, gA n0 1), (1, gJ a), (2, gJ b)]) X dX9_actInForce_3 (by decide) rfl rfl ?_
  refine g_iload (n := 7) X 0 dX9_actInForce_5 rfl rfl ?_
  refine g_aload_n (n := 8) X 2 dX9_actInForce_7 rfl rfl rfl ?_
  refine gg_9_13 (n := 11) (z := 0) X (by omega) (by omega) lay_1 kw_2_134 dX9_actInForce_8 rfl f_1_13 ?_
  refine g_icmp_ge (n := 14) (tgt := 92) X dX9_actInForce_11 (by decide) (by omega) (by omega) rfl (fun c1 => ?_) (fun c1 => by exfalso; omega)
  refine g_iload_n (n := 93) X 1 dX9_actInForce_92 rfl rfl rfl ?_
  exact g_ireturn X hr dX9_actInForce_93 (by exact ⟨rfl, by omega⟩)
theorem dX9_law_0 : decode cX9_law 0 = .ok (.aload_n 0, 1) := by decide +kernel
theorem dX9_law_1 : decode cX9_law 1 = .ok (.iload_n 1, 1) := by decide +kernel
theorem dX9_law_2 : decode cX9_law 2 = .ok (.iload_n 2, 1) := by decide +kernel
theorem dX9_law_3 : decode cX9_law 3 = .ok (.invokevirtual 142, 3) := by decide +kernel
theorem kw_3_141 : (Jvm.Cond.methodLink "ParishUnion$Union" (142 : Nat) ({ cls := "ParishUnion$Union", name := "actInForce", desc := "(II)I" } : Jvm.MethodName)) ∈ gT := gT_of (tb_3 _ (List.mem_of_getElem? (i := 141) rfl)) rfl
theorem kw_3_144 : (Jvm.Cond.code ({ cls := "ParishUnion$Union", name := "actInForce", desc := "(II)I" } : Jvm.MethodName) prog_11_method_4_code (6 : Nat) (Option.some Jvm.ClassFile.FieldType.int)) ∈ gT := gT_of (tb_3 _ (List.mem_of_getElem? (i := 144) rfl)) rfl
theorem okX9_actInForce : gQok yX9_actInForce cX9_actInForce 6 (Option.some Jvm.ClassFile.FieldType.int) 2 := ⟨kw_3_144, kw_1_2, by decide +kernel, by decide +kernel, by decide +kernel⟩
theorem kw_3_142 : (Jvm.Cond.instanceMethod ({ cls := "ParishUnion$Union", name := "actInForce", desc := "(II)I" } : Jvm.MethodName)) ∈ gT := gT_of (tb_3 _ (List.mem_of_getElem? (i := 142) rfl)) rfl
theorem kw_3_143 : (Jvm.Cond.selects "ParishUnion$Union" ({ cls := "ParishUnion$Union", name := "actInForce", desc := "(II)I" } : Jvm.MethodName) ({ cls := "ParishUnion$Union", name := "actInForce", desc := "(II)I" } : Jvm.MethodName)) ∈ gT := gT_of (tb_3 _ (List.mem_of_getElem? (i := 143) rfl)) rfl
theorem dX9_law_6 : decode cX9_law 6 = .ok (.istore_n 3, 1) := by decide +kernel
theorem dX9_law_7 : decode cX9_law 7 = .ok (.iload_n 3, 1) := by decide +kernel
theorem dX9_law_8 : decode cX9_law 8 = .ok (.iconst (-1), 1) := by decide +kernel
theorem dX9_law_9 : decode cX9_law 9 = .ok (.if_icmp .ne 11, 3) := by decide +kernel
theorem dX9_law_12 : decode cX9_law 12 = .ok (.getstatic 146, 3) := by decide +kernel
theorem dX9_law_15 : decode cX9_law 15 = .ok (.iload_n 1, 1) := by decide +kernel
theorem dX9_law_16 : decode cX9_law 16 = .ok (.iaload, 1) := by decide +kernel
theorem dX9_law_17 : decode cX9_law 17 = .ok (.goto 14, 3) := by decide +kernel
theorem dX9_law_31 : decode cX9_law 31 = .ok (.ireturn, 1) := by decide +kernel
set_option maxRecDepth 100000 in
set_option maxHeartbeats 4000000 in
theorem c_X9_law {l : Launch} {n0 : Nat} {D : va_G} {cA : Nat → ClassId} {M : gM} (a b : Int) (r_a : -2147483648 ≤ a ∧ a ≤ 2147483647) (r_b : -2147483648 ≤ b ∧ b ≤ 2147483647) {sz : Nat} (hsz : 206 ≤ sz) (f_1_13 : M 1 13 = 0) (hab : 0 ≤ a ∧ a ≤ 9) : Met l yX9_law (gWsOf yX9_law cX9_law 4 (Option.some Jvm.ClassFile.FieldType.int)) { frames := 1, cells := 0, slots := 0, locals := 25 } (gPc n0 D cA [gA n0 1, gJ a, gJ b] M sz) (gQi n0 D cA sz (fun z M1 => M = M1 ∧ (0 ≤ z ∧ z ≤ 100 ∧ (a = 0 → z = 50) ∧ (a = 1 → z = 100) ∧ (a = 2 → z = 10) ∧ (a = 3 → z = 5) ∧ (a = 4 → z = 14) ∧ (a = 5 → z = 1) ∧ (a = 6 → z = 1) ∧ (a = 7 → z = 0) ∧ (a = 8 → z = 0) ∧ (a = 9 → z = 0)))) 0 0 (fun q => n0 ≤ q) := by
  refine gMet_of [gA n0 1, gJ a, gJ b] (by decide) (Nat.le_of_ble_eq_true rfl) ?_
  intro p e s m args below meth cd X hr hm
  have X : gCx p s m args meth cd n0 D cA "ParishUnion$Union" cX9_law 4 := X
  show G p l e ({ frames := 1, cells := 0, slots := 0, locals := 25 } : Room) s m args below meth cd n0 D cA 4 (MQ below (gQi n0 D cA sz (fun z M1 => M = M1 ∧ (0 ≤ z ∧ z ≤ 100 ∧ (a = 0 → z = 50) ∧ (a = 1 → z = 100) ∧ (a = 2 → z = 10) ∧ (a = 3 → z = 5) ∧ (a = 4 → z = 14) ∧ (a = 5 → z = 1) ∧ (a = 6 → z = 1) ∧ (a = 7 → z = 0) ∧ (a = 8 → z = 0) ∧ (a = 9 → z = 0)))) args s 0 0 (fun q => n0 ≤ q)) 0 0 M sz 0 [(0, gA n0 1), (1, gJ a), (2, gJ b)] []
  refine g_aload_n (n := 1) X 0 dX9_law_0 rfl rfl rfl ?_
  refine g_iload_n (n := 2) X 1 dX9_law_1 rfl rfl rfl ?_
  refine g_iload_n (n := 3) X 2 dX9_law_2 rfl rfl rfl ?_
  refine g_callVi (n := 6) (As := [gJ a, gJ b]) (rest := []) (cs1 := 0) (ss1 := 0) X (c_X9_actInForce a b (by omega) (by omega) (by omega) f_1_13) okX9_actInForce kw_3_141 ⟨kw_3_142, kw_3_143⟩ ⟨rfl, rfl⟩ ⟨Nat.le_of_ble_eq_true rfl, Nat.le_of_ble_eq_true rfl⟩ rfl (by omega) (by omega) lay_1 rfl rfl (Nat.le_of_ble_eq_true rfl) ⟨Nat.le_of_ble_eq_true rfl, Nat.le_of_ble_eq_true rfl⟩ rfl rfl dX9_law_3 rfl (fun z1 M2 P3 => ?_)
  obtain ⟨rfl, rfl⟩ := P3
  refine g_istore_n (n := 7) (L' := [(3, gJ (-1)), (0, gA n0 1), (1, gJ a), (2, gJ b)]) X dX9_law_6 rfl (by decide) rfl rfl ?_
  refine g_iload_n (n := 8) X 0 dX9_law_7 rfl rfl rfl ?_
  refine g_iconst (n := 9) X dX9_law_8 rfl ?_
  refine g_icmp_ne (n := 12) (tgt := 20) X dX9_law_9 (by decide) (by omega) (by omega) rfl (fun c4 => by exfalso; omega) (fun c4 => ?_)
  refine g_getsWA (n := 15) (host := "ParishUnion") X (by decide +kernel) rfl dX9_law_12 rfl (fun b5 hb5 => ?_)
  refine g_iload_n (n := 16) X 2 dX9_law_15 rfl rfl rfl ?_
  obtain ⟨y6, hy6, ky6⟩ := gWA_of (i := a) (by omega) (by omega)
  refine g_oldld (n := 17) (z := y6) X hb5 (by omega) (by omega) (by omega) dX9_law_16 rfl hy6 ?_
  refine g_goto (tgt := 31) X dX9_law_17 (by decide) ?_
  exact g_ireturn X hr dX9_law_31 (by exact ⟨rfl, by omega⟩)
theorem dX1_prepare_0 : decode cX1_prepare 0 = .ok (.iload_n 2, 1) := by decide +kernel
theorem dX1_prepare_1 : decode cX1_prepare 1 = .ok (.iconst (-1), 1) := by decide +kernel
theorem dX1_prepare_2 : decode cX1_prepare 2 = .ok (.if_icmp .ne 10, 3) := by decide +kernel
theorem dX1_prepare_12 : decode cX1_prepare 12 = .ok (.iload_n 2, 1) := by decide +kernel
theorem dX1_prepare_13 : decode cX1_prepare 13 = .ok (.istore_n 3, 1) := by decide +kernel
theorem dX1_prepare_14 : decode cX1_prepare 14 = .ok (.aload_n 0, 1) := by decide +kernel
theorem dX1_prepare_15 : decode cX1_prepare 15 = .ok (.aload_n 1, 1) := by decide +kernel
theorem dX1_prepare_16 : decode cX1_prepare 16 = .ok (.bipush 6, 2) := by decide +kernel
theorem dX1_prepare_18 : decode cX1_prepare 18 = .ok (.iconst 0, 1) := by decide +kernel
theorem dX1_prepare_19 : decode cX1_prepare 19 = .ok (.invokevirtual 34, 3) := by decide +kernel
theorem kw_3_137 : (Jvm.Cond.methodLink "ParishUnion$Bench" (34 : Nat) ({ cls := "ParishUnion$Union", name := "law", desc := "(II)I" } : Jvm.MethodName)) ∈ gT := gT_of (tb_3 _ (List.mem_of_getElem? (i := 137) rfl)) rfl
theorem kw_3_140 : (Jvm.Cond.code ({ cls := "ParishUnion$Union", name := "law", desc := "(II)I" } : Jvm.MethodName) prog_11_method_5_code (4 : Nat) (Option.some Jvm.ClassFile.FieldType.int)) ∈ gT := gT_of (tb_3 _ (List.mem_of_getElem? (i := 140) rfl)) rfl
theorem okX9_law : gQok yX9_law cX9_law 4 (Option.some Jvm.ClassFile.FieldType.int) 2 := ⟨kw_3_140, kw_1_2, by decide +kernel, by decide +kernel, by decide +kernel⟩
theorem kw_3_138 : (Jvm.Cond.instanceMethod ({ cls := "ParishUnion$Union", name := "law", desc := "(II)I" } : Jvm.MethodName)) ∈ gT := gT_of (tb_3 _ (List.mem_of_getElem? (i := 138) rfl)) rfl
theorem kw_3_139 : (Jvm.Cond.selects "ParishUnion$Union" ({ cls := "ParishUnion$Union", name := "law", desc := "(II)I" } : Jvm.MethodName) ({ cls := "ParishUnion$Union", name := "law", desc := "(II)I" } : Jvm.MethodName)) ∈ gT := gT_of (tb_3 _ (List.mem_of_getElem? (i := 139) rfl)) rfl
theorem dX1_prepare_22 : decode cX1_prepare 22 = .ok (.iconst 1, 1) := by decide +kernel
theorem dX1_prepare_23 : decode cX1_prepare 23 = .ok (.if_icmp .ne 7, 3) := by decide +kernel
theorem dX1_prepare_30 : decode cX1_prepare 30 = .ok (.iconst 0, 1) := by decide +kernel
theorem dX1_prepare_31 : decode cX1_prepare 31 = .ok (.putfield 38, 3) := by decide +kernel
theorem kw_2_185 : (Jvm.Cond.fieldLink "ParishUnion$Bench" (38 : Nat) "ParishUnion$Bench" "kin" "Z") ∈ gT := gT_of (tb_2 _ (List.mem_of_getElem? (i := 185) rfl)) rfl
theorem dX1_prepare_34 : decode cX1_prepare 34 = .ok (.aload_n 0, 1) := by decide +kernel
theorem dX1_prepare_35 : decode cX1_prepare 35 = .ok (.iconst 0, 1) := by decide +kernel
theorem dX1_prepare_36 : decode cX1_prepare 36 = .ok (.putfield 42, 3) := by decide +kernel
theorem kw_2_184 : (Jvm.Cond.fieldLink "ParishUnion$Bench" (42 : Nat) "ParishUnion$Bench" "doubtedCount" "I") ∈ gT := gT_of (tb_2 _ (List.mem_of_getElem? (i := 184) rfl)) rfl
theorem dX1_prepare_39 : decode cX1_prepare 39 = .ok (.iconst 0, 1) := by decide +kernel
theorem dX1_prepare_40 : decode cX1_prepare 40 = .ok (.istore 4, 2) := by decide +kernel
theorem dX1_prepare_42 : decode cX1_prepare 42 = .ok (.iload 4, 2) := by decide +kernel
theorem dX1_prepare_44 : decode cX1_prepare 44 = .ok (.aload_n 1, 1) := by decide +kernel
theorem dX1_prepare_45 : decode cX1_prepare 45 = .ok (.getfield 45, 3) := by decide +kernel
theorem kw_2_128 : (Jvm.Cond.fieldLink "ParishUnion$Bench" (45 : Nat) "ParishUnion$Union" "rightCount" "I") ∈ gT := gT_of (tb_2 _ (List.mem_of_getElem? (i := 128) rfl)) rfl
theorem dX1_prepare_48 : decode cX1_prepare 48 = .ok (.if_icmp .ge 86, 3) := by decide +kernel
theorem dX1_prepare_134 : decode cX1_prepare 134 = .ok (.return_, 1) := by decide +kernel
theorem dX1_prepare_26 : decode cX1_prepare 26 = .ok (.iconst 1, 1) := by decide +kernel
theorem dX1_prepare_27 : decode cX1_prepare 27 = .ok (.goto 4, 3) := by decide +kernel
theorem dX1_prepare_5 : decode cX1_prepare 5 = .ok (.aload_n 1, 1) := by decide +kernel
theorem dX1_prepare_6 : decode cX1_prepare 6 = .ok (.getfield 28, 3) := by decide +kernel
theorem kw_2_131 : (Jvm.Cond.fieldLink "ParishUnion$Bench" (28 : Nat) "ParishUnion$Union" "entries" "I") ∈ gT := gT_of (tb_2 _ (List.mem_of_getElem? (i := 131) rfl)) rfl
theorem dX1_prepare_9 : decode cX1_prepare 9 = .ok (.goto 4, 3) := by decide +kernel
set_option maxRecDepth 100000 in
set_option maxHeartbeats 4000000 in
theorem c_X1_prepare {l : Launch} {n0 : Nat} {D : va_G} {cA : Nat → ClassId} {M : gM} (a : Int) (r_a : -2147483648 ≤ a ∧ a ≤ 2147483647) {sz : Nat} (hsz : 206 ≤ sz) (f_1_12 : M 1 12 = 0) (f_1_13 : M 1 13 = 0) (f_1_11 : M 1 11 = 0) : Met l yX1_prepare (gWsOf yX1_prepare cX1_prepare 5 (Option.none : Option Jvm.ClassFile.FieldType)) { frames := 5, cells := 0, slots := 0, locals := 143 } (gPc n0 D cA [gA n0 153, gA n0 1, gJ a] M sz) (gQv n0 D cA sz (fun M1 => ∀ a : Int, a ≠ 153 → M1 a = M a)) 0 0 (fun q => n0 ≤ q) := by
  refine gMet_of [gA n0 153, gA n0 1, gJ a] (by decide) (Nat.le_of_ble_eq_true rfl) ?_
  intro p e s m args below meth cd X hr hm
  have X : gCx p s m args meth cd n0 D cA "ParishUnion$Bench" cX1_prepare 5 := X
  show G p l e ({ frames := 5, cells := 0, slots := 0, locals := 143 } : Room) s m args below meth cd n0 D cA 5 (MQ below (gQv n0 D cA sz (fun M1 => ∀ a : Int, a ≠ 153 → M1 a = M a)) args s 0 0 (fun q => n0 ≤ q)) 0 0 M sz 0 [(0, gA n0 153), (1, gA n0 1), (2, gJ a)] []
  refine g_iload_n (n := 1) X 2 dX1_prepare_0 rfl rfl rfl ?_
  refine g_iconst (n := 2) X dX1_prepare_1 rfl ?_
  refine g_icmp_ne (n := 5) (tgt := 12) X dX1_prepare_2 (by decide) (by omega) (by omega) rfl (fun c1 => ?_) (fun c1 => ?_)
  · refine g_iload_n (n := 13) X 2 dX1_prepare_12 rfl rfl rfl ?_
    refine g_istore_n (n := 14) (L' := [(3, gJ a), (0, gA n0 153), (1, gA n0 1), (2, gJ a)]) X dX1_prepare_13 rfl (by decide) rfl rfl ?_
    refine g_aload_n (n := 15) X 1 dX1_prepare_14 rfl rfl rfl ?_
    refine g_aload_n (n := 16) X 2 dX1_prepare_15 rfl rfl rfl ?_
    refine g_bipush (n := 18) X dX1_prepare_16 (by decide +kernel) rfl ?_
    refine g_iconst (n := 19) X dX1_prepare_18 rfl ?_
    refine g_callVi (n := 22) (As := [gJ 6, gJ 0]) (rest := [gA n0 153]) (cs1 := 0) (ss1 := 0) X (c_X9_law 6 0 (by omega) (by omega) (by omega) f_1_13 (by omega)) okX9_law kw_3_137 ⟨kw_3_138, kw_3_139⟩ ⟨rfl, rfl⟩ ⟨Nat.le_of_ble_eq_true rfl, Nat.le_of_ble_eq_true rfl⟩ rfl (by omega) (by omega) lay_1 rfl rfl (Nat.le_of_ble_eq_true rfl) ⟨Nat.le_of_ble_eq_true rfl, Nat.le_of_ble_eq_true rfl⟩ rfl rfl dX1_prepare_19 rfl (fun z2 M3 P4 => ?_)
    obtain ⟨rfl, P4⟩ := P4
    refine g_iconst (n := 23) X dX1_prepare_22 rfl ?_
    refine g_icmp_ne (n := 26) (tgt := 30) X dX1_prepare_23 (by decide) (by omega) (by omega) rfl (fun c5 => ?_) (fun c5 => ?_)
    · refine g_iconst (n := 31) X dX1_prepare_30 rfl ?_
      refine gp_1_6 (n := 34) X (by omega) (by omega) lay_153 kw_2_185 (by omega) dX1_prepare_31 rfl ?_
      refine G.nm (fun M6 e7 => ?_)
      refine g_aload_n (n := 35) X 1 dX1_prepare_34 rfl rfl rfl ?_
      refine g_iconst (n := 36) X dX1_prepare_35 rfl ?_
      refine gp_1_5 (n := 39) X (by omega) (by omega) lay_153 kw_2_184 dX1_prepare_36 rfl ?_
      refine G.nm (fun M8 e9 => ?_)
      refine g_iconst (n := 40) X dX1_prepare_39 rfl ?_
      refine g_istore (n := 42) (L' := [(4, gJ 0), (3, gJ a), (0, gA n0 153), (1, gA n0 1), (2, gJ a)]) X dX1_prepare_40 (by decide) rfl rfl ?_
      refine g_iload (n := 44) X 0 dX1_prepare_42 rfl rfl ?_
      refine g_aload_n (n := 45) X 3 dX1_prepare_44 rfl rfl rfl ?_
      refine gg_9_11 (n := 48) (z := 0) X (by omega) (by omega) lay_1 kw_2_128 dX1_prepare_45 rfl ((congrFun (congrFun e9 _) _).trans ((gset_ne (by omega)).trans ((congrFun (congrFun e7 _) _).trans ((gset_ne (by omega)).trans f_1_11)))) ?_
      refine g_icmp_ge (n := 51) (tgt := 134) X dX1_prepare_48 (by decide) (by omega) (by omega) rfl (fun c10 => ?_) (fun c10 => by exfalso; omega)
      exact g_return X hr dX1_prepare_134 (by exact (fun a h0 => ((congrFun e9 a).trans ((gset_off a (by omega)).trans ((congrFun e7 a).trans ((gset_off a (by omega)).trans rfl))))))
    · refine g_iconst (n := 27) X dX1_prepare_26 rfl ?_
      refine g_goto (tgt := 31) X dX1_prepare_27 (by decide) ?_
      refine gp_1_6 (n := 34) X (by omega) (by omega) lay_153 kw_2_185 (by omega) dX1_prepare_31 rfl ?_
      refine G.nm (fun M11 e12 => ?_)
      refine g_aload_n (n := 35) X 1 dX1_prepare_34 rfl rfl rfl ?_
      refine g_iconst (n := 36) X dX1_prepare_35 rfl ?_
      refine gp_1_5 (n := 39) X (by omega) (by omega) lay_153 kw_2_184 dX1_prepare_36 rfl ?_
      refine G.nm (fun M13 e14 => ?_)
      refine g_iconst (n := 40) X dX1_prepare_39 rfl ?_
      refine g_istore (n := 42) (L' := [(4, gJ 0), (3, gJ a), (0, gA n0 153), (1, gA n0 1), (2, gJ a)]) X dX1_prepare_40 (by decide) rfl rfl ?_
      refine g_iload (n := 44) X 0 dX1_prepare_42 rfl rfl ?_
      refine g_aload_n (n := 45) X 3 dX1_prepare_44 rfl rfl rfl ?_
      refine gg_9_11 (n := 48) (z := 0) X (by omega) (by omega) lay_1 kw_2_128 dX1_prepare_45 rfl ((congrFun (congrFun e14 _) _).trans ((gset_ne (by omega)).trans ((congrFun (congrFun e12 _) _).trans ((gset_ne (by omega)).trans f_1_11)))) ?_
      refine g_icmp_ge (n := 51) (tgt := 134) X dX1_prepare_48 (by decide) (by omega) (by omega) rfl (fun c15 => ?_) (fun c15 => by exfalso; omega)
      exact g_return X hr dX1_prepare_134 (by exact (fun a h0 => ((congrFun e14 a).trans ((gset_off a (by omega)).trans ((congrFun e12 a).trans ((gset_off a (by omega)).trans rfl))))))
  · refine g_aload_n (n := 6) X 1 dX1_prepare_5 rfl rfl rfl ?_
    refine gg_9_12 (n := 9) (z := 0) X (by omega) (by omega) lay_1 kw_2_131 dX1_prepare_6 rfl f_1_12 ?_
    refine g_goto (tgt := 13) X dX1_prepare_9 (by decide) ?_
    refine g_istore_n (n := 14) (L' := [(3, gJ 0), (0, gA n0 153), (1, gA n0 1), (2, gJ a)]) X dX1_prepare_13 rfl (by decide) rfl rfl ?_
    refine g_aload_n (n := 15) X 1 dX1_prepare_14 rfl rfl rfl ?_
    refine g_aload_n (n := 16) X 2 dX1_prepare_15 rfl rfl rfl ?_
    refine g_bipush (n := 18) X dX1_prepare_16 (by decide +kernel) rfl ?_
    refine g_iconst (n := 19) X dX1_prepare_18 rfl ?_
    refine g_callVi (n := 22) (As := [gJ 6, gJ 0]) (rest := [gA n0 153]) (cs1 := 0) (ss1 := 0) X (c_X9_law 6 0 (by omega) (by omega) (by omega) f_1_13 (by omega)) okX9_law kw_3_137 ⟨kw_3_138, kw_3_139⟩ ⟨rfl, rfl⟩ ⟨Nat.le_of_ble_eq_true rfl, Nat.le_of_ble_eq_true rfl⟩ rfl (by omega) (by omega) lay_1 rfl rfl (Nat.le_of_ble_eq_true rfl) ⟨Nat.le_of_ble_eq_true rfl, Nat.le_of_ble_eq_true rfl⟩ rfl rfl dX1_prepare_19 rfl (fun z16 M17 P18 => ?_)
    obtain ⟨rfl, P18⟩ := P18
    refine g_iconst (n := 23) X dX1_prepare_22 rfl ?_
    refine g_icmp_ne (n := 26) (tgt := 30) X dX1_prepare_23 (by decide) (by omega) (by omega) rfl (fun c19 => ?_) (fun c19 => ?_)
    · refine g_iconst (n := 31) X dX1_prepare_30 rfl ?_
      refine gp_1_6 (n := 34) X (by omega) (by omega) lay_153 kw_2_185 (by omega) dX1_prepare_31 rfl ?_
      refine G.nm (fun M20 e21 => ?_)
      refine g_aload_n (n := 35) X 1 dX1_prepare_34 rfl rfl rfl ?_
      refine g_iconst (n := 36) X dX1_prepare_35 rfl ?_
      refine gp_1_5 (n := 39) X (by omega) (by omega) lay_153 kw_2_184 dX1_prepare_36 rfl ?_
      refine G.nm (fun M22 e23 => ?_)
      refine g_iconst (n := 40) X dX1_prepare_39 rfl ?_
      refine g_istore (n := 42) (L' := [(4, gJ 0), (3, gJ 0), (0, gA n0 153), (1, gA n0 1), (2, gJ a)]) X dX1_prepare_40 (by decide) rfl rfl ?_
      refine g_iload (n := 44) X 0 dX1_prepare_42 rfl rfl ?_
      refine g_aload_n (n := 45) X 3 dX1_prepare_44 rfl rfl rfl ?_
      refine gg_9_11 (n := 48) (z := 0) X (by omega) (by omega) lay_1 kw_2_128 dX1_prepare_45 rfl ((congrFun (congrFun e23 _) _).trans ((gset_ne (by omega)).trans ((congrFun (congrFun e21 _) _).trans ((gset_ne (by omega)).trans f_1_11)))) ?_
      refine g_icmp_ge (n := 51) (tgt := 134) X dX1_prepare_48 (by decide) (by omega) (by omega) rfl (fun c24 => ?_) (fun c24 => by exfalso; omega)
      exact g_return X hr dX1_prepare_134 (by exact (fun a h0 => ((congrFun e23 a).trans ((gset_off a (by omega)).trans ((congrFun e21 a).trans ((gset_off a (by omega)).trans rfl))))))
    · refine g_iconst (n := 27) X dX1_prepare_26 rfl ?_
      refine g_goto (tgt := 31) X dX1_prepare_27 (by decide) ?_
      refine gp_1_6 (n := 34) X (by omega) (by omega) lay_153 kw_2_185 (by omega) dX1_prepare_31 rfl ?_
      refine G.nm (fun M25 e26 => ?_)
      refine g_aload_n (n := 35) X 1 dX1_prepare_34 rfl rfl rfl ?_
      refine g_iconst (n := 36) X dX1_prepare_35 rfl ?_
      refine gp_1_5 (n := 39) X (by omega) (by omega) lay_153 kw_2_184 dX1_prepare_36 rfl ?_
      refine G.nm (fun M27 e28 => ?_)
      refine g_iconst (n := 40) X dX1_prepare_39 rfl ?_
      refine g_istore (n := 42) (L' := [(4, gJ 0), (3, gJ 0), (0, gA n0 153), (1, gA n0 1), (2, gJ a)]) X dX1_prepare_40 (by decide) rfl rfl ?_
      refine g_iload (n := 44) X 0 dX1_prepare_42 rfl rfl ?_
      refine g_aload_n (n := 45) X 3 dX1_prepare_44 rfl rfl rfl ?_
      refine gg_9_11 (n := 48) (z := 0) X (by omega) (by omega) lay_1 kw_2_128 dX1_prepare_45 rfl ((congrFun (congrFun e28 _) _).trans ((gset_ne (by omega)).trans ((congrFun (congrFun e26 _) _).trans ((gset_ne (by omega)).trans f_1_11)))) ?_
      refine g_icmp_ge (n := 51) (tgt := 134) X dX1_prepare_48 (by decide) (by omega) (by omega) rfl (fun c29 => ?_) (fun c29 => by exfalso; omega)
      exact g_return X hr dX1_prepare_134 (by exact (fun a h0 => ((congrFun e28 a).trans ((gset_off a (by omega)).trans ((congrFun e26 a).trans ((gset_off a (by omega)).trans rfl))))))
theorem dX11_findHomes_0 : decode cX11_findHomes 0 = .ok (.aload_n 0, 1) := by decide +kernel
theorem dX11_findHomes_1 : decode cX11_findHomes 1 = .ok (.getfield 19, 3) := by decide +kernel
theorem kw_2_232 : (Jvm.Cond.fieldLink "ParishUnion" (19 : Nat) "ParishUnion" "bench" "LParishUnion$Bench;") ∈ gT := gT_of (tb_2 _ (List.mem_of_getElem? (i := 232) rfl)) rfl
theorem dX11_findHomes_4 : decode cX11_findHomes 4 = .ok (.aload_n 0, 1) := by decide +kernel
theorem dX11_findHomes_5 : decode cX11_findHomes 5 = .ok (.getfield 10, 3) := by decide +kernel
theorem dX11_findHomes_8 : decode cX11_findHomes 8 = .ok (.iconst (-1), 1) := by decide +kernel
theorem dX11_findHomes_9 : decode cX11_findHomes 9 = .ok (.invokevirtual 190, 3) := by decide +kernel
theorem kw_3_133 : (Jvm.Cond.methodLink "ParishUnion" (190 : Nat) ({ cls := "ParishUnion$Bench", name := "prepare", desc := "(LParishUnion$Union;I)V" } : Jvm.MethodName)) ∈ gT := gT_of (tb_3 _ (List.mem_of_getElem? (i := 133) rfl)) rfl
theorem kw_3_136 : (Jvm.Cond.code ({ cls := "ParishUnion$Bench", name := "prepare", desc := "(LParishUnion$Union;I)V" } : Jvm.MethodName) prog_3_method_2_code (5 : Nat) (Option.none : Option Jvm.ClassFile.FieldType)) ∈ gT := gT_of (tb_3 _ (List.mem_of_getElem? (i := 136) rfl)) rfl
theorem kw_1_11 : (Jvm.Cond.initialized "ParishUnion$Bench") ∈ gT := gT_of (tb_1 _ (List.mem_of_getElem? (i := 11) rfl)) rfl
theorem okX1_prepare : gQok yX1_prepare cX1_prepare 5 (Option.none : Option Jvm.ClassFile.FieldType) 2 := ⟨kw_3_136, kw_1_11, by decide +kernel, by decide +kernel, by decide +kernel⟩
theorem kw_3_134 : (Jvm.Cond.instanceMethod ({ cls := "ParishUnion$Bench", name := "prepare", desc := "(LParishUnion$Union;I)V" } : Jvm.MethodName)) ∈ gT := gT_of (tb_3 _ (List.mem_of_getElem? (i := 134) rfl)) rfl
theorem kw_3_135 : (Jvm.Cond.selects "ParishUnion$Bench" ({ cls := "ParishUnion$Bench", name := "prepare", desc := "(LParishUnion$Union;I)V" } : Jvm.MethodName) ({ cls := "ParishUnion$Bench", name := "prepare", desc := "(LParishUnion$Union;I)V" } : Jvm.MethodName)) ∈ gT := gT_of (tb_3 _ (List.mem_of_getElem? (i := 135) rfl)) rfl
theorem dX11_findHomes_12 : decode cX11_findHomes 12 = .ok (.iconst 0, 1) := by decide +kernel
theorem dX11_findHomes_13 : decode cX11_findHomes 13 = .ok (.istore_n 1, 1) := by decide +kernel
theorem dX11_findHomes_14 : decode cX11_findHomes 14 = .ok (.iload_n 1, 1) := by decide +kernel
theorem dX11_findHomes_15 : decode cX11_findHomes 15 = .ok (.aload_n 0, 1) := by decide +kernel
theorem dX11_findHomes_16 : decode cX11_findHomes 16 = .ok (.getfield 10, 3) := by decide +kernel
theorem dX11_findHomes_19 : decode cX11_findHomes 19 = .ok (.getfield 98, 3) := by decide +kernel
theorem dX11_findHomes_22 : decode cX11_findHomes 22 = .ok (.if_icmp .ge 43, 3) := by decide +kernel
theorem dX11_findHomes_65 : decode cX11_findHomes 65 = .ok (.return_, 1) := by decide +kernel
set_option maxRecDepth 100000 in
set_option maxHeartbeats 4000000 in
theorem c_X11_findHomes {l : Launch} {n0 : Nat} {D : va_G} {cA : Nat → ClassId} {M : gM}  {sz : Nat} (hsz : 206 ≤ sz) (f_0_0 : M 0 0 = 2) (f_0_1 : M 0 1 = 154) (f_1_12 : M 1 12 = 0) (f_1_13 : M 1 13 = 0) (f_1_11 : M 1 11 = 0) (f_1_10 : M 1 10 = 0) : Met l yX11_findHomes (gWsOf yX11_findHomes cX11_findHomes 2 (Option.none : Option Jvm.ClassFile.FieldType)) { frames := 6, cells := 0, slots := 0, locals := 167 } (gPc n0 D cA [gA n0 0] M sz) (gQv n0 D cA sz (fun M1 => ∀ a : Int, a ≠ 153 → M1 a = M a)) 0 0 (fun q => n0 ≤ q) := by
  refine gMet_of [gA n0 0] (by decide) (Nat.le_of_ble_eq_true rfl) ?_
  intro p e s m args below meth cd X hr hm
  have X : gCx p s m args meth cd n0 D cA "ParishUnion" cX11_findHomes 2 := X
  show G p l e ({ frames := 6, cells := 0, slots := 0, locals := 167 } : Room) s m args below meth cd n0 D cA 2 (MQ below (gQv n0 D cA sz (fun M1 => ∀ a : Int, a ≠ 153 → M1 a = M a)) args s 0 0 (fun q => n0 ≤ q)) 0 0 M sz 0 [(0, gA n0 0)] []
  refine g_aload_n (n := 1) X 0 dX11_findHomes_0 rfl rfl rfl ?_
  refine gg_11_1 (n := 4) (z := 153) X (by omega) (by omega) lay_0 kw_2_232 dX11_findHomes_1 rfl f_0_1 (by omega) ?_
  refine g_aload_n (n := 5) X 0 dX11_findHomes_4 rfl rfl rfl ?_
  refine gg_11_0 (n := 8) (z := 1) X (by omega) (by omega) lay_0 kw_2_231 dX11_findHomes_5 rfl f_0_0 (by omega) ?_
  refine g_iconst (n := 9) X dX11_findHomes_8 rfl ?_
  refine g_callVv (n := 12) (As := [gA n0 1, gJ (-1)]) (rest := []) (cs1 := 0) (ss1 := 0) X (c_X1_prepare (-1) (by omega) (by omega) f_1_12 f_1_13 f_1_11) okX1_prepare kw_3_133 ⟨kw_3_134, kw_3_135⟩ ⟨rfl, rfl⟩ ⟨Nat.le_of_ble_eq_true rfl, Nat.le_of_ble_eq_true rfl⟩ rfl (by omega) (by omega) lay_153 rfl rfl (Nat.le_of_ble_eq_true rfl) ⟨Nat.le_of_ble_eq_true rfl, Nat.le_of_ble_eq_true rfl⟩ rfl rfl dX11_findHomes_9 rfl (fun M2 P3 => ?_)
  have F4 := P3
  refine g_iconst (n := 13) X dX11_findHomes_12 rfl ?_
  refine g_istore_n (n := 14) (L' := [(1, gJ 0), (0, gA n0 0)]) X dX11_findHomes_13 rfl (by decide) rfl rfl ?_
  refine g_iload_n (n := 15) X 0 dX11_findHomes_14 rfl rfl rfl ?_
  refine g_aload_n (n := 16) X 1 dX11_findHomes_15 rfl rfl rfl ?_
  refine gg_11_0 (n := 19) (z := 1) X (by omega) (by omega) lay_0 kw_2_231 dX11_findHomes_16 rfl ((congrFun (F4 0 (by omega)) _).trans f_0_0) (by omega) ?_
  refine gg_9_10 (n := 22) (z := 0) X (by omega) (by omega) lay_1 kw_2_127 dX11_findHomes_19 rfl ((congrFun (F4 1 (by omega)) _).trans f_1_10) ?_
  refine g_icmp_ge (n := 25) (tgt := 65) X dX11_findHomes_22 (by decide) (by omega) (by omega) rfl (fun c5 => ?_) (fun c5 => by exfalso; omega)
  exact g_return X hr dX11_findHomes_65 (by exact (fun a h0 => ((F4 a (by omega)).trans rfl)))
theorem dX11_unlike_0 : decode cX11_unlike 0 = .ok (.aload_n 0, 1) := by decide +kernel
theorem dX11_unlike_1 : decode cX11_unlike 1 = .ok (.iload_n 1, 1) := by decide +kernel
theorem dX11_unlike_2 : decode cX11_unlike 2 = .ok (.invokevirtual 187, 3) := by decide +kernel
theorem kw_3_129 : (Jvm.Cond.methodLink "ParishUnion" (187 : Nat) ({ cls := "ParishUnion", name := "isEntryCount", desc := "(I)Z" } : Jvm.MethodName)) ∈ gT := gT_of (tb_3 _ (List.mem_of_getElem? (i := 129) rfl)) rfl
theorem kw_3_132 : (Jvm.Cond.code ({ cls := "ParishUnion", name := "isEntryCount", desc := "(I)Z" } : Jvm.MethodName) prog_1_method_54_code (2 : Nat) (Option.some Jvm.ClassFile.FieldType.boolean)) ∈ gT := gT_of (tb_3 _ (List.mem_of_getElem? (i := 132) rfl)) rfl
theorem okX11_isEntryCount : gQok yX11_isEntryCount cX11_isEntryCount 2 (Option.some Jvm.ClassFile.FieldType.boolean) 1 := ⟨kw_3_132, kw_1_1, by decide +kernel, by decide +kernel, by decide +kernel⟩
theorem kw_3_131 : (Jvm.Cond.instanceMethod ({ cls := "ParishUnion", name := "isEntryCount", desc := "(I)Z" } : Jvm.MethodName)) ∈ gT := gT_of (tb_3 _ (List.mem_of_getElem? (i := 131) rfl)) rfl
theorem kw_0_2 : (Jvm.Cond.selects "ParishUnion" ({ cls := "ParishUnion", name := "isEntryCount", desc := "(I)Z" } : Jvm.MethodName) ({ cls := "ParishUnion", name := "isEntryCount", desc := "(I)Z" } : Jvm.MethodName)) ∈ gT := gT_of (tb_0 _ (List.mem_of_getElem? (i := 2) rfl)) rfl
theorem dX11_unlike_5 : decode cX11_unlike 5 = .ok (.ifCond .ne 5, 3) := by decide +kernel
theorem dX11_unlike_10 : decode cX11_unlike 10 = .ok (.aload_n 0, 1) := by decide +kernel
theorem dX11_unlike_11 : decode cX11_unlike 11 = .ok (.getfield 19, 3) := by decide +kernel
theorem dX11_unlike_14 : decode cX11_unlike 14 = .ok (.aload_n 0, 1) := by decide +kernel
theorem dX11_unlike_15 : decode cX11_unlike 15 = .ok (.getfield 10, 3) := by decide +kernel
theorem dX11_unlike_18 : decode cX11_unlike 18 = .ok (.iload_n 1, 1) := by decide +kernel
theorem dX11_unlike_19 : decode cX11_unlike 19 = .ok (.invokevirtual 190, 3) := by decide +kernel
theorem dX11_unlike_22 : decode cX11_unlike 22 = .ok (.iconst 0, 1) := by decide +kernel
theorem dX11_unlike_23 : decode cX11_unlike 23 = .ok (.istore_n 2, 1) := by decide +kernel
theorem dX11_unlike_24 : decode cX11_unlike 24 = .ok (.iconst 0, 1) := by decide +kernel
theorem dX11_unlike_25 : decode cX11_unlike 25 = .ok (.istore_n 3, 1) := by decide +kernel
theorem dX11_unlike_26 : decode cX11_unlike 26 = .ok (.iload_n 3, 1) := by decide +kernel
theorem dX11_unlike_27 : decode cX11_unlike 27 = .ok (.aload_n 0, 1) := by decide +kernel
theorem dX11_unlike_28 : decode cX11_unlike 28 = .ok (.getfield 10, 3) := by decide +kernel
theorem dX11_unlike_31 : decode cX11_unlike 31 = .ok (.getfield 247, 3) := by decide +kernel
theorem dX11_unlike_34 : decode cX11_unlike 34 = .ok (.getfield 251, 3) := by decide +kernel
theorem dX11_unlike_37 : decode cX11_unlike 37 = .ok (.if_icmp .ge 30, 3) := by decide +kernel
theorem dX11_unlike_67 : decode cX11_unlike 67 = .ok (.iload_n 2, 1) := by decide +kernel
theorem dX11_unlike_68 : decode cX11_unlike 68 = .ok (.ireturn, 1) := by decide +kernel
theorem dX11_unlike_8 : decode cX11_unlike 8 = .ok (.iconst (-1), 1) := by decide +kernel
theorem dX11_unlike_9 : decode cX11_unlike 9 = .ok (.ireturn, 1) := by decide +kernel
set_option maxRecDepth 100000 in
set_option maxHeartbeats 4000000 in
theorem c_X11_unlike {l : Launch} {n0 : Nat} {D : va_G} {cA : Nat → ClassId} {M : gM} (a : Int) (r_a : -2147483648 ≤ a ∧ a ≤ 2147483647) {sz : Nat} (hsz : 206 ≤ sz) (f_0_0 : M 0 0 = 2) (f_0_1 : M 0 1 = 154) (f_1_12 : M 1 12 = 0) (f_1_13 : M 1 13 = 0) (f_1_11 : M 1 11 = 0) (f_1_5 : M 1 5 = 10) (f_9_5 : M 9 5 = 0) : Met l yX11_unlike (gWsOf yX11_unlike cX11_unlike 4 (Option.some Jvm.ClassFile.FieldType.int)) { frames := 6, cells := 0, slots := 0, locals := 167 } (gPc n0 D cA [gA n0 0, gJ a] M sz) (gQi n0 D cA sz (fun z M1 => (((¬(-1 ≤ a ∧ a ≤ 0)) → z = -1) ∧ (¬(¬(-1 ≤ a ∧ a ≤ 0)) → (z = 0))) ∧ ∀ a : Int, a ≠ 153 → M1 a = M a)) 0 0 (fun q => n0 ≤ q) := by
  refine gMet_of [gA n0 0, gJ a] (by decide) (Nat.le_of_ble_eq_true rfl) ?_
  intro p e s m args below meth cd X hr hm
  have X : gCx p s m args meth cd n0 D cA "ParishUnion" cX11_unlike 4 := X
  show G p l e ({ frames := 6, cells := 0, slots := 0, locals := 167 } : Room) s m args below meth cd n0 D cA 4 (MQ below (gQi n0 D cA sz (fun z M1 => (((¬(-1 ≤ a ∧ a ≤ 0)) → z = -1) ∧ (¬(¬(-1 ≤ a ∧ a ≤ 0)) → (z = 0))) ∧ ∀ a : Int, a ≠ 153 → M1 a = M a)) args s 0 0 (fun q => n0 ≤ q)) 0 0 M sz 0 [(0, gA n0 0), (1, gJ a)] []
  refine g_aload_n (n := 1) X 0 dX11_unlike_0 rfl rfl rfl ?_
  refine g_iload_n (n := 2) X 1 dX11_unlike_1 rfl rfl rfl ?_
  refine g_callVi (n := 5) (As := [gJ a]) (rest := []) (cs1 := 0) (ss1 := 0) X (c_X11_isEntryCount a (by omega) (by omega) f_0_0 f_1_12) okX11_isEntryCount kw_3_129 ⟨kw_3_131, kw_0_2⟩ ⟨rfl, rfl⟩ ⟨Nat.le_of_ble_eq_true rfl, Nat.le_of_ble_eq_true rfl⟩ rfl (by omega) (by omega) lay_0 rfl rfl (Nat.le_of_ble_eq_true rfl) ⟨Nat.le_of_ble_eq_true rfl, Nat.le_of_ble_eq_true rfl⟩ rfl rfl dX11_unlike_2 rfl (fun z1 M2 P3 => ?_)
  obtain ⟨rfl, P3⟩ := P3
  refine g_if_ne (n := 8) (tgt := 10) X dX11_unlike_5 (by decide) (by omega) rfl (fun c4 => ?_) (fun c4 => ?_)
  · refine g_aload_n (n := 11) X 0 dX11_unlike_10 rfl rfl rfl ?_
    refine gg_11_1 (n := 14) (z := 153) X (by omega) (by omega) lay_0 kw_2_232 dX11_unlike_11 rfl f_0_1 (by omega) ?_
    refine g_aload_n (n := 15) X 0 dX11_unlike_14 rfl rfl rfl ?_
    refine gg_11_0 (n := 18) (z := 1) X (by omega) (by omega) lay_0 kw_2_231 dX11_unlike_15 rfl f_0_0 (by omega) ?_
    refine g_iload_n (n := 19) X 1 dX11_unlike_18 rfl rfl rfl ?_
    refine g_callVv (n := 22) (As := [gA n0 1, gJ a]) (rest := []) (cs1 := 0) (ss1 := 0) X (c_X1_prepare a (by omega) (by omega) f_1_12 f_1_13 f_1_11) okX1_prepare kw_3_133 ⟨kw_3_134, kw_3_135⟩ ⟨rfl, rfl⟩ ⟨Nat.le_of_ble_eq_true rfl, Nat.le_of_ble_eq_true rfl⟩ rfl (by omega) (by omega) lay_153 rfl rfl (Nat.le_of_ble_eq_true rfl) ⟨Nat.le_of_ble_eq_true rfl, Nat.le_of_ble_eq_true rfl⟩ rfl rfl dX11_unlike_19 rfl (fun M6 P7 => ?_)
    have F8 := P7
    refine g_iconst (n := 23) X dX11_unlike_22 rfl ?_
    refine g_istore_n (n := 24) (L' := [(2, gJ 0), (0, gA n0 0), (1, gJ a)]) X dX11_unlike_23 rfl (by decide) rfl rfl ?_
    refine g_iconst (n := 25) X dX11_unlike_24 rfl ?_
    refine g_istore_n (n := 26) (L' := [(3, gJ 0), (2, gJ 0), (0, gA n0 0), (1, gJ a)]) X dX11_unlike_25 rfl (by decide) rfl rfl ?_
    refine g_iload_n (n := 27) X 0 dX11_unlike_26 rfl rfl rfl ?_
    refine g_aload_n (n := 28) X 2 dX11_unlike_27 rfl rfl rfl ?_
    refine gg_11_0 (n := 31) (z := 1) X (by omega) (by omega) lay_0 kw_2_231 dX11_unlike_28 rfl ((congrFun (F8 0 (by omega)) _).trans f_0_0) (by omega) ?_
    refine gg_9_5 (n := 34) (z := 9) X (by omega) (by omega) lay_1 kw_2_117 dX11_unlike_31 rfl ((congrFun (F8 1 (by omega)) _).trans f_1_5) (by omega) ?_
    refine gg_4_5 (n := 37) (z := 0) X (by omega) (by omega) lay_9 kw_1_73 dX11_unlike_34 rfl ((congrFun (F8 9 (by omega)) _).trans f_9_5) ?_
    refine g_icmp_ge (n := 40) (tgt := 67) X dX11_unlike_37 (by decide) (by omega) (by omega) rfl (fun c9 => ?_) (fun c9 => by exfalso; omega)
    refine g_iload_n (n := 68) X 1 dX11_unlike_67 rfl rfl rfl ?_
    exact g_ireturn X hr dX11_unlike_68 (by exact ⟨by omega, fun a h0 => ((F8 a (by omega)).trans rfl)⟩)
  · refine g_iconst (n := 9) X dX11_unlike_8 rfl ?_
    exact g_ireturn X hr dX11_unlike_9 (by exact ⟨by omega, fun a h0 => rfl⟩)
theorem dX11_force_0 : decode cX11_force 0 = .ok (.iload_n 2, 1) := by decide +kernel
theorem dX11_force_1 : decode cX11_force 1 = .ok (.iconst 0, 1) := by decide +kernel
theorem dX11_force_2 : decode cX11_force 2 = .ok (.bipush 19, 2) := by decide +kernel
theorem dX11_force_4 : decode cX11_force 4 = .ok (.invokestatic 62, 3) := by decide +kernel
theorem dX11_force_7 : decode cX11_force 7 = .ok (.ifCond .ne 5, 3) := by decide +kernel
theorem dX11_force_12 : decode cX11_force 12 = .ok (.iload_n 1, 1) := by decide +kernel
theorem dX11_force_13 : decode cX11_force 13 = .ok (.iconst 0, 1) := by decide +kernel
theorem dX11_force_14 : decode cX11_force 14 = .ok (.sipush 300, 3) := by decide +kernel
theorem dX11_force_17 : decode cX11_force 17 = .ok (.invokestatic 62, 3) := by decide +kernel
theorem dX11_force_20 : decode cX11_force 20 = .ok (.ifCond .ne 6, 3) := by decide +kernel
theorem dX11_force_26 : decode cX11_force 26 = .ok (.iload_n 2, 1) := by decide +kernel
theorem dX11_force_27 : decode cX11_force 27 = .ok (.bipush 10, 2) := by decide +kernel
theorem dX11_force_29 : decode cX11_force 29 = .ok (.if_icmp .ge 15, 3) := by decide +kernel
theorem dX11_force_44 : decode cX11_force 44 = .ok (.aload_n 0, 1) := by decide +kernel
theorem dX11_force_45 : decode cX11_force 45 = .ok (.getfield 10, 3) := by decide +kernel
theorem dX11_force_48 : decode cX11_force 48 = .ok (.iload_n 2, 1) := by decide +kernel
theorem dX11_force_49 : decode cX11_force 49 = .ok (.bipush 10, 2) := by decide +kernel
theorem dX11_force_51 : decode cX11_force 51 = .ok (.isub, 1) := by decide +kernel
theorem dX11_force_52 : decode cX11_force 52 = .ok (.iload_n 1, 1) := by decide +kernel
theorem dX11_force_53 : decode cX11_force 53 = .ok (.invokevirtual 228, 3) := by decide +kernel
theorem kw_4_92 : (Jvm.Cond.methodLink "ParishUnion" (228 : Nat) ({ cls := "ParishUnion$Union", name := "actInForce", desc := "(II)I" } : Jvm.MethodName)) ∈ gT := gT_of (tb_4 _ (List.mem_of_getElem? (i := 92) rfl)) rfl
theorem dX11_force_56 : decode cX11_force 56 = .ok (.ireturn, 1) := by decide +kernel
theorem dX11_force_32 : decode cX11_force 32 = .ok (.aload_n 0, 1) := by decide +kernel
theorem dX11_force_33 : decode cX11_force 33 = .ok (.getfield 10, 3) := by decide +kernel
theorem dX11_force_36 : decode cX11_force 36 = .ok (.iload_n 2, 1) := by decide +kernel
theorem dX11_force_37 : decode cX11_force 37 = .ok (.iload_n 1, 1) := by decide +kernel
theorem dX11_force_38 : decode cX11_force 38 = .ok (.invokevirtual 225, 3) := by decide +kernel
theorem kw_4_91 : (Jvm.Cond.methodLink "ParishUnion" (225 : Nat) ({ cls := "ParishUnion$Union", name := "law", desc := "(II)I" } : Jvm.MethodName)) ∈ gT := gT_of (tb_4 _ (List.mem_of_getElem? (i := 91) rfl)) rfl
theorem dX11_force_41 : decode cX11_force 41 = .ok (.goto 15, 3) := by decide +kernel
theorem dX11_force_23 : decode cX11_force 23 = .ok (.bipush (-2), 2) := by decide +kernel
theorem dX11_force_25 : decode cX11_force 25 = .ok (.ireturn, 1) := by decide +kernel
theorem dX11_force_10 : decode cX11_force 10 = .ok (.iconst (-1), 1) := by decide +kernel
theorem dX11_force_11 : decode cX11_force 11 = .ok (.ireturn, 1) := by decide +kernel
set_option maxRecDepth 100000 in
set_option maxHeartbeats 4000000 in
theorem c_X11_force {l : Launch} {n0 : Nat} {D : va_G} {cA : Nat → ClassId} {M : gM} (a b : Int) (r_a : -2147483648 ≤ a ∧ a ≤ 2147483647) (r_b : -2147483648 ≤ b ∧ b ≤ 2147483647) {sz : Nat} (hsz : 206 ≤ sz) (f_0_0 : M 0 0 = 2) (f_1_13 : M 1 13 = 0) : Met l yX11_force (gWsOf yX11_force cX11_force 3 (Option.some Jvm.ClassFile.FieldType.int)) { frames := 2, cells := 0, slots := 0, locals := 48 } (gPc n0 D cA [gA n0 0, gJ a, gJ b] M sz) (gQi n0 D cA sz (fun z M1 => ((¬(0 ≤ b ∧ b ≤ 19) → z = -1) ∧ (0 ≤ b → b ≤ 19 → ¬(0 ≤ a ∧ a ≤ 300) → z = -2) ∧ (10 ≤ b → b ≤ 19 → 0 ≤ a → a ≤ 300 → z = -1) ∧ (0 ≤ b → b ≤ 9 → 0 ≤ a → a ≤ 300 → ((b = 0 → z = 50) ∧ (b = 1 → z = 100) ∧ (b = 2 → z = 10) ∧ (b = 3 → z = 5) ∧ (b = 4 → z = 14) ∧ (b = 5 → z = 1) ∧ (b = 6 → z = 1) ∧ (b = 7 → z = 0) ∧ (b = 8 → z = 0) ∧ (b = 9 → z = 0)))) ∧ ∀ a : Int, M1 a = M a)) 0 0 (fun q => n0 ≤ q) := by
  refine gMet_of [gA n0 0, gJ a, gJ b] (by decide) (Nat.le_of_ble_eq_true rfl) ?_
  intro p e s m args below meth cd X hr hm
  have X : gCx p s m args meth cd n0 D cA "ParishUnion" cX11_force 3 := X
  show G p l e ({ frames := 2, cells := 0, slots := 0, locals := 48 } : Room) s m args below meth cd n0 D cA 3 (MQ below (gQi n0 D cA sz (fun z M1 => ((¬(0 ≤ b ∧ b ≤ 19) → z = -1) ∧ (0 ≤ b → b ≤ 19 → ¬(0 ≤ a ∧ a ≤ 300) → z = -2) ∧ (10 ≤ b → b ≤ 19 → 0 ≤ a → a ≤ 300 → z = -1) ∧ (0 ≤ b → b ≤ 9 → 0 ≤ a → a ≤ 300 → ((b = 0 → z = 50) ∧ (b = 1 → z = 100) ∧ (b = 2 → z = 10) ∧ (b = 3 → z = 5) ∧ (b = 4 → z = 14) ∧ (b = 5 → z = 1) ∧ (b = 6 → z = 1) ∧ (b = 7 → z = 0) ∧ (b = 8 → z = 0) ∧ (b = 9 → z = 0)))) ∧ ∀ a : Int, M1 a = M a)) args s 0 0 (fun q => n0 ≤ q)) 0 0 M sz 0 [(0, gA n0 0), (1, gJ a), (2, gJ b)] []
  refine g_iload_n (n := 1) X 2 dX11_force_0 rfl rfl rfl ?_
  refine g_iconst (n := 2) X dX11_force_1 rfl ?_
  refine g_bipush (n := 4) X dX11_force_2 (by decide +kernel) rfl ?_
  refine g_callSi (n := 7) (As := [gJ b, gJ 0, gJ 19]) (rest := []) (cs1 := 0) (ss1 := 0) X (c_X11_within b 0 19 (by omega) (by omega) (by omega) (by omega)) okX11_within kw_3_29 kw_3_30 ⟨rfl, rfl⟩ ⟨Nat.le_of_ble_eq_true rfl, Nat.le_of_ble_eq_true rfl⟩ rfl rfl (Nat.le_of_ble_eq_true rfl) ⟨Nat.le_of_ble_eq_true rfl, Nat.le_of_ble_eq_true rfl⟩ rfl rfl dX11_force_4 rfl (fun z1 M2 P3 => ?_)
  obtain ⟨rfl, P3⟩ := P3
  refine g_if_ne (n := 10) (tgt := 12) X dX11_force_7 (by decide) (by omega) rfl (fun c4 => ?_) (fun c4 => ?_)
  · refine g_iload_n (n := 13) X 1 dX11_force_12 rfl rfl rfl ?_
    refine g_iconst (n := 14) X dX11_force_13 rfl ?_
    refine g_sipush (n := 17) X dX11_force_14 (by decide +kernel) rfl ?_
    refine g_callSi (n := 20) (As := [gJ a, gJ 0, gJ 300]) (rest := []) (cs1 := 0) (ss1 := 0) X (c_X11_within a 0 300 (by omega) (by omega) (by omega) (by omega)) okX11_within kw_3_29 kw_3_30 ⟨rfl, rfl⟩ ⟨Nat.le_of_ble_eq_true rfl, Nat.le_of_ble_eq_true rfl⟩ rfl rfl (Nat.le_of_ble_eq_true rfl) ⟨Nat.le_of_ble_eq_true rfl, Nat.le_of_ble_eq_true rfl⟩ rfl rfl dX11_force_17 rfl (fun z5 M6 P7 => ?_)
    obtain ⟨rfl, P7⟩ := P7
    refine g_if_ne (n := 23) (tgt := 26) X dX11_force_20 (by decide) (by omega) rfl (fun c8 => ?_) (fun c8 => ?_)
    · refine g_iload_n (n := 27) X 2 dX11_force_26 rfl rfl rfl ?_
      refine g_bipush (n := 29) X dX11_force_27 (by decide +kernel) rfl ?_
      refine g_icmp_ge (n := 32) (tgt := 44) X dX11_force_29 (by decide) (by omega) (by omega) rfl (fun c9 => ?_) (fun c9 => ?_)
      · refine g_aload_n (n := 45) X 0 dX11_force_44 rfl rfl rfl ?_
        refine gg_11_0 (n := 48) (z := 1) X (by omega) (by omega) lay_0 kw_2_231 dX11_force_45 rfl f_0_0 (by omega) ?_
        refine g_iload_n (n := 49) X 2 dX11_force_48 rfl rfl rfl ?_
        refine g_bipush (n := 51) X dX11_force_49 (by decide +kernel) rfl ?_
        refine g_isub (n := 52) (z := b - 10) X dX11_force_51 rfl rfl ?_
        refine g_iload_n (n := 53) X 1 dX11_force_52 rfl rfl rfl ?_
        refine g_callVi (n := 56) (As := [gJ (b - 10), gJ a]) (rest := []) (cs1 := 0) (ss1 := 0) X (c_X9_actInForce (b - 10) a (by omega) (by omega) (by omega) f_1_13) okX9_actInForce kw_4_92 ⟨kw_3_142, kw_3_143⟩ ⟨rfl, rfl⟩ ⟨Nat.le_of_ble_eq_true rfl, Nat.le_of_ble_eq_true rfl⟩ rfl (by omega) (by omega) lay_1 rfl rfl (Nat.le_of_ble_eq_true rfl) ⟨Nat.le_of_ble_eq_true rfl, Nat.le_of_ble_eq_true rfl⟩ rfl rfl dX11_force_53 rfl (fun z10 M11 P12 => ?_)
        obtain ⟨rfl, rfl⟩ := P12
        exact g_ireturn X hr dX11_force_56 (by exact ⟨by omega, fun a  => rfl⟩)
      · refine g_aload_n (n := 33) X 0 dX11_force_32 rfl rfl rfl ?_
        refine gg_11_0 (n := 36) (z := 1) X (by omega) (by omega) lay_0 kw_2_231 dX11_force_33 rfl f_0_0 (by omega) ?_
        refine g_iload_n (n := 37) X 2 dX11_force_36 rfl rfl rfl ?_
        refine g_iload_n (n := 38) X 1 dX11_force_37 rfl rfl rfl ?_
        refine g_callVi (n := 41) (As := [gJ b, gJ a]) (rest := []) (cs1 := 0) (ss1 := 0) X (c_X9_law b a (by omega) (by omega) (by omega) f_1_13 (by omega)) okX9_law kw_4_91 ⟨kw_3_138, kw_3_139⟩ ⟨rfl, rfl⟩ ⟨Nat.le_of_ble_eq_true rfl, Nat.le_of_ble_eq_true rfl⟩ rfl (by omega) (by omega) lay_1 rfl rfl (Nat.le_of_ble_eq_true rfl) ⟨Nat.le_of_ble_eq_true rfl, Nat.le_of_ble_eq_true rfl⟩ rfl rfl dX11_force_38 rfl (fun z13 M14 P15 => ?_)
        obtain ⟨rfl, P15⟩ := P15
        refine g_goto (tgt := 56) X dX11_force_41 (by decide) ?_
        exact g_ireturn X hr dX11_force_56 (by exact ⟨by omega, fun a  => rfl⟩)
    · refine g_bipush (n := 25) X dX11_force_23 (by decide +kernel) rfl ?_
      exact g_ireturn X hr dX11_force_25 (by exact ⟨by omega, fun a  => rfl⟩)
  · refine g_iconst (n := 11) X dX11_force_10 rfl ?_
    exact g_ireturn X hr dX11_force_11 (by exact ⟨by omega, fun a  => rfl⟩)
theorem dX9_personsAt_0 : decode cX9_personsAt 0 = .ok (.iconst 0, 1) := by decide +kernel
theorem dX9_personsAt_1 : decode cX9_personsAt 1 = .ok (.istore_n 2, 1) := by decide +kernel
theorem dX9_personsAt_2 : decode cX9_personsAt 2 = .ok (.iconst 0, 1) := by decide +kernel
theorem dX9_personsAt_3 : decode cX9_personsAt 3 = .ok (.istore_n 3, 1) := by decide +kernel
theorem dX9_personsAt_4 : decode cX9_personsAt 4 = .ok (.iload_n 3, 1) := by decide +kernel
theorem dX9_personsAt_5 : decode cX9_personsAt 5 = .ok (.aload_n 0, 1) := by decide +kernel
theorem dX9_personsAt_6 : decode cX9_personsAt 6 = .ok (.getfield 79, 3) := by decide +kernel
theorem kw_2_126 : (Jvm.Cond.fieldLink "ParishUnion$Union" (79 : Nat) "ParishUnion$Union" "personCount" "I") ∈ gT := gT_of (tb_2 _ (List.mem_of_getElem? (i := 126) rfl)) rfl
theorem dX9_personsAt_9 : decode cX9_personsAt 9 = .ok (.if_icmp .ge 25, 3) := by decide +kernel
theorem dX9_personsAt_34 : decode cX9_personsAt 34 = .ok (.iload_n 2, 1) := by decide +kernel
theorem dX9_personsAt_35 : decode cX9_personsAt 35 = .ok (.ireturn, 1) := by decide +kernel
set_option maxRecDepth 100000 in
set_option maxHeartbeats 4000000 in
theorem c_X9_personsAt {l : Launch} {n0 : Nat} {D : va_G} {cA : Nat → ClassId} {M : gM} (a : Int) (r_a : -2147483648 ≤ a ∧ a ≤ 2147483647) {sz : Nat} (hsz : 206 ≤ sz) (f_1_10 : M 1 10 = 0) : Met l yX9_personsAt (gWsOf yX9_personsAt cX9_personsAt 4 (Option.some Jvm.ClassFile.FieldType.int)) { frames := 0, cells := 0, slots := 0, locals := 0 } (gPc n0 D cA [gA n0 1, gJ a] M sz) (gQi n0 D cA sz (fun z M1 => M = M1 ∧ (z = 0))) 0 0 (fun q => n0 ≤ q) := by
  refine gMet_of [gA n0 1, gJ a] (by decide) (Nat.le_of_ble_eq_true rfl) ?_
  intro p e s m args below meth cd X hr hm
  have X : gCx p s m args meth cd n0 D cA "ParishUnion$Union" cX9_personsAt 4 := X
  show G p l e ({ frames := 0, cells := 0, slots := 0, locals := 0 } : Room) s m args below meth cd n0 D cA 4 (MQ below (gQi n0 D cA sz (fun z M1 => M = M1 ∧ (z = 0))) args s 0 0 (fun q => n0 ≤ q)) 0 0 M sz 0 [(0, gA n0 1), (1, gJ a)] []
  refine g_iconst (n := 1) X dX9_personsAt_0 rfl ?_
  refine g_istore_n (n := 2) (L' := [(2, gJ 0), (0, gA n0 1), (1, gJ a)]) X dX9_personsAt_1 rfl (by decide) rfl rfl ?_
  refine g_iconst (n := 3) X dX9_personsAt_2 rfl ?_
  refine g_istore_n (n := 4) (L' := [(3, gJ 0), (2, gJ 0), (0, gA n0 1), (1, gJ a)]) X dX9_personsAt_3 rfl (by decide) rfl rfl ?_
  refine g_iload_n (n := 5) X 0 dX9_personsAt_4 rfl rfl rfl ?_
  refine g_aload_n (n := 6) X 2 dX9_personsAt_5 rfl rfl rfl ?_
  refine gg_9_10 (n := 9) (z := 0) X (by omega) (by omega) lay_1 kw_2_126 dX9_personsAt_6 rfl f_1_10 ?_
  refine g_icmp_ge (n := 12) (tgt := 34) X dX9_personsAt_9 (by decide) (by omega) (by omega) rfl (fun c1 => ?_) (fun c1 => by exfalso; omega)
  refine g_iload_n (n := 35) X 1 dX9_personsAt_34 rfl rfl rfl ?_
  exact g_ireturn X hr dX9_personsAt_35 (by exact ⟨rfl, by omega⟩)
theorem dX9_boundTo_0 : decode cX9_boundTo 0 = .ok (.iconst 0, 1) := by decide +kernel
theorem dX9_boundTo_1 : decode cX9_boundTo 1 = .ok (.istore_n 2, 1) := by decide +kernel
theorem dX9_boundTo_2 : decode cX9_boundTo 2 = .ok (.iconst 0, 1) := by decide +kernel
theorem dX9_boundTo_3 : decode cX9_boundTo 3 = .ok (.istore_n 3, 1) := by decide +kernel
theorem dX9_boundTo_4 : decode cX9_boundTo 4 = .ok (.iload_n 3, 1) := by decide +kernel
theorem dX9_boundTo_5 : decode cX9_boundTo 5 = .ok (.aload_n 0, 1) := by decide +kernel
theorem dX9_boundTo_6 : decode cX9_boundTo 6 = .ok (.getfield 79, 3) := by decide +kernel
theorem dX9_boundTo_9 : decode cX9_boundTo 9 = .ok (.if_icmp .ge 25, 3) := by decide +kernel
theorem dX9_boundTo_34 : decode cX9_boundTo 34 = .ok (.iload_n 2, 1) := by decide +kernel
theorem dX9_boundTo_35 : decode cX9_boundTo 35 = .ok (.ireturn, 1) := by decide +kernel
set_option maxRecDepth 100000 in
set_option maxHeartbeats 4000000 in
theorem c_X9_boundTo {l : Launch} {n0 : Nat} {D : va_G} {cA : Nat → ClassId} {M : gM} (a : Int) (r_a : -2147483648 ≤ a ∧ a ≤ 2147483647) {sz : Nat} (hsz : 206 ≤ sz) (f_1_10 : M 1 10 = 0) : Met l yX9_boundTo (gWsOf yX9_boundTo cX9_boundTo 4 (Option.some Jvm.ClassFile.FieldType.int)) { frames := 0, cells := 0, slots := 0, locals := 0 } (gPc n0 D cA [gA n0 1, gJ a] M sz) (gQi n0 D cA sz (fun z M1 => M = M1 ∧ (z = 0))) 0 0 (fun q => n0 ≤ q) := by
  refine gMet_of [gA n0 1, gJ a] (by decide) (Nat.le_of_ble_eq_true rfl) ?_
  intro p e s m args below meth cd X hr hm
  have X : gCx p s m args meth cd n0 D cA "ParishUnion$Union" cX9_boundTo 4 := X
  show G p l e ({ frames := 0, cells := 0, slots := 0, locals := 0 } : Room) s m args below meth cd n0 D cA 4 (MQ below (gQi n0 D cA sz (fun z M1 => M = M1 ∧ (z = 0))) args s 0 0 (fun q => n0 ≤ q)) 0 0 M sz 0 [(0, gA n0 1), (1, gJ a)] []
  refine g_iconst (n := 1) X dX9_boundTo_0 rfl ?_
  refine g_istore_n (n := 2) (L' := [(2, gJ 0), (0, gA n0 1), (1, gJ a)]) X dX9_boundTo_1 rfl (by decide) rfl rfl ?_
  refine g_iconst (n := 3) X dX9_boundTo_2 rfl ?_
  refine g_istore_n (n := 4) (L' := [(3, gJ 0), (2, gJ 0), (0, gA n0 1), (1, gJ a)]) X dX9_boundTo_3 rfl (by decide) rfl rfl ?_
  refine g_iload_n (n := 5) X 0 dX9_boundTo_4 rfl rfl rfl ?_
  refine g_aload_n (n := 6) X 2 dX9_boundTo_5 rfl rfl rfl ?_
  refine gg_9_10 (n := 9) (z := 0) X (by omega) (by omega) lay_1 kw_2_126 dX9_boundTo_6 rfl f_1_10 ?_
  refine g_icmp_ge (n := 12) (tgt := 34) X dX9_boundTo_9 (by decide) (by omega) (by omega) rfl (fun c1 => ?_) (fun c1 => by exfalso; omega)
  refine g_iload_n (n := 35) X 1 dX9_boundTo_34 rfl rfl rfl ?_
  exact g_ireturn X hr dX9_boundTo_35 (by exact ⟨rfl, by omega⟩)
theorem dX11_count_0 : decode cX11_count 0 = .ok (.iload_n 1, 1) := by decide +kernel
theorem dX11_count_1 : decode cX11_count 1 = .ok (.tableswitch 204 0 13 #[71, 79, 87, 95, 103, 114, 122, 130, 140, 150, 160, 171, 182, 193], 71) := by decide +kernel
theorem dX11_count_72 : decode cX11_count 72 = .ok (.aload_n 0, 1) := by decide +kernel
theorem dX11_count_73 : decode cX11_count 73 = .ok (.getfield 10, 3) := by decide +kernel
theorem dX11_count_76 : decode cX11_count 76 = .ok (.getfield 98, 3) := by decide +kernel
theorem dX11_count_79 : decode cX11_count 79 = .ok (.ireturn, 1) := by decide +kernel
theorem dX11_count_80 : decode cX11_count 80 = .ok (.aload_n 0, 1) := by decide +kernel
theorem dX11_count_81 : decode cX11_count 81 = .ok (.getfield 10, 3) := by decide +kernel
theorem dX11_count_84 : decode cX11_count 84 = .ok (.getfield 423, 3) := by decide +kernel
theorem dX11_count_87 : decode cX11_count 87 = .ok (.ireturn, 1) := by decide +kernel
theorem dX11_count_88 : decode cX11_count 88 = .ok (.aload_n 0, 1) := by decide +kernel
theorem dX11_count_89 : decode cX11_count 89 = .ok (.getfield 10, 3) := by decide +kernel
theorem dX11_count_92 : decode cX11_count 92 = .ok (.getfield 152, 3) := by decide +kernel
theorem dX11_count_95 : decode cX11_count 95 = .ok (.ireturn, 1) := by decide +kernel
theorem dX11_count_96 : decode cX11_count 96 = .ok (.aload_n 0, 1) := by decide +kernel
theorem dX11_count_97 : decode cX11_count 97 = .ok (.getfield 10, 3) := by decide +kernel
theorem dX11_count_100 : decode cX11_count 100 = .ok (.getfield 219, 3) := by decide +kernel
theorem kw_2_135 : (Jvm.Cond.fieldLink "ParishUnion" (219 : Nat) "ParishUnion$Union" "actCount" "I") ∈ gT := gT_of (tb_2 _ (List.mem_of_getElem? (i := 135) rfl)) rfl
theorem dX11_count_103 : decode cX11_count 103 = .ok (.ireturn, 1) := by decide +kernel
theorem dX11_count_104 : decode cX11_count 104 = .ok (.aload_n 0, 1) := by decide +kernel
theorem dX11_count_105 : decode cX11_count 105 = .ok (.getfield 10, 3) := by decide +kernel
theorem dX11_count_108 : decode cX11_count 108 = .ok (.getfield 247, 3) := by decide +kernel
theorem dX11_count_111 : decode cX11_count 111 = .ok (.getfield 251, 3) := by decide +kernel
theorem dX11_count_114 : decode cX11_count 114 = .ok (.ireturn, 1) := by decide +kernel
theorem dX11_count_115 : decode cX11_count 115 = .ok (.aload_n 0, 1) := by decide +kernel
theorem dX11_count_116 : decode cX11_count 116 = .ok (.getfield 10, 3) := by decide +kernel
theorem dX11_count_119 : decode cX11_count 119 = .ok (.getfield 85, 3) := by decide +kernel
theorem dX11_count_122 : decode cX11_count 122 = .ok (.ireturn, 1) := by decide +kernel
theorem dX11_count_123 : decode cX11_count 123 = .ok (.aload_n 0, 1) := by decide +kernel
theorem dX11_count_124 : decode cX11_count 124 = .ok (.getfield 10, 3) := by decide +kernel
theorem dX11_count_127 : decode cX11_count 127 = .ok (.getfield 212, 3) := by decide +kernel
theorem kw_2_137 : (Jvm.Cond.fieldLink "ParishUnion" (212 : Nat) "ParishUnion$Union" "tapeSize" "I") ∈ gT := gT_of (tb_2 _ (List.mem_of_getElem? (i := 137) rfl)) rfl
theorem dX11_count_130 : decode cX11_count 130 = .ok (.ireturn, 1) := by decide +kernel
theorem dX11_count_131 : decode cX11_count 131 = .ok (.aload_n 0, 1) := by decide +kernel
theorem dX11_count_132 : decode cX11_count 132 = .ok (.getfield 10, 3) := by decide +kernel
theorem dX11_count_135 : decode cX11_count 135 = .ok (.bipush 6, 2) := by decide +kernel
theorem dX11_count_137 : decode cX11_count 137 = .ok (.invokevirtual 426, 3) := by decide +kernel
theorem kw_6_17 : (Jvm.Cond.methodLink "ParishUnion" (426 : Nat) ({ cls := "ParishUnion$Union", name := "personsAt", desc := "(I)I" } : Jvm.MethodName)) ∈ gT := gT_of (tb_6 _ (List.mem_of_getElem? (i := 17) rfl)) rfl
theorem kw_6_20 : (Jvm.Cond.code ({ cls := "ParishUnion$Union", name := "personsAt", desc := "(I)I" } : Jvm.MethodName) prog_11_method_7_code (4 : Nat) (Option.some Jvm.ClassFile.FieldType.int)) ∈ gT := gT_of (tb_6 _ (List.mem_of_getElem? (i := 20) rfl)) rfl
theorem okX9_personsAt : gQok yX9_personsAt cX9_personsAt 4 (Option.some Jvm.ClassFile.FieldType.int) 1 := ⟨kw_6_20, kw_1_2, by decide +kernel, by decide +kernel, by decide +kernel⟩
theorem kw_6_18 : (Jvm.Cond.instanceMethod ({ cls := "ParishUnion$Union", name := "personsAt", desc := "(I)I" } : Jvm.MethodName)) ∈ gT := gT_of (tb_6 _ (List.mem_of_getElem? (i := 18) rfl)) rfl
theorem kw_6_19 : (Jvm.Cond.selects "ParishUnion$Union" ({ cls := "ParishUnion$Union", name := "personsAt", desc := "(I)I" } : Jvm.MethodName) ({ cls := "ParishUnion$Union", name := "personsAt", desc := "(I)I" } : Jvm.MethodName)) ∈ gT := gT_of (tb_6 _ (List.mem_of_getElem? (i := 19) rfl)) rfl
theorem dX11_count_140 : decode cX11_count 140 = .ok (.ireturn, 1) := by decide +kernel
theorem dX11_count_141 : decode cX11_count 141 = .ok (.aload_n 0, 1) := by decide +kernel
theorem dX11_count_142 : decode cX11_count 142 = .ok (.getfield 10, 3) := by decide +kernel
theorem dX11_count_145 : decode cX11_count 145 = .ok (.bipush 8, 2) := by decide +kernel
theorem dX11_count_147 : decode cX11_count 147 = .ok (.invokevirtual 426, 3) := by decide +kernel
theorem dX11_count_150 : decode cX11_count 150 = .ok (.ireturn, 1) := by decide +kernel
theorem dX11_count_151 : decode cX11_count 151 = .ok (.aload_n 0, 1) := by decide +kernel
theorem dX11_count_152 : decode cX11_count 152 = .ok (.getfield 10, 3) := by decide +kernel
theorem dX11_count_155 : decode cX11_count 155 = .ok (.bipush 7, 2) := by decide +kernel
theorem dX11_count_157 : decode cX11_count 157 = .ok (.invokevirtual 426, 3) := by decide +kernel
theorem dX11_count_160 : decode cX11_count 160 = .ok (.ireturn, 1) := by decide +kernel
theorem dX11_count_161 : decode cX11_count 161 = .ok (.aload_n 0, 1) := by decide +kernel
theorem dX11_count_162 : decode cX11_count 162 = .ok (.getfield 10, 3) := by decide +kernel
theorem dX11_count_165 : decode cX11_count 165 = .ok (.getfield 336, 3) := by decide +kernel
theorem kw_2_123 : (Jvm.Cond.fieldLink "ParishUnion" (336 : Nat) "ParishUnion$Union" "vagrants" "LParishUnion$Vagrants;") ∈ gT := gT_of (tb_2 _ (List.mem_of_getElem? (i := 123) rfl)) rfl
theorem dX11_count_168 : decode cX11_count 168 = .ok (.getfield 340, 3) := by decide +kernel
theorem kw_1_160 : (Jvm.Cond.fieldLink "ParishUnion" (340 : Nat) "ParishUnion$Vagrants" "count" "I") ∈ gT := gT_of (tb_1 _ (List.mem_of_getElem? (i := 160) rfl)) rfl
theorem dX11_count_171 : decode cX11_count 171 = .ok (.ireturn, 1) := by decide +kernel
theorem dX11_count_172 : decode cX11_count 172 = .ok (.aload_n 0, 1) := by decide +kernel
theorem dX11_count_173 : decode cX11_count 173 = .ok (.getfield 10, 3) := by decide +kernel
theorem dX11_count_176 : decode cX11_count 176 = .ok (.getfield 279, 3) := by decide +kernel
theorem dX11_count_179 : decode cX11_count 179 = .ok (.getfield 367, 3) := by decide +kernel
theorem kw_1_108 : (Jvm.Cond.fieldLink "ParishUnion" (367 : Nat) "ParishUnion$House" "choices" "I") ∈ gT := gT_of (tb_1 _ (List.mem_of_getElem? (i := 108) rfl)) rfl
theorem dX11_count_182 : decode cX11_count 182 = .ok (.ireturn, 1) := by decide +kernel
theorem dX11_count_183 : decode cX11_count 183 = .ok (.aload_n 0, 1) := by decide +kernel
theorem dX11_count_184 : decode cX11_count 184 = .ok (.getfield 10, 3) := by decide +kernel
theorem dX11_count_187 : decode cX11_count 187 = .ok (.getfield 279, 3) := by decide +kernel
theorem dX11_count_190 : decode cX11_count 190 = .ok (.getfield 282, 3) := by decide +kernel
theorem dX11_count_193 : decode cX11_count 193 = .ok (.ireturn, 1) := by decide +kernel
theorem dX11_count_194 : decode cX11_count 194 = .ok (.aload_n 0, 1) := by decide +kernel
theorem dX11_count_195 : decode cX11_count 195 = .ok (.getfield 10, 3) := by decide +kernel
theorem dX11_count_198 : decode cX11_count 198 = .ok (.getfield 279, 3) := by decide +kernel
theorem dX11_count_201 : decode cX11_count 201 = .ok (.getfield 288, 3) := by decide +kernel
theorem dX11_count_204 : decode cX11_count 204 = .ok (.ireturn, 1) := by decide +kernel
theorem dX11_count_205 : decode cX11_count 205 = .ok (.iconst (-1), 1) := by decide +kernel
theorem dX11_count_206 : decode cX11_count 206 = .ok (.ireturn, 1) := by decide +kernel
set_option maxRecDepth 100000 in
set_option maxHeartbeats 4000000 in
theorem c_X11_count {l : Launch} {n0 : Nat} {D : va_G} {cA : Nat → ClassId} {M : gM} (a : Int) (r_a : -2147483648 ≤ a ∧ a ≤ 2147483647) {sz : Nat} (hsz : 206 ≤ sz) (f_0_0 : M 0 0 = 2) (f_1_10 : M 1 10 = 0) (f_1_11 : M 1 11 = 0) (f_1_12 : M 1 12 = 0) (f_1_13 : M 1 13 = 0) (f_1_5 : M 1 5 = 10) (f_9_5 : M 9 5 = 0) (f_1_15 : M 1 15 = 0) (f_1_14 : M 1 14 = 0) (f_1_8 : M 1 8 = 27) (f_26_3 : M 26 3 = 0) (f_1_6 : M 1 6 = 16) (f_15_7 : M 15 7 = 0) (f_15_8 : M 15 8 = 0) (f_15_9 : M 15 9 = 1) : Met l yX11_count (gWsOf yX11_count cX11_count 2 (Option.some Jvm.ClassFile.FieldType.int)) { frames := 1, cells := 0, slots := 0, locals := 23 } (gPc n0 D cA [gA n0 0, gJ a] M sz) (gQi n0 D cA sz (fun z M1 => ((0 ≤ a → a ≤ 12 → z = 0) ∧ (a = 13 → z = 1) ∧ (¬(0 ≤ a ∧ a ≤ 13) → z = -1)) ∧ ∀ a : Int, M1 a = M a)) 0 0 (fun q => n0 ≤ q) := by
  refine gMet_of [gA n0 0, gJ a] (by decide) (Nat.le_of_ble_eq_true rfl) ?_
  intro p e s m args below meth cd X hr hm
  have X : gCx p s m args meth cd n0 D cA "ParishUnion" cX11_count 2 := X
  show G p l e ({ frames := 1, cells := 0, slots := 0, locals := 23 } : Room) s m args below meth cd n0 D cA 2 (MQ below (gQi n0 D cA sz (fun z M1 => ((0 ≤ a → a ≤ 12 → z = 0) ∧ (a = 13 → z = 1) ∧ (¬(0 ≤ a ∧ a ≤ 13) → z = -1)) ∧ ∀ a : Int, M1 a = M a)) args s 0 0 (fun q => n0 ≤ q)) 0 0 M sz 0 [(0, gA n0 0), (1, gJ a)] []
  refine g_iload_n (n := 1) X 1 dX11_count_0 rfl rfl rfl ?_
  by_cases c1 : a = 0
  · refine g_tableIn (tgt := 72) X 0 dX11_count_1 (by omega) (by omega) (by omega) (by omega) rfl (by decide) ?_
    refine g_aload_n (n := 73) X 0 dX11_count_72 rfl rfl rfl ?_
    refine gg_11_0 (n := 76) (z := 1) X (by omega) (by omega) lay_0 kw_2_231 dX11_count_73 rfl f_0_0 (by omega) ?_
    refine gg_9_10 (n := 79) (z := 0) X (by omega) (by omega) lay_1 kw_2_127 dX11_count_76 rfl f_1_10 ?_
    exact g_ireturn X hr dX11_count_79 (by exact ⟨by omega, fun a  => rfl⟩)
  by_cases c2 : a = 1
  · refine g_tableIn (tgt := 80) X 1 dX11_count_1 (by omega) (by omega) (by omega) (by omega) rfl (by decide) ?_
    refine g_aload_n (n := 81) X 0 dX11_count_80 rfl rfl rfl ?_
    refine gg_11_0 (n := 84) (z := 1) X (by omega) (by omega) lay_0 kw_2_231 dX11_count_81 rfl f_0_0 (by omega) ?_
    refine gg_9_11 (n := 87) (z := 0) X (by omega) (by omega) lay_1 kw_2_130 dX11_count_84 rfl f_1_11 ?_
    exact g_ireturn X hr dX11_count_87 (by exact ⟨by omega, fun a  => rfl⟩)
  by_cases c3 : a = 2
  · refine g_tableIn (tgt := 88) X 2 dX11_count_1 (by omega) (by omega) (by omega) (by omega) rfl (by decide) ?_
    refine g_aload_n (n := 89) X 0 dX11_count_88 rfl rfl rfl ?_
    refine gg_11_0 (n := 92) (z := 1) X (by omega) (by omega) lay_0 kw_2_231 dX11_count_89 rfl f_0_0 (by omega) ?_
    refine gg_9_12 (n := 95) (z := 0) X (by omega) (by omega) lay_1 kw_2_133 dX11_count_92 rfl f_1_12 ?_
    exact g_ireturn X hr dX11_count_95 (by exact ⟨by omega, fun a  => rfl⟩)
  by_cases c4 : a = 3
  · refine g_tableIn (tgt := 96) X 3 dX11_count_1 (by omega) (by omega) (by omega) (by omega) rfl (by decide) ?_
    refine g_aload_n (n := 97) X 0 dX11_count_96 rfl rfl rfl ?_
    refine gg_11_0 (n := 100) (z := 1) X (by omega) (by omega) lay_0 kw_2_231 dX11_count_97 rfl f_0_0 (by omega) ?_
    refine gg_9_13 (n := 103) (z := 0) X (by omega) (by omega) lay_1 kw_2_135 dX11_count_100 rfl f_1_13 ?_
    exact g_ireturn X hr dX11_count_103 (by exact ⟨by omega, fun a  => rfl⟩)
  by_cases c5 : a = 4
  · refine g_tableIn (tgt := 104) X 4 dX11_count_1 (by omega) (by omega) (by omega) (by omega) rfl (by decide) ?_
    refine g_aload_n (n := 105) X 0 dX11_count_104 rfl rfl rfl ?_
    refine gg_11_0 (n := 108) (z := 1) X (by omega) (by omega) lay_0 kw_2_231 dX11_count_105 rfl f_0_0 (by omega) ?_
    refine gg_9_5 (n := 111) (z := 9) X (by omega) (by omega) lay_1 kw_2_117 dX11_count_108 rfl f_1_5 (by omega) ?_
    refine gg_4_5 (n := 114) (z := 0) X (by omega) (by omega) lay_9 kw_1_73 dX11_count_111 rfl f_9_5 ?_
    exact g_ireturn X hr dX11_count_114 (by exact ⟨by omega, fun a  => rfl⟩)
  by_cases c6 : a = 5
  · refine g_tableIn (tgt := 115) X 5 dX11_count_1 (by omega) (by omega) (by omega) (by omega) rfl (by decide) ?_
    refine g_aload_n (n := 116) X 0 dX11_count_115 rfl rfl rfl ?_
    refine gg_11_0 (n := 119) (z := 1) X (by omega) (by omega) lay_0 kw_2_231 dX11_count_116 rfl f_0_0 (by omega) ?_
    refine gg_9_15 (n := 122) (z := 0) X (by omega) (by omega) lay_1 kw_2_139 dX11_count_119 rfl f_1_15 ?_
    exact g_ireturn X hr dX11_count_122 (by exact ⟨by omega, fun a  => rfl⟩)
  by_cases c7 : a = 6
  · refine g_tableIn (tgt := 123) X 6 dX11_count_1 (by omega) (by omega) (by omega) (by omega) rfl (by decide) ?_
    refine g_aload_n (n := 124) X 0 dX11_count_123 rfl rfl rfl ?_
    refine gg_11_0 (n := 127) (z := 1) X (by omega) (by omega) lay_0 kw_2_231 dX11_count_124 rfl f_0_0 (by omega) ?_
    refine gg_9_14 (n := 130) (z := 0) X (by omega) (by omega) lay_1 kw_2_137 dX11_count_127 rfl f_1_14 ?_
    exact g_ireturn X hr dX11_count_130 (by exact ⟨by omega, fun a  => rfl⟩)
  by_cases c8 : a = 7
  · refine g_tableIn (tgt := 131) X 7 dX11_count_1 (by omega) (by omega) (by omega) (by omega) rfl (by decide) ?_
    refine g_aload_n (n := 132) X 0 dX11_count_131 rfl rfl rfl ?_
    refine gg_11_0 (n := 135) (z := 1) X (by omega) (by omega) lay_0 kw_2_231 dX11_count_132 rfl f_0_0 (by omega) ?_
    refine g_bipush (n := 137) X dX11_count_135 (by decide +kernel) rfl ?_
    refine g_callVi (n := 140) (As := [gJ 6]) (rest := []) (cs1 := 0) (ss1 := 0) X (c_X9_personsAt 6 (by omega) (by omega) f_1_10) okX9_personsAt kw_6_17 ⟨kw_6_18, kw_6_19⟩ ⟨rfl, rfl⟩ ⟨Nat.le_of_ble_eq_true rfl, Nat.le_of_ble_eq_true rfl⟩ rfl (by omega) (by omega) lay_1 rfl rfl (Nat.le_of_ble_eq_true rfl) ⟨Nat.le_of_ble_eq_true rfl, Nat.le_of_ble_eq_true rfl⟩ rfl rfl dX11_count_137 rfl (fun z9 M10 P11 => ?_)
    obtain ⟨rfl, rfl⟩ := P11
    exact g_ireturn X hr dX11_count_140 (by exact ⟨by omega, fun a  => rfl⟩)
  by_cases c12 : a = 8
  · refine g_tableIn (tgt := 141) X 8 dX11_count_1 (by omega) (by omega) (by omega) (by omega) rfl (by decide) ?_
    refine g_aload_n (n := 142) X 0 dX11_count_141 rfl rfl rfl ?_
    refine gg_11_0 (n := 145) (z := 1) X (by omega) (by omega) lay_0 kw_2_231 dX11_count_142 rfl f_0_0 (by omega) ?_
    refine g_bipush (n := 147) X dX11_count_145 (by decide +kernel) rfl ?_
    refine g_callVi (n := 150) (As := [gJ 8]) (rest := []) (cs1 := 0) (ss1 := 0) X (c_X9_personsAt 8 (by omega) (by omega) f_1_10) okX9_personsAt kw_6_17 ⟨kw_6_18, kw_6_19⟩ ⟨rfl, rfl⟩ ⟨Nat.le_of_ble_eq_true rfl, Nat.le_of_ble_eq_true rfl⟩ rfl (by omega) (by omega) lay_1 rfl rfl (Nat.le_of_ble_eq_true rfl) ⟨Nat.le_of_ble_eq_true rfl, Nat.le_of_ble_eq_true rfl⟩ rfl rfl dX11_count_147 rfl (fun z13 M14 P15 => ?_)
    obtain ⟨rfl, rfl⟩ := P15
    exact g_ireturn X hr dX11_count_150 (by exact ⟨by omega, fun a  => rfl⟩)
  by_cases c16 : a = 9
  · refine g_tableIn (tgt := 151) X 9 dX11_count_1 (by omega) (by omega) (by omega) (by omega) rfl (by decide) ?_
    refine g_aload_n (n := 152) X 0 dX11_count_151 rfl rfl rfl ?_
    refine gg_11_0 (n := 155) (z := 1) X (by omega) (by omega) lay_0 kw_2_231 dX11_count_152 rfl f_0_0 (by omega) ?_
    refine g_bipush (n := 157) X dX11_count_155 (by decide +kernel) rfl ?_
    refine g_callVi (n := 160) (As := [gJ 7]) (rest := []) (cs1 := 0) (ss1 := 0) X (c_X9_personsAt 7 (by omega) (by omega) f_1_10) okX9_personsAt kw_6_17 ⟨kw_6_18, kw_6_19⟩ ⟨rfl, rfl⟩ ⟨Nat.le_of_ble_eq_true rfl, Nat.le_of_ble_eq_true rfl⟩ rfl (by omega) (by omega) lay_1 rfl rfl (Nat.le_of_ble_eq_true rfl) ⟨Nat.le_of_ble_eq_true rfl, Nat.le_of_ble_eq_true rfl⟩ rfl rfl dX11_count_157 rfl (fun z17 M18 P19 => ?_)
    obtain ⟨rfl, rfl⟩ := P19
    exact g_ireturn X hr dX11_count_160 (by exact ⟨by omega, fun a  => rfl⟩)
  by_cases c20 : a = 10
  · refine g_tableIn (tgt := 161) X 10 dX11_count_1 (by omega) (by omega) (by omega) (by omega) rfl (by decide) ?_
    refine g_aload_n (n := 162) X 0 dX11_count_161 rfl rfl rfl ?_
    refine gg_11_0 (n := 165) (z := 1) X (by omega) (by omega) lay_0 kw_2_231 dX11_count_162 rfl f_0_0 (by omega) ?_
    refine gg_9_8 (n := 168) (z := 26) X (by omega) (by omega) lay_1 kw_2_123 dX11_count_165 rfl f_1_8 (by omega) ?_
    refine gg_10_3 (n := 171) (z := 0) X (by omega) (by omega) lay_26 kw_1_160 dX11_count_168 rfl f_26_3 ?_
    exact g_ireturn X hr dX11_count_171 (by exact ⟨by omega, fun a  => rfl⟩)
  by_cases c21 : a = 11
  · refine g_tableIn (tgt := 172) X 11 dX11_count_1 (by omega) (by omega) (by omega) (by omega) rfl (by decide) ?_
    refine g_aload_n (n := 173) X 0 dX11_count_172 rfl rfl rfl ?_
    refine gg_11_0 (n := 176) (z := 1) X (by omega) (by omega) lay_0 kw_2_231 dX11_count_173 rfl f_0_0 (by omega) ?_
    refine gg_9_6 (n := 179) (z := 15) X (by omega) (by omega) lay_1 kw_2_119 dX11_count_176 rfl f_1_6 (by omega) ?_
    refine gg_2_7 (n := 182) (z := 0) X (by omega) (by omega) lay_15 kw_1_108 dX11_count_179 rfl f_15_7 ?_
    exact g_ireturn X hr dX11_count_182 (by exact ⟨by omega, fun a  => rfl⟩)
  by_cases c22 : a = 12
  · refine g_tableIn (tgt := 183) X 12 dX11_count_1 (by omega) (by omega) (by omega) (by omega) rfl (by decide) ?_
    refine g_aload_n (n := 184) X 0 dX11_count_183 rfl rfl rfl ?_
    refine gg_11_0 (n := 187) (z := 1) X (by omega) (by omega) lay_0 kw_2_231 dX11_count_184 rfl f_0_0 (by omega) ?_
    refine gg_9_6 (n := 190) (z := 15) X (by omega) (by omega) lay_1 kw_2_119 dX11_count_187 rfl f_1_6 (by omega) ?_
    refine gg_2_8 (n := 193) (z := 0) X (by omega) (by omega) lay_15 kw_1_111 dX11_count_190 rfl f_15_8 ?_
    exact g_ireturn X hr dX11_count_193 (by exact ⟨by omega, fun a  => rfl⟩)
  by_cases c23 : a = 13
  · refine g_tableIn (tgt := 194) X 13 dX11_count_1 (by omega) (by omega) (by omega) (by omega) rfl (by decide) ?_
    refine g_aload_n (n := 195) X 0 dX11_count_194 rfl rfl rfl ?_
    refine gg_11_0 (n := 198) (z := 1) X (by omega) (by omega) lay_0 kw_2_231 dX11_count_195 rfl f_0_0 (by omega) ?_
    refine gg_9_6 (n := 201) (z := 15) X (by omega) (by omega) lay_1 kw_2_119 dX11_count_198 rfl f_1_6 (by omega) ?_
    refine gg_2_9 (n := 204) (z := 1) X (by omega) (by omega) lay_15 kw_1_114 dX11_count_201 rfl f_15_9 ?_
    exact g_ireturn X hr dX11_count_204 (by exact ⟨by omega, fun a  => rfl⟩)
  refine g_tableOut (tgt := 205) X dX11_count_1 (by omega) (by omega) (by decide) ?_
  refine g_iconst (n := 206) X dX11_count_205 rfl ?_
  exact g_ireturn X hr dX11_count_206 (by exact ⟨by omega, fun a  => rfl⟩)
theorem dX11_master_0 : decode cX11_master 0 = .ok (.iload_n 1, 1) := by decide +kernel
theorem dX11_master_1 : decode cX11_master 1 = .ok (.iconst 0, 1) := by decide +kernel
theorem dX11_master_2 : decode cX11_master 2 = .ok (.iconst 3, 1) := by decide +kernel
theorem dX11_master_3 : decode cX11_master 3 = .ok (.invokestatic 62, 3) := by decide +kernel
theorem dX11_master_6 : decode cX11_master 6 = .ok (.ifCond .ne 5, 3) := by decide +kernel
theorem dX11_master_11 : decode cX11_master 11 = .ok (.iload_n 2, 1) := by decide +kernel
theorem dX11_master_12 : decode cX11_master 12 = .ok (.iconst 0, 1) := by decide +kernel
theorem dX11_master_13 : decode cX11_master 13 = .ok (.bipush 9, 2) := by decide +kernel
theorem dX11_master_15 : decode cX11_master 15 = .ok (.invokestatic 62, 3) := by decide +kernel
theorem dX11_master_18 : decode cX11_master 18 = .ok (.ifCond .eq 15, 3) := by decide +kernel
theorem dX11_master_33 : decode cX11_master 33 = .ok (.bipush (-2), 2) := by decide +kernel
theorem dX11_master_35 : decode cX11_master 35 = .ok (.ireturn, 1) := by decide +kernel
theorem dX11_master_21 : decode cX11_master 21 = .ok (.iload_n 2, 1) := by decide +kernel
theorem dX11_master_22 : decode cX11_master 22 = .ok (.aload_n 0, 1) := by decide +kernel
theorem dX11_master_23 : decode cX11_master 23 = .ok (.getfield 10, 3) := by decide +kernel
theorem dX11_master_26 : decode cX11_master 26 = .ok (.iload_n 1, 1) := by decide +kernel
theorem dX11_master_27 : decode cX11_master 27 = .ok (.invokevirtual 355, 3) := by decide +kernel
theorem kw_5_113 : (Jvm.Cond.methodLink "ParishUnion" (355 : Nat) ({ cls := "ParishUnion$Union", name := "boundTo", desc := "(I)I" } : Jvm.MethodName)) ∈ gT := gT_of (tb_5 _ (List.mem_of_getElem? (i := 113) rfl)) rfl
theorem kw_5_116 : (Jvm.Cond.code ({ cls := "ParishUnion$Union", name := "boundTo", desc := "(I)I" } : Jvm.MethodName) prog_11_method_8_code (4 : Nat) (Option.some Jvm.ClassFile.FieldType.int)) ∈ gT := gT_of (tb_5 _ (List.mem_of_getElem? (i := 116) rfl)) rfl
theorem okX9_boundTo : gQok yX9_boundTo cX9_boundTo 4 (Option.some Jvm.ClassFile.FieldType.int) 1 := ⟨kw_5_116, kw_1_2, by decide +kernel, by decide +kernel, by decide +kernel⟩
theorem kw_5_114 : (Jvm.Cond.instanceMethod ({ cls := "ParishUnion$Union", name := "boundTo", desc := "(I)I" } : Jvm.MethodName)) ∈ gT := gT_of (tb_5 _ (List.mem_of_getElem? (i := 114) rfl)) rfl
theorem kw_5_115 : (Jvm.Cond.selects "ParishUnion$Union" ({ cls := "ParishUnion$Union", name := "boundTo", desc := "(I)I" } : Jvm.MethodName) ({ cls := "ParishUnion$Union", name := "boundTo", desc := "(I)I" } : Jvm.MethodName)) ∈ gT := gT_of (tb_5 _ (List.mem_of_getElem? (i := 115) rfl)) rfl
theorem dX11_master_30 : decode cX11_master 30 = .ok (.if_icmp .ge 6, 3) := by decide +kernel
theorem dX11_master_36 : decode cX11_master 36 = .ok (.aload_n 0, 1) := by decide +kernel
theorem dX11_master_37 : decode cX11_master 37 = .ok (.getfield 10, 3) := by decide +kernel
theorem dX11_master_40 : decode cX11_master 40 = .ok (.getfield 358, 3) := by decide +kernel
theorem kw_2_125 : (Jvm.Cond.fieldLink "ParishUnion" (358 : Nat) "ParishUnion$Union" "rooms" "[I") ∈ gT := gT_of (tb_2 _ (List.mem_of_getElem? (i := 125) rfl)) rfl
theorem dX11_master_43 : decode cX11_master 43 = .ok (.iload_n 1, 1) := by decide +kernel
theorem dX11_master_44 : decode cX11_master 44 = .ok (.iaload, 1) := by decide +kernel
theorem dX11_master_45 : decode cX11_master 45 = .ok (.istore_n 3, 1) := by decide +kernel
theorem dX11_master_46 : decode cX11_master 46 = .ok (.aload_n 0, 1) := by decide +kernel
theorem dX11_master_47 : decode cX11_master 47 = .ok (.getfield 10, 3) := by decide +kernel
theorem dX11_master_50 : decode cX11_master 50 = .ok (.getfield 358, 3) := by decide +kernel
theorem dX11_master_53 : decode cX11_master 53 = .ok (.iload_n 1, 1) := by decide +kernel
theorem dX11_master_54 : decode cX11_master 54 = .ok (.iload_n 2, 1) := by decide +kernel
theorem dX11_master_55 : decode cX11_master 55 = .ok (.iastore, 1) := by decide +kernel
theorem dX11_master_56 : decode cX11_master 56 = .ok (.iload_n 3, 1) := by decide +kernel
theorem dX11_master_57 : decode cX11_master 57 = .ok (.ireturn, 1) := by decide +kernel
theorem dX11_master_9 : decode cX11_master 9 = .ok (.iconst (-1), 1) := by decide +kernel
theorem dX11_master_10 : decode cX11_master 10 = .ok (.ireturn, 1) := by decide +kernel
set_option maxRecDepth 100000 in
set_option maxHeartbeats 4000000 in
theorem c_X11_master {l : Launch} {n0 : Nat} {D : va_G} {cA : Nat → ClassId} {M : gM} (a b : Int) (r_a : -2147483648 ≤ a ∧ a ≤ 2147483647) (r_b : -2147483648 ≤ b ∧ b ≤ 2147483647) {sz : Nat} (hsz : 206 ≤ sz) (f_0_0 : M 0 0 = 2) (f_1_10 : M 1 10 = 0) (f_1_9 : M 1 9 = 31) (rooms0 : ∀ i : Int, 0 ≤ i → i < 4 → M 30 i = 0) : Met l yX11_master (gWsOf yX11_master cX11_master 4 (Option.some Jvm.ClassFile.FieldType.int)) { frames := 1, cells := 0, slots := 0, locals := 23 } (gPc n0 D cA [gA n0 0, gJ a, gJ b] M sz) (gQi n0 D cA sz (fun z M1 => (((¬(0 ≤ a ∧ a ≤ 3)) → z = -1) ∧ (¬(¬(0 ≤ a ∧ a ≤ 3)) → (¬(0 ≤ b ∧ b ≤ 9)) → z = -2) ∧ (¬(¬(0 ≤ a ∧ a ≤ 3)) → ¬(¬(0 ≤ b ∧ b ≤ 9)) → (z = 0))) ∧ ∀ a : Int, a ≠ 30 → M1 a = M a)) 0 0 (fun q => n0 ≤ q) := by
  refine gMet_of [gA n0 0, gJ a, gJ b] (by decide) (Nat.le_of_ble_eq_true rfl) ?_
  intro p e s m args below meth cd X hr hm
  have X : gCx p s m args meth cd n0 D cA "ParishUnion" cX11_master 4 := X
  show G p l e ({ frames := 1, cells := 0, slots := 0, locals := 23 } : Room) s m args below meth cd n0 D cA 4 (MQ below (gQi n0 D cA sz (fun z M1 => (((¬(0 ≤ a ∧ a ≤ 3)) → z = -1) ∧ (¬(¬(0 ≤ a ∧ a ≤ 3)) → (¬(0 ≤ b ∧ b ≤ 9)) → z = -2) ∧ (¬(¬(0 ≤ a ∧ a ≤ 3)) → ¬(¬(0 ≤ b ∧ b ≤ 9)) → (z = 0))) ∧ ∀ a : Int, a ≠ 30 → M1 a = M a)) args s 0 0 (fun q => n0 ≤ q)) 0 0 M sz 0 [(0, gA n0 0), (1, gJ a), (2, gJ b)] []
  refine g_iload_n (n := 1) X 1 dX11_master_0 rfl rfl rfl ?_
  refine g_iconst (n := 2) X dX11_master_1 rfl ?_
  refine g_iconst (n := 3) X dX11_master_2 rfl ?_
  refine g_callSi (n := 6) (As := [gJ a, gJ 0, gJ 3]) (rest := []) (cs1 := 0) (ss1 := 0) X (c_X11_within a 0 3 (by omega) (by omega) (by omega) (by omega)) okX11_within kw_3_29 kw_3_30 ⟨rfl, rfl⟩ ⟨Nat.le_of_ble_eq_true rfl, Nat.le_of_ble_eq_true rfl⟩ rfl rfl (Nat.le_of_ble_eq_true rfl) ⟨Nat.le_of_ble_eq_true rfl, Nat.le_of_ble_eq_true rfl⟩ rfl rfl dX11_master_3 rfl (fun z1 M2 P3 => ?_)
  obtain ⟨rfl, P3⟩ := P3
  refine g_if_ne (n := 9) (tgt := 11) X dX11_master_6 (by decide) (by omega) rfl (fun c4 => ?_) (fun c4 => ?_)
  · refine g_iload_n (n := 12) X 2 dX11_master_11 rfl rfl rfl ?_
    refine g_iconst (n := 13) X dX11_master_12 rfl ?_
    refine g_bipush (n := 15) X dX11_master_13 (by decide +kernel) rfl ?_
    refine g_callSi (n := 18) (As := [gJ b, gJ 0, gJ 9]) (rest := []) (cs1 := 0) (ss1 := 0) X (c_X11_within b 0 9 (by omega) (by omega) (by omega) (by omega)) okX11_within kw_3_29 kw_3_30 ⟨rfl, rfl⟩ ⟨Nat.le_of_ble_eq_true rfl, Nat.le_of_ble_eq_true rfl⟩ rfl rfl (Nat.le_of_ble_eq_true rfl) ⟨Nat.le_of_ble_eq_true rfl, Nat.le_of_ble_eq_true rfl⟩ rfl rfl dX11_master_15 rfl (fun z5 M6 P7 => ?_)
    obtain ⟨rfl, P7⟩ := P7
    refine g_if_eq (n := 21) (tgt := 33) X dX11_master_18 (by decide) (by omega) rfl (fun c8 => ?_) (fun c8 => ?_)
    · refine g_bipush (n := 35) X dX11_master_33 (by decide +kernel) rfl ?_
      exact g_ireturn X hr dX11_master_35 (by exact ⟨by omega, fun a h0 => rfl⟩)
    · refine g_iload_n (n := 22) X 2 dX11_master_21 rfl rfl rfl ?_
      refine g_aload_n (n := 23) X 0 dX11_master_22 rfl rfl rfl ?_
      refine gg_11_0 (n := 26) (z := 1) X (by omega) (by omega) lay_0 kw_2_231 dX11_master_23 rfl f_0_0 (by omega) ?_
      refine g_iload_n (n := 27) X 1 dX11_master_26 rfl rfl rfl ?_
      refine g_callVi (n := 30) (As := [gJ a]) (rest := [gJ b]) (cs1 := 0) (ss1 := 0) X (c_X9_boundTo a (by omega) (by omega) f_1_10) okX9_boundTo kw_5_113 ⟨kw_5_114, kw_5_115⟩ ⟨rfl, rfl⟩ ⟨Nat.le_of_ble_eq_true rfl, Nat.le_of_ble_eq_true rfl⟩ rfl (by omega) (by omega) lay_1 rfl rfl (Nat.le_of_ble_eq_true rfl) ⟨Nat.le_of_ble_eq_true rfl, Nat.le_of_ble_eq_true rfl⟩ rfl rfl dX11_master_27 rfl (fun z9 M10 P11 => ?_)
      obtain ⟨rfl, rfl⟩ := P11
      refine g_icmp_ge (n := 33) (tgt := 36) X dX11_master_30 (by decide) (by omega) (by omega) rfl (fun c12 => ?_) (fun c12 => ?_)
      · refine g_aload_n (n := 37) X 0 dX11_master_36 rfl rfl rfl ?_
        refine gg_11_0 (n := 40) (z := 1) X (by omega) (by omega) lay_0 kw_2_231 dX11_master_37 rfl f_0_0 (by omega) ?_
        refine gg_9_9 (n := 43) (z := 30) X (by omega) (by omega) lay_1 kw_2_125 dX11_master_40 rfl f_1_9 (by omega) ?_
        refine g_iload_n (n := 44) X 1 dX11_master_43 rfl rfl rfl ?_
        refine g_iald (n := 45) X (by omega) (by omega) lay_30 (by omega) (by omega) (by omega) dX11_master_44 rfl ?_
        rw [show M 30 a = 0 from (rooms0 _ (by omega) (by omega))]
        refine g_istore_n (n := 46) (L' := [(3, gJ 0), (0, gA n0 0), (1, gJ a), (2, gJ b)]) X dX11_master_45 rfl (by decide) rfl rfl ?_
        refine g_aload_n (n := 47) X 1 dX11_master_46 rfl rfl rfl ?_
        refine gg_11_0 (n := 50) (z := 1) X (by omega) (by omega) lay_0 kw_2_231 dX11_master_47 rfl f_0_0 (by omega) ?_
        refine gg_9_9 (n := 53) (z := 30) X (by omega) (by omega) lay_1 kw_2_125 dX11_master_50 rfl f_1_9 (by omega) ?_
        refine g_iload_n (n := 54) X 2 dX11_master_53 rfl rfl rfl ?_
        refine g_iload_n (n := 55) X 3 dX11_master_54 rfl rfl rfl ?_
        refine g_iast (n := 56) X (by omega) (by omega) lay_30 (by omega) (by omega) (by omega) dX11_master_55 rfl ?_
        refine G.nm (fun M13 e14 => ?_)
        refine g_iload_n (n := 57) X 0 dX11_master_56 rfl rfl rfl ?_
        exact g_ireturn X hr dX11_master_57 (by exact ⟨by omega, fun a h0 => ((congrFun e14 a).trans ((gset_off a (by omega)).trans rfl))⟩)
      · refine g_bipush (n := 35) X dX11_master_33 (by decide +kernel) rfl ?_
        exact g_ireturn X hr dX11_master_35 (by exact ⟨by omega, fun a h0 => rfl⟩)
  · refine g_iconst (n := 10) X dX11_master_9 rfl ?_
    exact g_ireturn X hr dX11_master_10 (by exact ⟨by omega, fun a h0 => rfl⟩)
theorem dX10_sleep_0 : decode cX10_sleep 0 = .ok (.aload_n 0, 1) := by decide +kernel
theorem dX10_sleep_1 : decode cX10_sleep 1 = .ok (.getfield 27, 3) := by decide +kernel
theorem kw_1_159 : (Jvm.Cond.fieldLink "ParishUnion$Vagrants" (27 : Nat) "ParishUnion$Vagrants" "count" "I") ∈ gT := gT_of (tb_1 _ (List.mem_of_getElem? (i := 159) rfl)) rfl
theorem dX10_sleep_4 : decode cX10_sleep 4 = .ok (.bipush 40, 2) := by decide +kernel
theorem dX10_sleep_6 : decode cX10_sleep 6 = .ok (.if_icmp .lt 4, 3) := by decide +kernel
theorem dX10_sleep_10 : decode cX10_sleep 10 = .ok (.aload_n 0, 1) := by decide +kernel
theorem dX10_sleep_11 : decode cX10_sleep 11 = .ok (.getfield 27, 3) := by decide +kernel
theorem dX10_sleep_14 : decode cX10_sleep 14 = .ok (.istore 4, 2) := by decide +kernel
theorem dX10_sleep_16 : decode cX10_sleep 16 = .ok (.iload 4, 2) := by decide +kernel
theorem dX10_sleep_18 : decode cX10_sleep 18 = .ok (.ifCond .le 70, 3) := by decide +kernel
theorem dX10_sleep_88 : decode cX10_sleep 88 = .ok (.aload_n 0, 1) := by decide +kernel
theorem dX10_sleep_89 : decode cX10_sleep 89 = .ok (.getfield 9, 3) := by decide +kernel
theorem kw_1_156 : (Jvm.Cond.fieldLink "ParishUnion$Vagrants" (9 : Nat) "ParishUnion$Vagrants" "name" "[I") ∈ gT := gT_of (tb_1 _ (List.mem_of_getElem? (i := 156) rfl)) rfl
theorem dX10_sleep_92 : decode cX10_sleep 92 = .ok (.iload 4, 2) := by decide +kernel
theorem dX10_sleep_94 : decode cX10_sleep 94 = .ok (.iload_n 1, 1) := by decide +kernel
theorem dX10_sleep_95 : decode cX10_sleep 95 = .ok (.iastore, 1) := by decide +kernel
theorem dX10_sleep_96 : decode cX10_sleep 96 = .ok (.aload_n 0, 1) := by decide +kernel
theorem dX10_sleep_97 : decode cX10_sleep 97 = .ok (.getfield 15, 3) := by decide +kernel
theorem kw_1_157 : (Jvm.Cond.fieldLink "ParishUnion$Vagrants" (15 : Nat) "ParishUnion$Vagrants" "parish" "[I") ∈ gT := gT_of (tb_1 _ (List.mem_of_getElem? (i := 157) rfl)) rfl
theorem dX10_sleep_100 : decode cX10_sleep 100 = .ok (.iload 4, 2) := by decide +kernel
theorem dX10_sleep_102 : decode cX10_sleep 102 = .ok (.iload_n 2, 1) := by decide +kernel
theorem dX10_sleep_103 : decode cX10_sleep 103 = .ok (.iastore, 1) := by decide +kernel
theorem dX10_sleep_104 : decode cX10_sleep 104 = .ok (.aload_n 0, 1) := by decide +kernel
theorem dX10_sleep_105 : decode cX10_sleep 105 = .ok (.getfield 18, 3) := by decide +kernel
theorem kw_1_158 : (Jvm.Cond.fieldLink "ParishUnion$Vagrants" (18 : Nat) "ParishUnion$Vagrants" "week" "[I") ∈ gT := gT_of (tb_1 _ (List.mem_of_getElem? (i := 158) rfl)) rfl
theorem dX10_sleep_108 : decode cX10_sleep 108 = .ok (.iload 4, 2) := by decide +kernel
theorem dX10_sleep_110 : decode cX10_sleep 110 = .ok (.iload_n 3, 1) := by decide +kernel
theorem dX10_sleep_111 : decode cX10_sleep 111 = .ok (.iastore, 1) := by decide +kernel
theorem dX10_sleep_112 : decode cX10_sleep 112 = .ok (.aload_n 0, 1) := by decide +kernel
theorem dX10_sleep_113 : decode cX10_sleep 113 = .ok (.dup, 1) := by decide +kernel
theorem dX10_sleep_114 : decode cX10_sleep 114 = .ok (.getfield 27, 3) := by decide +kernel
theorem dX10_sleep_117 : decode cX10_sleep 117 = .ok (.iconst 1, 1) := by decide +kernel
theorem dX10_sleep_118 : decode cX10_sleep 118 = .ok (.iadd, 1) := by decide +kernel
theorem dX10_sleep_119 : decode cX10_sleep 119 = .ok (.putfield 27, 3) := by decide +kernel
theorem dX10_sleep_122 : decode cX10_sleep 122 = .ok (.return_, 1) := by decide +kernel
set_option maxRecDepth 100000 in
set_option maxHeartbeats 4000000 in
theorem c_X10_sleep {l : Launch} {n0 : Nat} {D : va_G} {cA : Nat → ClassId} {M : gM} (a b g : Int) (r_a : -2147483648 ≤ a ∧ a ≤ 2147483647) (r_b : -2147483648 ≤ b ∧ b ≤ 2147483647) (r_g : -2147483648 ≤ g ∧ g ≤ 2147483647) {sz : Nat} (hsz : 206 ≤ sz) (f_26_3 : M 26 3 = 0) (f_26_0 : M 26 0 = 28) (f_26_1 : M 26 1 = 29) (f_26_2 : M 26 2 = 30) : Met l yX10_sleep (gWsOf yX10_sleep cX10_sleep 5 (Option.none : Option Jvm.ClassFile.FieldType)) { frames := 0, cells := 0, slots := 0, locals := 0 } (gPc n0 D cA [gA n0 26, gJ a, gJ b, gJ g] M sz) (gQv n0 D cA sz (fun M1 => M1 26 3 = 1 ∧ ∀ a : Int, a ≠ 26 → a ≠ 27 → a ≠ 28 → a ≠ 29 → M1 a = M a)) 0 0 (fun q => n0 ≤ q) := by
  refine gMet_of [gA n0 26, gJ a, gJ b, gJ g] (by decide) (Nat.le_of_ble_eq_true rfl) ?_
  intro p e s m args below meth cd X hr hm
  have X : gCx p s m args meth cd n0 D cA "ParishUnion$Vagrants" cX10_sleep 5 := X
  show G p l e ({ frames := 0, cells := 0, slots := 0, locals := 0 } : Room) s m args below meth cd n0 D cA 5 (MQ below (gQv n0 D cA sz (fun M1 => M1 26 3 = 1 ∧ ∀ a : Int, a ≠ 26 → a ≠ 27 → a ≠ 28 → a ≠ 29 → M1 a = M a)) args s 0 0 (fun q => n0 ≤ q)) 0 0 M sz 0 [(0, gA n0 26), (1, gJ a), (2, gJ b), (3, gJ g)] []
  refine g_aload_n (n := 1) X 0 dX10_sleep_0 rfl rfl rfl ?_
  refine gg_10_3 (n := 4) (z := 0) X (by omega) (by omega) lay_26 kw_1_159 dX10_sleep_1 rfl f_26_3 ?_
  refine g_bipush (n := 6) X dX10_sleep_4 (by decide +kernel) rfl ?_
  refine g_icmp_lt (n := 9) (tgt := 10) X dX10_sleep_6 (by decide) (by omega) (by omega) rfl (fun c1 => ?_) (fun c1 => by exfalso; omega)
  refine g_aload_n (n := 11) X 0 dX10_sleep_10 rfl rfl rfl ?_
  refine gg_10_3 (n := 14) (z := 0) X (by omega) (by omega) lay_26 kw_1_159 dX10_sleep_11 rfl f_26_3 ?_
  refine g_istore (n := 16) (L' := [(4, gJ 0), (0, gA n0 26), (1, gJ a), (2, gJ b), (3, gJ g)]) X dX10_sleep_14 (by decide) rfl rfl ?_
  refine g_iload (n := 18) X 0 dX10_sleep_16 rfl rfl ?_
  refine g_if_le (n := 21) (tgt := 88) X dX10_sleep_18 (by decide) (by omega) rfl (fun c2 => ?_) (fun c2 => by exfalso; omega)
  refine g_aload_n (n := 89) X 1 dX10_sleep_88 rfl rfl rfl ?_
  refine gg_10_0 (n := 92) (z := 27) X (by omega) (by omega) lay_26 kw_1_156 dX10_sleep_89 rfl f_26_0 (by omega) ?_
  refine g_iload (n := 94) X 0 dX10_sleep_92 rfl rfl ?_
  refine g_iload_n (n := 95) X 2 dX10_sleep_94 rfl rfl rfl ?_
  refine g_iast (n := 96) X (by omega) (by omega) lay_27 (by omega) (by omega) (by omega) dX10_sleep_95 rfl ?_
  refine G.nm (fun M3 e4 => ?_)
  refine g_aload_n (n := 97) X 1 dX10_sleep_96 rfl rfl rfl ?_
  refine gg_10_1 (n := 100) (z := 28) X (by omega) (by omega) lay_26 kw_1_157 dX10_sleep_97 rfl ((congrFun (congrFun e4 _) _).trans ((gset_ne (by omega)).trans f_26_1)) (by omega) ?_
  refine g_iload (n := 102) X 0 dX10_sleep_100 rfl rfl ?_
  refine g_iload_n (n := 103) X 3 dX10_sleep_102 rfl rfl rfl ?_
  refine g_iast (n := 104) X (by omega) (by omega) lay_28 (by omega) (by omega) (by omega) dX10_sleep_103 rfl ?_
  refine G.nm (fun M5 e6 => ?_)
  refine g_aload_n (n := 105) X 1 dX10_sleep_104 rfl rfl rfl ?_
  refine gg_10_2 (n := 108) (z := 29) X (by omega) (by omega) lay_26 kw_1_158 dX10_sleep_105 rfl ((congrFun (congrFun e6 _) _).trans ((gset_ne (by omega)).trans ((congrFun (congrFun e4 _) _).trans ((gset_ne (by omega)).trans f_26_2)))) (by omega) ?_
  refine g_iload (n := 110) X 0 dX10_sleep_108 rfl rfl ?_
  refine g_iload_n (n := 111) X 4 dX10_sleep_110 rfl rfl rfl ?_
  refine g_iast (n := 112) X (by omega) (by omega) lay_29 (by omega) (by omega) (by omega) dX10_sleep_111 rfl ?_
  refine G.nm (fun M7 e8 => ?_)
  refine g_aload_n (n := 113) X 1 dX10_sleep_112 rfl rfl rfl ?_
  refine g_dup (n := 114) X dX10_sleep_113 rfl rfl ?_
  refine gg_10_3 (n := 117) (z := 0) X (by omega) (by omega) lay_26 kw_1_159 dX10_sleep_114 rfl ((congrFun (congrFun e8 _) _).trans ((gset_ne (by omega)).trans ((congrFun (congrFun e6 _) _).trans ((gset_ne (by omega)).trans ((congrFun (congrFun e4 _) _).trans ((gset_ne (by omega)).trans f_26_3)))))) ?_
  refine g_iconst (n := 118) X dX10_sleep_117 rfl ?_
  refine g_iadd (n := 119) (z := 1) X dX10_sleep_118 rfl rfl ?_
  refine gp_10_3 (n := 122) X (by omega) (by omega) lay_26 kw_1_159 dX10_sleep_119 rfl ?_
  refine G.nm (fun M9 e10 => ?_)
  exact g_return X hr dX10_sleep_122 (by exact ⟨(by rw [e10]; exact gset_eq _ _ _ _), fun a h0 h1 h2 h3 => ((congrFun e10 a).trans ((gset_off a (by omega)).trans ((congrFun e8 a).trans ((gset_off a (by omega)).trans ((congrFun e6 a).trans ((gset_off a (by omega)).trans ((congrFun e4 a).trans ((gset_off a (by omega)).trans rfl))))))))⟩)
theorem dX11_night_0 : decode cX11_night 0 = .ok (.iload_n 2, 1) := by decide +kernel
theorem dX11_night_1 : decode cX11_night 1 = .ok (.invokestatic 58, 3) := by decide +kernel
theorem dX11_night_4 : decode cX11_night 4 = .ok (.ifCond .ne 5, 3) := by decide +kernel
theorem dX11_night_9 : decode cX11_night 9 = .ok (.iload_n 1, 1) := by decide +kernel
theorem dX11_night_10 : decode cX11_night 10 = .ok (.iconst 0, 1) := by decide +kernel
theorem dX11_night_11 : decode cX11_night 11 = .ok (.bipush 7, 2) := by decide +kernel
theorem dX11_night_13 : decode cX11_night 13 = .ok (.invokestatic 62, 3) := by decide +kernel
theorem dX11_night_16 : decode cX11_night 16 = .ok (.ifCond .eq 14, 3) := by decide +kernel
theorem dX11_night_30 : decode cX11_night 30 = .ok (.bipush (-2), 2) := by decide +kernel
theorem dX11_night_32 : decode cX11_night 32 = .ok (.ireturn, 1) := by decide +kernel
theorem dX11_night_19 : decode cX11_night 19 = .ok (.iload_n 3, 1) := by decide +kernel
theorem dX11_night_20 : decode cX11_night 20 = .ok (.iconst 0, 1) := by decide +kernel
theorem dX11_night_21 : decode cX11_night 21 = .ok (.sipush 300, 3) := by decide +kernel
theorem dX11_night_24 : decode cX11_night 24 = .ok (.invokestatic 62, 3) := by decide +kernel
theorem dX11_night_27 : decode cX11_night 27 = .ok (.ifCond .ne 6, 3) := by decide +kernel
theorem dX11_night_33 : decode cX11_night 33 = .ok (.aload_n 0, 1) := by decide +kernel
theorem dX11_night_34 : decode cX11_night 34 = .ok (.getfield 10, 3) := by decide +kernel
theorem dX11_night_37 : decode cX11_night 37 = .ok (.getfield 336, 3) := by decide +kernel
theorem dX11_night_40 : decode cX11_night 40 = .ok (.getfield 340, 3) := by decide +kernel
theorem dX11_night_43 : decode cX11_night 43 = .ok (.bipush 40, 2) := by decide +kernel
theorem dX11_night_45 : decode cX11_night 45 = .ok (.if_icmp .lt 6, 3) := by decide +kernel
theorem dX11_night_51 : decode cX11_night 51 = .ok (.aload_n 0, 1) := by decide +kernel
theorem dX11_night_52 : decode cX11_night 52 = .ok (.getfield 10, 3) := by decide +kernel
theorem dX11_night_55 : decode cX11_night 55 = .ok (.getfield 336, 3) := by decide +kernel
theorem dX11_night_58 : decode cX11_night 58 = .ok (.iload_n 1, 1) := by decide +kernel
theorem dX11_night_59 : decode cX11_night 59 = .ok (.iload_n 2, 1) := by decide +kernel
theorem dX11_night_60 : decode cX11_night 60 = .ok (.iload_n 3, 1) := by decide +kernel
theorem dX11_night_61 : decode cX11_night 61 = .ok (.invokevirtual 343, 3) := by decide +kernel
theorem kw_5_86 : (Jvm.Cond.methodLink "ParishUnion" (343 : Nat) ({ cls := "ParishUnion$Vagrants", name := "sleep", desc := "(III)V" } : Jvm.MethodName)) ∈ gT := gT_of (tb_5 _ (List.mem_of_getElem? (i := 86) rfl)) rfl
theorem kw_5_89 : (Jvm.Cond.code ({ cls := "ParishUnion$Vagrants", name := "sleep", desc := "(III)V" } : Jvm.MethodName) prog_12_method_3_code (5 : Nat) (Option.none : Option Jvm.ClassFile.FieldType)) ∈ gT := gT_of (tb_5 _ (List.mem_of_getElem? (i := 89) rfl)) rfl
theorem kw_1_7 : (Jvm.Cond.initialized "ParishUnion$Vagrants") ∈ gT := gT_of (tb_1 _ (List.mem_of_getElem? (i := 7) rfl)) rfl
theorem okX10_sleep : gQok yX10_sleep cX10_sleep 5 (Option.none : Option Jvm.ClassFile.FieldType) 3 := ⟨kw_5_89, kw_1_7, by decide +kernel, by decide +kernel, by decide +kernel⟩
theorem kw_5_87 : (Jvm.Cond.instanceMethod ({ cls := "ParishUnion$Vagrants", name := "sleep", desc := "(III)V" } : Jvm.MethodName)) ∈ gT := gT_of (tb_5 _ (List.mem_of_getElem? (i := 87) rfl)) rfl
theorem kw_5_88 : (Jvm.Cond.selects "ParishUnion$Vagrants" ({ cls := "ParishUnion$Vagrants", name := "sleep", desc := "(III)V" } : Jvm.MethodName) ({ cls := "ParishUnion$Vagrants", name := "sleep", desc := "(III)V" } : Jvm.MethodName)) ∈ gT := gT_of (tb_5 _ (List.mem_of_getElem? (i := 88) rfl)) rfl
theorem dX11_night_64 : decode cX11_night 64 = .ok (.aload_n 0, 1) := by decide +kernel
theorem dX11_night_65 : decode cX11_night 65 = .ok (.getfield 10, 3) := by decide +kernel
theorem dX11_night_68 : decode cX11_night 68 = .ok (.getfield 336, 3) := by decide +kernel
theorem dX11_night_71 : decode cX11_night 71 = .ok (.getfield 340, 3) := by decide +kernel
theorem dX11_night_74 : decode cX11_night 74 = .ok (.ireturn, 1) := by decide +kernel
theorem dX11_night_7 : decode cX11_night 7 = .ok (.iconst (-1), 1) := by decide +kernel
theorem dX11_night_8 : decode cX11_night 8 = .ok (.ireturn, 1) := by decide +kernel
set_option maxRecDepth 100000 in
set_option maxHeartbeats 4000000 in
theorem c_X11_night {l : Launch} {n0 : Nat} {D : va_G} {cA : Nat → ClassId} {M : gM} (a b g : Int) (r_a : -2147483648 ≤ a ∧ a ≤ 2147483647) (r_b : -2147483648 ≤ b ∧ b ≤ 2147483647) (r_g : -2147483648 ≤ g ∧ g ≤ 2147483647) {sz : Nat} (hsz : 206 ≤ sz) (f_0_0 : M 0 0 = 2) (f_1_8 : M 1 8 = 27) (f_26_3 : M 26 3 = 0) (f_26_0 : M 26 0 = 28) (f_26_1 : M 26 1 = 29) (f_26_2 : M 26 2 = 30) : Met l yX11_night (gWsOf yX11_night cX11_night 4 (Option.some Jvm.ClassFile.FieldType.int)) { frames := 2, cells := 0, slots := 0, locals := 42 } (gPc n0 D cA [gA n0 0, gJ a, gJ b, gJ g] M sz) (gQi n0 D cA sz (fun z M1 => (((¬(0 ≤ b ∧ b ≤ 5)) → z = -1) ∧ (¬(¬(0 ≤ b ∧ b ≤ 5)) → (¬(0 ≤ a ∧ a ≤ 7) ∨ ¬(0 ≤ g ∧ g ≤ 300)) → z = -2) ∧ (¬(¬(0 ≤ b ∧ b ≤ 5)) → ¬(¬(0 ≤ a ∧ a ≤ 7) ∨ ¬(0 ≤ g ∧ g ≤ 300)) → (z = 1))) ∧ ∀ a : Int, a ≠ 26 → a ≠ 27 → a ≠ 28 → a ≠ 29 → M1 a = M a)) 0 0 (fun q => n0 ≤ q) := by
  refine gMet_of [gA n0 0, gJ a, gJ b, gJ g] (by decide) (Nat.le_of_ble_eq_true rfl) ?_
  intro p e s m args below meth cd X hr hm
  have X : gCx p s m args meth cd n0 D cA "ParishUnion" cX11_night 4 := X
  show G p l e ({ frames := 2, cells := 0, slots := 0, locals := 42 } : Room) s m args below meth cd n0 D cA 4 (MQ below (gQi n0 D cA sz (fun z M1 => (((¬(0 ≤ b ∧ b ≤ 5)) → z = -1) ∧ (¬(¬(0 ≤ b ∧ b ≤ 5)) → (¬(0 ≤ a ∧ a ≤ 7) ∨ ¬(0 ≤ g ∧ g ≤ 300)) → z = -2) ∧ (¬(¬(0 ≤ b ∧ b ≤ 5)) → ¬(¬(0 ≤ a ∧ a ≤ 7) ∨ ¬(0 ≤ g ∧ g ≤ 300)) → (z = 1))) ∧ ∀ a : Int, a ≠ 26 → a ≠ 27 → a ≠ 28 → a ≠ 29 → M1 a = M a)) args s 0 0 (fun q => n0 ≤ q)) 0 0 M sz 0 [(0, gA n0 0), (1, gJ a), (2, gJ b), (3, gJ g)] []
  refine g_iload_n (n := 1) X 2 dX11_night_0 rfl rfl rfl ?_
  refine g_callSi (n := 4) (As := [gJ b]) (rest := []) (cs1 := 0) (ss1 := 0) X (c_X11_isParish b (by omega) (by omega)) okX11_isParish kw_3_26 kw_3_27 ⟨rfl, rfl⟩ ⟨Nat.le_of_ble_eq_true rfl, Nat.le_of_ble_eq_true rfl⟩ rfl rfl (Nat.le_of_ble_eq_true rfl) ⟨Nat.le_of_ble_eq_true rfl, Nat.le_of_ble_eq_true rfl⟩ rfl rfl dX11_night_1 rfl (fun z1 M2 P3 => ?_)
  obtain ⟨rfl, P3⟩ := P3
  refine g_if_ne (n := 7) (tgt := 9) X dX11_night_4 (by decide) (by omega) rfl (fun c4 => ?_) (fun c4 => ?_)
  · refine g_iload_n (n := 10) X 1 dX11_night_9 rfl rfl rfl ?_
    refine g_iconst (n := 11) X dX11_night_10 rfl ?_
    refine g_bipush (n := 13) X dX11_night_11 (by decide +kernel) rfl ?_
    refine g_callSi (n := 16) (As := [gJ a, gJ 0, gJ 7]) (rest := []) (cs1 := 0) (ss1 := 0) X (c_X11_within a 0 7 (by omega) (by omega) (by omega) (by omega)) okX11_within kw_3_29 kw_3_30 ⟨rfl, rfl⟩ ⟨Nat.le_of_ble_eq_true rfl, Nat.le_of_ble_eq_true rfl⟩ rfl rfl (Nat.le_of_ble_eq_true rfl) ⟨Nat.le_of_ble_eq_true rfl, Nat.le_of_ble_eq_true rfl⟩ rfl rfl dX11_night_13 rfl (fun z5 M6 P7 => ?_)
    obtain ⟨rfl, P7⟩ := P7
    refine g_if_eq (n := 19) (tgt := 30) X dX11_night_16 (by decide) (by omega) rfl (fun c8 => ?_) (fun c8 => ?_)
    · refine g_bipush (n := 32) X dX11_night_30 (by decide +kernel) rfl ?_
      exact g_ireturn X hr dX11_night_32 (by exact ⟨by omega, fun a h0 h1 h2 h3 => rfl⟩)
    · refine g_iload_n (n := 20) X 3 dX11_night_19 rfl rfl rfl ?_
      refine g_iconst (n := 21) X dX11_night_20 rfl ?_
      refine g_sipush (n := 24) X dX11_night_21 (by decide +kernel) rfl ?_
      refine g_callSi (n := 27) (As := [gJ g, gJ 0, gJ 300]) (rest := []) (cs1 := 0) (ss1 := 0) X (c_X11_within g 0 300 (by omega) (by omega) (by omega) (by omega)) okX11_within kw_3_29 kw_3_30 ⟨rfl, rfl⟩ ⟨Nat.le_of_ble_eq_true rfl, Nat.le_of_ble_eq_true rfl⟩ rfl rfl (Nat.le_of_ble_eq_true rfl) ⟨Nat.le_of_ble_eq_true rfl, Nat.le_of_ble_eq_true rfl⟩ rfl rfl dX11_night_24 rfl (fun z9 M10 P11 => ?_)
      obtain ⟨rfl, P11⟩ := P11
      refine g_if_ne (n := 30) (tgt := 33) X dX11_night_27 (by decide) (by omega) rfl (fun c12 => ?_) (fun c12 => ?_)
      · refine g_aload_n (n := 34) X 0 dX11_night_33 rfl rfl rfl ?_
        refine gg_11_0 (n := 37) (z := 1) X (by omega) (by omega) lay_0 kw_2_231 dX11_night_34 rfl f_0_0 (by omega) ?_
        refine gg_9_8 (n := 40) (z := 26) X (by omega) (by omega) lay_1 kw_2_123 dX11_night_37 rfl f_1_8 (by omega) ?_
        refine gg_10_3 (n := 43) (z := 0) X (by omega) (by omega) lay_26 kw_1_160 dX11_night_40 rfl f_26_3 ?_
        refine g_bipush (n := 45) X dX11_night_43 (by decide +kernel) rfl ?_
        refine g_icmp_lt (n := 48) (tgt := 51) X dX11_night_45 (by decide) (by omega) (by omega) rfl (fun c13 => ?_) (fun c13 => by exfalso; omega)
        refine g_aload_n (n := 52) X 0 dX11_night_51 rfl rfl rfl ?_
        refine gg_11_0 (n := 55) (z := 1) X (by omega) (by omega) lay_0 kw_2_231 dX11_night_52 rfl f_0_0 (by omega) ?_
        refine gg_9_8 (n := 58) (z := 26) X (by omega) (by omega) lay_1 kw_2_123 dX11_night_55 rfl f_1_8 (by omega) ?_
        refine g_iload_n (n := 59) X 1 dX11_night_58 rfl rfl rfl ?_
        refine g_iload_n (n := 60) X 2 dX11_night_59 rfl rfl rfl ?_
        refine g_iload_n (n := 61) X 3 dX11_night_60 rfl rfl rfl ?_
        refine g_callVv (n := 64) (As := [gJ a, gJ b, gJ g]) (rest := []) (cs1 := 0) (ss1 := 0) X (c_X10_sleep a b g (by omega) (by omega) (by omega) (by omega) f_26_3 f_26_0 f_26_1 f_26_2) okX10_sleep kw_5_86 ⟨kw_5_87, kw_5_88⟩ ⟨rfl, rfl⟩ ⟨Nat.le_of_ble_eq_true rfl, Nat.le_of_ble_eq_true rfl⟩ rfl (by omega) (by omega) lay_26 rfl rfl (Nat.le_of_ble_eq_true rfl) ⟨Nat.le_of_ble_eq_true rfl, Nat.le_of_ble_eq_true rfl⟩ rfl rfl dX11_night_61 rfl (fun M15 P16 => ?_)
        obtain ⟨g18, F17⟩ := P16
        refine g_aload_n (n := 65) X 0 dX11_night_64 rfl rfl rfl ?_
        refine gg_11_0 (n := 68) (z := 1) X (by omega) (by omega) lay_0 kw_2_231 dX11_night_65 rfl ((congrFun (F17 0 (by omega) (by omega) (by omega) (by omega)) _).trans f_0_0) (by omega) ?_
        refine gg_9_8 (n := 71) (z := 26) X (by omega) (by omega) lay_1 kw_2_123 dX11_night_68 rfl ((congrFun (F17 1 (by omega) (by omega) (by omega) (by omega)) _).trans f_1_8) (by omega) ?_
        refine gg_10_3 (n := 74) (z := 1) X (by omega) (by omega) lay_26 kw_1_160 dX11_night_71 rfl g18 ?_
        exact g_ireturn X hr dX11_night_74 (by exact ⟨by omega, fun a h0 h1 h2 h3 => ((F17 a (by omega) (by omega) (by omega) (by omega)).trans rfl)⟩)
      · refine g_bipush (n := 32) X dX11_night_30 (by decide +kernel) rfl ?_
        exact g_ireturn X hr dX11_night_32 (by exact ⟨by omega, fun a h0 h1 h2 h3 => rfl⟩)
  · refine g_iconst (n := 8) X dX11_night_7 rfl ?_
    exact g_ireturn X hr dX11_night_8 (by exact ⟨by omega, fun a h0 h1 h2 h3 => rfl⟩)
theorem dX10_mayBeOne_0 : decode cX10_mayBeOne 0 = .ok (.iconst (-1), 1) := by decide +kernel
theorem dX10_mayBeOne_1 : decode cX10_mayBeOne 1 = .ok (.istore_n 3, 1) := by decide +kernel
theorem dX10_mayBeOne_2 : decode cX10_mayBeOne 2 = .ok (.iconst 0, 1) := by decide +kernel
theorem dX10_mayBeOne_3 : decode cX10_mayBeOne 3 = .ok (.istore 4, 2) := by decide +kernel
theorem dX10_mayBeOne_5 : decode cX10_mayBeOne 5 = .ok (.iload 4, 2) := by decide +kernel
theorem dX10_mayBeOne_7 : decode cX10_mayBeOne 7 = .ok (.aload_n 0, 1) := by decide +kernel
theorem dX10_mayBeOne_8 : decode cX10_mayBeOne 8 = .ok (.getfield 27, 3) := by decide +kernel
theorem dX10_mayBeOne_11 : decode cX10_mayBeOne 11 = .ok (.if_icmp .ge 81, 3) := by decide +kernel
theorem dX10_mayBeOne_92 : decode cX10_mayBeOne 92 = .ok (.iconst 1, 1) := by decide +kernel
theorem dX10_mayBeOne_93 : decode cX10_mayBeOne 93 = .ok (.ireturn, 1) := by decide +kernel
set_option maxRecDepth 100000 in
set_option maxHeartbeats 4000000 in
theorem c_X10_mayBeOne {l : Launch} {n0 : Nat} {D : va_G} {cA : Nat → ClassId} {M : gM} (a : Int) (r_a : -2147483648 ≤ a ∧ a ≤ 2147483647) {sz : Nat} (hsz : 206 ≤ sz) (f_26_3 : M 26 3 = 0) : Met l yX10_mayBeOne (gWsOf yX10_mayBeOne cX10_mayBeOne 6 (Option.some Jvm.ClassFile.FieldType.boolean)) { frames := 1, cells := 0, slots := 0, locals := 22 } (gPc n0 D cA [gA n0 26, gJ a, gA n0 2] M sz) (gQi n0 D cA sz (fun z M1 => M = M1 ∧ (z = 1))) 0 0 (fun q => n0 ≤ q) := by
  refine gMet_of [gA n0 26, gJ a, gA n0 2] (by decide) (Nat.le_of_ble_eq_true rfl) ?_
  intro p e s m args below meth cd X hr hm
  have X : gCx p s m args meth cd n0 D cA "ParishUnion$Vagrants" cX10_mayBeOne 6 := X
  show G p l e ({ frames := 1, cells := 0, slots := 0, locals := 22 } : Room) s m args below meth cd n0 D cA 6 (MQ below (gQi n0 D cA sz (fun z M1 => M = M1 ∧ (z = 1))) args s 0 0 (fun q => n0 ≤ q)) 0 0 M sz 0 [(0, gA n0 26), (1, gJ a), (2, gA n0 2)] []
  refine g_iconst (n := 1) X dX10_mayBeOne_0 rfl ?_
  refine g_istore_n (n := 2) (L' := [(3, gJ (-1)), (0, gA n0 26), (1, gJ a), (2, gA n0 2)]) X dX10_mayBeOne_1 rfl (by decide) rfl rfl ?_
  refine g_iconst (n := 3) X dX10_mayBeOne_2 rfl ?_
  refine g_istore (n := 5) (L' := [(4, gJ 0), (3, gJ (-1)), (0, gA n0 26), (1, gJ a), (2, gA n0 2)]) X dX10_mayBeOne_3 (by decide) rfl rfl ?_
  refine g_iload (n := 7) X 0 dX10_mayBeOne_5 rfl rfl ?_
  refine g_aload_n (n := 8) X 2 dX10_mayBeOne_7 rfl rfl rfl ?_
  refine gg_10_3 (n := 11) (z := 0) X (by omega) (by omega) lay_26 kw_1_159 dX10_mayBeOne_8 rfl f_26_3 ?_
  refine g_icmp_ge (n := 14) (tgt := 92) X dX10_mayBeOne_11 (by decide) (by omega) (by omega) rfl (fun c1 => ?_) (fun c1 => by exfalso; omega)
  refine g_iconst (n := 93) X dX10_mayBeOne_92 rfl ?_
  exact g_zreturn X (by omega) hr dX10_mayBeOne_93 (by exact ⟨rfl, by omega⟩)
theorem dX11_one_0 : decode cX11_one 0 = .ok (.iload_n 1, 1) := by decide +kernel
theorem dX11_one_1 : decode cX11_one 1 = .ok (.iconst 0, 1) := by decide +kernel
theorem dX11_one_2 : decode cX11_one 2 = .ok (.sipush 255, 3) := by decide +kernel
theorem dX11_one_5 : decode cX11_one 5 = .ok (.invokestatic 62, 3) := by decide +kernel
theorem dX11_one_8 : decode cX11_one 8 = .ok (.ifCond .ne 6, 3) := by decide +kernel
theorem dX11_one_14 : decode cX11_one 14 = .ok (.aload_n 0, 1) := by decide +kernel
theorem dX11_one_15 : decode cX11_one 15 = .ok (.getfield 10, 3) := by decide +kernel
theorem dX11_one_18 : decode cX11_one 18 = .ok (.getfield 336, 3) := by decide +kernel
theorem dX11_one_21 : decode cX11_one 21 = .ok (.iload_n 1, 1) := by decide +kernel
theorem dX11_one_22 : decode cX11_one 22 = .ok (.aload_n 0, 1) := by decide +kernel
theorem dX11_one_23 : decode cX11_one 23 = .ok (.getfield 10, 3) := by decide +kernel
theorem dX11_one_26 : decode cX11_one 26 = .ok (.getfield 66, 3) := by decide +kernel
theorem dX11_one_29 : decode cX11_one 29 = .ok (.invokevirtual 347, 3) := by decide +kernel
theorem kw_5_94 : (Jvm.Cond.methodLink "ParishUnion" (347 : Nat) ({ cls := "ParishUnion$Vagrants", name := "mayBeOne", desc := "(ILParishUnion$Land;)Z" } : Jvm.MethodName)) ∈ gT := gT_of (tb_5 _ (List.mem_of_getElem? (i := 94) rfl)) rfl
theorem kw_5_97 : (Jvm.Cond.code ({ cls := "ParishUnion$Vagrants", name := "mayBeOne", desc := "(ILParishUnion$Land;)Z" } : Jvm.MethodName) prog_12_method_4_code (6 : Nat) (Option.some Jvm.ClassFile.FieldType.boolean)) ∈ gT := gT_of (tb_5 _ (List.mem_of_getElem? (i := 97) rfl)) rfl
theorem okX10_mayBeOne : gQok yX10_mayBeOne cX10_mayBeOne 6 (Option.some Jvm.ClassFile.FieldType.boolean) 2 := ⟨kw_5_97, kw_1_7, by decide +kernel, by decide +kernel, by decide +kernel⟩
theorem kw_5_95 : (Jvm.Cond.instanceMethod ({ cls := "ParishUnion$Vagrants", name := "mayBeOne", desc := "(ILParishUnion$Land;)Z" } : Jvm.MethodName)) ∈ gT := gT_of (tb_5 _ (List.mem_of_getElem? (i := 95) rfl)) rfl
theorem kw_5_96 : (Jvm.Cond.selects "ParishUnion$Vagrants" ({ cls := "ParishUnion$Vagrants", name := "mayBeOne", desc := "(ILParishUnion$Land;)Z" } : Jvm.MethodName) ({ cls := "ParishUnion$Vagrants", name := "mayBeOne", desc := "(ILParishUnion$Land;)Z" } : Jvm.MethodName)) ∈ gT := gT_of (tb_5 _ (List.mem_of_getElem? (i := 96) rfl)) rfl
theorem dX11_one_32 : decode cX11_one 32 = .ok (.ifCond .eq 7, 3) := by decide +kernel
theorem dX11_one_35 : decode cX11_one 35 = .ok (.iconst 1, 1) := by decide +kernel
theorem dX11_one_36 : decode cX11_one 36 = .ok (.goto 4, 3) := by decide +kernel
theorem dX11_one_40 : decode cX11_one 40 = .ok (.ireturn, 1) := by decide +kernel
theorem dX11_one_11 : decode cX11_one 11 = .ok (.bipush (-2), 2) := by decide +kernel
theorem dX11_one_13 : decode cX11_one 13 = .ok (.ireturn, 1) := by decide +kernel
set_option maxRecDepth 100000 in
set_option maxHeartbeats 4000000 in
theorem c_X11_one {l : Launch} {n0 : Nat} {D : va_G} {cA : Nat → ClassId} {M : gM} (a : Int) (r_a : -2147483648 ≤ a ∧ a ≤ 2147483647) {sz : Nat} (hsz : 206 ≤ sz) (f_0_0 : M 0 0 = 2) (f_1_8 : M 1 8 = 27) (f_1_0 : M 1 0 = 3) (f_26_3 : M 26 3 = 0) : Met l yX11_one (gWsOf yX11_one cX11_one 2 (Option.some Jvm.ClassFile.FieldType.int)) { frames := 2, cells := 0, slots := 0, locals := 47 } (gPc n0 D cA [gA n0 0, gJ a] M sz) (gQi n0 D cA sz (fun z M1 => (((¬(0 ≤ a ∧ a ≤ 255)) → z = -2) ∧ (¬(¬(0 ≤ a ∧ a ≤ 255)) → (z = 1))) ∧ ∀ a : Int, M1 a = M a)) 0 0 (fun q => n0 ≤ q) := by
  refine gMet_of [gA n0 0, gJ a] (by decide) (Nat.le_of_ble_eq_true rfl) ?_
  intro p e s m args below meth cd X hr hm
  have X : gCx p s m args meth cd n0 D cA "ParishUnion" cX11_one 2 := X
  show G p l e ({ frames := 2, cells := 0, slots := 0, locals := 47 } : Room) s m args below meth cd n0 D cA 2 (MQ below (gQi n0 D cA sz (fun z M1 => (((¬(0 ≤ a ∧ a ≤ 255)) → z = -2) ∧ (¬(¬(0 ≤ a ∧ a ≤ 255)) → (z = 1))) ∧ ∀ a : Int, M1 a = M a)) args s 0 0 (fun q => n0 ≤ q)) 0 0 M sz 0 [(0, gA n0 0), (1, gJ a)] []
  refine g_iload_n (n := 1) X 1 dX11_one_0 rfl rfl rfl ?_
  refine g_iconst (n := 2) X dX11_one_1 rfl ?_
  refine g_sipush (n := 5) X dX11_one_2 (by decide +kernel) rfl ?_
  refine g_callSi (n := 8) (As := [gJ a, gJ 0, gJ 255]) (rest := []) (cs1 := 0) (ss1 := 0) X (c_X11_within a 0 255 (by omega) (by omega) (by omega) (by omega)) okX11_within kw_3_29 kw_3_30 ⟨rfl, rfl⟩ ⟨Nat.le_of_ble_eq_true rfl, Nat.le_of_ble_eq_true rfl⟩ rfl rfl (Nat.le_of_ble_eq_true rfl) ⟨Nat.le_of_ble_eq_true rfl, Nat.le_of_ble_eq_true rfl⟩ rfl rfl dX11_one_5 rfl (fun z1 M2 P3 => ?_)
  obtain ⟨rfl, P3⟩ := P3
  refine g_if_ne (n := 11) (tgt := 14) X dX11_one_8 (by decide) (by omega) rfl (fun c4 => ?_) (fun c4 => ?_)
  · refine g_aload_n (n := 15) X 0 dX11_one_14 rfl rfl rfl ?_
    refine gg_11_0 (n := 18) (z := 1) X (by omega) (by omega) lay_0 kw_2_231 dX11_one_15 rfl f_0_0 (by omega) ?_
    refine gg_9_8 (n := 21) (z := 26) X (by omega) (by omega) lay_1 kw_2_123 dX11_one_18 rfl f_1_8 (by omega) ?_
    refine g_iload_n (n := 22) X 1 dX11_one_21 rfl rfl rfl ?_
    refine g_aload_n (n := 23) X 0 dX11_one_22 rfl rfl rfl ?_
    refine gg_11_0 (n := 26) (z := 1) X (by omega) (by omega) lay_0 kw_2_231 dX11_one_23 rfl f_0_0 (by omega) ?_
    refine gg_9_0 (n := 29) (z := 2) X (by omega) (by omega) lay_1 kw_2_105 dX11_one_26 rfl f_1_0 (by omega) ?_
    refine g_callVi (n := 32) (As := [gJ a, gA n0 2]) (rest := []) (cs1 := 0) (ss1 := 0) X (c_X10_mayBeOne a (by omega) (by omega) f_26_3) okX10_mayBeOne kw_5_94 ⟨kw_5_95, kw_5_96⟩ ⟨rfl, rfl⟩ ⟨Nat.le_of_ble_eq_true rfl, Nat.le_of_ble_eq_true rfl⟩ rfl (by omega) (by omega) lay_26 rfl rfl (Nat.le_of_ble_eq_true rfl) ⟨Nat.le_of_ble_eq_true rfl, Nat.le_of_ble_eq_true rfl⟩ rfl rfl dX11_one_29 rfl (fun z5 M6 P7 => ?_)
    obtain ⟨rfl, rfl⟩ := P7
    refine g_if_eq (n := 35) (tgt := 39) X dX11_one_32 (by decide) (by omega) rfl (fun c8 => by exfalso; omega) (fun c8 => ?_)
    refine g_iconst (n := 36) X dX11_one_35 rfl ?_
    refine g_goto (tgt := 40) X dX11_one_36 (by decide) ?_
    exact g_ireturn X hr dX11_one_40 (by exact ⟨by omega, fun a  => rfl⟩)
  · refine g_bipush (n := 13) X dX11_one_11 (by decide +kernel) rfl ?_
    exact g_ireturn X hr dX11_one_13 (by exact ⟨by omega, fun a  => rfl⟩)
theorem dX2_addChoice_0 : decode cX2_addChoice 0 = .ok (.aload_n 0, 1) := by decide +kernel
theorem dX2_addChoice_1 : decode cX2_addChoice 1 = .ok (.getfield 24, 3) := by decide +kernel
theorem kw_1_104 : (Jvm.Cond.fieldLink "ParishUnion$House" (24 : Nat) "ParishUnion$House" "choiceFor" "[I") ∈ gT := gT_of (tb_1 _ (List.mem_of_getElem? (i := 104) rfl)) rfl
theorem dX2_addChoice_4 : decode cX2_addChoice 4 = .ok (.aload_n 0, 1) := by decide +kernel
theorem dX2_addChoice_5 : decode cX2_addChoice 5 = .ok (.getfield 43, 3) := by decide +kernel
theorem kw_1_107 : (Jvm.Cond.fieldLink "ParishUnion$House" (43 : Nat) "ParishUnion$House" "choices" "I") ∈ gT := gT_of (tb_1 _ (List.mem_of_getElem? (i := 107) rfl)) rfl
theorem dX2_addChoice_8 : decode cX2_addChoice 8 = .ok (.iload_n 1, 1) := by decide +kernel
theorem dX2_addChoice_9 : decode cX2_addChoice 9 = .ok (.iastore, 1) := by decide +kernel
theorem dX2_addChoice_10 : decode cX2_addChoice 10 = .ok (.aload_n 0, 1) := by decide +kernel
theorem dX2_addChoice_11 : decode cX2_addChoice 11 = .ok (.getfield 27, 3) := by decide +kernel
theorem kw_1_105 : (Jvm.Cond.fieldLink "ParishUnion$House" (27 : Nat) "ParishUnion$House" "choiceMore" "[I") ∈ gT := gT_of (tb_1 _ (List.mem_of_getElem? (i := 105) rfl)) rfl
theorem dX2_addChoice_14 : decode cX2_addChoice 14 = .ok (.aload_n 0, 1) := by decide +kernel
theorem dX2_addChoice_15 : decode cX2_addChoice 15 = .ok (.getfield 43, 3) := by decide +kernel
theorem dX2_addChoice_18 : decode cX2_addChoice 18 = .ok (.iload_n 2, 1) := by decide +kernel
theorem dX2_addChoice_19 : decode cX2_addChoice 19 = .ok (.iastore, 1) := by decide +kernel
theorem dX2_addChoice_20 : decode cX2_addChoice 20 = .ok (.aload_n 0, 1) := by decide +kernel
theorem dX2_addChoice_21 : decode cX2_addChoice 21 = .ok (.getfield 30, 3) := by decide +kernel
theorem kw_1_106 : (Jvm.Cond.fieldLink "ParishUnion$House" (30 : Nat) "ParishUnion$House" "choiceCost" "[I") ∈ gT := gT_of (tb_1 _ (List.mem_of_getElem? (i := 106) rfl)) rfl
theorem dX2_addChoice_24 : decode cX2_addChoice 24 = .ok (.aload_n 0, 1) := by decide +kernel
theorem dX2_addChoice_25 : decode cX2_addChoice 25 = .ok (.getfield 43, 3) := by decide +kernel
theorem dX2_addChoice_28 : decode cX2_addChoice 28 = .ok (.iload_n 3, 1) := by decide +kernel
theorem dX2_addChoice_29 : decode cX2_addChoice 29 = .ok (.iastore, 1) := by decide +kernel
theorem dX2_addChoice_30 : decode cX2_addChoice 30 = .ok (.aload_n 0, 1) := by decide +kernel
theorem dX2_addChoice_31 : decode cX2_addChoice 31 = .ok (.dup, 1) := by decide +kernel
theorem dX2_addChoice_32 : decode cX2_addChoice 32 = .ok (.getfield 43, 3) := by decide +kernel
theorem dX2_addChoice_35 : decode cX2_addChoice 35 = .ok (.dup_x1, 1) := by decide +kernel
theorem dX2_addChoice_36 : decode cX2_addChoice 36 = .ok (.iconst 1, 1) := by decide +kernel
theorem dX2_addChoice_37 : decode cX2_addChoice 37 = .ok (.iadd, 1) := by decide +kernel
theorem dX2_addChoice_38 : decode cX2_addChoice 38 = .ok (.putfield 43, 3) := by decide +kernel
theorem dX2_addChoice_41 : decode cX2_addChoice 41 = .ok (.ireturn, 1) := by decide +kernel
set_option maxRecDepth 100000 in
set_option maxHeartbeats 4000000 in
theorem c_X2_addChoice {l : Launch} {n0 : Nat} {D : va_G} {cA : Nat → ClassId} {M : gM} (a b g : Int) (r_a : -2147483648 ≤ a ∧ a ≤ 2147483647) (r_b : -2147483648 ≤ b ∧ b ≤ 2147483647) (r_g : -2147483648 ≤ g ∧ g ≤ 2147483647) {sz : Nat} (hsz : 206 ≤ sz) (f_15_7 : M 15 7 = 0) (f_15_4 : M 15 4 = 21) (f_15_5 : M 15 5 = 22) (f_15_6 : M 15 6 = 23) : Met l yX2_addChoice (gWsOf yX2_addChoice cX2_addChoice 4 (Option.some Jvm.ClassFile.FieldType.int)) { frames := 0, cells := 0, slots := 0, locals := 0 } (gPc n0 D cA [gA n0 15, gJ a, gJ b, gJ g] M sz) (gQi n0 D cA sz (fun z M1 => (z = 0) ∧ ∀ a : Int, a ≠ 15 → a ≠ 20 → a ≠ 21 → a ≠ 22 → M1 a = M a)) 0 0 (fun q => n0 ≤ q) := by
  refine gMet_of [gA n0 15, gJ a, gJ b, gJ g] (by decide) (Nat.le_of_ble_eq_true rfl) ?_
  intro p e s m args below meth cd X hr hm
  have X : gCx p s m args meth cd n0 D cA "ParishUnion$House" cX2_addChoice 4 := X
  show G p l e ({ frames := 0, cells := 0, slots := 0, locals := 0 } : Room) s m args below meth cd n0 D cA 4 (MQ below (gQi n0 D cA sz (fun z M1 => (z = 0) ∧ ∀ a : Int, a ≠ 15 → a ≠ 20 → a ≠ 21 → a ≠ 22 → M1 a = M a)) args s 0 0 (fun q => n0 ≤ q)) 0 0 M sz 0 [(0, gA n0 15), (1, gJ a), (2, gJ b), (3, gJ g)] []
  refine g_aload_n (n := 1) X 0 dX2_addChoice_0 rfl rfl rfl ?_
  refine gg_2_4 (n := 4) (z := 20) X (by omega) (by omega) lay_15 kw_1_104 dX2_addChoice_1 rfl f_15_4 (by omega) ?_
  refine g_aload_n (n := 5) X 0 dX2_addChoice_4 rfl rfl rfl ?_
  refine gg_2_7 (n := 8) (z := 0) X (by omega) (by omega) lay_15 kw_1_107 dX2_addChoice_5 rfl f_15_7 ?_
  refine g_iload_n (n := 9) X 1 dX2_addChoice_8 rfl rfl rfl ?_
  refine g_iast (n := 10) X (by omega) (by omega) lay_20 (by omega) (by omega) (by omega) dX2_addChoice_9 rfl ?_
  refine G.nm (fun M1 e2 => ?_)
  refine g_aload_n (n := 11) X 0 dX2_addChoice_10 rfl rfl rfl ?_
  refine gg_2_5 (n := 14) (z := 21) X (by omega) (by omega) lay_15 kw_1_105 dX2_addChoice_11 rfl ((congrFun (congrFun e2 _) _).trans ((gset_ne (by omega)).trans f_15_5)) (by omega) ?_
  refine g_aload_n (n := 15) X 0 dX2_addChoice_14 rfl rfl rfl ?_
  refine gg_2_7 (n := 18) (z := 0) X (by omega) (by omega) lay_15 kw_1_107 dX2_addChoice_15 rfl ((congrFun (congrFun e2 _) _).trans ((gset_ne (by omega)).trans f_15_7)) ?_
  refine g_iload_n (n := 19) X 2 dX2_addChoice_18 rfl rfl rfl ?_
  refine g_iast (n := 20) X (by omega) (by omega) lay_21 (by omega) (by omega) (by omega) dX2_addChoice_19 rfl ?_
  refine G.nm (fun M3 e4 => ?_)
  refine g_aload_n (n := 21) X 0 dX2_addChoice_20 rfl rfl rfl ?_
  refine gg_2_6 (n := 24) (z := 22) X (by omega) (by omega) lay_15 kw_1_106 dX2_addChoice_21 rfl ((congrFun (congrFun e4 _) _).trans ((gset_ne (by omega)).trans ((congrFun (congrFun e2 _) _).trans ((gset_ne (by omega)).trans f_15_6)))) (by omega) ?_
  refine g_aload_n (n := 25) X 0 dX2_addChoice_24 rfl rfl rfl ?_
  refine gg_2_7 (n := 28) (z := 0) X (by omega) (by omega) lay_15 kw_1_107 dX2_addChoice_25 rfl ((congrFun (congrFun e4 _) _).trans ((gset_ne (by omega)).trans ((congrFun (congrFun e2 _) _).trans ((gset_ne (by omega)).trans f_15_7)))) ?_
  refine g_iload_n (n := 29) X 3 dX2_addChoice_28 rfl rfl rfl ?_
  refine g_iast (n := 30) X (by omega) (by omega) lay_22 (by omega) (by omega) (by omega) dX2_addChoice_29 rfl ?_
  refine G.nm (fun M5 e6 => ?_)
  refine g_aload_n (n := 31) X 0 dX2_addChoice_30 rfl rfl rfl ?_
  refine g_dup (n := 32) X dX2_addChoice_31 rfl rfl ?_
  refine gg_2_7 (n := 35) (z := 0) X (by omega) (by omega) lay_15 kw_1_107 dX2_addChoice_32 rfl ((congrFun (congrFun e6 _) _).trans ((gset_ne (by omega)).trans ((congrFun (congrFun e4 _) _).trans ((gset_ne (by omega)).trans ((congrFun (congrFun e2 _) _).trans ((gset_ne (by omega)).trans f_15_7)))))) ?_
  refine g_dup_x1 (n := 36) X dX2_addChoice_35 rfl rfl rfl ?_
  refine g_iconst (n := 37) X dX2_addChoice_36 rfl ?_
  refine g_iadd (n := 38) (z := 1) X dX2_addChoice_37 rfl rfl ?_
  refine gp_2_7 (n := 41) X (by omega) (by omega) lay_15 kw_1_107 dX2_addChoice_38 rfl ?_
  refine G.nm (fun M7 e8 => ?_)
  exact g_ireturn X hr dX2_addChoice_41 (by exact ⟨by omega, fun a h0 h1 h2 h3 => ((congrFun e8 a).trans ((gset_off a (by omega)).trans ((congrFun e6 a).trans ((gset_off a (by omega)).trans ((congrFun e4 a).trans ((gset_off a (by omega)).trans ((congrFun e2 a).trans ((gset_off a (by omega)).trans rfl))))))))⟩)
theorem dX11_choice_0 : decode cX11_choice 0 = .ok (.iload_n 1, 1) := by decide +kernel
theorem dX11_choice_1 : decode cX11_choice 1 = .ok (.iconst 0, 1) := by decide +kernel
theorem dX11_choice_2 : decode cX11_choice 2 = .ok (.iconst 4, 1) := by decide +kernel
theorem dX11_choice_3 : decode cX11_choice 3 = .ok (.invokestatic 62, 3) := by decide +kernel
theorem dX11_choice_6 : decode cX11_choice 6 = .ok (.ifCond .ne 5, 3) := by decide +kernel
theorem dX11_choice_11 : decode cX11_choice 11 = .ok (.iload_n 2, 1) := by decide +kernel
theorem dX11_choice_12 : decode cX11_choice 12 = .ok (.iconst 1, 1) := by decide +kernel
theorem dX11_choice_13 : decode cX11_choice 13 = .ok (.bipush 99, 2) := by decide +kernel
theorem dX11_choice_15 : decode cX11_choice 15 = .ok (.invokestatic 62, 3) := by decide +kernel
theorem dX11_choice_18 : decode cX11_choice 18 = .ok (.ifCond .eq 14, 3) := by decide +kernel
theorem dX11_choice_32 : decode cX11_choice 32 = .ok (.bipush (-2), 2) := by decide +kernel
theorem dX11_choice_34 : decode cX11_choice 34 = .ok (.ireturn, 1) := by decide +kernel
theorem dX11_choice_21 : decode cX11_choice 21 = .ok (.iload_n 3, 1) := by decide +kernel
theorem dX11_choice_22 : decode cX11_choice 22 = .ok (.iconst 0, 1) := by decide +kernel
theorem dX11_choice_23 : decode cX11_choice 23 = .ok (.sipush 999, 3) := by decide +kernel
theorem dX11_choice_26 : decode cX11_choice 26 = .ok (.invokestatic 62, 3) := by decide +kernel
theorem dX11_choice_29 : decode cX11_choice 29 = .ok (.ifCond .ne 6, 3) := by decide +kernel
theorem dX11_choice_35 : decode cX11_choice 35 = .ok (.aload_n 0, 1) := by decide +kernel
theorem dX11_choice_36 : decode cX11_choice 36 = .ok (.getfield 10, 3) := by decide +kernel
theorem dX11_choice_39 : decode cX11_choice 39 = .ok (.getfield 279, 3) := by decide +kernel
theorem dX11_choice_42 : decode cX11_choice 42 = .ok (.getfield 367, 3) := by decide +kernel
theorem dX11_choice_45 : decode cX11_choice 45 = .ok (.bipush 6, 2) := by decide +kernel
theorem dX11_choice_47 : decode cX11_choice 47 = .ok (.if_icmp .lt 6, 3) := by decide +kernel
theorem dX11_choice_53 : decode cX11_choice 53 = .ok (.aload_n 0, 1) := by decide +kernel
theorem dX11_choice_54 : decode cX11_choice 54 = .ok (.getfield 10, 3) := by decide +kernel
theorem dX11_choice_57 : decode cX11_choice 57 = .ok (.getfield 279, 3) := by decide +kernel
theorem dX11_choice_60 : decode cX11_choice 60 = .ok (.iload_n 1, 1) := by decide +kernel
theorem dX11_choice_61 : decode cX11_choice 61 = .ok (.iload_n 2, 1) := by decide +kernel
theorem dX11_choice_62 : decode cX11_choice 62 = .ok (.iload_n 3, 1) := by decide +kernel
theorem dX11_choice_63 : decode cX11_choice 63 = .ok (.invokevirtual 370, 3) := by decide +kernel
theorem kw_5_131 : (Jvm.Cond.methodLink "ParishUnion" (370 : Nat) ({ cls := "ParishUnion$House", name := "addChoice", desc := "(III)I" } : Jvm.MethodName)) ∈ gT := gT_of (tb_5 _ (List.mem_of_getElem? (i := 131) rfl)) rfl
theorem kw_5_134 : (Jvm.Cond.code ({ cls := "ParishUnion$House", name := "addChoice", desc := "(III)I" } : Jvm.MethodName) prog_4_method_3_code (4 : Nat) (Option.some Jvm.ClassFile.FieldType.int)) ∈ gT := gT_of (tb_5 _ (List.mem_of_getElem? (i := 134) rfl)) rfl
theorem kw_1_5 : (Jvm.Cond.initialized "ParishUnion$House") ∈ gT := gT_of (tb_1 _ (List.mem_of_getElem? (i := 5) rfl)) rfl
theorem okX2_addChoice : gQok yX2_addChoice cX2_addChoice 4 (Option.some Jvm.ClassFile.FieldType.int) 3 := ⟨kw_5_134, kw_1_5, by decide +kernel, by decide +kernel, by decide +kernel⟩
theorem kw_5_132 : (Jvm.Cond.instanceMethod ({ cls := "ParishUnion$House", name := "addChoice", desc := "(III)I" } : Jvm.MethodName)) ∈ gT := gT_of (tb_5 _ (List.mem_of_getElem? (i := 132) rfl)) rfl
theorem kw_5_133 : (Jvm.Cond.selects "ParishUnion$House" ({ cls := "ParishUnion$House", name := "addChoice", desc := "(III)I" } : Jvm.MethodName) ({ cls := "ParishUnion$House", name := "addChoice", desc := "(III)I" } : Jvm.MethodName)) ∈ gT := gT_of (tb_5 _ (List.mem_of_getElem? (i := 133) rfl)) rfl
theorem dX11_choice_66 : decode cX11_choice 66 = .ok (.ireturn, 1) := by decide +kernel
theorem dX11_choice_9 : decode cX11_choice 9 = .ok (.iconst (-1), 1) := by decide +kernel
theorem dX11_choice_10 : decode cX11_choice 10 = .ok (.ireturn, 1) := by decide +kernel
set_option maxRecDepth 100000 in
set_option maxHeartbeats 4000000 in
theorem c_X11_choice {l : Launch} {n0 : Nat} {D : va_G} {cA : Nat → ClassId} {M : gM} (a b g : Int) (r_a : -2147483648 ≤ a ∧ a ≤ 2147483647) (r_b : -2147483648 ≤ b ∧ b ≤ 2147483647) (r_g : -2147483648 ≤ g ∧ g ≤ 2147483647) {sz : Nat} (hsz : 206 ≤ sz) (f_0_0 : M 0 0 = 2) (f_1_6 : M 1 6 = 16) (f_15_7 : M 15 7 = 0) (f_15_4 : M 15 4 = 21) (f_15_5 : M 15 5 = 22) (f_15_6 : M 15 6 = 23) : Met l yX11_choice (gWsOf yX11_choice cX11_choice 4 (Option.some Jvm.ClassFile.FieldType.int)) { frames := 1, cells := 0, slots := 0, locals := 23 } (gPc n0 D cA [gA n0 0, gJ a, gJ b, gJ g] M sz) (gQi n0 D cA sz (fun z M1 => (((¬(0 ≤ a ∧ a ≤ 4)) → z = -1) ∧ (¬(¬(0 ≤ a ∧ a ≤ 4)) → (¬(1 ≤ b ∧ b ≤ 99) ∨ ¬(0 ≤ g ∧ g ≤ 999)) → z = -2) ∧ (¬(¬(0 ≤ a ∧ a ≤ 4)) → ¬(¬(1 ≤ b ∧ b ≤ 99) ∨ ¬(0 ≤ g ∧ g ≤ 999)) → (z = 0))) ∧ ∀ a : Int, a ≠ 15 → a ≠ 20 → a ≠ 21 → a ≠ 22 → M1 a = M a)) 0 0 (fun q => n0 ≤ q) := by
  refine gMet_of [gA n0 0, gJ a, gJ b, gJ g] (by decide) (Nat.le_of_ble_eq_true rfl) ?_
  intro p e s m args below meth cd X hr hm
  have X : gCx p s m args meth cd n0 D cA "ParishUnion" cX11_choice 4 := X
  show G p l e ({ frames := 1, cells := 0, slots := 0, locals := 23 } : Room) s m args below meth cd n0 D cA 4 (MQ below (gQi n0 D cA sz (fun z M1 => (((¬(0 ≤ a ∧ a ≤ 4)) → z = -1) ∧ (¬(¬(0 ≤ a ∧ a ≤ 4)) → (¬(1 ≤ b ∧ b ≤ 99) ∨ ¬(0 ≤ g ∧ g ≤ 999)) → z = -2) ∧ (¬(¬(0 ≤ a ∧ a ≤ 4)) → ¬(¬(1 ≤ b ∧ b ≤ 99) ∨ ¬(0 ≤ g ∧ g ≤ 999)) → (z = 0))) ∧ ∀ a : Int, a ≠ 15 → a ≠ 20 → a ≠ 21 → a ≠ 22 → M1 a = M a)) args s 0 0 (fun q => n0 ≤ q)) 0 0 M sz 0 [(0, gA n0 0), (1, gJ a), (2, gJ b), (3, gJ g)] []
  refine g_iload_n (n := 1) X 1 dX11_choice_0 rfl rfl rfl ?_
  refine g_iconst (n := 2) X dX11_choice_1 rfl ?_
  refine g_iconst (n := 3) X dX11_choice_2 rfl ?_
  refine g_callSi (n := 6) (As := [gJ a, gJ 0, gJ 4]) (rest := []) (cs1 := 0) (ss1 := 0) X (c_X11_within a 0 4 (by omega) (by omega) (by omega) (by omega)) okX11_within kw_3_29 kw_3_30 ⟨rfl, rfl⟩ ⟨Nat.le_of_ble_eq_true rfl, Nat.le_of_ble_eq_true rfl⟩ rfl rfl (Nat.le_of_ble_eq_true rfl) ⟨Nat.le_of_ble_eq_true rfl, Nat.le_of_ble_eq_true rfl⟩ rfl rfl dX11_choice_3 rfl (fun z1 M2 P3 => ?_)
  obtain ⟨rfl, P3⟩ := P3
  refine g_if_ne (n := 9) (tgt := 11) X dX11_choice_6 (by decide) (by omega) rfl (fun c4 => ?_) (fun c4 => ?_)
  · refine g_iload_n (n := 12) X 2 dX11_choice_11 rfl rfl rfl ?_
    refine g_iconst (n := 13) X dX11_choice_12 rfl ?_
    refine g_bipush (n := 15) X dX11_choice_13 (by decide +kernel) rfl ?_
    refine g_callSi (n := 18) (As := [gJ b, gJ 1, gJ 99]) (rest := []) (cs1 := 0) (ss1 := 0) X (c_X11_within b 1 99 (by omega) (by omega) (by omega) (by omega)) okX11_within kw_3_29 kw_3_30 ⟨rfl, rfl⟩ ⟨Nat.le_of_ble_eq_true rfl, Nat.le_of_ble_eq_true rfl⟩ rfl rfl (Nat.le_of_ble_eq_true rfl) ⟨Nat.le_of_ble_eq_true rfl, Nat.le_of_ble_eq_true rfl⟩ rfl rfl dX11_choice_15 rfl (fun z5 M6 P7 => ?_)
    obtain ⟨rfl, P7⟩ := P7
    refine g_if_eq (n := 21) (tgt := 32) X dX11_choice_18 (by decide) (by omega) rfl (fun c8 => ?_) (fun c8 => ?_)
    · refine g_bipush (n := 34) X dX11_choice_32 (by decide +kernel) rfl ?_
      exact g_ireturn X hr dX11_choice_34 (by exact ⟨by omega, fun a h0 h1 h2 h3 => rfl⟩)
    · refine g_iload_n (n := 22) X 3 dX11_choice_21 rfl rfl rfl ?_
      refine g_iconst (n := 23) X dX11_choice_22 rfl ?_
      refine g_sipush (n := 26) X dX11_choice_23 (by decide +kernel) rfl ?_
      refine g_callSi (n := 29) (As := [gJ g, gJ 0, gJ 999]) (rest := []) (cs1 := 0) (ss1 := 0) X (c_X11_within g 0 999 (by omega) (by omega) (by omega) (by omega)) okX11_within kw_3_29 kw_3_30 ⟨rfl, rfl⟩ ⟨Nat.le_of_ble_eq_true rfl, Nat.le_of_ble_eq_true rfl⟩ rfl rfl (Nat.le_of_ble_eq_true rfl) ⟨Nat.le_of_ble_eq_true rfl, Nat.le_of_ble_eq_true rfl⟩ rfl rfl dX11_choice_26 rfl (fun z9 M10 P11 => ?_)
      obtain ⟨rfl, P11⟩ := P11
      refine g_if_ne (n := 32) (tgt := 35) X dX11_choice_29 (by decide) (by omega) rfl (fun c12 => ?_) (fun c12 => ?_)
      · refine g_aload_n (n := 36) X 0 dX11_choice_35 rfl rfl rfl ?_
        refine gg_11_0 (n := 39) (z := 1) X (by omega) (by omega) lay_0 kw_2_231 dX11_choice_36 rfl f_0_0 (by omega) ?_
        refine gg_9_6 (n := 42) (z := 15) X (by omega) (by omega) lay_1 kw_2_119 dX11_choice_39 rfl f_1_6 (by omega) ?_
        refine gg_2_7 (n := 45) (z := 0) X (by omega) (by omega) lay_15 kw_1_108 dX11_choice_42 rfl f_15_7 ?_
        refine g_bipush (n := 47) X dX11_choice_45 (by decide +kernel) rfl ?_
        refine g_icmp_lt (n := 50) (tgt := 53) X dX11_choice_47 (by decide) (by omega) (by omega) rfl (fun c13 => ?_) (fun c13 => by exfalso; omega)
        refine g_aload_n (n := 54) X 0 dX11_choice_53 rfl rfl rfl ?_
        refine gg_11_0 (n := 57) (z := 1) X (by omega) (by omega) lay_0 kw_2_231 dX11_choice_54 rfl f_0_0 (by omega) ?_
        refine gg_9_6 (n := 60) (z := 15) X (by omega) (by omega) lay_1 kw_2_119 dX11_choice_57 rfl f_1_6 (by omega) ?_
        refine g_iload_n (n := 61) X 1 dX11_choice_60 rfl rfl rfl ?_
        refine g_iload_n (n := 62) X 2 dX11_choice_61 rfl rfl rfl ?_
        refine g_iload_n (n := 63) X 3 dX11_choice_62 rfl rfl rfl ?_
        refine g_callVi (n := 66) (As := [gJ a, gJ b, gJ g]) (rest := []) (cs1 := 0) (ss1 := 0) X (c_X2_addChoice a b g (by omega) (by omega) (by omega) (by omega) f_15_7 f_15_4 f_15_5 f_15_6) okX2_addChoice kw_5_131 ⟨kw_5_132, kw_5_133⟩ ⟨rfl, rfl⟩ ⟨Nat.le_of_ble_eq_true rfl, Nat.le_of_ble_eq_true rfl⟩ rfl (by omega) (by omega) lay_15 rfl rfl (Nat.le_of_ble_eq_true rfl) ⟨Nat.le_of_ble_eq_true rfl, Nat.le_of_ble_eq_true rfl⟩ rfl rfl dX11_choice_63 rfl (fun z14 M15 P16 => ?_)
        obtain ⟨P16, F17⟩ := P16
        exact g_ireturn X hr dX11_choice_66 (by exact ⟨by omega, fun a h0 h1 h2 h3 => ((F17 a (by omega) (by omega) (by omega) (by omega)).trans rfl)⟩)
      · refine g_bipush (n := 34) X dX11_choice_32 (by decide +kernel) rfl ?_
        exact g_ireturn X hr dX11_choice_34 (by exact ⟨by omega, fun a h0 h1 h2 h3 => rfl⟩)
  · refine g_iconst (n := 10) X dX11_choice_9 rfl ?_
    exact g_ireturn X hr dX11_choice_10 (by exact ⟨by omega, fun a h0 h1 h2 h3 => rfl⟩)
theorem dX11_rowFits_0 : decode cX11_rowFits 0 = .ok (.aload_n 0, 1) := by decide +kernel
theorem dX11_rowFits_1 : decode cX11_rowFits 1 = .ok (.getfield 10, 3) := by decide +kernel
theorem dX11_rowFits_4 : decode cX11_rowFits 4 = .ok (.getfield 85, 3) := by decide +kernel
theorem dX11_rowFits_7 : decode cX11_rowFits 7 = .ok (.aload_n 0, 1) := by decide +kernel
theorem dX11_rowFits_8 : decode cX11_rowFits 8 = .ok (.getfield 10, 3) := by decide +kernel
theorem dX11_rowFits_11 : decode cX11_rowFits 11 = .ok (.getfield 279, 3) := by decide +kernel
theorem dX11_rowFits_14 : decode cX11_rowFits 14 = .ok (.getfield 397, 3) := by decide +kernel
theorem kw_1_102 : (Jvm.Cond.fieldLink "ParishUnion" (397 : Nat) "ParishUnion$House" "rowSize" "[I") ∈ gT := gT_of (tb_1 _ (List.mem_of_getElem? (i := 102) rfl)) rfl
theorem dX11_rowFits_17 : decode cX11_rowFits 17 = .ok (.iload_n 1, 1) := by decide +kernel
theorem dX11_rowFits_18 : decode cX11_rowFits 18 = .ok (.iaload, 1) := by decide +kernel
theorem dX11_rowFits_19 : decode cX11_rowFits 19 = .ok (.iadd, 1) := by decide +kernel
theorem dX11_rowFits_20 : decode cX11_rowFits 20 = .ok (.sipush 300, 3) := by decide +kernel
theorem dX11_rowFits_23 : decode cX11_rowFits 23 = .ok (.if_icmp .gt 7, 3) := by decide +kernel
theorem dX11_rowFits_26 : decode cX11_rowFits 26 = .ok (.iconst 1, 1) := by decide +kernel
theorem dX11_rowFits_27 : decode cX11_rowFits 27 = .ok (.goto 4, 3) := by decide +kernel
theorem dX11_rowFits_31 : decode cX11_rowFits 31 = .ok (.ireturn, 1) := by decide +kernel
set_option maxRecDepth 100000 in
set_option maxHeartbeats 4000000 in
theorem c_X11_rowFits {l : Launch} {n0 : Nat} {D : va_G} {cA : Nat → ClassId} {M : gM} (a : Int) (r_a : -2147483648 ≤ a ∧ a ≤ 2147483647) {sz : Nat} (hsz : 206 ≤ sz) (f_0_0 : M 0 0 = 2) (f_1_15 : M 1 15 = 0) (f_1_6 : M 1 6 = 16) (f_15_2 : M 15 2 = 19) (hab : 0 ≤ a ∧ a ≤ 2) (rows0 : ∀ i : Int, 0 ≤ i → i < 3 → M 18 i = 0) : Met l yX11_rowFits (gWsOf yX11_rowFits cX11_rowFits 2 (Option.some Jvm.ClassFile.FieldType.boolean)) { frames := 0, cells := 0, slots := 0, locals := 0 } (gPc n0 D cA [gA n0 0, gJ a] M sz) (gQi n0 D cA sz (fun z M1 => M = M1 ∧ (z = 1))) 0 0 (fun q => n0 ≤ q) := by
  refine gMet_of [gA n0 0, gJ a] (by decide) (Nat.le_of_ble_eq_true rfl) ?_
  intro p e s m args below meth cd X hr hm
  have X : gCx p s m args meth cd n0 D cA "ParishUnion" cX11_rowFits 2 := X
  show G p l e ({ frames := 0, cells := 0, slots := 0, locals := 0 } : Room) s m args below meth cd n0 D cA 2 (MQ below (gQi n0 D cA sz (fun z M1 => M = M1 ∧ (z = 1))) args s 0 0 (fun q => n0 ≤ q)) 0 0 M sz 0 [(0, gA n0 0), (1, gJ a)] []
  refine g_aload_n (n := 1) X 0 dX11_rowFits_0 rfl rfl rfl ?_
  refine gg_11_0 (n := 4) (z := 1) X (by omega) (by omega) lay_0 kw_2_231 dX11_rowFits_1 rfl f_0_0 (by omega) ?_
  refine gg_9_15 (n := 7) (z := 0) X (by omega) (by omega) lay_1 kw_2_139 dX11_rowFits_4 rfl f_1_15 ?_
  refine g_aload_n (n := 8) X 0 dX11_rowFits_7 rfl rfl rfl ?_
  refine gg_11_0 (n := 11) (z := 1) X (by omega) (by omega) lay_0 kw_2_231 dX11_rowFits_8 rfl f_0_0 (by omega) ?_
  refine gg_9_6 (n := 14) (z := 15) X (by omega) (by omega) lay_1 kw_2_119 dX11_rowFits_11 rfl f_1_6 (by omega) ?_
  refine gg_2_2 (n := 17) (z := 18) X (by omega) (by omega) lay_15 kw_1_102 dX11_rowFits_14 rfl f_15_2 (by omega) ?_
  refine g_iload_n (n := 18) X 1 dX11_rowFits_17 rfl rfl rfl ?_
  refine g_iald (n := 19) X (by omega) (by omega) lay_18 (by omega) (by omega) (by omega) dX11_rowFits_18 rfl ?_
  rw [show M 18 a = 0 from (rows0 _ (by omega) (by omega))]
  refine g_iadd (n := 20) (z := 0) X dX11_rowFits_19 rfl rfl ?_
  refine g_sipush (n := 23) X dX11_rowFits_20 (by decide +kernel) rfl ?_
  refine g_icmp_gt (n := 26) (tgt := 30) X dX11_rowFits_23 (by decide) (by omega) (by omega) rfl (fun c1 => by exfalso; omega) (fun c1 => ?_)
  refine g_iconst (n := 27) X dX11_rowFits_26 rfl ?_
  refine g_goto (tgt := 31) X dX11_rowFits_27 (by decide) ?_
  exact g_zreturn X (by omega) hr dX11_rowFits_31 (by exact ⟨rfl, by omega⟩)
theorem dX11_rowsCanBeTried_0 : decode cX11_rowsCanBeTried 0 = .ok (.iconst 0, 1) := by decide +kernel
theorem dX11_rowsCanBeTried_1 : decode cX11_rowsCanBeTried 1 = .ok (.istore_n 1, 1) := by decide +kernel
theorem dX11_rowsCanBeTried_2 : decode cX11_rowsCanBeTried 2 = .ok (.iconst 0, 1) := by decide +kernel
theorem dX11_rowsCanBeTried_3 : decode cX11_rowsCanBeTried 3 = .ok (.istore_n 2, 1) := by decide +kernel
theorem dX11_rowsCanBeTried_4 : decode cX11_rowsCanBeTried 4 = .ok (.iload_n 2, 1) := by decide +kernel
theorem dX11_rowsCanBeTried_5 : decode cX11_rowsCanBeTried 5 = .ok (.iconst 3, 1) := by decide +kernel
theorem dX11_rowsCanBeTried_6 : decode cX11_rowsCanBeTried 6 = .ok (.if_icmp .ge 42, 3) := by decide +kernel
theorem dX11_rowsCanBeTried_9 : decode cX11_rowsCanBeTried 9 = .ok (.aload_n 0, 1) := by decide +kernel
theorem dX11_rowsCanBeTried_10 : decode cX11_rowsCanBeTried 10 = .ok (.iload_n 2, 1) := by decide +kernel
theorem dX11_rowsCanBeTried_11 : decode cX11_rowsCanBeTried 11 = .ok (.invokevirtual 400, 3) := by decide +kernel
theorem kw_5_153 : (Jvm.Cond.methodLink "ParishUnion" (400 : Nat) ({ cls := "ParishUnion", name := "rowFits", desc := "(I)Z" } : Jvm.MethodName)) ∈ gT := gT_of (tb_5 _ (List.mem_of_getElem? (i := 153) rfl)) rfl
theorem kw_5_156 : (Jvm.Cond.code ({ cls := "ParishUnion", name := "rowFits", desc := "(I)Z" } : Jvm.MethodName) prog_1_method_63_code (2 : Nat) (Option.some Jvm.ClassFile.FieldType.boolean)) ∈ gT := gT_of (tb_5 _ (List.mem_of_getElem? (i := 156) rfl)) rfl
theorem okX11_rowFits : gQok yX11_rowFits cX11_rowFits 2 (Option.some Jvm.ClassFile.FieldType.boolean) 1 := ⟨kw_5_156, kw_1_1, by decide +kernel, by decide +kernel, by decide +kernel⟩
theorem kw_5_155 : (Jvm.Cond.instanceMethod ({ cls := "ParishUnion", name := "rowFits", desc := "(I)Z" } : Jvm.MethodName)) ∈ gT := gT_of (tb_5 _ (List.mem_of_getElem? (i := 155) rfl)) rfl
theorem kw_0_34 : (Jvm.Cond.selects "ParishUnion" ({ cls := "ParishUnion", name := "rowFits", desc := "(I)Z" } : Jvm.MethodName) ({ cls := "ParishUnion", name := "rowFits", desc := "(I)Z" } : Jvm.MethodName)) ∈ gT := gT_of (tb_0 _ (List.mem_of_getElem? (i := 34) rfl)) rfl
theorem dX11_rowsCanBeTried_14 : decode cX11_rowsCanBeTried 14 = .ok (.ifCond .ne 5, 3) := by decide +kernel
theorem dX11_rowsCanBeTried_19 : decode cX11_rowsCanBeTried 19 = .ok (.iload_n 1, 1) := by decide +kernel
theorem dX11_rowsCanBeTried_20 : decode cX11_rowsCanBeTried 20 = .ok (.aload_n 0, 1) := by decide +kernel
theorem dX11_rowsCanBeTried_21 : decode cX11_rowsCanBeTried 21 = .ok (.getfield 10, 3) := by decide +kernel
theorem dX11_rowsCanBeTried_24 : decode cX11_rowsCanBeTried 24 = .ok (.getfield 279, 3) := by decide +kernel
theorem dX11_rowsCanBeTried_27 : decode cX11_rowsCanBeTried 27 = .ok (.getfield 397, 3) := by decide +kernel
theorem dX11_rowsCanBeTried_30 : decode cX11_rowsCanBeTried 30 = .ok (.iload_n 2, 1) := by decide +kernel
theorem dX11_rowsCanBeTried_31 : decode cX11_rowsCanBeTried 31 = .ok (.iaload, 1) := by decide +kernel
theorem dX11_rowsCanBeTried_32 : decode cX11_rowsCanBeTried 32 = .ok (.ifCond .le 7, 3) := by decide +kernel
theorem dX11_rowsCanBeTried_39 : decode cX11_rowsCanBeTried 39 = .ok (.iconst 0, 1) := by decide +kernel
theorem dX11_rowsCanBeTried_40 : decode cX11_rowsCanBeTried 40 = .ok (.ior, 1) := by decide +kernel
theorem dX11_rowsCanBeTried_41 : decode cX11_rowsCanBeTried 41 = .ok (.istore_n 1, 1) := by decide +kernel
theorem dX11_rowsCanBeTried_42 : decode cX11_rowsCanBeTried 42 = .ok (.iinc 2 1, 3) := by decide +kernel
theorem dX11_rowsCanBeTried_45 : decode cX11_rowsCanBeTried 45 = .ok (.goto (-41), 3) := by decide +kernel
theorem dX11_rowsCanBeTried_48 : decode cX11_rowsCanBeTried 48 = .ok (.iload_n 1, 1) := by decide +kernel
theorem dX11_rowsCanBeTried_49 : decode cX11_rowsCanBeTried 49 = .ok (.ireturn, 1) := by decide +kernel
set_option maxRecDepth 100000 in
set_option maxHeartbeats 4000000 in
theorem c_X11_rowsCanBeTried {l : Launch} {n0 : Nat} {D : va_G} {cA : Nat → ClassId} {M : gM}  {sz : Nat} (hsz : 206 ≤ sz) (f_0_0 : M 0 0 = 2) (f_1_15 : M 1 15 = 0) (f_1_6 : M 1 6 = 16) (f_15_2 : M 15 2 = 19) (rows0 : ∀ i : Int, 0 ≤ i → i < 3 → M 18 i = 0) : Met l yX11_rowsCanBeTried (gWsOf yX11_rowsCanBeTried cX11_rowsCanBeTried 3 (Option.some Jvm.ClassFile.FieldType.boolean)) { frames := 1, cells := 0, slots := 0, locals := 21 } (gPc n0 D cA [gA n0 0] M sz) (gQi n0 D cA sz (fun z M1 => M = M1 ∧ (z = 0))) 0 0 (fun q => n0 ≤ q) := by
  refine gMet_of [gA n0 0] (by decide) (Nat.le_of_ble_eq_true rfl) ?_
  intro p e s m args below meth cd X hr hm
  have X : gCx p s m args meth cd n0 D cA "ParishUnion" cX11_rowsCanBeTried 3 := X
  show G p l e ({ frames := 1, cells := 0, slots := 0, locals := 21 } : Room) s m args below meth cd n0 D cA 3 (MQ below (gQi n0 D cA sz (fun z M1 => M = M1 ∧ (z = 0))) args s 0 0 (fun q => n0 ≤ q)) 0 0 M sz 0 [(0, gA n0 0)] []
  refine g_iconst (n := 1) X dX11_rowsCanBeTried_0 rfl ?_
  refine g_istore_n (n := 2) (L' := [(1, gJ 0), (0, gA n0 0)]) X dX11_rowsCanBeTried_1 rfl (by decide) rfl rfl ?_
  refine g_iconst (n := 3) X dX11_rowsCanBeTried_2 rfl ?_
  refine g_istore_n (n := 4) (L' := [(2, gJ 0), (1, gJ 0), (0, gA n0 0)]) X dX11_rowsCanBeTried_3 rfl (by decide) rfl rfl ?_
  refine g_iload_n (n := 5) X 0 dX11_rowsCanBeTried_4 rfl rfl rfl ?_
  refine g_iconst (n := 6) X dX11_rowsCanBeTried_5 rfl ?_
  refine g_icmp_ge (n := 9) (tgt := 48) X dX11_rowsCanBeTried_6 (by decide) (by omega) (by omega) rfl (fun c1 => by exfalso; omega) (fun c1 => ?_)
  refine g_aload_n (n := 10) X 2 dX11_rowsCanBeTried_9 rfl rfl rfl ?_
  refine g_iload_n (n := 11) X 0 dX11_rowsCanBeTried_10 rfl rfl rfl ?_
  refine g_callVi (n := 14) (As := [gJ 0]) (rest := []) (cs1 := 0) (ss1 := 0) X (c_X11_rowFits 0 (by omega) (by omega) f_0_0 f_1_15 f_1_6 f_15_2 (by omega) rows0) okX11_rowFits kw_5_153 ⟨kw_5_155, kw_0_34⟩ ⟨rfl, rfl⟩ ⟨Nat.le_of_ble_eq_true rfl, Nat.le_of_ble_eq_true rfl⟩ rfl (by omega) (by omega) lay_0 rfl rfl (Nat.le_of_ble_eq_true rfl) ⟨Nat.le_of_ble_eq_true rfl, Nat.le_of_ble_eq_true rfl⟩ rfl rfl dX11_rowsCanBeTried_11 rfl (fun z2 M3 P4 => ?_)
  obtain ⟨rfl, rfl⟩ := P4
  refine g_if_ne (n := 17) (tgt := 19) X dX11_rowsCanBeTried_14 (by decide) (by omega) rfl (fun c5 => ?_) (fun c5 => by exfalso; omega)
  refine g_iload_n (n := 20) X 1 dX11_rowsCanBeTried_19 rfl rfl rfl ?_
  refine g_aload_n (n := 21) X 2 dX11_rowsCanBeTried_20 rfl rfl rfl ?_
  refine gg_11_0 (n := 24) (z := 1) X (by omega) (by omega) lay_0 kw_2_231 dX11_rowsCanBeTried_21 rfl f_0_0 (by omega) ?_
  refine gg_9_6 (n := 27) (z := 15) X (by omega) (by omega) lay_1 kw_2_119 dX11_rowsCanBeTried_24 rfl f_1_6 (by omega) ?_
  refine gg_2_2 (n := 30) (z := 18) X (by omega) (by omega) lay_15 kw_1_102 dX11_rowsCanBeTried_27 rfl f_15_2 (by omega) ?_
  refine g_iload_n (n := 31) X 0 dX11_rowsCanBeTried_30 rfl rfl rfl ?_
  refine g_iald (n := 32) X (by omega) (by omega) lay_18 (by omega) (by omega) (by omega) dX11_rowsCanBeTried_31 rfl ?_
  rw [show M 18 0 = 0 from (rows0 _ (by omega) (by omega))]
  refine g_if_le (n := 35) (tgt := 39) X dX11_rowsCanBeTried_32 (by decide) (by omega) rfl (fun c6 => ?_) (fun c6 => by exfalso; omega)
  refine g_iconst (n := 40) X dX11_rowsCanBeTried_39 rfl ?_
  refine g_iorE (n := 41) (z := 0) X dX11_rowsCanBeTried_40 (by decide +kernel) rfl ?_
  refine g_istore_n (n := 42) (L' := [(1, gJ 0), (2, gJ 0), (0, gA n0 0)]) X dX11_rowsCanBeTried_41 rfl (by decide) rfl rfl ?_
  refine g_iinc (n := 45) (w := 1) (L' := [(2, gJ 1), (1, gJ 0), (0, gA n0 0)]) X 1 dX11_rowsCanBeTried_42 rfl rfl (by decide) rfl rfl ?_
  refine g_goto (tgt := 4) X dX11_rowsCanBeTried_45 (by decide) ?_
  refine g_iload_n (n := 5) X 0 dX11_rowsCanBeTried_4 rfl rfl rfl ?_
  refine g_iconst (n := 6) X dX11_rowsCanBeTried_5 rfl ?_
  refine g_icmp_ge (n := 9) (tgt := 48) X dX11_rowsCanBeTried_6 (by decide) (by omega) (by omega) rfl (fun c7 => by exfalso; omega) (fun c7 => ?_)
  refine g_aload_n (n := 10) X 2 dX11_rowsCanBeTried_9 rfl rfl rfl ?_
  refine g_iload_n (n := 11) X 0 dX11_rowsCanBeTried_10 rfl rfl rfl ?_
  refine g_callVi (n := 14) (As := [gJ 1]) (rest := []) (cs1 := 0) (ss1 := 0) X (c_X11_rowFits 1 (by omega) (by omega) f_0_0 f_1_15 f_1_6 f_15_2 (by omega) rows0) okX11_rowFits kw_5_153 ⟨kw_5_155, kw_0_34⟩ ⟨rfl, rfl⟩ ⟨Nat.le_of_ble_eq_true rfl, Nat.le_of_ble_eq_true rfl⟩ rfl (by omega) (by omega) lay_0 rfl rfl (Nat.le_of_ble_eq_true rfl) ⟨Nat.le_of_ble_eq_true rfl, Nat.le_of_ble_eq_true rfl⟩ rfl rfl dX11_rowsCanBeTried_11 rfl (fun z8 M9 P10 => ?_)
  obtain ⟨rfl, rfl⟩ := P10
  refine g_if_ne (n := 17) (tgt := 19) X dX11_rowsCanBeTried_14 (by decide) (by omega) rfl (fun c11 => ?_) (fun c11 => by exfalso; omega)
  refine g_iload_n (n := 20) X 1 dX11_rowsCanBeTried_19 rfl rfl rfl ?_
  refine g_aload_n (n := 21) X 2 dX11_rowsCanBeTried_20 rfl rfl rfl ?_
  refine gg_11_0 (n := 24) (z := 1) X (by omega) (by omega) lay_0 kw_2_231 dX11_rowsCanBeTried_21 rfl f_0_0 (by omega) ?_
  refine gg_9_6 (n := 27) (z := 15) X (by omega) (by omega) lay_1 kw_2_119 dX11_rowsCanBeTried_24 rfl f_1_6 (by omega) ?_
  refine gg_2_2 (n := 30) (z := 18) X (by omega) (by omega) lay_15 kw_1_102 dX11_rowsCanBeTried_27 rfl f_15_2 (by omega) ?_
  refine g_iload_n (n := 31) X 0 dX11_rowsCanBeTried_30 rfl rfl rfl ?_
  refine g_iald (n := 32) X (by omega) (by omega) lay_18 (by omega) (by omega) (by omega) dX11_rowsCanBeTried_31 rfl ?_
  rw [show M 18 1 = 0 from (rows0 _ (by omega) (by omega))]
  refine g_if_le (n := 35) (tgt := 39) X dX11_rowsCanBeTried_32 (by decide) (by omega) rfl (fun c12 => ?_) (fun c12 => by exfalso; omega)
  refine g_iconst (n := 40) X dX11_rowsCanBeTried_39 rfl ?_
  refine g_iorE (n := 41) (z := 0) X dX11_rowsCanBeTried_40 (by decide +kernel) rfl ?_
  refine g_istore_n (n := 42) (L' := [(1, gJ 0), (2, gJ 1), (0, gA n0 0)]) X dX11_rowsCanBeTried_41 rfl (by decide) rfl rfl ?_
  refine g_iinc (n := 45) (w := 2) (L' := [(2, gJ 2), (1, gJ 0), (0, gA n0 0)]) X 1 dX11_rowsCanBeTried_42 rfl rfl (by decide) rfl rfl ?_
  refine g_goto (tgt := 4) X dX11_rowsCanBeTried_45 (by decide) ?_
  refine g_iload_n (n := 5) X 0 dX11_rowsCanBeTried_4 rfl rfl rfl ?_
  refine g_iconst (n := 6) X dX11_rowsCanBeTried_5 rfl ?_
  refine g_icmp_ge (n := 9) (tgt := 48) X dX11_rowsCanBeTried_6 (by decide) (by omega) (by omega) rfl (fun c13 => by exfalso; omega) (fun c13 => ?_)
  refine g_aload_n (n := 10) X 2 dX11_rowsCanBeTried_9 rfl rfl rfl ?_
  refine g_iload_n (n := 11) X 0 dX11_rowsCanBeTried_10 rfl rfl rfl ?_
  refine g_callVi (n := 14) (As := [gJ 2]) (rest := []) (cs1 := 0) (ss1 := 0) X (c_X11_rowFits 2 (by omega) (by omega) f_0_0 f_1_15 f_1_6 f_15_2 (by omega) rows0) okX11_rowFits kw_5_153 ⟨kw_5_155, kw_0_34⟩ ⟨rfl, rfl⟩ ⟨Nat.le_of_ble_eq_true rfl, Nat.le_of_ble_eq_true rfl⟩ rfl (by omega) (by omega) lay_0 rfl rfl (Nat.le_of_ble_eq_true rfl) ⟨Nat.le_of_ble_eq_true rfl, Nat.le_of_ble_eq_true rfl⟩ rfl rfl dX11_rowsCanBeTried_11 rfl (fun z14 M15 P16 => ?_)
  obtain ⟨rfl, rfl⟩ := P16
  refine g_if_ne (n := 17) (tgt := 19) X dX11_rowsCanBeTried_14 (by decide) (by omega) rfl (fun c17 => ?_) (fun c17 => by exfalso; omega)
  refine g_iload_n (n := 20) X 1 dX11_rowsCanBeTried_19 rfl rfl rfl ?_
  refine g_aload_n (n := 21) X 2 dX11_rowsCanBeTried_20 rfl rfl rfl ?_
  refine gg_11_0 (n := 24) (z := 1) X (by omega) (by omega) lay_0 kw_2_231 dX11_rowsCanBeTried_21 rfl f_0_0 (by omega) ?_
  refine gg_9_6 (n := 27) (z := 15) X (by omega) (by omega) lay_1 kw_2_119 dX11_rowsCanBeTried_24 rfl f_1_6 (by omega) ?_
  refine gg_2_2 (n := 30) (z := 18) X (by omega) (by omega) lay_15 kw_1_102 dX11_rowsCanBeTried_27 rfl f_15_2 (by omega) ?_
  refine g_iload_n (n := 31) X 0 dX11_rowsCanBeTried_30 rfl rfl rfl ?_
  refine g_iald (n := 32) X (by omega) (by omega) lay_18 (by omega) (by omega) (by omega) dX11_rowsCanBeTried_31 rfl ?_
  rw [show M 18 2 = 0 from (rows0 _ (by omega) (by omega))]
  refine g_if_le (n := 35) (tgt := 39) X dX11_rowsCanBeTried_32 (by decide) (by omega) rfl (fun c18 => ?_) (fun c18 => by exfalso; omega)
  refine g_iconst (n := 40) X dX11_rowsCanBeTried_39 rfl ?_
  refine g_iorE (n := 41) (z := 0) X dX11_rowsCanBeTried_40 (by decide +kernel) rfl ?_
  refine g_istore_n (n := 42) (L' := [(1, gJ 0), (2, gJ 2), (0, gA n0 0)]) X dX11_rowsCanBeTried_41 rfl (by decide) rfl rfl ?_
  refine g_iinc (n := 45) (w := 3) (L' := [(2, gJ 3), (1, gJ 0), (0, gA n0 0)]) X 1 dX11_rowsCanBeTried_42 rfl rfl (by decide) rfl rfl ?_
  refine g_goto (tgt := 4) X dX11_rowsCanBeTried_45 (by decide) ?_
  refine g_iload_n (n := 5) X 0 dX11_rowsCanBeTried_4 rfl rfl rfl ?_
  refine g_iconst (n := 6) X dX11_rowsCanBeTried_5 rfl ?_
  refine g_icmp_ge (n := 9) (tgt := 48) X dX11_rowsCanBeTried_6 (by decide) (by omega) (by omega) rfl (fun c19 => ?_) (fun c19 => by exfalso; omega)
  refine g_iload_n (n := 49) X 1 dX11_rowsCanBeTried_48 rfl rfl rfl ?_
  exact g_zreturn X (by omega) hr dX11_rowsCanBeTried_49 (by exact ⟨rfl, by omega⟩)
theorem dX11_plan_0 : decode cX11_plan 0 = .ok (.iload_n 1, 1) := by decide +kernel
theorem dX11_plan_1 : decode cX11_plan 1 = .ok (.iconst 0, 1) := by decide +kernel
theorem dX11_plan_2 : decode cX11_plan 2 = .ok (.iconst 1, 1) := by decide +kernel
theorem dX11_plan_3 : decode cX11_plan 3 = .ok (.invokestatic 62, 3) := by decide +kernel
theorem dX11_plan_6 : decode cX11_plan 6 = .ok (.ifCond .ne 5, 3) := by decide +kernel
theorem dX11_plan_11 : decode cX11_plan 11 = .ok (.aload_n 0, 1) := by decide +kernel
theorem dX11_plan_12 : decode cX11_plan 12 = .ok (.invokevirtual 380, 3) := by decide +kernel
theorem kw_5_149 : (Jvm.Cond.methodLink "ParishUnion" (380 : Nat) ({ cls := "ParishUnion", name := "rowsCanBeTried", desc := "()Z" } : Jvm.MethodName)) ∈ gT := gT_of (tb_5 _ (List.mem_of_getElem? (i := 149) rfl)) rfl
theorem kw_5_152 : (Jvm.Cond.code ({ cls := "ParishUnion", name := "rowsCanBeTried", desc := "()Z" } : Jvm.MethodName) prog_1_method_64_code (3 : Nat) (Option.some Jvm.ClassFile.FieldType.boolean)) ∈ gT := gT_of (tb_5 _ (List.mem_of_getElem? (i := 152) rfl)) rfl
theorem okX11_rowsCanBeTried : gQok yX11_rowsCanBeTried cX11_rowsCanBeTried 3 (Option.some Jvm.ClassFile.FieldType.boolean) 0 := ⟨kw_5_152, kw_1_1, by decide +kernel, by decide +kernel, by decide +kernel⟩
theorem kw_5_151 : (Jvm.Cond.instanceMethod ({ cls := "ParishUnion", name := "rowsCanBeTried", desc := "()Z" } : Jvm.MethodName)) ∈ gT := gT_of (tb_5 _ (List.mem_of_getElem? (i := 151) rfl)) rfl
theorem kw_0_33 : (Jvm.Cond.selects "ParishUnion" ({ cls := "ParishUnion", name := "rowsCanBeTried", desc := "()Z" } : Jvm.MethodName) ({ cls := "ParishUnion", name := "rowsCanBeTried", desc := "()Z" } : Jvm.MethodName)) ∈ gT := gT_of (tb_0 _ (List.mem_of_getElem? (i := 33) rfl)) rfl
theorem dX11_plan_15 : decode cX11_plan 15 = .ok (.ifCond .ne 6, 3) := by decide +kernel
theorem dX11_plan_18 : decode cX11_plan 18 = .ok (.bipush (-3), 2) := by decide +kernel
theorem dX11_plan_20 : decode cX11_plan 20 = .ok (.ireturn, 1) := by decide +kernel
theorem dX11_plan_9 : decode cX11_plan 9 = .ok (.iconst (-1), 1) := by decide +kernel
theorem dX11_plan_10 : decode cX11_plan 10 = .ok (.ireturn, 1) := by decide +kernel
set_option maxRecDepth 100000 in
set_option maxHeartbeats 4000000 in
theorem c_X11_plan {l : Launch} {n0 : Nat} {D : va_G} {cA : Nat → ClassId} {M : gM} (a : Int) (r_a : -2147483648 ≤ a ∧ a ≤ 2147483647) {sz : Nat} (hsz : 206 ≤ sz) (f_0_0 : M 0 0 = 2) (f_1_15 : M 1 15 = 0) (f_1_6 : M 1 6 = 16) (f_15_2 : M 15 2 = 19) (rows0 : ∀ i : Int, 0 ≤ i → i < 3 → M 18 i = 0) : Met l yX11_plan (gWsOf yX11_plan cX11_plan 7 (Option.some Jvm.ClassFile.FieldType.int)) { frames := 8, cells := 0, slots := 0, locals := 217 } (gPc n0 D cA [gA n0 0, gJ a] M sz) (gQi n0 D cA sz (fun z M1 => ((¬(0 ≤ a ∧ a ≤ 1) → z = -1) ∧ (0 ≤ a → a ≤ 1 → z = -3)) ∧ ∀ a : Int, M1 a = M a)) 0 0 (fun q => n0 ≤ q) := by
  refine gMet_of [gA n0 0, gJ a] (by decide) (Nat.le_of_ble_eq_true rfl) ?_
  intro p e s m args below meth cd X hr hm
  have X : gCx p s m args meth cd n0 D cA "ParishUnion" cX11_plan 7 := X
  show G p l e ({ frames := 8, cells := 0, slots := 0, locals := 217 } : Room) s m args below meth cd n0 D cA 7 (MQ below (gQi n0 D cA sz (fun z M1 => ((¬(0 ≤ a ∧ a ≤ 1) → z = -1) ∧ (0 ≤ a → a ≤ 1 → z = -3)) ∧ ∀ a : Int, M1 a = M a)) args s 0 0 (fun q => n0 ≤ q)) 0 0 M sz 0 [(0, gA n0 0), (1, gJ a)] []
  refine g_iload_n (n := 1) X 1 dX11_plan_0 rfl rfl rfl ?_
  refine g_iconst (n := 2) X dX11_plan_1 rfl ?_
  refine g_iconst (n := 3) X dX11_plan_2 rfl ?_
  refine g_callSi (n := 6) (As := [gJ a, gJ 0, gJ 1]) (rest := []) (cs1 := 0) (ss1 := 0) X (c_X11_within a 0 1 (by omega) (by omega) (by omega) (by omega)) okX11_within kw_3_29 kw_3_30 ⟨rfl, rfl⟩ ⟨Nat.le_of_ble_eq_true rfl, Nat.le_of_ble_eq_true rfl⟩ rfl rfl (Nat.le_of_ble_eq_true rfl) ⟨Nat.le_of_ble_eq_true rfl, Nat.le_of_ble_eq_true rfl⟩ rfl rfl dX11_plan_3 rfl (fun z1 M2 P3 => ?_)
  obtain ⟨rfl, P3⟩ := P3
  refine g_if_ne (n := 9) (tgt := 11) X dX11_plan_6 (by decide) (by omega) rfl (fun c4 => ?_) (fun c4 => ?_)
  · refine g_aload_n (n := 12) X 0 dX11_plan_11 rfl rfl rfl ?_
    refine g_callVi (n := 15) (As := []) (rest := []) (cs1 := 0) (ss1 := 0) X (c_X11_rowsCanBeTried (by omega) f_0_0 f_1_15 f_1_6 f_15_2 rows0) okX11_rowsCanBeTried kw_5_149 ⟨kw_5_151, kw_0_33⟩ ⟨rfl, rfl⟩ ⟨Nat.le_of_ble_eq_true rfl, Nat.le_of_ble_eq_true rfl⟩ rfl (by omega) (by omega) lay_0 rfl rfl (Nat.le_of_ble_eq_true rfl) ⟨Nat.le_of_ble_eq_true rfl, Nat.le_of_ble_eq_true rfl⟩ rfl rfl dX11_plan_12 rfl (fun z5 M6 P7 => ?_)
    obtain ⟨rfl, rfl⟩ := P7
    refine g_if_ne (n := 18) (tgt := 21) X dX11_plan_15 (by decide) (by omega) rfl (fun c8 => by exfalso; omega) (fun c8 => ?_)
    refine g_bipush (n := 20) X dX11_plan_18 (by decide +kernel) rfl ?_
    exact g_ireturn X hr dX11_plan_20 (by exact ⟨by omega, fun a  => rfl⟩)
  · refine g_iconst (n := 10) X dX11_plan_9 rfl ?_
    exact g_ireturn X hr dX11_plan_10 (by exact ⟨by omega, fun a  => rfl⟩)
theorem dX11_tried_0 : decode cX11_tried 0 = .ok (.iload_n 1, 1) := by decide +kernel
theorem dX11_tried_1 : decode cX11_tried 1 = .ok (.iconst 0, 1) := by decide +kernel
theorem dX11_tried_2 : decode cX11_tried 2 = .ok (.iconst 2, 1) := by decide +kernel
theorem dX11_tried_3 : decode cX11_tried 3 = .ok (.invokestatic 62, 3) := by decide +kernel
theorem dX11_tried_6 : decode cX11_tried 6 = .ok (.ifCond .eq 27, 3) := by decide +kernel
theorem dX11_tried_33 : decode cX11_tried 33 = .ok (.iconst (-1), 1) := by decide +kernel
theorem dX11_tried_34 : decode cX11_tried 34 = .ok (.ireturn, 1) := by decide +kernel
theorem dX11_tried_9 : decode cX11_tried 9 = .ok (.iload_n 2, 1) := by decide +kernel
theorem dX11_tried_10 : decode cX11_tried 10 = .ok (.iconst 0, 1) := by decide +kernel
theorem dX11_tried_11 : decode cX11_tried 11 = .ok (.iconst 2, 1) := by decide +kernel
theorem dX11_tried_12 : decode cX11_tried 12 = .ok (.invokestatic 62, 3) := by decide +kernel
theorem dX11_tried_15 : decode cX11_tried 15 = .ok (.ifCond .eq 18, 3) := by decide +kernel
theorem dX11_tried_18 : decode cX11_tried 18 = .ok (.aload_n 0, 1) := by decide +kernel
theorem dX11_tried_19 : decode cX11_tried 19 = .ok (.getfield 10, 3) := by decide +kernel
theorem dX11_tried_22 : decode cX11_tried 22 = .ok (.getfield 279, 3) := by decide +kernel
theorem dX11_tried_25 : decode cX11_tried 25 = .ok (.getfield 397, 3) := by decide +kernel
theorem dX11_tried_28 : decode cX11_tried 28 = .ok (.iload_n 1, 1) := by decide +kernel
theorem dX11_tried_29 : decode cX11_tried 29 = .ok (.iaload, 1) := by decide +kernel
theorem dX11_tried_30 : decode cX11_tried 30 = .ok (.ifCond .ne 5, 3) := by decide +kernel
set_option maxRecDepth 100000 in
set_option maxHeartbeats 4000000 in
theorem c_X11_tried {l : Launch} {n0 : Nat} {D : va_G} {cA : Nat → ClassId} {M : gM} (a b : Int) (r_a : -2147483648 ≤ a ∧ a ≤ 2147483647) (r_b : -2147483648 ≤ b ∧ b ≤ 2147483647) {sz : Nat} (hsz : 206 ≤ sz) (f_0_0 : M 0 0 = 2) (f_1_6 : M 1 6 = 16) (f_15_2 : M 15 2 = 19) (rows0 : ∀ i : Int, 0 ≤ i → i < 3 → M 18 i = 0) : Met l yX11_tried (gWsOf yX11_tried cX11_tried 6 (Option.some Jvm.ClassFile.FieldType.int)) { frames := 10, cells := 0, slots := 0, locals := 253 } (gPc n0 D cA [gA n0 0, gJ a, gJ b] M sz) (gQi n0 D cA sz (fun z M1 => (z = -1) ∧ ∀ a : Int, M1 a = M a)) 0 0 (fun q => n0 ≤ q) := by
  refine gMet_of [gA n0 0, gJ a, gJ b] (by decide) (Nat.le_of_ble_eq_true rfl) ?_
  intro p e s m args below meth cd X hr hm
  have X : gCx p s m args meth cd n0 D cA "ParishUnion" cX11_tried 6 := X
  show G p l e ({ frames := 10, cells := 0, slots := 0, locals := 253 } : Room) s m args below meth cd n0 D cA 6 (MQ below (gQi n0 D cA sz (fun z M1 => (z = -1) ∧ ∀ a : Int, M1 a = M a)) args s 0 0 (fun q => n0 ≤ q)) 0 0 M sz 0 [(0, gA n0 0), (1, gJ a), (2, gJ b)] []
  refine g_iload_n (n := 1) X 1 dX11_tried_0 rfl rfl rfl ?_
  refine g_iconst (n := 2) X dX11_tried_1 rfl ?_
  refine g_iconst (n := 3) X dX11_tried_2 rfl ?_
  refine g_callSi (n := 6) (As := [gJ a, gJ 0, gJ 2]) (rest := []) (cs1 := 0) (ss1 := 0) X (c_X11_within a 0 2 (by omega) (by omega) (by omega) (by omega)) okX11_within kw_3_29 kw_3_30 ⟨rfl, rfl⟩ ⟨Nat.le_of_ble_eq_true rfl, Nat.le_of_ble_eq_true rfl⟩ rfl rfl (Nat.le_of_ble_eq_true rfl) ⟨Nat.le_of_ble_eq_true rfl, Nat.le_of_ble_eq_true rfl⟩ rfl rfl dX11_tried_3 rfl (fun z1 M2 P3 => ?_)
  obtain ⟨rfl, P3⟩ := P3
  refine g_if_eq (n := 9) (tgt := 33) X dX11_tried_6 (by decide) (by omega) rfl (fun c4 => ?_) (fun c4 => ?_)
  · refine g_iconst (n := 34) X dX11_tried_33 rfl ?_
    exact g_ireturn X hr dX11_tried_34 (by exact ⟨by omega, fun a  => rfl⟩)
  · refine g_iload_n (n := 10) X 2 dX11_tried_9 rfl rfl rfl ?_
    refine g_iconst (n := 11) X dX11_tried_10 rfl ?_
    refine g_iconst (n := 12) X dX11_tried_11 rfl ?_
    refine g_callSi (n := 15) (As := [gJ b, gJ 0, gJ 2]) (rest := []) (cs1 := 0) (ss1 := 0) X (c_X11_within b 0 2 (by omega) (by omega) (by omega) (by omega)) okX11_within kw_3_29 kw_3_30 ⟨rfl, rfl⟩ ⟨Nat.le_of_ble_eq_true rfl, Nat.le_of_ble_eq_true rfl⟩ rfl rfl (Nat.le_of_ble_eq_true rfl) ⟨Nat.le_of_ble_eq_true rfl, Nat.le_of_ble_eq_true rfl⟩ rfl rfl dX11_tried_12 rfl (fun z5 M6 P7 => ?_)
    obtain ⟨rfl, P7⟩ := P7
    refine g_if_eq (n := 18) (tgt := 33) X dX11_tried_15 (by decide) (by omega) rfl (fun c8 => ?_) (fun c8 => ?_)
    · refine g_iconst (n := 34) X dX11_tried_33 rfl ?_
      exact g_ireturn X hr dX11_tried_34 (by exact ⟨by omega, fun a  => rfl⟩)
    · refine g_aload_n (n := 19) X 0 dX11_tried_18 rfl rfl rfl ?_
      refine gg_11_0 (n := 22) (z := 1) X (by omega) (by omega) lay_0 kw_2_231 dX11_tried_19 rfl f_0_0 (by omega) ?_
      refine gg_9_6 (n := 25) (z := 15) X (by omega) (by omega) lay_1 kw_2_119 dX11_tried_22 rfl f_1_6 (by omega) ?_
      refine gg_2_2 (n := 28) (z := 18) X (by omega) (by omega) lay_15 kw_1_102 dX11_tried_25 rfl f_15_2 (by omega) ?_
      refine g_iload_n (n := 29) X 1 dX11_tried_28 rfl rfl rfl ?_
      refine g_iald (n := 30) X (by omega) (by omega) lay_18 (by omega) (by omega) (by omega) dX11_tried_29 rfl ?_
      rw [show M 18 a = 0 from (rows0 _ (by omega) (by omega))]
      refine g_if_ne (n := 33) (tgt := 35) X dX11_tried_30 (by decide) (by omega) rfl (fun c9 => by exfalso; omega) (fun c9 => ?_)
      refine g_iconst (n := 34) X dX11_tried_33 rfl ?_
      exact g_ireturn X hr dX11_tried_34 (by exact ⟨by omega, fun a  => rfl⟩)
end
section
theorem dX5_open_0 : decode cX5_open 0 = .ok (.iconst 0, 1) := by decide +kernel
theorem dX5_open_1 : decode cX5_open 1 = .ok (.istore_n 2, 1) := by decide +kernel
theorem dX5_open_2 : decode cX5_open 2 = .ok (.iload_n 2, 1) := by decide +kernel
theorem dX5_open_3 : decode cX5_open 3 = .ok (.bipush 7, 2) := by decide +kernel
theorem dX5_open_5 : decode cX5_open 5 = .ok (.if_icmp .ge 21, 3) := by decide +kernel
theorem dX5_open_26 : decode cX5_open 26 = .ok (.iconst 0, 1) := by decide +kernel
theorem dX5_open_27 : decode cX5_open 27 = .ok (.istore_n 2, 1) := by decide +kernel
theorem dX5_open_28 : decode cX5_open 28 = .ok (.iload_n 2, 1) := by decide +kernel
theorem dX5_open_29 : decode cX5_open 29 = .ok (.bipush 16, 2) := by decide +kernel
theorem dX5_open_31 : decode cX5_open 31 = .ok (.if_icmp .ge 23, 3) := by decide +kernel
theorem dX5_open_54 : decode cX5_open 54 = .ok (.return_, 1) := by decide +kernel
theorem dX5_open_34 : decode cX5_open 34 = .ok (.aload_n 0, 1) := by decide +kernel
theorem dX5_open_35 : decode cX5_open 35 = .ok (.getfield 15, 3) := by decide +kernel
theorem kw_1_143 : (Jvm.Cond.fieldLink "ParishUnion$Past" (15 : Nat) "ParishUnion$Past" "marks" "[J") ∈ gT := gT_of (tb_1 _ (List.mem_of_getElem? (i := 143) rfl)) rfl
theorem dX5_open_38 : decode cX5_open 38 = .ok (.iload_n 1, 1) := by decide +kernel
theorem dX5_open_39 : decode cX5_open 39 = .ok (.bipush 16, 2) := by decide +kernel
theorem dX5_open_41 : decode cX5_open 41 = .ok (.imul, 1) := by decide +kernel
theorem dX5_open_42 : decode cX5_open 42 = .ok (.iload_n 2, 1) := by decide +kernel
theorem dX5_open_43 : decode cX5_open 43 = .ok (.iadd, 1) := by decide +kernel
theorem dX5_open_44 : decode cX5_open 44 = .ok (.ldc2_w 25, 3) := by decide +kernel
theorem kw_4_193 : (Jvm.Cond.constantLong "ParishUnion$Past" (25 : Nat) (-1 : Int64)) ∈ gT := gT_of (tb_4 _ (List.mem_of_getElem? (i := 193) rfl)) rfl
theorem dX5_open_47 : decode cX5_open 47 = .ok (.lastore, 1) := by decide +kernel
theorem dX5_open_48 : decode cX5_open 48 = .ok (.iinc 2 1, 3) := by decide +kernel
theorem dX5_open_51 : decode cX5_open 51 = .ok (.goto (-23), 3) := by decide +kernel
theorem dX5_open_8 : decode cX5_open 8 = .ok (.aload_n 0, 1) := by decide +kernel
theorem dX5_open_9 : decode cX5_open 9 = .ok (.getfield 9, 3) := by decide +kernel
theorem kw_1_142 : (Jvm.Cond.fieldLink "ParishUnion$Past" (9 : Nat) "ParishUnion$Past" "sums" "[I") ∈ gT := gT_of (tb_1 _ (List.mem_of_getElem? (i := 142) rfl)) rfl
theorem dX5_open_12 : decode cX5_open 12 = .ok (.iload_n 1, 1) := by decide +kernel
theorem dX5_open_13 : decode cX5_open 13 = .ok (.bipush 7, 2) := by decide +kernel
theorem dX5_open_15 : decode cX5_open 15 = .ok (.imul, 1) := by decide +kernel
theorem dX5_open_16 : decode cX5_open 16 = .ok (.iload_n 2, 1) := by decide +kernel
theorem dX5_open_17 : decode cX5_open 17 = .ok (.iadd, 1) := by decide +kernel
theorem dX5_open_18 : decode cX5_open 18 = .ok (.iconst 0, 1) := by decide +kernel
theorem dX5_open_19 : decode cX5_open 19 = .ok (.iastore, 1) := by decide +kernel
theorem dX5_open_20 : decode cX5_open 20 = .ok (.iinc 2 1, 3) := by decide +kernel
theorem dX5_open_23 : decode cX5_open 23 = .ok (.goto (-21), 3) := by decide +kernel
set_option maxRecDepth 100000 in
set_option maxHeartbeats 4000000 in
theorem c_X5_open {l : Launch} {n0 : Nat} {D : va_G} {cA : Nat → ClassId} {M : gM} (a : Int) (r_a : -2147483648 ≤ a ∧ a ≤ 2147483647) {sz : Nat} (hsz : 206 ≤ sz) (f_23_0 : M 23 0 = 25) (f_23_1 : M 23 1 = 26) (hab : 0 ≤ a ∧ a ≤ 299) : Met l yX5_open (gWsOf yX5_open cX5_open 3 (Option.none : Option Jvm.ClassFile.FieldType)) { frames := 0, cells := 0, slots := 0, locals := 0 } (gPc n0 D cA [gA n0 23, gJ a] M sz) (gQv n0 D cA sz (fun M1 => ∀ a : Int, a ≠ 24 → a ≠ 25 → M1 a = M a)) 0 0 (fun q => n0 ≤ q) := by
  refine gMet_of [gA n0 23, gJ a] (by decide) (Nat.le_of_ble_eq_true rfl) ?_
  intro p e s m args below meth cd X hr hm
  have X : gCx p s m args meth cd n0 D cA "ParishUnion$Past" cX5_open 3 := X
  show G p l e ({ frames := 0, cells := 0, slots := 0, locals := 0 } : Room) s m args below meth cd n0 D cA 3 (MQ below (gQv n0 D cA sz (fun M1 => ∀ a : Int, a ≠ 24 → a ≠ 25 → M1 a = M a)) args s 0 0 (fun q => n0 ≤ q)) 0 0 M sz 0 [(0, gA n0 23), (1, gJ a)] []
  refine g_iconst (n := 1) X dX5_open_0 rfl ?_
  refine g_istore_n (n := 2) (L' := [(2, gJ 0), (0, gA n0 23), (1, gJ a)]) X dX5_open_1 rfl (by decide) rfl rfl ?_
  have loop1 : ∀ (N3 : Nat) (j : Int) (M5 : gM), (∀ a : Int, a ≠ 24 → M5 a = M a) → (0 ≤ j ∧ j ≤ 7) → (7 - j).toNat < N3 → G p l e ({ frames := 0, cells := 0, slots := 0, locals := 0 } : Room) s m args below meth cd n0 D cA 3 (MQ below (gQv n0 D cA sz (fun M1 => ∀ a : Int, a ≠ 24 → a ≠ 25 → M1 a = M a)) args s 0 0 (fun q => n0 ≤ q)) 0 0 M5 sz 2 [(0, gA n0 23), (1, gJ a), (2, gJ j)] [] := by
    intro N3; induction N3 with
    | zero => intro j M5 F6 ij hm4; exfalso; omega
    | succ N3 ih2 =>
      intro j M5 F6 ij hm4
      refine g_iload_n (n := 3) X 2 dX5_open_2 rfl rfl rfl ?_
      refine g_bipush (n := 5) X dX5_open_3 (by decide +kernel) rfl ?_
      refine g_icmp_ge (n := 8) (tgt := 26) X dX5_open_5 (by decide) (by omega) (by omega) rfl (fun c7 => ?_) (fun c7 => ?_)
      · refine g_iconst (n := 27) X dX5_open_26 rfl ?_
        refine g_istore_n (n := 28) (L' := [(2, gJ 0), (0, gA n0 23), (1, gJ a)]) X dX5_open_27 rfl (by decide) rfl rfl ?_
        have loop8 : ∀ (N10 : Nat) (j : Int) (M12 : gM), (∀ a : Int, a ≠ 25 → M12 a = M5 a) → (0 ≤ j ∧ j ≤ 16) → (16 - j).toNat < N10 → G p l e ({ frames := 0, cells := 0, slots := 0, locals := 0 } : Room) s m args below meth cd n0 D cA 3 (MQ below (gQv n0 D cA sz (fun M1 => ∀ a : Int, a ≠ 24 → a ≠ 25 → M1 a = M a)) args s 0 0 (fun q => n0 ≤ q)) 0 0 M12 sz 28 [(0, gA n0 23), (1, gJ a), (2, gJ j)] [] := by
          intro N10; induction N10 with
          | zero => intro j M12 F13 ij hm11; exfalso; omega
          | succ N10 ih9 =>
            intro j M12 F13 ij hm11
            refine g_iload_n (n := 29) X 2 dX5_open_28 rfl rfl rfl ?_
            refine g_bipush (n := 31) X dX5_open_29 (by decide +kernel) rfl ?_
            refine g_icmp_ge (n := 34) (tgt := 54) X dX5_open_31 (by decide) (by omega) (by omega) rfl (fun c14 => ?_) (fun c14 => ?_)
            · exact g_return X hr dX5_open_54 (by exact (fun a h0 h1 => ((F13 a (by omega)).trans ((F6 a (by omega)).trans rfl))))
            · refine g_aload_n (n := 35) X 0 dX5_open_34 rfl rfl rfl ?_
              refine gg_5_1 (n := 38) (z := 25) X (by omega) (by omega) lay_23 kw_1_143 dX5_open_35 rfl ((congrFun (F13 23 (by omega)) _).trans ((congrFun (F6 23 (by omega)) _).trans f_23_1)) (by omega) ?_
              refine g_iload_n (n := 39) X 1 dX5_open_38 rfl rfl rfl ?_
              refine g_bipush (n := 41) X dX5_open_39 (by decide +kernel) rfl ?_
              refine g_imul (n := 42) (z := a * 16) X dX5_open_41 rfl rfl ?_
              refine g_iload_n (n := 43) X 2 dX5_open_42 rfl rfl rfl ?_
              refine g_iadd (n := 44) (z := (a * 16) + j) X dX5_open_43 rfl rfl ?_
              refine g_ldc2 (n := 47) (z := -1) X dX5_open_44 kw_4_193 (by decide +kernel) rfl ?_
              refine g_last (n := 48) X (by omega) (by omega) lay_25 (by omega) (by omega) (by omega) dX5_open_47 rfl ?_
              refine G.nm (fun M15 e16 => ?_)
              refine g_iinc (n := 51) (w := j + 1) (L' := [(2, gJ (j + 1)), (0, gA n0 23), (1, gJ a)]) X 2 dX5_open_48 rfl rfl (by decide) rfl rfl ?_
              refine g_goto (tgt := 28) X dX5_open_51 (by decide) ?_
              refine G.sub (L' := [(0, gA n0 23), (1, gJ a), (2, gJ (j + 1))]) [1, 2, 0] rfl ?_
              exact ih9 (j + 1) M15 (fun a h0 => ((congrFun e16 a).trans ((gset_off a (by omega)).trans ((F13 a (by omega)).trans rfl)))) (by omega) (by omega)
        refine G.sub (L' := [(0, gA n0 23), (1, gJ a), (2, gJ 0)]) [1, 2, 0] rfl ?_
        exact loop8 _ 0 M5 (fun a _ => rfl) (by omega) (Nat.lt_succ_self _)
      · refine g_aload_n (n := 9) X 0 dX5_open_8 rfl rfl rfl ?_
        refine gg_5_0 (n := 12) (z := 24) X (by omega) (by omega) lay_23 kw_1_142 dX5_open_9 rfl ((congrFun (F6 23 (by omega)) _).trans f_23_0) (by omega) ?_
        refine g_iload_n (n := 13) X 1 dX5_open_12 rfl rfl rfl ?_
        refine g_bipush (n := 15) X dX5_open_13 (by decide +kernel) rfl ?_
        refine g_imul (n := 16) (z := a * 7) X dX5_open_15 rfl rfl ?_
        refine g_iload_n (n := 17) X 2 dX5_open_16 rfl rfl rfl ?_
        refine g_iadd (n := 18) (z := (a * 7) + j) X dX5_open_17 rfl rfl ?_
        refine g_iconst (n := 19) X dX5_open_18 rfl ?_
        refine g_iast (n := 20) X (by omega) (by omega) lay_24 (by omega) (by omega) (by omega) dX5_open_19 rfl ?_
        refine G.nm (fun M17 e18 => ?_)
        refine g_iinc (n := 23) (w := j + 1) (L' := [(2, gJ (j + 1)), (0, gA n0 23), (1, gJ a)]) X 2 dX5_open_20 rfl rfl (by decide) rfl rfl ?_
        refine g_goto (tgt := 2) X dX5_open_23 (by decide) ?_
        refine G.sub (L' := [(0, gA n0 23), (1, gJ a), (2, gJ (j + 1))]) [1, 2, 0] rfl ?_
        exact ih2 (j + 1) M17 (fun a h0 => ((congrFun e18 a).trans ((gset_off a (by omega)).trans ((F6 a (by omega)).trans rfl)))) (by omega) (by omega)
  refine G.sub (L' := [(0, gA n0 23), (1, gJ a), (2, gJ 0)]) [1, 2, 0] rfl ?_
  exact loop1 _ 0 M (fun a _ => rfl) (by omega) (Nat.lt_succ_self _)
theorem dX5_sum_0 : decode cX5_sum 0 = .ok (.aload_n 0, 1) := by decide +kernel
theorem dX5_sum_1 : decode cX5_sum 1 = .ok (.getfield 9, 3) := by decide +kernel
theorem dX5_sum_4 : decode cX5_sum 4 = .ok (.iload_n 1, 1) := by decide +kernel
theorem dX5_sum_5 : decode cX5_sum 5 = .ok (.bipush 7, 2) := by decide +kernel
theorem dX5_sum_7 : decode cX5_sum 7 = .ok (.imul, 1) := by decide +kernel
theorem dX5_sum_8 : decode cX5_sum 8 = .ok (.iload_n 2, 1) := by decide +kernel
theorem dX5_sum_9 : decode cX5_sum 9 = .ok (.iadd, 1) := by decide +kernel
theorem dX5_sum_10 : decode cX5_sum 10 = .ok (.iaload, 1) := by decide +kernel
theorem dX5_sum_11 : decode cX5_sum 11 = .ok (.ireturn, 1) := by decide +kernel
set_option maxRecDepth 100000 in
set_option maxHeartbeats 4000000 in
theorem c_X5_sum {l : Launch} {n0 : Nat} {D : va_G} {cA : Nat → ClassId} {M : gM} (a b : Int) (r_a : -2147483648 ≤ a ∧ a ≤ 2147483647) (r_b : -2147483648 ≤ b ∧ b ≤ 2147483647) {sz : Nat} (hsz : 206 ≤ sz) (f_23_0 : M 23 0 = 25) (hab : 0 ≤ a ∧ a ≤ 299 ∧ 0 ≤ b ∧ b ≤ 6) : Met l yX5_sum (gWsOf yX5_sum cX5_sum 3 (Option.some Jvm.ClassFile.FieldType.int)) { frames := 0, cells := 0, slots := 0, locals := 0 } (gPc n0 D cA [gA n0 23, gJ a, gJ b] M sz) (gQi n0 D cA sz (fun z M1 => M = M1 ∧ (z = M 24 (a * 7 + b)))) 0 0 (fun q => n0 ≤ q) := by
  refine gMet_of [gA n0 23, gJ a, gJ b] (by decide) (Nat.le_of_ble_eq_true rfl) ?_
  intro p e s m args below meth cd X hr hm
  have X : gCx p s m args meth cd n0 D cA "ParishUnion$Past" cX5_sum 3 := X
  show G p l e ({ frames := 0, cells := 0, slots := 0, locals := 0 } : Room) s m args below meth cd n0 D cA 3 (MQ below (gQi n0 D cA sz (fun z M1 => M = M1 ∧ (z = M 24 (a * 7 + b)))) args s 0 0 (fun q => n0 ≤ q)) 0 0 M sz 0 [(0, gA n0 23), (1, gJ a), (2, gJ b)] []
  refine g_aload_n (n := 1) X 0 dX5_sum_0 rfl rfl rfl ?_
  refine gg_5_0 (n := 4) (z := 24) X (by omega) (by omega) lay_23 kw_1_142 dX5_sum_1 rfl f_23_0 (by omega) ?_
  refine g_iload_n (n := 5) X 1 dX5_sum_4 rfl rfl rfl ?_
  refine g_bipush (n := 7) X dX5_sum_5 (by decide +kernel) rfl ?_
  refine g_imul (n := 8) (z := a * 7) X dX5_sum_7 rfl rfl ?_
  refine g_iload_n (n := 9) X 2 dX5_sum_8 rfl rfl rfl ?_
  refine g_iadd (n := 10) (z := (a * 7) + b) X dX5_sum_9 rfl rfl ?_
  refine g_iald (n := 11) X (by omega) (by omega) lay_24 (by omega) (by omega) (by omega) dX5_sum_10 rfl ?_
  exact g_ireturn X hr dX5_sum_11 (by exact ⟨rfl, by rfl⟩)
theorem dX5_add_0 : decode cX5_add 0 = .ok (.aload_n 0, 1) := by decide +kernel
theorem dX5_add_1 : decode cX5_add 1 = .ok (.getfield 9, 3) := by decide +kernel
theorem dX5_add_4 : decode cX5_add 4 = .ok (.iload_n 1, 1) := by decide +kernel
theorem dX5_add_5 : decode cX5_add 5 = .ok (.bipush 7, 2) := by decide +kernel
theorem dX5_add_7 : decode cX5_add 7 = .ok (.imul, 1) := by decide +kernel
theorem dX5_add_8 : decode cX5_add 8 = .ok (.iload_n 2, 1) := by decide +kernel
theorem dX5_add_9 : decode cX5_add 9 = .ok (.iadd, 1) := by decide +kernel
theorem dX5_add_10 : decode cX5_add 10 = .ok (.dup2, 1) := by decide +kernel
theorem dX5_add_11 : decode cX5_add 11 = .ok (.iaload, 1) := by decide +kernel
theorem dX5_add_12 : decode cX5_add 12 = .ok (.iload_n 3, 1) := by decide +kernel
theorem dX5_add_13 : decode cX5_add 13 = .ok (.iadd, 1) := by decide +kernel
theorem dX5_add_14 : decode cX5_add 14 = .ok (.iastore, 1) := by decide +kernel
theorem dX5_add_15 : decode cX5_add 15 = .ok (.return_, 1) := by decide +kernel
set_option maxRecDepth 100000 in
set_option maxHeartbeats 4000000 in
theorem c_X5_add {l : Launch} {n0 : Nat} {D : va_G} {cA : Nat → ClassId} {M : gM} (a b g : Int) (r_a : -2147483648 ≤ a ∧ a ≤ 2147483647) (r_b : -2147483648 ≤ b ∧ b ≤ 2147483647) {sz : Nat} (hsz : 206 ≤ sz) (f_23_0 : M 23 0 = 25) (hab : 0 ≤ a ∧ a ≤ 299 ∧ 0 ≤ b ∧ b ≤ 6) : Met l yX5_add (gWsOf yX5_add cX5_add 4 (Option.none : Option Jvm.ClassFile.FieldType)) { frames := 0, cells := 0, slots := 0, locals := 0 } (gPc n0 D cA [gA n0 23, gJ a, gJ b, gJ g] M sz) (gQv n0 D cA sz (fun M1 => ∀ a : Int, a ≠ 24 → M1 a = M a)) 0 0 (fun q => n0 ≤ q) := by
  refine gMet_of [gA n0 23, gJ a, gJ b, gJ g] (by decide) (Nat.le_of_ble_eq_true rfl) ?_
  intro p e s m args below meth cd X hr hm
  have X : gCx p s m args meth cd n0 D cA "ParishUnion$Past" cX5_add 4 := X
  show G p l e ({ frames := 0, cells := 0, slots := 0, locals := 0 } : Room) s m args below meth cd n0 D cA 4 (MQ below (gQv n0 D cA sz (fun M1 => ∀ a : Int, a ≠ 24 → M1 a = M a)) args s 0 0 (fun q => n0 ≤ q)) 0 0 M sz 0 [(0, gA n0 23), (1, gJ a), (2, gJ b), (3, gJ g)] []
  refine g_aload_n (n := 1) X 0 dX5_add_0 rfl rfl rfl ?_
  refine gg_5_0 (n := 4) (z := 24) X (by omega) (by omega) lay_23 kw_1_142 dX5_add_1 rfl f_23_0 (by omega) ?_
  refine g_iload_n (n := 5) X 1 dX5_add_4 rfl rfl rfl ?_
  refine g_bipush (n := 7) X dX5_add_5 (by decide +kernel) rfl ?_
  refine g_imul (n := 8) (z := a * 7) X dX5_add_7 rfl rfl ?_
  refine g_iload_n (n := 9) X 2 dX5_add_8 rfl rfl rfl ?_
  refine g_iadd (n := 10) (z := (a * 7) + b) X dX5_add_9 rfl rfl ?_
  refine g_dup2 (n := 11) X dX5_add_10 rfl rfl rfl ?_
  refine g_iald (n := 12) X (by omega) (by omega) lay_24 (by omega) (by omega) (by omega) dX5_add_11 rfl ?_
  refine g_iload_n (n := 13) X 3 dX5_add_12 rfl rfl rfl ?_
  refine g_iadd (n := 14) (z := (M 24 ((a * 7) + b)) + g) X dX5_add_13 rfl rfl ?_
  refine g_iast (n := 15) X (by omega) (by omega) lay_24 (by omega) (by omega) (by omega) dX5_add_14 rfl ?_
  refine G.nm (fun M1 e2 => ?_)
  exact g_return X hr dX5_add_15 (by exact (fun a h0 => ((congrFun e2 a).trans ((gset_off a (by omega)).trans rfl))))
theorem dX5_close_0 : decode cX5_close 0 = .ok (.iload_n 1, 1) := by decide +kernel
theorem dX5_close_1 : decode cX5_close 1 = .ok (.ifCond .le 15, 3) := by decide +kernel
theorem dX5_close_16 : decode cX5_close 16 = .ok (.iconst 0, 1) := by decide +kernel
theorem dX5_close_17 : decode cX5_close 17 = .ok (.istore_n 2, 1) := by decide +kernel
theorem dX5_close_18 : decode cX5_close 18 = .ok (.aload_n 0, 1) := by decide +kernel
theorem dX5_close_19 : decode cX5_close 19 = .ok (.iload_n 1, 1) := by decide +kernel
theorem dX5_close_20 : decode cX5_close 20 = .ok (.bipush 6, 2) := by decide +kernel
theorem dX5_close_22 : decode cX5_close 22 = .ok (.iload_n 2, 1) := by decide +kernel
theorem dX5_close_23 : decode cX5_close 23 = .ok (.aload_n 0, 1) := by decide +kernel
theorem dX5_close_24 : decode cX5_close 24 = .ok (.iload_n 1, 1) := by decide +kernel
theorem dX5_close_25 : decode cX5_close 25 = .ok (.iconst 2, 1) := by decide +kernel
theorem dX5_close_26 : decode cX5_close 26 = .ok (.invokevirtual 45, 3) := by decide +kernel
theorem kw_5_5 : (Jvm.Cond.methodLink "ParishUnion$Past" (45 : Nat) ({ cls := "ParishUnion$Past", name := "sum", desc := "(II)I" } : Jvm.MethodName)) ∈ gT := gT_of (tb_5 _ (List.mem_of_getElem? (i := 5) rfl)) rfl
theorem kw_4_180 : (Jvm.Cond.code ({ cls := "ParishUnion$Past", name := "sum", desc := "(II)I" } : Jvm.MethodName) prog_7_method_7_code (3 : Nat) (Option.some Jvm.ClassFile.FieldType.int)) ∈ gT := gT_of (tb_4 _ (List.mem_of_getElem? (i := 180) rfl)) rfl
theorem kw_1_6 : (Jvm.Cond.initialized "ParishUnion$Past") ∈ gT := gT_of (tb_1 _ (List.mem_of_getElem? (i := 6) rfl)) rfl
theorem okX5_sum : gQok yX5_sum cX5_sum 3 (Option.some Jvm.ClassFile.FieldType.int) 2 := ⟨kw_4_180, kw_1_6, by decide +kernel, by decide +kernel, by decide +kernel⟩
theorem kw_4_178 : (Jvm.Cond.instanceMethod ({ cls := "ParishUnion$Past", name := "sum", desc := "(II)I" } : Jvm.MethodName)) ∈ gT := gT_of (tb_4 _ (List.mem_of_getElem? (i := 178) rfl)) rfl
theorem kw_4_179 : (Jvm.Cond.selects "ParishUnion$Past" ({ cls := "ParishUnion$Past", name := "sum", desc := "(II)I" } : Jvm.MethodName) ({ cls := "ParishUnion$Past", name := "sum", desc := "(II)I" } : Jvm.MethodName)) ∈ gT := gT_of (tb_4 _ (List.mem_of_getElem? (i := 179) rfl)) rfl
theorem dX5_close_29 : decode cX5_close 29 = .ok (.iadd, 1) := by decide +kernel
theorem dX5_close_30 : decode cX5_close 30 = .ok (.aload_n 0, 1) := by decide +kernel
theorem dX5_close_31 : decode cX5_close 31 = .ok (.iload_n 1, 1) := by decide +kernel
theorem dX5_close_32 : decode cX5_close 32 = .ok (.iconst 3, 1) := by decide +kernel
theorem dX5_close_33 : decode cX5_close 33 = .ok (.invokevirtual 45, 3) := by decide +kernel
theorem dX5_close_36 : decode cX5_close 36 = .ok (.iadd, 1) := by decide +kernel
theorem dX5_close_37 : decode cX5_close 37 = .ok (.invokevirtual 49, 3) := by decide +kernel
theorem kw_5_6 : (Jvm.Cond.methodLink "ParishUnion$Past" (49 : Nat) ({ cls := "ParishUnion$Past", name := "add", desc := "(III)V" } : Jvm.MethodName)) ∈ gT := gT_of (tb_5 _ (List.mem_of_getElem? (i := 6) rfl)) rfl
theorem kw_4_208 : (Jvm.Cond.code ({ cls := "ParishUnion$Past", name := "add", desc := "(III)V" } : Jvm.MethodName) prog_7_method_4_code (4 : Nat) (Option.none : Option Jvm.ClassFile.FieldType)) ∈ gT := gT_of (tb_4 _ (List.mem_of_getElem? (i := 208) rfl)) rfl
theorem okX5_add : gQok yX5_add cX5_add 4 (Option.none : Option Jvm.ClassFile.FieldType) 3 := ⟨kw_4_208, kw_1_6, by decide +kernel, by decide +kernel, by decide +kernel⟩
theorem kw_4_206 : (Jvm.Cond.instanceMethod ({ cls := "ParishUnion$Past", name := "add", desc := "(III)V" } : Jvm.MethodName)) ∈ gT := gT_of (tb_4 _ (List.mem_of_getElem? (i := 206) rfl)) rfl
theorem kw_4_207 : (Jvm.Cond.selects "ParishUnion$Past" ({ cls := "ParishUnion$Past", name := "add", desc := "(III)V" } : Jvm.MethodName) ({ cls := "ParishUnion$Past", name := "add", desc := "(III)V" } : Jvm.MethodName)) ∈ gT := gT_of (tb_4 _ (List.mem_of_getElem? (i := 207) rfl)) rfl
theorem dX5_close_40 : decode cX5_close 40 = .ok (.return_, 1) := by decide +kernel
theorem dX5_close_4 : decode cX5_close 4 = .ok (.aload_n 0, 1) := by decide +kernel
theorem dX5_close_5 : decode cX5_close 5 = .ok (.iload_n 1, 1) := by decide +kernel
theorem dX5_close_6 : decode cX5_close 6 = .ok (.iconst 1, 1) := by decide +kernel
theorem dX5_close_7 : decode cX5_close 7 = .ok (.isub, 1) := by decide +kernel
theorem dX5_close_8 : decode cX5_close 8 = .ok (.bipush 6, 2) := by decide +kernel
theorem dX5_close_10 : decode cX5_close 10 = .ok (.invokevirtual 45, 3) := by decide +kernel
theorem dX5_close_13 : decode cX5_close 13 = .ok (.goto 4, 3) := by decide +kernel
set_option maxRecDepth 100000 in
set_option maxHeartbeats 4000000 in
theorem c_X5_close {l : Launch} {n0 : Nat} {D : va_G} {cA : Nat → ClassId} {M : gM} (a : Int) (r_a : -2147483648 ≤ a ∧ a ≤ 2147483647) {sz : Nat} (hsz : 206 ≤ sz) (f_23_0 : M 23 0 = 25) (hab : 0 ≤ a ∧ a ≤ 299) : Met l yX5_close (gWsOf yX5_close cX5_close 3 (Option.none : Option Jvm.ClassFile.FieldType)) { frames := 1, cells := 0, slots := 0, locals := 23 } (gPc n0 D cA [gA n0 23, gJ a] M sz) (gQv n0 D cA sz (fun M1 => ∀ a : Int, a ≠ 24 → M1 a = M a)) 0 0 (fun q => n0 ≤ q) := by
  refine gMet_of [gA n0 23, gJ a] (by decide) (Nat.le_of_ble_eq_true rfl) ?_
  intro p e s m args below meth cd X hr hm
  have X : gCx p s m args meth cd n0 D cA "ParishUnion$Past" cX5_close 3 := X
  show G p l e ({ frames := 1, cells := 0, slots := 0, locals := 23 } : Room) s m args below meth cd n0 D cA 3 (MQ below (gQv n0 D cA sz (fun M1 => ∀ a : Int, a ≠ 24 → M1 a = M a)) args s 0 0 (fun q => n0 ≤ q)) 0 0 M sz 0 [(0, gA n0 23), (1, gJ a)] []
  refine g_iload_n (n := 1) X 1 dX5_close_0 rfl rfl rfl ?_
  refine g_if_le (n := 4) (tgt := 16) X dX5_close_1 (by decide) (by omega) rfl (fun c1 => ?_) (fun c1 => ?_)
  · refine g_iconst (n := 17) X dX5_close_16 rfl ?_
    refine g_istore_n (n := 18) (L' := [(2, gJ 0), (0, gA n0 23), (1, gJ a)]) X dX5_close_17 rfl (by decide) rfl rfl ?_
    refine g_aload_n (n := 19) X 1 dX5_close_18 rfl rfl rfl ?_
    refine g_iload_n (n := 20) X 2 dX5_close_19 rfl rfl rfl ?_
    refine g_bipush (n := 22) X dX5_close_20 (by decide +kernel) rfl ?_
    refine g_iload_n (n := 23) X 0 dX5_close_22 rfl rfl rfl ?_
    refine g_aload_n (n := 24) X 1 dX5_close_23 rfl rfl rfl ?_
    refine g_iload_n (n := 25) X 2 dX5_close_24 rfl rfl rfl ?_
    refine g_iconst (n := 26) X dX5_close_25 rfl ?_
    refine g_callVi (n := 29) (As := [gJ a, gJ 2]) (rest := [gJ 0, gJ 6, gJ a, gA n0 23]) (cs1 := 0) (ss1 := 0) X (c_X5_sum a 2 (by omega) (by omega) (by omega) f_23_0 (by omega)) okX5_sum kw_5_5 ⟨kw_4_178, kw_4_179⟩ ⟨rfl, rfl⟩ ⟨Nat.le_of_ble_eq_true rfl, Nat.le_of_ble_eq_true rfl⟩ rfl (by omega) (by omega) lay_23 rfl rfl (Nat.le_of_ble_eq_true rfl) ⟨Nat.le_of_ble_eq_true rfl, Nat.le_of_ble_eq_true rfl⟩ rfl rfl dX5_close_26 rfl (fun z2 M3 P4 => ?_)
    obtain ⟨rfl, P4⟩ := P4
    refine g_iadd (n := 30) (z := 0 + z2) X dX5_close_29 rfl rfl ?_
    refine g_aload_n (n := 31) X 1 dX5_close_30 rfl rfl rfl ?_
    refine g_iload_n (n := 32) X 2 dX5_close_31 rfl rfl rfl ?_
    refine g_iconst (n := 33) X dX5_close_32 rfl ?_
    refine g_callVi (n := 36) (As := [gJ a, gJ 3]) (rest := [gJ (0 + z2), gJ 6, gJ a, gA n0 23]) (cs1 := 0) (ss1 := 0) X (c_X5_sum a 3 (by omega) (by omega) (by omega) f_23_0 (by omega)) okX5_sum kw_5_5 ⟨kw_4_178, kw_4_179⟩ ⟨rfl, rfl⟩ ⟨Nat.le_of_ble_eq_true rfl, Nat.le_of_ble_eq_true rfl⟩ rfl (by omega) (by omega) lay_23 rfl rfl (Nat.le_of_ble_eq_true rfl) ⟨Nat.le_of_ble_eq_true rfl, Nat.le_of_ble_eq_true rfl⟩ rfl rfl dX5_close_33 rfl (fun z5 M6 P7 => ?_)
    obtain ⟨rfl, P7⟩ := P7
    refine g_iadd (n := 37) (z := (0 + z2) + z5) X dX5_close_36 rfl rfl ?_
    refine g_callVv (n := 40) (As := [gJ a, gJ 6, gJ ((0 + z2) + z5)]) (rest := []) (cs1 := 0) (ss1 := 0) X (c_X5_add a 6 ((0 + z2) + z5) (by omega) (by omega) (by omega) f_23_0 (by omega)) okX5_add kw_5_6 ⟨kw_4_206, kw_4_207⟩ ⟨rfl, rfl⟩ ⟨Nat.le_of_ble_eq_true rfl, Nat.le_of_ble_eq_true rfl⟩ rfl (by omega) (by omega) lay_23 rfl rfl (Nat.le_of_ble_eq_true rfl) ⟨Nat.le_of_ble_eq_true rfl, Nat.le_of_ble_eq_true rfl⟩ rfl rfl dX5_close_37 rfl (fun M9 P10 => ?_)
    have F11 := P10
    exact g_return X hr dX5_close_40 (by exact (fun a h0 => ((F11 a (by omega)).trans rfl)))
  · refine g_aload_n (n := 5) X 0 dX5_close_4 rfl rfl rfl ?_
    refine g_iload_n (n := 6) X 1 dX5_close_5 rfl rfl rfl ?_
    refine g_iconst (n := 7) X dX5_close_6 rfl ?_
    refine g_isub (n := 8) (z := a - 1) X dX5_close_7 rfl rfl ?_
    refine g_bipush (n := 10) X dX5_close_8 (by decide +kernel) rfl ?_
    refine g_callVi (n := 13) (As := [gJ (a - 1), gJ 6]) (rest := []) (cs1 := 0) (ss1 := 0) X (c_X5_sum (a - 1) 6 (by omega) (by omega) (by omega) f_23_0 (by omega)) okX5_sum kw_5_5 ⟨kw_4_178, kw_4_179⟩ ⟨rfl, rfl⟩ ⟨Nat.le_of_ble_eq_true rfl, Nat.le_of_ble_eq_true rfl⟩ rfl (by omega) (by omega) lay_23 rfl rfl (Nat.le_of_ble_eq_true rfl) ⟨Nat.le_of_ble_eq_true rfl, Nat.le_of_ble_eq_true rfl⟩ rfl rfl dX5_close_10 rfl (fun z12 M13 P14 => ?_)
    obtain ⟨rfl, P14⟩ := P14
    refine g_goto (tgt := 17) X dX5_close_13 (by decide) ?_
    refine g_istore_n (n := 18) (L' := [(2, gJ z12), (0, gA n0 23), (1, gJ a)]) X dX5_close_17 rfl (by decide) rfl rfl ?_
    refine g_aload_n (n := 19) X 1 dX5_close_18 rfl rfl rfl ?_
    refine g_iload_n (n := 20) X 2 dX5_close_19 rfl rfl rfl ?_
    refine g_bipush (n := 22) X dX5_close_20 (by decide +kernel) rfl ?_
    refine g_iload_n (n := 23) X 0 dX5_close_22 rfl rfl rfl ?_
    refine g_aload_n (n := 24) X 1 dX5_close_23 rfl rfl rfl ?_
    refine g_iload_n (n := 25) X 2 dX5_close_24 rfl rfl rfl ?_
    refine g_iconst (n := 26) X dX5_close_25 rfl ?_
    refine g_callVi (n := 29) (As := [gJ a, gJ 2]) (rest := [gJ z12, gJ 6, gJ a, gA n0 23]) (cs1 := 0) (ss1 := 0) X (c_X5_sum a 2 (by omega) (by omega) (by omega) f_23_0 (by omega)) okX5_sum kw_5_5 ⟨kw_4_178, kw_4_179⟩ ⟨rfl, rfl⟩ ⟨Nat.le_of_ble_eq_true rfl, Nat.le_of_ble_eq_true rfl⟩ rfl (by omega) (by omega) lay_23 rfl rfl (Nat.le_of_ble_eq_true rfl) ⟨Nat.le_of_ble_eq_true rfl, Nat.le_of_ble_eq_true rfl⟩ rfl rfl dX5_close_26 rfl (fun z15 M16 P17 => ?_)
    obtain ⟨rfl, P17⟩ := P17
    refine g_iadd (n := 30) (z := z12 + z15) X dX5_close_29 rfl rfl ?_
    refine g_aload_n (n := 31) X 1 dX5_close_30 rfl rfl rfl ?_
    refine g_iload_n (n := 32) X 2 dX5_close_31 rfl rfl rfl ?_
    refine g_iconst (n := 33) X dX5_close_32 rfl ?_
    refine g_callVi (n := 36) (As := [gJ a, gJ 3]) (rest := [gJ (z12 + z15), gJ 6, gJ a, gA n0 23]) (cs1 := 0) (ss1 := 0) X (c_X5_sum a 3 (by omega) (by omega) (by omega) f_23_0 (by omega)) okX5_sum kw_5_5 ⟨kw_4_178, kw_4_179⟩ ⟨rfl, rfl⟩ ⟨Nat.le_of_ble_eq_true rfl, Nat.le_of_ble_eq_true rfl⟩ rfl (by omega) (by omega) lay_23 rfl rfl (Nat.le_of_ble_eq_true rfl) ⟨Nat.le_of_ble_eq_true rfl, Nat.le_of_ble_eq_true rfl⟩ rfl rfl dX5_close_33 rfl (fun z18 M19 P20 => ?_)
    obtain ⟨rfl, P20⟩ := P20
    refine g_iadd (n := 37) (z := (z12 + z15) + z18) X dX5_close_36 rfl rfl ?_
    refine g_callVv (n := 40) (As := [gJ a, gJ 6, gJ ((z12 + z15) + z18)]) (rest := []) (cs1 := 0) (ss1 := 0) X (c_X5_add a 6 ((z12 + z15) + z18) (by omega) (by omega) (by omega) f_23_0 (by omega)) okX5_add kw_5_6 ⟨kw_4_206, kw_4_207⟩ ⟨rfl, rfl⟩ ⟨Nat.le_of_ble_eq_true rfl, Nat.le_of_ble_eq_true rfl⟩ rfl (by omega) (by omega) lay_23 rfl rfl (Nat.le_of_ble_eq_true rfl) ⟨Nat.le_of_ble_eq_true rfl, Nat.le_of_ble_eq_true rfl⟩ rfl rfl dX5_close_37 rfl (fun M22 P23 => ?_)
    have F24 := P23
    exact g_return X hr dX5_close_40 (by exact (fun a h0 => ((F24 a (by omega)).trans rfl)))
theorem dX9_growHungry_0 : decode cX9_growHungry 0 = .ok (.aload_n 0, 1) := by decide +kernel
theorem dX9_growHungry_1 : decode cX9_growHungry 1 = .ok (.getfield 50, 3) := by decide +kernel
theorem kw_2_118 : (Jvm.Cond.fieldLink "ParishUnion$Union" (50 : Nat) "ParishUnion$Union" "house" "LParishUnion$House;") ∈ gT := gT_of (tb_2 _ (List.mem_of_getElem? (i := 118) rfl)) rfl
theorem dX9_growHungry_4 : decode cX9_growHungry 4 = .ok (.getfield 158, 3) := by decide +kernel
theorem kw_1_99 : (Jvm.Cond.fieldLink "ParishUnion$Union" (158 : Nat) "ParishUnion$House" "frost" "[I") ∈ gT := gT_of (tb_1 _ (List.mem_of_getElem? (i := 99) rfl)) rfl
theorem dX9_growHungry_7 : decode cX9_growHungry 7 = .ok (.aload_n 0, 1) := by decide +kernel
theorem dX9_growHungry_8 : decode cX9_growHungry 8 = .ok (.getfield 110, 3) := by decide +kernel
theorem dX9_growHungry_11 : decode cX9_growHungry 11 = .ok (.iaload, 1) := by decide +kernel
theorem dX9_growHungry_12 : decode cX9_growHungry 12 = .ok (.istore_n 1, 1) := by decide +kernel
theorem dX9_growHungry_13 : decode cX9_growHungry 13 = .ok (.iconst 0, 1) := by decide +kernel
theorem dX9_growHungry_14 : decode cX9_growHungry 14 = .ok (.istore_n 2, 1) := by decide +kernel
theorem dX9_growHungry_15 : decode cX9_growHungry 15 = .ok (.iload_n 2, 1) := by decide +kernel
theorem dX9_growHungry_16 : decode cX9_growHungry 16 = .ok (.aload_n 0, 1) := by decide +kernel
theorem dX9_growHungry_17 : decode cX9_growHungry 17 = .ok (.getfield 79, 3) := by decide +kernel
theorem dX9_growHungry_20 : decode cX9_growHungry 20 = .ok (.if_icmp .ge 102, 3) := by decide +kernel
theorem dX9_growHungry_122 : decode cX9_growHungry 122 = .ok (.return_, 1) := by decide +kernel
set_option maxRecDepth 100000 in
set_option maxHeartbeats 4000000 in
theorem c_X9_growHungry {l : Launch} {n0 : Nat} {D : va_G} {cA : Nat → ClassId} {M : gM}  {sz : Nat} (hsz : 206 ≤ sz) (w : Int) (q_w : 0 ≤ w ∧ w ≤ 299) (f_1_6 : M 1 6 = 16) (f_15_1 : M 15 1 = 18) (f_1_15 : M 1 15 = w) (f_1_10 : M 1 10 = 0) (frost0 : ∀ i : Int, 0 ≤ i → i < 301 → M 17 i = 0) : Met l yX9_growHungry (gWsOf yX9_growHungry cX9_growHungry 5 (Option.none : Option Jvm.ClassFile.FieldType)) { frames := 4, cells := 0, slots := 0, locals := 120 } (gPc n0 D cA [gA n0 1] M sz) (gQv n0 D cA sz (fun M1 => ∀ a : Int, M1 a = M a)) 0 0 (fun q => n0 ≤ q) := by
  refine gMet_of [gA n0 1] (by decide) (Nat.le_of_ble_eq_true rfl) ?_
  intro p e s m args below meth cd X hr hm
  have X : gCx p s m args meth cd n0 D cA "ParishUnion$Union" cX9_growHungry 5 := X
  show G p l e ({ frames := 4, cells := 0, slots := 0, locals := 120 } : Room) s m args below meth cd n0 D cA 5 (MQ below (gQv n0 D cA sz (fun M1 => ∀ a : Int, M1 a = M a)) args s 0 0 (fun q => n0 ≤ q)) 0 0 M sz 0 [(0, gA n0 1)] []
  refine g_aload_n (n := 1) X 0 dX9_growHungry_0 rfl rfl rfl ?_
  refine gg_9_6 (n := 4) (z := 15) X (by omega) (by omega) lay_1 kw_2_118 dX9_growHungry_1 rfl f_1_6 (by omega) ?_
  refine gg_2_1 (n := 7) (z := 17) X (by omega) (by omega) lay_15 kw_1_99 dX9_growHungry_4 rfl f_15_1 (by omega) ?_
  refine g_aload_n (n := 8) X 0 dX9_growHungry_7 rfl rfl rfl ?_
  refine gg_9_15 (n := 11) (z := w) X (by omega) (by omega) lay_1 kw_2_138 dX9_growHungry_8 rfl f_1_15 ?_
  refine g_iald (n := 12) X (by omega) (by omega) lay_17 (by omega) (by omega) (by omega) dX9_growHungry_11 rfl ?_
  rw [show M 17 w = 0 from (frost0 _ (by omega) (by omega))]
  refine g_istore_n (n := 13) (L' := [(1, gJ 0), (0, gA n0 1)]) X dX9_growHungry_12 rfl (by decide) rfl rfl ?_
  refine g_iconst (n := 14) X dX9_growHungry_13 rfl ?_
  refine g_istore_n (n := 15) (L' := [(2, gJ 0), (1, gJ 0), (0, gA n0 1)]) X dX9_growHungry_14 rfl (by decide) rfl rfl ?_
  refine g_iload_n (n := 16) X 0 dX9_growHungry_15 rfl rfl rfl ?_
  refine g_aload_n (n := 17) X 2 dX9_growHungry_16 rfl rfl rfl ?_
  refine gg_9_10 (n := 20) (z := 0) X (by omega) (by omega) lay_1 kw_2_126 dX9_growHungry_17 rfl f_1_10 ?_
  refine g_icmp_ge (n := 23) (tgt := 122) X dX9_growHungry_20 (by decide) (by omega) (by omega) rfl (fun c1 => ?_) (fun c1 => by exfalso; omega)
  exact g_return X hr dX9_growHungry_122 (by exact (fun a  => rfl))
theorem dX9_fallIll_0 : decode cX9_fallIll 0 = .ok (.aload_n 0, 1) := by decide +kernel
theorem dX9_fallIll_1 : decode cX9_fallIll 1 = .ok (.getfield 50, 3) := by decide +kernel
theorem dX9_fallIll_4 : decode cX9_fallIll 4 = .ok (.getfield 158, 3) := by decide +kernel
theorem dX9_fallIll_7 : decode cX9_fallIll 7 = .ok (.aload_n 0, 1) := by decide +kernel
theorem dX9_fallIll_8 : decode cX9_fallIll 8 = .ok (.getfield 110, 3) := by decide +kernel
theorem dX9_fallIll_11 : decode cX9_fallIll 11 = .ok (.iaload, 1) := by decide +kernel
theorem dX9_fallIll_12 : decode cX9_fallIll 12 = .ok (.istore_n 1, 1) := by decide +kernel
theorem dX9_fallIll_13 : decode cX9_fallIll 13 = .ok (.iconst 0, 1) := by decide +kernel
theorem dX9_fallIll_14 : decode cX9_fallIll 14 = .ok (.istore_n 2, 1) := by decide +kernel
theorem dX9_fallIll_15 : decode cX9_fallIll 15 = .ok (.iload_n 2, 1) := by decide +kernel
theorem dX9_fallIll_16 : decode cX9_fallIll 16 = .ok (.aload_n 0, 1) := by decide +kernel
theorem dX9_fallIll_17 : decode cX9_fallIll 17 = .ok (.getfield 79, 3) := by decide +kernel
theorem dX9_fallIll_20 : decode cX9_fallIll 20 = .ok (.if_icmp .ge 93, 3) := by decide +kernel
theorem dX9_fallIll_113 : decode cX9_fallIll 113 = .ok (.return_, 1) := by decide +kernel
set_option maxRecDepth 100000 in
set_option maxHeartbeats 4000000 in
theorem c_X9_fallIll {l : Launch} {n0 : Nat} {D : va_G} {cA : Nat → ClassId} {M : gM}  {sz : Nat} (hsz : 206 ≤ sz) (w : Int) (q_w : 0 ≤ w ∧ w ≤ 299) (f_1_6 : M 1 6 = 16) (f_15_1 : M 15 1 = 18) (f_1_15 : M 1 15 = w) (f_1_10 : M 1 10 = 0) (frost0 : ∀ i : Int, 0 ≤ i → i < 301 → M 17 i = 0) : Met l yX9_fallIll (gWsOf yX9_fallIll cX9_fallIll 5 (Option.none : Option Jvm.ClassFile.FieldType)) { frames := 4, cells := 0, slots := 0, locals := 120 } (gPc n0 D cA [gA n0 1] M sz) (gQv n0 D cA sz (fun M1 => ∀ a : Int, M1 a = M a)) 0 0 (fun q => n0 ≤ q) := by
  refine gMet_of [gA n0 1] (by decide) (Nat.le_of_ble_eq_true rfl) ?_
  intro p e s m args below meth cd X hr hm
  have X : gCx p s m args meth cd n0 D cA "ParishUnion$Union" cX9_fallIll 5 := X
  show G p l e ({ frames := 4, cells := 0, slots := 0, locals := 120 } : Room) s m args below meth cd n0 D cA 5 (MQ below (gQv n0 D cA sz (fun M1 => ∀ a : Int, M1 a = M a)) args s 0 0 (fun q => n0 ≤ q)) 0 0 M sz 0 [(0, gA n0 1)] []
  refine g_aload_n (n := 1) X 0 dX9_fallIll_0 rfl rfl rfl ?_
  refine gg_9_6 (n := 4) (z := 15) X (by omega) (by omega) lay_1 kw_2_118 dX9_fallIll_1 rfl f_1_6 (by omega) ?_
  refine gg_2_1 (n := 7) (z := 17) X (by omega) (by omega) lay_15 kw_1_99 dX9_fallIll_4 rfl f_15_1 (by omega) ?_
  refine g_aload_n (n := 8) X 0 dX9_fallIll_7 rfl rfl rfl ?_
  refine gg_9_15 (n := 11) (z := w) X (by omega) (by omega) lay_1 kw_2_138 dX9_fallIll_8 rfl f_1_15 ?_
  refine g_iald (n := 12) X (by omega) (by omega) lay_17 (by omega) (by omega) (by omega) dX9_fallIll_11 rfl ?_
  rw [show M 17 w = 0 from (frost0 _ (by omega) (by omega))]
  refine g_istore_n (n := 13) (L' := [(1, gJ 0), (0, gA n0 1)]) X dX9_fallIll_12 rfl (by decide) rfl rfl ?_
  refine g_iconst (n := 14) X dX9_fallIll_13 rfl ?_
  refine g_istore_n (n := 15) (L' := [(2, gJ 0), (1, gJ 0), (0, gA n0 1)]) X dX9_fallIll_14 rfl (by decide) rfl rfl ?_
  refine g_iload_n (n := 16) X 0 dX9_fallIll_15 rfl rfl rfl ?_
  refine g_aload_n (n := 17) X 2 dX9_fallIll_16 rfl rfl rfl ?_
  refine gg_9_10 (n := 20) (z := 0) X (by omega) (by omega) lay_1 kw_2_126 dX9_fallIll_17 rfl f_1_10 ?_
  refine g_icmp_ge (n := 23) (tgt := 113) X dX9_fallIll_20 (by decide) (by omega) (by omega) rfl (fun c1 => ?_) (fun c1 => by exfalso; omega)
  exact g_return X hr dX9_fallIll_113 (by exact (fun a  => rfl))
theorem dX9_leaveHouse_0 : decode cX9_leaveHouse 0 = .ok (.aload_n 0, 1) := by decide +kernel
theorem dX9_leaveHouse_1 : decode cX9_leaveHouse 1 = .ok (.getfield 50, 3) := by decide +kernel
theorem dX9_leaveHouse_4 : decode cX9_leaveHouse 4 = .ok (.getfield 158, 3) := by decide +kernel
theorem dX9_leaveHouse_7 : decode cX9_leaveHouse 7 = .ok (.aload_n 0, 1) := by decide +kernel
theorem dX9_leaveHouse_8 : decode cX9_leaveHouse 8 = .ok (.getfield 110, 3) := by decide +kernel
theorem dX9_leaveHouse_11 : decode cX9_leaveHouse 11 = .ok (.iaload, 1) := by decide +kernel
theorem dX9_leaveHouse_12 : decode cX9_leaveHouse 12 = .ok (.iconst 4, 1) := by decide +kernel
theorem dX9_leaveHouse_13 : decode cX9_leaveHouse 13 = .ok (.if_icmp .lt 4, 3) := by decide +kernel
theorem dX9_leaveHouse_17 : decode cX9_leaveHouse 17 = .ok (.iconst 0, 1) := by decide +kernel
theorem dX9_leaveHouse_18 : decode cX9_leaveHouse 18 = .ok (.istore_n 1, 1) := by decide +kernel
theorem dX9_leaveHouse_19 : decode cX9_leaveHouse 19 = .ok (.iload_n 1, 1) := by decide +kernel
theorem dX9_leaveHouse_20 : decode cX9_leaveHouse 20 = .ok (.aload_n 0, 1) := by decide +kernel
theorem dX9_leaveHouse_21 : decode cX9_leaveHouse 21 = .ok (.getfield 79, 3) := by decide +kernel
theorem dX9_leaveHouse_24 : decode cX9_leaveHouse 24 = .ok (.if_icmp .ge 48, 3) := by decide +kernel
theorem dX9_leaveHouse_72 : decode cX9_leaveHouse 72 = .ok (.return_, 1) := by decide +kernel
set_option maxRecDepth 100000 in
set_option maxHeartbeats 4000000 in
theorem c_X9_leaveHouse {l : Launch} {n0 : Nat} {D : va_G} {cA : Nat → ClassId} {M : gM}  {sz : Nat} (hsz : 206 ≤ sz) (w : Int) (q_w : 0 ≤ w ∧ w ≤ 299) (f_1_6 : M 1 6 = 16) (f_15_1 : M 15 1 = 18) (f_1_15 : M 1 15 = w) (f_1_10 : M 1 10 = 0) (frost0 : ∀ i : Int, 0 ≤ i → i < 301 → M 17 i = 0) : Met l yX9_leaveHouse (gWsOf yX9_leaveHouse cX9_leaveHouse 3 (Option.none : Option Jvm.ClassFile.FieldType)) { frames := 1, cells := 0, slots := 0, locals := 21 } (gPc n0 D cA [gA n0 1] M sz) (gQv n0 D cA sz (fun M1 => ∀ a : Int, M1 a = M a)) 0 0 (fun q => n0 ≤ q) := by
  refine gMet_of [gA n0 1] (by decide) (Nat.le_of_ble_eq_true rfl) ?_
  intro p e s m args below meth cd X hr hm
  have X : gCx p s m args meth cd n0 D cA "ParishUnion$Union" cX9_leaveHouse 3 := X
  show G p l e ({ frames := 1, cells := 0, slots := 0, locals := 21 } : Room) s m args below meth cd n0 D cA 3 (MQ below (gQv n0 D cA sz (fun M1 => ∀ a : Int, M1 a = M a)) args s 0 0 (fun q => n0 ≤ q)) 0 0 M sz 0 [(0, gA n0 1)] []
  refine g_aload_n (n := 1) X 0 dX9_leaveHouse_0 rfl rfl rfl ?_
  refine gg_9_6 (n := 4) (z := 15) X (by omega) (by omega) lay_1 kw_2_118 dX9_leaveHouse_1 rfl f_1_6 (by omega) ?_
  refine gg_2_1 (n := 7) (z := 17) X (by omega) (by omega) lay_15 kw_1_99 dX9_leaveHouse_4 rfl f_15_1 (by omega) ?_
  refine g_aload_n (n := 8) X 0 dX9_leaveHouse_7 rfl rfl rfl ?_
  refine gg_9_15 (n := 11) (z := w) X (by omega) (by omega) lay_1 kw_2_138 dX9_leaveHouse_8 rfl f_1_15 ?_
  refine g_iald (n := 12) X (by omega) (by omega) lay_17 (by omega) (by omega) (by omega) dX9_leaveHouse_11 rfl ?_
  rw [show M 17 w = 0 from (frost0 _ (by omega) (by omega))]
  refine g_iconst (n := 13) X dX9_leaveHouse_12 rfl ?_
  refine g_icmp_lt (n := 16) (tgt := 17) X dX9_leaveHouse_13 (by decide) (by omega) (by omega) rfl (fun c1 => ?_) (fun c1 => by exfalso; omega)
  refine g_iconst (n := 18) X dX9_leaveHouse_17 rfl ?_
  refine g_istore_n (n := 19) (L' := [(1, gJ 0), (0, gA n0 1)]) X dX9_leaveHouse_18 rfl (by decide) rfl rfl ?_
  refine g_iload_n (n := 20) X 0 dX9_leaveHouse_19 rfl rfl rfl ?_
  refine g_aload_n (n := 21) X 1 dX9_leaveHouse_20 rfl rfl rfl ?_
  refine gg_9_10 (n := 24) (z := 0) X (by omega) (by omega) lay_1 kw_2_126 dX9_leaveHouse_21 rfl f_1_10 ?_
  refine g_icmp_ge (n := 27) (tgt := 72) X dX9_leaveHouse_24 (by decide) (by omega) (by omega) rfl (fun c2 => ?_) (fun c2 => by exfalso; omega)
  exact g_return X hr dX9_leaveHouse_72 (by exact (fun a  => rfl))
theorem dX9_askAtHouse_0 : decode cX9_askAtHouse 0 = .ok (.aload_n 0, 1) := by decide +kernel
theorem dX9_askAtHouse_1 : decode cX9_askAtHouse 1 = .ok (.iconst 3, 1) := by decide +kernel
theorem dX9_askAtHouse_2 : decode cX9_askAtHouse 2 = .ok (.aload_n 0, 1) := by decide +kernel
theorem dX9_askAtHouse_3 : decode cX9_askAtHouse 3 = .ok (.getfield 110, 3) := by decide +kernel
theorem dX9_askAtHouse_6 : decode cX9_askAtHouse 6 = .ok (.invokevirtual 247, 3) := by decide +kernel
theorem kw_4_213 : (Jvm.Cond.methodLink "ParishUnion$Union" (247 : Nat) ({ cls := "ParishUnion$Union", name := "law", desc := "(II)I" } : Jvm.MethodName)) ∈ gT := gT_of (tb_4 _ (List.mem_of_getElem? (i := 213) rfl)) rfl
theorem dX9_askAtHouse_9 : decode cX9_askAtHouse 9 = .ok (.istore_n 1, 1) := by decide +kernel
theorem dX9_askAtHouse_10 : decode cX9_askAtHouse 10 = .ok (.iconst 0, 1) := by decide +kernel
theorem dX9_askAtHouse_11 : decode cX9_askAtHouse 11 = .ok (.istore_n 2, 1) := by decide +kernel
theorem dX9_askAtHouse_12 : decode cX9_askAtHouse 12 = .ok (.iload_n 2, 1) := by decide +kernel
theorem dX9_askAtHouse_13 : decode cX9_askAtHouse 13 = .ok (.aload_n 0, 1) := by decide +kernel
theorem dX9_askAtHouse_14 : decode cX9_askAtHouse 14 = .ok (.getfield 79, 3) := by decide +kernel
theorem dX9_askAtHouse_17 : decode cX9_askAtHouse 17 = .ok (.if_icmp .ge 137, 3) := by decide +kernel
theorem dX9_askAtHouse_154 : decode cX9_askAtHouse 154 = .ok (.return_, 1) := by decide +kernel
set_option maxRecDepth 100000 in
set_option maxHeartbeats 4000000 in
theorem c_X9_askAtHouse {l : Launch} {n0 : Nat} {D : va_G} {cA : Nat → ClassId} {M : gM}  {sz : Nat} (hsz : 206 ≤ sz) (w : Int) (q_w : 0 ≤ w ∧ w ≤ 299) (f_1_15 : M 1 15 = w) (f_1_10 : M 1 10 = 0) (f_1_13 : M 1 13 = 0) : Met l yX9_askAtHouse (gWsOf yX9_askAtHouse cX9_askAtHouse 6 (Option.none : Option Jvm.ClassFile.FieldType)) { frames := 5, cells := 0, slots := 0, locals := 144 } (gPc n0 D cA [gA n0 1] M sz) (gQv n0 D cA sz (fun M1 => ∀ a : Int, M1 a = M a)) 0 0 (fun q => n0 ≤ q) := by
  refine gMet_of [gA n0 1] (by decide) (Nat.le_of_ble_eq_true rfl) ?_
  intro p e s m args below meth cd X hr hm
  have X : gCx p s m args meth cd n0 D cA "ParishUnion$Union" cX9_askAtHouse 6 := X
  show G p l e ({ frames := 5, cells := 0, slots := 0, locals := 144 } : Room) s m args below meth cd n0 D cA 6 (MQ below (gQv n0 D cA sz (fun M1 => ∀ a : Int, M1 a = M a)) args s 0 0 (fun q => n0 ≤ q)) 0 0 M sz 0 [(0, gA n0 1)] []
  refine g_aload_n (n := 1) X 0 dX9_askAtHouse_0 rfl rfl rfl ?_
  refine g_iconst (n := 2) X dX9_askAtHouse_1 rfl ?_
  refine g_aload_n (n := 3) X 0 dX9_askAtHouse_2 rfl rfl rfl ?_
  refine gg_9_15 (n := 6) (z := w) X (by omega) (by omega) lay_1 kw_2_138 dX9_askAtHouse_3 rfl f_1_15 ?_
  refine g_callVi (n := 9) (As := [gJ 3, gJ w]) (rest := []) (cs1 := 0) (ss1 := 0) X (c_X9_law 3 w (by omega) (by omega) (by omega) f_1_13 (by omega)) okX9_law kw_4_213 ⟨kw_3_138, kw_3_139⟩ ⟨rfl, rfl⟩ ⟨Nat.le_of_ble_eq_true rfl, Nat.le_of_ble_eq_true rfl⟩ rfl (by omega) (by omega) lay_1 rfl rfl (Nat.le_of_ble_eq_true rfl) ⟨Nat.le_of_ble_eq_true rfl, Nat.le_of_ble_eq_true rfl⟩ rfl rfl dX9_askAtHouse_6 rfl (fun z1 M2 P3 => ?_)
  obtain ⟨rfl, P3⟩ := P3
  refine g_istore_n (n := 10) (L' := [(1, gJ z1), (0, gA n0 1)]) X dX9_askAtHouse_9 rfl (by decide) rfl rfl ?_
  refine g_iconst (n := 11) X dX9_askAtHouse_10 rfl ?_
  refine g_istore_n (n := 12) (L' := [(2, gJ 0), (1, gJ z1), (0, gA n0 1)]) X dX9_askAtHouse_11 rfl (by decide) rfl rfl ?_
  refine g_iload_n (n := 13) X 0 dX9_askAtHouse_12 rfl rfl rfl ?_
  refine g_aload_n (n := 14) X 2 dX9_askAtHouse_13 rfl rfl rfl ?_
  refine gg_9_10 (n := 17) (z := 0) X (by omega) (by omega) lay_1 kw_2_126 dX9_askAtHouse_14 rfl f_1_10 ?_
  refine g_icmp_ge (n := 20) (tgt := 154) X dX9_askAtHouse_17 (by decide) (by omega) (by omega) rfl (fun c4 => ?_) (fun c4 => by exfalso; omega)
  exact g_return X hr dX9_askAtHouse_154 (by exact (fun a  => rfl))
theorem dX9_eat_0 : decode cX9_eat 0 = .ok (.aload_n 0, 1) := by decide +kernel
theorem dX9_eat_1 : decode cX9_eat 1 = .ok (.iconst 2, 1) := by decide +kernel
theorem dX9_eat_2 : decode cX9_eat 2 = .ok (.aload_n 0, 1) := by decide +kernel
theorem dX9_eat_3 : decode cX9_eat 3 = .ok (.getfield 110, 3) := by decide +kernel
theorem dX9_eat_6 : decode cX9_eat 6 = .ok (.invokevirtual 247, 3) := by decide +kernel
theorem dX9_eat_9 : decode cX9_eat 9 = .ok (.istore_n 1, 1) := by decide +kernel
theorem dX9_eat_10 : decode cX9_eat 10 = .ok (.iconst 0, 1) := by decide +kernel
theorem dX9_eat_11 : decode cX9_eat 11 = .ok (.istore_n 2, 1) := by decide +kernel
theorem dX9_eat_12 : decode cX9_eat 12 = .ok (.iload_n 2, 1) := by decide +kernel
theorem dX9_eat_13 : decode cX9_eat 13 = .ok (.aload_n 0, 1) := by decide +kernel
theorem dX9_eat_14 : decode cX9_eat 14 = .ok (.getfield 79, 3) := by decide +kernel
theorem dX9_eat_17 : decode cX9_eat 17 = .ok (.if_icmp .ge 97, 3) := by decide +kernel
theorem dX9_eat_114 : decode cX9_eat 114 = .ok (.return_, 1) := by decide +kernel
set_option maxRecDepth 100000 in
set_option maxHeartbeats 4000000 in
theorem c_X9_eat {l : Launch} {n0 : Nat} {D : va_G} {cA : Nat → ClassId} {M : gM}  {sz : Nat} (hsz : 206 ≤ sz) (w : Int) (q_w : 0 ≤ w ∧ w ≤ 299) (f_1_15 : M 1 15 = w) (f_1_10 : M 1 10 = 0) (f_1_13 : M 1 13 = 0) : Met l yX9_eat (gWsOf yX9_eat cX9_eat 4 (Option.none : Option Jvm.ClassFile.FieldType)) { frames := 4, cells := 0, slots := 0, locals := 120 } (gPc n0 D cA [gA n0 1] M sz) (gQv n0 D cA sz (fun M1 => ∀ a : Int, M1 a = M a)) 0 0 (fun q => n0 ≤ q) := by
  refine gMet_of [gA n0 1] (by decide) (Nat.le_of_ble_eq_true rfl) ?_
  intro p e s m args below meth cd X hr hm
  have X : gCx p s m args meth cd n0 D cA "ParishUnion$Union" cX9_eat 4 := X
  show G p l e ({ frames := 4, cells := 0, slots := 0, locals := 120 } : Room) s m args below meth cd n0 D cA 4 (MQ below (gQv n0 D cA sz (fun M1 => ∀ a : Int, M1 a = M a)) args s 0 0 (fun q => n0 ≤ q)) 0 0 M sz 0 [(0, gA n0 1)] []
  refine g_aload_n (n := 1) X 0 dX9_eat_0 rfl rfl rfl ?_
  refine g_iconst (n := 2) X dX9_eat_1 rfl ?_
  refine g_aload_n (n := 3) X 0 dX9_eat_2 rfl rfl rfl ?_
  refine gg_9_15 (n := 6) (z := w) X (by omega) (by omega) lay_1 kw_2_138 dX9_eat_3 rfl f_1_15 ?_
  refine g_callVi (n := 9) (As := [gJ 2, gJ w]) (rest := []) (cs1 := 0) (ss1 := 0) X (c_X9_law 2 w (by omega) (by omega) (by omega) f_1_13 (by omega)) okX9_law kw_4_213 ⟨kw_3_138, kw_3_139⟩ ⟨rfl, rfl⟩ ⟨Nat.le_of_ble_eq_true rfl, Nat.le_of_ble_eq_true rfl⟩ rfl (by omega) (by omega) lay_1 rfl rfl (Nat.le_of_ble_eq_true rfl) ⟨Nat.le_of_ble_eq_true rfl, Nat.le_of_ble_eq_true rfl⟩ rfl rfl dX9_eat_6 rfl (fun z1 M2 P3 => ?_)
  obtain ⟨rfl, P3⟩ := P3
  refine g_istore_n (n := 10) (L' := [(1, gJ z1), (0, gA n0 1)]) X dX9_eat_9 rfl (by decide) rfl rfl ?_
  refine g_iconst (n := 11) X dX9_eat_10 rfl ?_
  refine g_istore_n (n := 12) (L' := [(2, gJ 0), (1, gJ z1), (0, gA n0 1)]) X dX9_eat_11 rfl (by decide) rfl rfl ?_
  refine g_iload_n (n := 13) X 0 dX9_eat_12 rfl rfl rfl ?_
  refine g_aload_n (n := 14) X 2 dX9_eat_13 rfl rfl rfl ?_
  refine gg_9_10 (n := 17) (z := 0) X (by omega) (by omega) lay_1 kw_2_126 dX9_eat_14 rfl f_1_10 ?_
  refine g_icmp_ge (n := 20) (tgt := 114) X dX9_eat_17 (by decide) (by omega) (by omega) rfl (fun c4 => ?_) (fun c4 => by exfalso; omega)
  exact g_return X hr dX9_eat_114 (by exact (fun a  => rfl))
theorem dX9_die_0 : decode cX9_die 0 = .ok (.iconst 0, 1) := by decide +kernel
theorem dX9_die_1 : decode cX9_die 1 = .ok (.istore_n 1, 1) := by decide +kernel
theorem dX9_die_2 : decode cX9_die 2 = .ok (.iload_n 1, 1) := by decide +kernel
theorem dX9_die_3 : decode cX9_die 3 = .ok (.aload_n 0, 1) := by decide +kernel
theorem dX9_die_4 : decode cX9_die 4 = .ok (.getfield 79, 3) := by decide +kernel
theorem dX9_die_7 : decode cX9_die 7 = .ok (.if_icmp .ge 106, 3) := by decide +kernel
theorem dX9_die_113 : decode cX9_die 113 = .ok (.return_, 1) := by decide +kernel
set_option maxRecDepth 100000 in
set_option maxHeartbeats 4000000 in
theorem c_X9_die {l : Launch} {n0 : Nat} {D : va_G} {cA : Nat → ClassId} {M : gM}  {sz : Nat} (hsz : 206 ≤ sz) (f_1_10 : M 1 10 = 0) : Met l yX9_die (gWsOf yX9_die cX9_die 4 (Option.none : Option Jvm.ClassFile.FieldType)) { frames := 1, cells := 0, slots := 0, locals := 23 } (gPc n0 D cA [gA n0 1] M sz) (gQv n0 D cA sz (fun M1 => ∀ a : Int, M1 a = M a)) 0 0 (fun q => n0 ≤ q) := by
  refine gMet_of [gA n0 1] (by decide) (Nat.le_of_ble_eq_true rfl) ?_
  intro p e s m args below meth cd X hr hm
  have X : gCx p s m args meth cd n0 D cA "ParishUnion$Union" cX9_die 4 := X
  show G p l e ({ frames := 1, cells := 0, slots := 0, locals := 23 } : Room) s m args below meth cd n0 D cA 4 (MQ below (gQv n0 D cA sz (fun M1 => ∀ a : Int, M1 a = M a)) args s 0 0 (fun q => n0 ≤ q)) 0 0 M sz 0 [(0, gA n0 1)] []
  refine g_iconst (n := 1) X dX9_die_0 rfl ?_
  refine g_istore_n (n := 2) (L' := [(1, gJ 0), (0, gA n0 1)]) X dX9_die_1 rfl (by decide) rfl rfl ?_
  refine g_iload_n (n := 3) X 0 dX9_die_2 rfl rfl rfl ?_
  refine g_aload_n (n := 4) X 1 dX9_die_3 rfl rfl rfl ?_
  refine gg_9_10 (n := 7) (z := 0) X (by omega) (by omega) lay_1 kw_2_126 dX9_die_4 rfl f_1_10 ?_
  refine g_icmp_ge (n := 10) (tgt := 113) X dX9_die_7 (by decide) (by omega) (by omega) rfl (fun c1 => ?_) (fun c1 => by exfalso; omega)
  exact g_return X hr dX9_die_113 (by exact (fun a  => rfl))
theorem dX9_goBy_0 : decode cX9_goBy 0 = .ok (.iconst 0, 1) := by decide +kernel
theorem dX9_goBy_1 : decode cX9_goBy 1 = .ok (.istore_n 2, 1) := by decide +kernel
theorem dX9_goBy_2 : decode cX9_goBy 2 = .ok (.iload_n 2, 1) := by decide +kernel
theorem dX9_goBy_3 : decode cX9_goBy 3 = .ok (.iload_n 1, 1) := by decide +kernel
theorem dX9_goBy_4 : decode cX9_goBy 4 = .ok (.if_icmp .ge 132, 3) := by decide +kernel
theorem dX9_goBy_136 : decode cX9_goBy 136 = .ok (.return_, 1) := by decide +kernel
theorem dX9_goBy_7 : decode cX9_goBy 7 = .ok (.aload_n 0, 1) := by decide +kernel
theorem dX9_goBy_8 : decode cX9_goBy 8 = .ok (.getfield 110, 3) := by decide +kernel
theorem dX9_goBy_11 : decode cX9_goBy 11 = .ok (.sipush 300, 3) := by decide +kernel
theorem dX9_goBy_14 : decode cX9_goBy 14 = .ok (.if_icmp .ge 122, 3) := by decide +kernel
theorem dX9_goBy_17 : decode cX9_goBy 17 = .ok (.aload_n 0, 1) := by decide +kernel
theorem dX9_goBy_18 : decode cX9_goBy 18 = .ok (.getfield 57, 3) := by decide +kernel
theorem kw_2_120 : (Jvm.Cond.fieldLink "ParishUnion$Union" (57 : Nat) "ParishUnion$Union" "past" "LParishUnion$Past;") ∈ gT := gT_of (tb_2 _ (List.mem_of_getElem? (i := 120) rfl)) rfl
theorem dX9_goBy_21 : decode cX9_goBy 21 = .ok (.aload_n 0, 1) := by decide +kernel
theorem dX9_goBy_22 : decode cX9_goBy 22 = .ok (.getfield 110, 3) := by decide +kernel
theorem dX9_goBy_25 : decode cX9_goBy 25 = .ok (.invokevirtual 191, 3) := by decide +kernel
theorem kw_4_189 : (Jvm.Cond.methodLink "ParishUnion$Union" (191 : Nat) ({ cls := "ParishUnion$Past", name := "open", desc := "(I)V" } : Jvm.MethodName)) ∈ gT := gT_of (tb_4 _ (List.mem_of_getElem? (i := 189) rfl)) rfl
theorem kw_4_192 : (Jvm.Cond.code ({ cls := "ParishUnion$Past", name := "open", desc := "(I)V" } : Jvm.MethodName) prog_7_method_3_code (3 : Nat) (Option.none : Option Jvm.ClassFile.FieldType)) ∈ gT := gT_of (tb_4 _ (List.mem_of_getElem? (i := 192) rfl)) rfl
theorem okX5_open : gQok yX5_open cX5_open 3 (Option.none : Option Jvm.ClassFile.FieldType) 1 := ⟨kw_4_192, kw_1_6, by decide +kernel, by decide +kernel, by decide +kernel⟩
theorem kw_4_190 : (Jvm.Cond.instanceMethod ({ cls := "ParishUnion$Past", name := "open", desc := "(I)V" } : Jvm.MethodName)) ∈ gT := gT_of (tb_4 _ (List.mem_of_getElem? (i := 190) rfl)) rfl
theorem kw_4_191 : (Jvm.Cond.selects "ParishUnion$Past" ({ cls := "ParishUnion$Past", name := "open", desc := "(I)V" } : Jvm.MethodName) ({ cls := "ParishUnion$Past", name := "open", desc := "(I)V" } : Jvm.MethodName)) ∈ gT := gT_of (tb_4 _ (List.mem_of_getElem? (i := 191) rfl)) rfl
theorem dX9_goBy_28 : decode cX9_goBy 28 = .ok (.aload_n 0, 1) := by decide +kernel
theorem dX9_goBy_29 : decode cX9_goBy 29 = .ok (.invokevirtual 195, 3) := by decide +kernel
theorem kw_4_194 : (Jvm.Cond.methodLink "ParishUnion$Union" (195 : Nat) ({ cls := "ParishUnion$Union", name := "growHungry", desc := "()V" } : Jvm.MethodName)) ∈ gT := gT_of (tb_4 _ (List.mem_of_getElem? (i := 194) rfl)) rfl
theorem kw_4_197 : (Jvm.Cond.code ({ cls := "ParishUnion$Union", name := "growHungry", desc := "()V" } : Jvm.MethodName) prog_11_method_13_code (5 : Nat) (Option.none : Option Jvm.ClassFile.FieldType)) ∈ gT := gT_of (tb_4 _ (List.mem_of_getElem? (i := 197) rfl)) rfl
theorem okX9_growHungry : gQok yX9_growHungry cX9_growHungry 5 (Option.none : Option Jvm.ClassFile.FieldType) 0 := ⟨kw_4_197, kw_1_2, by decide +kernel, by decide +kernel, by decide +kernel⟩
theorem kw_4_196 : (Jvm.Cond.instanceMethod ({ cls := "ParishUnion$Union", name := "growHungry", desc := "()V" } : Jvm.MethodName)) ∈ gT := gT_of (tb_4 _ (List.mem_of_getElem? (i := 196) rfl)) rfl
theorem kw_0_22 : (Jvm.Cond.selects "ParishUnion$Union" ({ cls := "ParishUnion$Union", name := "growHungry", desc := "()V" } : Jvm.MethodName) ({ cls := "ParishUnion$Union", name := "growHungry", desc := "()V" } : Jvm.MethodName)) ∈ gT := gT_of (tb_0 _ (List.mem_of_getElem? (i := 22) rfl)) rfl
theorem dX9_goBy_32 : decode cX9_goBy 32 = .ok (.aload_n 0, 1) := by decide +kernel
theorem dX9_goBy_33 : decode cX9_goBy 33 = .ok (.invokevirtual 198, 3) := by decide +kernel
theorem kw_4_209 : (Jvm.Cond.methodLink "ParishUnion$Union" (198 : Nat) ({ cls := "ParishUnion$Union", name := "askAtHouse", desc := "()V" } : Jvm.MethodName)) ∈ gT := gT_of (tb_4 _ (List.mem_of_getElem? (i := 209) rfl)) rfl
theorem kw_4_212 : (Jvm.Cond.code ({ cls := "ParishUnion$Union", name := "askAtHouse", desc := "()V" } : Jvm.MethodName) prog_11_method_14_code (6 : Nat) (Option.none : Option Jvm.ClassFile.FieldType)) ∈ gT := gT_of (tb_4 _ (List.mem_of_getElem? (i := 212) rfl)) rfl
theorem okX9_askAtHouse : gQok yX9_askAtHouse cX9_askAtHouse 6 (Option.none : Option Jvm.ClassFile.FieldType) 0 := ⟨kw_4_212, kw_1_2, by decide +kernel, by decide +kernel, by decide +kernel⟩
theorem kw_4_211 : (Jvm.Cond.instanceMethod ({ cls := "ParishUnion$Union", name := "askAtHouse", desc := "()V" } : Jvm.MethodName)) ∈ gT := gT_of (tb_4 _ (List.mem_of_getElem? (i := 211) rfl)) rfl
theorem kw_0_23 : (Jvm.Cond.selects "ParishUnion$Union" ({ cls := "ParishUnion$Union", name := "askAtHouse", desc := "()V" } : Jvm.MethodName) ({ cls := "ParishUnion$Union", name := "askAtHouse", desc := "()V" } : Jvm.MethodName)) ∈ gT := gT_of (tb_0 _ (List.mem_of_getElem? (i := 23) rfl)) rfl
theorem dX9_goBy_36 : decode cX9_goBy 36 = .ok (.aload_n 0, 1) := by decide +kernel
theorem dX9_goBy_37 : decode cX9_goBy 37 = .ok (.invokevirtual 201, 3) := by decide +kernel
theorem kw_4_220 : (Jvm.Cond.methodLink "ParishUnion$Union" (201 : Nat) ({ cls := "ParishUnion$Union", name := "eat", desc := "()V" } : Jvm.MethodName)) ∈ gT := gT_of (tb_4 _ (List.mem_of_getElem? (i := 220) rfl)) rfl
theorem kw_4_223 : (Jvm.Cond.code ({ cls := "ParishUnion$Union", name := "eat", desc := "()V" } : Jvm.MethodName) prog_11_method_15_code (4 : Nat) (Option.none : Option Jvm.ClassFile.FieldType)) ∈ gT := gT_of (tb_4 _ (List.mem_of_getElem? (i := 223) rfl)) rfl
theorem okX9_eat : gQok yX9_eat cX9_eat 4 (Option.none : Option Jvm.ClassFile.FieldType) 0 := ⟨kw_4_223, kw_1_2, by decide +kernel, by decide +kernel, by decide +kernel⟩
theorem kw_4_222 : (Jvm.Cond.instanceMethod ({ cls := "ParishUnion$Union", name := "eat", desc := "()V" } : Jvm.MethodName)) ∈ gT := gT_of (tb_4 _ (List.mem_of_getElem? (i := 222) rfl)) rfl
theorem kw_0_24 : (Jvm.Cond.selects "ParishUnion$Union" ({ cls := "ParishUnion$Union", name := "eat", desc := "()V" } : Jvm.MethodName) ({ cls := "ParishUnion$Union", name := "eat", desc := "()V" } : Jvm.MethodName)) ∈ gT := gT_of (tb_0 _ (List.mem_of_getElem? (i := 24) rfl)) rfl
theorem dX9_goBy_40 : decode cX9_goBy 40 = .ok (.aload_n 0, 1) := by decide +kernel
theorem dX9_goBy_41 : decode cX9_goBy 41 = .ok (.invokevirtual 204, 3) := by decide +kernel
theorem kw_4_224 : (Jvm.Cond.methodLink "ParishUnion$Union" (204 : Nat) ({ cls := "ParishUnion$Union", name := "fallIll", desc := "()V" } : Jvm.MethodName)) ∈ gT := gT_of (tb_4 _ (List.mem_of_getElem? (i := 224) rfl)) rfl
theorem kw_4_227 : (Jvm.Cond.code ({ cls := "ParishUnion$Union", name := "fallIll", desc := "()V" } : Jvm.MethodName) prog_11_method_16_code (5 : Nat) (Option.none : Option Jvm.ClassFile.FieldType)) ∈ gT := gT_of (tb_4 _ (List.mem_of_getElem? (i := 227) rfl)) rfl
theorem okX9_fallIll : gQok yX9_fallIll cX9_fallIll 5 (Option.none : Option Jvm.ClassFile.FieldType) 0 := ⟨kw_4_227, kw_1_2, by decide +kernel, by decide +kernel, by decide +kernel⟩
theorem kw_4_226 : (Jvm.Cond.instanceMethod ({ cls := "ParishUnion$Union", name := "fallIll", desc := "()V" } : Jvm.MethodName)) ∈ gT := gT_of (tb_4 _ (List.mem_of_getElem? (i := 226) rfl)) rfl
theorem kw_0_25 : (Jvm.Cond.selects "ParishUnion$Union" ({ cls := "ParishUnion$Union", name := "fallIll", desc := "()V" } : Jvm.MethodName) ({ cls := "ParishUnion$Union", name := "fallIll", desc := "()V" } : Jvm.MethodName)) ∈ gT := gT_of (tb_0 _ (List.mem_of_getElem? (i := 25) rfl)) rfl
theorem dX9_goBy_44 : decode cX9_goBy 44 = .ok (.aload_n 0, 1) := by decide +kernel
theorem dX9_goBy_45 : decode cX9_goBy 45 = .ok (.invokevirtual 207, 3) := by decide +kernel
theorem kw_4_228 : (Jvm.Cond.methodLink "ParishUnion$Union" (207 : Nat) ({ cls := "ParishUnion$Union", name := "die", desc := "()V" } : Jvm.MethodName)) ∈ gT := gT_of (tb_4 _ (List.mem_of_getElem? (i := 228) rfl)) rfl
theorem kw_4_231 : (Jvm.Cond.code ({ cls := "ParishUnion$Union", name := "die", desc := "()V" } : Jvm.MethodName) prog_11_method_17_code (4 : Nat) (Option.none : Option Jvm.ClassFile.FieldType)) ∈ gT := gT_of (tb_4 _ (List.mem_of_getElem? (i := 231) rfl)) rfl
theorem okX9_die : gQok yX9_die cX9_die 4 (Option.none : Option Jvm.ClassFile.FieldType) 0 := ⟨kw_4_231, kw_1_2, by decide +kernel, by decide +kernel, by decide +kernel⟩
theorem kw_4_230 : (Jvm.Cond.instanceMethod ({ cls := "ParishUnion$Union", name := "die", desc := "()V" } : Jvm.MethodName)) ∈ gT := gT_of (tb_4 _ (List.mem_of_getElem? (i := 230) rfl)) rfl
theorem kw_0_26 : (Jvm.Cond.selects "ParishUnion$Union" ({ cls := "ParishUnion$Union", name := "die", desc := "()V" } : Jvm.MethodName) ({ cls := "ParishUnion$Union", name := "die", desc := "()V" } : Jvm.MethodName)) ∈ gT := gT_of (tb_0 _ (List.mem_of_getElem? (i := 26) rfl)) rfl
theorem dX9_goBy_48 : decode cX9_goBy 48 = .ok (.aload_n 0, 1) := by decide +kernel
theorem dX9_goBy_49 : decode cX9_goBy 49 = .ok (.invokevirtual 210, 3) := by decide +kernel
theorem kw_4_232 : (Jvm.Cond.methodLink "ParishUnion$Union" (210 : Nat) ({ cls := "ParishUnion$Union", name := "leaveHouse", desc := "()V" } : Jvm.MethodName)) ∈ gT := gT_of (tb_4 _ (List.mem_of_getElem? (i := 232) rfl)) rfl
theorem kw_4_235 : (Jvm.Cond.code ({ cls := "ParishUnion$Union", name := "leaveHouse", desc := "()V" } : Jvm.MethodName) prog_11_method_18_code (3 : Nat) (Option.none : Option Jvm.ClassFile.FieldType)) ∈ gT := gT_of (tb_4 _ (List.mem_of_getElem? (i := 235) rfl)) rfl
theorem okX9_leaveHouse : gQok yX9_leaveHouse cX9_leaveHouse 3 (Option.none : Option Jvm.ClassFile.FieldType) 0 := ⟨kw_4_235, kw_1_2, by decide +kernel, by decide +kernel, by decide +kernel⟩
theorem kw_4_234 : (Jvm.Cond.instanceMethod ({ cls := "ParishUnion$Union", name := "leaveHouse", desc := "()V" } : Jvm.MethodName)) ∈ gT := gT_of (tb_4 _ (List.mem_of_getElem? (i := 234) rfl)) rfl
theorem kw_0_27 : (Jvm.Cond.selects "ParishUnion$Union" ({ cls := "ParishUnion$Union", name := "leaveHouse", desc := "()V" } : Jvm.MethodName) ({ cls := "ParishUnion$Union", name := "leaveHouse", desc := "()V" } : Jvm.MethodName)) ∈ gT := gT_of (tb_0 _ (List.mem_of_getElem? (i := 27) rfl)) rfl
theorem dX9_goBy_52 : decode cX9_goBy 52 = .ok (.iconst 0, 1) := by decide +kernel
theorem dX9_goBy_53 : decode cX9_goBy 53 = .ok (.istore_n 3, 1) := by decide +kernel
theorem dX9_goBy_54 : decode cX9_goBy 54 = .ok (.iload_n 3, 1) := by decide +kernel
theorem dX9_goBy_55 : decode cX9_goBy 55 = .ok (.aload_n 0, 1) := by decide +kernel
theorem dX9_goBy_56 : decode cX9_goBy 56 = .ok (.getfield 79, 3) := by decide +kernel
theorem dX9_goBy_59 : decode cX9_goBy 59 = .ok (.if_icmp .ge 50, 3) := by decide +kernel
theorem dX9_goBy_109 : decode cX9_goBy 109 = .ok (.aload_n 0, 1) := by decide +kernel
theorem dX9_goBy_110 : decode cX9_goBy 110 = .ok (.getfield 57, 3) := by decide +kernel
theorem dX9_goBy_113 : decode cX9_goBy 113 = .ok (.aload_n 0, 1) := by decide +kernel
theorem dX9_goBy_114 : decode cX9_goBy 114 = .ok (.getfield 110, 3) := by decide +kernel
theorem dX9_goBy_117 : decode cX9_goBy 117 = .ok (.invokevirtual 220, 3) := by decide +kernel
theorem kw_5_1 : (Jvm.Cond.methodLink "ParishUnion$Union" (220 : Nat) ({ cls := "ParishUnion$Past", name := "close", desc := "(I)V" } : Jvm.MethodName)) ∈ gT := gT_of (tb_5 _ (List.mem_of_getElem? (i := 1) rfl)) rfl
theorem kw_5_4 : (Jvm.Cond.code ({ cls := "ParishUnion$Past", name := "close", desc := "(I)V" } : Jvm.MethodName) prog_7_method_6_code (3 : Nat) (Option.none : Option Jvm.ClassFile.FieldType)) ∈ gT := gT_of (tb_5 _ (List.mem_of_getElem? (i := 4) rfl)) rfl
theorem okX5_close : gQok yX5_close cX5_close 3 (Option.none : Option Jvm.ClassFile.FieldType) 1 := ⟨kw_5_4, kw_1_6, by decide +kernel, by decide +kernel, by decide +kernel⟩
theorem kw_5_2 : (Jvm.Cond.instanceMethod ({ cls := "ParishUnion$Past", name := "close", desc := "(I)V" } : Jvm.MethodName)) ∈ gT := gT_of (tb_5 _ (List.mem_of_getElem? (i := 2) rfl)) rfl
theorem kw_5_3 : (Jvm.Cond.selects "ParishUnion$Past" ({ cls := "ParishUnion$Past", name := "close", desc := "(I)V" } : Jvm.MethodName) ({ cls := "ParishUnion$Past", name := "close", desc := "(I)V" } : Jvm.MethodName)) ∈ gT := gT_of (tb_5 _ (List.mem_of_getElem? (i := 3) rfl)) rfl
theorem dX9_goBy_120 : decode cX9_goBy 120 = .ok (.aload_n 0, 1) := by decide +kernel
theorem dX9_goBy_121 : decode cX9_goBy 121 = .ok (.dup, 1) := by decide +kernel
theorem dX9_goBy_122 : decode cX9_goBy 122 = .ok (.getfield 110, 3) := by decide +kernel
theorem dX9_goBy_125 : decode cX9_goBy 125 = .ok (.iconst 1, 1) := by decide +kernel
theorem dX9_goBy_126 : decode cX9_goBy 126 = .ok (.iadd, 1) := by decide +kernel
theorem dX9_goBy_127 : decode cX9_goBy 127 = .ok (.putfield 110, 3) := by decide +kernel
theorem dX9_goBy_130 : decode cX9_goBy 130 = .ok (.iinc 2 1, 3) := by decide +kernel
theorem dX9_goBy_133 : decode cX9_goBy 133 = .ok (.goto (-131), 3) := by decide +kernel
set_option maxRecDepth 100000 in
set_option maxHeartbeats 4000000 in
theorem c_X9_goBy {l : Launch} {n0 : Nat} {D : va_G} {cA : Nat → ClassId} {M : gM} (a : Int) (r_a : -2147483648 ≤ a ∧ a ≤ 2147483647) {sz : Nat} (hsz : 206 ≤ sz) (f_1_15 : M 1 15 = 0) (f_1_10 : M 1 10 = 0) (f_1_13 : M 1 13 = 0) (f_1_7 : M 1 7 = 24) (f_1_6 : M 1 6 = 16) (f_15_1 : M 15 1 = 18) (f_23_0 : M 23 0 = 25) (f_23_1 : M 23 1 = 26) (hab : 1 ≤ a ∧ a ≤ 20) (frost0 : ∀ i : Int, 0 ≤ i → i < 301 → M 17 i = 0) : Met l yX9_goBy (gWsOf yX9_goBy cX9_goBy 4 (Option.none : Option Jvm.ClassFile.FieldType)) { frames := 6, cells := 0, slots := 0, locals := 169 } (gPc n0 D cA [gA n0 1, gJ a] M sz) (gQv n0 D cA sz (fun M1 => M1 1 15 = a ∧ ∀ a : Int, a ≠ 1 → a ≠ 24 → a ≠ 25 → M1 a = M a)) 0 0 (fun q => n0 ≤ q) := by
  refine gMet_of [gA n0 1, gJ a] (by decide) (Nat.le_of_ble_eq_true rfl) ?_
  intro p e s m args below meth cd X hr hm
  have X : gCx p s m args meth cd n0 D cA "ParishUnion$Union" cX9_goBy 4 := X
  show G p l e ({ frames := 6, cells := 0, slots := 0, locals := 169 } : Room) s m args below meth cd n0 D cA 4 (MQ below (gQv n0 D cA sz (fun M1 => M1 1 15 = a ∧ ∀ a : Int, a ≠ 1 → a ≠ 24 → a ≠ 25 → M1 a = M a)) args s 0 0 (fun q => n0 ≤ q)) 0 0 M sz 0 [(0, gA n0 1), (1, gJ a)] []
  refine g_iconst (n := 1) X dX9_goBy_0 rfl ?_
  refine g_istore_n (n := 2) (L' := [(2, gJ 0), (0, gA n0 1), (1, gJ a)]) X dX9_goBy_1 rfl (by decide) rfl rfl ?_
  have loop1 : ∀ (N3 : Nat) (g : Int) (M5 : gM), (∀ a : Int, a ≠ 1 → a ≠ 24 → a ≠ 25 → M5 a = M a) → M5 1 15 = g → M5 1 10 = 0 → M5 1 13 = 0 → M5 1 7 = 24 → M5 1 6 = 16 → (0 ≤ g ∧ g ≤ a) → (a - g).toNat < N3 → G p l e ({ frames := 6, cells := 0, slots := 0, locals := 169 } : Room) s m args below meth cd n0 D cA 4 (MQ below (gQv n0 D cA sz (fun M1 => M1 1 15 = a ∧ ∀ a : Int, a ≠ 1 → a ≠ 24 → a ≠ 25 → M1 a = M a)) args s 0 0 (fun q => n0 ≤ q)) 0 0 M5 sz 2 [(0, gA n0 1), (1, gJ a), (2, gJ g)] [] := by
    intro N3; induction N3 with
    | zero => intro g M5 F6 g7 g8 g9 g10 g11 ig hm4; exfalso; omega
    | succ N3 ih2 =>
      intro g M5 F6 g7 g8 g9 g10 g11 ig hm4
      refine g_iload_n (n := 3) X 2 dX9_goBy_2 rfl rfl rfl ?_
      refine g_iload_n (n := 4) X 1 dX9_goBy_3 rfl rfl rfl ?_
      refine g_icmp_ge (n := 7) (tgt := 136) X dX9_goBy_4 (by decide) (by omega) (by omega) rfl (fun c12 => ?_) (fun c12 => ?_)
      · exact g_return X hr dX9_goBy_136 (by exact ⟨(g7.trans (by omega)), fun a h0 h1 h2 => ((F6 a (by omega) (by omega) (by omega)).trans rfl)⟩)
      · refine g_aload_n (n := 8) X 0 dX9_goBy_7 rfl rfl rfl ?_
        refine gg_9_15 (n := 11) (z := g) X (by omega) (by omega) lay_1 kw_2_138 dX9_goBy_8 rfl g7 ?_
        refine g_sipush (n := 14) X dX9_goBy_11 (by decide +kernel) rfl ?_
        refine g_icmp_ge (n := 17) (tgt := 136) X dX9_goBy_14 (by decide) (by omega) (by omega) rfl (fun c13 => ?_) (fun c13 => ?_)
        · exact g_return X hr dX9_goBy_136 (by exact ⟨(g7.trans (by omega)), fun a h0 h1 h2 => ((F6 a (by omega) (by omega) (by omega)).trans rfl)⟩)
        · refine g_aload_n (n := 18) X 0 dX9_goBy_17 rfl rfl rfl ?_
          refine gg_9_7 (n := 21) (z := 23) X (by omega) (by omega) lay_1 kw_2_120 dX9_goBy_18 rfl g10 (by omega) ?_
          refine g_aload_n (n := 22) X 0 dX9_goBy_21 rfl rfl rfl ?_
          refine gg_9_15 (n := 25) (z := g) X (by omega) (by omega) lay_1 kw_2_138 dX9_goBy_22 rfl g7 ?_
          refine g_callVv (n := 28) (As := [gJ g]) (rest := []) (cs1 := 0) (ss1 := 0) X (c_X5_open g (by omega) (by omega) ((congrFun (F6 23 (by omega) (by omega) (by omega)) _).trans f_23_0) ((congrFun (F6 23 (by omega) (by omega) (by omega)) _).trans f_23_1) (by omega)) okX5_open kw_4_189 ⟨kw_4_190, kw_4_191⟩ ⟨rfl, rfl⟩ ⟨Nat.le_of_ble_eq_true rfl, Nat.le_of_ble_eq_true rfl⟩ rfl (by omega) (by omega) lay_23 rfl rfl (Nat.le_of_ble_eq_true rfl) ⟨Nat.le_of_ble_eq_true rfl, Nat.le_of_ble_eq_true rfl⟩ rfl rfl dX9_goBy_25 rfl (fun M15 P16 => ?_)
          have F17 := P16
          refine g_aload_n (n := 29) X 0 dX9_goBy_28 rfl rfl rfl ?_
          refine g_callVv (n := 32) (As := []) (rest := []) (cs1 := 0) (ss1 := 0) X (c_X9_growHungry (by omega) g (by omega) ((congrFun (F17 1 (by omega) (by omega)) _).trans g11) ((congrFun (F17 15 (by omega) (by omega)) _).trans ((congrFun (F6 15 (by omega) (by omega) (by omega)) _).trans f_15_1)) ((congrFun (F17 1 (by omega) (by omega)) _).trans g7) ((congrFun (F17 1 (by omega) (by omega)) _).trans g8) (fun i h0 h1 => (congrFun ((F17 17 (by omega) (by omega)).trans ((F6 17 (by omega) (by omega) (by omega)).trans rfl)) i).trans (frost0 i h0 h1))) okX9_growHungry kw_4_194 ⟨kw_4_196, kw_0_22⟩ ⟨rfl, rfl⟩ ⟨Nat.le_of_ble_eq_true rfl, Nat.le_of_ble_eq_true rfl⟩ rfl (by omega) (by omega) lay_1 rfl rfl (Nat.le_of_ble_eq_true rfl) ⟨Nat.le_of_ble_eq_true rfl, Nat.le_of_ble_eq_true rfl⟩ rfl rfl dX9_goBy_29 rfl (fun M19 P20 => ?_)
          have F21 := P20
          refine g_aload_n (n := 33) X 0 dX9_goBy_32 rfl rfl rfl ?_
          refine g_callVv (n := 36) (As := []) (rest := []) (cs1 := 0) (ss1 := 0) X (c_X9_askAtHouse (by omega) g (by omega) ((congrFun (F21 1) _).trans ((congrFun (F17 1 (by omega) (by omega)) _).trans g7)) ((congrFun (F21 1) _).trans ((congrFun (F17 1 (by omega) (by omega)) _).trans g8)) ((congrFun (F21 1) _).trans ((congrFun (F17 1 (by omega) (by omega)) _).trans g9))) okX9_askAtHouse kw_4_209 ⟨kw_4_211, kw_0_23⟩ ⟨rfl, rfl⟩ ⟨Nat.le_of_ble_eq_true rfl, Nat.le_of_ble_eq_true rfl⟩ rfl (by omega) (by omega) lay_1 rfl rfl (Nat.le_of_ble_eq_true rfl) ⟨Nat.le_of_ble_eq_true rfl, Nat.le_of_ble_eq_true rfl⟩ rfl rfl dX9_goBy_33 rfl (fun M23 P24 => ?_)
          have F25 := P24
          refine g_aload_n (n := 37) X 0 dX9_goBy_36 rfl rfl rfl ?_
          refine g_callVv (n := 40) (As := []) (rest := []) (cs1 := 0) (ss1 := 0) X (c_X9_eat (by omega) g (by omega) ((congrFun (F25 1) _).trans ((congrFun (F21 1) _).trans ((congrFun (F17 1 (by omega) (by omega)) _).trans g7))) ((congrFun (F25 1) _).trans ((congrFun (F21 1) _).trans ((congrFun (F17 1 (by omega) (by omega)) _).trans g8))) ((congrFun (F25 1) _).trans ((congrFun (F21 1) _).trans ((congrFun (F17 1 (by omega) (by omega)) _).trans g9)))) okX9_eat kw_4_220 ⟨kw_4_222, kw_0_24⟩ ⟨rfl, rfl⟩ ⟨Nat.le_of_ble_eq_true rfl, Nat.le_of_ble_eq_true rfl⟩ rfl (by omega) (by omega) lay_1 rfl rfl (Nat.le_of_ble_eq_true rfl) ⟨Nat.le_of_ble_eq_true rfl, Nat.le_of_ble_eq_true rfl⟩ rfl rfl dX9_goBy_37 rfl (fun M27 P28 => ?_)
          have F29 := P28
          refine g_aload_n (n := 41) X 0 dX9_goBy_40 rfl rfl rfl ?_
          refine g_callVv (n := 44) (As := []) (rest := []) (cs1 := 0) (ss1 := 0) X (c_X9_fallIll (by omega) g (by omega) ((congrFun (F29 1) _).trans ((congrFun (F25 1) _).trans ((congrFun (F21 1) _).trans ((congrFun (F17 1 (by omega) (by omega)) _).trans g11)))) ((congrFun (F29 15) _).trans ((congrFun (F25 15) _).trans ((congrFun (F21 15) _).trans ((congrFun (F17 15 (by omega) (by omega)) _).trans ((congrFun (F6 15 (by omega) (by omega) (by omega)) _).trans f_15_1))))) ((congrFun (F29 1) _).trans ((congrFun (F25 1) _).trans ((congrFun (F21 1) _).trans ((congrFun (F17 1 (by omega) (by omega)) _).trans g7)))) ((congrFun (F29 1) _).trans ((congrFun (F25 1) _).trans ((congrFun (F21 1) _).trans ((congrFun (F17 1 (by omega) (by omega)) _).trans g8)))) (fun i h0 h1 => (congrFun ((F29 17).trans ((F25 17).trans ((F21 17).trans ((F17 17 (by omega) (by omega)).trans ((F6 17 (by omega) (by omega) (by omega)).trans rfl))))) i).trans (frost0 i h0 h1))) okX9_fallIll kw_4_224 ⟨kw_4_226, kw_0_25⟩ ⟨rfl, rfl⟩ ⟨Nat.le_of_ble_eq_true rfl, Nat.le_of_ble_eq_true rfl⟩ rfl (by omega) (by omega) lay_1 rfl rfl (Nat.le_of_ble_eq_true rfl) ⟨Nat.le_of_ble_eq_true rfl, Nat.le_of_ble_eq_true rfl⟩ rfl rfl dX9_goBy_41 rfl (fun M31 P32 => ?_)
          have F33 := P32
          refine g_aload_n (n := 45) X 0 dX9_goBy_44 rfl rfl rfl ?_
          refine g_callVv (n := 48) (As := []) (rest := []) (cs1 := 0) (ss1 := 0) X (c_X9_die (by omega) ((congrFun (F33 1) _).trans ((congrFun (F29 1) _).trans ((congrFun (F25 1) _).trans ((congrFun (F21 1) _).trans ((congrFun (F17 1 (by omega) (by omega)) _).trans g8)))))) okX9_die kw_4_228 ⟨kw_4_230, kw_0_26⟩ ⟨rfl, rfl⟩ ⟨Nat.le_of_ble_eq_true rfl, Nat.le_of_ble_eq_true rfl⟩ rfl (by omega) (by omega) lay_1 rfl rfl (Nat.le_of_ble_eq_true rfl) ⟨Nat.le_of_ble_eq_true rfl, Nat.le_of_ble_eq_true rfl⟩ rfl rfl dX9_goBy_45 rfl (fun M35 P36 => ?_)
          have F37 := P36
          refine g_aload_n (n := 49) X 0 dX9_goBy_48 rfl rfl rfl ?_
          refine g_callVv (n := 52) (As := []) (rest := []) (cs1 := 0) (ss1 := 0) X (c_X9_leaveHouse (by omega) g (by omega) ((congrFun (F37 1) _).trans ((congrFun (F33 1) _).trans ((congrFun (F29 1) _).trans ((congrFun (F25 1) _).trans ((congrFun (F21 1) _).trans ((congrFun (F17 1 (by omega) (by omega)) _).trans g11)))))) ((congrFun (F37 15) _).trans ((congrFun (F33 15) _).trans ((congrFun (F29 15) _).trans ((congrFun (F25 15) _).trans ((congrFun (F21 15) _).trans ((congrFun (F17 15 (by omega) (by omega)) _).trans ((congrFun (F6 15 (by omega) (by omega) (by omega)) _).trans f_15_1))))))) ((congrFun (F37 1) _).trans ((congrFun (F33 1) _).trans ((congrFun (F29 1) _).trans ((congrFun (F25 1) _).trans ((congrFun (F21 1) _).trans ((congrFun (F17 1 (by omega) (by omega)) _).trans g7)))))) ((congrFun (F37 1) _).trans ((congrFun (F33 1) _).trans ((congrFun (F29 1) _).trans ((congrFun (F25 1) _).trans ((congrFun (F21 1) _).trans ((congrFun (F17 1 (by omega) (by omega)) _).trans g8)))))) (fun i h0 h1 => (congrFun ((F37 17).trans ((F33 17).trans ((F29 17).trans ((F25 17).trans ((F21 17).trans ((F17 17 (by omega) (by omega)).trans ((F6 17 (by omega) (by omega) (by omega)).trans rfl))))))) i).trans (frost0 i h0 h1))) okX9_leaveHouse kw_4_232 ⟨kw_4_234, kw_0_27⟩ ⟨rfl, rfl⟩ ⟨Nat.le_of_ble_eq_true rfl, Nat.le_of_ble_eq_true rfl⟩ rfl (by omega) (by omega) lay_1 rfl rfl (Nat.le_of_ble_eq_true rfl) ⟨Nat.le_of_ble_eq_true rfl, Nat.le_of_ble_eq_true rfl⟩ rfl rfl dX9_goBy_49 rfl (fun M39 P40 => ?_)
          have F41 := P40
          refine g_iconst (n := 53) X dX9_goBy_52 rfl ?_
          refine g_istore_n (n := 54) (L' := [(3, gJ 0), (0, gA n0 1), (1, gJ a), (2, gJ g)]) X dX9_goBy_53 rfl (by decide) rfl rfl ?_
          refine g_iload_n (n := 55) X 0 dX9_goBy_54 rfl rfl rfl ?_
          refine g_aload_n (n := 56) X 1 dX9_goBy_55 rfl rfl rfl ?_
          refine gg_9_10 (n := 59) (z := 0) X (by omega) (by omega) lay_1 kw_2_126 dX9_goBy_56 rfl ((congrFun (F41 1) _).trans ((congrFun (F37 1) _).trans ((congrFun (F33 1) _).trans ((congrFun (F29 1) _).trans ((congrFun (F25 1) _).trans ((congrFun (F21 1) _).trans ((congrFun (F17 1 (by omega) (by omega)) _).trans g8))))))) ?_
          refine g_icmp_ge (n := 62) (tgt := 109) X dX9_goBy_59 (by decide) (by omega) (by omega) rfl (fun c42 => ?_) (fun c42 => by exfalso; omega)
          refine g_aload_n (n := 110) X 1 dX9_goBy_109 rfl rfl rfl ?_
          refine gg_9_7 (n := 113) (z := 23) X (by omega) (by omega) lay_1 kw_2_120 dX9_goBy_110 rfl ((congrFun (F41 1) _).trans ((congrFun (F37 1) _).trans ((congrFun (F33 1) _).trans ((congrFun (F29 1) _).trans ((congrFun (F25 1) _).trans ((congrFun (F21 1) _).trans ((congrFun (F17 1 (by omega) (by omega)) _).trans g10))))))) (by omega) ?_
          refine g_aload_n (n := 114) X 1 dX9_goBy_113 rfl rfl rfl ?_
          refine gg_9_15 (n := 117) (z := g) X (by omega) (by omega) lay_1 kw_2_138 dX9_goBy_114 rfl ((congrFun (F41 1) _).trans ((congrFun (F37 1) _).trans ((congrFun (F33 1) _).trans ((congrFun (F29 1) _).trans ((congrFun (F25 1) _).trans ((congrFun (F21 1) _).trans ((congrFun (F17 1 (by omega) (by omega)) _).trans g7))))))) ?_
          refine g_callVv (n := 120) (As := [gJ g]) (rest := []) (cs1 := 0) (ss1 := 0) X (c_X5_close g (by omega) (by omega) ((congrFun (F41 23) _).trans ((congrFun (F37 23) _).trans ((congrFun (F33 23) _).trans ((congrFun (F29 23) _).trans ((congrFun (F25 23) _).trans ((congrFun (F21 23) _).trans ((congrFun (F17 23 (by omega) (by omega)) _).trans ((congrFun (F6 23 (by omega) (by omega) (by omega)) _).trans f_23_0)))))))) (by omega)) okX5_close kw_5_1 ⟨kw_5_2, kw_5_3⟩ ⟨rfl, rfl⟩ ⟨Nat.le_of_ble_eq_true rfl, Nat.le_of_ble_eq_true rfl⟩ rfl (by omega) (by omega) lay_23 rfl rfl (Nat.le_of_ble_eq_true rfl) ⟨Nat.le_of_ble_eq_true rfl, Nat.le_of_ble_eq_true rfl⟩ rfl rfl dX9_goBy_117 rfl (fun M44 P45 => ?_)
          have F46 := P45
          refine g_aload_n (n := 121) X 1 dX9_goBy_120 rfl rfl rfl ?_
          refine g_dup (n := 122) X dX9_goBy_121 rfl rfl ?_
          refine gg_9_15 (n := 125) (z := g) X (by omega) (by omega) lay_1 kw_2_138 dX9_goBy_122 rfl ((congrFun (F46 1 (by omega)) _).trans ((congrFun (F41 1) _).trans ((congrFun (F37 1) _).trans ((congrFun (F33 1) _).trans ((congrFun (F29 1) _).trans ((congrFun (F25 1) _).trans ((congrFun (F21 1) _).trans ((congrFun (F17 1 (by omega) (by omega)) _).trans g7)))))))) ?_
          refine g_iconst (n := 126) X dX9_goBy_125 rfl ?_
          refine g_iadd (n := 127) (z := g + 1) X dX9_goBy_126 rfl rfl ?_
          refine gp_9_15 (n := 130) X (by omega) (by omega) lay_1 kw_2_138 dX9_goBy_127 rfl ?_
          refine G.nm (fun M47 e48 => ?_)
          refine g_iinc (n := 133) (w := g + 1) (L' := [(2, gJ (g + 1)), (3, gJ 0), (0, gA n0 1), (1, gJ a)]) X 3 dX9_goBy_130 rfl rfl (by decide) rfl rfl ?_
          refine g_goto (tgt := 2) X dX9_goBy_133 (by decide) ?_
          refine G.sub (L' := [(0, gA n0 1), (1, gJ a), (2, gJ (g + 1))]) [2, 3, 0] rfl ?_
          exact ih2 (g + 1) M47 (fun a h0 h1 h2 => ((congrFun e48 a).trans ((gset_off a (by omega)).trans ((F46 a (by omega)).trans ((F41 a).trans ((F37 a).trans ((F33 a).trans ((F29 a).trans ((F25 a).trans ((F21 a).trans ((F17 a (by omega) (by omega)).trans ((F6 a (by omega) (by omega) (by omega)).trans rfl)))))))))))) (((congrFun (congrFun e48 _) _).trans (gset_eq _ _ _ _)).trans (by omega)) (((congrFun (congrFun e48 _) _).trans ((gset_ne (by omega)).trans ((congrFun (F46 1 (by omega)) _).trans ((congrFun (F41 1) _).trans ((congrFun (F37 1) _).trans ((congrFun (F33 1) _).trans ((congrFun (F29 1) _).trans ((congrFun (F25 1) _).trans ((congrFun (F21 1) _).trans ((congrFun (F17 1 (by omega) (by omega)) _).trans g8)))))))))).trans (by omega)) (((congrFun (congrFun e48 _) _).trans ((gset_ne (by omega)).trans ((congrFun (F46 1 (by omega)) _).trans ((congrFun (F41 1) _).trans ((congrFun (F37 1) _).trans ((congrFun (F33 1) _).trans ((congrFun (F29 1) _).trans ((congrFun (F25 1) _).trans ((congrFun (F21 1) _).trans ((congrFun (F17 1 (by omega) (by omega)) _).trans g9)))))))))).trans (by omega)) (((congrFun (congrFun e48 _) _).trans ((gset_ne (by omega)).trans ((congrFun (F46 1 (by omega)) _).trans ((congrFun (F41 1) _).trans ((congrFun (F37 1) _).trans ((congrFun (F33 1) _).trans ((congrFun (F29 1) _).trans ((congrFun (F25 1) _).trans ((congrFun (F21 1) _).trans ((congrFun (F17 1 (by omega) (by omega)) _).trans g10)))))))))).trans (by omega)) (((congrFun (congrFun e48 _) _).trans ((gset_ne (by omega)).trans ((congrFun (F46 1 (by omega)) _).trans ((congrFun (F41 1) _).trans ((congrFun (F37 1) _).trans ((congrFun (F33 1) _).trans ((congrFun (F29 1) _).trans ((congrFun (F25 1) _).trans ((congrFun (F21 1) _).trans ((congrFun (F17 1 (by omega) (by omega)) _).trans g11)))))))))).trans (by omega)) (by omega) (by omega)
  refine G.sub (L' := [(0, gA n0 1), (1, gJ a), (2, gJ 0)]) [1, 2, 0] rfl ?_
  exact loop1 _ 0 M (fun a _ _ _ => rfl) (f_1_15.trans (by omega)) (f_1_10.trans (by omega)) (f_1_13.trans (by omega)) (f_1_7.trans (by omega)) (f_1_6.trans (by omega)) (by omega) (Nat.lt_succ_self _)
theorem dX11_week_0 : decode cX11_week 0 = .ok (.iload_n 1, 1) := by decide +kernel
theorem dX11_week_1 : decode cX11_week 1 = .ok (.iconst 1, 1) := by decide +kernel
theorem dX11_week_2 : decode cX11_week 2 = .ok (.bipush 20, 2) := by decide +kernel
theorem dX11_week_4 : decode cX11_week 4 = .ok (.invokestatic 62, 3) := by decide +kernel
theorem dX11_week_7 : decode cX11_week 7 = .ok (.ifCond .eq 18, 3) := by decide +kernel
theorem dX11_week_25 : decode cX11_week 25 = .ok (.bipush (-2), 2) := by decide +kernel
theorem dX11_week_27 : decode cX11_week 27 = .ok (.ireturn, 1) := by decide +kernel
theorem dX11_week_10 : decode cX11_week 10 = .ok (.aload_n 0, 1) := by decide +kernel
theorem dX11_week_11 : decode cX11_week 11 = .ok (.getfield 10, 3) := by decide +kernel
theorem dX11_week_14 : decode cX11_week 14 = .ok (.getfield 85, 3) := by decide +kernel
theorem dX11_week_17 : decode cX11_week 17 = .ok (.iload_n 1, 1) := by decide +kernel
theorem dX11_week_18 : decode cX11_week 18 = .ok (.iadd, 1) := by decide +kernel
theorem dX11_week_19 : decode cX11_week 19 = .ok (.sipush 300, 3) := by decide +kernel
theorem dX11_week_22 : decode cX11_week 22 = .ok (.if_icmp .le 6, 3) := by decide +kernel
theorem dX11_week_28 : decode cX11_week 28 = .ok (.aload_n 0, 1) := by decide +kernel
theorem dX11_week_29 : decode cX11_week 29 = .ok (.invokevirtual 231, 3) := by decide +kernel
theorem kw_4_97 : (Jvm.Cond.methodLink "ParishUnion" (231 : Nat) ({ cls := "ParishUnion", name := "findHomes", desc := "()V" } : Jvm.MethodName)) ∈ gT := gT_of (tb_4 _ (List.mem_of_getElem? (i := 97) rfl)) rfl
theorem kw_4_100 : (Jvm.Cond.code ({ cls := "ParishUnion", name := "findHomes", desc := "()V" } : Jvm.MethodName) prog_1_method_58_code (2 : Nat) (Option.none : Option Jvm.ClassFile.FieldType)) ∈ gT := gT_of (tb_4 _ (List.mem_of_getElem? (i := 100) rfl)) rfl
theorem okX11_findHomes : gQok yX11_findHomes cX11_findHomes 2 (Option.none : Option Jvm.ClassFile.FieldType) 0 := ⟨kw_4_100, kw_1_1, by decide +kernel, by decide +kernel, by decide +kernel⟩
theorem kw_4_99 : (Jvm.Cond.instanceMethod ({ cls := "ParishUnion", name := "findHomes", desc := "()V" } : Jvm.MethodName)) ∈ gT := gT_of (tb_4 _ (List.mem_of_getElem? (i := 99) rfl)) rfl
theorem kw_0_17 : (Jvm.Cond.selects "ParishUnion" ({ cls := "ParishUnion", name := "findHomes", desc := "()V" } : Jvm.MethodName) ({ cls := "ParishUnion", name := "findHomes", desc := "()V" } : Jvm.MethodName)) ∈ gT := gT_of (tb_0 _ (List.mem_of_getElem? (i := 17) rfl)) rfl
theorem dX11_week_32 : decode cX11_week 32 = .ok (.aload_n 0, 1) := by decide +kernel
theorem dX11_week_33 : decode cX11_week 33 = .ok (.getfield 10, 3) := by decide +kernel
theorem dX11_week_36 : decode cX11_week 36 = .ok (.iload_n 1, 1) := by decide +kernel
theorem dX11_week_37 : decode cX11_week 37 = .ok (.invokevirtual 297, 3) := by decide +kernel
theorem kw_4_185 : (Jvm.Cond.methodLink "ParishUnion" (297 : Nat) ({ cls := "ParishUnion$Union", name := "goBy", desc := "(I)V" } : Jvm.MethodName)) ∈ gT := gT_of (tb_4 _ (List.mem_of_getElem? (i := 185) rfl)) rfl
theorem kw_4_188 : (Jvm.Cond.code ({ cls := "ParishUnion$Union", name := "goBy", desc := "(I)V" } : Jvm.MethodName) prog_11_method_12_code (4 : Nat) (Option.none : Option Jvm.ClassFile.FieldType)) ∈ gT := gT_of (tb_4 _ (List.mem_of_getElem? (i := 188) rfl)) rfl
theorem okX9_goBy : gQok yX9_goBy cX9_goBy 4 (Option.none : Option Jvm.ClassFile.FieldType) 1 := ⟨kw_4_188, kw_1_2, by decide +kernel, by decide +kernel, by decide +kernel⟩
theorem kw_4_186 : (Jvm.Cond.instanceMethod ({ cls := "ParishUnion$Union", name := "goBy", desc := "(I)V" } : Jvm.MethodName)) ∈ gT := gT_of (tb_4 _ (List.mem_of_getElem? (i := 186) rfl)) rfl
theorem kw_4_187 : (Jvm.Cond.selects "ParishUnion$Union" ({ cls := "ParishUnion$Union", name := "goBy", desc := "(I)V" } : Jvm.MethodName) ({ cls := "ParishUnion$Union", name := "goBy", desc := "(I)V" } : Jvm.MethodName)) ∈ gT := gT_of (tb_4 _ (List.mem_of_getElem? (i := 187) rfl)) rfl
theorem dX11_week_40 : decode cX11_week 40 = .ok (.aload_n 0, 1) := by decide +kernel
theorem dX11_week_41 : decode cX11_week 41 = .ok (.getfield 10, 3) := by decide +kernel
theorem dX11_week_44 : decode cX11_week 44 = .ok (.getfield 85, 3) := by decide +kernel
theorem dX11_week_47 : decode cX11_week 47 = .ok (.ireturn, 1) := by decide +kernel
set_option maxRecDepth 100000 in
set_option maxHeartbeats 4000000 in
theorem c_X11_week {l : Launch} {n0 : Nat} {D : va_G} {cA : Nat → ClassId} {M : gM} (a : Int) (r_a : -2147483648 ≤ a ∧ a ≤ 2147483647) {sz : Nat} (hsz : 206 ≤ sz) (f_0_0 : M 0 0 = 2) (f_0_1 : M 0 1 = 154) (f_1_12 : M 1 12 = 0) (f_1_11 : M 1 11 = 0) (f_1_15 : M 1 15 = 0) (f_1_10 : M 1 10 = 0) (f_1_13 : M 1 13 = 0) (f_1_7 : M 1 7 = 24) (f_1_6 : M 1 6 = 16) (f_15_1 : M 15 1 = 18) (f_23_0 : M 23 0 = 25) (f_23_1 : M 23 1 = 26) (frost0 : ∀ i : Int, 0 ≤ i → i < 301 → M 17 i = 0) : Met l yX11_week (gWsOf yX11_week cX11_week 2 (Option.some Jvm.ClassFile.FieldType.int)) { frames := 7, cells := 0, slots := 0, locals := 192 } (gPc n0 D cA [gA n0 0, gJ a] M sz) (gQi n0 D cA sz (fun z M1 => (((¬(1 ≤ a ∧ a ≤ 20)) → z = -2) ∧ (¬(¬(1 ≤ a ∧ a ≤ 20)) → (z = a))) ∧ ∀ a : Int, a ≠ 1 → a ≠ 24 → a ≠ 25 → a ≠ 153 → M1 a = M a)) 0 0 (fun q => n0 ≤ q) := by
  refine gMet_of [gA n0 0, gJ a] (by decide) (Nat.le_of_ble_eq_true rfl) ?_
  intro p e s m args below meth cd X hr hm
  have X : gCx p s m args meth cd n0 D cA "ParishUnion" cX11_week 2 := X
  show G p l e ({ frames := 7, cells := 0, slots := 0, locals := 192 } : Room) s m args below meth cd n0 D cA 2 (MQ below (gQi n0 D cA sz (fun z M1 => (((¬(1 ≤ a ∧ a ≤ 20)) → z = -2) ∧ (¬(¬(1 ≤ a ∧ a ≤ 20)) → (z = a))) ∧ ∀ a : Int, a ≠ 1 → a ≠ 24 → a ≠ 25 → a ≠ 153 → M1 a = M a)) args s 0 0 (fun q => n0 ≤ q)) 0 0 M sz 0 [(0, gA n0 0), (1, gJ a)] []
  refine g_iload_n (n := 1) X 1 dX11_week_0 rfl rfl rfl ?_
  refine g_iconst (n := 2) X dX11_week_1 rfl ?_
  refine g_bipush (n := 4) X dX11_week_2 (by decide +kernel) rfl ?_
  refine g_callSi (n := 7) (As := [gJ a, gJ 1, gJ 20]) (rest := []) (cs1 := 0) (ss1 := 0) X (c_X11_within a 1 20 (by omega) (by omega) (by omega) (by omega)) okX11_within kw_3_29 kw_3_30 ⟨rfl, rfl⟩ ⟨Nat.le_of_ble_eq_true rfl, Nat.le_of_ble_eq_true rfl⟩ rfl rfl (Nat.le_of_ble_eq_true rfl) ⟨Nat.le_of_ble_eq_true rfl, Nat.le_of_ble_eq_true rfl⟩ rfl rfl dX11_week_4 rfl (fun z1 M2 P3 => ?_)
  obtain ⟨rfl, P3⟩ := P3
  refine g_if_eq (n := 10) (tgt := 25) X dX11_week_7 (by decide) (by omega) rfl (fun c4 => ?_) (fun c4 => ?_)
  · refine g_bipush (n := 27) X dX11_week_25 (by decide +kernel) rfl ?_
    exact g_ireturn X hr dX11_week_27 (by exact ⟨by omega, fun a h0 h1 h2 h3 => rfl⟩)
  · refine g_aload_n (n := 11) X 0 dX11_week_10 rfl rfl rfl ?_
    refine gg_11_0 (n := 14) (z := 1) X (by omega) (by omega) lay_0 kw_2_231 dX11_week_11 rfl f_0_0 (by omega) ?_
    refine gg_9_15 (n := 17) (z := 0) X (by omega) (by omega) lay_1 kw_2_139 dX11_week_14 rfl f_1_15 ?_
    refine g_iload_n (n := 18) X 1 dX11_week_17 rfl rfl rfl ?_
    refine g_iadd (n := 19) (z := 0 + a) X dX11_week_18 rfl rfl ?_
    refine g_sipush (n := 22) X dX11_week_19 (by decide +kernel) rfl ?_
    refine g_icmp_le (n := 25) (tgt := 28) X dX11_week_22 (by decide) (by omega) (by omega) rfl (fun c5 => ?_) (fun c5 => ?_)
    · refine g_aload_n (n := 29) X 0 dX11_week_28 rfl rfl rfl ?_
      refine g_callVv (n := 32) (As := []) (rest := []) (cs1 := 0) (ss1 := 0) X (c_X11_findHomes (by omega) f_0_0 f_0_1 f_1_12 f_1_13 f_1_11 f_1_10) okX11_findHomes kw_4_97 ⟨kw_4_99, kw_0_17⟩ ⟨rfl, rfl⟩ ⟨Nat.le_of_ble_eq_true rfl, Nat.le_of_ble_eq_true rfl⟩ rfl (by omega) (by omega) lay_0 rfl rfl (Nat.le_of_ble_eq_true rfl) ⟨Nat.le_of_ble_eq_true rfl, Nat.le_of_ble_eq_true rfl⟩ rfl rfl dX11_week_29 rfl (fun M7 P8 => ?_)
      have F9 := P8
      refine g_aload_n (n := 33) X 0 dX11_week_32 rfl rfl rfl ?_
      refine gg_11_0 (n := 36) (z := 1) X (by omega) (by omega) lay_0 kw_2_231 dX11_week_33 rfl ((congrFun (F9 0 (by omega)) _).trans f_0_0) (by omega) ?_
      refine g_iload_n (n := 37) X 1 dX11_week_36 rfl rfl rfl ?_
      refine g_callVv (n := 40) (As := [gJ a]) (rest := []) (cs1 := 0) (ss1 := 0) X (c_X9_goBy a (by omega) (by omega) ((congrFun (F9 1 (by omega)) _).trans f_1_15) ((congrFun (F9 1 (by omega)) _).trans f_1_10) ((congrFun (F9 1 (by omega)) _).trans f_1_13) ((congrFun (F9 1 (by omega)) _).trans f_1_7) ((congrFun (F9 1 (by omega)) _).trans f_1_6) ((congrFun (F9 15 (by omega)) _).trans f_15_1) ((congrFun (F9 23 (by omega)) _).trans f_23_0) ((congrFun (F9 23 (by omega)) _).trans f_23_1) (by omega) (fun i h0 h1 => (congrFun ((F9 17 (by omega)).trans rfl) i).trans (frost0 i h0 h1))) okX9_goBy kw_4_185 ⟨kw_4_186, kw_4_187⟩ ⟨rfl, rfl⟩ ⟨Nat.le_of_ble_eq_true rfl, Nat.le_of_ble_eq_true rfl⟩ rfl (by omega) (by omega) lay_1 rfl rfl (Nat.le_of_ble_eq_true rfl) ⟨Nat.le_of_ble_eq_true rfl, Nat.le_of_ble_eq_true rfl⟩ rfl rfl dX11_week_37 rfl (fun M11 P12 => ?_)
      obtain ⟨g14, F13⟩ := P12
      refine g_aload_n (n := 41) X 0 dX11_week_40 rfl rfl rfl ?_
      refine gg_11_0 (n := 44) (z := 1) X (by omega) (by omega) lay_0 kw_2_231 dX11_week_41 rfl ((congrFun (F13 0 (by omega) (by omega) (by omega)) _).trans ((congrFun (F9 0 (by omega)) _).trans f_0_0)) (by omega) ?_
      refine gg_9_15 (n := 47) (z := a) X (by omega) (by omega) lay_1 kw_2_139 dX11_week_44 rfl g14 ?_
      exact g_ireturn X hr dX11_week_47 (by exact ⟨by omega, fun a h0 h1 h2 h3 => ((F13 a (by omega) (by omega) (by omega)).trans ((F9 a (by omega)).trans rfl))⟩)
    · refine g_bipush (n := 27) X dX11_week_25 (by decide +kernel) rfl ?_
      exact g_ireturn X hr dX11_week_27 (by exact ⟨by omega, fun a h0 h1 h2 h3 => rfl⟩)
end
section
theorem i_vc : Claimed_1_1 ∧ Claimed_1_2 := sorry
end
