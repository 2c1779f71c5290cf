section
-- ===== PART A: goes FIRST, ahead of the names: the tables' words, and 'selects' of the private methods out of them =====
/-- a private method of a class that the tables say can be made, by its rows of tables_1 -/
def lw_okq (q : MethodName × Nat) : Prop := (q.1.cls ≠ "java/lang/invoke/MethodHandle" ∧ q.1.cls ≠ "java/lang/invoke/VarHandle") ∧ Cond.instantiable q.1.cls q.2 ∈ tables_1 ∧ Cond.privateMethod q.1 ∈ tables_1 ∧ Cond.instanceMethod q.1 ∈ tables_1
theorem lw_p0 : lw_okq (⟨"LanternHouse$Reader", "begin", "(LLanternHouse$Lectures;)V"⟩, 11) := ⟨⟨by decide +kernel, by decide +kernel⟩, List.mem_of_getElem? (i := 67) (by decide +kernel), List.mem_of_getElem? (i := 599) (by decide +kernel), List.mem_of_getElem? (i := 600) (by decide +kernel)⟩
theorem lw_p1 : lw_okq (⟨"LanternHouse$Reader", "readLecture", "(I)Z"⟩, 11) := ⟨⟨by decide +kernel, by decide +kernel⟩, List.mem_of_getElem? (i := 67) (by decide +kernel), List.mem_of_getElem? (i := 607) (by decide +kernel), List.mem_of_getElem? (i := 608) (by decide +kernel)⟩
theorem lw_p2 : lw_okq (⟨"LanternHouse$Reader", "take", "(I)Z"⟩, 11) := ⟨⟨by decide +kernel, by decide +kernel⟩, List.mem_of_getElem? (i := 67) (by decide +kernel), List.mem_of_getElem? (i := 611) (by decide +kernel), List.mem_of_getElem? (i := 612) (by decide +kernel)⟩
theorem lw_p3 : lw_okq (⟨"LanternHouse$Reader", "fails", "(I)Z"⟩, 11) := ⟨⟨by decide +kernel, by decide +kernel⟩, List.mem_of_getElem? (i := 67) (by decide +kernel), List.mem_of_getElem? (i := 615) (by decide +kernel), List.mem_of_getElem? (i := 616) (by decide +kernel)⟩
theorem lw_p4 : lw_okq (⟨"LanternHouse$Reader", "note", "(I)V"⟩, 11) := ⟨⟨by decide +kernel, by decide +kernel⟩, List.mem_of_getElem? (i := 67) (by decide +kernel), List.mem_of_getElem? (i := 623) (by decide +kernel), List.mem_of_getElem? (i := 624) (by decide +kernel)⟩
theorem lw_p5 : lw_okq (⟨"LanternHouse$Reader", "readCues", "(I)Z"⟩, 11) := ⟨⟨by decide +kernel, by decide +kernel⟩, List.mem_of_getElem? (i := 67) (by decide +kernel), List.mem_of_getElem? (i := 631) (by decide +kernel), List.mem_of_getElem? (i := 632) (by decide +kernel)⟩
theorem lw_p6 : lw_okq (⟨"LanternHouse$Reader", "readCue", "(II)Z"⟩, 11) := ⟨⟨by decide +kernel, by decide +kernel⟩, List.mem_of_getElem? (i := 67) (by decide +kernel), List.mem_of_getElem? (i := 635) (by decide +kernel), List.mem_of_getElem? (i := 636) (by decide +kernel)⟩
theorem lw_p7 : lw_okq (⟨"LanternHouse$Reader", "readKinds", "(I)Z"⟩, 11) := ⟨⟨by decide +kernel, by decide +kernel⟩, List.mem_of_getElem? (i := 67) (by decide +kernel), List.mem_of_getElem? (i := 639) (by decide +kernel), List.mem_of_getElem? (i := 640) (by decide +kernel)⟩
theorem lw_p8 : lw_okq (⟨"LanternHouse$Reader", "readHires", "(I)Z"⟩, 11) := ⟨⟨by decide +kernel, by decide +kernel⟩, List.mem_of_getElem? (i := 67) (by decide +kernel), List.mem_of_getElem? (i := 653) (by decide +kernel), List.mem_of_getElem? (i := 654) (by decide +kernel)⟩
theorem lw_p9 : lw_okq (⟨"LanternHouse$Reader", "readHire", "()Z"⟩, 11) := ⟨⟨by decide +kernel, by decide +kernel⟩, List.mem_of_getElem? (i := 67) (by decide +kernel), List.mem_of_getElem? (i := 657) (by decide +kernel), List.mem_of_getElem? (i := 658) (by decide +kernel)⟩
theorem lw_p10 : lw_okq (⟨"LanternHouse$Reader", "readSum", "()Z"⟩, 11) := ⟨⟨by decide +kernel, by decide +kernel⟩, List.mem_of_getElem? (i := 67) (by decide +kernel), List.mem_of_getElem? (i := 661) (by decide +kernel), List.mem_of_getElem? (i := 662) (by decide +kernel)⟩
theorem lw_p11 : lw_okq (⟨"LanternHouse$Reader", "hold", "(I)V"⟩, 11) := ⟨⟨by decide +kernel, by decide +kernel⟩, List.mem_of_getElem? (i := 67) (by decide +kernel), List.mem_of_getElem? (i := 665) (by decide +kernel), List.mem_of_getElem? (i := 666) (by decide +kernel)⟩
theorem lw_p12 : lw_okq (⟨"LanternHouse$Reader", "release", "(Z)V"⟩, 11) := ⟨⟨by decide +kernel, by decide +kernel⟩, List.mem_of_getElem? (i := 67) (by decide +kernel), List.mem_of_getElem? (i := 679) (by decide +kernel), List.mem_of_getElem? (i := 680) (by decide +kernel)⟩
theorem lw_p13 : lw_okq (⟨"LanternHouse", "isPlate", "(I)Z"⟩, 13) := ⟨⟨by decide +kernel, by decide +kernel⟩, List.mem_of_getElem? (i := 22) (by decide +kernel), List.mem_of_getElem? (i := 738) (by decide +kernel), List.mem_of_getElem? (i := 739) (by decide +kernel)⟩
theorem lw_p14 : lw_okq (⟨"LanternHouse", "isHour", "(I)Z"⟩, 13) := ⟨⟨by decide +kernel, by decide +kernel⟩, List.mem_of_getElem? (i := 22) (by decide +kernel), List.mem_of_getElem? (i := 742) (by decide +kernel), List.mem_of_getElem? (i := 743) (by decide +kernel)⟩
theorem lw_p15 : lw_okq (⟨"LanternHouse$Shows", "isTaken", "(II)Z"⟩, 8) := ⟨⟨by decide +kernel, by decide +kernel⟩, List.mem_of_getElem? (i := 188) (by decide +kernel), List.mem_of_getElem? (i := 755) (by decide +kernel), List.mem_of_getElem? (i := 756) (by decide +kernel)⟩
def lw_privs_1 : List (MethodName × Nat) := [(⟨"LanternHouse$Reader", "begin", "(LLanternHouse$Lectures;)V"⟩, 11), (⟨"LanternHouse$Reader", "readLecture", "(I)Z"⟩, 11), (⟨"LanternHouse$Reader", "take", "(I)Z"⟩, 11), (⟨"LanternHouse$Reader", "fails", "(I)Z"⟩, 11), (⟨"LanternHouse$Reader", "note", "(I)V"⟩, 11), (⟨"LanternHouse$Reader", "readCues", "(I)Z"⟩, 11), (⟨"LanternHouse$Reader", "readCue", "(II)Z"⟩, 11), (⟨"LanternHouse$Reader", "readKinds", "(I)Z"⟩, 11), (⟨"LanternHouse$Reader", "readHires", "(I)Z"⟩, 11), (⟨"LanternHouse$Reader", "readHire", "()Z"⟩, 11), (⟨"LanternHouse$Reader", "readSum", "()Z"⟩, 11), (⟨"LanternHouse$Reader", "hold", "(I)V"⟩, 11), (⟨"LanternHouse$Reader", "release", "(Z)V"⟩, 11), (⟨"LanternHouse", "isPlate", "(I)Z"⟩, 13), (⟨"LanternHouse", "isHour", "(I)Z"⟩, 13), (⟨"LanternHouse$Shows", "isTaken", "(II)Z"⟩, 8)]
theorem lw_r1 : ∀ q ∈ lw_privs_1, lw_okq q := List.forall_mem_cons.mpr ⟨lw_p0, List.forall_mem_cons.mpr ⟨lw_p1, List.forall_mem_cons.mpr ⟨lw_p2, List.forall_mem_cons.mpr ⟨lw_p3, List.forall_mem_cons.mpr ⟨lw_p4, List.forall_mem_cons.mpr ⟨lw_p5, List.forall_mem_cons.mpr ⟨lw_p6, List.forall_mem_cons.mpr ⟨lw_p7, List.forall_mem_cons.mpr ⟨lw_p8, List.forall_mem_cons.mpr ⟨lw_p9, List.forall_mem_cons.mpr ⟨lw_p10, List.forall_mem_cons.mpr ⟨lw_p11, List.forall_mem_cons.mpr ⟨lw_p12, List.forall_mem_cons.mpr ⟨lw_p13, List.forall_mem_cons.mpr ⟨lw_p14, List.forall_mem_cons.mpr ⟨lw_p15, fun _ h => absurd h List.not_mem_nil⟩⟩⟩⟩⟩⟩⟩⟩⟩⟩⟩⟩⟩⟩⟩⟩
theorem lw_p16 : lw_okq (⟨"LanternHouse$Shows", "putInOrder", "(I)V"⟩, 8) := ⟨⟨by decide +kernel, by decide +kernel⟩, List.mem_of_getElem? (i := 188) (by decide +kernel), List.mem_of_getElem? (i := 759) (by decide +kernel), List.mem_of_getElem? (i := 760) (by decide +kernel)⟩
theorem lw_p17 : lw_okq (⟨"LanternHouse$Rails", "arrival", "(III)I"⟩, 8) := ⟨⟨by decide +kernel, by decide +kernel⟩, List.mem_of_getElem? (i := 109) (by decide +kernel), List.mem_of_getElem? (i := 789) (by decide +kernel), List.mem_of_getElem? (i := 790) (by decide +kernel)⟩
theorem lw_p18 : lw_okq (⟨"LanternHouse$Keeper", "keepShow", "(ILLanternHouse$Plan;)Z"⟩, 8) := ⟨⟨by decide +kernel, by decide +kernel⟩, List.mem_of_getElem? (i := 306) (by decide +kernel), List.mem_of_getElem? (i := 842) (by decide +kernel), List.mem_of_getElem? (i := 843) (by decide +kernel)⟩
theorem lw_p19 : lw_okq (⟨"LanternHouse$Keeper", "platesThatCome", "(I)I"⟩, 8) := ⟨⟨by decide +kernel, by decide +kernel⟩, List.mem_of_getElem? (i := 306) (by decide +kernel), List.mem_of_getElem? (i := 846) (by decide +kernel), List.mem_of_getElem? (i := 847) (by decide +kernel)⟩
theorem lw_p20 : lw_okq (⟨"LanternHouse$Keeper", "firstChoice", "(II)I"⟩, 8) := ⟨⟨by decide +kernel, by decide +kernel⟩, List.mem_of_getElem? (i := 306) (by decide +kernel), List.mem_of_getElem? (i := 854) (by decide +kernel), List.mem_of_getElem? (i := 855) (by decide +kernel)⟩
theorem lw_p21 : lw_okq (⟨"LanternHouse$Keeper", "wayEnd", "(II)I"⟩, 8) := ⟨⟨by decide +kernel, by decide +kernel⟩, List.mem_of_getElem? (i := 306) (by decide +kernel), List.mem_of_getElem? (i := 874) (by decide +kernel), List.mem_of_getElem? (i := 875) (by decide +kernel)⟩
theorem lw_p22 : lw_okq (⟨"LanternHouse", "settle", "(II)V"⟩, 13) := ⟨⟨by decide +kernel, by decide +kernel⟩, List.mem_of_getElem? (i := 22) (by decide +kernel), List.mem_of_getElem? (i := 886) (by decide +kernel), List.mem_of_getElem? (i := 887) (by decide +kernel)⟩
theorem lw_p23 : lw_okq (⟨"LanternHouse", "isKept", "(I)Z"⟩, 13) := ⟨⟨by decide +kernel, by decide +kernel⟩, List.mem_of_getElem? (i := 22) (by decide +kernel), List.mem_of_getElem? (i := 911) (by decide +kernel), List.mem_of_getElem? (i := 912) (by decide +kernel)⟩
theorem lw_p24 : lw_okq (⟨"LanternHouse$Showing", "begin", "(I)V"⟩, 12) := ⟨⟨by decide +kernel, by decide +kernel⟩, List.mem_of_getElem? (i := 340) (by decide +kernel), List.mem_of_getElem? (i := 926) (by decide +kernel), List.mem_of_getElem? (i := 927) (by decide +kernel)⟩
theorem lw_p25 : lw_okq (⟨"LanternHouse$Showing", "findHire", "(LLanternHouse$Lectures;I)V"⟩, 12) := ⟨⟨by decide +kernel, by decide +kernel⟩, List.mem_of_getElem? (i := 340) (by decide +kernel), List.mem_of_getElem? (i := 932) (by decide +kernel), List.mem_of_getElem? (i := 933) (by decide +kernel)⟩
theorem lw_p26 : lw_okq (⟨"LanternHouse$Showing", "holds", "([III)Z"⟩, 12) := ⟨⟨by decide +kernel, by decide +kernel⟩, List.mem_of_getElem? (i := 340) (by decide +kernel), List.mem_of_getElem? (i := 936) (by decide +kernel), List.mem_of_getElem? (i := 937) (by decide +kernel)⟩
theorem lw_p27 : lw_okq (⟨"LanternHouse$Showing", "variable", "(I)I"⟩, 12) := ⟨⟨by decide +kernel, by decide +kernel⟩, List.mem_of_getElem? (i := 340) (by decide +kernel), List.mem_of_getElem? (i := 941) (by decide +kernel), List.mem_of_getElem? (i := 942) (by decide +kernel)⟩
theorem lw_p28 : lw_okq (⟨"LanternHouse$Plan", "slotWith", "(IILLanternHouse$Shows;)I"⟩, 8) := ⟨⟨by decide +kernel, by decide +kernel⟩, List.mem_of_getElem? (i := 393) (by decide +kernel), List.mem_of_getElem? (i := 979) (by decide +kernel), List.mem_of_getElem? (i := 980) (by decide +kernel)⟩
theorem lw_p29 : lw_okq (⟨"LanternHouseModel", "put", "(I)V"⟩, 87) := ⟨⟨by decide +kernel, by decide +kernel⟩, List.mem_of_getElem? (i := 1003) (by decide +kernel), List.mem_of_getElem? (i := 1281) (by decide +kernel), List.mem_of_getElem? (i := 1282) (by decide +kernel)⟩
theorem lw_p30 : lw_okq (⟨"LanternHouseModel", "cut", "()V"⟩, 87) := ⟨⟨by decide +kernel, by decide +kernel⟩, List.mem_of_getElem? (i := 1003) (by decide +kernel), List.mem_of_getElem? (i := 1293) (by decide +kernel), List.mem_of_getElem? (i := 1294) (by decide +kernel)⟩
theorem lw_p31 : lw_okq (⟨"LanternHouseModel", "at", "(I)I"⟩, 87) := ⟨⟨by decide +kernel, by decide +kernel⟩, List.mem_of_getElem? (i := 1003) (by decide +kernel), List.mem_of_getElem? (i := 1297) (by decide +kernel), List.mem_of_getElem? (i := 1298) (by decide +kernel)⟩
def lw_privs_2 : List (MethodName × Nat) := [(⟨"LanternHouse$Shows", "putInOrder", "(I)V"⟩, 8), (⟨"LanternHouse$Rails", "arrival", "(III)I"⟩, 8), (⟨"LanternHouse$Keeper", "keepShow", "(ILLanternHouse$Plan;)Z"⟩, 8), (⟨"LanternHouse$Keeper", "platesThatCome", "(I)I"⟩, 8), (⟨"LanternHouse$Keeper", "firstChoice", "(II)I"⟩, 8), (⟨"LanternHouse$Keeper", "wayEnd", "(II)I"⟩, 8), (⟨"LanternHouse", "settle", "(II)V"⟩, 13), (⟨"LanternHouse", "isKept", "(I)Z"⟩, 13), (⟨"LanternHouse$Showing", "begin", "(I)V"⟩, 12), (⟨"LanternHouse$Showing", "findHire", "(LLanternHouse$Lectures;I)V"⟩, 12), (⟨"LanternHouse$Showing", "holds", "([III)Z"⟩, 12), (⟨"LanternHouse$Showing", "variable", "(I)I"⟩, 12), (⟨"LanternHouse$Plan", "slotWith", "(IILLanternHouse$Shows;)I"⟩, 8), (⟨"LanternHouseModel", "put", "(I)V"⟩, 87), (⟨"LanternHouseModel", "cut", "()V"⟩, 87), (⟨"LanternHouseModel", "at", "(I)I"⟩, 87)]
theorem lw_r2 : ∀ q ∈ lw_privs_2, lw_okq q := List.forall_mem_cons.mpr ⟨lw_p16, List.forall_mem_cons.mpr ⟨lw_p17, List.forall_mem_cons.mpr ⟨lw_p18, List.forall_mem_cons.mpr ⟨lw_p19, List.forall_mem_cons.mpr ⟨lw_p20, List.forall_mem_cons.mpr ⟨lw_p21, List.forall_mem_cons.mpr ⟨lw_p22, List.forall_mem_cons.mpr ⟨lw_p23, List.forall_mem_cons.mpr ⟨lw_p24, List.forall_mem_cons.mpr ⟨lw_p25, List.forall_mem_cons.mpr ⟨lw_p26, List.forall_mem_cons.mpr ⟨lw_p27, List.forall_mem_cons.mpr ⟨lw_p28, List.forall_mem_cons.mpr ⟨lw_p29, List.forall_mem_cons.mpr ⟨lw_p30, List.forall_mem_cons.mpr ⟨lw_p31, fun _ h => absurd h List.not_mem_nil⟩⟩⟩⟩⟩⟩⟩⟩⟩⟩⟩⟩⟩⟩⟩⟩
theorem lw_p32 : lw_okq (⟨"LanternHouseModel", "token", "(IIIJ)V"⟩, 87) := ⟨⟨by decide +kernel, by decide +kernel⟩, List.mem_of_getElem? (i := 1003) (by decide +kernel), List.mem_of_getElem? (i := 1301) (by decide +kernel), List.mem_of_getElem? (i := 1302) (by decide +kernel)⟩
theorem lw_p33 : lw_okq (⟨"LanternHouseModel", "sign", "(III)I"⟩, 87) := ⟨⟨by decide +kernel, by decide +kernel⟩, List.mem_of_getElem? (i := 1003) (by decide +kernel), List.mem_of_getElem? (i := 1311) (by decide +kernel), List.mem_of_getElem? (i := 1312) (by decide +kernel)⟩
theorem lw_p34 : lw_okq (⟨"LanternHouseModel", "is", "(I)Z"⟩, 87) := ⟨⟨by decide +kernel, by decide +kernel⟩, List.mem_of_getElem? (i := 1003) (by decide +kernel), List.mem_of_getElem? (i := 1315) (by decide +kernel), List.mem_of_getElem? (i := 1316) (by decide +kernel)⟩
theorem lw_p35 : lw_okq (⟨"LanternHouseModel", "tellLecture", "()V"⟩, 87) := ⟨⟨by decide +kernel, by decide +kernel⟩, List.mem_of_getElem? (i := 1003) (by decide +kernel), List.mem_of_getElem? (i := 1319) (by decide +kernel), List.mem_of_getElem? (i := 1320) (by decide +kernel)⟩
theorem lw_p36 : lw_okq (⟨"LanternHouseModel", "fail", "(I)V"⟩, 87) := ⟨⟨by decide +kernel, by decide +kernel⟩, List.mem_of_getElem? (i := 1003) (by decide +kernel), List.mem_of_getElem? (i := 1323) (by decide +kernel), List.mem_of_getElem? (i := 1324) (by decide +kernel)⟩
theorem lw_p37 : lw_okq (⟨"LanternHouseModel", "must", "(I)V"⟩, 87) := ⟨⟨by decide +kernel, by decide +kernel⟩, List.mem_of_getElem? (i := 1003) (by decide +kernel), List.mem_of_getElem? (i := 1327) (by decide +kernel), List.mem_of_getElem? (i := 1328) (by decide +kernel)⟩
theorem lw_p38 : lw_okq (⟨"LanternHouseModel", "next", "()V"⟩, 87) := ⟨⟨by decide +kernel, by decide +kernel⟩, List.mem_of_getElem? (i := 1003) (by decide +kernel), List.mem_of_getElem? (i := 1331) (by decide +kernel), List.mem_of_getElem? (i := 1332) (by decide +kernel)⟩
theorem lw_p39 : lw_okq (⟨"LanternHouseModel", "wrong", "(II)V"⟩, 87) := ⟨⟨by decide +kernel, by decide +kernel⟩, List.mem_of_getElem? (i := 1003) (by decide +kernel), List.mem_of_getElem? (i := 1335) (by decide +kernel), List.mem_of_getElem? (i := 1336) (by decide +kernel)⟩
theorem lw_p40 : lw_okq (⟨"LanternHouseModel", "tellCue", "(I)V"⟩, 87) := ⟨⟨by decide +kernel, by decide +kernel⟩, List.mem_of_getElem? (i := 1003) (by decide +kernel), List.mem_of_getElem? (i := 1339) (by decide +kernel), List.mem_of_getElem? (i := 1340) (by decide +kernel)⟩
theorem lw_p41 : lw_okq (⟨"LanternHouseModel", "tellHire", "(I)V"⟩, 87) := ⟨⟨by decide +kernel, by decide +kernel⟩, List.mem_of_getElem? (i := 1003) (by decide +kernel), List.mem_of_getElem? (i := 1343) (by decide +kernel), List.mem_of_getElem? (i := 1344) (by decide +kernel)⟩
theorem lw_p42 : lw_okq (⟨"LanternHouseModel", "expression", "()V"⟩, 87) := ⟨⟨by decide +kernel, by decide +kernel⟩, List.mem_of_getElem? (i := 1003) (by decide +kernel), List.mem_of_getElem? (i := 1347) (by decide +kernel), List.mem_of_getElem? (i := 1348) (by decide +kernel)⟩
theorem lw_p43 : lw_okq (⟨"LanternHouseModel", "emit", "(II)V"⟩, 87) := ⟨⟨by decide +kernel, by decide +kernel⟩, List.mem_of_getElem? (i := 1003) (by decide +kernel), List.mem_of_getElem? (i := 1351) (by decide +kernel), List.mem_of_getElem? (i := 1352) (by decide +kernel)⟩
theorem lw_p44 : lw_okq (⟨"LanternHouseModel", "comesOut", "(Z)V"⟩, 87) := ⟨⟨by decide +kernel, by decide +kernel⟩, List.mem_of_getElem? (i := 1003) (by decide +kernel), List.mem_of_getElem? (i := 1355) (by decide +kernel), List.mem_of_getElem? (i := 1356) (by decide +kernel)⟩
theorem lw_p45 : lw_okq (⟨"LanternHouseModel", "relation", "()V"⟩, 87) := ⟨⟨by decide +kernel, by decide +kernel⟩, List.mem_of_getElem? (i := 1003) (by decide +kernel), List.mem_of_getElem? (i := 1359) (by decide +kernel), List.mem_of_getElem? (i := 1360) (by decide +kernel)⟩
theorem lw_p46 : lw_okq (⟨"LanternHouseModel", "isHall", "(I)Z"⟩, 87) := ⟨⟨by decide +kernel, by decide +kernel⟩, List.mem_of_getElem? (i := 1003) (by decide +kernel), List.mem_of_getElem? (i := 1375) (by decide +kernel), List.mem_of_getElem? (i := 1376) (by decide +kernel)⟩
theorem lw_p47 : lw_okq (⟨"LanternHouseModel", "fact", "(III)I"⟩, 87) := ⟨⟨by decide +kernel, by decide +kernel⟩, List.mem_of_getElem? (i := 1003) (by decide +kernel), List.mem_of_getElem? (i := 1391) (by decide +kernel), List.mem_of_getElem? (i := 1392) (by decide +kernel)⟩
def lw_privs_3 : List (MethodName × Nat) := [(⟨"LanternHouseModel", "token", "(IIIJ)V"⟩, 87), (⟨"LanternHouseModel", "sign", "(III)I"⟩, 87), (⟨"LanternHouseModel", "is", "(I)Z"⟩, 87), (⟨"LanternHouseModel", "tellLecture", "()V"⟩, 87), (⟨"LanternHouseModel", "fail", "(I)V"⟩, 87), (⟨"LanternHouseModel", "must", "(I)V"⟩, 87), (⟨"LanternHouseModel", "next", "()V"⟩, 87), (⟨"LanternHouseModel", "wrong", "(II)V"⟩, 87), (⟨"LanternHouseModel", "tellCue", "(I)V"⟩, 87), (⟨"LanternHouseModel", "tellHire", "(I)V"⟩, 87), (⟨"LanternHouseModel", "expression", "()V"⟩, 87), (⟨"LanternHouseModel", "emit", "(II)V"⟩, 87), (⟨"LanternHouseModel", "comesOut", "(Z)V"⟩, 87), (⟨"LanternHouseModel", "relation", "()V"⟩, 87), (⟨"LanternHouseModel", "isHall", "(I)Z"⟩, 87), (⟨"LanternHouseModel", "fact", "(III)I"⟩, 87)]
theorem lw_r3 : ∀ q ∈ lw_privs_3, lw_okq q := List.forall_mem_cons.mpr ⟨lw_p32, List.forall_mem_cons.mpr ⟨lw_p33, List.forall_mem_cons.mpr ⟨lw_p34, List.forall_mem_cons.mpr ⟨lw_p35, List.forall_mem_cons.mpr ⟨lw_p36, List.forall_mem_cons.mpr ⟨lw_p37, List.forall_mem_cons.mpr ⟨lw_p38, List.forall_mem_cons.mpr ⟨lw_p39, List.forall_mem_cons.mpr ⟨lw_p40, List.forall_mem_cons.mpr ⟨lw_p41, List.forall_mem_cons.mpr ⟨lw_p42, List.forall_mem_cons.mpr ⟨lw_p43, List.forall_mem_cons.mpr ⟨lw_p44, List.forall_mem_cons.mpr ⟨lw_p45, List.forall_mem_cons.mpr ⟨lw_p46, List.forall_mem_cons.mpr ⟨lw_p47, fun _ h => absurd h List.not_mem_nil⟩⟩⟩⟩⟩⟩⟩⟩⟩⟩⟩⟩⟩⟩⟩⟩
theorem lw_p48 : lw_okq (⟨"LanternHouseModel", "isPlate", "(I)Z"⟩, 87) := ⟨⟨by decide +kernel, by decide +kernel⟩, List.mem_of_getElem? (i := 1003) (by decide +kernel), List.mem_of_getElem? (i := 1399) (by decide +kernel), List.mem_of_getElem? (i := 1400) (by decide +kernel)⟩
theorem lw_p49 : lw_okq (⟨"LanternHouseModel", "isKnown", "(I)Z"⟩, 87) := ⟨⟨by decide +kernel, by decide +kernel⟩, List.mem_of_getElem? (i := 1003) (by decide +kernel), List.mem_of_getElem? (i := 1410) (by decide +kernel), List.mem_of_getElem? (i := 1411) (by decide +kernel)⟩
theorem lw_p50 : lw_okq (⟨"LanternHouseModel", "isBroken", "(III)Z"⟩, 87) := ⟨⟨by decide +kernel, by decide +kernel⟩, List.mem_of_getElem? (i := 1003) (by decide +kernel), List.mem_of_getElem? (i := 1414) (by decide +kernel), List.mem_of_getElem? (i := 1415) (by decide +kernel)⟩
theorem lw_p51 : lw_okq (⟨"LanternHouseModel", "knows", "(I)V"⟩, 87) := ⟨⟨by decide +kernel, by decide +kernel⟩, List.mem_of_getElem? (i := 1003) (by decide +kernel), List.mem_of_getElem? (i := 1422) (by decide +kernel), List.mem_of_getElem? (i := 1423) (by decide +kernel)⟩
theorem lw_p52 : lw_okq (⟨"LanternHouseModel", "wayTo", "(III)I"⟩, 87) := ⟨⟨by decide +kernel, by decide +kernel⟩, List.mem_of_getElem? (i := 1003) (by decide +kernel), List.mem_of_getElem? (i := 1426) (by decide +kernel), List.mem_of_getElem? (i := 1427) (by decide +kernel)⟩
theorem lw_p53 : lw_okq (⟨"LanternHouseModel", "comesBy", "(III)I"⟩, 87) := ⟨⟨by decide +kernel, by decide +kernel⟩, List.mem_of_getElem? (i := 1003) (by decide +kernel), List.mem_of_getElem? (i := 1431) (by decide +kernel), List.mem_of_getElem? (i := 1432) (by decide +kernel)⟩
theorem lw_p54 : lw_okq (⟨"LanternHouseModel", "keeps", "(II)Z"⟩, 87) := ⟨⟨by decide +kernel, by decide +kernel⟩, List.mem_of_getElem? (i := 1003) (by decide +kernel), List.mem_of_getElem? (i := 1443) (by decide +kernel), List.mem_of_getElem? (i := 1444) (by decide +kernel)⟩
theorem lw_p55 : lw_okq (⟨"LanternHouseModel", "keepsShow", "(II)Z"⟩, 87) := ⟨⟨by decide +kernel, by decide +kernel⟩, List.mem_of_getElem? (i := 1003) (by decide +kernel), List.mem_of_getElem? (i := 1447) (by decide +kernel), List.mem_of_getElem? (i := 1448) (by decide +kernel)⟩
theorem lw_p56 : lw_okq (⟨"LanternHouseModel", "takes", "(IIIII)V"⟩, 87) := ⟨⟨by decide +kernel, by decide +kernel⟩, List.mem_of_getElem? (i := 1003) (by decide +kernel), List.mem_of_getElem? (i := 1451) (by decide +kernel), List.mem_of_getElem? (i := 1452) (by decide +kernel)⟩
theorem lw_p57 : lw_okq (⟨"LanternHouseModel", "worthOf", "(I)I"⟩, 87) := ⟨⟨by decide +kernel, by decide +kernel⟩, List.mem_of_getElem? (i := 1003) (by decide +kernel), List.mem_of_getElem? (i := 1455) (by decide +kernel), List.mem_of_getElem? (i := 1456) (by decide +kernel)⟩
theorem lw_p58 : lw_okq (⟨"LanternHouseModel", "makes", "(IZ)V"⟩, 87) := ⟨⟨by decide +kernel, by decide +kernel⟩, List.mem_of_getElem? (i := 1003) (by decide +kernel), List.mem_of_getElem? (i := 1463) (by decide +kernel), List.mem_of_getElem? (i := 1464) (by decide +kernel)⟩
theorem lw_p59 : lw_okq (⟨"LanternHouseModel", "isAhead", "(IIIIZ)Z"⟩, 87) := ⟨⟨by decide +kernel, by decide +kernel⟩, List.mem_of_getElem? (i := 1003) (by decide +kernel), List.mem_of_getElem? (i := 1467) (by decide +kernel), List.mem_of_getElem? (i := 1468) (by decide +kernel)⟩
theorem lw_p60 : lw_okq (⟨"LanternHouseModel", "isKept", "(I)Z"⟩, 87) := ⟨⟨by decide +kernel, by decide +kernel⟩, List.mem_of_getElem? (i := 1003) (by decide +kernel), List.mem_of_getElem? (i := 1482) (by decide +kernel), List.mem_of_getElem? (i := 1483) (by decide +kernel)⟩
theorem lw_p61 : lw_okq (⟨"LanternHouseModel", "goesThrough", "(I)V"⟩, 87) := ⟨⟨by decide +kernel, by decide +kernel⟩, List.mem_of_getElem? (i := 1003) (by decide +kernel), List.mem_of_getElem? (i := 1490) (by decide +kernel), List.mem_of_getElem? (i := 1491) (by decide +kernel)⟩
theorem lw_p62 : lw_okq (⟨"LanternHouseModel", "hireOf", "(I)I"⟩, 87) := ⟨⟨by decide +kernel, by decide +kernel⟩, List.mem_of_getElem? (i := 1003) (by decide +kernel), List.mem_of_getElem? (i := 1498) (by decide +kernel), List.mem_of_getElem? (i := 1499) (by decide +kernel)⟩
theorem lw_p63 : lw_okq (⟨"LanternHouseModel", "holds", "(I)Z"⟩, 87) := ⟨⟨by decide +kernel, by decide +kernel⟩, List.mem_of_getElem? (i := 1003) (by decide +kernel), List.mem_of_getElem? (i := 1502) (by decide +kernel), List.mem_of_getElem? (i := 1503) (by decide +kernel)⟩
def lw_privs_4 : List (MethodName × Nat) := [(⟨"LanternHouseModel", "isPlate", "(I)Z"⟩, 87), (⟨"LanternHouseModel", "isKnown", "(I)Z"⟩, 87), (⟨"LanternHouseModel", "isBroken", "(III)Z"⟩, 87), (⟨"LanternHouseModel", "knows", "(I)V"⟩, 87), (⟨"LanternHouseModel", "wayTo", "(III)I"⟩, 87), (⟨"LanternHouseModel", "comesBy", "(III)I"⟩, 87), (⟨"LanternHouseModel", "keeps", "(II)Z"⟩, 87), (⟨"LanternHouseModel", "keepsShow", "(II)Z"⟩, 87), (⟨"LanternHouseModel", "takes", "(IIIII)V"⟩, 87), (⟨"LanternHouseModel", "worthOf", "(I)I"⟩, 87), (⟨"LanternHouseModel", "makes", "(IZ)V"⟩, 87), (⟨"LanternHouseModel", "isAhead", "(IIIIZ)Z"⟩, 87), (⟨"LanternHouseModel", "isKept", "(I)Z"⟩, 87), (⟨"LanternHouseModel", "goesThrough", "(I)V"⟩, 87), (⟨"LanternHouseModel", "hireOf", "(I)I"⟩, 87), (⟨"LanternHouseModel", "holds", "(I)Z"⟩, 87)]
theorem lw_r4 : ∀ q ∈ lw_privs_4, lw_okq q := List.forall_mem_cons.mpr ⟨lw_p48, List.forall_mem_cons.mpr ⟨lw_p49, List.forall_mem_cons.mpr ⟨lw_p50, List.forall_mem_cons.mpr ⟨lw_p51, List.forall_mem_cons.mpr ⟨lw_p52, List.forall_mem_cons.mpr ⟨lw_p53, List.forall_mem_cons.mpr ⟨lw_p54, List.forall_mem_cons.mpr ⟨lw_p55, List.forall_mem_cons.mpr ⟨lw_p56, List.forall_mem_cons.mpr ⟨lw_p57, List.forall_mem_cons.mpr ⟨lw_p58, List.forall_mem_cons.mpr ⟨lw_p59, List.forall_mem_cons.mpr ⟨lw_p60, List.forall_mem_cons.mpr ⟨lw_p61, List.forall_mem_cons.mpr ⟨lw_p62, List.forall_mem_cons.mpr ⟨lw_p63, fun _ h => absurd h List.not_mem_nil⟩⟩⟩⟩⟩⟩⟩⟩⟩⟩⟩⟩⟩⟩⟩⟩
theorem lw_p64 : lw_okq (⟨"LanternHouseModel", "value", "(II)I"⟩, 87) := ⟨⟨by decide +kernel, by decide +kernel⟩, List.mem_of_getElem? (i := 1003) (by decide +kernel), List.mem_of_getElem? (i := 1506) (by decide +kernel), List.mem_of_getElem? (i := 1507) (by decide +kernel)⟩
theorem lw_p65 : lw_okq (⟨"LanternHouseModel", "cueOf", "(II)I"⟩, 87) := ⟨⟨by decide +kernel, by decide +kernel⟩, List.mem_of_getElem? (i := 1003) (by decide +kernel), List.mem_of_getElem? (i := 1514) (by decide +kernel), List.mem_of_getElem? (i := 1515) (by decide +kernel)⟩
def lw_privs_5 : List (MethodName × Nat) := [(⟨"LanternHouseModel", "value", "(II)I"⟩, 87), (⟨"LanternHouseModel", "cueOf", "(II)I"⟩, 87)]
theorem lw_r5 : ∀ q ∈ lw_privs_5, lw_okq q := List.forall_mem_cons.mpr ⟨lw_p64, List.forall_mem_cons.mpr ⟨lw_p65, fun _ h => absurd h List.not_mem_nil⟩⟩
def lw_privs : List (MethodName × Nat) := lw_privs_1 ++ (lw_privs_2 ++ (lw_privs_3 ++ (lw_privs_4 ++ (lw_privs_5))))
def lw_tbl : List Cond := k2_sels lw_privs ++ tables_1
theorem lw_privs_ok : ∀ q ∈ lw_privs, lw_okq q := by
  show ∀ q ∈ lw_privs_1 ++ (lw_privs_2 ++ (lw_privs_3 ++ (lw_privs_4 ++ (lw_privs_5)))), lw_okq q
  exact List.forall_mem_append.mpr ⟨lw_r1, List.forall_mem_append.mpr ⟨lw_r2, List.forall_mem_append.mpr ⟨lw_r3, List.forall_mem_append.mpr ⟨lw_r4, lw_r5⟩⟩⟩⟩
end
section
/-! ===== BEGIN words of one list among another's, by their places ===== -/
theorem goodIn_r {big : List Cond} (ws : List Cond) (ps : List Nat) (hp : ws = ps.filterMap (fun i => big[i]?)) (h : ws.all goodWord = true) : GoodIn big ws := by
  intro w hw
  have h1 := List.all_eq_true.mp h w hw
  rw [hp] at hw
  obtain ⟨i, -, hi⟩ := List.mem_filterMap.mp hw
  have hm : w ∈ big := by first | exact List.mem_of_getElem? hi | exact List.getElem?_mem hi
  exact ⟨hm, good_of_word h1⟩
theorem goodIn_app {big a b : List Cond} (ha : GoodIn big a) (hb : GoodIn big b) : GoodIn big (a ++ b) := fun w h => (List.mem_append.mp h).elim (ha w) (hb w)
theorem goodIn_ca {big a b : List Cond} {c : Cond} (ha : GoodIn big (c :: a)) (hb : GoodIn big b) : GoodIn big (c :: (a ++ b)) := fun w h => (List.mem_cons.mp h).elim (fun e => ha w (List.mem_cons.mpr (Or.inl e))) (fun h => (List.mem_append.mp h).elim (fun h => ha w (List.mem_cons.mpr (Or.inr h))) (hb w))
theorem goodIn_sub {big ws : List Cond} (hm : ∀ w ∈ ws, w ∈ big) (h : ws.all goodWord = true) : GoodIn big ws := fun w hw => ⟨hm w hw, good_of_word (List.all_eq_true.mp h w hw)⟩
/-! ===== END ===== -/

/-! ===== BEGIN new T[n][m]: the outer array a place, the inner ones among the pooled ===== -/
/-- f, but v at every address of l -/
def vr_up {α : Type} (f : Nat → α) (l : List Nat) (v : α) : Nat → α := fun a => if a ∈ l then v else f a
theorem vr_up_in {α : Type} {f : Nat → α} {l : List Nat} {v : α} {a : Nat} (h : a ∈ l) : vr_up f l v a = v := if_pos h
theorem vr_up_ne {α : Type} {f : Nat → α} {l : List Nat} {v : α} {a : Nat} (h : a ∉ l) : vr_up f l v a = f a := if_neg h
theorem vr_rows {L l : List Nat} {f : Nat → va_E} {e : va_E} (h : ∀ a, a ∈ l → a ∉ L) : va_pl L f ++ l.map (fun a => (a, e)) = va_pl (L ++ l) (vr_up f l e) := by
  unfold va_pl
  rw [List.map_append]
  congr 1
  · apply List.map_congr_left
    intro a ha
    rw [vr_up_ne (fun q => h a q ha)]
  · apply List.map_congr_left
    intro a ha
    rw [vr_up_in ha]
theorem vr_lay {X rows : va_W} {x : Nat × va_E} {pl : va_W} {D : va_G} {cl : List vw_C} {H : Heap} (hP : va_P D cl (((X ++ pl) ++ [x]) ++ rows) H) : va_P D cl ((X ++ [x]) ++ (pl ++ rows)) H := by
  rw [List.append_assoc (X ++ pl)] at hP
  have h := va_P.swap hP
  rw [← List.append_assoc X] at h
  have h2 := va_P.swap h
  rw [List.append_assoc (X ++ [x])] at h2
  exact h2
theorem vr_layD {X rows : va_W} {x : Nat × va_E} {pl : va_W} {A : Nat → Prop} (hD : va_D A (((X ++ pl) ++ [x]) ++ rows)) : va_D A ((X ++ [x]) ++ (pl ++ rows)) := by
  rw [List.append_assoc (X ++ pl)] at hD
  have h := va_D.swap hD
  rw [← List.append_assoc X] at h
  have h2 := va_D.swap h
  rw [List.append_assoc (X ++ [x])] at h2
  exact h2
theorem vr_outer (c : ClassId) (N h0 : Nat) : ∀ i : Nat, Jvm.Free.Multi.outerC c N h0 i = arrV c N (fun j => va_rf (if j < i then some (h0 + 1 + j) else none))
  | 0 => by
    show ({ cls := c, slots := Array.replicate N .null, vm := .none } : Cell) = _
    rw [arrV_new]
    refine congrArg (arrV c N) (funext fun j => ?_)
    simp [va_rf]
  | i + 1 => by
    show (Jvm.Free.Multi.outerC c N h0 i).setSlot i (.ref (h0 + 1 + i)) = _
    rw [vr_outer c N h0 i, arrV_store]
    refine congrArg (arrV c N) (funext fun j => ?_)
    by_cases e : j = i
    · subst e
      simp [updV, va_rf]
    · by_cases h : j < i
      · simp [updV, e, h, Nat.lt_succ_of_lt h]
      · simp [updV, e, h, show ¬ j < i + 1 by omega]
section VGM
variable {p : Program} {l : Launch} {e : Env} {R : Room} {s : State} {m : MethodId} {args : Array Value} {below : List Frame} {meth : Method} {c : Code} {H : Heap} {locs : List Loc} {cells slots : Nat} {Q : State → Prop}
variable {cc : ByteArray} {pc : Nat} {ls : Array Slot} {rest : List Value} {D : va_G} {cl : List vw_C} {A : Nat → Prop} {a : Nat} {tys : List (ClassId × FieldType)} {ws : va_W} {H0 : Heap}
theorem va_mna {X : va_W} {L : List Nat} {f : Nat → va_E} {cc : ByteArray} (hexec : p.tables.exec = Jvm.exec) (hb : c.code = cc) {own : String} {index : Nat} {ty : FieldType} {cy : ClassId} (hown : s.vm.findClass own = some m.cls) (hclink : (Cond.classLink own index ("[" ++ (FieldType.array ty).toString)).before args s = true) (hover : (Cond.arrayOver (.array ty)).before args s = true) (harr : (Cond.arrayClass ty).before args s = true) (hcy : s.vm.findClass (FieldType.array ty).toString = some cy)
    (hK : va_K D cl tys s) (hP : va_P D cl (X ++ va_pl L f) H) (hD : va_D A (X ++ va_pl L f)) (hS : va_S A H0 H locs) (hA : ∀ q, H0.size ≤ q → A q) {n k : Int32} {N' K' : Nat} {z : vp_A} (hn : ¬ n < 0) (hk : ¬ k < 0) (hN : n.toNatClampNeg = N') (hM : k.toNatClampNeg = K')
    (hb1 : N' * 4 ≤ 536870912) (hb2 : K' * componentBytes ty ≤ 536870912) (hb3 : K' ≤ 536870912) (hdf : fits ty (defaultValue ty) = true) (hdd : (defaultValue ty).isDefault = true) (hcells : cells + (1 + N') ≤ R.cells) (hslots : slots + (N' + N' * K') ≤ R.slots) (hz : ∀ c : ClassId, Jvm.Free.Multi.innerC c K' (defaultValue ty) = vp_cell c z) (hdg : decode cc pc = .ok (.multianewarray index 2, 4))
    (kk : ∀ (q : Nat) (r : Nat → Nat) (cA : ClassId) (H1 : Heap), (∀ i j : Nat, i < N' → j < N' → r i = r j → i = j) → (∀ i : Nat, i < N' → r i ∉ L) → va_K D cl (tys ++ [(cA, .array ty)]) s →
      va_P D cl ((X ++ [(q, .inl (cA, N', .inr (.inr (.inr (.inr (fun i => if i < N' then some (r i) else none))))))]) ++ va_pl (L ++ (List.range N').map r) (vr_up f ((List.range N').map r) (.inl (cy, z)))) H1 → va_D A ((X ++ [(q, .inl (cA, N', .inr (.inr (.inr (.inr (fun i => if i < N' then some (r i) else none))))))]) ++ va_pl (L ++ (List.range N').map r) (vr_up f ((List.range N').map r) (.inl (cy, z)))) → va_S A H0 H1 locs →
      W p l e R s m args below meth c H1 locs (cells + 1 + N') (slots + N' + N' * K') Q (F0 m (pc + 4) ls (.ref q :: rest))) : W p l e R s m args below meth c H locs cells slots Q (F0 m pc ls (.int k :: .int n :: rest)) := by
  subst hN
  subst hM
  intro T hT Xs
  obtain ⟨vm₁, cA, comp, -, fA, fC, hO, -, X', step⟩ := Xs.multianewarray2F hexec hown hclink hover harr (g := F0 m pc ls (.int k :: .int n :: rest)) rfl (by rw [hb]; exact hdg) rfl hn hk hb1 hb2 hb3 hdf hdd hcells hslots
  have ec : some cy = some comp := hcy.symm.trans fC
  cases ec
  generalize hF : Jvm.Free.Multi.fill (T.setVm vm₁) cA cy n.toNatClampNeg k.toNatClampNeg (defaultValue ty) n.toNatClampNeg = F at X' step
  have hTh : (T.setVm vm₁).heap = H := hT
  obtain ⟨f1, f2, -, -⟩ := Jvm.Free.Multi.fill_facts (T.setVm vm₁) cA cy n.toNatClampNeg k.toNatClampNeg (defaultValue ty) n.toNatClampNeg
  rw [hF, hTh] at f1 f2
  have hold : ∀ x : Nat, x < H.size → F.heap[x]? = H[x]? := fun x hx => by
    have := Jvm.Free.Multi.fill_old (T.setVm vm₁) cA cy n.toNatClampNeg k.toNatClampNeg (defaultValue ty) (a := x) (by rw [hTh]; exact hx) n.toNatClampNeg
    rw [hF, hTh] at this
    exact this
  have hrow : ∀ j : Nat, j < n.toNatClampNeg → F.heap[H.size + 1 + j]? = some (vp_cell cy z) := fun j hj => by
    have := Jvm.Free.Multi.fill_inner (T.setVm vm₁) cA cy n.toNatClampNeg k.toNatClampNeg (defaultValue ty) n.toNatClampNeg j hj
    rw [hF, hTh, hz] at this
    exact this
  have hout : Jvm.Free.Multi.outerC cA n.toNatClampNeg H.size n.toNatClampNeg = vp_cell cA (n.toNatClampNeg, .inr (.inr (.inr (.inr (fun i => if i < n.toNatClampNeg then some (H.size + 1 + i) else none))))) := by
    rw [vp_cell_q]
    exact vr_outer cA n.toNatClampNeg H.size n.toNatClampNeg
  rw [hout] at f2
  have hlt : ∀ a, a ∈ L → a < H.size := fun a ha => by
    obtain ⟨k9, hk9⟩ := va_pl_get (X := X) (f := f) ha
    exact (hP k9 _ hk9).lt
  have hnl : ∀ i : Nat, i < n.toNatClampNeg → H.size + 1 + i ∉ L := fun i _ h => by
    have := hlt _ h
    omega
  have hnm : ∀ a, a ∈ (List.range n.toNatClampNeg).map (fun i => H.size + 1 + i) → a ∉ L := fun a ha h => by
    obtain ⟨i, -, rfl⟩ := List.mem_map.mp ha
    have := hlt _ h
    omega
  have hP0 : va_P D cl (X ++ va_pl L f) F.heap := hP.kept (fun k9 x hx => hold x.1 ((hP k9 x hx).lt))
  have hP1 : va_P D cl ((X ++ va_pl L f) ++ [(H.size, .inl (cA, n.toNatClampNeg, .inr (.inr (.inr (.inr (fun i => if i < n.toNatClampNeg then some (H.size + 1 + i) else none))))))]) F.heap := hP0.app (fun k9 x hx => by
    have h0 : k9 < 1 := (List.getElem?_eq_some_iff.mp hx).1
    rw [show k9 = 0 by omega] at hx
    cases hx
    exact f2)
  have hP2 : va_P D cl (((X ++ va_pl L f) ++ [(H.size, .inl (cA, n.toNatClampNeg, .inr (.inr (.inr (.inr (fun i => if i < n.toNatClampNeg then some (H.size + 1 + i) else none))))))]) ++ ((List.range n.toNatClampNeg).map (fun i => H.size + 1 + i)).map (fun a => (a, .inl (cy, z)))) F.heap := hP1.app (fun k9 x hx => by
    obtain ⟨a, ha, rfl⟩ := List.mem_map.mp (List.mem_of_getElem? hx)
    obtain ⟨i, hi, rfl⟩ := List.mem_map.mp ha
    exact hrow i (List.mem_range.mp hi))
  have hD2 : va_D A (((X ++ va_pl L f) ++ [(H.size, .inl (cA, n.toNatClampNeg, .inr (.inr (.inr (.inr (fun i => if i < n.toNatClampNeg then some (H.size + 1 + i) else none))))))]) ++ ((List.range n.toNatClampNeg).map (fun i => H.size + 1 + i)).map (fun a => (a, .inl (cy, z)))) := by
    have hD1 := hD.push (e := .inl (cA, n.toNatClampNeg, .inr (.inr (.inr (.inr (fun i => if i < n.toNatClampNeg then some (H.size + 1 + i) else none)))))) hP rfl (hA _ hS.1)
    generalize hW1 : (X ++ va_pl L f) ++ [(H.size, .inl (cA, n.toNatClampNeg, .inr (.inr (.inr (.inr (fun i => if i < n.toNatClampNeg then some (H.size + 1 + i) else none))))))] = W1 at hD1 hP1 ⊢
    have hle : ∀ (k9 : Nat) (x : Nat × va_E), W1[k9]? = some x → x.1 ≤ H.size := fun k9 x hx => by
      rw [← hW1] at hx
      by_cases hl : k9 < (X ++ va_pl L f).length
      · rw [List.getElem?_append_left hl] at hx
        exact Nat.le_of_lt ((hP k9 x hx).lt)
      · rw [List.getElem?_append_right (by omega)] at hx
        have h0 : k9 - (X ++ va_pl L f).length < 1 := (List.getElem?_eq_some_iff.mp hx).1
        rw [show k9 - (X ++ va_pl L f).length = 0 by omega] at hx
        cases hx
        exact Nat.le_refl _
    have hr : ∀ (k9 : Nat) (x : Nat × va_E), (((List.range n.toNatClampNeg).map (fun i => H.size + 1 + i)).map (fun a => ((a, .inl (cy, z)) : Nat × va_E)))[k9]? = some x → x.1 = H.size + 1 + k9 := fun k9 x hx => by
      rw [List.getElem?_map, List.getElem?_map] at hx
      by_cases h9 : k9 < n.toNatClampNeg
      · rw [List.getElem?_range h9] at hx
        cases hx
        rfl
      · have hn0 : (List.range n.toNatClampNeg)[k9]? = none := List.getElem?_eq_none (by rw [List.length_range]; omega)
        rw [hn0] at hx
        cases hx
    refine ⟨fun i j x y hi hj hxy => ?_, fun k9 x hx => ?_⟩
    · by_cases h1 : i < W1.length <;> by_cases h2 : j < W1.length
      · rw [List.getElem?_append_left h1] at hi
        rw [List.getElem?_append_left h2] at hj
        exact hD1.1 i j x y hi hj hxy
      · rw [List.getElem?_append_left h1] at hi
        rw [List.getElem?_append_right (by omega)] at hj
        have := hle _ _ hi
        have := hr _ _ hj
        omega
      · rw [List.getElem?_append_right (by omega)] at hi
        rw [List.getElem?_append_left h2] at hj
        have := hle _ _ hj
        have := hr _ _ hi
        omega
      · rw [List.getElem?_append_right (by omega)] at hi hj
        have := hr _ _ hi
        have := hr _ _ hj
        omega
    · by_cases h1 : k9 < W1.length
      · rw [List.getElem?_append_left h1] at hx
        exact hD1.2 k9 x hx
      · rw [List.getElem?_append_right (by omega)] at hx
        have := hr _ _ hx
        exact hA _ (by have := hS.1; omega)
  have hAr : ArrOfT s cA (.array ty) := fun N9 z9 => by
    obtain ⟨-, k9, hk9, cm9, hkk9⟩ := (hO 0 0 0).1
    exact ⟨(fun q hq => by cases hq), k9, hk9, cm9, hkk9⟩
  have hK2 : va_K D cl (tys ++ [(cA, .array ty)]) s := ⟨hK.1, fun k9 x hx => by
    by_cases hl : k9 < tys.length
    · rw [List.getElem?_append_left hl] at hx
      exact hK.2 k9 x hx
    · rw [List.getElem?_append_right (by omega)] at hx
      have h0 : k9 - tys.length < 1 := (List.getElem?_eq_some_iff.mp hx).1
      rw [show k9 - tys.length = 0 by omega] at hx
      cases hx
      exact ⟨hAr, fA⟩⟩
  obtain ⟨t, a1, b1⟩ := kk H.size (fun i => H.size + 1 + i) cA F.heap (fun i j _ _ h => by have h9 : H.size + 1 + i = H.size + 1 + j := h; omega) hnl hK2 (by rw [← vr_rows hnm]; exact vr_lay hP2) (by rw [← vr_rows hnm]; exact vr_layD hD2) ⟨by rw [f1]; have := hS.1; omega, fun x h1 h2 => (hold x (Nat.lt_of_lt_of_le h1 hS.1)).trans (hS.2.1 x h1 h2), hS.2.2⟩ F rfl X'
  refine ⟨t, step t ?_, b1⟩
  have e : T.heap.size = H.size := by rw [hT]
  rw [e]
  exact a1
end VGM
/-! ===== END ===== -/
def RX0 : String := "LanternHouse$Facts"
def TX0 : u_T := fun k => match k with
  | 0 => ("LanternHouse$Facts", "sorts", "[I", true)
  | 1 => ("LanternHouse$Facts", "subjects", "[I", true)
  | 2 => ("LanternHouse$Facts", "times", "[I", true)
  | 3 => ("LanternHouse$Facts", "latest", "[I", true)
  | _ => ("LanternHouse$Facts", "size", "I", false)
def tyX0 : Nat → FieldType := fun k => match k with
  | 0 => .array .int
  | 1 => .array .int
  | 2 => .array .int
  | 3 => .array .int
  | _ => .int
abbrev wsX00 : List Cond := u_ws RX0 TX0 5
theorem nmX0 : ∀ a, a < 5 → ∀ b, b < 5 → a ≠ b → (TX0 a).2.1 ≠ (TX0 b).2.1 := by decide +kernel
theorem tyX0_ok : ∀ k, k < 5 → parseFieldDescriptor (TX0 k).2.2.1 = some (tyX0 k) := by decide +kernel
abbrev cX0_init : ByteArray := prog_2_method_1_code
def yX0_init : MethodName := ⟨RX0, "<init>", "()V"⟩
abbrev cX0_add : ByteArray := prog_2_method_2_code
def yX0_add : MethodName := ⟨RX0, "add", "(III)I"⟩
abbrev cX0_isKnown : ByteArray := prog_2_method_3_code
def yX0_isKnown : MethodName := ⟨RX0, "isKnown", "(I)Z"⟩
abbrev cX0_brokenPlates : ByteArray := prog_2_method_4_code
def yX0_brokenPlates : MethodName := ⟨RX0, "brokenPlates", "(II)I"⟩
abbrev cX0_firstBroken : ByteArray := prog_2_method_5_code
def yX0_firstBroken : MethodName := ⟨RX0, "firstBroken", "(II)I"⟩
abbrev cX0_lastWhole : ByteArray := prog_2_method_6_code
def yX0_lastWhole : MethodName := ⟨RX0, "lastWhole", "(II)I"⟩
def RX1 : String := "LanternHouse$Keeper"
def TX1 : u_T := fun k => match k with
  | 0 => ("LanternHouse$Keeper", "shows", "LLanternHouse$Shows;", true)
  | 1 => ("LanternHouse$Keeper", "stock", "LLanternHouse$Stock;", true)
  | 2 => ("LanternHouse$Keeper", "facts", "LLanternHouse$Facts;", true)
  | 3 => ("LanternHouse$Keeper", "rails", "LLanternHouse$Rails;", true)
  | 4 => ("LanternHouse$Keeper", "arrivals", "[[I", true)
  | 5 => ("LanternHouse$Keeper", "broken", "[I", true)
  | 6 => ("LanternHouse$Keeper", "freeAt", "[I", true)
  | _ => ("LanternHouse$Keeper", "cleaningHours", "I", false)
def tyX1 : Nat → FieldType := fun k => match k with
  | 0 => .object "LanternHouse$Shows"
  | 1 => .object "LanternHouse$Stock"
  | 2 => .object "LanternHouse$Facts"
  | 3 => .object "LanternHouse$Rails"
  | 4 => .array (.array .int)
  | 5 => .array .int
  | 6 => .array .int
  | _ => .int
abbrev wsX10 : List Cond := u_ws RX1 TX1 8
theorem nmX1 : ∀ a, a < 8 → ∀ b, b < 8 → a ≠ b → (TX1 a).2.1 ≠ (TX1 b).2.1 := by decide +kernel
theorem tyX1_ok : ∀ k, k < 8 → parseFieldDescriptor (TX1 k).2.2.1 = some (tyX1 k) := by decide +kernel
abbrev cX1_init : ByteArray := prog_3_method_1_code
def yX1_init : MethodName := ⟨RX1, "<init>", "(LLanternHouse$Shows;LLanternHouse$Stock;LLanternHouse$Facts;LLanternHouse$Rails;)V"⟩
abbrev cX1_prepare : ByteArray := prog_3_method_2_code
def yX1_prepare : MethodName := ⟨RX1, "prepare", "(I)V"⟩
abbrev cX1_keep : ByteArray := prog_3_method_3_code
def yX1_keep : MethodName := ⟨RX1, "keep", "(ILLanternHouse$Plan;)Z"⟩
abbrev cX1_keepShow : ByteArray := prog_3_method_4_code
def yX1_keepShow : MethodName := ⟨RX1, "keepShow", "(ILLanternHouse$Plan;)Z"⟩
abbrev cX1_platesThatCome : ByteArray := prog_3_method_5_code
def yX1_platesThatCome : MethodName := ⟨RX1, "platesThatCome", "(I)I"⟩
abbrev cX1_firstChoice : ByteArray := prog_3_method_6_code
def yX1_firstChoice : MethodName := ⟨RX1, "firstChoice", "(II)I"⟩
abbrev cX1_lowestOf : ByteArray := prog_3_method_7_code
def yX1_lowestOf : MethodName := ⟨RX1, "lowestOf", "(I)I"⟩
abbrev cX1_wayEnd : ByteArray := prog_3_method_8_code
def yX1_wayEnd : MethodName := ⟨RX1, "wayEnd", "(II)I"⟩
def RX2 : String := "LanternHouse$Lectures"
def TX2 : u_T := fun k => match k with
  | 0 => ("LanternHouse$Lectures", "names", "[J", true)
  | 1 => ("LanternHouse$Lectures", "cueCounts", "[I", true)
  | 2 => ("LanternHouse$Lectures", "hireCounts", "[I", true)
  | 3 => ("LanternHouse$Lectures", "musts", "[Z", true)
  | 4 => ("LanternHouse$Lectures", "kindCounts", "[I", true)
  | 5 => ("LanternHouse$Lectures", "kinds", "[I", true)
  | 6 => ("LanternHouse$Lectures", "minutes", "[I", true)
  | 7 => ("LanternHouse$Lectures", "fades", "[I", true)
  | 8 => ("LanternHouse$Lectures", "hireStarts", "[I", true)
  | 9 => ("LanternHouse$Lectures", "hireEnds", "[I", true)
  | 10 => ("LanternHouse$Lectures", "code", "[I", true)
  | 11 => ("LanternHouse$Lectures", "codeSize", "I", false)
  | _ => ("LanternHouse$Lectures", "size", "I", false)
def tyX2 : Nat → FieldType := fun k => match k with
  | 0 => .array .long
  | 1 => .array .int
  | 2 => .array .int
  | 3 => .array .boolean
  | 4 => .array .int
  | 5 => .array .int
  | 6 => .array .int
  | 7 => .array .int
  | 8 => .array .int
  | 9 => .array .int
  | 10 => .array .int
  | 11 => .int
  | _ => .int
abbrev wsX20 : List Cond := u_ws RX2 TX2 13
theorem nmX2 : ∀ a, a < 13 → ∀ b, b < 13 → a ≠ b → (TX2 a).2.1 ≠ (TX2 b).2.1 := by decide +kernel
theorem tyX2_ok : ∀ k, k < 13 → parseFieldDescriptor (TX2 k).2.2.1 = some (tyX2 k) := by decide +kernel
abbrev cX2_init : ByteArray := prog_4_method_1_code
def yX2_init : MethodName := ⟨RX2, "<init>", "()V"⟩
abbrev cX2_clear : ByteArray := prog_4_method_2_code
def yX2_clear : MethodName := ⟨RX2, "clear", "()V"⟩
abbrev cX2_begin : ByteArray := prog_4_method_3_code
def yX2_begin : MethodName := ⟨RX2, "begin", "(J)V"⟩
abbrev cX2_hasName : ByteArray := prog_4_method_4_code
def yX2_hasName : MethodName := ⟨RX2, "hasName", "(J)Z"⟩
abbrev cX2_hasKind : ByteArray := prog_4_method_5_code
def yX2_hasKind : MethodName := ⟨RX2, "hasKind", "(II)Z"⟩
abbrev cX2_addKind : ByteArray := prog_4_method_6_code
def yX2_addKind : MethodName := ⟨RX2, "addKind", "(II)V"⟩
abbrev cX2_emit : ByteArray := prog_4_method_7_code
def yX2_emit : MethodName := ⟨RX2, "emit", "(I)V"⟩
def RX3 : String := "LanternHouse$Plan"
def TX3 : u_T := fun k => match k with
  | 0 => ("LanternHouse$Plan", "plates", "[I", true)
  | 1 => ("LanternHouse$Plan", "wayEnds", "[I", true)
  | 2 => ("LanternHouse$Plan", "standIns", "[Z", true)
  | 3 => ("LanternHouse$Plan", "set", "I", false)
  | 4 => ("LanternHouse$Plan", "worth", "I", false)
  | 5 => ("LanternHouse$Plan", "changes", "I", false)
  | 6 => ("LanternHouse$Plan", "missed", "I", false)
  | _ => ("LanternHouse$Plan", "instead", "I", false)
def tyX3 : Nat → FieldType := fun k => match k with
  | 0 => .array .int
  | 1 => .array .int
  | 2 => .array .boolean
  | 3 => .int
  | 4 => .int
  | 5 => .int
  | 6 => .int
  | _ => .int
abbrev wsX30 : List Cond := u_ws RX3 TX3 8
theorem nmX3 : ∀ a, a < 8 → ∀ b, b < 8 → a ≠ b → (TX3 a).2.1 ≠ (TX3 b).2.1 := by decide +kernel
theorem tyX3_ok : ∀ k, k < 8 → parseFieldDescriptor (TX3 k).2.2.1 = some (tyX3 k) := by decide +kernel
abbrev cX3_init : ByteArray := prog_5_method_1_code
def yX3_init : MethodName := ⟨RX3, "<init>", "()V"⟩
abbrev cX3_slot : ByteArray := prog_5_method_2_code
def yX3_slot : MethodName := ⟨RX3, "slot", "(II)I"⟩
abbrev cX3_begin : ByteArray := prog_5_method_3_code
def yX3_begin : MethodName := ⟨RX3, "begin", "(II)V"⟩
abbrev cX3_has : ByteArray := prog_5_method_4_code
def yX3_has : MethodName := ⟨RX3, "has", "(I)Z"⟩
abbrev cX3_miss : ByteArray := prog_5_method_5_code
def yX3_miss : MethodName := ⟨RX3, "miss", "(I)V"⟩
abbrev cX3_give : ByteArray := prog_5_method_6_code
def yX3_give : MethodName := ⟨RX3, "give", "(IIZI)V"⟩
abbrev cX3_isBetterThan : ByteArray := prog_5_method_7_code
def yX3_isBetterThan : MethodName := ⟨RX3, "isBetterThan", "(LLanternHouse$Plan;)Z"⟩
abbrev cX3_slotWith : ByteArray := prog_5_method_8_code
def yX3_slotWith : MethodName := ⟨RX3, "slotWith", "(IILLanternHouse$Shows;)I"⟩
abbrev cX3_whatCame : ByteArray := prog_5_method_9_code
def yX3_whatCame : MethodName := ⟨RX3, "whatCame", "(IIILLanternHouse$Shows;)I"⟩
abbrev cX3_sentTo : ByteArray := prog_5_method_10_code
def yX3_sentTo : MethodName := ⟨RX3, "sentTo", "(IILLanternHouse$Shows;)I"⟩
def RX4 : String := "LanternHouse$Rails"
def TX4 : u_T := fun k => match k with
  | 0 => ("LanternHouse$Rails", "froms", "[I", true)
  | 1 => ("LanternHouse$Rails", "tos", "[I", true)
  | 2 => ("LanternHouse$Rails", "hours", "[I", true)
  | 3 => ("LanternHouse$Rails", "lengths", "[I", true)
  | 4 => ("LanternHouse$Rails", "idleDays", "[J", true)
  | 5 => ("LanternHouse$Rails", "reached", "[I", true)
  | 6 => ("LanternHouse$Rails", "halls", "I", false)
  | _ => ("LanternHouse$Rails", "trains", "I", false)
def tyX4 : Nat → FieldType := fun k => match k with
  | 0 => .array .int
  | 1 => .array .int
  | 2 => .array .int
  | 3 => .array .int
  | 4 => .array .long
  | 5 => .array .int
  | 6 => .int
  | _ => .int
abbrev wsX40 : List Cond := u_ws RX4 TX4 8
theorem nmX4 : ∀ a, a < 8 → ∀ b, b < 8 → a ≠ b → (TX4 a).2.1 ≠ (TX4 b).2.1 := by decide +kernel
theorem tyX4_ok : ∀ k, k < 8 → parseFieldDescriptor (TX4 k).2.2.1 = some (tyX4 k) := by decide +kernel
abbrev cX4_init : ByteArray := prog_6_method_1_code
def yX4_init : MethodName := ⟨RX4, "<init>", "()V"⟩
abbrev cX4_addHall : ByteArray := prog_6_method_2_code
def yX4_addHall : MethodName := ⟨RX4, "addHall", "()I"⟩
abbrev cX4_isHall : ByteArray := prog_6_method_3_code
def yX4_isHall : MethodName := ⟨RX4, "isHall", "(I)Z"⟩
abbrev cX4_addTrain : ByteArray := prog_6_method_4_code
def yX4_addTrain : MethodName := ⟨RX4, "addTrain", "(IIII)I"⟩
abbrev cX4_learn : ByteArray := prog_6_method_5_code
def yX4_learn : MethodName := ⟨RX4, "learn", "(LLanternHouse$Facts;I)V"⟩
abbrev cX4_soonest : ByteArray := prog_6_method_6_code
def yX4_soonest : MethodName := ⟨RX4, "soonest", "(III)I"⟩
abbrev cX4_spread : ByteArray := prog_6_method_7_code
def yX4_spread : MethodName := ⟨RX4, "spread", "(II[I)V"⟩
abbrev cX4_arrival : ByteArray := prog_6_method_8_code
def yX4_arrival : MethodName := ⟨RX4, "arrival", "(III)I"⟩
def RX5 : String := "LanternHouse$Reader"
def TX5 : u_T := fun k => match k with
  | 0 => ("LanternHouse$Reader", "tokens", "LLanternHouse$Tokens;", true)
  | 1 => ("LanternHouse$Reader", "waiting", "[I", true)
  | 2 => ("LanternHouse$Reader", "waitingCount", "I", false)
  | 3 => ("LanternHouse$Reader", "text", "LLanternHouse$Lectures;", false)
  | 4 => ("LanternHouse$Reader", "at", "I", false)
  | 5 => ("LanternHouse$Reader", "value", "J", false)
  | 6 => ("LanternHouse$Reader", "valuePlace", "I", false)
  | 7 => ("LanternHouse$Reader", "fault", "I", false)
  | 8 => ("LanternHouse$Reader", "faultPlace", "I", false)
  | 9 => ("LanternHouse$Reader", "noted", "I", false)
  | _ => ("LanternHouse$Reader", "notedPlace", "I", false)
def tyX5 : Nat → FieldType := fun k => match k with
  | 0 => .object "LanternHouse$Tokens"
  | 1 => .array .int
  | 2 => .int
  | 3 => .object "LanternHouse$Lectures"
  | 4 => .int
  | 5 => .long
  | 6 => .int
  | 7 => .int
  | 8 => .int
  | 9 => .int
  | _ => .int
abbrev wsX50 : List Cond := u_ws RX5 TX5 11
theorem nmX5 : ∀ a, a < 11 → ∀ b, b < 11 → a ≠ b → (TX5 a).2.1 ≠ (TX5 b).2.1 := by decide +kernel
theorem tyX5_ok : ∀ k, k < 11 → parseFieldDescriptor (TX5 k).2.2.1 = some (tyX5 k) := by decide +kernel
abbrev cX5_init : ByteArray := prog_7_method_1_code
def yX5_init : MethodName := ⟨RX5, "<init>", "(LLanternHouse$Tokens;)V"⟩
abbrev cX5_parse : ByteArray := prog_7_method_2_code
def yX5_parse : MethodName := ⟨RX5, "parse", "(LLanternHouse$Lectures;)V"⟩
abbrev cX5_begin : ByteArray := prog_7_method_3_code
def yX5_begin : MethodName := ⟨RX5, "begin", "(LLanternHouse$Lectures;)V"⟩
abbrev cX5_fails : ByteArray := prog_7_method_4_code
def yX5_fails : MethodName := ⟨RX5, "fails", "(I)Z"⟩
abbrev cX5_note : ByteArray := prog_7_method_5_code
def yX5_note : MethodName := ⟨RX5, "note", "(I)V"⟩
abbrev cX5_take : ByteArray := prog_7_method_6_code
def yX5_take : MethodName := ⟨RX5, "take", "(I)Z"⟩
abbrev cX5_readLecture : ByteArray := prog_7_method_7_code
def yX5_readLecture : MethodName := ⟨RX5, "readLecture", "(I)Z"⟩
abbrev cX5_readCues : ByteArray := prog_7_method_8_code
def yX5_readCues : MethodName := ⟨RX5, "readCues", "(I)Z"⟩
abbrev cX5_readCue : ByteArray := prog_7_method_9_code
def yX5_readCue : MethodName := ⟨RX5, "readCue", "(II)Z"⟩
abbrev cX5_readKinds : ByteArray := prog_7_method_10_code
def yX5_readKinds : MethodName := ⟨RX5, "readKinds", "(I)Z"⟩
abbrev cX5_readHires : ByteArray := prog_7_method_11_code
def yX5_readHires : MethodName := ⟨RX5, "readHires", "(I)Z"⟩
abbrev cX5_readHire : ByteArray := prog_7_method_12_code
def yX5_readHire : MethodName := ⟨RX5, "readHire", "()Z"⟩
abbrev cX5_readSum : ByteArray := prog_7_method_13_code
def yX5_readSum : MethodName := ⟨RX5, "readSum", "()Z"⟩
abbrev cX5_hold : ByteArray := prog_7_method_14_code
def yX5_hold : MethodName := ⟨RX5, "hold", "(I)V"⟩
abbrev cX5_release : ByteArray := prog_7_method_15_code
def yX5_release : MethodName := ⟨RX5, "release", "(Z)V"⟩
def RX6 : String := "LanternHouse$Showing"
def TX6 : u_T := fun k => match k with
  | 0 => ("LanternHouse$Showing", "begins", "[I", true)
  | 1 => ("LanternHouse$Showing", "isShown", "[Z", true)
  | 2 => ("LanternHouse$Showing", "values", "[I", true)
  | 3 => ("LanternHouse$Showing", "shown", "I", false)
  | 4 => ("LanternHouse$Showing", "missed", "I", false)
  | 5 => ("LanternHouse$Showing", "instead", "I", false)
  | 6 => ("LanternHouse$Showing", "minutes", "I", false)
  | 7 => ("LanternHouse$Showing", "gas", "I", false)
  | 8 => ("LanternHouse$Showing", "worth", "I", false)
  | 9 => ("LanternHouse$Showing", "firstDark", "I", false)
  | 10 => ("LanternHouse$Showing", "hire", "I", false)
  | _ => ("LanternHouse$Showing", "hireNumber", "I", false)
def tyX6 : Nat → FieldType := fun k => match k with
  | 0 => .array .int
  | 1 => .array .boolean
  | 2 => .array .int
  | 3 => .int
  | 4 => .int
  | 5 => .int
  | 6 => .int
  | 7 => .int
  | 8 => .int
  | 9 => .int
  | 10 => .int
  | _ => .int
abbrev wsX60 : List Cond := u_ws RX6 TX6 12
theorem nmX6 : ∀ a, a < 12 → ∀ b, b < 12 → a ≠ b → (TX6 a).2.1 ≠ (TX6 b).2.1 := by decide +kernel
theorem tyX6_ok : ∀ k, k < 12 → parseFieldDescriptor (TX6 k).2.2.1 = some (tyX6 k) := by decide +kernel
abbrev cX6_init : ByteArray := prog_8_method_1_code
def yX6_init : MethodName := ⟨RX6, "<init>", "()V"⟩
abbrev cX6_goThrough : ByteArray := prog_8_method_2_code
def yX6_goThrough : MethodName := ⟨RX6, "goThrough", "(ILLanternHouse$Shows;LLanternHouse$Plan;)V"⟩
abbrev cX6_begin : ByteArray := prog_8_method_3_code
def yX6_begin : MethodName := ⟨RX6, "begin", "(I)V"⟩
abbrev cX6_findHire : ByteArray := prog_8_method_4_code
def yX6_findHire : MethodName := ⟨RX6, "findHire", "(LLanternHouse$Lectures;I)V"⟩
abbrev cX6_holds : ByteArray := prog_8_method_5_code
def yX6_holds : MethodName := ⟨RX6, "holds", "([III)Z"⟩
abbrev cX6_variable : ByteArray := prog_8_method_6_code
def yX6_variable : MethodName := ⟨RX6, "variable", "(I)I"⟩
abbrev cX6_reckon : ByteArray := prog_8_method_7_code
def yX6_reckon : MethodName := ⟨RX6, "reckon", "(III)I"⟩
abbrev cX6_relates : ByteArray := prog_8_method_8_code
def yX6_relates : MethodName := ⟨RX6, "relates", "(III)Z"⟩
def RX7 : String := "LanternHouse$Shows"
def TX7 : u_T := fun k => match k with
  | 0 => ("LanternHouse$Shows", "nights", "[I", true)
  | 1 => ("LanternHouse$Shows", "halls", "[I", true)
  | 2 => ("LanternHouse$Shows", "lectures", "[I", true)
  | 3 => ("LanternHouse$Shows", "gas", "[I", true)
  | 4 => ("LanternHouse$Shows", "worths", "[I", true)
  | 5 => ("LanternHouse$Shows", "order", "[I", true)
  | 6 => ("LanternHouse$Shows", "size", "I", false)
  | _ => ("LanternHouse$Shows", "text", "LLanternHouse$Lectures;", false)
def tyX7 : Nat → FieldType := fun k => match k with
  | 0 => .array .int
  | 1 => .array .int
  | 2 => .array .int
  | 3 => .array .int
  | 4 => .array .int
  | 5 => .array .int
  | 6 => .int
  | _ => .object "LanternHouse$Lectures"
abbrev wsX70 : List Cond := u_ws RX7 TX7 8
theorem nmX7 : ∀ a, a < 8 → ∀ b, b < 8 → a ≠ b → (TX7 a).2.1 ≠ (TX7 b).2.1 := by decide +kernel
theorem tyX7_ok : ∀ k, k < 8 → parseFieldDescriptor (TX7 k).2.2.1 = some (tyX7 k) := by decide +kernel
abbrev cX7_init : ByteArray := prog_9_method_1_code
def yX7_init : MethodName := ⟨RX7, "<init>", "(LLanternHouse$Lectures;)V"⟩
abbrev cX7_startOver : ByteArray := prog_9_method_2_code
def yX7_startOver : MethodName := ⟨RX7, "startOver", "(LLanternHouse$Lectures;)V"⟩
abbrev cX7_add : ByteArray := prog_9_method_3_code
def yX7_add : MethodName := ⟨RX7, "add", "(IIIII)I"⟩
abbrev cX7_isTaken : ByteArray := prog_9_method_4_code
def yX7_isTaken : MethodName := ⟨RX7, "isTaken", "(II)Z"⟩
abbrev cX7_putInOrder : ByteArray := prog_9_method_5_code
def yX7_putInOrder : MethodName := ⟨RX7, "putInOrder", "(I)V"⟩
abbrev cX7_isShow : ByteArray := prog_9_method_6_code
def yX7_isShow : MethodName := ⟨RX7, "isShow", "(I)Z"⟩
abbrev cX7_all : ByteArray := prog_9_method_7_code
def yX7_all : MethodName := ⟨RX7, "all", "()I"⟩
abbrev cX7_worthOf : ByteArray := prog_9_method_8_code
def yX7_worthOf : MethodName := ⟨RX7, "worthOf", "(I)I"⟩
abbrev cX7_cuesOf : ByteArray := prog_9_method_9_code
def yX7_cuesOf : MethodName := ⟨RX7, "cuesOf", "(I)I"⟩
abbrev cX7_dueHour : ByteArray := prog_9_method_10_code
def yX7_dueHour : MethodName := ⟨RX7, "dueHour", "(I)I"⟩
abbrev cX7_shownHour : ByteArray := prog_9_method_11_code
def yX7_shownHour : MethodName := ⟨RX7, "shownHour", "(I)I"⟩
abbrev cX7_freeHour : ByteArray := prog_9_method_12_code
def yX7_freeHour : MethodName := ⟨RX7, "freeHour", "(I)I"⟩
def RX8 : String := "LanternHouse$Stock"
def TX8 : u_T := fun k => match k with
  | 0 => ("LanternHouse$Stock", "kinds", "[I", true)
  | 1 => ("LanternHouse$Stock", "platesOfKind", "[I", true)
  | _ => ("LanternHouse$Stock", "size", "I", false)
def tyX8 : Nat → FieldType := fun k => match k with
  | 0 => .array .int
  | 1 => .array .int
  | _ => .int
abbrev wsX80 : List Cond := u_ws RX8 TX8 3
theorem nmX8 : ∀ a, a < 3 → ∀ b, b < 3 → a ≠ b → (TX8 a).2.1 ≠ (TX8 b).2.1 := by decide +kernel
theorem tyX8_ok : ∀ k, k < 3 → parseFieldDescriptor (TX8 k).2.2.1 = some (tyX8 k) := by decide +kernel
abbrev cX8_init : ByteArray := prog_10_method_1_code
def yX8_init : MethodName := ⟨RX8, "<init>", "()V"⟩
abbrev cX8_add : ByteArray := prog_10_method_2_code
def yX8_add : MethodName := ⟨RX8, "add", "(I)I"⟩
abbrev cX8_kindOf : ByteArray := prog_10_method_3_code
def yX8_kindOf : MethodName := ⟨RX8, "kindOf", "(I)I"⟩
def RX9 : String := "LanternHouse$Tape"
def TX9 : u_T := fun k => match k with
  | 0 => ("LanternHouse$Tape", "bytes", "[B", true)
  | _ => ("LanternHouse$Tape", "length", "I", false)
def tyX9 : Nat → FieldType := fun k => match k with
  | 0 => .array .byte
  | _ => .int
abbrev wsX90 : List Cond := u_ws RX9 TX9 2
theorem nmX9 : ∀ a, a < 2 → ∀ b, b < 2 → a ≠ b → (TX9 a).2.1 ≠ (TX9 b).2.1 := by decide +kernel
theorem tyX9_ok : ∀ k, k < 2 → parseFieldDescriptor (TX9 k).2.2.1 = some (tyX9 k) := by decide +kernel
abbrev cX9_init : ByteArray := prog_11_method_1_code
def yX9_init : MethodName := ⟨RX9, "<init>", "()V"⟩
abbrev cX9_put : ByteArray := prog_11_method_2_code
def yX9_put : MethodName := ⟨RX9, "put", "(I)V"⟩
abbrev cX9_at : ByteArray := prog_11_method_3_code
def yX9_at : MethodName := ⟨RX9, "at", "(I)I"⟩
abbrev cX9_spells : ByteArray := prog_11_method_4_code
def yX9_spells : MethodName := ⟨RX9, "spells", "(IILjava/lang/String;)Z"⟩
def RX10 : String := "LanternHouse$Tokens"
def TX10 : u_T := fun k => match k with
  | 0 => ("LanternHouse$Tokens", "sorts", "[I", true)
  | 1 => ("LanternHouse$Tokens", "places", "[I", true)
  | _ => ("LanternHouse$Tokens", "values", "[J", true)
def tyX10 : Nat → FieldType := fun k => match k with
  | 0 => .array .int
  | 1 => .array .int
  | _ => .array .long
abbrev wsX100 : List Cond := u_ws RX10 TX10 3
theorem nmX10 : ∀ a, a < 3 → ∀ b, b < 3 → a ≠ b → (TX10 a).2.1 ≠ (TX10 b).2.1 := by decide +kernel
theorem tyX10_ok : ∀ k, k < 3 → parseFieldDescriptor (TX10 k).2.2.1 = some (tyX10 k) := by decide +kernel
abbrev cX10_init : ByteArray := prog_12_method_1_code
def yX10_init : MethodName := ⟨RX10, "<init>", "()V"⟩
abbrev cX10_scan : ByteArray := prog_12_method_2_code
def yX10_scan : MethodName := ⟨RX10, "scan", "(LLanternHouse$Tape;)V"⟩
abbrev cX10_isVar : ByteArray := prog_12_method_3_code
def yX10_isVar : MethodName := ⟨RX10, "isVar", "(I)Z"⟩
abbrev cX10_isOperator : ByteArray := prog_12_method_4_code
def yX10_isOperator : MethodName := ⟨RX10, "isOperator", "(I)Z"⟩
abbrev cX10_isRelation : ByteArray := prog_12_method_5_code
def yX10_isRelation : MethodName := ⟨RX10, "isRelation", "(I)Z"⟩
abbrev cX10_isBlank : ByteArray := prog_12_method_6_code
def yX10_isBlank : MethodName := ⟨RX10, "isBlank", "(I)Z"⟩
abbrev cX10_isLetter : ByteArray := prog_12_method_7_code
def yX10_isLetter : MethodName := ⟨RX10, "isLetter", "(I)Z"⟩
abbrev cX10_isDigit : ByteArray := prog_12_method_8_code
def yX10_isDigit : MethodName := ⟨RX10, "isDigit", "(I)Z"⟩
abbrev cX10_pastBlanks : ByteArray := prog_12_method_9_code
def yX10_pastBlanks : MethodName := ⟨RX10, "pastBlanks", "(LLanternHouse$Tape;I)I"⟩
abbrev cX10_endOf : ByteArray := prog_12_method_10_code
def yX10_endOf : MethodName := ⟨RX10, "endOf", "(LLanternHouse$Tape;I)I"⟩
abbrev cX10_sortOf : ByteArray := prog_12_method_11_code
def yX10_sortOf : MethodName := ⟨RX10, "sortOf", "(LLanternHouse$Tape;II)I"⟩
abbrev cX10_signSort : ByteArray := prog_12_method_12_code
def yX10_signSort : MethodName := ⟨RX10, "signSort", "(IZ)I"⟩
abbrev cX10_wordSort : ByteArray := prog_12_method_13_code
def yX10_wordSort : MethodName := ⟨RX10, "wordSort", "(LLanternHouse$Tape;II)I"⟩
abbrev cX10_valueOf : ByteArray := prog_12_method_14_code
def yX10_valueOf : MethodName := ⟨RX10, "valueOf", "(LLanternHouse$Tape;II)J"⟩
def RX11 : String := "LanternHouse"
def TX11 : u_T := fun k => match k with
  | 0 => ("LanternHouse", "tape", "LLanternHouse$Tape;", true)
  | 1 => ("LanternHouse", "tokens", "LLanternHouse$Tokens;", true)
  | 2 => ("LanternHouse", "reader", "LLanternHouse$Reader;", true)
  | 3 => ("LanternHouse", "rails", "LLanternHouse$Rails;", true)
  | 4 => ("LanternHouse", "stock", "LLanternHouse$Stock;", true)
  | 5 => ("LanternHouse", "facts", "LLanternHouse$Facts;", true)
  | 6 => ("LanternHouse", "shows", "LLanternHouse$Shows;", true)
  | 7 => ("LanternHouse", "keeper", "LLanternHouse$Keeper;", true)
  | 8 => ("LanternHouse", "lastShowing", "LLanternHouse$Showing;", true)
  | 9 => ("LanternHouse", "draft", "LLanternHouse$Lectures;", false)
  | 10 => ("LanternHouse", "made", "LLanternHouse$Plan;", false)
  | 11 => ("LanternHouse", "trial", "LLanternHouse$Plan;", false)
  | _ => ("LanternHouse", "isMade", "Z", false)
def tyX11 : Nat → FieldType := fun k => match k with
  | 0 => .object "LanternHouse$Tape"
  | 1 => .object "LanternHouse$Tokens"
  | 2 => .object "LanternHouse$Reader"
  | 3 => .object "LanternHouse$Rails"
  | 4 => .object "LanternHouse$Stock"
  | 5 => .object "LanternHouse$Facts"
  | 6 => .object "LanternHouse$Shows"
  | 7 => .object "LanternHouse$Keeper"
  | 8 => .object "LanternHouse$Showing"
  | 9 => .object "LanternHouse$Lectures"
  | 10 => .object "LanternHouse$Plan"
  | 11 => .object "LanternHouse$Plan"
  | _ => .boolean
abbrev wsX110 : List Cond := u_ws RX11 TX11 13
theorem nmX11 : ∀ a, a < 13 → ∀ b, b < 13 → a ≠ b → (TX11 a).2.1 ≠ (TX11 b).2.1 := by decide +kernel
theorem tyX11_ok : ∀ k, k < 13 → parseFieldDescriptor (TX11 k).2.2.1 = some (tyX11 k) := by decide +kernel
abbrev cX11_init : ByteArray := prog_1_method_1_code
def yX11_init : MethodName := ⟨RX11, "<init>", "()V"⟩
abbrev cX11_feed : ByteArray := prog_1_method_2_code
def yX11_feed : MethodName := ⟨RX11, "feed", "(IIIII)I"⟩
abbrev cX11_back : ByteArray := prog_1_method_3_code
def yX11_back : MethodName := ⟨RX11, "back", "(I)I"⟩
abbrev cX11_read : ByteArray := prog_1_method_4_code
def yX11_read : MethodName := ⟨RX11, "read", "()I"⟩
abbrev cX11_place : ByteArray := prog_1_method_5_code
def yX11_place : MethodName := ⟨RX11, "place", "()I"⟩
abbrev cX11_hall : ByteArray := prog_1_method_6_code
def yX11_hall : MethodName := ⟨RX11, "hall", "()I"⟩
abbrev cX11_train : ByteArray := prog_1_method_7_code
def yX11_train : MethodName := ⟨RX11, "train", "(IIII)I"⟩
abbrev cX11_plate : ByteArray := prog_1_method_8_code
def yX11_plate : MethodName := ⟨RX11, "plate", "(I)I"⟩
abbrev cX11_cleaning : ByteArray := prog_1_method_9_code
def yX11_cleaning : MethodName := ⟨RX11, "cleaning", "(I)Z"⟩
abbrev cX11_cancel : ByteArray := prog_1_method_10_code
def yX11_cancel : MethodName := ⟨RX11, "cancel", "(II)I"⟩
abbrev cX11_look : ByteArray := prog_1_method_11_code
def yX11_look : MethodName := ⟨RX11, "look", "(IIZ)I"⟩
abbrev cX11_show : ByteArray := prog_1_method_12_code
def yX11_show : MethodName := ⟨RX11, "show", "(IIIII)I"⟩
abbrev cX11_way : ByteArray := prog_1_method_13_code
def yX11_way : MethodName := ⟨RX11, "way", "(IIII)I"⟩
abbrev cX11_broken : ByteArray := prog_1_method_14_code
def yX11_broken : MethodName := ⟨RX11, "broken", "(III)I"⟩
abbrev cX11_can : ByteArray := prog_1_method_15_code
def yX11_can : MethodName := ⟨RX11, "can", "(II)I"⟩
abbrev cX11_make : ByteArray := prog_1_method_16_code
def yX11_make : MethodName := ⟨RX11, "make", "(I)I"⟩
abbrev cX11_mend : ByteArray := prog_1_method_17_code
def yX11_mend : MethodName := ⟨RX11, "mend", "(I)I"⟩
abbrev cX11_told : ByteArray := prog_1_method_18_code
def yX11_told : MethodName := ⟨RX11, "told", "(II)I"⟩
abbrev cX11_cue : ByteArray := prog_1_method_19_code
def yX11_cue : MethodName := ⟨RX11, "cue", "(III)I"⟩
abbrev cX11_showing : ByteArray := prog_1_method_20_code
def yX11_showing : MethodName := ⟨RX11, "showing", "(II)I"⟩
abbrev cX11_blame : ByteArray := prog_1_method_21_code
def yX11_blame : MethodName := ⟨RX11, "blame", "(II)I"⟩
abbrev cX11_where : ByteArray := prog_1_method_22_code
def yX11_where : MethodName := ⟨RX11, "where", "(II)I"⟩
abbrev cX11_count : ByteArray := prog_1_method_23_code
def yX11_count : MethodName := ⟨RX11, "count", "(I)I"⟩
abbrev cX11_isPlate : ByteArray := prog_1_method_24_code
def yX11_isPlate : MethodName := ⟨RX11, "isPlate", "(I)Z"⟩
abbrev cX11_isHour : ByteArray := prog_1_method_25_code
def yX11_isHour : MethodName := ⟨RX11, "isHour", "(I)Z"⟩
abbrev cX11_isKept : ByteArray := prog_1_method_26_code
def yX11_isKept : MethodName := ⟨RX11, "isKept", "(I)Z"⟩
abbrev cX11_settle : ByteArray := prog_1_method_27_code
def yX11_settle : MethodName := ⟨RX11, "settle", "(II)V"⟩
abbrev cX11_changes : ByteArray := prog_1_method_28_code
def yX11_changes : MethodName := ⟨RX11, "changes", "(II)I"⟩
def RX12 : String := "LanternHouseModel"
def TX12 : u_T := fun k => match k with
  | 0 => ("LanternHouseModel", "thrown", "I", false)
  | 1 => ("LanternHouseModel", "tape", "[B", true)
  | 2 => ("LanternHouseModel", "taped", "I", false)
  | 3 => ("LanternHouseModel", "text", "[B", true)
  | 4 => ("LanternHouseModel", "size", "I", false)
  | 5 => ("LanternHouseModel", "tKind", "[I", true)
  | 6 => ("LanternHouseModel", "tPlace", "[I", true)
  | 7 => ("LanternHouseModel", "tValue", "[I", true)
  | 8 => ("LanternHouseModel", "tName", "[J", true)
  | 9 => ("LanternHouseModel", "keys", "[J", true)
  | 10 => ("LanternHouseModel", "tokens", "I", false)
  | 11 => ("LanternHouseModel", "t", "I", false)
  | 12 => ("LanternHouseModel", "open", "I", false)
  | 13 => ("LanternHouseModel", "fault", "I", false)
  | 14 => ("LanternHouseModel", "faultPlace", "I", false)
  | 15 => ("LanternHouseModel", "worst", "I", false)
  | 16 => ("LanternHouseModel", "worstPlace", "I", false)
  | 17 => ("LanternHouseModel", "place", "I", false)
  | 18 => ("LanternHouseModel", "live", "I", false)
  | 19 => ("LanternHouseModel", "side", "I", false)
  | 20 => ("LanternHouseModel", "lectures", "[I", true)
  | 21 => ("LanternHouseModel", "lectName", "[J", true)
  | 22 => ("LanternHouseModel", "cues", "[I", true)
  | 23 => ("LanternHouseModel", "hires", "[I", true)
  | 24 => ("LanternHouseModel", "cueMust", "[Z", true)
  | 25 => ("LanternHouseModel", "cueKinds", "[I", true)
  | 26 => ("LanternHouseModel", "cueKind", "[I", true)
  | 27 => ("LanternHouseModel", "cueFor", "[I", true)
  | 28 => ("LanternHouseModel", "cueFade", "[I", true)
  | 29 => ("LanternHouseModel", "hireFrom", "[I", true)
  | 30 => ("LanternHouseModel", "hireTo", "[I", true)
  | 31 => ("LanternHouseModel", "hireFirst", "[I", true)
  | 32 => ("LanternHouseModel", "hireLast", "[I", true)
  | 33 => ("LanternHouseModel", "relations", "[I", true)
  | 34 => ("LanternHouseModel", "relSort", "[I", true)
  | 35 => ("LanternHouseModel", "relLeft", "[I", true)
  | 36 => ("LanternHouseModel", "relRight", "[I", true)
  | 37 => ("LanternHouseModel", "relEnd", "[I", true)
  | 38 => ("LanternHouseModel", "codes", "I", false)
  | 39 => ("LanternHouseModel", "code", "[I", true)
  | 40 => ("LanternHouseModel", "codeInt", "[I", true)
  | 41 => ("LanternHouseModel", "waits", "[I", true)
  | 42 => ("LanternHouseModel", "waiting", "I", false)
  | 43 => ("LanternHouseModel", "halls", "I", false)
  | 44 => ("LanternHouseModel", "trains", "I", false)
  | 45 => ("LanternHouseModel", "trainFrom", "[I", true)
  | 46 => ("LanternHouseModel", "trainTo", "[I", true)
  | 47 => ("LanternHouseModel", "trainHour", "[I", true)
  | 48 => ("LanternHouseModel", "trainTakes", "[I", true)
  | 49 => ("LanternHouseModel", "plates", "I", false)
  | 50 => ("LanternHouseModel", "kind", "[I", true)
  | 51 => ("LanternHouseModel", "cleaning", "I", false)
  | 52 => ("LanternHouseModel", "facts", "I", false)
  | 53 => ("LanternHouseModel", "factSort", "[I", true)
  | 54 => ("LanternHouseModel", "factOf", "[I", true)
  | 55 => ("LanternHouseModel", "factAt", "[I", true)
  | 56 => ("LanternHouseModel", "stillFor", "I", false)
  | 57 => ("LanternHouseModel", "still", "[Z", true)
  | 58 => ("LanternHouseModel", "soonest", "[I", true)
  | 59 => ("LanternHouseModel", "shows", "I", false)
  | 60 => ("LanternHouseModel", "night", "[I", true)
  | 61 => ("LanternHouseModel", "where", "[I", true)
  | 62 => ("LanternHouseModel", "lecture", "[I", true)
  | 63 => ("LanternHouseModel", "gas", "[I", true)
  | 64 => ("LanternHouseModel", "worth", "[I", true)
  | 65 => ("LanternHouseModel", "gets", "[I", true)
  | 66 => ("LanternHouseModel", "getsAs", "[I", true)
  | 67 => ("LanternHouseModel", "getsFrom", "[I", true)
  | 68 => ("LanternHouseModel", "getsAt", "[I", true)
  | 69 => ("LanternHouseModel", "missed", "I", false)
  | 70 => ("LanternHouseModel", "instead", "I", false)
  | 71 => ("LanternHouseModel", "plateAt", "[I", true)
  | 72 => ("LanternHouseModel", "plateFree", "[I", true)
  | 73 => ("LanternHouseModel", "inShow", "[Z", true)
  | 74 => ("LanternHouseModel", "isMade", "Z", false)
  | 75 => ("LanternHouseModel", "made", "I", false)
  | 76 => ("LanternHouseModel", "madeMissed", "I", false)
  | 77 => ("LanternHouseModel", "madeInstead", "I", false)
  | 78 => ("LanternHouseModel", "madeGets", "[I", true)
  | 79 => ("LanternHouseModel", "madeAs", "[I", true)
  | 80 => ("LanternHouseModel", "madeFrom", "[I", true)
  | 81 => ("LanternHouseModel", "madeAt", "[I", true)
  | 82 => ("LanternHouseModel", "variables", "[I", true)
  | 83 => ("LanternHouseModel", "begins", "[I", true)
  | 84 => ("LanternHouseModel", "isShown", "[Z", true)
  | 85 => ("LanternHouseModel", "firstDark", "I", false)
  | _ => ("LanternHouseModel", "pile", "[I", true)
def tyX12 : Nat → FieldType := fun k => match k with
  | 0 => .int
  | 1 => .array .byte
  | 2 => .int
  | 3 => .array .byte
  | 4 => .int
  | 5 => .array .int
  | 6 => .array .int
  | 7 => .array .int
  | 8 => .array .long
  | 9 => .array .long
  | 10 => .int
  | 11 => .int
  | 12 => .int
  | 13 => .int
  | 14 => .int
  | 15 => .int
  | 16 => .int
  | 17 => .int
  | 18 => .int
  | 19 => .int
  | 20 => .array .int
  | 21 => .array .long
  | 22 => .array .int
  | 23 => .array .int
  | 24 => .array .boolean
  | 25 => .array .int
  | 26 => .array .int
  | 27 => .array .int
  | 28 => .array .int
  | 29 => .array .int
  | 30 => .array .int
  | 31 => .array .int
  | 32 => .array .int
  | 33 => .array .int
  | 34 => .array .int
  | 35 => .array .int
  | 36 => .array .int
  | 37 => .array .int
  | 38 => .int
  | 39 => .array .int
  | 40 => .array .int
  | 41 => .array .int
  | 42 => .int
  | 43 => .int
  | 44 => .int
  | 45 => .array .int
  | 46 => .array .int
  | 47 => .array .int
  | 48 => .array .int
  | 49 => .int
  | 50 => .array .int
  | 51 => .int
  | 52 => .int
  | 53 => .array .int
  | 54 => .array .int
  | 55 => .array .int
  | 56 => .int
  | 57 => .array .boolean
  | 58 => .array .int
  | 59 => .int
  | 60 => .array .int
  | 61 => .array .int
  | 62 => .array .int
  | 63 => .array .int
  | 64 => .array .int
  | 65 => .array .int
  | 66 => .array .int
  | 67 => .array .int
  | 68 => .array .int
  | 69 => .int
  | 70 => .int
  | 71 => .array .int
  | 72 => .array .int
  | 73 => .array .boolean
  | 74 => .boolean
  | 75 => .int
  | 76 => .int
  | 77 => .int
  | 78 => .array .int
  | 79 => .array .int
  | 80 => .array .int
  | 81 => .array .int
  | 82 => .array .int
  | 83 => .array .int
  | 84 => .array .boolean
  | 85 => .int
  | _ => .array .int
abbrev wsX120 : List Cond := u_ws RX12 TX12 87
theorem nmX12 : ∀ a, a < 87 → ∀ b, b < 87 → a ≠ b → (TX12 a).2.1 ≠ (TX12 b).2.1 := by decide +kernel
theorem tyX12_ok : ∀ k, k < 87 → parseFieldDescriptor (TX12 k).2.2.1 = some (tyX12 k) := by decide +kernel
abbrev cX12_init : ByteArray := prog_14_method_2_code
def yX12_init : MethodName := ⟨RX12, "<init>", "()V"⟩
abbrev cX12_feed : ByteArray := prog_14_method_3_code
def yX12_feed : MethodName := ⟨RX12, "feed", "(IIIII)I"⟩
abbrev cX12_put : ByteArray := prog_14_method_4_code
def yX12_put : MethodName := ⟨RX12, "put", "(I)V"⟩
abbrev cX12_back : ByteArray := prog_14_method_5_code
def yX12_back : MethodName := ⟨RX12, "back", "(I)I"⟩
abbrev cX12_at : ByteArray := prog_14_method_6_code
def yX12_at : MethodName := ⟨RX12, "at", "(I)I"⟩
abbrev cX12_isDigit : ByteArray := prog_14_method_7_code
def yX12_isDigit : MethodName := ⟨RX12, "isDigit", "(I)Z"⟩
abbrev cX12_isLetter : ByteArray := prog_14_method_8_code
def yX12_isLetter : MethodName := ⟨RX12, "isLetter", "(I)Z"⟩
abbrev cX12_more : ByteArray := prog_14_method_9_code
def yX12_more : MethodName := ⟨RX12, "more", "(JI)J"⟩
abbrev cX12_word : ByteArray := prog_14_method_10_code
def yX12_word : MethodName := ⟨RX12, "word", "(IIIIIIII)J"⟩
abbrev cX12_token : ByteArray := prog_14_method_11_code
def yX12_token : MethodName := ⟨RX12, "token", "(IIIJ)V"⟩
abbrev cX12_cut : ByteArray := prog_14_method_12_code
def yX12_cut : MethodName := ⟨RX12, "cut", "()V"⟩
abbrev cX12_sign : ByteArray := prog_14_method_13_code
def yX12_sign : MethodName := ⟨RX12, "sign", "(III)I"⟩
abbrev cX12_is : ByteArray := prog_14_method_14_code
def yX12_is : MethodName := ⟨RX12, "is", "(I)Z"⟩
abbrev cX12_fail : ByteArray := prog_14_method_15_code
def yX12_fail : MethodName := ⟨RX12, "fail", "(I)V"⟩
abbrev cX12_wrong : ByteArray := prog_14_method_16_code
def yX12_wrong : MethodName := ⟨RX12, "wrong", "(II)V"⟩
abbrev cX12_next : ByteArray := prog_14_method_17_code
def yX12_next : MethodName := ⟨RX12, "next", "()V"⟩
abbrev cX12_must : ByteArray := prog_14_method_18_code
def yX12_must : MethodName := ⟨RX12, "must", "(I)V"⟩
abbrev cX12_read : ByteArray := prog_14_method_19_code
def yX12_read : MethodName := ⟨RX12, "read", "()I"⟩
abbrev cX12_place : ByteArray := prog_14_method_20_code
def yX12_place : MethodName := ⟨RX12, "place", "()I"⟩
abbrev cX12_tellLecture : ByteArray := prog_14_method_21_code
def yX12_tellLecture : MethodName := ⟨RX12, "tellLecture", "()V"⟩
abbrev cX12_tellCue : ByteArray := prog_14_method_22_code
def yX12_tellCue : MethodName := ⟨RX12, "tellCue", "(I)V"⟩
abbrev cX12_tellHire : ByteArray := prog_14_method_23_code
def yX12_tellHire : MethodName := ⟨RX12, "tellHire", "(I)V"⟩
abbrev cX12_relation : ByteArray := prog_14_method_24_code
def yX12_relation : MethodName := ⟨RX12, "relation", "()V"⟩
abbrev cX12_emit : ByteArray := prog_14_method_25_code
def yX12_emit : MethodName := ⟨RX12, "emit", "(II)V"⟩
abbrev cX12_comesOut : ByteArray := prog_14_method_26_code
def yX12_comesOut : MethodName := ⟨RX12, "comesOut", "(Z)V"⟩
abbrev cX12_expression : ByteArray := prog_14_method_27_code
def yX12_expression : MethodName := ⟨RX12, "expression", "()V"⟩
abbrev cX12_isHall : ByteArray := prog_14_method_28_code
def yX12_isHall : MethodName := ⟨RX12, "isHall", "(I)Z"⟩
abbrev cX12_isPlate : ByteArray := prog_14_method_29_code
def yX12_isPlate : MethodName := ⟨RX12, "isPlate", "(I)Z"⟩
abbrev cX12_isHour : ByteArray := prog_14_method_30_code
def yX12_isHour : MethodName := ⟨RX12, "isHour", "(I)Z"⟩
abbrev cX12_isKnown : ByteArray := prog_14_method_31_code
def yX12_isKnown : MethodName := ⟨RX12, "isKnown", "(I)Z"⟩
abbrev cX12_hall : ByteArray := prog_14_method_32_code
def yX12_hall : MethodName := ⟨RX12, "hall", "()I"⟩
abbrev cX12_train : ByteArray := prog_14_method_33_code
def yX12_train : MethodName := ⟨RX12, "train", "(IIII)I"⟩
abbrev cX12_plate : ByteArray := prog_14_method_34_code
def yX12_plate : MethodName := ⟨RX12, "plate", "(I)I"⟩
abbrev cX12_cleaning : ByteArray := prog_14_method_35_code
def yX12_cleaning : MethodName := ⟨RX12, "cleaning", "(I)Z"⟩
abbrev cX12_fact : ByteArray := prog_14_method_36_code
def yX12_fact : MethodName := ⟨RX12, "fact", "(III)I"⟩
abbrev cX12_cancel : ByteArray := prog_14_method_37_code
def yX12_cancel : MethodName := ⟨RX12, "cancel", "(II)I"⟩
abbrev cX12_look : ByteArray := prog_14_method_38_code
def yX12_look : MethodName := ⟨RX12, "look", "(IIZ)I"⟩
abbrev cX12_isBroken : ByteArray := prog_14_method_39_code
def yX12_isBroken : MethodName := ⟨RX12, "isBroken", "(III)Z"⟩
abbrev cX12_broken : ByteArray := prog_14_method_40_code
def yX12_broken : MethodName := ⟨RX12, "broken", "(III)I"⟩
abbrev cX12_knows : ByteArray := prog_14_method_41_code
def yX12_knows : MethodName := ⟨RX12, "knows", "(I)V"⟩
abbrev cX12_comesBy : ByteArray := prog_14_method_42_code
def yX12_comesBy : MethodName := ⟨RX12, "comesBy", "(III)I"⟩
abbrev cX12_wayTo : ByteArray := prog_14_method_43_code
def yX12_wayTo : MethodName := ⟨RX12, "wayTo", "(III)I"⟩
abbrev cX12_way : ByteArray := prog_14_method_44_code
def yX12_way : MethodName := ⟨RX12, "way", "(IIII)I"⟩
abbrev cX12_show : ByteArray := prog_14_method_45_code
def yX12_show : MethodName := ⟨RX12, "show", "(IIIII)I"⟩
abbrev cX12_keeps : ByteArray := prog_14_method_46_code
def yX12_keeps : MethodName := ⟨RX12, "keeps", "(II)Z"⟩
abbrev cX12_keepsShow : ByteArray := prog_14_method_47_code
def yX12_keepsShow : MethodName := ⟨RX12, "keepsShow", "(II)Z"⟩
abbrev cX12_takes : ByteArray := prog_14_method_48_code
def yX12_takes : MethodName := ⟨RX12, "takes", "(IIIII)V"⟩
abbrev cX12_worthOf : ByteArray := prog_14_method_49_code
def yX12_worthOf : MethodName := ⟨RX12, "worthOf", "(I)I"⟩
abbrev cX12_can : ByteArray := prog_14_method_50_code
def yX12_can : MethodName := ⟨RX12, "can", "(II)I"⟩
abbrev cX12_bits : ByteArray := prog_14_method_51_code
def yX12_bits : MethodName := ⟨RX12, "bits", "(I)I"⟩
abbrev cX12_makes : ByteArray := prog_14_method_52_code
def yX12_makes : MethodName := ⟨RX12, "makes", "(IZ)V"⟩
abbrev cX12_isAhead : ByteArray := prog_14_method_53_code
def yX12_isAhead : MethodName := ⟨RX12, "isAhead", "(IIIIZ)Z"⟩
abbrev cX12_make : ByteArray := prog_14_method_54_code
def yX12_make : MethodName := ⟨RX12, "make", "(I)I"⟩
abbrev cX12_mend : ByteArray := prog_14_method_55_code
def yX12_mend : MethodName := ⟨RX12, "mend", "(I)I"⟩
abbrev cX12_isKept : ByteArray := prog_14_method_56_code
def yX12_isKept : MethodName := ⟨RX12, "isKept", "(I)Z"⟩
abbrev cX12_told : ByteArray := prog_14_method_57_code
def yX12_told : MethodName := ⟨RX12, "told", "(II)I"⟩
abbrev cX12_goesThrough : ByteArray := prog_14_method_58_code
def yX12_goesThrough : MethodName := ⟨RX12, "goesThrough", "(I)V"⟩
abbrev cX12_value : ByteArray := prog_14_method_59_code
def yX12_value : MethodName := ⟨RX12, "value", "(II)I"⟩
abbrev cX12_holds : ByteArray := prog_14_method_60_code
def yX12_holds : MethodName := ⟨RX12, "holds", "(I)Z"⟩
abbrev cX12_hireOf : ByteArray := prog_14_method_61_code
def yX12_hireOf : MethodName := ⟨RX12, "hireOf", "(I)I"⟩
abbrev cX12_cue : ByteArray := prog_14_method_62_code
def yX12_cue : MethodName := ⟨RX12, "cue", "(III)I"⟩
abbrev cX12_showing : ByteArray := prog_14_method_63_code
def yX12_showing : MethodName := ⟨RX12, "showing", "(II)I"⟩
abbrev cX12_cueOf : ByteArray := prog_14_method_64_code
def yX12_cueOf : MethodName := ⟨RX12, "cueOf", "(II)I"⟩
abbrev cX12_blame : ByteArray := prog_14_method_65_code
def yX12_blame : MethodName := ⟨RX12, "blame", "(II)I"⟩
abbrev cX12_where : ByteArray := prog_14_method_66_code
def yX12_where : MethodName := ⟨RX12, "where", "(II)I"⟩
abbrev cX12_count : ByteArray := prog_14_method_67_code
def yX12_count : MethodName := ⟨RX12, "count", "(I)I"⟩
def RJ6 : String := "java/lang/Integer"
def TJ6 : u_T := fun k => match k with
  | _ => ("", "", "", false)
def tyJ6 : Nat → FieldType := fun k => match k with
  | _ => .int
abbrev cJ6_bitCount_0f7a4 : ByteArray := prog_15_method_49_code
def yJ6_bitCount_0f7a4 : MethodName := ⟨RJ6, "bitCount", "(I)I"⟩
def RJ9 : String := "java/lang/Math"
def TJ9 : u_T := fun k => match k with
  | _ => ("", "", "", false)
def tyJ9 : Nat → FieldType := fun k => match k with
  | _ => .int
abbrev cJ9_max_7cf53 : ByteArray := prog_16_method_65_code
def yJ9_max_7cf53 : MethodName := ⟨RJ9, "max", "(II)I"⟩
def RJ0 : String := "java/lang/String"
def TJ0 : u_T := fun k => match k with
  | _ => ("", "", "", false)
def tyJ0 : Nat → FieldType := fun k => match k with
  | _ => .int
abbrev cJ0_length_8abf5 : ByteArray := prog_17_method_54_code
def yJ0_length_8abf5 : MethodName := ⟨RJ0, "length", "()I"⟩
abbrev cJ0_charAt_5068e : ByteArray := prog_17_method_56_code
def yJ0_charAt_5068e : MethodName := ⟨RJ0, "charAt", "(I)C"⟩
abbrev cJ0_coder_7d493 : ByteArray := prog_17_method_152_code
def yJ0_coder_7d493 : MethodName := ⟨RJ0, "coder", "()B"⟩
abbrev cJ0_isLatin1_aae02 : ByteArray := prog_17_method_154_code
def yJ0_isLatin1_aae02 : MethodName := ⟨RJ0, "isLatin1", "()Z"⟩
abbrev cJ0_checkIndex_df160 : ByteArray := prog_17_method_155_code
def yJ0_checkIndex_df160 : MethodName := ⟨RJ0, "checkIndex", "(II)V"⟩
def RJ1 : String := "java/lang/StringLatin1"
def TJ1 : u_T := fun k => match k with
  | _ => ("", "", "", false)
def tyJ1 : Nat → FieldType := fun k => match k with
  | _ => .int
abbrev cJ1_charAt_3b067 : ByteArray := prog_18_method_2_code
def yJ1_charAt_3b067 : MethodName := ⟨RJ1, "charAt", "([BI)C"⟩
def RJ2 : String := "java/lang/StringUTF16"
def TJ2 : u_T := fun k => match k with
  | _ => ("", "", "", false)
def tyJ2 : Nat → FieldType := fun k => match k with
  | _ => .int
abbrev cJ2_getChar_3b067 : ByteArray := prog_19_method_5_code
def yJ2_getChar_3b067 : MethodName := ⟨RJ2, "getChar", "([BI)C"⟩
abbrev cJ2_length_9d52b : ByteArray := prog_19_method_6_code
def yJ2_length_9d52b : MethodName := ⟨RJ2, "length", "([B)I"⟩
abbrev cJ2_charAt_3b067 : ByteArray := prog_19_method_83_code
def yJ2_charAt_3b067 : MethodName := ⟨RJ2, "charAt", "([BI)C"⟩
abbrev cJ2_checkIndex_2214a : ByteArray := prog_19_method_91_code
def yJ2_checkIndex_2214a : MethodName := ⟨RJ2, "checkIndex", "(I[B)V"⟩
def RJ7 : String := "java/util/Arrays"
def TJ7 : u_T := fun k => match k with
  | _ => ("", "", "", false)
def tyJ7 : Nat → FieldType := fun k => match k with
  | _ => .int
abbrev cJ7_fill_d0a16 : ByteArray := prog_20_method_101_code
def yJ7_fill_d0a16 : MethodName := ⟨RJ7, "fill", "([JJ)V"⟩
abbrev cJ7_fill_53178 : ByteArray := prog_20_method_103_code
def yJ7_fill_53178 : MethodName := ⟨RJ7, "fill", "([II)V"⟩
def RJ3 : String := "jdk/internal/util/Preconditions"
def TJ3 : u_T := fun k => match k with
  | _ => ("", "", "", false)
def tyJ3 : Nat → FieldType := fun k => match k with
  | _ => .int
abbrev cJ3_checkIndex_8e157 : ByteArray := prog_21_method_11_code
def yJ3_checkIndex_8e157 : MethodName := ⟨RJ3, "checkIndex", "(IILjava/util/function/BiFunction;)I"⟩
def RL : String := "LanternHouseLaw"
abbrev cL_law : ByteArray := code
def yL_law : MethodName := ⟨RL, "law", "([I)Z"⟩
abbrev vwCl : List vw_C := [(RX0, TX0, 5), (RX1, TX1, 8), (RX2, TX2, 13), (RX3, TX3, 8), (RX4, TX4, 8), (RX5, TX5, 11), (RX6, TX6, 12), (RX7, TX7, 8), (RX8, TX8, 3), (RX9, TX9, 2), (RX10, TX10, 3), (RX11, TX11, 13), (RX12, TX12, 87)]
def wsX4_addHall : List Cond := .code yX4_addHall cX4_addHall 1 (some .int) :: ([.fieldLink RX4 31 "LanternHouse$Rails" "halls" "I"] ++ wsX40)
def wsX4_isHall : List Cond := .code yX4_isHall cX4_isHall 2 (some .boolean) :: ([.fieldLink RX4 31 "LanternHouse$Rails" "halls" "I"] ++ wsX40)
def wsX4_addTrain : List Cond := .code yX4_addTrain cX4_addTrain 5 (some .int) :: ([.fieldLink RX4 35 "LanternHouse$Rails" "trains" "I", .fieldLink RX4 11 "LanternHouse$Rails" "froms" "[I", .fieldLink RX4 15 "LanternHouse$Rails" "tos" "[I", .fieldLink RX4 18 "LanternHouse$Rails" "hours" "[I", .fieldLink RX4 21 "LanternHouse$Rails" "lengths" "[I", .methodLink RX4 38 yX4_isHall, .instanceMethod yX4_isHall, .selects RX4 yX4_isHall yX4_isHall, .initialized RX4, .code yX4_isHall cX4_isHall 2 (some .boolean), .fieldLink RX4 31 "LanternHouse$Rails" "halls" "I"] ++ wsX40)
def wsX11_hall : List Cond := .code yX11_hall cX11_hall 1 (some .int) :: ([.fieldLink RX11 35 "LanternHouse" "rails" "LLanternHouse$Rails;", .methodLink RX11 126 yX4_addHall, .instanceMethod yX4_addHall, .selects RX4 yX4_addHall yX4_addHall, .initialized RX4, .code yX4_addHall cX4_addHall 1 (some .int), .fieldLink RX4 31 "LanternHouse$Rails" "halls" "I"] ++ wsX110 ++ wsX40)
def wsX11_train : List Cond := .code yX11_train cX11_train 5 (some .int) :: ([.fieldLink RX11 35 "LanternHouse" "rails" "LLanternHouse$Rails;", .methodLink RX11 130 yX4_addTrain, .instanceMethod yX4_addTrain, .selects RX4 yX4_addTrain yX4_addTrain, .initialized RX4, .code yX4_addTrain cX4_addTrain 5 (some .int), .fieldLink RX4 35 "LanternHouse$Rails" "trains" "I", .fieldLink RX4 11 "LanternHouse$Rails" "froms" "[I", .fieldLink RX4 15 "LanternHouse$Rails" "tos" "[I", .fieldLink RX4 18 "LanternHouse$Rails" "hours" "[I", .fieldLink RX4 21 "LanternHouse$Rails" "lengths" "[I", .methodLink RX4 38 yX4_isHall, .instanceMethod yX4_isHall, .selects RX4 yX4_isHall yX4_isHall, .code yX4_isHall cX4_isHall 2 (some .boolean), .fieldLink RX4 31 "LanternHouse$Rails" "halls" "I"] ++ wsX110 ++ wsX40)
def wsX12_hall : List Cond := .code yX12_hall cX12_hall 1 (some .int) :: ([.fieldLink RX12 201 "LanternHouseModel" "halls" "I"] ++ wsX120)
theorem in_X11_hall_11 : ∀ w ∈ wsX110, w ∈ wsX11_hall := fun w h => List.mem_cons_of_mem _ (List.mem_append_left _ (List.mem_append_right _ h))
theorem in_X11_train_11 : ∀ w ∈ wsX110, w ∈ wsX11_train := fun w h => List.mem_cons_of_mem _ (List.mem_append_left _ (List.mem_append_right _ h))
theorem in_X12_hall_12 : ∀ w ∈ wsX120, w ∈ wsX12_hall := fun w h => List.mem_cons_of_mem _ (List.mem_append_right _ h)
theorem in_X4_addHall_4 : ∀ w ∈ wsX40, w ∈ wsX4_addHall := fun w h => List.mem_cons_of_mem _ (List.mem_append_right _ h)
theorem in_X4_addTrain_4 : ∀ w ∈ wsX40, w ∈ wsX4_addTrain := fun w h => List.mem_cons_of_mem _ (List.mem_append_right _ h)
theorem in_X4_isHall_4 : ∀ w ∈ wsX40, w ∈ wsX4_isHall := fun w h => List.mem_cons_of_mem _ (List.mem_append_right _ h)
end
section
theorem dX4_addHall_0 : decode cX4_addHall 0 = .ok (.aload_n 0, 1) := by decide +kernel
theorem dX4_addHall_1 : decode cX4_addHall 1 = .ok (.getfield 31, 3) := by decide +kernel
theorem dX4_addHall_4 : decode cX4_addHall 4 = .ok (.bipush 6, 2) := by decide +kernel
theorem dX4_addHall_6 : decode cX4_addHall 6 = .ok (.if_icmp .lt 5, 3) := by decide +kernel
theorem dX4_addHall_11 : decode cX4_addHall 11 = .ok (.aload_n 0, 1) := by decide +kernel
theorem dX4_addHall_12 : decode cX4_addHall 12 = .ok (.dup, 1) := by decide +kernel
theorem dX4_addHall_13 : decode cX4_addHall 13 = .ok (.getfield 31, 3) := by decide +kernel
theorem dX4_addHall_16 : decode cX4_addHall 16 = .ok (.iconst 1, 1) := by decide +kernel
theorem dX4_addHall_17 : decode cX4_addHall 17 = .ok (.iadd, 1) := by decide +kernel
theorem dX4_addHall_18 : decode cX4_addHall 18 = .ok (.putfield 31, 3) := by decide +kernel
theorem dX4_addHall_21 : decode cX4_addHall 21 = .ok (.aload_n 0, 1) := by decide +kernel
theorem dX4_addHall_22 : decode cX4_addHall 22 = .ok (.getfield 31, 3) := by decide +kernel
theorem dX4_addHall_25 : decode cX4_addHall 25 = .ok (.iconst 1, 1) := by decide +kernel
theorem dX4_addHall_26 : decode cX4_addHall 26 = .ok (.isub, 1) := by decide +kernel
theorem dX4_addHall_27 : decode cX4_addHall 27 = .ok (.ireturn, 1) := by decide +kernel
theorem dX4_isHall_0 : decode cX4_isHall 0 = .ok (.iload_n 1, 1) := by decide +kernel
theorem dX4_isHall_1 : decode cX4_isHall 1 = .ok (.ifCond .lt 15, 3) := by decide +kernel
theorem dX4_isHall_4 : decode cX4_isHall 4 = .ok (.iload_n 1, 1) := by decide +kernel
theorem dX4_isHall_5 : decode cX4_isHall 5 = .ok (.aload_n 0, 1) := by decide +kernel
theorem dX4_isHall_6 : decode cX4_isHall 6 = .ok (.getfield 31, 3) := by decide +kernel
theorem dX4_isHall_9 : decode cX4_isHall 9 = .ok (.if_icmp .ge 7, 3) := by decide +kernel
theorem dX4_isHall_12 : decode cX4_isHall 12 = .ok (.iconst 1, 1) := by decide +kernel
theorem dX4_isHall_13 : decode cX4_isHall 13 = .ok (.goto 4, 3) := by decide +kernel
theorem dX4_isHall_16 : decode cX4_isHall 16 = .ok (.iconst 0, 1) := by decide +kernel
theorem dX4_isHall_17 : decode cX4_isHall 17 = .ok (.ireturn, 1) := by decide +kernel
theorem dX4_addTrain_0 : decode cX4_addTrain 0 = .ok (.aload_n 0, 1) := by decide +kernel
theorem dX4_addTrain_1 : decode cX4_addTrain 1 = .ok (.getfield 35, 3) := by decide +kernel
theorem dX4_addTrain_4 : decode cX4_addTrain 4 = .ok (.bipush 16, 2) := by decide +kernel
theorem dX4_addTrain_6 : decode cX4_addTrain 6 = .ok (.if_icmp .ge 24, 3) := by decide +kernel
theorem dX4_addTrain_9 : decode cX4_addTrain 9 = .ok (.aload_n 0, 1) := by decide +kernel
theorem dX4_addTrain_10 : decode cX4_addTrain 10 = .ok (.iload_n 1, 1) := by decide +kernel
theorem dX4_addTrain_11 : decode cX4_addTrain 11 = .ok (.invokevirtual 38, 3) := by decide +kernel
theorem dX4_addTrain_14 : decode cX4_addTrain 14 = .ok (.ifCond .eq 16, 3) := by decide +kernel
theorem dX4_addTrain_17 : decode cX4_addTrain 17 = .ok (.aload_n 0, 1) := by decide +kernel
theorem dX4_addTrain_18 : decode cX4_addTrain 18 = .ok (.iload_n 2, 1) := by decide +kernel
theorem dX4_addTrain_19 : decode cX4_addTrain 19 = .ok (.invokevirtual 38, 3) := by decide +kernel
theorem dX4_addTrain_22 : decode cX4_addTrain 22 = .ok (.ifCond .eq 8, 3) := by decide +kernel
theorem dX4_addTrain_25 : decode cX4_addTrain 25 = .ok (.iload_n 1, 1) := by decide +kernel
theorem dX4_addTrain_26 : decode cX4_addTrain 26 = .ok (.iload_n 2, 1) := by decide +kernel
theorem dX4_addTrain_27 : decode cX4_addTrain 27 = .ok (.if_icmp .ne 5, 3) := by decide +kernel
theorem dX4_addTrain_30 : decode cX4_addTrain 30 = .ok (.iconst (-1), 1) := by decide +kernel
theorem dX4_addTrain_31 : decode cX4_addTrain 31 = .ok (.ireturn, 1) := by decide +kernel
theorem dX11_hall_0 : decode cX11_hall 0 = .ok (.aload_n 0, 1) := by decide +kernel
theorem dX11_hall_1 : decode cX11_hall 1 = .ok (.getfield 35, 3) := by decide +kernel
theorem dX11_hall_4 : decode cX11_hall 4 = .ok (.invokevirtual 126, 3) := by decide +kernel
theorem dX11_hall_7 : decode cX11_hall 7 = .ok (.ireturn, 1) := by decide +kernel
theorem dX11_train_0 : decode cX11_train 0 = .ok (.aload_n 0, 1) := by decide +kernel
theorem dX11_train_1 : decode cX11_train 1 = .ok (.getfield 35, 3) := by decide +kernel
theorem dX11_train_4 : decode cX11_train 4 = .ok (.iload_n 1, 1) := by decide +kernel
theorem dX11_train_5 : decode cX11_train 5 = .ok (.iload_n 2, 1) := by decide +kernel
theorem dX11_train_6 : decode cX11_train 6 = .ok (.iload_n 3, 1) := by decide +kernel
theorem dX11_train_7 : decode cX11_train 7 = .ok (.iload 4, 2) := by decide +kernel
theorem dX11_train_9 : decode cX11_train 9 = .ok (.invokevirtual 130, 3) := by decide +kernel
theorem dX11_train_12 : decode cX11_train 12 = .ok (.ireturn, 1) := by decide +kernel
theorem dX12_hall_0 : decode cX12_hall 0 = .ok (.aload_n 0, 1) := by decide +kernel
theorem dX12_hall_1 : decode cX12_hall 1 = .ok (.getfield 201, 3) := by decide +kernel
theorem dX12_hall_4 : decode cX12_hall 4 = .ok (.bipush 6, 2) := by decide +kernel
theorem dX12_hall_6 : decode cX12_hall 6 = .ok (.if_icmp .ne 5, 3) := by decide +kernel
theorem dX12_hall_11 : decode cX12_hall 11 = .ok (.aload_n 0, 1) := by decide +kernel
theorem dX12_hall_12 : decode cX12_hall 12 = .ok (.dup, 1) := by decide +kernel
theorem dX12_hall_13 : decode cX12_hall 13 = .ok (.getfield 201, 3) := by decide +kernel
theorem dX12_hall_16 : decode cX12_hall 16 = .ok (.iconst 1, 1) := by decide +kernel
theorem dX12_hall_17 : decode cX12_hall 17 = .ok (.iadd, 1) := by decide +kernel
theorem dX12_hall_18 : decode cX12_hall 18 = .ok (.putfield 201, 3) := by decide +kernel
theorem dX12_hall_21 : decode cX12_hall 21 = .ok (.aload_n 0, 1) := by decide +kernel
theorem dX12_hall_22 : decode cX12_hall 22 = .ok (.getfield 201, 3) := by decide +kernel
theorem dX12_hall_25 : decode cX12_hall 25 = .ok (.iconst 1, 1) := by decide +kernel
theorem dX12_hall_26 : decode cX12_hall 26 = .ok (.isub, 1) := by decide +kernel
theorem dX12_hall_27 : decode cX12_hall 27 = .ok (.ireturn, 1) := by decide +kernel
end
section
set_option maxRecDepth 20000 in
theorem ggX4_addTrain_X4_isHall : GoodIn wsX4_addTrain wsX4_isHall := goodIn_r _ [10, 11, 12, 13, 14, 15, 16, 17, 18, 19] (by decide +kernel) (by decide +kernel)
set_option maxRecDepth 20000 in
theorem gX4_addTrain_X4_isHall : GoodIn wsX4_addTrain (wsV RX4 38 RX4 yX4_isHall wsX4_isHall) := goodIn_app (goodIn_of _ (by decide +kernel)) ggX4_addTrain_X4_isHall
set_option maxRecDepth 20000 in
theorem ggX11_hall_X4_addHall : GoodIn wsX11_hall wsX4_addHall := goodIn_r _ [6, 7, 21, 22, 23, 24, 25, 26, 27, 28] (by decide +kernel) (by decide +kernel)
set_option maxRecDepth 20000 in
theorem gX11_hall_X4_addHall : GoodIn wsX11_hall (wsV RX11 126 RX4 yX4_addHall wsX4_addHall) := goodIn_app (goodIn_of _ (by decide +kernel)) ggX11_hall_X4_addHall
set_option maxRecDepth 20000 in
theorem ggX11_train_X4_addTrain : GoodIn wsX11_train wsX4_addTrain := goodIn_r _ [6, 7, 8, 9, 10, 11, 12, 13, 14, 5, 15, 16, 30, 31, 32, 33, 34, 35, 36, 37] (by decide +kernel) (by decide +kernel)
set_option maxRecDepth 20000 in
theorem gX11_train_X4_addTrain : GoodIn wsX11_train (wsV RX11 130 RX4 yX4_addTrain wsX4_addTrain) := goodIn_app (goodIn_of _ (by decide +kernel)) ggX11_train_X4_addTrain
end
section
abbrev zTY (cB cI cJ cZ cQ : ClassId) : List (ClassId × FieldType) := [(cB, .byte), (cI, .int), (cJ, .long), (cZ, .boolean), (cQ, .array .int)]
/-- int[][] is known -/
def zAO (U : State) : Prop := (Cond.arrayOver (.array .int)).before #[] U = true
theorem zAO.moved {u U : State} (hvm : u.vm.Alike U.vm) (h : zAO u) : zAO U := by
  obtain ⟨comp, c, k, h1, h2, h3, h4, h5⟩ := arrayOverA_spec h
  obtain ⟨k', hk', he⟩ := hvm.2.2 _ _ h3
  have hi : (U.vm.classes.findIdx? fun (x : Class) => match x.kind with | .array component _ => component == comp | _ => false) = some c := by
    have e1 := va_idx_bare U.vm comp
    have e2 := va_idx_bare u.vm comp
    have hb := hvm.bare_eq
    first | rw [hb] at e2 | rw [← hb] at e2
    exact e1.symm.trans (e2.trans h2)
  have hkind : k'.kind = .array comp (.array .int) := by rw [he]; exact h4
  have f1 : U.vm.findClass (FieldType.array .int).toString = some comp := by rw [hvm.findClass]; exact h1
  have f2 : U.vm.findClass ("[" ++ (FieldType.array .int).toString) = some c := by rw [hvm.findClass]; exact h5
  unfold zAO Cond.before Cond.holds
  simp only [Cond.value]
  rw [f1, Option.bind_some]
  refine (congrArg (fun o : Option Nat => (o.bind (fun c => (U.vm.classes[c]?).map fun (k : Class) => match k.kind with | .array _ ty => decide (ty = FieldType.array .int) && decide (U.vm.findClass ("[" ++ (FieldType.array .int).toString) = some c) | _ => false) == some true)) hi).trans ?_
  simp [hk', hkind, f2]
abbrev zPc (av : List Value) (D : va_G) (tys : List (ClassId × FieldType)) (ws : va_W) (sz : Nat) : Array Value → State → Prop := va_Pc av (fun U => U.heap.size = sz ∧ va_P D vwCl ws U.heap ∧ va_K D vwCl tys U ∧ zAO U ∧ va_D (fun _ => True) ws)
theorem zFB {av : List Value} {D : va_G} {tys : List (ClassId × FieldType)} {ws : va_W} {sz : Nat} : FrameBlind (zPc av D tys ws sz) := fun a U g mk q => by
  obtain ⟨q0, q1, qP, qK, qO, qD⟩ := q
  exact ⟨q0, q1, qP, va_K.moved (u := U) (U := U.calling g mk a) (Vm.Alike.refl U.vm) qK, zAO.moved (u := U) (U := U.calling g mk a) (Vm.Alike.refl U.vm) qO, qD⟩
theorem zUp {s U : State} {H : Heap} {av : List Value} {D : va_G} {tys : List (ClassId × FieldType)} {ws : va_W} {A : Nat → Prop} (hU : U.heap = H) (hW : s.WarmedH U.vm) (hP : va_P D vwCl ws H) (hK : va_K D vwCl tys s) (hO : zAO s) (hD : va_D A ws) : zPc av D tys ws H.size av.toArray U := ⟨rfl, by rw [hU], by rw [hU]; exact hP, va_K.moved hW.alike hK, zAO.moved hW.alike hO, hD.weaken (fun _ _ _ _ => trivial)⟩
theorem zNilP {D : va_G} {cl : List vw_C} {H : Heap} : va_P D cl [] H := fun k q h => by simp at h
theorem zNilD {A : Nat → Prop} : va_D A [] := ⟨fun i j p q h => by simp at h, fun k q h => by simp at h⟩
theorem zset_eq {fs : List Value} {k : Nat} {v : Value} (h : k < fs.length) : (List.set fs k v)[k]? = some v := by
  rw [List.getElem?_set_self h]
theorem zset_ne {fs : List Value} {k j : Nat} {v w : Value} (hne : k ≠ j) (h : fs[j]? = some w) : (List.set fs k v)[j]? = some w := by
  rw [List.getElem?_set_ne hne]; exact h
theorem zset_len {fs : List Value} {k n : Nat} {v : Value} (h : fs.length = n) : (List.set fs k v).length = n := by
  rw [List.length_set]; exact h
theorem zfr {fs : List Value} {k j : Nat} {v : Value} {S : List Nat} (hk : k ∈ S) (hj : ¬ j ∈ S) : (List.set fs k v)[j]? = fs[j]? := List.getElem?_set_ne (fun (e : k = j) => hj (e ▸ hk))
theorem zfs {fs gs : List Value} {S T : List Nat} {j : Nat} (h : ∀ j : Nat, ¬ j ∈ S → gs[j]? = fs[j]?) (hs : ∀ x ∈ S, x ∈ T) (hj : ¬ j ∈ T) : gs[j]? = fs[j]? := h j (fun e => hj (hs j e))
theorem z_inj {x y : Int32} (h : x.toInt = y.toInt) : x = y := Int32.toInt_inj.mp h
theorem zi_m1 : (-1 : Int32).toInt = -1 := by decide
theorem zi_0 : (0 : Int32).toInt = 0 := by decide
theorem zi_1 : (1 : Int32).toInt = 1 := by decide
theorem zi_6 : (6 : Int32).toInt = 6 := by decide
theorem zi_8 : (8 : Int32).toInt = 8 := by decide
theorem zi_16 : (16 : Int32).toInt = 16 := by decide
theorem zi_20 : (20 : Int32).toInt = 20 := by decide
theorem zi_23 : (23 : Int32).toInt = 23 := by decide
theorem zi_24 : (24 : Int32).toInt = 24 := by decide
theorem zi_27 : (27 : Int32).toInt = 27 := by decide
theorem zi_29 : (29 : Int32).toInt = 29 := by decide
theorem zi_30 : (30 : Int32).toInt = 30 := by decide
theorem zi_40 : (40 : Int32).toInt = 40 := by decide
theorem zi_500 : (500 : Int32).toInt = 500 := by decide
theorem zi_700 : (700 : Int32).toInt = 700 := by decide
theorem zi_1000 : (1000 : Int32).toInt = 1000 := by decide
theorem zra_B (U : State) (c1 c2 : ClassId) (h1 : va_RA U c1 .byte) (h2 : va_RA U c2 .byte) : c1 = c2 := by
  simp only [va_RA] at h1 h2; exact Option.some.inj (h1.symm.trans h2)
theorem zra_I (U : State) (c1 c2 : ClassId) (h1 : va_RA U c1 .int) (h2 : va_RA U c2 .int) : c1 = c2 := by
  simp only [va_RA] at h1 h2; exact Option.some.inj (h1.symm.trans h2)
theorem zra_J (U : State) (c1 c2 : ClassId) (h1 : va_RA U c1 .long) (h2 : va_RA U c2 .long) : c1 = c2 := by
  simp only [va_RA] at h1 h2; exact Option.some.inj (h1.symm.trans h2)
theorem zra_Z (U : State) (c1 c2 : ClassId) (h1 : va_RA U c1 .boolean) (h2 : va_RA U c2 .boolean) : c1 = c2 := by
  simp only [va_RA] at h1 h2; exact Option.some.inj (h1.symm.trans h2)
theorem zra_Q (U : State) (c1 c2 : ClassId) (h1 : va_RA U c1 (.array .int)) (h2 : va_RA U c2 (.array .int)) : c1 = c2 := by
  simp only [va_RA] at h1 h2; exact Option.some.inj (h1.symm.trans h2)
theorem z_pl9 {r : Nat → Nat} {f : Nat → va_E} {x : va_E} : va_pl ([] ++ (List.range 9).map r) (vr_up f ((List.range 9).map r) x) = [(r 0, x), (r 1, x), (r 2, x), (r 3, x), (r 4, x), (r 5, x), (r 6, x), (r 7, x), (r 8, x)] := by
  simp [va_pl, vr_up, List.range, List.range.loop]
section ZW
variable {p : Program} {l : Launch} {e : Env} {R : Room} {s : State} {m : MethodId} {args : Array Value} {below : List Frame} {meth : Method} {c : Code} {H H0 : Heap} {locs : List Loc} {cells slots : Nat} {Q : State → Prop} {A : Nat → Prop} {D : va_G} {cl : List vw_C} {ws : va_W} {tys : List (ClassId × FieldType)} {cc : ByteArray} {pc : Nat} {ls : Array Slot} {rest : List Value} {a : Nat}
theorem zH0 {g : JFrame} (k : ∀ H : Heap, va_P D cl ws H → va_S A s.heap H [] → W p l e R s m args below meth c H [] cells slots Q g) (hP : va_P D cl ws s.heap) (hS : va_S A s.heap s.heap []) : W p l e R s m args below meth c s.heap [] cells slots Q g := k _ hP hS
theorem z_newa {t0 : Nat} {cA : ClassId} (hexec : p.tables.exec = Jvm.exec) (hb : c.code = cc) {atype : ArrayType} (harr : (Cond.arrayClass (newarray.typeOf atype)).before args s = true) {ty : FieldType} (hty : newarray.typeOf atype = ty) (hK : va_K D cl tys s) (ht : tys[t0]? = some (cA, ty)) (hra : ∀ (U : State) (c1 c2 : ClassId), va_RA U c1 ty → va_RA U c2 ty → c1 = c2) (hP : va_P D cl ws H) (hD : va_D A ws) (hS : va_S A H0 H locs) (hA : ∀ q, H0.size ≤ q → A q)
    {n : Int32} {N' : Nat} {a0 : vp_A} (ha : ∀ cA : ClassId, vp_cell cA a0 = arrV cA N' (fun _ => defaultValue ty)) (hn : ¬ n < 0) (hN : n.toNatClampNeg = N') (hbytes : N' * componentBytes ty ≤ 536870912) (hcells : cells + 1 ≤ R.cells) (hslots : slots + N' ≤ R.slots) (hdg : decode cc pc = .ok (.newarray atype, 2))
    (kk : ∀ (q : Nat) (H1 : Heap), va_P D cl (ws ++ [(q, .inl (cA, a0))]) H1 → va_D A (ws ++ [(q, .inl (cA, a0))]) → va_S A H0 H1 locs →
      W p l e R s m args below meth c H1 locs (cells + 1) (slots + N') Q (F0 m (pc + 2) ls (.ref q :: rest))) : W p l e R s m args below meth c H locs cells slots Q (F0 m pc ls (.int n :: rest)) := by
  refine va_newa hexec hb harr hty hK hP hD hS hA ha hn hN hbytes hcells hslots hdg (fun q c2 H1 hK2 hP2 hD2 hS2 => ?_)
  have e9 : c2 = cA := hra s _ _ (hK2.2 tys.length (c2, ty) (by simp)).2 (hK.2 t0 _ ht).2
  subst e9
  exact kk q H1 hP2 hD2 hS2
theorem z_iald (hexec : p.tables.exec = Jvm.exec) (hb : c.code = cc) (hK : va_K D cl tys s) (hP : va_P D cl ws H) (q0 t0 : Nat) {cA : ClassId} {n : Nat} {f : Nat → Int32} (ha : ws[q0]? = some (a, .inl (cA, n, .inl f))) (ht : tys[t0]? = some (cA, .int)) {i : Int32} (hin : vp_in i n) {v : Int32} (hv : f i.toNatClampNeg = v) (hdg : decode cc pc = .ok (.iaload, 1))
    (kk : W p l e R s m args below meth c H locs cells slots Q (F0 m (pc + 1) ls (.int v :: rest))) : W p l e R s m args below meth c H locs cells slots Q (F0 m pc ls (.int i :: .ref a :: rest)) :=
  va_iald hexec hb hK hP q0 t0 ha ht hin hdg (by rw [hv]; exact kk)
theorem z_lald (hexec : p.tables.exec = Jvm.exec) (hb : c.code = cc) (hK : va_K D cl tys s) (hP : va_P D cl ws H) (q0 t0 : Nat) {cA : ClassId} {n : Nat} {f : Nat → Int64} (ha : ws[q0]? = some (a, .inl (cA, n, .inr (.inl f)))) (ht : tys[t0]? = some (cA, .long)) {i : Int32} (hin : vp_in i n) {v : Int64} (hv : f i.toNatClampNeg = v) (hdg : decode cc pc = .ok (.laload, 1))
    (kk : W p l e R s m args below meth c H locs cells slots Q (F0 m (pc + 1) ls (.long v :: rest))) : W p l e R s m args below meth c H locs cells slots Q (F0 m pc ls (.int i :: .ref a :: rest)) :=
  va_lald hexec hb hK hP q0 t0 ha ht hin hdg (by rw [hv]; exact kk)
theorem z_aald (hexec : p.tables.exec = Jvm.exec) (hb : c.code = cc) (hK : va_K D cl tys s) (hP : va_P D cl ws H) (q0 t0 : Nat) {cA : ClassId} {n : Nat} {f : Nat → Option Nat} (ha : ws[q0]? = some (a, .inl (cA, n, .inr (.inr (.inr (.inr f)))))) (ht : tys[t0]? = some (cA, .array .int)) {i : Int32} (hin : vp_in i n) {v : Option Nat} (hv : f i.toNatClampNeg = v) (hdg : decode cc pc = .ok (.aaload, 1))
    (kk : W p l e R s m args below meth c H locs cells slots Q (F0 m (pc + 1) ls (va_rf v :: rest))) : W p l e R s m args below meth c H locs cells slots Q (F0 m pc ls (.int i :: .ref a :: rest)) := by
  subst hv
  have hlt : i.toNatClampNeg < n := Nat.not_le.mp fun q => hin (Or.inr q)
  exact W.aald (v := va_rf (f i.toNatClampNeg)) (ty := .array .int) hexec hb (hP q0 _ ha) ((hK.2 t0 _ ht).1 n (fun j => va_rf (f j))) rfl (fun q => by cases q) (by show ¬ (i < 0 ∨ (arrV _ _ _).slots.size ≤ _); rw [arrV_size]; exact hin) (by show (arrV _ _ _).slots[_]? = _; rw [arrV_read _ _ hlt]) rfl rfl hdg kk
theorem z_iast (hexec : p.tables.exec = Jvm.exec) (hb : c.code = cc) (hK : va_K D cl tys s) (hP : va_P D cl ws H) (hD : va_D A ws) (hS : va_S A H0 H locs) (q0 t0 : Nat) {cA : ClassId} {n : Nat} {f : Nat → Int32} (ha : ws[q0]? = some (a, .inl (cA, n, .inl f))) (ht : tys[t0]? = some (cA, .int)) {i : Int32} {x : Int32} (hin : vp_in i n) (hdg : decode cc pc = .ok (.iastore, 1))
    (kk : ∀ (H1 : Heap) (locs1 : List Loc) (g : Nat → Int32), g i.toNatClampNeg = x → va_P D cl (ws.set q0 (a, .inl (cA, n, .inl g))) H1 → va_D A (ws.set q0 (a, .inl (cA, n, .inl g))) → va_S A H0 H1 locs1 → W p l e R s m args below meth c H1 locs1 cells slots Q (F0 m (pc + 1) ls rest)) : W p l e R s m args below meth c H locs cells slots Q (F0 m pc ls (.int x :: .int i :: .ref a :: rest)) :=
  va_iast hexec hb hK hP hD hS q0 t0 ha ht hin hdg (fun H1 l1 h1 h2 h3 => kk H1 l1 _ (by simp [upd]) h1 h2 h3)
theorem z_bast (hexec : p.tables.exec = Jvm.exec) (hb : c.code = cc) (hK : va_K D cl tys s) (hP : va_P D cl ws H) (hD : va_D A ws) (hS : va_S A H0 H locs) (q0 t0 : Nat) {cA : ClassId} {n : Nat} {f : Nat → Int32} (ha : ws[q0]? = some (a, .inl (cA, n, .inl f))) (ht : tys[t0]? = some (cA, .byte)) {i : Int32} {x : Int32} (hin : vp_in i n) (hdg : decode cc pc = .ok (.bastore, 1))
    (kk : ∀ (H1 : Heap) (locs1 : List Loc) (g : Nat → Int32), True → va_P D cl (ws.set q0 (a, .inl (cA, n, .inl g))) H1 → va_D A (ws.set q0 (a, .inl (cA, n, .inl g))) → va_S A H0 H1 locs1 → W p l e R s m args below meth c H1 locs1 cells slots Q (F0 m (pc + 1) ls rest)) : W p l e R s m args below meth c H locs cells slots Q (F0 m pc ls (.int x :: .int i :: .ref a :: rest)) :=
  va_bast hexec hb hK hP hD hS q0 t0 ha ht hin hdg (fun H1 l1 h1 h2 h3 => kk H1 l1 _ trivial h1 h2 h3)
theorem z_zast (hexec : p.tables.exec = Jvm.exec) (hb : c.code = cc) (hK : va_K D cl tys s) (hP : va_P D cl ws H) (hD : va_D A ws) (hS : va_S A H0 H locs) (q0 t0 : Nat) {cA : ClassId} {n : Nat} {f : Nat → Int32} (ha : ws[q0]? = some (a, .inl (cA, n, .inl f))) (ht : tys[t0]? = some (cA, .boolean)) {i : Int32} {x : Int32} (hin : vp_in i n) (hdg : decode cc pc = .ok (.bastore, 1))
    (kk : ∀ (H1 : Heap) (locs1 : List Loc) (g : Nat → Int32), True → va_P D cl (ws.set q0 (a, .inl (cA, n, .inl g))) H1 → va_D A (ws.set q0 (a, .inl (cA, n, .inl g))) → va_S A H0 H1 locs1 → W p l e R s m args below meth c H1 locs1 cells slots Q (F0 m (pc + 1) ls rest)) : W p l e R s m args below meth c H locs cells slots Q (F0 m pc ls (.int x :: .int i :: .ref a :: rest)) :=
  va_zast hexec hb hK hP hD hS q0 t0 ha ht hin hdg (fun H1 l1 h1 h2 h3 => kk H1 l1 _ trivial h1 h2 h3)
theorem z_last (hexec : p.tables.exec = Jvm.exec) (hb : c.code = cc) (hK : va_K D cl tys s) (hP : va_P D cl ws H) (hD : va_D A ws) (hS : va_S A H0 H locs) (q0 t0 : Nat) {cA : ClassId} {n : Nat} {f : Nat → Int64} (ha : ws[q0]? = some (a, .inl (cA, n, .inr (.inl f)))) (ht : tys[t0]? = some (cA, .long)) {i : Int32} {x : Int64} (hin : vp_in i n) (hdg : decode cc pc = .ok (.lastore, 1))
    (kk : ∀ (H1 : Heap) (locs1 : List Loc) (g : Nat → Int64), True → va_P D cl (ws.set q0 (a, .inl (cA, n, .inr (.inl g)))) H1 → va_D A (ws.set q0 (a, .inl (cA, n, .inr (.inl g)))) → va_S A H0 H1 locs1 → W p l e R s m args below meth c H1 locs1 cells slots Q (F0 m (pc + 1) ls rest)) : W p l e R s m args below meth c H locs cells slots Q (F0 m pc ls (.long x :: .int i :: .ref a :: rest)) :=
  va_last hexec hb hK hP hD hS q0 t0 ha ht hin hdg (fun H1 l1 h1 h2 h3 => kk H1 l1 _ trivial h1 h2 h3)
end ZW
end
section
abbrev ws_c_addHall (cB cI cJ cZ cQ : ClassId) (aRa : Nat) (fsaRa : List Value) : va_W := [(aRa, .inr (4, fsaRa))]
set_option maxHeartbeats 4000000 in
set_option maxRecDepth 100000 in
theorem c_addHall (l : Launch) (dC : Nat → ClassId) (dI : Nat → Nat → Nat) (cB cI cJ cZ cQ : ClassId) (aRa : Nat) (fsaRa : List Value) (sz : Nat) (hlaRa : fsaRa.length = 8) (haRa_6 : fsaRa[6]? = some (.int 1)) : Met l yX4_addHall wsX4_addHall ({ frames := 0, cells := 0, slots := 0, locals := 0 } : Room) (zPc [.ref aRa] (dC, dI) (zTY cB cI cJ cZ cQ) (ws_c_addHall cB cI cJ cZ cQ aRa fsaRa) sz) (va_Qi (fun (zr : Int32) (_ : Unit) => zr = 1) (fun (_ : Unit) (_ : State) => True) (va_A (ws_c_addHall cB cI cJ cZ cQ aRa fsaRa) sz)) 0 0 (va_A (ws_c_addHall cB cI cJ cZ cQ aRa fsaRa) sz) := by
  refine Met.ofW (cc := cX4_addHall) (maxL := 1) (ret := (some .int)) (by decide) rfl ?_
  intro p e s m args below meth c s₁ B hml hv
  obtain ⟨rfl, hsz, hP0, hK, hO, hD0⟩ := hv
  have hx := B.exec
  have hb := B.bytes
  have hr := B.returns
  have hts := atoms_spec (ws := wsX4_addHall) B.pre
  have hown : s.vm.findClass RX4 = some m.cls := findClass_of_methodNamed B.named
  have hlocks := B.notSynchronized
  subst hsz
  have hD8 := hD0.self (sz := s.heap.size)
  generalize hAe : va_A (ws_c_addHall cB cI cJ cZ cQ aRa fsaRa) s.heap.size = A at hD8 ⊢
  have hA : ∀ q : Nat, s.heap.size ≤ q → A q := fun q h => by rw [← hAe]; exact Or.inr h
  have hS : va_S A s.heap s.heap [] := va_S.rf
  have hP : va_P (dC, dI) vwCl [(aRa, .inr (4, fsaRa))] s.heap := hP0
  have hD : va_D A [(aRa, .inr (4, fsaRa))] := hD8
  have hl := lv_entry ([.ref aRa]) (n := 1) (Nat.le_of_ble_eq_true rfl)
  rw [lg_entry_eq]
  generalize (lg_sl ([.ref aRa]) ++ List.replicate (1 - (lg_sl ([.ref aRa])).length) Slot.unset).toArray = ls at hl ⊢
  have hl : lv_has ls 1 [(0, .ref aRa)] := hl
  clear hP0 hD8 hD0
  refine zH0 (fun H hP hS => ?_) hP hS
  refine lv_aload_n hx hb dX4_addHall_0 rfl (lv_at hl 0 rfl) ?_
  refine va_get (D := (dC, dI)) (ci := 4) (v := .int 1) (C := RX4) (T := TX4) (N := 8) hx hb hts in_X4_addHall_4 hown hK hP 0 rfl rfl 6 (by decide) (hts (.fieldLink RX4 31 "LanternHouse$Rails" "halls" "I") (by decide +kernel)) (fun _ h9 => h9) haRa_6 dX4_addHall_1 ?_
  refine lv_bipush (v := 6) hx hb dX4_addHall_4 (by decide) ?_
  refine lv_icmp_lt (tgt := 11) hx hb dX4_addHall_6 (by decide) (fun _ => ?_) (fun zc => absurd zc (by decide))
  refine lv_aload_n hx hb dX4_addHall_11 rfl (lv_at hl 0 rfl) ?_
  refine lv_dup hx hb dX4_addHall_12 rfl ?_
  refine va_get (D := (dC, dI)) (ci := 4) (v := .int 1) (C := RX4) (T := TX4) (N := 8) hx hb hts in_X4_addHall_4 hown hK hP 0 rfl rfl 6 (by decide) (hts (.fieldLink RX4 31 "LanternHouse$Rails" "halls" "I") (by decide +kernel)) (fun _ h9 => h9) haRa_6 dX4_addHall_13 ?_
  refine lv_iconst (v := 1) hx hb dX4_addHall_16 (by decide) ?_
  refine lv_iadd hx hb dX4_addHall_17 ?_
  refine lv_topi (fun x1 ex1 => ?_)
  obtain rfl : x1 = 2 := ex1.trans (by decide)
  refine va_put (D := (dC, dI)) (ci := 4) (v := .int 2) (ty := .int) (C := RX4) (T := TX4) (N := 8) hx hb hts in_X4_addHall_4 tyX4 tyX4_ok nmX4 hown hK hP hD hS 0 rfl rfl 6 (by decide) (hts (.fieldLink RX4 31 "LanternHouse$Rails" "halls" "I") (by decide +kernel)) (fun _ h9 => h9) rfl (by decide +kernel) rfl rfl (by rw [hlaRa]; decide) dX4_addHall_18 (fun H locs hP hD hS => ?_)
  have hP : va_P (dC, dI) vwCl [(aRa, .inr (4, (List.set fsaRa 6 (.int 2))))] H := hP
  have hD : va_D A [(aRa, .inr (4, (List.set fsaRa 6 (.int 2))))] := hD
  refine lv_aload_n hx hb dX4_addHall_21 rfl (lv_at hl 0 rfl) ?_
  refine va_get (D := (dC, dI)) (ci := 4) (v := .int 2) (C := RX4) (T := TX4) (N := 8) hx hb hts in_X4_addHall_4 hown hK hP 0 rfl rfl 6 (by decide) (hts (.fieldLink RX4 31 "LanternHouse$Rails" "halls" "I") (by decide +kernel)) (fun _ h9 => h9) (zset_eq (by rw [hlaRa]; decide)) dX4_addHall_22 ?_
  refine lv_iconst (v := 1) hx hb dX4_addHall_25 (by decide) ?_
  refine lv_isub hx hb dX4_addHall_26 ?_
  refine lv_topi (fun x2 ex2 => ?_)
  obtain rfl : x2 = 1 := ex2.trans (by decide)
  exact W.iret (v := 1) hx hb hr (fun t ht hW => ⟨⟨1, (), rfl, rfl, trivial⟩, hS.F ht⟩) hS.2.2 dX4_addHall_27

abbrev ws_c_isHall (cB cI cJ cZ cQ : ClassId) (aRa : Nat) (iH : Int32) (fsaRa : List Value) : va_W := [(aRa, .inr (4, fsaRa))]
set_option maxHeartbeats 4000000 in
set_option maxRecDepth 100000 in
theorem c_isHall (l : Launch) (dC : Nat → ClassId) (dI : Nat → Nat → Nat) (cB cI cJ cZ cQ : ClassId) (aRa : Nat) (iH : Int32) (fsaRa : List Value) (sz : Nat) (hlaRa : fsaRa.length = 8) (haRa_6 : fsaRa[6]? = some (.int 1)) : Met l yX4_isHall wsX4_isHall ({ frames := 0, cells := 0, slots := 0, locals := 0 } : Room) (zPc [.ref aRa, .int iH] (dC, dI) (zTY cB cI cJ cZ cQ) (ws_c_isHall cB cI cJ cZ cQ aRa iH fsaRa) sz) (va_Qi (fun (zr : Int32) (_ : Unit) => (zr = 1 ∧ iH = 0) ∨ (zr = 0 ∧ ¬ iH = 0)) (fun (_ : Unit) (t : State) => ∃ (gsaRa : List Value), gsaRa.length = 8 ∧ (∀ j : Nat, ¬ j ∈ ([] : List Nat) → gsaRa[j]? = fsaRa[j]?) ∧ va_P (dC, dI) vwCl [(aRa, .inr (4, gsaRa))] t.heap ∧ va_D (va_A (ws_c_isHall cB cI cJ cZ cQ aRa iH fsaRa) sz) [(aRa, .inr (4, gsaRa))]) (va_A (ws_c_isHall cB cI cJ cZ cQ aRa iH fsaRa) sz)) 0 0 (va_A (ws_c_isHall cB cI cJ cZ cQ aRa iH fsaRa) sz) := by
  refine Met.ofW (cc := cX4_isHall) (maxL := 2) (ret := (some .boolean)) (by decide) rfl ?_
  intro p e s m args below meth c s₁ B hml hv
  obtain ⟨rfl, hsz, hP0, hK, hO, hD0⟩ := hv
  have hx := B.exec
  have hb := B.bytes
  have hr := B.returns
  have hts := atoms_spec (ws := wsX4_isHall) B.pre
  have hown : s.vm.findClass RX4 = some m.cls := findClass_of_methodNamed B.named
  have hlocks := B.notSynchronized
  subst hsz
  have hD8 := hD0.self (sz := s.heap.size)
  generalize hAe : va_A (ws_c_isHall cB cI cJ cZ cQ aRa iH fsaRa) s.heap.size = A at hD8 ⊢
  have hA : ∀ q : Nat, s.heap.size ≤ q → A q := fun q h => by rw [← hAe]; exact Or.inr h
  have hS : va_S A s.heap s.heap [] := va_S.rf
  have hP : va_P (dC, dI) vwCl [(aRa, .inr (4, fsaRa))] s.heap := hP0
  have hD : va_D A [(aRa, .inr (4, fsaRa))] := hD8
  have hl := lv_entry ([.ref aRa, .int iH]) (n := 2) (Nat.le_of_ble_eq_true rfl)
  rw [lg_entry_eq]
  generalize (lg_sl ([.ref aRa, .int iH]) ++ List.replicate (2 - (lg_sl ([.ref aRa, .int iH])).length) Slot.unset).toArray = ls at hl ⊢
  have hl : lv_has ls 2 [(0, .ref aRa), (1, .int iH)] := hl
  clear hP0 hD8 hD0
  refine zH0 (fun H hP hS => ?_) hP hS
  refine lv_iload_n hx hb dX4_isHall_0 rfl (lv_at hl 1 rfl) ?_
  refine lv_if_lt (tgt := 16) hx hb dX4_isHall_1 (by decide) (fun c1 => ?_) (fun c1 => ?_)
  · skip
    refine lv_iconst (v := 0) hx hb dX4_isHall_16 (by decide) ?_
    have hP9 : va_P (dC, dI) vwCl [(aRa, .inr (4, fsaRa))] H := hP.sub [0] rfl
    have hD9 : va_D A [(aRa, .inr (4, fsaRa))] := hD.sub [0] (by decide) rfl
    exact W.zret (v := 0) hx hb hr rfl (fun t ht hW => ⟨⟨0, (), rfl, (Or.inr ⟨rfl, (by simp only [Int32.lt_iff_toInt_lt, Int32.le_iff_toInt_le, ← Int32.toInt_inj, zi_m1, zi_0, zi_1, zi_6, zi_8, zi_16, zi_20, zi_23, zi_24, zi_27, zi_29, zi_30, zi_40, zi_500, zi_700, zi_1000] at c1 ⊢<;> omega)⟩), ⟨fsaRa, hlaRa, (fun j hj => rfl), by rw [ht]; exact hP9, hD9⟩⟩, hS.F ht⟩) hS.2.2 dX4_isHall_17
  · skip
    refine lv_iload_n hx hb dX4_isHall_4 rfl (lv_at hl 1 rfl) ?_
    refine lv_aload_n hx hb dX4_isHall_5 rfl (lv_at hl 0 rfl) ?_
    refine va_get (D := (dC, dI)) (ci := 4) (v := .int 1) (C := RX4) (T := TX4) (N := 8) hx hb hts in_X4_isHall_4 hown hK hP 0 rfl rfl 6 (by decide) (hts (.fieldLink RX4 31 "LanternHouse$Rails" "halls" "I") (by decide +kernel)) (fun _ h9 => h9) haRa_6 dX4_isHall_6 ?_
    refine lv_icmp_ge (tgt := 16) hx hb dX4_isHall_9 (by decide) (fun c2 => ?_) (fun c2 => ?_)
    · skip
      refine lv_iconst (v := 0) hx hb dX4_isHall_16 (by decide) ?_
      have hP9 : va_P (dC, dI) vwCl [(aRa, .inr (4, fsaRa))] H := hP.sub [0] rfl
      have hD9 : va_D A [(aRa, .inr (4, fsaRa))] := hD.sub [0] (by decide) rfl
      exact W.zret (v := 0) hx hb hr rfl (fun t ht hW => ⟨⟨0, (), rfl, (Or.inr ⟨rfl, (by simp only [Int32.lt_iff_toInt_lt, Int32.le_iff_toInt_le, ← Int32.toInt_inj, zi_m1, zi_0, zi_1, zi_6, zi_8, zi_16, zi_20, zi_23, zi_24, zi_27, zi_29, zi_30, zi_40, zi_500, zi_700, zi_1000] at c1 c2 ⊢<;> omega)⟩), ⟨fsaRa, hlaRa, (fun j hj => rfl), by rw [ht]; exact hP9, hD9⟩⟩, hS.F ht⟩) hS.2.2 dX4_isHall_17
    · skip
      have ziH : iH = 0 := z_inj (by simp only [Int32.lt_iff_toInt_lt, Int32.le_iff_toInt_le, ← Int32.toInt_inj, zi_m1, zi_0, zi_1, zi_6, zi_8, zi_16, zi_20, zi_23, zi_24, zi_27, zi_29, zi_30, zi_40, zi_500, zi_700, zi_1000] at c1 c2 ⊢<;> omega)
      subst ziH
      refine lv_iconst (v := 1) hx hb dX4_isHall_12 (by decide) ?_
      refine lv_goto (tgt := 17) hx hb dX4_isHall_13 (by decide) ?_
      have hP9 : va_P (dC, dI) vwCl [(aRa, .inr (4, fsaRa))] H := hP.sub [0] rfl
      have hD9 : va_D A [(aRa, .inr (4, fsaRa))] := hD.sub [0] (by decide) rfl
      exact W.zret (v := 1) hx hb hr rfl (fun t ht hW => ⟨⟨1, (), rfl, (Or.inl ⟨rfl, (by decide)⟩), ⟨fsaRa, hlaRa, (fun j hj => rfl), by rw [ht]; exact hP9, hD9⟩⟩, hS.F ht⟩) hS.2.2 dX4_isHall_17

abbrev ws_c_addTrain (cB cI cJ cZ cQ : ClassId) (aRa : Nat) (iFr : Int32) (iTo : Int32) (iHr : Int32) (iTa : Int32) (fsaRa : List Value) : va_W := [(aRa, .inr (4, fsaRa))]
set_option maxHeartbeats 4000000 in
set_option maxRecDepth 100000 in
theorem c_addTrain (l : Launch) (dC : Nat → ClassId) (dI : Nat → Nat → Nat) (cB cI cJ cZ cQ : ClassId) (aRa : Nat) (iFr : Int32) (iTo : Int32) (iHr : Int32) (iTa : Int32) (fsaRa : List Value) (sz : Nat) (hlaRa : fsaRa.length = 8) (haRa_6 : fsaRa[6]? = some (.int 1)) (haRa_7 : fsaRa[7]? = some (.int 0)) : Met l yX4_addTrain wsX4_addTrain ({ frames := 1, cells := 0, slots := 0, locals := 21 } : Room) (zPc [.ref aRa, .int iFr, .int iTo, .int iHr, .int iTa] (dC, dI) (zTY cB cI cJ cZ cQ) (ws_c_addTrain cB cI cJ cZ cQ aRa iFr iTo iHr iTa fsaRa) sz) (va_Qi (fun (zr : Int32) (_ : Unit) => zr = (-1)) (fun (_ : Unit) (_ : State) => True) (va_A (ws_c_addTrain cB cI cJ cZ cQ aRa iFr iTo iHr iTa fsaRa) sz)) 0 0 (va_A (ws_c_addTrain cB cI cJ cZ cQ aRa iFr iTo iHr iTa fsaRa) sz) := by
  refine Met.ofW (cc := cX4_addTrain) (maxL := 5) (ret := (some .int)) (by decide) rfl ?_
  intro p e s m args below meth c s₁ B hml hv
  obtain ⟨rfl, hsz, hP0, hK, hO, hD0⟩ := hv
  have hx := B.exec
  have hb := B.bytes
  have hr := B.returns
  have hts := atoms_spec (ws := wsX4_addTrain) B.pre
  have hown : s.vm.findClass RX4 = some m.cls := findClass_of_methodNamed B.named
  have hlocks := B.notSynchronized
  subst hsz
  have hD8 := hD0.self (sz := s.heap.size)
  generalize hAe : va_A (ws_c_addTrain cB cI cJ cZ cQ aRa iFr iTo iHr iTa fsaRa) s.heap.size = A at hD8 ⊢
  have hA : ∀ q : Nat, s.heap.size ≤ q → A q := fun q h => by rw [← hAe]; exact Or.inr h
  have hS : va_S A s.heap s.heap [] := va_S.rf
  have hP : va_P (dC, dI) vwCl [(aRa, .inr (4, fsaRa))] s.heap := hP0
  have hD : va_D A [(aRa, .inr (4, fsaRa))] := hD8
  have hl := lv_entry ([.ref aRa, .int iFr, .int iTo, .int iHr, .int iTa]) (n := 5) (Nat.le_of_ble_eq_true rfl)
  rw [lg_entry_eq]
  generalize (lg_sl ([.ref aRa, .int iFr, .int iTo, .int iHr, .int iTa]) ++ List.replicate (5 - (lg_sl ([.ref aRa, .int iFr, .int iTo, .int iHr, .int iTa])).length) Slot.unset).toArray = ls at hl ⊢
  have hl : lv_has ls 5 [(0, .ref aRa), (1, .int iFr), (2, .int iTo), (3, .int iHr), (4, .int iTa)] := hl
  clear hP0 hD8 hD0
  refine zH0 (fun H hP hS => ?_) hP hS
  refine lv_aload_n hx hb dX4_addTrain_0 rfl (lv_at hl 0 rfl) ?_
  refine va_get (D := (dC, dI)) (ci := 4) (v := .int 0) (C := RX4) (T := TX4) (N := 8) hx hb hts in_X4_addTrain_4 hown hK hP 0 rfl rfl 7 (by decide) (hts (.fieldLink RX4 35 "LanternHouse$Rails" "trains" "I") (by decide +kernel)) (fun _ h9 => h9) haRa_7 dX4_addTrain_1 ?_
  refine lv_bipush (v := 16) hx hb dX4_addTrain_4 (by decide) ?_
  refine lv_icmp_ge (tgt := 30) hx hb dX4_addTrain_6 (by decide) (fun zc => absurd zc (by decide)) (fun _ => ?_)
  refine lv_aload_n hx hb dX4_addTrain_9 rfl (lv_at hl 0 rfl) ?_
  refine lv_iload_n hx hb dX4_addTrain_10 rfl (lv_at hl 1 rfl) ?_
  have hPc : va_P (dC, dI) vwCl (ws_c_isHall cB cI cJ cZ cQ aRa iFr fsaRa) H := hP.sub [0] rfl
  have hDc := hD.sub (ws' := (ws_c_isHall cB cI cJ cZ cQ aRa iFr fsaRa)) [0] (by decide) rfl
  have hFc := va_free (wc := (ws_c_isHall cB cI cJ cZ cQ aRa iFr fsaRa)) hD hS hA [0] rfl
  refine va_calli (va_runV (As := [.int iFr]) (rest := []) ⟨hx, hb, hml, hown, hts⟩ (c_isHall l dC dI cB cI cJ cZ cQ aRa iFr fsaRa H.size hlaRa haRa_6) (cwV 1 hts gX4_addTrain_X4_isHall rfl rfl rfl (by decide +kernel) ⟨Nat.le_of_ble_eq_true rfl, Nat.le_of_ble_eq_true rfl⟩) ⟨zFB, va_recv hK hP (ci := 4) (q0 := 0) rfl rfl, fun U hU hW => zUp hU hW hPc hK hO hDc⟩ rfl rfl hl.1 rfl (lv_room (Nat.le_of_ble_eq_true rfl)) dX4_addTrain_11 ⟨Nat.le_of_ble_eq_true rfl, Nat.le_of_ble_eq_true rfl⟩) hS (fun q _ h => hFc q h) hFc (fun r1 u t H1 locs ht hvm hw2 hB hz1 hk1 hS => ?_)
  obtain ⟨gs3, hgl4, hgf5, hP1, hD1⟩ := hB
  rw [ht] at hP1
  obtain ⟨hP, hD⟩ := va_join (wr := []) (w1 := [(aRa, .inr (4, gs3))]) hP hD [0] [] rfl rfl (by decide) (by decide) hk1 hFc hP1 hD1
  generalize H1 = H at hP hS ⊢
  have hP : va_P (dC, dI) vwCl [(aRa, .inr (4, gs3))] H := hP
  have hD : va_D A [(aRa, .inr (4, gs3))] := hD
  rcases hw2 with ⟨rfl, c6⟩ | ⟨rfl, c7⟩
  · skip
    have ziFr : iFr = 0 := z_inj (by simp only [Int32.lt_iff_toInt_lt, Int32.le_iff_toInt_le, ← Int32.toInt_inj, zi_m1, zi_0, zi_1, zi_6, zi_8, zi_16, zi_20, zi_23, zi_24, zi_27, zi_29, zi_30, zi_40, zi_500, zi_700, zi_1000] at c6 ⊢<;> omega)
    subst ziFr
    refine lv_if_eq (tgt := 30) hx hb dX4_addTrain_14 (by decide) (fun zc => absurd zc (by decide)) (fun _ => ?_)
    refine lv_aload_n hx hb dX4_addTrain_17 rfl (lv_at hl 0 rfl) ?_
    refine lv_iload_n hx hb dX4_addTrain_18 rfl (lv_at hl 2 rfl) ?_
    have hPc : va_P (dC, dI) vwCl (ws_c_isHall cB cI cJ cZ cQ aRa iTo gs3) H := hP.sub [0] rfl
    have hDc := hD.sub (ws' := (ws_c_isHall cB cI cJ cZ cQ aRa iTo gs3)) [0] (by decide) rfl
    have hFc := va_free (wc := (ws_c_isHall cB cI cJ cZ cQ aRa iTo gs3)) hD hS hA [0] rfl
    refine va_calli (va_runV (As := [.int iTo]) (rest := []) ⟨hx, hb, hml, hown, hts⟩ (c_isHall l dC dI cB cI cJ cZ cQ aRa iTo gs3 H.size hgl4 ((hgf5 6 (by decide)).trans haRa_6)) (cwV 1 hts gX4_addTrain_X4_isHall rfl rfl rfl (by decide +kernel) ⟨Nat.le_of_ble_eq_true rfl, Nat.le_of_ble_eq_true rfl⟩) ⟨zFB, va_recv hK hP (ci := 4) (q0 := 0) rfl rfl, fun U hU hW => zUp hU hW hPc hK hO hDc⟩ rfl rfl hl.1 rfl (lv_room (Nat.le_of_ble_eq_true rfl)) dX4_addTrain_19 ⟨Nat.le_of_ble_eq_true rfl, Nat.le_of_ble_eq_true rfl⟩) hS (fun q _ h => hFc q h) hFc (fun r8 u t H1 locs ht hvm hw9 hB hz1 hk1 hS => ?_)
    obtain ⟨gs10, hgl11, hgf12, hP1, hD1⟩ := hB
    rw [ht] at hP1
    obtain ⟨hP, hD⟩ := va_join (wr := []) (w1 := [(aRa, .inr (4, gs10))]) hP hD [0] [] rfl rfl (by decide) (by decide) hk1 hFc hP1 hD1
    generalize H1 = H at hP hS ⊢
    have hP : va_P (dC, dI) vwCl [(aRa, .inr (4, gs10))] H := hP
    have hD : va_D A [(aRa, .inr (4, gs10))] := hD
    rcases hw9 with ⟨rfl, c13⟩ | ⟨rfl, c14⟩
    · skip
      have ziTo : iTo = 0 := z_inj (by simp only [Int32.lt_iff_toInt_lt, Int32.le_iff_toInt_le, ← Int32.toInt_inj, zi_m1, zi_0, zi_1, zi_6, zi_8, zi_16, zi_20, zi_23, zi_24, zi_27, zi_29, zi_30, zi_40, zi_500, zi_700, zi_1000] at c6 c13 ⊢<;> omega)
      subst ziTo
      refine lv_if_eq (tgt := 30) hx hb dX4_addTrain_22 (by decide) (fun zc => absurd zc (by decide)) (fun _ => ?_)
      refine lv_iload_n hx hb dX4_addTrain_25 rfl (lv_at hl 1 rfl) ?_
      refine lv_iload_n hx hb dX4_addTrain_26 rfl (lv_at hl 2 rfl) ?_
      refine lv_icmp_ne (tgt := 32) hx hb dX4_addTrain_27 (by decide) (fun zc => absurd zc (by decide)) (fun _ => ?_)
      refine lv_iconst (v := (-1)) hx hb dX4_addTrain_30 (by decide) ?_
      exact W.iret (v := (-1)) hx hb hr (fun t ht hW => ⟨⟨(-1), (), rfl, rfl, trivial⟩, hS.F ht⟩) hS.2.2 dX4_addTrain_31
    · skip
      refine lv_if_eq (tgt := 30) hx hb dX4_addTrain_22 (by decide) (fun _ => ?_) (fun zc => absurd zc (by decide))
      refine lv_iconst (v := (-1)) hx hb dX4_addTrain_30 (by decide) ?_
      exact W.iret (v := (-1)) hx hb hr (fun t ht hW => ⟨⟨(-1), (), rfl, rfl, trivial⟩, hS.F ht⟩) hS.2.2 dX4_addTrain_31
  · skip
    refine lv_if_eq (tgt := 30) hx hb dX4_addTrain_14 (by decide) (fun _ => ?_) (fun zc => absurd zc (by decide))
    refine lv_iconst (v := (-1)) hx hb dX4_addTrain_30 (by decide) ?_
    exact W.iret (v := (-1)) hx hb hr (fun t ht hW => ⟨⟨(-1), (), rfl, rfl, trivial⟩, hS.F ht⟩) hS.2.2 dX4_addTrain_31
end
section
abbrev ws_h_hall (cB cI cJ cZ cQ : ClassId) (aH aRa : Nat) (fsaH : List Value) (fsaRa : List Value) : va_W := [(aH, .inr (11, fsaH)), (aRa, .inr (4, fsaRa))]
set_option maxHeartbeats 4000000 in
set_option maxRecDepth 100000 in
theorem h_hall (l : Launch) (dC : Nat → ClassId) (dI : Nat → Nat → Nat) (cB cI cJ cZ cQ : ClassId) (aH aRa : Nat) (fsaH : List Value) (fsaRa : List Value) (sz : Nat) (hlaH : fsaH.length = 13) (haH_3 : fsaH[3]? = some (.ref aRa)) (hlaRa : fsaRa.length = 8) (haRa_6 : fsaRa[6]? = some (.int 1)) : Met l yX11_hall wsX11_hall ({ frames := 1, cells := 0, slots := 0, locals := 20 } : Room) (zPc [.ref aH] (dC, dI) (zTY cB cI cJ cZ cQ) (ws_h_hall cB cI cJ cZ cQ aH aRa fsaH fsaRa) sz) (va_Qi (fun (zr : Int32) (_ : Unit) => zr = 1) (fun (_ : Unit) (_ : State) => True) (va_A (ws_h_hall cB cI cJ cZ cQ aH aRa fsaH fsaRa) sz)) 0 0 (va_A (ws_h_hall cB cI cJ cZ cQ aH aRa fsaH fsaRa) sz) := by
  refine Met.ofW (cc := cX11_hall) (maxL := 1) (ret := (some .int)) (by decide) rfl ?_
  intro p e s m args below meth c s₁ B hml hv
  obtain ⟨rfl, hsz, hP0, hK, hO, hD0⟩ := hv
  have hx := B.exec
  have hb := B.bytes
  have hr := B.returns
  have hts := atoms_spec (ws := wsX11_hall) B.pre
  have hown : s.vm.findClass RX11 = some m.cls := findClass_of_methodNamed B.named
  have hlocks := B.notSynchronized
  subst hsz
  have hD8 := hD0.self (sz := s.heap.size)
  generalize hAe : va_A (ws_h_hall cB cI cJ cZ cQ aH aRa fsaH fsaRa) s.heap.size = A at hD8 ⊢
  have hA : ∀ q : Nat, s.heap.size ≤ q → A q := fun q h => by rw [← hAe]; exact Or.inr h
  have hS : va_S A s.heap s.heap [] := va_S.rf
  have hP : va_P (dC, dI) vwCl [(aH, .inr (11, fsaH)), (aRa, .inr (4, fsaRa))] s.heap := hP0
  have hD : va_D A [(aH, .inr (11, fsaH)), (aRa, .inr (4, fsaRa))] := hD8
  have hl := lv_entry ([.ref aH]) (n := 1) (Nat.le_of_ble_eq_true rfl)
  rw [lg_entry_eq]
  generalize (lg_sl ([.ref aH]) ++ List.replicate (1 - (lg_sl ([.ref aH])).length) Slot.unset).toArray = ls at hl ⊢
  have hl : lv_has ls 1 [(0, .ref aH)] := hl
  clear hP0 hD8 hD0
  refine zH0 (fun H hP hS => ?_) hP hS
  refine lv_aload_n hx hb dX11_hall_0 rfl (lv_at hl 0 rfl) ?_
  refine va_get (D := (dC, dI)) (ci := 11) (v := .ref aRa) (C := RX11) (T := TX11) (N := 13) hx hb hts in_X11_hall_11 hown hK hP 0 rfl rfl 3 (by decide) (hts (.fieldLink RX11 35 "LanternHouse" "rails" "LLanternHouse$Rails;") (by decide +kernel)) (fun _ h9 => h9) haH_3 dX11_hall_1 ?_
  have hPc : va_P (dC, dI) vwCl (ws_c_addHall cB cI cJ cZ cQ aRa fsaRa) H := hP.sub [1] rfl
  have hDc := hD.sub (ws' := (ws_c_addHall cB cI cJ cZ cQ aRa fsaRa)) [1] (by decide) rfl
  have hFc := va_free (wc := (ws_c_addHall cB cI cJ cZ cQ aRa fsaRa)) hD hS hA [1] rfl
  refine va_calli (va_runV (As := []) (rest := []) ⟨hx, hb, hml, hown, hts⟩ (c_addHall l dC dI cB cI cJ cZ cQ aRa fsaRa H.size hlaRa haRa_6) (cwV 0 hts gX11_hall_X4_addHall rfl rfl rfl (by decide +kernel) ⟨Nat.le_of_ble_eq_true rfl, Nat.le_of_ble_eq_true rfl⟩) ⟨zFB, va_recv hK hP (ci := 4) (q0 := 1) rfl rfl, fun U hU hW => zUp hU hW hPc hK hO hDc⟩ rfl rfl hl.1 rfl (lv_room (Nat.le_of_ble_eq_true rfl)) dX11_hall_4 ⟨Nat.le_of_ble_eq_true rfl, Nat.le_of_ble_eq_true rfl⟩) hS (fun q _ h => hFc q h) hFc (fun r1 u t H1 locs ht hvm hw2 hB hz1 hk1 hS => ?_)
  have hP1 : va_P (dC, dI) vwCl [] H1 := zNilP
  have hD1 : va_D (va_A (ws_c_addHall cB cI cJ cZ cQ aRa fsaRa) H.size) [] := zNilD
  obtain ⟨hP, hD⟩ := va_join (wr := [(aH, .inr (11, fsaH))]) (w1 := []) hP hD [1] [0] rfl rfl (by decide) (by decide) hk1 hFc hP1 hD1
  generalize H1 = H at hP hS ⊢
  have hP : va_P (dC, dI) vwCl [(aH, .inr (11, fsaH))] H := hP
  have hD : va_D A [(aH, .inr (11, fsaH))] := hD
  obtain rfl : r1 = 1 := hw2
  exact W.iret (v := 1) hx hb hr (fun t ht hW => ⟨⟨1, (), rfl, rfl, trivial⟩, hS.F ht⟩) hS.2.2 dX11_hall_7

abbrev ws_h_train (cB cI cJ cZ cQ : ClassId) (aH aRa : Nat) (iFr : Int32) (iTo : Int32) (iHr : Int32) (iTa : Int32) (fsaH : List Value) (fsaRa : List Value) : va_W := [(aH, .inr (11, fsaH)), (aRa, .inr (4, fsaRa))]
set_option maxHeartbeats 4000000 in
set_option maxRecDepth 100000 in
theorem h_train (l : Launch) (dC : Nat → ClassId) (dI : Nat → Nat → Nat) (cB cI cJ cZ cQ : ClassId) (aH aRa : Nat) (iFr : Int32) (iTo : Int32) (iHr : Int32) (iTa : Int32) (fsaH : List Value) (fsaRa : List Value) (sz : Nat) (hlaH : fsaH.length = 13) (haH_3 : fsaH[3]? = some (.ref aRa)) (hlaRa : fsaRa.length = 8) (haRa_6 : fsaRa[6]? = some (.int 1)) (haRa_7 : fsaRa[7]? = some (.int 0)) : Met l yX11_train wsX11_train ({ frames := 2, cells := 0, slots := 0, locals := 45 } : Room) (zPc [.ref aH, .int iFr, .int iTo, .int iHr, .int iTa] (dC, dI) (zTY cB cI cJ cZ cQ) (ws_h_train cB cI cJ cZ cQ aH aRa iFr iTo iHr iTa fsaH fsaRa) sz) (va_Qi (fun (zr : Int32) (_ : Unit) => zr = (-1)) (fun (_ : Unit) (_ : State) => True) (va_A (ws_h_train cB cI cJ cZ cQ aH aRa iFr iTo iHr iTa fsaH fsaRa) sz)) 0 0 (va_A (ws_h_train cB cI cJ cZ cQ aH aRa iFr iTo iHr iTa fsaH fsaRa) sz) := by
  refine Met.ofW (cc := cX11_train) (maxL := 5) (ret := (some .int)) (by decide) rfl ?_
  intro p e s m args below meth c s₁ B hml hv
  obtain ⟨rfl, hsz, hP0, hK, hO, hD0⟩ := hv
  have hx := B.exec
  have hb := B.bytes
  have hr := B.returns
  have hts := atoms_spec (ws := wsX11_train) B.pre
  have hown : s.vm.findClass RX11 = some m.cls := findClass_of_methodNamed B.named
  have hlocks := B.notSynchronized
  subst hsz
  have hD8 := hD0.self (sz := s.heap.size)
  generalize hAe : va_A (ws_h_train cB cI cJ cZ cQ aH aRa iFr iTo iHr iTa fsaH fsaRa) s.heap.size = A at hD8 ⊢
  have hA : ∀ q : Nat, s.heap.size ≤ q → A q := fun q h => by rw [← hAe]; exact Or.inr h
  have hS : va_S A s.heap s.heap [] := va_S.rf
  have hP : va_P (dC, dI) vwCl [(aH, .inr (11, fsaH)), (aRa, .inr (4, fsaRa))] s.heap := hP0
  have hD : va_D A [(aH, .inr (11, fsaH)), (aRa, .inr (4, fsaRa))] := hD8
  have hl := lv_entry ([.ref aH, .int iFr, .int iTo, .int iHr, .int iTa]) (n := 5) (Nat.le_of_ble_eq_true rfl)
  rw [lg_entry_eq]
  generalize (lg_sl ([.ref aH, .int iFr, .int iTo, .int iHr, .int iTa]) ++ List.replicate (5 - (lg_sl ([.ref aH, .int iFr, .int iTo, .int iHr, .int iTa])).length) Slot.unset).toArray = ls at hl ⊢
  have hl : lv_has ls 5 [(0, .ref aH), (1, .int iFr), (2, .int iTo), (3, .int iHr), (4, .int iTa)] := hl
  clear hP0 hD8 hD0
  refine zH0 (fun H hP hS => ?_) hP hS
  refine lv_aload_n hx hb dX11_train_0 rfl (lv_at hl 0 rfl) ?_
  refine va_get (D := (dC, dI)) (ci := 11) (v := .ref aRa) (C := RX11) (T := TX11) (N := 13) hx hb hts in_X11_train_11 hown hK hP 0 rfl rfl 3 (by decide) (hts (.fieldLink RX11 35 "LanternHouse" "rails" "LLanternHouse$Rails;") (by decide +kernel)) (fun _ h9 => h9) haH_3 dX11_train_1 ?_
  refine lv_iload_n hx hb dX11_train_4 rfl (lv_at hl 1 rfl) ?_
  refine lv_iload_n hx hb dX11_train_5 rfl (lv_at hl 2 rfl) ?_
  refine lv_iload_n hx hb dX11_train_6 rfl (lv_at hl 3 rfl) ?_
  refine lv_iload hx hb dX11_train_7 (lv_at hl 4 rfl) ?_
  have hPc : va_P (dC, dI) vwCl (ws_c_addTrain cB cI cJ cZ cQ aRa iFr iTo iHr iTa fsaRa) H := hP.sub [1] rfl
  have hDc := hD.sub (ws' := (ws_c_addTrain cB cI cJ cZ cQ aRa iFr iTo iHr iTa fsaRa)) [1] (by decide) rfl
  have hFc := va_free (wc := (ws_c_addTrain cB cI cJ cZ cQ aRa iFr iTo iHr iTa fsaRa)) hD hS hA [1] rfl
  refine va_calli (va_runV (As := [.int iFr, .int iTo, .int iHr, .int iTa]) (rest := []) ⟨hx, hb, hml, hown, hts⟩ (c_addTrain l dC dI cB cI cJ cZ cQ aRa iFr iTo iHr iTa fsaRa H.size hlaRa haRa_6 haRa_7) (cwV 4 hts gX11_train_X4_addTrain rfl rfl rfl (by decide +kernel) ⟨Nat.le_of_ble_eq_true rfl, Nat.le_of_ble_eq_true rfl⟩) ⟨zFB, va_recv hK hP (ci := 4) (q0 := 1) rfl rfl, fun U hU hW => zUp hU hW hPc hK hO hDc⟩ rfl rfl hl.1 rfl (lv_room (Nat.le_of_ble_eq_true rfl)) dX11_train_9 ⟨Nat.le_of_ble_eq_true rfl, Nat.le_of_ble_eq_true rfl⟩) hS (fun q _ h => hFc q h) hFc (fun r1 u t H1 locs ht hvm hw2 hB hz1 hk1 hS => ?_)
  have hP1 : va_P (dC, dI) vwCl [] H1 := zNilP
  have hD1 : va_D (va_A (ws_c_addTrain cB cI cJ cZ cQ aRa iFr iTo iHr iTa fsaRa) H.size) [] := zNilD
  obtain ⟨hP, hD⟩ := va_join (wr := [(aH, .inr (11, fsaH))]) (w1 := []) hP hD [1] [0] rfl rfl (by decide) (by decide) hk1 hFc hP1 hD1
  generalize H1 = H at hP hS ⊢
  have hP : va_P (dC, dI) vwCl [(aH, .inr (11, fsaH))] H := hP
  have hD : va_D A [(aH, .inr (11, fsaH))] := hD
  obtain rfl : r1 = (-1) := hw2
  exact W.iret (v := (-1)) hx hb hr (fun t ht hW => ⟨⟨(-1), (), rfl, rfl, trivial⟩, hS.F ht⟩) hS.2.2 dX11_train_12
end
section
abbrev ws_m_hall (cB cI cJ cZ cQ : ClassId) (aM : Nat) (fsaM : List Value) : va_W := [(aM, .inr (12, fsaM))]
set_option maxHeartbeats 4000000 in
set_option maxRecDepth 100000 in
theorem m_hall (l : Launch) (dC : Nat → ClassId) (dI : Nat → Nat → Nat) (cB cI cJ cZ cQ : ClassId) (aM : Nat) (fsaM : List Value) (sz : Nat) (hlaM : fsaM.length = 87) (haM_43 : fsaM[43]? = some (.int 1)) : Met l yX12_hall wsX12_hall ({ frames := 0, cells := 0, slots := 0, locals := 0 } : Room) (zPc [.ref aM] (dC, dI) (zTY cB cI cJ cZ cQ) (ws_m_hall cB cI cJ cZ cQ aM fsaM) sz) (va_Qi (fun (zr : Int32) (_ : Unit) => zr = 1) (fun (_ : Unit) (_ : State) => True) (va_A (ws_m_hall cB cI cJ cZ cQ aM fsaM) sz)) 0 0 (va_A (ws_m_hall cB cI cJ cZ cQ aM fsaM) sz) := by
  refine Met.ofW (cc := cX12_hall) (maxL := 1) (ret := (some .int)) (by decide) rfl ?_
  intro p e s m args below meth c s₁ B hml hv
  obtain ⟨rfl, hsz, hP0, hK, hO, hD0⟩ := hv
  have hx := B.exec
  have hb := B.bytes
  have hr := B.returns
  have hts := atoms_spec (ws := wsX12_hall) B.pre
  have hown : s.vm.findClass RX12 = some m.cls := findClass_of_methodNamed B.named
  have hlocks := B.notSynchronized
  subst hsz
  have hD8 := hD0.self (sz := s.heap.size)
  generalize hAe : va_A (ws_m_hall cB cI cJ cZ cQ aM fsaM) s.heap.size = A at hD8 ⊢
  have hA : ∀ q : Nat, s.heap.size ≤ q → A q := fun q h => by rw [← hAe]; exact Or.inr h
  have hS : va_S A s.heap s.heap [] := va_S.rf
  have hP : va_P (dC, dI) vwCl [(aM, .inr (12, fsaM))] s.heap := hP0
  have hD : va_D A [(aM, .inr (12, fsaM))] := hD8
  have hl := lv_entry ([.ref aM]) (n := 1) (Nat.le_of_ble_eq_true rfl)
  rw [lg_entry_eq]
  generalize (lg_sl ([.ref aM]) ++ List.replicate (1 - (lg_sl ([.ref aM])).length) Slot.unset).toArray = ls at hl ⊢
  have hl : lv_has ls 1 [(0, .ref aM)] := hl
  clear hP0 hD8 hD0
  refine zH0 (fun H hP hS => ?_) hP hS
  refine lv_aload_n hx hb dX12_hall_0 rfl (lv_at hl 0 rfl) ?_
  refine va_get (D := (dC, dI)) (ci := 12) (v := .int 1) (C := RX12) (T := TX12) (N := 87) hx hb hts in_X12_hall_12 hown hK hP 0 rfl rfl 43 (by decide) (hts (.fieldLink RX12 201 "LanternHouseModel" "halls" "I") (by decide +kernel)) (fun _ h9 => h9) haM_43 dX12_hall_1 ?_
  refine lv_bipush (v := 6) hx hb dX12_hall_4 (by decide) ?_
  refine lv_icmp_ne (tgt := 11) hx hb dX12_hall_6 (by decide) (fun _ => ?_) (fun zc => absurd zc (by decide))
  refine lv_aload_n hx hb dX12_hall_11 rfl (lv_at hl 0 rfl) ?_
  refine lv_dup hx hb dX12_hall_12 rfl ?_
  refine va_get (D := (dC, dI)) (ci := 12) (v := .int 1) (C := RX12) (T := TX12) (N := 87) hx hb hts in_X12_hall_12 hown hK hP 0 rfl rfl 43 (by decide) (hts (.fieldLink RX12 201 "LanternHouseModel" "halls" "I") (by decide +kernel)) (fun _ h9 => h9) haM_43 dX12_hall_13 ?_
  refine lv_iconst (v := 1) hx hb dX12_hall_16 (by decide) ?_
  refine lv_iadd hx hb dX12_hall_17 ?_
  refine lv_topi (fun x1 ex1 => ?_)
  obtain rfl : x1 = 2 := ex1.trans (by decide)
  refine va_put (D := (dC, dI)) (ci := 12) (v := .int 2) (ty := .int) (C := RX12) (T := TX12) (N := 87) hx hb hts in_X12_hall_12 tyX12 tyX12_ok nmX12 hown hK hP hD hS 0 rfl rfl 43 (by decide) (hts (.fieldLink RX12 201 "LanternHouseModel" "halls" "I") (by decide +kernel)) (fun _ h9 => h9) rfl (by decide +kernel) rfl rfl (by rw [hlaM]; decide) dX12_hall_18 (fun H locs hP hD hS => ?_)
  have hP : va_P (dC, dI) vwCl [(aM, .inr (12, (List.set fsaM 43 (.int 2))))] H := hP
  have hD : va_D A [(aM, .inr (12, (List.set fsaM 43 (.int 2))))] := hD
  refine lv_aload_n hx hb dX12_hall_21 rfl (lv_at hl 0 rfl) ?_
  refine va_get (D := (dC, dI)) (ci := 12) (v := .int 2) (C := RX12) (T := TX12) (N := 87) hx hb hts in_X12_hall_12 hown hK hP 0 rfl rfl 43 (by decide) (hts (.fieldLink RX12 201 "LanternHouseModel" "halls" "I") (by decide +kernel)) (fun _ h9 => h9) (zset_eq (by rw [hlaM]; decide)) dX12_hall_22 ?_
  refine lv_iconst (v := 1) hx hb dX12_hall_25 (by decide) ?_
  refine lv_isub hx hb dX12_hall_26 ?_
  refine lv_topi (fun x2 ex2 => ?_)
  obtain rfl : x2 = 1 := ex2.trans (by decide)
  exact W.iret (v := 1) hx hb hr (fun t ht hW => ⟨⟨1, (), rfl, rfl, trivial⟩, hS.F ht⟩) hS.2.2 dX12_hall_27
end
