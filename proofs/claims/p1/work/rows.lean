section
-- ===== PART A: goes FIRST, ahead of the names: the tables' words, and 'selects' of the private methods out of them =====
/-- a private method of a class that the tables say can be made, by its rows of tables_1 -/
def lw_okq (q : MethodName × Nat) : Prop := (q.1.cls ≠ "java/lang/invoke/MethodHandle" ∧ q.1.cls ≠ "java/lang/invoke/VarHandle") ∧ Cond.instantiable q.1.cls q.2 ∈ tables_1 ∧ Cond.privateMethod q.1 ∈ tables_1 ∧ Cond.instanceMethod q.1 ∈ tables_1
theorem lw_p0 : lw_okq (⟨"PartnersBook", "refuse", "(I)I"⟩, 11) := ⟨⟨by decide +kernel, by decide +kernel⟩, List.mem_of_getElem? (i := 19) (by decide +kernel), List.mem_of_getElem? (i := 119) (by decide +kernel), List.mem_of_getElem? (i := 120) (by decide +kernel)⟩
theorem lw_p1 : lw_okq (⟨"PartnersBook", "refuseAt", "(II)I"⟩, 11) := ⟨⟨by decide +kernel, by decide +kernel⟩, List.mem_of_getElem? (i := 19) (by decide +kernel), List.mem_of_getElem? (i := 123) (by decide +kernel), List.mem_of_getElem? (i := 124) (by decide +kernel)⟩
theorem lw_p2 : lw_okq (⟨"PartnersBook", "accept", "(I)I"⟩, 11) := ⟨⟨by decide +kernel, by decide +kernel⟩, List.mem_of_getElem? (i := 19) (by decide +kernel), List.mem_of_getElem? (i := 296) (by decide +kernel), List.mem_of_getElem? (i := 297) (by decide +kernel)⟩
theorem lw_p3 : lw_okq (⟨"PartnersBook", "houseAt", "(I)LPartnersBook$House;"⟩, 11) := ⟨⟨by decide +kernel, by decide +kernel⟩, List.mem_of_getElem? (i := 19) (by decide +kernel), List.mem_of_getElem? (i := 308) (by decide +kernel), List.mem_of_getElem? (i := 309) (by decide +kernel)⟩
theorem lw_p4 : lw_okq (⟨"PartnersBook", "partnerAt", "(I)LPartnersBook$Partner;"⟩, 11) := ⟨⟨by decide +kernel, by decide +kernel⟩, List.mem_of_getElem? (i := 19) (by decide +kernel), List.mem_of_getElem? (i := 372) (by decide +kernel), List.mem_of_getElem? (i := 373) (by decide +kernel)⟩
theorem lw_p5 : lw_okq (⟨"PartnersBook$Ring", "measure", "([LPartnersBook$House;II)V"⟩, 3) := ⟨⟨by decide +kernel, by decide +kernel⟩, List.mem_of_getElem? (i := 64) (by decide +kernel), List.mem_of_getElem? (i := 395) (by decide +kernel), List.mem_of_getElem? (i := 396) (by decide +kernel)⟩
theorem lw_p6 : lw_okq (⟨"PartnersBook$Ring", "markOwners", "(LPartnersBook$House;II)V"⟩, 3) := ⟨⟨by decide +kernel, by decide +kernel⟩, List.mem_of_getElem? (i := 64) (by decide +kernel), List.mem_of_getElem? (i := 402) (by decide +kernel), List.mem_of_getElem? (i := 403) (by decide +kernel)⟩
theorem lw_p7 : lw_okq (⟨"PartnersBook$Ring", "nextTowards", "([LPartnersBook$House;II)I"⟩, 3) := ⟨⟨by decide +kernel, by decide +kernel⟩, List.mem_of_getElem? (i := 64) (by decide +kernel), List.mem_of_getElem? (i := 413) (by decide +kernel), List.mem_of_getElem? (i := 414) (by decide +kernel)⟩
theorem lw_p8 : lw_okq (⟨"PartnersBook", "enter", "(IIII)I"⟩, 11) := ⟨⟨by decide +kernel, by decide +kernel⟩, List.mem_of_getElem? (i := 19) (by decide +kernel), List.mem_of_getElem? (i := 600) (by decide +kernel), List.mem_of_getElem? (i := 601) (by decide +kernel)⟩
theorem lw_p9 : lw_okq (⟨"PartnersBook", "firstHouseBehind", "(LPartnersBook$House;I)I"⟩, 11) := ⟨⟨by decide +kernel, by decide +kernel⟩, List.mem_of_getElem? (i := 19) (by decide +kernel), List.mem_of_getElem? (i := 708) (by decide +kernel), List.mem_of_getElem? (i := 709) (by decide +kernel)⟩
theorem lw_p10 : lw_okq (⟨"PartnersBook$Closing", "partDays", "(LPartnersBook$House;I)V"⟩, 5) := ⟨⟨by decide +kernel, by decide +kernel⟩, List.mem_of_getElem? (i := 183) (by decide +kernel), List.mem_of_getElem? (i := 721) (by decide +kernel), List.mem_of_getElem? (i := 722) (by decide +kernel)⟩
theorem lw_p11 : lw_okq (⟨"PartnersBook$Closing", "cutLoose", "(LPartnersBook$House;)V"⟩, 5) := ⟨⟨by decide +kernel, by decide +kernel⟩, List.mem_of_getElem? (i := 183) (by decide +kernel), List.mem_of_getElem? (i := 784) (by decide +kernel), List.mem_of_getElem? (i := 785) (by decide +kernel)⟩
theorem lw_p12 : lw_okq (⟨"PartnersBook$Shares", "giveCoin", "()V"⟩, 6) := ⟨⟨by decide +kernel, by decide +kernel⟩, List.mem_of_getElem? (i := 31) (by decide +kernel), List.mem_of_getElem? (i := 810) (by decide +kernel), List.mem_of_getElem? (i := 811) (by decide +kernel)⟩
theorem lw_p13 : lw_okq (⟨"PartnersBook$Closing", "settleStretches", "(LPartnersBook$House;)V"⟩, 5) := ⟨⟨by decide +kernel, by decide +kernel⟩, List.mem_of_getElem? (i := 183) (by decide +kernel), List.mem_of_getElem? (i := 815) (by decide +kernel), List.mem_of_getElem? (i := 816) (by decide +kernel)⟩
theorem lw_p14 : lw_okq (⟨"PartnersBook$Closing", "giveWages", "(LPartnersBook$Stretch;LPartnersBook$Rule;)J"⟩, 5) := ⟨⟨by decide +kernel, by decide +kernel⟩, List.mem_of_getElem? (i := 183) (by decide +kernel), List.mem_of_getElem? (i := 832) (by decide +kernel), List.mem_of_getElem? (i := 833) (by decide +kernel)⟩
theorem lw_p15 : lw_okq (⟨"PartnersBook$Closing", "giveInterest", "(LPartnersBook$House;LPartnersBook$Stretch;LPartnersBook$Rule;)J"⟩, 5) := ⟨⟨by decide +kernel, by decide +kernel⟩, List.mem_of_getElem? (i := 183) (by decide +kernel), List.mem_of_getElem? (i := 840) (by decide +kernel), List.mem_of_getElem? (i := 841) (by decide +kernel)⟩
def lw_privs_1 : List (MethodName × Nat) := [(⟨"PartnersBook", "refuse", "(I)I"⟩, 11), (⟨"PartnersBook", "refuseAt", "(II)I"⟩, 11), (⟨"PartnersBook", "accept", "(I)I"⟩, 11), (⟨"PartnersBook", "houseAt", "(I)LPartnersBook$House;"⟩, 11), (⟨"PartnersBook", "partnerAt", "(I)LPartnersBook$Partner;"⟩, 11), (⟨"PartnersBook$Ring", "measure", "([LPartnersBook$House;II)V"⟩, 3), (⟨"PartnersBook$Ring", "markOwners", "(LPartnersBook$House;II)V"⟩, 3), (⟨"PartnersBook$Ring", "nextTowards", "([LPartnersBook$House;II)I"⟩, 3), (⟨"PartnersBook", "enter", "(IIII)I"⟩, 11), (⟨"PartnersBook", "firstHouseBehind", "(LPartnersBook$House;I)I"⟩, 11), (⟨"PartnersBook$Closing", "partDays", "(LPartnersBook$House;I)V"⟩, 5), (⟨"PartnersBook$Closing", "cutLoose", "(LPartnersBook$House;)V"⟩, 5), (⟨"PartnersBook$Shares", "giveCoin", "()V"⟩, 6), (⟨"PartnersBook$Closing", "settleStretches", "(LPartnersBook$House;)V"⟩, 5), (⟨"PartnersBook$Closing", "giveWages", "(LPartnersBook$Stretch;LPartnersBook$Rule;)J"⟩, 5), (⟨"PartnersBook$Closing", "giveInterest", "(LPartnersBook$House;LPartnersBook$Stretch;LPartnersBook$Rule;)J"⟩, 5)]
theorem lw_r1 : ∀ q ∈ lw_privs_1, lw_okq q := List.forall_mem_cons.mpr ⟨lw_p0, List.forall_mem_cons.mpr ⟨lw_p1, List.forall_mem_cons.mpr ⟨lw_p2, List.forall_mem_cons.mpr ⟨lw_p3, List.forall_mem_cons.mpr ⟨lw_p4, List.forall_mem_cons.mpr ⟨lw_p5, List.forall_mem_cons.mpr ⟨lw_p6, List.forall_mem_cons.mpr ⟨lw_p7, List.forall_mem_cons.mpr ⟨lw_p8, List.forall_mem_cons.mpr ⟨lw_p9, List.forall_mem_cons.mpr ⟨lw_p10, List.forall_mem_cons.mpr ⟨lw_p11, List.forall_mem_cons.mpr ⟨lw_p12, List.forall_mem_cons.mpr ⟨lw_p13, List.forall_mem_cons.mpr ⟨lw_p14, List.forall_mem_cons.mpr ⟨lw_p15, fun _ h => absurd h List.not_mem_nil⟩⟩⟩⟩⟩⟩⟩⟩⟩⟩⟩⟩⟩⟩⟩⟩
theorem lw_p16 : lw_okq (⟨"PartnersBook$Closing", "creditDays", "(LPartnersBook$DaySums;LPartnersBook$Stretch;LPartnersBook$Tenure;)J"⟩, 5) := ⟨⟨by decide +kernel, by decide +kernel⟩, List.mem_of_getElem? (i := 183) (by decide +kernel), List.mem_of_getElem? (i := 844) (by decide +kernel), List.mem_of_getElem? (i := 845) (by decide +kernel)⟩
theorem lw_p17 : lw_okq (⟨"PartnersBook$Closing", "giveSums", "(LPartnersBook$Stretch;LPartnersBook$Rule;J)J"⟩, 5) := ⟨⟨by decide +kernel, by decide +kernel⟩, List.mem_of_getElem? (i := 183) (by decide +kernel), List.mem_of_getElem? (i := 853) (by decide +kernel), List.mem_of_getElem? (i := 854) (by decide +kernel)⟩
theorem lw_p18 : lw_okq (⟨"PartnersBook$Closing", "shareGain", "(LPartnersBook$Stretch;LPartnersBook$Rule;J)V"⟩, 5) := ⟨⟨by decide +kernel, by decide +kernel⟩, List.mem_of_getElem? (i := 183) (by decide +kernel), List.mem_of_getElem? (i := 860) (by decide +kernel), List.mem_of_getElem? (i := 861) (by decide +kernel)⟩
theorem lw_p19 : lw_okq (⟨"PartnersBook$Closing", "weigh", "(LPartnersBook$Stretch;LPartnersBook$Rule;I)V"⟩, 5) := ⟨⟨by decide +kernel, by decide +kernel⟩, List.mem_of_getElem? (i := 183) (by decide +kernel), List.mem_of_getElem? (i := 864) (by decide +kernel), List.mem_of_getElem? (i := 865) (by decide +kernel)⟩
theorem lw_p20 : lw_okq (⟨"PartnersBook$Closing", "shareLack", "(LPartnersBook$Stretch;LPartnersBook$Rule;J)V"⟩, 5) := ⟨⟨by decide +kernel, by decide +kernel⟩, List.mem_of_getElem? (i := 183) (by decide +kernel), List.mem_of_getElem? (i := 868) (by decide +kernel), List.mem_of_getElem? (i := 869) (by decide +kernel)⟩
theorem lw_p21 : lw_okq (⟨"PartnersBook$Closing", "settleMends", "(LPartnersBook$House;)V"⟩, 5) := ⟨⟨by decide +kernel, by decide +kernel⟩, List.mem_of_getElem? (i := 183) (by decide +kernel), List.mem_of_getElem? (i := 888) (by decide +kernel), List.mem_of_getElem? (i := 889) (by decide +kernel)⟩
theorem lw_p22 : lw_okq (⟨"PartnersBook$Closing", "bookDues", "(LPartnersBook$House;)V"⟩, 5) := ⟨⟨by decide +kernel, by decide +kernel⟩, List.mem_of_getElem? (i := 183) (by decide +kernel), List.mem_of_getElem? (i := 892) (by decide +kernel), List.mem_of_getElem? (i := 893) (by decide +kernel)⟩
theorem lw_p23 : lw_okq (⟨"PartnersBook$Closing", "handOver", "(LPartnersBook$House;I)V"⟩, 5) := ⟨⟨by decide +kernel, by decide +kernel⟩, List.mem_of_getElem? (i := 183) (by decide +kernel), List.mem_of_getElem? (i := 911) (by decide +kernel), List.mem_of_getElem? (i := 912) (by decide +kernel)⟩
theorem lw_p24 : lw_okq (⟨"PartnersBook", "gatherBearers", "(LPartnersBook$House;I)V"⟩, 11) := ⟨⟨by decide +kernel, by decide +kernel⟩, List.mem_of_getElem? (i := 19) (by decide +kernel), List.mem_of_getElem? (i := 947) (by decide +kernel), List.mem_of_getElem? (i := 948) (by decide +kernel)⟩
theorem lw_p25 : lw_okq (⟨"PartnersBook", "keepDebtParts", "()I"⟩, 11) := ⟨⟨by decide +kernel, by decide +kernel⟩, List.mem_of_getElem? (i := 19) (by decide +kernel), List.mem_of_getElem? (i := 958) (by decide +kernel), List.mem_of_getElem? (i := 959) (by decide +kernel)⟩
theorem lw_p26 : lw_okq (⟨"PartnersBookModel", "refused", "(I)I"⟩, 20) := ⟨⟨by decide +kernel, by decide +kernel⟩, List.mem_of_getElem? (i := 1053) (by decide +kernel), List.mem_of_getElem? (i := 1327) (by decide +kernel), List.mem_of_getElem? (i := 1328) (by decide +kernel)⟩
theorem lw_p27 : lw_okq (⟨"PartnersBookModel", "done", "(I)I"⟩, 20) := ⟨⟨by decide +kernel, by decide +kernel⟩, List.mem_of_getElem? (i := 1053) (by decide +kernel), List.mem_of_getElem? (i := 1331) (by decide +kernel), List.mem_of_getElem? (i := 1332) (by decide +kernel)⟩
theorem lw_p28 : lw_okq (⟨"PartnersBookModel", "isHouse", "(I)Z"⟩, 20) := ⟨⟨by decide +kernel, by decide +kernel⟩, List.mem_of_getElem? (i := 1053) (by decide +kernel), List.mem_of_getElem? (i := 1340) (by decide +kernel), List.mem_of_getElem? (i := 1341) (by decide +kernel)⟩
theorem lw_p29 : lw_okq (⟨"PartnersBookModel", "isSeat", "(II)Z"⟩, 20) := ⟨⟨by decide +kernel, by decide +kernel⟩, List.mem_of_getElem? (i := 1053) (by decide +kernel), List.mem_of_getElem? (i := 1348) (by decide +kernel), List.mem_of_getElem? (i := 1349) (by decide +kernel)⟩
theorem lw_p30 : lw_okq (⟨"PartnersBookModel", "holder", "(LPartnersBookModel$House;I)I"⟩, 20) := ⟨⟨by decide +kernel, by decide +kernel⟩, List.mem_of_getElem? (i := 1053) (by decide +kernel), List.mem_of_getElem? (i := 1353) (by decide +kernel), List.mem_of_getElem? (i := 1354) (by decide +kernel)⟩
theorem lw_p31 : lw_okq (⟨"PartnersBookModel", "way", "(II)I"⟩, 20) := ⟨⟨by decide +kernel, by decide +kernel⟩, List.mem_of_getElem? (i := 1053) (by decide +kernel), List.mem_of_getElem? (i := 1373) (by decide +kernel), List.mem_of_getElem? (i := 1374) (by decide +kernel)⟩
def lw_privs_2 : List (MethodName × Nat) := [(⟨"PartnersBook$Closing", "creditDays", "(LPartnersBook$DaySums;LPartnersBook$Stretch;LPartnersBook$Tenure;)J"⟩, 5), (⟨"PartnersBook$Closing", "giveSums", "(LPartnersBook$Stretch;LPartnersBook$Rule;J)J"⟩, 5), (⟨"PartnersBook$Closing", "shareGain", "(LPartnersBook$Stretch;LPartnersBook$Rule;J)V"⟩, 5), (⟨"PartnersBook$Closing", "weigh", "(LPartnersBook$Stretch;LPartnersBook$Rule;I)V"⟩, 5), (⟨"PartnersBook$Closing", "shareLack", "(LPartnersBook$Stretch;LPartnersBook$Rule;J)V"⟩, 5), (⟨"PartnersBook$Closing", "settleMends", "(LPartnersBook$House;)V"⟩, 5), (⟨"PartnersBook$Closing", "bookDues", "(LPartnersBook$House;)V"⟩, 5), (⟨"PartnersBook$Closing", "handOver", "(LPartnersBook$House;I)V"⟩, 5), (⟨"PartnersBook", "gatherBearers", "(LPartnersBook$House;I)V"⟩, 11), (⟨"PartnersBook", "keepDebtParts", "()I"⟩, 11), (⟨"PartnersBookModel", "refused", "(I)I"⟩, 20), (⟨"PartnersBookModel", "done", "(I)I"⟩, 20), (⟨"PartnersBookModel", "isHouse", "(I)Z"⟩, 20), (⟨"PartnersBookModel", "isSeat", "(II)Z"⟩, 20), (⟨"PartnersBookModel", "holder", "(LPartnersBookModel$House;I)I"⟩, 20), (⟨"PartnersBookModel", "way", "(II)I"⟩, 20)]
theorem lw_r2 : ∀ q ∈ lw_privs_2, lw_okq q := List.forall_mem_cons.mpr ⟨lw_p16, List.forall_mem_cons.mpr ⟨lw_p17, List.forall_mem_cons.mpr ⟨lw_p18, List.forall_mem_cons.mpr ⟨lw_p19, List.forall_mem_cons.mpr ⟨lw_p20, List.forall_mem_cons.mpr ⟨lw_p21, List.forall_mem_cons.mpr ⟨lw_p22, List.forall_mem_cons.mpr ⟨lw_p23, List.forall_mem_cons.mpr ⟨lw_p24, List.forall_mem_cons.mpr ⟨lw_p25, List.forall_mem_cons.mpr ⟨lw_p26, List.forall_mem_cons.mpr ⟨lw_p27, List.forall_mem_cons.mpr ⟨lw_p28, List.forall_mem_cons.mpr ⟨lw_p29, List.forall_mem_cons.mpr ⟨lw_p30, List.forall_mem_cons.mpr ⟨lw_p31, fun _ h => absurd h List.not_mem_nil⟩⟩⟩⟩⟩⟩⟩⟩⟩⟩⟩⟩⟩⟩⟩⟩
theorem lw_p32 : lw_okq (⟨"PartnersBookModel", "owns", "(II)Z"⟩, 20) := ⟨⟨by decide +kernel, by decide +kernel⟩, List.mem_of_getElem? (i := 1053) (by decide +kernel), List.mem_of_getElem? (i := 1377) (by decide +kernel), List.mem_of_getElem? (i := 1378) (by decide +kernel)⟩
theorem lw_p33 : lw_okq (⟨"PartnersBookModel", "begins", "(LPartnersBookModel$House;IIIZ)I"⟩, 20) := ⟨⟨by decide +kernel, by decide +kernel⟩, List.mem_of_getElem? (i := 1053) (by decide +kernel), List.mem_of_getElem? (i := 1381) (by decide +kernel), List.mem_of_getElem? (i := 1382) (by decide +kernel)⟩
theorem lw_p34 : lw_okq (⟨"PartnersBookModel", "enters", "(IIII)I"⟩, 20) := ⟨⟨by decide +kernel, by decide +kernel⟩, List.mem_of_getElem? (i := 1053) (by decide +kernel), List.mem_of_getElem? (i := 1421) (by decide +kernel), List.mem_of_getElem? (i := 1422) (by decide +kernel)⟩
theorem lw_p35 : lw_okq (⟨"PartnersBookModel", "isTenure", "(II)Z"⟩, 20) := ⟨⟨by decide +kernel, by decide +kernel⟩, List.mem_of_getElem? (i := 1053) (by decide +kernel), List.mem_of_getElem? (i := 1447) (by decide +kernel), List.mem_of_getElem? (i := 1448) (by decide +kernel)⟩
theorem lw_p36 : lw_okq (⟨"PartnersBookModel", "refusedAt", "(II)I"⟩, 20) := ⟨⟨by decide +kernel, by decide +kernel⟩, List.mem_of_getElem? (i := 1053) (by decide +kernel), List.mem_of_getElem? (i := 1476) (by decide +kernel), List.mem_of_getElem? (i := 1477) (by decide +kernel)⟩
theorem lw_p37 : lw_okq (⟨"PartnersBookModel", "behind", "(II)I"⟩, 20) := ⟨⟨by decide +kernel, by decide +kernel⟩, List.mem_of_getElem? (i := 1053) (by decide +kernel), List.mem_of_getElem? (i := 1480) (by decide +kernel), List.mem_of_getElem? (i := 1481) (by decide +kernel)⟩
theorem lw_p38 : lw_okq (⟨"PartnersBookModel", "looses", "(LPartnersBookModel$House;I)V"⟩, 20) := ⟨⟨by decide +kernel, by decide +kernel⟩, List.mem_of_getElem? (i := 1053) (by decide +kernel), List.mem_of_getElem? (i := 1492) (by decide +kernel), List.mem_of_getElem? (i := 1493) (by decide +kernel)⟩
theorem lw_p39 : lw_okq (⟨"PartnersBookModel", "stretch", "(LPartnersBookModel$House;II)V"⟩, 20) := ⟨⟨by decide +kernel, by decide +kernel⟩, List.mem_of_getElem? (i := 1053) (by decide +kernel), List.mem_of_getElem? (i := 1497) (by decide +kernel), List.mem_of_getElem? (i := 1498) (by decide +kernel)⟩
theorem lw_p40 : lw_okq (⟨"PartnersBookModel", "present", "(LPartnersBookModel$House;I)V"⟩, 20) := ⟨⟨by decide +kernel, by decide +kernel⟩, List.mem_of_getElem? (i := 1053) (by decide +kernel), List.mem_of_getElem? (i := 1509) (by decide +kernel), List.mem_of_getElem? (i := 1510) (by decide +kernel)⟩
theorem lw_p41 : lw_okq (⟨"PartnersBookModel", "clears", "(LPartnersBookModel$House;I)V"⟩, 20) := ⟨⟨by decide +kernel, by decide +kernel⟩, List.mem_of_getElem? (i := 1053) (by decide +kernel), List.mem_of_getElem? (i := 1513) (by decide +kernel), List.mem_of_getElem? (i := 1514) (by decide +kernel)⟩
theorem lw_p42 : lw_okq (⟨"PartnersBookModel", "gives", "(LPartnersBookModel$House;IIJ)V"⟩, 20) := ⟨⟨by decide +kernel, by decide +kernel⟩, List.mem_of_getElem? (i := 1053) (by decide +kernel), List.mem_of_getElem? (i := 1521) (by decide +kernel), List.mem_of_getElem? (i := 1522) (by decide +kernel)⟩
theorem lw_p43 : lw_okq (⟨"PartnersBookModel", "shares", "(LPartnersBookModel$House;IIJ)V"⟩, 20) := ⟨⟨by decide +kernel, by decide +kernel⟩, List.mem_of_getElem? (i := 1053) (by decide +kernel), List.mem_of_getElem? (i := 1526) (by decide +kernel), List.mem_of_getElem? (i := 1527) (by decide +kernel)⟩
theorem lw_p44 : lw_okq (⟨"PartnersBookModel", "weights", "(LPartnersBookModel$House;II)V"⟩, 20) := ⟨⟨by decide +kernel, by decide +kernel⟩, List.mem_of_getElem? (i := 1053) (by decide +kernel), List.mem_of_getElem? (i := 1530) (by decide +kernel), List.mem_of_getElem? (i := 1531) (by decide +kernel)⟩
theorem lw_p45 : lw_okq (⟨"PartnersBookModel", "cut", "(J[JZLPartnersBookModel$House;)Z"⟩, 20) := ⟨⟨by decide +kernel, by decide +kernel⟩, List.mem_of_getElem? (i := 1053) (by decide +kernel), List.mem_of_getElem? (i := 1534) (by decide +kernel), List.mem_of_getElem? (i := 1535) (by decide +kernel)⟩
theorem lw_p46 : lw_okq (⟨"PartnersBookModel", "weighs", "(IZLPartnersBookModel$House;)I"⟩, 20) := ⟨⟨by decide +kernel, by decide +kernel⟩, List.mem_of_getElem? (i := 1053) (by decide +kernel), List.mem_of_getElem? (i := 1538) (by decide +kernel), List.mem_of_getElem? (i := 1539) (by decide +kernel)⟩
theorem lw_p47 : lw_okq (⟨"PartnersBookModel", "isLimited", "(LPartnersBookModel$House;I)Z"⟩, 20) := ⟨⟨by decide +kernel, by decide +kernel⟩, List.mem_of_getElem? (i := 1053) (by decide +kernel), List.mem_of_getElem? (i := 1542) (by decide +kernel), List.mem_of_getElem? (i := 1543) (by decide +kernel)⟩
def lw_privs_3 : List (MethodName × Nat) := [(⟨"PartnersBookModel", "owns", "(II)Z"⟩, 20), (⟨"PartnersBookModel", "begins", "(LPartnersBookModel$House;IIIZ)I"⟩, 20), (⟨"PartnersBookModel", "enters", "(IIII)I"⟩, 20), (⟨"PartnersBookModel", "isTenure", "(II)Z"⟩, 20), (⟨"PartnersBookModel", "refusedAt", "(II)I"⟩, 20), (⟨"PartnersBookModel", "behind", "(II)I"⟩, 20), (⟨"PartnersBookModel", "looses", "(LPartnersBookModel$House;I)V"⟩, 20), (⟨"PartnersBookModel", "stretch", "(LPartnersBookModel$House;II)V"⟩, 20), (⟨"PartnersBookModel", "present", "(LPartnersBookModel$House;I)V"⟩, 20), (⟨"PartnersBookModel", "clears", "(LPartnersBookModel$House;I)V"⟩, 20), (⟨"PartnersBookModel", "gives", "(LPartnersBookModel$House;IIJ)V"⟩, 20), (⟨"PartnersBookModel", "shares", "(LPartnersBookModel$House;IIJ)V"⟩, 20), (⟨"PartnersBookModel", "weights", "(LPartnersBookModel$House;II)V"⟩, 20), (⟨"PartnersBookModel", "cut", "(J[JZLPartnersBookModel$House;)Z"⟩, 20), (⟨"PartnersBookModel", "weighs", "(IZLPartnersBookModel$House;)I"⟩, 20), (⟨"PartnersBookModel", "isLimited", "(LPartnersBookModel$House;I)Z"⟩, 20)]
theorem lw_r3 : ∀ q ∈ lw_privs_3, lw_okq q := List.forall_mem_cons.mpr ⟨lw_p32, List.forall_mem_cons.mpr ⟨lw_p33, List.forall_mem_cons.mpr ⟨lw_p34, List.forall_mem_cons.mpr ⟨lw_p35, List.forall_mem_cons.mpr ⟨lw_p36, List.forall_mem_cons.mpr ⟨lw_p37, List.forall_mem_cons.mpr ⟨lw_p38, List.forall_mem_cons.mpr ⟨lw_p39, List.forall_mem_cons.mpr ⟨lw_p40, List.forall_mem_cons.mpr ⟨lw_p41, List.forall_mem_cons.mpr ⟨lw_p42, List.forall_mem_cons.mpr ⟨lw_p43, List.forall_mem_cons.mpr ⟨lw_p44, List.forall_mem_cons.mpr ⟨lw_p45, List.forall_mem_cons.mpr ⟨lw_p46, List.forall_mem_cons.mpr ⟨lw_p47, fun _ h => absurd h List.not_mem_nil⟩⟩⟩⟩⟩⟩⟩⟩⟩⟩⟩⟩⟩⟩⟩⟩
theorem lw_p48 : lw_okq (⟨"PartnersBookModel", "bearing", "(LPartnersBookModel$House;J)J"⟩, 20) := ⟨⟨by decide +kernel, by decide +kernel⟩, List.mem_of_getElem? (i := 1053) (by decide +kernel), List.mem_of_getElem? (i := 1546) (by decide +kernel), List.mem_of_getElem? (i := 1547) (by decide +kernel)⟩
theorem lw_p49 : lw_okq (⟨"PartnersBookModel", "mended", "(LPartnersBookModel$House;I)V"⟩, 20) := ⟨⟨by decide +kernel, by decide +kernel⟩, List.mem_of_getElem? (i := 1053) (by decide +kernel), List.mem_of_getElem? (i := 1550) (by decide +kernel), List.mem_of_getElem? (i := 1551) (by decide +kernel)⟩
theorem lw_p50 : lw_okq (⟨"PartnersBookModel", "incomes", "(LPartnersBookModel$House;I)V"⟩, 20) := ⟨⟨by decide +kernel, by decide +kernel⟩, List.mem_of_getElem? (i := 1053) (by decide +kernel), List.mem_of_getElem? (i := 1557) (by decide +kernel), List.mem_of_getElem? (i := 1558) (by decide +kernel)⟩
def lw_privs_4 : List (MethodName × Nat) := [(⟨"PartnersBookModel", "bearing", "(LPartnersBookModel$House;J)J"⟩, 20), (⟨"PartnersBookModel", "mended", "(LPartnersBookModel$House;I)V"⟩, 20), (⟨"PartnersBookModel", "incomes", "(LPartnersBookModel$House;I)V"⟩, 20)]
theorem lw_r4 : ∀ q ∈ lw_privs_4, lw_okq q := List.forall_mem_cons.mpr ⟨lw_p48, List.forall_mem_cons.mpr ⟨lw_p49, List.forall_mem_cons.mpr ⟨lw_p50, fun _ h => absurd h List.not_mem_nil⟩⟩⟩
def lw_privs : List (MethodName × Nat) := lw_privs_1 ++ (lw_privs_2 ++ (lw_privs_3 ++ (lw_privs_4)))
def lw_tbl : List Cond := k2_sels lw_privs ++ tables_1
theorem lw_privs_ok : ∀ q ∈ lw_privs, lw_okq q := by
  show ∀ q ∈ lw_privs_1 ++ (lw_privs_2 ++ (lw_privs_3 ++ (lw_privs_4))), lw_okq q
  exact List.forall_mem_append.mpr ⟨lw_r1, List.forall_mem_append.mpr ⟨lw_r2, List.forall_mem_append.mpr ⟨lw_r3, lw_r4⟩⟩⟩
end
section
def RX0 : String := "PartnersBook$Closing"
def TX0 : u_T := fun k => match k with
  | 0 => ("PartnersBook$Closing", "stretches", "[LPartnersBook$Stretch;", true)
  | 1 => ("PartnersBook$Closing", "dayMoves", "[J", true)
  | 2 => ("PartnersBook$Closing", "shares", "LPartnersBook$Shares;", true)
  | 3 => ("PartnersBook$Closing", "count", "I", false)
  | _ => ("PartnersBook$Closing", "nobodyOfAll", "J", false)
def tyX0 : Nat → FieldType := fun k => match k with
  | 0 => .array (.object "PartnersBook$Stretch")
  | 1 => .array .long
  | 2 => .object "PartnersBook$Shares"
  | 3 => .int
  | _ => .long
abbrev wsX00 : List Cond := u_ws RX0 TX0 5
theorem nmX0 : ∀ a, a < 5 → ∀ b, b < 5 → a ≠ b → (TX0 a).2.1 ≠ (TX0 b).2.1 := by decide +kernel
theorem tyX0_ok : ∀ k, k < 5 → parseFieldDescriptor (TX0 k).2.2.1 = some (tyX0 k) := by decide +kernel
abbrev cX0_init : ByteArray := prog_2_method_1_code
def yX0_init : MethodName := ⟨RX0, "<init>", "(LPartnersBook$Shares;)V"⟩
abbrev cX0_at : ByteArray := prog_2_method_2_code
def yX0_at : MethodName := ⟨RX0, "at", "(I)LPartnersBook$Stretch;"⟩
abbrev cX0_append : ByteArray := prog_2_method_3_code
def yX0_append : MethodName := ⟨RX0, "append", "(I)LPartnersBook$Stretch;"⟩
abbrev cX0_nobodyOfLatest : ByteArray := prog_2_method_4_code
def yX0_nobodyOfLatest : MethodName := ⟨RX0, "nobodyOfLatest", "()J"⟩
abbrev cX0_closeYear : ByteArray := prog_2_method_5_code
def yX0_closeYear : MethodName := ⟨RX0, "closeYear", "(LPartnersBook$House;I)V"⟩
abbrev cX0_partDays : ByteArray := prog_2_method_6_code
def yX0_partDays : MethodName := ⟨RX0, "partDays", "(LPartnersBook$House;I)V"⟩
abbrev cX0_cutLoose : ByteArray := prog_2_method_7_code
def yX0_cutLoose : MethodName := ⟨RX0, "cutLoose", "(LPartnersBook$House;)V"⟩
abbrev cX0_settleStretches : ByteArray := prog_2_method_8_code
def yX0_settleStretches : MethodName := ⟨RX0, "settleStretches", "(LPartnersBook$House;)V"⟩
abbrev cX0_settleMends : ByteArray := prog_2_method_9_code
def yX0_settleMends : MethodName := ⟨RX0, "settleMends", "(LPartnersBook$House;)V"⟩
abbrev cX0_giveWages : ByteArray := prog_2_method_10_code
def yX0_giveWages : MethodName := ⟨RX0, "giveWages", "(LPartnersBook$Stretch;LPartnersBook$Rule;)J"⟩
abbrev cX0_giveInterest : ByteArray := prog_2_method_11_code
def yX0_giveInterest : MethodName := ⟨RX0, "giveInterest", "(LPartnersBook$House;LPartnersBook$Stretch;LPartnersBook$Rule;)J"⟩
abbrev cX0_creditDays : ByteArray := prog_2_method_12_code
def yX0_creditDays : MethodName := ⟨RX0, "creditDays", "(LPartnersBook$DaySums;LPartnersBook$Stretch;LPartnersBook$Tenure;)J"⟩
abbrev cX0_giveSums : ByteArray := prog_2_method_13_code
def yX0_giveSums : MethodName := ⟨RX0, "giveSums", "(LPartnersBook$Stretch;LPartnersBook$Rule;J)J"⟩
abbrev cX0_weigh : ByteArray := prog_2_method_14_code
def yX0_weigh : MethodName := ⟨RX0, "weigh", "(LPartnersBook$Stretch;LPartnersBook$Rule;I)V"⟩
abbrev cX0_shareGain : ByteArray := prog_2_method_15_code
def yX0_shareGain : MethodName := ⟨RX0, "shareGain", "(LPartnersBook$Stretch;LPartnersBook$Rule;J)V"⟩
abbrev cX0_shareLack : ByteArray := prog_2_method_16_code
def yX0_shareLack : MethodName := ⟨RX0, "shareLack", "(LPartnersBook$Stretch;LPartnersBook$Rule;J)V"⟩
abbrev cX0_bookDues : ByteArray := prog_2_method_17_code
def yX0_bookDues : MethodName := ⟨RX0, "bookDues", "(LPartnersBook$House;)V"⟩
abbrev cX0_handOver : ByteArray := prog_2_method_18_code
def yX0_handOver : MethodName := ⟨RX0, "handOver", "(LPartnersBook$House;I)V"⟩
def RX1 : String := "PartnersBook$DaySums"
def TX1 : u_T := fun k => match k with
  | 0 => ("PartnersBook$DaySums", "tenures", "[LPartnersBook$Tenure;", true)
  | 1 => ("PartnersBook$DaySums", "days", "[I", true)
  | 2 => ("PartnersBook$DaySums", "sums", "[I", true)
  | _ => ("PartnersBook$DaySums", "count", "I", false)
def tyX1 : Nat → FieldType := fun k => match k with
  | 0 => .array (.object "PartnersBook$Tenure")
  | 1 => .array .int
  | 2 => .array .int
  | _ => .int
abbrev wsX10 : List Cond := u_ws RX1 TX1 4
theorem nmX1 : ∀ a, a < 4 → ∀ b, b < 4 → a ≠ b → (TX1 a).2.1 ≠ (TX1 b).2.1 := by decide +kernel
theorem tyX1_ok : ∀ k, k < 4 → parseFieldDescriptor (TX1 k).2.2.1 = some (tyX1 k) := by decide +kernel
abbrev cX1_init : ByteArray := prog_3_method_1_code
def yX1_init : MethodName := ⟨RX1, "<init>", "(I)V"⟩
abbrev cX1_isFull : ByteArray := prog_3_method_2_code
def yX1_isFull : MethodName := ⟨RX1, "isFull", "()Z"⟩
abbrev cX1_append : ByteArray := prog_3_method_3_code
def yX1_append : MethodName := ⟨RX1, "append", "(LPartnersBook$Tenure;II)V"⟩
abbrev cX1_dropLatest : ByteArray := prog_3_method_4_code
def yX1_dropLatest : MethodName := ⟨RX1, "dropLatest", "()V"⟩
abbrev cX1_bookUpTo : ByteArray := prog_3_method_5_code
def yX1_bookUpTo : MethodName := ⟨RX1, "bookUpTo", "(I)V"⟩
def RX2 : String := "PartnersBook$House"
def TX2 : u_T := fun k => match k with
  | 0 => ("PartnersBook$House", "number", "I", true)
  | 1 => ("PartnersBook$House", "first", "I", true)
  | 2 => ("PartnersBook$House", "to", "I", false)
  | 3 => ("PartnersBook$House", "ends", "[I", true)
  | 4 => ("PartnersBook$House", "yearsTold", "I", false)
  | 5 => ("PartnersBook$House", "yearsClosed", "I", false)
  | 6 => ("PartnersBook$House", "letters", "[I", true)
  | 7 => ("PartnersBook$House", "held", "[LPartnersBook$Tenure;", true)
  | 8 => ("PartnersBook$House", "tenures", "[LPartnersBook$Tenure;", true)
  | 9 => ("PartnersBook$House", "tenureCount", "I", false)
  | 10 => ("PartnersBook$House", "rules", "[LPartnersBook$Rule;", true)
  | 11 => ("PartnersBook$House", "ruleCount", "I", false)
  | 12 => ("PartnersBook$House", "leaves", "[LPartnersBook$Leaf;", true)
  | 13 => ("PartnersBook$House", "income", "[J", true)
  | 14 => ("PartnersBook$House", "looseSum", "J", false)
  | 15 => ("PartnersBook$House", "owners", "I", false)
  | 16 => ("PartnersBook$House", "moves", "LPartnersBook$DaySums;", true)
  | 17 => ("PartnersBook$House", "mends", "LPartnersBook$DaySums;", true)
  | 18 => ("PartnersBook$House", "undos", "LPartnersBook$UndoLog;", true)
  | _ => ("PartnersBook$House", "closing", "LPartnersBook$Closing;", true)
def tyX2 : Nat → FieldType := fun k => match k with
  | 0 => .int
  | 1 => .int
  | 2 => .int
  | 3 => .array .int
  | 4 => .int
  | 5 => .int
  | 6 => .array .int
  | 7 => .array (.object "PartnersBook$Tenure")
  | 8 => .array (.object "PartnersBook$Tenure")
  | 9 => .int
  | 10 => .array (.object "PartnersBook$Rule")
  | 11 => .int
  | 12 => .array (.object "PartnersBook$Leaf")
  | 13 => .array .long
  | 14 => .long
  | 15 => .int
  | 16 => .object "PartnersBook$DaySums"
  | 17 => .object "PartnersBook$DaySums"
  | 18 => .object "PartnersBook$UndoLog"
  | _ => .object "PartnersBook$Closing"
abbrev wsX20 : List Cond := u_ws RX2 TX2 20
theorem nmX2 : ∀ a, a < 20 → ∀ b, b < 20 → a ≠ b → (TX2 a).2.1 ≠ (TX2 b).2.1 := by decide +kernel
theorem tyX2_ok : ∀ k, k < 20 → parseFieldDescriptor (TX2 k).2.2.1 = some (tyX2 k) := by decide +kernel
abbrev cX2_init : ByteArray := prog_4_method_1_code
def yX2_init : MethodName := ⟨RX2, "<init>", "(IILPartnersBook$Shares;)V"⟩
abbrev cX2_isFree : ByteArray := prog_4_method_2_code
def yX2_isFree : MethodName := ⟨RX2, "isFree", "(I)Z"⟩
abbrev cX2_tenureAt : ByteArray := prog_4_method_3_code
def yX2_tenureAt : MethodName := ⟨RX2, "tenureAt", "(I)LPartnersBook$Tenure;"⟩
abbrev cX2_sitting : ByteArray := prog_4_method_4_code
def yX2_sitting : MethodName := ⟨RX2, "sitting", "(I)LPartnersBook$Tenure;"⟩
abbrev cX2_isVacantFrom : ByteArray := prog_4_method_5_code
def yX2_isVacantFrom : MethodName := ⟨RX2, "isVacantFrom", "(II)Z"⟩
abbrev cX2_addTenure : ByteArray := prog_4_method_6_code
def yX2_addTenure : MethodName := ⟨RX2, "addTenure", "(LPartnersBook$Partner;IIZ)I"⟩
abbrev cX2_isOwnedBy : ByteArray := prog_4_method_7_code
def yX2_isOwnedBy : MethodName := ⟨RX2, "isOwnedBy", "(I)Z"⟩
abbrev cX2_tenureIn : ByteArray := prog_4_method_8_code
def yX2_tenureIn : MethodName := ⟨RX2, "tenureIn", "(II)LPartnersBook$Tenure;"⟩
abbrev cX2_latestRule : ByteArray := prog_4_method_9_code
def yX2_latestRule : MethodName := ⟨RX2, "latestRule", "()LPartnersBook$Rule;"⟩
abbrev cX2_ruleOn : ByteArray := prog_4_method_10_code
def yX2_ruleOn : MethodName := ⟨RX2, "ruleOn", "(I)LPartnersBook$Rule;"⟩
abbrev cX2_termOn : ByteArray := prog_4_method_11_code
def yX2_termOn : MethodName := ⟨RX2, "termOn", "(III)I"⟩
abbrev cX2_leafOn : ByteArray := prog_4_method_12_code
def yX2_leafOn : MethodName := ⟨RX2, "leafOn", "(I)LPartnersBook$Leaf;"⟩
abbrev cX2_entriesOn : ByteArray := prog_4_method_13_code
def yX2_entriesOn : MethodName := ⟨RX2, "entriesOn", "(I)J"⟩
abbrev cX2_dropEntry : ByteArray := prog_4_method_14_code
def yX2_dropEntry : MethodName := ⟨RX2, "dropEntry", "(I)V"⟩
abbrev cX2_firstOpenDay : ByteArray := prog_4_method_15_code
def yX2_firstOpenDay : MethodName := ⟨RX2, "firstOpenDay", "()I"⟩
abbrev cX2_firstOfNextYear : ByteArray := prog_4_method_16_code
def yX2_firstOfNextYear : MethodName := ⟨RX2, "firstOfNextYear", "()I"⟩
abbrev cX2_yearsClosedSince : ByteArray := prog_4_method_17_code
def yX2_yearsClosedSince : MethodName := ⟨RX2, "yearsClosedSince", "(I)I"⟩
abbrev cX2_lagsFor : ByteArray := prog_4_method_18_code
def yX2_lagsFor : MethodName := ⟨RX2, "lagsFor", "(LPartnersBook$House;I)Z"⟩
abbrev cX2_isParted : ByteArray := prog_4_method_19_code
def yX2_isParted : MethodName := ⟨RX2, "isParted", "(I)Z"⟩
abbrev cX2_receive : ByteArray := prog_4_method_20_code
def yX2_receive : MethodName := ⟨RX2, "receive", "(IJ)V"⟩
abbrev cX2_factOf : ByteArray := prog_4_method_21_code
def yX2_factOf : MethodName := ⟨RX2, "factOf", "(I)I"⟩
def RX3 : String := "PartnersBook$Leaf"
def TX3 : u_T := fun k => match k with
  | 0 => ("PartnersBook$Leaf", "sort", "I", true)
  | 1 => ("PartnersBook$Leaf", "entries", "[I", true)
  | _ => ("PartnersBook$Leaf", "count", "I", false)
def tyX3 : Nat → FieldType := fun k => match k with
  | 0 => .int
  | 1 => .array .int
  | _ => .int
abbrev wsX30 : List Cond := u_ws RX3 TX3 3
theorem nmX3 : ∀ a, a < 3 → ∀ b, b < 3 → a ≠ b → (TX3 a).2.1 ≠ (TX3 b).2.1 := by decide +kernel
theorem tyX3_ok : ∀ k, k < 3 → parseFieldDescriptor (TX3 k).2.2.1 = some (tyX3 k) := by decide +kernel
abbrev cX3_init : ByteArray := prog_5_method_1_code
def yX3_init : MethodName := ⟨RX3, "<init>", "(II)V"⟩
abbrev cX3_lacksEntries : ByteArray := prog_5_method_2_code
def yX3_lacksEntries : MethodName := ⟨RX3, "lacksEntries", "()Z"⟩
abbrev cX3_canHold : ByteArray := prog_5_method_3_code
def yX3_canHold : MethodName := ⟨RX3, "canHold", "(I)Z"⟩
abbrev cX3_append : ByteArray := prog_5_method_4_code
def yX3_append : MethodName := ⟨RX3, "append", "(I)V"⟩
abbrev cX3_dropLatest : ByteArray := prog_5_method_5_code
def yX3_dropLatest : MethodName := ⟨RX3, "dropLatest", "()V"⟩
abbrev cX3_entryAt : ByteArray := prog_5_method_6_code
def yX3_entryAt : MethodName := ⟨RX3, "entryAt", "(I)J"⟩
abbrev cX3_total : ByteArray := prog_5_method_7_code
def yX3_total : MethodName := ⟨RX3, "total", "()J"⟩
def RX4 : String := "PartnersBook$Partner"
def TX4 : u_T := fun k => match k with
  | 0 => ("PartnersBook$Partner", "number", "I", true)
  | 1 => ("PartnersBook$Partner", "kind", "I", true)
  | 2 => ("PartnersBook$Partner", "limit", "I", true)
  | _ => ("PartnersBook$Partner", "owner", "LPartnersBook$House;", true)
def tyX4 : Nat → FieldType := fun k => match k with
  | 0 => .int
  | 1 => .int
  | 2 => .int
  | _ => .object "PartnersBook$House"
abbrev wsX40 : List Cond := u_ws RX4 TX4 4
theorem nmX4 : ∀ a, a < 4 → ∀ b, b < 4 → a ≠ b → (TX4 a).2.1 ≠ (TX4 b).2.1 := by decide +kernel
theorem tyX4_ok : ∀ k, k < 4 → parseFieldDescriptor (TX4 k).2.2.1 = some (tyX4 k) := by decide +kernel
abbrev cX4_init : ByteArray := prog_6_method_1_code
def yX4_init : MethodName := ⟨RX4, "<init>", "(IIILPartnersBook$House;)V"⟩
abbrev cX4_isLimited : ByteArray := prog_6_method_2_code
def yX4_isLimited : MethodName := ⟨RX4, "isLimited", "()Z"⟩
abbrev cX4_isSilent : ByteArray := prog_6_method_3_code
def yX4_isSilent : MethodName := ⟨RX4, "isSilent", "()Z"⟩
def RX5 : String := "PartnersBook$Ring"
def TX5 : u_T := fun k => match k with
  | 0 => ("PartnersBook$Ring", "far", "[I", true)
  | 1 => ("PartnersBook$Ring", "found", "[I", true)
  | _ => ("PartnersBook$Ring", "length", "I", false)
def tyX5 : Nat → FieldType := fun k => match k with
  | 0 => .array .int
  | 1 => .array .int
  | _ => .int
abbrev wsX50 : List Cond := u_ws RX5 TX5 3
theorem nmX5 : ∀ a, a < 3 → ∀ b, b < 3 → a ≠ b → (TX5 a).2.1 ≠ (TX5 b).2.1 := by decide +kernel
theorem tyX5_ok : ∀ k, k < 3 → parseFieldDescriptor (TX5 k).2.2.1 = some (tyX5 k) := by decide +kernel
abbrev cX5_init : ByteArray := prog_7_method_1_code
def yX5_init : MethodName := ⟨RX5, "<init>", "()V"⟩
abbrev cX5_forget : ByteArray := prog_7_method_2_code
def yX5_forget : MethodName := ⟨RX5, "forget", "()V"⟩
abbrev cX5_houseAtStep : ByteArray := prog_7_method_3_code
def yX5_houseAtStep : MethodName := ⟨RX5, "houseAtStep", "(I)I"⟩
abbrev cX5_trace : ByteArray := prog_7_method_4_code
def yX5_trace : MethodName := ⟨RX5, "trace", "([LPartnersBook$House;III)Z"⟩
abbrev cX5_measure : ByteArray := prog_7_method_5_code
def yX5_measure : MethodName := ⟨RX5, "measure", "([LPartnersBook$House;II)V"⟩
abbrev cX5_markOwners : ByteArray := prog_7_method_6_code
def yX5_markOwners : MethodName := ⟨RX5, "markOwners", "(LPartnersBook$House;II)V"⟩
abbrev cX5_nextTowards : ByteArray := prog_7_method_7_code
def yX5_nextTowards : MethodName := ⟨RX5, "nextTowards", "([LPartnersBook$House;II)I"⟩
def RX6 : String := "PartnersBook$Rule"
def TX6 : u_T := fun k => match k with
  | 0 => ("PartnersBook$Rule", "day", "I", true)
  | 1 => ("PartnersBook$Rule", "thousandths", "I", false)
  | _ => ("PartnersBook$Rule", "terms", "[I", true)
def tyX6 : Nat → FieldType := fun k => match k with
  | 0 => .int
  | 1 => .int
  | _ => .array .int
abbrev wsX60 : List Cond := u_ws RX6 TX6 3
theorem nmX6 : ∀ a, a < 3 → ∀ b, b < 3 → a ≠ b → (TX6 a).2.1 ≠ (TX6 b).2.1 := by decide +kernel
theorem tyX6_ok : ∀ k, k < 3 → parseFieldDescriptor (TX6 k).2.2.1 = some (tyX6 k) := by decide +kernel
abbrev cX6_init : ByteArray := prog_8_method_1_code
def yX6_init : MethodName := ⟨RX6, "<init>", "(ILPartnersBook$Rule;)V"⟩
abbrev cX6_isTerm : ByteArray := prog_8_method_2_code
def yX6_isTerm : MethodName := ⟨RX6, "isTerm", "(II)Z"⟩
abbrev cX6_termOf : ByteArray := prog_8_method_3_code
def yX6_termOf : MethodName := ⟨RX6, "termOf", "(II)I"⟩
abbrev cX6_replace : ByteArray := prog_8_method_4_code
def yX6_replace : MethodName := ⟨RX6, "replace", "(III)I"⟩
abbrev cX6_differsFrom : ByteArray := prog_8_method_5_code
def yX6_differsFrom : MethodName := ⟨RX6, "differsFrom", "(LPartnersBook$Rule;)Z"⟩
def RX7 : String := "PartnersBook$Shares"
def TX7 : u_T := fun k => match k with
  | 0 => ("PartnersBook$Shares", "tenures", "[LPartnersBook$Tenure;", true)
  | 1 => ("PartnersBook$Shares", "weights", "[J", true)
  | 2 => ("PartnersBook$Shares", "parts", "[J", true)
  | 3 => ("PartnersBook$Shares", "rests", "[J", true)
  | 4 => ("PartnersBook$Shares", "kept", "[J", true)
  | _ => ("PartnersBook$Shares", "count", "I", false)
def tyX7 : Nat → FieldType := fun k => match k with
  | 0 => .array (.object "PartnersBook$Tenure")
  | 1 => .array .long
  | 2 => .array .long
  | 3 => .array .long
  | 4 => .array .long
  | _ => .int
abbrev wsX70 : List Cond := u_ws RX7 TX7 6
theorem nmX7 : ∀ a, a < 6 → ∀ b, b < 6 → a ≠ b → (TX7 a).2.1 ≠ (TX7 b).2.1 := by decide +kernel
theorem tyX7_ok : ∀ k, k < 6 → parseFieldDescriptor (TX7 k).2.2.1 = some (tyX7 k) := by decide +kernel
abbrev cX7_init : ByteArray := prog_9_method_1_code
def yX7_init : MethodName := ⟨RX7, "<init>", "()V"⟩
abbrev cX7_start : ByteArray := prog_9_method_2_code
def yX7_start : MethodName := ⟨RX7, "start", "()V"⟩
abbrev cX7_add : ByteArray := prog_9_method_3_code
def yX7_add : MethodName := ⟨RX7, "add", "(LPartnersBook$Tenure;J)V"⟩
abbrev cX7_totalWeight : ByteArray := prog_9_method_4_code
def yX7_totalWeight : MethodName := ⟨RX7, "totalWeight", "()J"⟩
abbrev cX7_cut : ByteArray := prog_9_method_5_code
def yX7_cut : MethodName := ⟨RX7, "cut", "(J)J"⟩
abbrev cX7_giveCoin : ByteArray := prog_9_method_6_code
def yX7_giveCoin : MethodName := ⟨RX7, "giveCoin", "()V"⟩
abbrev cX7_shareLoss : ByteArray := prog_9_method_7_code
def yX7_shareLoss : MethodName := ⟨RX7, "shareLoss", "(J)J"⟩
def RX8 : String := "PartnersBook$Stretch"
def TX8 : u_T := fun k => match k with
  | 0 => ("PartnersBook$Stretch", "tenures", "[LPartnersBook$Tenure;", true)
  | 1 => ("PartnersBook$Stretch", "dues", "[J", true)
  | 2 => ("PartnersBook$Stretch", "firstDay", "I", false)
  | 3 => ("PartnersBook$Stretch", "days", "I", false)
  | 4 => ("PartnersBook$Stretch", "result", "J", false)
  | _ => ("PartnersBook$Stretch", "nobody", "J", false)
def tyX8 : Nat → FieldType := fun k => match k with
  | 0 => .array (.object "PartnersBook$Tenure")
  | 1 => .array .long
  | 2 => .int
  | 3 => .int
  | 4 => .long
  | _ => .long
abbrev wsX80 : List Cond := u_ws RX8 TX8 6
theorem nmX8 : ∀ a, a < 6 → ∀ b, b < 6 → a ≠ b → (TX8 a).2.1 ≠ (TX8 b).2.1 := by decide +kernel
theorem tyX8_ok : ∀ k, k < 6 → parseFieldDescriptor (TX8 k).2.2.1 = some (tyX8 k) := by decide +kernel
abbrev cX8_init : ByteArray := prog_10_method_1_code
def yX8_init : MethodName := ⟨RX8, "<init>", "()V"⟩
abbrev cX8_begin : ByteArray := prog_10_method_2_code
def yX8_begin : MethodName := ⟨RX8, "begin", "(I)V"⟩
abbrev cX8_seatAll : ByteArray := prog_10_method_3_code
def yX8_seatAll : MethodName := ⟨RX8, "seatAll", "(LPartnersBook$House;)V"⟩
abbrev cX8_howManyIn : ByteArray := prog_10_method_4_code
def yX8_howManyIn : MethodName := ⟨RX8, "howManyIn", "()I"⟩
abbrev cX8_allDues : ByteArray := prog_10_method_5_code
def yX8_allDues : MethodName := ⟨RX8, "allDues", "()J"⟩
abbrev cX8_dueOf : ByteArray := prog_10_method_6_code
def yX8_dueOf : MethodName := ⟨RX8, "dueOf", "(LPartnersBook$Tenure;)J"⟩
abbrev cX8_factOf : ByteArray := prog_10_method_7_code
def yX8_factOf : MethodName := ⟨RX8, "factOf", "(I)J"⟩
def RX9 : String := "PartnersBook$Tenure"
def TX9 : u_T := fun k => match k with
  | 0 => ("PartnersBook$Tenure", "number", "I", true)
  | 1 => ("PartnersBook$Tenure", "partner", "LPartnersBook$Partner;", true)
  | 2 => ("PartnersBook$Tenure", "seat", "I", true)
  | 3 => ("PartnersBook$Tenure", "begin", "I", true)
  | 4 => ("PartnersBook$Tenure", "word", "Z", true)
  | 5 => ("PartnersBook$Tenure", "end", "I", false)
  | 6 => ("PartnersBook$Tenure", "instalments", "I", false)
  | 7 => ("PartnersBook$Tenure", "years", "I", false)
  | 8 => ("PartnersBook$Tenure", "heir", "LPartnersBook$Tenure;", false)
  | 9 => ("PartnersBook$Tenure", "credit", "J", false)
  | 10 => ("PartnersBook$Tenure", "hiddenSum", "J", false)
  | 11 => ("PartnersBook$Tenure", "borneSum", "J", false)
  | 12 => ("PartnersBook$Tenure", "lent", "J", false)
  | 13 => ("PartnersBook$Tenure", "payable", "J", false)
  | 14 => ("PartnersBook$Tenure", "paid", "J", false)
  | _ => ("PartnersBook$Tenure", "dues", "J", false)
def tyX9 : Nat → FieldType := fun k => match k with
  | 0 => .int
  | 1 => .object "PartnersBook$Partner"
  | 2 => .int
  | 3 => .int
  | 4 => .boolean
  | 5 => .int
  | 6 => .int
  | 7 => .int
  | 8 => .object "PartnersBook$Tenure"
  | 9 => .long
  | 10 => .long
  | 11 => .long
  | 12 => .long
  | 13 => .long
  | 14 => .long
  | _ => .long
abbrev wsX90 : List Cond := u_ws RX9 TX9 16
theorem nmX9 : ∀ a, a < 16 → ∀ b, b < 16 → a ≠ b → (TX9 a).2.1 ≠ (TX9 b).2.1 := by decide +kernel
theorem tyX9_ok : ∀ k, k < 16 → parseFieldDescriptor (TX9 k).2.2.1 = some (tyX9 k) := by decide +kernel
abbrev cX9_init : ByteArray := prog_11_method_1_code
def yX9_init : MethodName := ⟨RX9, "<init>", "(ILPartnersBook$Partner;IIZ)V"⟩
abbrev cX9_hasEnded : ByteArray := prog_11_method_2_code
def yX9_hasEnded : MethodName := ⟨RX9, "hasEnded", "()Z"⟩
abbrev cX9_isIn : ByteArray := prog_11_method_3_code
def yX9_isIn : MethodName := ⟨RX9, "isIn", "(I)Z"⟩
abbrev cX9_room : ByteArray := prog_11_method_4_code
def yX9_room : MethodName := ⟨RX9, "room", "()J"⟩
abbrev cX9_finish : ByteArray := prog_11_method_5_code
def yX9_finish : MethodName := ⟨RX9, "finish", "(III)V"⟩
abbrev cX9_payOut : ByteArray := prog_11_method_6_code
def yX9_payOut : MethodName := ⟨RX9, "payOut", "()V"⟩
abbrev cX9_accountOf : ByteArray := prog_11_method_7_code
def yX9_accountOf : MethodName := ⟨RX9, "accountOf", "(I)J"⟩
abbrev cX9_factOf : ByteArray := prog_11_method_8_code
def yX9_factOf : MethodName := ⟨RX9, "factOf", "(I)I"⟩
def RX10 : String := "PartnersBook$UndoLog"
def TX10 : u_T := fun k => match k with
  | 0 => ("PartnersBook$UndoLog", "days", "[I", true)
  | 1 => ("PartnersBook$UndoLog", "next", "I", false)
  | _ => ("PartnersBook$UndoLog", "count", "I", false)
def tyX10 : Nat → FieldType := fun k => match k with
  | 0 => .array .int
  | 1 => .int
  | _ => .int
abbrev wsX100 : List Cond := u_ws RX10 TX10 3
theorem nmX10 : ∀ a, a < 3 → ∀ b, b < 3 → a ≠ b → (TX10 a).2.1 ≠ (TX10 b).2.1 := by decide +kernel
theorem tyX10_ok : ∀ k, k < 3 → parseFieldDescriptor (TX10 k).2.2.1 = some (tyX10 k) := by decide +kernel
abbrev cX10_init : ByteArray := prog_12_method_1_code
def yX10_init : MethodName := ⟨RX10, "<init>", "()V"⟩
abbrev cX10_clear : ByteArray := prog_12_method_2_code
def yX10_clear : MethodName := ⟨RX10, "clear", "()V"⟩
abbrev cX10_noteEntry : ByteArray := prog_12_method_3_code
def yX10_noteEntry : MethodName := ⟨RX10, "noteEntry", "(I)V"⟩
abbrev cX10_noteMove : ByteArray := prog_12_method_4_code
def yX10_noteMove : MethodName := ⟨RX10, "noteMove", "()V"⟩
abbrev cX10_takeLatest : ByteArray := prog_12_method_5_code
def yX10_takeLatest : MethodName := ⟨RX10, "takeLatest", "()I"⟩
def RX11 : String := "PartnersBook"
def TX11 : u_T := fun k => match k with
  | 0 => ("PartnersBook", "houses", "[LPartnersBook$House;", true)
  | 1 => ("PartnersBook", "houseCount", "I", false)
  | 2 => ("PartnersBook", "partners", "[LPartnersBook$Partner;", true)
  | 3 => ("PartnersBook", "partnerCount", "I", false)
  | 4 => ("PartnersBook", "shares", "LPartnersBook$Shares;", true)
  | 5 => ("PartnersBook", "ring", "LPartnersBook$Ring;", true)
  | 6 => ("PartnersBook", "debtParts", "[I", true)
  | 7 => ("PartnersBook", "debtOfNobody", "I", false)
  | 8 => ("PartnersBook", "sheetRow", "[J", true)
  | 9 => ("PartnersBook", "lastStatus", "I", false)
  | _ => ("PartnersBook", "lastWhere", "I", false)
def tyX11 : Nat → FieldType := fun k => match k with
  | 0 => .array (.object "PartnersBook$House")
  | 1 => .int
  | 2 => .array (.object "PartnersBook$Partner")
  | 3 => .int
  | 4 => .object "PartnersBook$Shares"
  | 5 => .object "PartnersBook$Ring"
  | 6 => .array .int
  | 7 => .int
  | 8 => .array .long
  | 9 => .int
  | _ => .int
abbrev wsX110 : List Cond := u_ws RX11 TX11 11
theorem nmX11 : ∀ a, a < 11 → ∀ b, b < 11 → a ≠ b → (TX11 a).2.1 ≠ (TX11 b).2.1 := by decide +kernel
theorem tyX11_ok : ∀ k, k < 11 → parseFieldDescriptor (TX11 k).2.2.1 = some (tyX11 k) := by decide +kernel
abbrev cX11_init : ByteArray := prog_1_method_1_code
def yX11_init : MethodName := ⟨RX11, "<init>", "()V"⟩
abbrev cX11_house : ByteArray := prog_1_method_2_code
def yX11_house : MethodName := ⟨RX11, "house", "(I)I"⟩
abbrev cX11_partner : ByteArray := prog_1_method_3_code
def yX11_partner : MethodName := ⟨RX11, "partner", "(II)I"⟩
abbrev cX11_letter : ByteArray := prog_1_method_4_code
def yX11_letter : MethodName := ⟨RX11, "letter", "(III)I"⟩
abbrev cX11_unseal : ByteArray := prog_1_method_5_code
def yX11_unseal : MethodName := ⟨RX11, "unseal", "(II)I"⟩
abbrev cX11_holds : ByteArray := prog_1_method_6_code
def yX11_holds : MethodName := ⟨RX11, "holds", "(II)I"⟩
abbrev cX11_join : ByteArray := prog_1_method_7_code
def yX11_join : MethodName := ⟨RX11, "join", "(IIIIZ)I"⟩
abbrev cX11_leave : ByteArray := prog_1_method_8_code
def yX11_leave : MethodName := ⟨RX11, "leave", "(IIIII)I"⟩
abbrev cX11_die : ByteArray := prog_1_method_9_code
def yX11_die : MethodName := ⟨RX11, "die", "(IIII)I"⟩
abbrev cX11_circle : ByteArray := prog_1_method_10_code
def yX11_circle : MethodName := ⟨RX11, "circle", "(I)I"⟩
abbrev cX11_rule : ByteArray := prog_1_method_11_code
def yX11_rule : MethodName := ⟨RX11, "rule", "(II)I"⟩
abbrev cX11_term : ByteArray := prog_1_method_12_code
def yX11_term : MethodName := ⟨RX11, "term", "(IIII)I"⟩
abbrev cX11_leaf : ByteArray := prog_1_method_13_code
def yX11_leaf : MethodName := ⟨RX11, "leaf", "(IIII)I"⟩
abbrev cX11_tear : ByteArray := prog_1_method_14_code
def yX11_tear : MethodName := ⟨RX11, "tear", "(II)I"⟩
abbrev cX11_earn : ByteArray := prog_1_method_15_code
def yX11_earn : MethodName := ⟨RX11, "earn", "(III)I"⟩
abbrev cX11_spend : ByteArray := prog_1_method_16_code
def yX11_spend : MethodName := ⟨RX11, "spend", "(III)I"⟩
abbrev cX11_loose : ByteArray := prog_1_method_17_code
def yX11_loose : MethodName := ⟨RX11, "loose", "(II)I"⟩
abbrev cX11_move : ByteArray := prog_1_method_18_code
def yX11_move : MethodName := ⟨RX11, "move", "(IIIIZ)I"⟩
abbrev cX11_lend : ByteArray := prog_1_method_19_code
def yX11_lend : MethodName := ⟨RX11, "lend", "(IIIZ)I"⟩
abbrev cX11_undo : ByteArray := prog_1_method_20_code
def yX11_undo : MethodName := ⟨RX11, "undo", "(I)I"⟩
abbrev cX11_end : ByteArray := prog_1_method_21_code
def yX11_end : MethodName := ⟨RX11, "end", "(II)I"⟩
abbrev cX11_close : ByteArray := prog_1_method_22_code
def yX11_close : MethodName := ⟨RX11, "close", "(I)I"⟩
abbrev cX11_mend : ByteArray := prog_1_method_23_code
def yX11_mend : MethodName := ⟨RX11, "mend", "(III)I"⟩
abbrev cX11_hidden : ByteArray := prog_1_method_24_code
def yX11_hidden : MethodName := ⟨RX11, "hidden", "(III)I"⟩
abbrev cX11_bear : ByteArray := prog_1_method_25_code
def yX11_bear : MethodName := ⟨RX11, "bear", "(III)I"⟩
abbrev cX11_borne : ByteArray := prog_1_method_26_code
def yX11_borne : MethodName := ⟨RX11, "borne", "(I)I"⟩
abbrev cX11_account : ByteArray := prog_1_method_27_code
def yX11_account : MethodName := ⟨RX11, "account", "(III)J"⟩
abbrev cX11_tenure : ByteArray := prog_1_method_28_code
def yX11_tenure : MethodName := ⟨RX11, "tenure", "(III)I"⟩
abbrev cX11_who : ByteArray := prog_1_method_29_code
def yX11_who : MethodName := ⟨RX11, "who", "(III)I"⟩
abbrev cX11_stretch : ByteArray := prog_1_method_30_code
def yX11_stretch : MethodName := ⟨RX11, "stretch", "(III)J"⟩
abbrev cX11_due : ByteArray := prog_1_method_31_code
def yX11_due : MethodName := ⟨RX11, "due", "(III)J"⟩
abbrev cX11_told : ByteArray := prog_1_method_32_code
def yX11_told : MethodName := ⟨RX11, "told", "(II)I"⟩
abbrev cX11_sum : ByteArray := prog_1_method_33_code
def yX11_sum : MethodName := ⟨RX11, "sum", "(III)J"⟩
abbrev cX11_entry : ByteArray := prog_1_method_34_code
def yX11_entry : MethodName := ⟨RX11, "entry", "(III)J"⟩
abbrev cX11_sheet : ByteArray := prog_1_method_35_code
def yX11_sheet : MethodName := ⟨RX11, "sheet", "(IJ)I"⟩
abbrev cX11_check : ByteArray := prog_1_method_36_code
def yX11_check : MethodName := ⟨RX11, "check", "(I)I"⟩
abbrev cX11_status : ByteArray := prog_1_method_37_code
def yX11_status : MethodName := ⟨RX11, "status", "()I"⟩
abbrev cX11_where : ByteArray := prog_1_method_38_code
def yX11_where : MethodName := ⟨RX11, "where", "()I"⟩
abbrev cX11_accept : ByteArray := prog_1_method_39_code
def yX11_accept : MethodName := ⟨RX11, "accept", "(I)I"⟩
abbrev cX11_refuse : ByteArray := prog_1_method_40_code
def yX11_refuse : MethodName := ⟨RX11, "refuse", "(I)I"⟩
abbrev cX11_refuseAt : ByteArray := prog_1_method_41_code
def yX11_refuseAt : MethodName := ⟨RX11, "refuseAt", "(II)I"⟩
abbrev cX11_houseAt : ByteArray := prog_1_method_42_code
def yX11_houseAt : MethodName := ⟨RX11, "houseAt", "(I)LPartnersBook$House;"⟩
abbrev cX11_partnerAt : ByteArray := prog_1_method_43_code
def yX11_partnerAt : MethodName := ⟨RX11, "partnerAt", "(I)LPartnersBook$Partner;"⟩
abbrev cX11_isSeat : ByteArray := prog_1_method_44_code
def yX11_isSeat : MethodName := ⟨RX11, "isSeat", "(I)Z"⟩
abbrev cX11_isDay : ByteArray := prog_1_method_45_code
def yX11_isDay : MethodName := ⟨RX11, "isDay", "(I)Z"⟩
abbrev cX11_isSum : ByteArray := prog_1_method_46_code
def yX11_isSum : MethodName := ⟨RX11, "isSum", "(I)Z"⟩
abbrev cX11_isLimitedKind : ByteArray := prog_1_method_47_code
def yX11_isLimitedKind : MethodName := ⟨RX11, "isLimitedKind", "(I)Z"⟩
abbrev cX11_enter : ByteArray := prog_1_method_48_code
def yX11_enter : MethodName := ⟨RX11, "enter", "(IIII)I"⟩
abbrev cX11_firstHouseBehind : ByteArray := prog_1_method_49_code
def yX11_firstHouseBehind : MethodName := ⟨RX11, "firstHouseBehind", "(LPartnersBook$House;I)I"⟩
abbrev cX11_gatherBearers : ByteArray := prog_1_method_50_code
def yX11_gatherBearers : MethodName := ⟨RX11, "gatherBearers", "(LPartnersBook$House;I)V"⟩
abbrev cX11_keepDebtParts : ByteArray := prog_1_method_51_code
def yX11_keepDebtParts : MethodName := ⟨RX11, "keepDebtParts", "()I"⟩
def RX12 : String := "PartnersBookModel$House"
def TX12 : u_T := fun k => match k with
  | 0 => ("PartnersBookModel$House", "first", "I", false)
  | 1 => ("PartnersBookModel$House", "to", "I", false)
  | 2 => ("PartnersBookModel$House", "places", "[I", true)
  | 3 => ("PartnersBookModel$House", "told", "[I", true)
  | 4 => ("PartnersBookModel$House", "sort", "[I", true)
  | 5 => ("PartnersBookModel$House", "entry", "[J", true)
  | 6 => ("PartnersBookModel$House", "income", "[J", true)
  | 7 => ("PartnersBookModel$House", "loose", "J", false)
  | 8 => ("PartnersBookModel$House", "nobody", "J", false)
  | 9 => ("PartnersBookModel$House", "seat", "[I", true)
  | 10 => ("PartnersBookModel$House", "tenures", "I", false)
  | 11 => ("PartnersBookModel$House", "rules", "I", false)
  | 12 => ("PartnersBookModel$House", "years", "I", false)
  | 13 => ("PartnersBookModel$House", "closed", "I", false)
  | 14 => ("PartnersBookModel$House", "moves", "I", false)
  | 15 => ("PartnersBookModel$House", "mends", "I", false)
  | 16 => ("PartnersBookModel$House", "undone", "I", false)
  | 17 => ("PartnersBookModel$House", "stretches", "I", false)
  | 18 => ("PartnersBookModel$House", "hasClosed", "Z", false)
  | 19 => ("PartnersBookModel$House", "who", "[I", true)
  | 20 => ("PartnersBookModel$House", "where", "[I", true)
  | 21 => ("PartnersBookModel$House", "begin", "[I", true)
  | 22 => ("PartnersBookModel$House", "ended", "[I", true)
  | 23 => ("PartnersBookModel$House", "instalments", "[I", true)
  | 24 => ("PartnersBookModel$House", "bears", "[I", true)
  | 25 => ("PartnersBookModel$House", "heir", "[I", true)
  | 26 => ("PartnersBookModel$House", "word", "[Z", true)
  | 27 => ("PartnersBookModel$House", "credit", "[J", true)
  | 28 => ("PartnersBookModel$House", "hidden", "[J", true)
  | 29 => ("PartnersBookModel$House", "borne", "[J", true)
  | 30 => ("PartnersBookModel$House", "lent", "[J", true)
  | 31 => ("PartnersBookModel$House", "payable", "[J", true)
  | 32 => ("PartnersBookModel$House", "paid", "[J", true)
  | 33 => ("PartnersBookModel$House", "dues", "[J", true)
  | 34 => ("PartnersBookModel$House", "ruleDay", "[I", true)
  | 35 => ("PartnersBookModel$House", "thousandths", "[I", true)
  | 36 => ("PartnersBookModel$House", "term", "[I", true)
  | 37 => ("PartnersBookModel$House", "end", "[I", true)
  | 38 => ("PartnersBookModel$House", "moveOf", "[I", true)
  | 39 => ("PartnersBookModel$House", "moveDay", "[I", true)
  | 40 => ("PartnersBookModel$House", "moveSum", "[I", true)
  | 41 => ("PartnersBookModel$House", "mendDay", "[I", true)
  | 42 => ("PartnersBookModel$House", "mendSum", "[I", true)
  | 43 => ("PartnersBookModel$House", "latest", "[I", true)
  | 44 => ("PartnersBookModel$House", "stretchDay", "[I", true)
  | 45 => ("PartnersBookModel$House", "stretchDays", "[I", true)
  | 46 => ("PartnersBookModel$House", "stretchIn", "[I", true)
  | 47 => ("PartnersBookModel$House", "result", "[J", true)
  | 48 => ("PartnersBookModel$House", "none", "[J", true)
  | 49 => ("PartnersBookModel$House", "all", "[J", true)
  | _ => ("PartnersBookModel$House", "due", "[J", true)
def tyX12 : Nat → FieldType := fun k => match k with
  | 0 => .int
  | 1 => .int
  | 2 => .array .int
  | 3 => .array .int
  | 4 => .array .int
  | 5 => .array .long
  | 6 => .array .long
  | 7 => .long
  | 8 => .long
  | 9 => .array .int
  | 10 => .int
  | 11 => .int
  | 12 => .int
  | 13 => .int
  | 14 => .int
  | 15 => .int
  | 16 => .int
  | 17 => .int
  | 18 => .boolean
  | 19 => .array .int
  | 20 => .array .int
  | 21 => .array .int
  | 22 => .array .int
  | 23 => .array .int
  | 24 => .array .int
  | 25 => .array .int
  | 26 => .array .boolean
  | 27 => .array .long
  | 28 => .array .long
  | 29 => .array .long
  | 30 => .array .long
  | 31 => .array .long
  | 32 => .array .long
  | 33 => .array .long
  | 34 => .array .int
  | 35 => .array .int
  | 36 => .array .int
  | 37 => .array .int
  | 38 => .array .int
  | 39 => .array .int
  | 40 => .array .int
  | 41 => .array .int
  | 42 => .array .int
  | 43 => .array .int
  | 44 => .array .int
  | 45 => .array .int
  | 46 => .array .int
  | 47 => .array .long
  | 48 => .array .long
  | 49 => .array .long
  | _ => .array .long
abbrev wsX120 : List Cond := u_ws RX12 TX12 51
theorem nmX12 : ∀ a, a < 51 → ∀ b, b < 51 → a ≠ b → (TX12 a).2.1 ≠ (TX12 b).2.1 := by decide +kernel
theorem tyX12_ok : ∀ k, k < 51 → parseFieldDescriptor (TX12 k).2.2.1 = some (tyX12 k) := by decide +kernel
abbrev cX12_init : ByteArray := prog_15_method_1_code
def yX12_init : MethodName := ⟨RX12, "<init>", "()V"⟩
abbrev cX12_isIn : ByteArray := prog_15_method_2_code
def yX12_isIn : MethodName := ⟨RX12, "isIn", "(II)Z"⟩
abbrev cX12_ruleOn : ByteArray := prog_15_method_3_code
def yX12_ruleOn : MethodName := ⟨RX12, "ruleOn", "(I)I"⟩
abbrev cX12_term : ByteArray := prog_15_method_4_code
def yX12_term : MethodName := ⟨RX12, "term", "(III)I"⟩
abbrev cX12_isUnlike : ByteArray := prog_15_method_5_code
def yX12_isUnlike : MethodName := ⟨RX12, "isUnlike", "(I)Z"⟩
abbrev cX12_isFree : ByteArray := prog_15_method_6_code
def yX12_isFree : MethodName := ⟨RX12, "isFree", "(I)Z"⟩
abbrev cX12_isOpen : ByteArray := prog_15_method_7_code
def yX12_isOpen : MethodName := ⟨RX12, "isOpen", "(I)Z"⟩
abbrev cX12_entries : ByteArray := prog_15_method_8_code
def yX12_entries : MethodName := ⟨RX12, "entries", "(I)J"⟩
abbrev cX12_remember : ByteArray := prog_15_method_9_code
def yX12_remember : MethodName := ⟨RX12, "remember", "(I)V"⟩
def RX13 : String := "PartnersBookModel"
def TX13 : u_T := fun k => match k with
  | 0 => ("PartnersBookModel", "thrown", "I", false)
  | 1 => ("PartnersBookModel", "houses", "[LPartnersBookModel$House;", true)
  | 2 => ("PartnersBookModel", "houseCount", "I", false)
  | 3 => ("PartnersBookModel", "partnerCount", "I", false)
  | 4 => ("PartnersBookModel", "status", "I", false)
  | 5 => ("PartnersBookModel", "where", "I", false)
  | 6 => ("PartnersBookModel", "kind", "[I", true)
  | 7 => ("PartnersBookModel", "told", "[I", true)
  | 8 => ("PartnersBookModel", "circle", "[I", true)
  | 9 => ("PartnersBookModel", "far", "[I", true)
  | 10 => ("PartnersBookModel", "circled", "I", false)
  | 11 => ("PartnersBookModel", "who", "[I", true)
  | 12 => ("PartnersBookModel", "weight", "[I", true)
  | 13 => ("PartnersBookModel", "part", "[J", true)
  | 14 => ("PartnersBookModel", "rest", "[J", true)
  | 15 => ("PartnersBookModel", "more", "[J", true)
  | 16 => ("PartnersBookModel", "many", "I", false)
  | 17 => ("PartnersBookModel", "bornes", "[I", true)
  | 18 => ("PartnersBookModel", "nobodys", "I", false)
  | _ => ("PartnersBookModel", "sheet", "[J", true)
def tyX13 : Nat → FieldType := fun k => match k with
  | 0 => .int
  | 1 => .array (.object "PartnersBookModel$House")
  | 2 => .int
  | 3 => .int
  | 4 => .int
  | 5 => .int
  | 6 => .array .int
  | 7 => .array .int
  | 8 => .array .int
  | 9 => .array .int
  | 10 => .int
  | 11 => .array .int
  | 12 => .array .int
  | 13 => .array .long
  | 14 => .array .long
  | 15 => .array .long
  | 16 => .int
  | 17 => .array .int
  | 18 => .int
  | _ => .array .long
abbrev wsX130 : List Cond := u_ws RX13 TX13 20
theorem nmX13 : ∀ a, a < 20 → ∀ b, b < 20 → a ≠ b → (TX13 a).2.1 ≠ (TX13 b).2.1 := by decide +kernel
theorem tyX13_ok : ∀ k, k < 20 → parseFieldDescriptor (TX13 k).2.2.1 = some (tyX13 k) := by decide +kernel
abbrev cX13_init : ByteArray := prog_14_method_1_code
def yX13_init : MethodName := ⟨RX13, "<init>", "()V"⟩
abbrev cX13_refused : ByteArray := prog_14_method_3_code
def yX13_refused : MethodName := ⟨RX13, "refused", "(I)I"⟩
abbrev cX13_done : ByteArray := prog_14_method_4_code
def yX13_done : MethodName := ⟨RX13, "done", "(I)I"⟩
abbrev cX13_isHouse : ByteArray := prog_14_method_5_code
def yX13_isHouse : MethodName := ⟨RX13, "isHouse", "(I)Z"⟩
abbrev cX13_isSeat : ByteArray := prog_14_method_6_code
def yX13_isSeat : MethodName := ⟨RX13, "isSeat", "(II)Z"⟩
abbrev cX13_isTenure : ByteArray := prog_14_method_7_code
def yX13_isTenure : MethodName := ⟨RX13, "isTenure", "(II)Z"⟩
abbrev cX13_isSum : ByteArray := prog_14_method_8_code
def yX13_isSum : MethodName := ⟨RX13, "isSum", "(I)Z"⟩
abbrev cX13_isLimited : ByteArray := prog_14_method_9_code
def yX13_isLimited : MethodName := ⟨RX13, "isLimited", "(LPartnersBookModel$House;I)Z"⟩
abbrev cX13_house : ByteArray := prog_14_method_10_code
def yX13_house : MethodName := ⟨RX13, "house", "(I)I"⟩
abbrev cX13_partner : ByteArray := prog_14_method_11_code
def yX13_partner : MethodName := ⟨RX13, "partner", "(II)I"⟩
abbrev cX13_holder : ByteArray := prog_14_method_12_code
def yX13_holder : MethodName := ⟨RX13, "holder", "(LPartnersBookModel$House;I)I"⟩
abbrev cX13_letter : ByteArray := prog_14_method_13_code
def yX13_letter : MethodName := ⟨RX13, "letter", "(III)I"⟩
abbrev cX13_unseal : ByteArray := prog_14_method_14_code
def yX13_unseal : MethodName := ⟨RX13, "unseal", "(II)I"⟩
abbrev cX13_holds : ByteArray := prog_14_method_15_code
def yX13_holds : MethodName := ⟨RX13, "holds", "(II)I"⟩
abbrev cX13_owns : ByteArray := prog_14_method_16_code
def yX13_owns : MethodName := ⟨RX13, "owns", "(II)Z"⟩
abbrev cX13_way : ByteArray := prog_14_method_17_code
def yX13_way : MethodName := ⟨RX13, "way", "(II)I"⟩
abbrev cX13_begins : ByteArray := prog_14_method_18_code
def yX13_begins : MethodName := ⟨RX13, "begins", "(LPartnersBookModel$House;IIIZ)I"⟩
abbrev cX13_join : ByteArray := prog_14_method_19_code
def yX13_join : MethodName := ⟨RX13, "join", "(IIIIZ)I"⟩
abbrev cX13_leave : ByteArray := prog_14_method_20_code
def yX13_leave : MethodName := ⟨RX13, "leave", "(IIIII)I"⟩
abbrev cX13_die : ByteArray := prog_14_method_21_code
def yX13_die : MethodName := ⟨RX13, "die", "(IIII)I"⟩
abbrev cX13_circle : ByteArray := prog_14_method_22_code
def yX13_circle : MethodName := ⟨RX13, "circle", "(I)I"⟩
abbrev cX13_rule : ByteArray := prog_14_method_23_code
def yX13_rule : MethodName := ⟨RX13, "rule", "(II)I"⟩
abbrev cX13_term : ByteArray := prog_14_method_24_code
def yX13_term : MethodName := ⟨RX13, "term", "(IIII)I"⟩
abbrev cX13_leaf : ByteArray := prog_14_method_25_code
def yX13_leaf : MethodName := ⟨RX13, "leaf", "(IIII)I"⟩
abbrev cX13_tear : ByteArray := prog_14_method_26_code
def yX13_tear : MethodName := ⟨RX13, "tear", "(II)I"⟩
abbrev cX13_enters : ByteArray := prog_14_method_27_code
def yX13_enters : MethodName := ⟨RX13, "enters", "(IIII)I"⟩
abbrev cX13_earn : ByteArray := prog_14_method_28_code
def yX13_earn : MethodName := ⟨RX13, "earn", "(III)I"⟩
abbrev cX13_spend : ByteArray := prog_14_method_29_code
def yX13_spend : MethodName := ⟨RX13, "spend", "(III)I"⟩
abbrev cX13_loose : ByteArray := prog_14_method_30_code
def yX13_loose : MethodName := ⟨RX13, "loose", "(II)I"⟩
abbrev cX13_move : ByteArray := prog_14_method_31_code
def yX13_move : MethodName := ⟨RX13, "move", "(IIIIZ)I"⟩
abbrev cX13_lend : ByteArray := prog_14_method_32_code
def yX13_lend : MethodName := ⟨RX13, "lend", "(IIIZ)I"⟩
abbrev cX13_undo : ByteArray := prog_14_method_33_code
def yX13_undo : MethodName := ⟨RX13, "undo", "(I)I"⟩
abbrev cX13_cut : ByteArray := prog_14_method_34_code
def yX13_cut : MethodName := ⟨RX13, "cut", "(J[JZLPartnersBookModel$House;)Z"⟩
abbrev cX13_weighs : ByteArray := prog_14_method_35_code
def yX13_weighs : MethodName := ⟨RX13, "weighs", "(IZLPartnersBookModel$House;)I"⟩
abbrev cX13_bearing : ByteArray := prog_14_method_36_code
def yX13_bearing : MethodName := ⟨RX13, "bearing", "(LPartnersBookModel$House;J)J"⟩
abbrev cX13_present : ByteArray := prog_14_method_37_code
def yX13_present : MethodName := ⟨RX13, "present", "(LPartnersBookModel$House;I)V"⟩
abbrev cX13_weights : ByteArray := prog_14_method_38_code
def yX13_weights : MethodName := ⟨RX13, "weights", "(LPartnersBookModel$House;II)V"⟩
abbrev cX13_end : ByteArray := prog_14_method_39_code
def yX13_end : MethodName := ⟨RX13, "end", "(II)I"⟩
abbrev cX13_refusedAt : ByteArray := prog_14_method_40_code
def yX13_refusedAt : MethodName := ⟨RX13, "refusedAt", "(II)I"⟩
abbrev cX13_behind : ByteArray := prog_14_method_41_code
def yX13_behind : MethodName := ⟨RX13, "behind", "(II)I"⟩
abbrev cX13_close : ByteArray := prog_14_method_42_code
def yX13_close : MethodName := ⟨RX13, "close", "(I)I"⟩
abbrev cX13_isParted : ByteArray := prog_14_method_43_code
def yX13_isParted : MethodName := ⟨RX13, "isParted", "(LPartnersBookModel$House;I)Z"⟩
abbrev cX13_looses : ByteArray := prog_14_method_44_code
def yX13_looses : MethodName := ⟨RX13, "looses", "(LPartnersBookModel$House;I)V"⟩
abbrev cX13_interest : ByteArray := prog_14_method_45_code
def yX13_interest : MethodName := ⟨RX13, "interest", "(LPartnersBookModel$House;IIIII)J"⟩
abbrev cX13_gives : ByteArray := prog_14_method_46_code
def yX13_gives : MethodName := ⟨RX13, "gives", "(LPartnersBookModel$House;IIJ)V"⟩
abbrev cX13_clears : ByteArray := prog_14_method_47_code
def yX13_clears : MethodName := ⟨RX13, "clears", "(LPartnersBookModel$House;I)V"⟩
abbrev cX13_stretch : ByteArray := prog_14_method_48_code
def yX13_stretch : MethodName := ⟨RX13, "stretch", "(LPartnersBookModel$House;II)V"⟩
abbrev cX13_shares : ByteArray := prog_14_method_49_code
def yX13_shares : MethodName := ⟨RX13, "shares", "(LPartnersBookModel$House;IIJ)V"⟩
abbrev cX13_mended : ByteArray := prog_14_method_50_code
def yX13_mended : MethodName := ⟨RX13, "mended", "(LPartnersBookModel$House;I)V"⟩
abbrev cX13_settled : ByteArray := prog_14_method_51_code
def yX13_settled : MethodName := ⟨RX13, "settled", "(LPartnersBookModel$House;II)V"⟩
abbrev cX13_incomes : ByteArray := prog_14_method_52_code
def yX13_incomes : MethodName := ⟨RX13, "incomes", "(LPartnersBookModel$House;I)V"⟩
abbrev cX13_ends : ByteArray := prog_14_method_53_code
def yX13_ends : MethodName := ⟨RX13, "ends", "(LPartnersBookModel$House;I)V"⟩
abbrev cX13_mend : ByteArray := prog_14_method_54_code
def yX13_mend : MethodName := ⟨RX13, "mend", "(III)I"⟩
abbrev cX13_hidden : ByteArray := prog_14_method_55_code
def yX13_hidden : MethodName := ⟨RX13, "hidden", "(III)I"⟩
abbrev cX13_bear : ByteArray := prog_14_method_56_code
def yX13_bear : MethodName := ⟨RX13, "bear", "(III)I"⟩
abbrev cX13_since : ByteArray := prog_14_method_57_code
def yX13_since : MethodName := ⟨RX13, "since", "(LPartnersBookModel$House;I)I"⟩
abbrev cX13_borne : ByteArray := prog_14_method_58_code
def yX13_borne : MethodName := ⟨RX13, "borne", "(I)I"⟩
abbrev cX13_account : ByteArray := prog_14_method_59_code
def yX13_account : MethodName := ⟨RX13, "account", "(III)J"⟩
abbrev cX13_tenure : ByteArray := prog_14_method_60_code
def yX13_tenure : MethodName := ⟨RX13, "tenure", "(III)I"⟩
abbrev cX13_who : ByteArray := prog_14_method_61_code
def yX13_who : MethodName := ⟨RX13, "who", "(III)I"⟩
abbrev cX13_stretch_ : ByteArray := prog_14_method_62_code
def yX13_stretch_ : MethodName := ⟨RX13, "stretch", "(III)J"⟩
abbrev cX13_due : ByteArray := prog_14_method_63_code
def yX13_due : MethodName := ⟨RX13, "due", "(III)J"⟩
abbrev cX13_told : ByteArray := prog_14_method_64_code
def yX13_told : MethodName := ⟨RX13, "told", "(II)I"⟩
abbrev cX13_sum : ByteArray := prog_14_method_65_code
def yX13_sum : MethodName := ⟨RX13, "sum", "(III)J"⟩
abbrev cX13_entry : ByteArray := prog_14_method_66_code
def yX13_entry : MethodName := ⟨RX13, "entry", "(III)J"⟩
abbrev cX13_sheet : ByteArray := prog_14_method_67_code
def yX13_sheet : MethodName := ⟨RX13, "sheet", "(IJ)I"⟩
abbrev cX13_check : ByteArray := prog_14_method_68_code
def yX13_check : MethodName := ⟨RX13, "check", "(I)I"⟩
abbrev cX13_status : ByteArray := prog_14_method_69_code
def yX13_status : MethodName := ⟨RX13, "status", "()I"⟩
abbrev cX13_where : ByteArray := prog_14_method_70_code
def yX13_where : MethodName := ⟨RX13, "where", "()I"⟩
def RL : String := "PartnersBookLaw"
abbrev cL_law : ByteArray := code
abbrev vwCl : List vw_C := [(RX0, TX0, 5), (RX1, TX1, 4), (RX2, TX2, 20), (RX3, TX3, 3), (RX4, TX4, 4), (RX5, TX5, 3), (RX6, TX6, 3), (RX7, TX7, 6), (RX8, TX8, 6), (RX9, TX9, 16), (RX10, TX10, 3), (RX11, TX11, 11), (RX12, TX12, 51), (RX13, TX13, 20)]
end
section
/-- the words of the tables that go with every call: all methods share them -/
def lw_good : List Cond := lw_tbl.filter goodWord
abbrev wsM (y : MethodName) (b : ByteArray) (n : Nat) (r : Option FieldType) : List Cond := Cond.code y b n r :: lw_good
theorem mem_p {w : Cond} (i : Nat) (h : (k2_sels lw_privs)[i]? = some w) (g : goodWord w = true) : w ∈ lw_good := List.mem_filter.mpr ⟨List.mem_append_left _ (List.mem_of_getElem? h), g⟩
theorem mem_t1 {w : Cond} (i : Nat) (h : tables_1_1[i]? = some w) (g : goodWord w = true) : w ∈ lw_good := List.mem_filter.mpr ⟨List.mem_append_right _ (show w ∈ tables_1 from List.mem_append_left _ (List.mem_of_getElem? h)), g⟩
theorem mem_t2 {w : Cond} (i : Nat) (h : tables_1_2[i]? = some w) (g : goodWord w = true) : w ∈ lw_good := List.mem_filter.mpr ⟨List.mem_append_right _ (show w ∈ tables_1 from List.mem_append_right _ (List.mem_append_left _ (List.mem_of_getElem? h))), g⟩
theorem mem_t3 {w : Cond} (i : Nat) (h : tables_1_3[i]? = some w) (g : goodWord w = true) : w ∈ lw_good := List.mem_filter.mpr ⟨List.mem_append_right _ (show w ∈ tables_1 from List.mem_append_right _ (List.mem_append_right _ (List.mem_append_left _ (List.mem_of_getElem? h)))), g⟩
theorem mem_t4 {w : Cond} (i : Nat) (h : tables_1_4[i]? = some w) (g : goodWord w = true) : w ∈ lw_good := List.mem_filter.mpr ⟨List.mem_append_right _ (show w ∈ tables_1 from List.mem_append_right _ (List.mem_append_right _ (List.mem_append_right _ (List.mem_append_left _ (List.mem_of_getElem? h))))), g⟩
theorem mem_t5 {w : Cond} (i : Nat) (h : tables_1_5[i]? = some w) (g : goodWord w = true) : w ∈ lw_good := List.mem_filter.mpr ⟨List.mem_append_right _ (show w ∈ tables_1 from List.mem_append_right _ (List.mem_append_right _ (List.mem_append_right _ (List.mem_append_right _ (List.mem_append_left _ (List.mem_of_getElem? h)))))), g⟩
theorem mem_t6 {w : Cond} (i : Nat) (h : tables_1_6[i]? = some w) (g : goodWord w = true) : w ∈ lw_good := List.mem_filter.mpr ⟨List.mem_append_right _ (show w ∈ tables_1 from List.mem_append_right _ (List.mem_append_right _ (List.mem_append_right _ (List.mem_append_right _ (List.mem_append_right _ (List.mem_append_left _ (List.mem_of_getElem? h))))))), g⟩
theorem mem_t7 {w : Cond} (i : Nat) (h : tables_1_7[i]? = some w) (g : goodWord w = true) : w ∈ lw_good := List.mem_filter.mpr ⟨List.mem_append_right _ (show w ∈ tables_1 from List.mem_append_right _ (List.mem_append_right _ (List.mem_append_right _ (List.mem_append_right _ (List.mem_append_right _ (List.mem_append_right _ (List.mem_of_getElem? h))))))), g⟩
theorem good_at {w : Cond} (h : w ∈ lw_good) : w ∈ lw_good ∧ ((w.onTables && w.keeps) = true ∨ ∃ ty, w = .arrayClass ty) := ⟨h, good_of_word (List.mem_filter.mp h).2⟩
theorem gB {y : MethodName} {b : ByteArray} {n : Nat} {r : Option FieldType} (h : Cond.code y b n r ∈ lw_good) : GoodIn lw_good (wsM y b n r) := fun _ hw => (List.mem_cons.mp hw).elim (fun e => by rw [e]; exact good_at h) good_at
theorem gV {own C : String} {idx : Nat} {y : MethodName} {b : ByteArray} {n : Nat} {r : Option FieldType} (h1 : Cond.methodLink own idx y ∈ lw_good) (h2 : Cond.instanceMethod y ∈ lw_good) (h3 : Cond.selects C y y ∈ lw_good) (h4 : Cond.initialized C ∈ lw_good) (h5 : Cond.code y b n r ∈ lw_good) : GoodIn lw_good (wsV own idx C y (wsM y b n r)) := fun w hw => by
  rcases List.mem_append.mp hw with hw | hw
  · simp only [List.mem_cons, List.not_mem_nil, or_false] at hw
    rcases hw with rfl | rfl | rfl | rfl
    · exact good_at h1
    · exact good_at h2
    · exact good_at h3
    · exact good_at h4
  · exact gB h5 w hw
theorem gS {own : String} {idx : Nat} {y : MethodName} {b : ByteArray} {n : Nat} {r : Option FieldType} (h1 : Cond.methodLink own idx y ∈ lw_good) (h2 : Cond.static y ∈ lw_good) (h4 : Cond.initialized y.cls ∈ lw_good) (h5 : Cond.code y b n r ∈ lw_good) : GoodIn lw_good (va_wsS own idx y (wsM y b n r)) := fun w hw => by
  rcases List.mem_append.mp hw with hw | hw
  · simp only [List.mem_cons, List.not_mem_nil, or_false] at hw
    rcases hw with rfl | rfl | rfl
    · exact good_at h1
    · exact good_at h2
    · exact good_at h4
  · exact gB h5 w hw
theorem wd_obj : Cond.code Lib.objectInit ⟨#[0xb1]⟩ 1 none ∈ lw_good := mem_t1 25 rfl rfl
theorem inG0 : ∀ w ∈ u_ws RX0 TX0 5, w ∈ lw_good := show ∀ w ∈ [u_lay RX0 TX0 0, u_lay RX0 TX0 1, u_lay RX0 TX0 2, u_lay RX0 TX0 3, u_lay RX0 TX0 4], w ∈ lw_good from List.forall_mem_cons.mpr ⟨mem_t1 197 (by decide +kernel) rfl, List.forall_mem_cons.mpr ⟨mem_t1 199 (by decide +kernel) rfl, List.forall_mem_cons.mpr ⟨mem_t1 201 (by decide +kernel) rfl, List.forall_mem_cons.mpr ⟨mem_t1 203 (by decide +kernel) rfl, List.forall_mem_cons.mpr ⟨mem_t1 205 (by decide +kernel) rfl, fun _ h => absurd h List.not_mem_nil⟩⟩⟩⟩⟩
theorem dfX0 : ∀ j, j < 5 → defaultValue (tyX0 j) = vp_V [.null, .null, .null, .int 0, .long 0] j := fun j hj => match j, hj with
  | 0, _ => rfl
  | 1, _ => rfl
  | 2, _ => rfl
  | 3, _ => rfl
  | 4, _ => rfl
  | _ + 5, h => absurd h (by omega)
theorem inG1 : ∀ w ∈ u_ws RX1 TX1 4, w ∈ lw_good := show ∀ w ∈ [u_lay RX1 TX1 0, u_lay RX1 TX1 1, u_lay RX1 TX1 2, u_lay RX1 TX1 3], w ∈ lw_good from List.forall_mem_cons.mpr ⟨mem_t1 156 (by decide +kernel) rfl, List.forall_mem_cons.mpr ⟨mem_t1 158 (by decide +kernel) rfl, List.forall_mem_cons.mpr ⟨mem_t1 160 (by decide +kernel) rfl, List.forall_mem_cons.mpr ⟨mem_t1 162 (by decide +kernel) rfl, fun _ h => absurd h List.not_mem_nil⟩⟩⟩⟩
theorem dfX1 : ∀ j, j < 4 → defaultValue (tyX1 j) = vp_V [.null, .null, .null, .int 0] j := fun j hj => match j, hj with
  | 0, _ => rfl
  | 1, _ => rfl
  | 2, _ => rfl
  | 3, _ => rfl
  | _ + 4, h => absurd h (by omega)
theorem inG2 : ∀ w ∈ u_ws RX2 TX2 20, w ∈ lw_good := show ∀ w ∈ [u_lay RX2 TX2 0, u_lay RX2 TX2 1, u_lay RX2 TX2 2, u_lay RX2 TX2 3, u_lay RX2 TX2 4, u_lay RX2 TX2 5, u_lay RX2 TX2 6, u_lay RX2 TX2 7, u_lay RX2 TX2 8, u_lay RX2 TX2 9, u_lay RX2 TX2 10, u_lay RX2 TX2 11, u_lay RX2 TX2 12, u_lay RX2 TX2 13, u_lay RX2 TX2 14, u_lay RX2 TX2 15, u_lay RX2 TX2 16, u_lay RX2 TX2 17, u_lay RX2 TX2 18, u_lay RX2 TX2 19], w ∈ lw_good from List.forall_mem_cons.mpr ⟨mem_t2 14 (by decide +kernel) rfl, List.forall_mem_cons.mpr ⟨mem_t2 16 (by decide +kernel) rfl, List.forall_mem_cons.mpr ⟨mem_t2 18 (by decide +kernel) rfl, List.forall_mem_cons.mpr ⟨mem_t2 20 (by decide +kernel) rfl, List.forall_mem_cons.mpr ⟨mem_t2 22 (by decide +kernel) rfl, List.forall_mem_cons.mpr ⟨mem_t2 24 (by decide +kernel) rfl, List.forall_mem_cons.mpr ⟨mem_t2 26 (by decide +kernel) rfl, List.forall_mem_cons.mpr ⟨mem_t2 28 (by decide +kernel) rfl, List.forall_mem_cons.mpr ⟨mem_t2 30 (by decide +kernel) rfl, List.forall_mem_cons.mpr ⟨mem_t2 32 (by decide +kernel) rfl, List.forall_mem_cons.mpr ⟨mem_t2 34 (by decide +kernel) rfl, List.forall_mem_cons.mpr ⟨mem_t2 36 (by decide +kernel) rfl, List.forall_mem_cons.mpr ⟨mem_t2 38 (by decide +kernel) rfl, List.forall_mem_cons.mpr ⟨mem_t2 40 (by decide +kernel) rfl, List.forall_mem_cons.mpr ⟨mem_t2 42 (by decide +kernel) rfl, List.forall_mem_cons.mpr ⟨mem_t2 44 (by decide +kernel) rfl, List.forall_mem_cons.mpr ⟨mem_t2 46 (by decide +kernel) rfl, List.forall_mem_cons.mpr ⟨mem_t2 48 (by decide +kernel) rfl, List.forall_mem_cons.mpr ⟨mem_t2 50 (by decide +kernel) rfl, List.forall_mem_cons.mpr ⟨mem_t2 52 (by decide +kernel) rfl, fun _ h => absurd h List.not_mem_nil⟩⟩⟩⟩⟩⟩⟩⟩⟩⟩⟩⟩⟩⟩⟩⟩⟩⟩⟩⟩
theorem dfX2 : ∀ j, j < 20 → defaultValue (tyX2 j) = vp_V [.int 0, .int 0, .int 0, .null, .int 0, .int 0, .null, .null, .null, .int 0, .null, .int 0, .null, .null, .long 0, .int 0, .null, .null, .null, .null] j := fun j hj => match j, hj with
  | 0, _ => rfl
  | 1, _ => rfl
  | 2, _ => rfl
  | 3, _ => rfl
  | 4, _ => rfl
  | 5, _ => rfl
  | 6, _ => rfl
  | 7, _ => rfl
  | 8, _ => rfl
  | 9, _ => rfl
  | 10, _ => rfl
  | 11, _ => rfl
  | 12, _ => rfl
  | 13, _ => rfl
  | 14, _ => rfl
  | 15, _ => rfl
  | 16, _ => rfl
  | 17, _ => rfl
  | 18, _ => rfl
  | 19, _ => rfl
  | _ + 20, h => absurd h (by omega)
theorem inG3 : ∀ w ∈ u_ws RX3 TX3 3, w ∈ lw_good := show ∀ w ∈ [u_lay RX3 TX3 0, u_lay RX3 TX3 1, u_lay RX3 TX3 2], w ∈ lw_good from List.forall_mem_cons.mpr ⟨mem_t3 96 (by decide +kernel) rfl, List.forall_mem_cons.mpr ⟨mem_t3 98 (by decide +kernel) rfl, List.forall_mem_cons.mpr ⟨mem_t3 100 (by decide +kernel) rfl, fun _ h => absurd h List.not_mem_nil⟩⟩⟩
theorem dfX3 : ∀ j, j < 3 → defaultValue (tyX3 j) = vp_V [.int 0, .null, .int 0] j := fun j hj => match j, hj with
  | 0, _ => rfl
  | 1, _ => rfl
  | 2, _ => rfl
  | _ + 3, h => absurd h (by omega)
theorem inG4 : ∀ w ∈ u_ws RX4 TX4 4, w ∈ lw_good := show ∀ w ∈ [u_lay RX4 TX4 0, u_lay RX4 TX4 1, u_lay RX4 TX4 2, u_lay RX4 TX4 3], w ∈ lw_good from List.forall_mem_cons.mpr ⟨mem_t2 88 (by decide +kernel) rfl, List.forall_mem_cons.mpr ⟨mem_t2 90 (by decide +kernel) rfl, List.forall_mem_cons.mpr ⟨mem_t2 92 (by decide +kernel) rfl, List.forall_mem_cons.mpr ⟨mem_t2 94 (by decide +kernel) rfl, fun _ h => absurd h List.not_mem_nil⟩⟩⟩⟩
theorem dfX4 : ∀ j, j < 4 → defaultValue (tyX4 j) = vp_V [.int 0, .int 0, .int 0, .null] j := fun j hj => match j, hj with
  | 0, _ => rfl
  | 1, _ => rfl
  | 2, _ => rfl
  | 3, _ => rfl
  | _ + 4, h => absurd h (by omega)
theorem inG5 : ∀ w ∈ u_ws RX5 TX5 3, w ∈ lw_good := show ∀ w ∈ [u_lay RX5 TX5 0, u_lay RX5 TX5 1, u_lay RX5 TX5 2], w ∈ lw_good from List.forall_mem_cons.mpr ⟨mem_t1 72 (by decide +kernel) rfl, List.forall_mem_cons.mpr ⟨mem_t1 74 (by decide +kernel) rfl, List.forall_mem_cons.mpr ⟨mem_t1 76 (by decide +kernel) rfl, fun _ h => absurd h List.not_mem_nil⟩⟩⟩
theorem dfX5 : ∀ j, j < 3 → defaultValue (tyX5 j) = vp_V [.null, .null, .int 0] j := fun j hj => match j, hj with
  | 0, _ => rfl
  | 1, _ => rfl
  | 2, _ => rfl
  | _ + 3, h => absurd h (by omega)
theorem inG6 : ∀ w ∈ u_ws RX6 TX6 3, w ∈ lw_good := show ∀ w ∈ [u_lay RX6 TX6 0, u_lay RX6 TX6 1, u_lay RX6 TX6 2], w ∈ lw_good from List.forall_mem_cons.mpr ⟨mem_t3 61 (by decide +kernel) rfl, List.forall_mem_cons.mpr ⟨mem_t3 63 (by decide +kernel) rfl, List.forall_mem_cons.mpr ⟨mem_t3 65 (by decide +kernel) rfl, fun _ h => absurd h List.not_mem_nil⟩⟩⟩
theorem dfX6 : ∀ j, j < 3 → defaultValue (tyX6 j) = vp_V [.int 0, .int 0, .null] j := fun j hj => match j, hj with
  | 0, _ => rfl
  | 1, _ => rfl
  | 2, _ => rfl
  | _ + 3, h => absurd h (by omega)
theorem inG7 : ∀ w ∈ u_ws RX7 TX7 6, w ∈ lw_good := show ∀ w ∈ [u_lay RX7 TX7 0, u_lay RX7 TX7 1, u_lay RX7 TX7 2, u_lay RX7 TX7 3, u_lay RX7 TX7 4, u_lay RX7 TX7 5], w ∈ lw_good from List.forall_mem_cons.mpr ⟨mem_t1 49 (by decide +kernel) rfl, List.forall_mem_cons.mpr ⟨mem_t1 51 (by decide +kernel) rfl, List.forall_mem_cons.mpr ⟨mem_t1 53 (by decide +kernel) rfl, List.forall_mem_cons.mpr ⟨mem_t1 55 (by decide +kernel) rfl, List.forall_mem_cons.mpr ⟨mem_t1 57 (by decide +kernel) rfl, List.forall_mem_cons.mpr ⟨mem_t1 59 (by decide +kernel) rfl, fun _ h => absurd h List.not_mem_nil⟩⟩⟩⟩⟩⟩
theorem dfX7 : ∀ j, j < 6 → defaultValue (tyX7 j) = vp_V [.null, .null, .null, .null, .null, .int 0] j := fun j hj => match j, hj with
  | 0, _ => rfl
  | 1, _ => rfl
  | 2, _ => rfl
  | 3, _ => rfl
  | 4, _ => rfl
  | 5, _ => rfl
  | _ + 6, h => absurd h (by omega)
theorem inG8 : ∀ w ∈ u_ws RX8 TX8 6, w ∈ lw_good := show ∀ w ∈ [u_lay RX8 TX8 0, u_lay RX8 TX8 1, u_lay RX8 TX8 2, u_lay RX8 TX8 3, u_lay RX8 TX8 4, u_lay RX8 TX8 5], w ∈ lw_good from List.forall_mem_cons.mpr ⟨mem_t4 35 (by decide +kernel) rfl, List.forall_mem_cons.mpr ⟨mem_t4 37 (by decide +kernel) rfl, List.forall_mem_cons.mpr ⟨mem_t4 39 (by decide +kernel) rfl, List.forall_mem_cons.mpr ⟨mem_t4 41 (by decide +kernel) rfl, List.forall_mem_cons.mpr ⟨mem_t4 43 (by decide +kernel) rfl, List.forall_mem_cons.mpr ⟨mem_t4 45 (by decide +kernel) rfl, fun _ h => absurd h List.not_mem_nil⟩⟩⟩⟩⟩⟩
theorem dfX8 : ∀ j, j < 6 → defaultValue (tyX8 j) = vp_V [.null, .null, .int 0, .int 0, .long 0, .long 0] j := fun j hj => match j, hj with
  | 0, _ => rfl
  | 1, _ => rfl
  | 2, _ => rfl
  | 3, _ => rfl
  | 4, _ => rfl
  | 5, _ => rfl
  | _ + 6, h => absurd h (by omega)
theorem inG9 : ∀ w ∈ u_ws RX9 TX9 16, w ∈ lw_good := show ∀ w ∈ [u_lay RX9 TX9 0, u_lay RX9 TX9 1, u_lay RX9 TX9 2, u_lay RX9 TX9 3, u_lay RX9 TX9 4, u_lay RX9 TX9 5, u_lay RX9 TX9 6, u_lay RX9 TX9 7, u_lay RX9 TX9 8, u_lay RX9 TX9 9, u_lay RX9 TX9 10, u_lay RX9 TX9 11, u_lay RX9 TX9 12, u_lay RX9 TX9 13, u_lay RX9 TX9 14, u_lay RX9 TX9 15], w ∈ lw_good from List.forall_mem_cons.mpr ⟨mem_t2 224 (by decide +kernel) rfl, List.forall_mem_cons.mpr ⟨mem_t2 226 (by decide +kernel) rfl, List.forall_mem_cons.mpr ⟨mem_t2 228 (by decide +kernel) rfl, List.forall_mem_cons.mpr ⟨mem_t2 230 (by decide +kernel) rfl, List.forall_mem_cons.mpr ⟨mem_t2 232 (by decide +kernel) rfl, List.forall_mem_cons.mpr ⟨mem_t2 234 (by decide +kernel) rfl, List.forall_mem_cons.mpr ⟨mem_t2 236 (by decide +kernel) rfl, List.forall_mem_cons.mpr ⟨mem_t2 238 (by decide +kernel) rfl, List.forall_mem_cons.mpr ⟨mem_t3 0 (by decide +kernel) rfl, List.forall_mem_cons.mpr ⟨mem_t3 2 (by decide +kernel) rfl, List.forall_mem_cons.mpr ⟨mem_t3 4 (by decide +kernel) rfl, List.forall_mem_cons.mpr ⟨mem_t3 6 (by decide +kernel) rfl, List.forall_mem_cons.mpr ⟨mem_t3 8 (by decide +kernel) rfl, List.forall_mem_cons.mpr ⟨mem_t3 10 (by decide +kernel) rfl, List.forall_mem_cons.mpr ⟨mem_t3 12 (by decide +kernel) rfl, List.forall_mem_cons.mpr ⟨mem_t3 14 (by decide +kernel) rfl, fun _ h => absurd h List.not_mem_nil⟩⟩⟩⟩⟩⟩⟩⟩⟩⟩⟩⟩⟩⟩⟩⟩
theorem dfX9 : ∀ j, j < 16 → defaultValue (tyX9 j) = vp_V [.int 0, .null, .int 0, .int 0, .int 0, .int 0, .int 0, .int 0, .null, .long 0, .long 0, .long 0, .long 0, .long 0, .long 0, .long 0] j := fun j hj => match j, hj with
  | 0, _ => rfl
  | 1, _ => rfl
  | 2, _ => rfl
  | 3, _ => rfl
  | 4, _ => rfl
  | 5, _ => rfl
  | 6, _ => rfl
  | 7, _ => rfl
  | 8, _ => rfl
  | 9, _ => rfl
  | 10, _ => rfl
  | 11, _ => rfl
  | 12, _ => rfl
  | 13, _ => rfl
  | 14, _ => rfl
  | 15, _ => rfl
  | _ + 16, h => absurd h (by omega)
theorem inG10 : ∀ w ∈ u_ws RX10 TX10 3, w ∈ lw_good := show ∀ w ∈ [u_lay RX10 TX10 0, u_lay RX10 TX10 1, u_lay RX10 TX10 2], w ∈ lw_good from List.forall_mem_cons.mpr ⟨mem_t1 175 (by decide +kernel) rfl, List.forall_mem_cons.mpr ⟨mem_t1 177 (by decide +kernel) rfl, List.forall_mem_cons.mpr ⟨mem_t1 179 (by decide +kernel) rfl, fun _ h => absurd h List.not_mem_nil⟩⟩⟩
theorem dfX10 : ∀ j, j < 3 → defaultValue (tyX10 j) = vp_V [.null, .int 0, .int 0] j := fun j hj => match j, hj with
  | 0, _ => rfl
  | 1, _ => rfl
  | 2, _ => rfl
  | _ + 3, h => absurd h (by omega)
theorem inG11 : ∀ w ∈ u_ws RX11 TX11 11, w ∈ lw_good := show ∀ w ∈ [u_lay RX11 TX11 0, u_lay RX11 TX11 1, u_lay RX11 TX11 2, u_lay RX11 TX11 3, u_lay RX11 TX11 4, u_lay RX11 TX11 5, u_lay RX11 TX11 6, u_lay RX11 TX11 7, u_lay RX11 TX11 8, u_lay RX11 TX11 9, u_lay RX11 TX11 10], w ∈ lw_good from List.forall_mem_cons.mpr ⟨mem_t1 91 (by decide +kernel) rfl, List.forall_mem_cons.mpr ⟨mem_t1 93 (by decide +kernel) rfl, List.forall_mem_cons.mpr ⟨mem_t1 95 (by decide +kernel) rfl, List.forall_mem_cons.mpr ⟨mem_t1 97 (by decide +kernel) rfl, List.forall_mem_cons.mpr ⟨mem_t1 99 (by decide +kernel) rfl, List.forall_mem_cons.mpr ⟨mem_t1 101 (by decide +kernel) rfl, List.forall_mem_cons.mpr ⟨mem_t1 103 (by decide +kernel) rfl, List.forall_mem_cons.mpr ⟨mem_t1 105 (by decide +kernel) rfl, List.forall_mem_cons.mpr ⟨mem_t1 107 (by decide +kernel) rfl, List.forall_mem_cons.mpr ⟨mem_t1 109 (by decide +kernel) rfl, List.forall_mem_cons.mpr ⟨mem_t1 111 (by decide +kernel) rfl, fun _ h => absurd h List.not_mem_nil⟩⟩⟩⟩⟩⟩⟩⟩⟩⟩⟩
theorem dfX11 : ∀ j, j < 11 → defaultValue (tyX11 j) = vp_V [.null, .int 0, .null, .int 0, .null, .null, .null, .int 0, .null, .int 0, .int 0] j := fun j hj => match j, hj with
  | 0, _ => rfl
  | 1, _ => rfl
  | 2, _ => rfl
  | 3, _ => rfl
  | 4, _ => rfl
  | 5, _ => rfl
  | 6, _ => rfl
  | 7, _ => rfl
  | 8, _ => rfl
  | 9, _ => rfl
  | 10, _ => rfl
  | _ + 11, h => absurd h (by omega)
theorem inG12 : ∀ w ∈ u_ws RX12 TX12 51, w ∈ lw_good := show ∀ w ∈ [u_lay RX12 TX12 0, u_lay RX12 TX12 1, u_lay RX12 TX12 2, u_lay RX12 TX12 3, u_lay RX12 TX12 4, u_lay RX12 TX12 5, u_lay RX12 TX12 6, u_lay RX12 TX12 7, u_lay RX12 TX12 8, u_lay RX12 TX12 9, u_lay RX12 TX12 10, u_lay RX12 TX12 11, u_lay RX12 TX12 12, u_lay RX12 TX12 13, u_lay RX12 TX12 14, u_lay RX12 TX12 15, u_lay RX12 TX12 16, u_lay RX12 TX12 17, u_lay RX12 TX12 18, u_lay RX12 TX12 19, u_lay RX12 TX12 20, u_lay RX12 TX12 21, u_lay RX12 TX12 22, u_lay RX12 TX12 23, u_lay RX12 TX12 24, u_lay RX12 TX12 25, u_lay RX12 TX12 26, u_lay RX12 TX12 27, u_lay RX12 TX12 28, u_lay RX12 TX12 29, u_lay RX12 TX12 30, u_lay RX12 TX12 31, u_lay RX12 TX12 32, u_lay RX12 TX12 33, u_lay RX12 TX12 34, u_lay RX12 TX12 35, u_lay RX12 TX12 36, u_lay RX12 TX12 37, u_lay RX12 TX12 38, u_lay RX12 TX12 39, u_lay RX12 TX12 40, u_lay RX12 TX12 41, u_lay RX12 TX12 42, u_lay RX12 TX12 43, u_lay RX12 TX12 44, u_lay RX12 TX12 45, u_lay RX12 TX12 46, u_lay RX12 TX12 47, u_lay RX12 TX12 48, u_lay RX12 TX12 49, u_lay RX12 TX12 50], w ∈ lw_good from List.forall_mem_cons.mpr ⟨mem_t5 197 (by decide +kernel) rfl, List.forall_mem_cons.mpr ⟨mem_t5 199 (by decide +kernel) rfl, List.forall_mem_cons.mpr ⟨mem_t5 201 (by decide +kernel) rfl, List.forall_mem_cons.mpr ⟨mem_t5 203 (by decide +kernel) rfl, List.forall_mem_cons.mpr ⟨mem_t5 205 (by decide +kernel) rfl, List.forall_mem_cons.mpr ⟨mem_t5 207 (by decide +kernel) rfl, List.forall_mem_cons.mpr ⟨mem_t5 209 (by decide +kernel) rfl, List.forall_mem_cons.mpr ⟨mem_t5 211 (by decide +kernel) rfl, List.forall_mem_cons.mpr ⟨mem_t5 213 (by decide +kernel) rfl, List.forall_mem_cons.mpr ⟨mem_t5 215 (by decide +kernel) rfl, List.forall_mem_cons.mpr ⟨mem_t5 217 (by decide +kernel) rfl, List.forall_mem_cons.mpr ⟨mem_t5 219 (by decide +kernel) rfl, List.forall_mem_cons.mpr ⟨mem_t5 221 (by decide +kernel) rfl, List.forall_mem_cons.mpr ⟨mem_t5 223 (by decide +kernel) rfl, List.forall_mem_cons.mpr ⟨mem_t5 225 (by decide +kernel) rfl, List.forall_mem_cons.mpr ⟨mem_t5 227 (by decide +kernel) rfl, List.forall_mem_cons.mpr ⟨mem_t5 229 (by decide +kernel) rfl, List.forall_mem_cons.mpr ⟨mem_t5 231 (by decide +kernel) rfl, List.forall_mem_cons.mpr ⟨mem_t5 233 (by decide +kernel) rfl, List.forall_mem_cons.mpr ⟨mem_t5 235 (by decide +kernel) rfl, List.forall_mem_cons.mpr ⟨mem_t5 237 (by decide +kernel) rfl, List.forall_mem_cons.mpr ⟨mem_t5 239 (by decide +kernel) rfl, List.forall_mem_cons.mpr ⟨mem_t6 1 (by decide +kernel) rfl, List.forall_mem_cons.mpr ⟨mem_t6 3 (by decide +kernel) rfl, List.forall_mem_cons.mpr ⟨mem_t6 5 (by decide +kernel) rfl, List.forall_mem_cons.mpr ⟨mem_t6 7 (by decide +kernel) rfl, List.forall_mem_cons.mpr ⟨mem_t6 9 (by decide +kernel) rfl, List.forall_mem_cons.mpr ⟨mem_t6 11 (by decide +kernel) rfl, List.forall_mem_cons.mpr ⟨mem_t6 13 (by decide +kernel) rfl, List.forall_mem_cons.mpr ⟨mem_t6 15 (by decide +kernel) rfl, List.forall_mem_cons.mpr ⟨mem_t6 17 (by decide +kernel) rfl, List.forall_mem_cons.mpr ⟨mem_t6 19 (by decide +kernel) rfl, List.forall_mem_cons.mpr ⟨mem_t6 21 (by decide +kernel) rfl, List.forall_mem_cons.mpr ⟨mem_t6 23 (by decide +kernel) rfl, List.forall_mem_cons.mpr ⟨mem_t6 25 (by decide +kernel) rfl, List.forall_mem_cons.mpr ⟨mem_t6 27 (by decide +kernel) rfl, List.forall_mem_cons.mpr ⟨mem_t6 29 (by decide +kernel) rfl, List.forall_mem_cons.mpr ⟨mem_t6 31 (by decide +kernel) rfl, List.forall_mem_cons.mpr ⟨mem_t6 33 (by decide +kernel) rfl, List.forall_mem_cons.mpr ⟨mem_t6 35 (by decide +kernel) rfl, List.forall_mem_cons.mpr ⟨mem_t6 37 (by decide +kernel) rfl, List.forall_mem_cons.mpr ⟨mem_t6 39 (by decide +kernel) rfl, List.forall_mem_cons.mpr ⟨mem_t6 41 (by decide +kernel) rfl, List.forall_mem_cons.mpr ⟨mem_t6 43 (by decide +kernel) rfl, List.forall_mem_cons.mpr ⟨mem_t6 45 (by decide +kernel) rfl, List.forall_mem_cons.mpr ⟨mem_t6 47 (by decide +kernel) rfl, List.forall_mem_cons.mpr ⟨mem_t6 49 (by decide +kernel) rfl, List.forall_mem_cons.mpr ⟨mem_t6 51 (by decide +kernel) rfl, List.forall_mem_cons.mpr ⟨mem_t6 53 (by decide +kernel) rfl, List.forall_mem_cons.mpr ⟨mem_t6 55 (by decide +kernel) rfl, List.forall_mem_cons.mpr ⟨mem_t6 57 (by decide +kernel) rfl, fun _ h => absurd h List.not_mem_nil⟩⟩⟩⟩⟩⟩⟩⟩⟩⟩⟩⟩⟩⟩⟩⟩⟩⟩⟩⟩⟩⟩⟩⟩⟩⟩⟩⟩⟩⟩⟩⟩⟩⟩⟩⟩⟩⟩⟩⟩⟩⟩⟩⟩⟩⟩⟩⟩⟩⟩⟩
theorem dfX12 : ∀ j, j < 51 → defaultValue (tyX12 j) = vp_V [.int 0, .int 0, .null, .null, .null, .null, .null, .long 0, .long 0, .null, .int 0, .int 0, .int 0, .int 0, .int 0, .int 0, .int 0, .int 0, .int 0, .null, .null, .null, .null, .null, .null, .null, .null, .null, .null, .null, .null, .null, .null, .null, .null, .null, .null, .null, .null, .null, .null, .null, .null, .null, .null, .null, .null, .null, .null, .null, .null] j := fun j hj => match j, hj with
  | 0, _ => rfl
  | 1, _ => rfl
  | 2, _ => rfl
  | 3, _ => rfl
  | 4, _ => rfl
  | 5, _ => rfl
  | 6, _ => rfl
  | 7, _ => rfl
  | 8, _ => rfl
  | 9, _ => rfl
  | 10, _ => rfl
  | 11, _ => rfl
  | 12, _ => rfl
  | 13, _ => rfl
  | 14, _ => rfl
  | 15, _ => rfl
  | 16, _ => rfl
  | 17, _ => rfl
  | 18, _ => rfl
  | 19, _ => rfl
  | 20, _ => rfl
  | 21, _ => rfl
  | 22, _ => rfl
  | 23, _ => rfl
  | 24, _ => rfl
  | 25, _ => rfl
  | 26, _ => rfl
  | 27, _ => rfl
  | 28, _ => rfl
  | 29, _ => rfl
  | 30, _ => rfl
  | 31, _ => rfl
  | 32, _ => rfl
  | 33, _ => rfl
  | 34, _ => rfl
  | 35, _ => rfl
  | 36, _ => rfl
  | 37, _ => rfl
  | 38, _ => rfl
  | 39, _ => rfl
  | 40, _ => rfl
  | 41, _ => rfl
  | 42, _ => rfl
  | 43, _ => rfl
  | 44, _ => rfl
  | 45, _ => rfl
  | 46, _ => rfl
  | 47, _ => rfl
  | 48, _ => rfl
  | 49, _ => rfl
  | 50, _ => rfl
  | _ + 51, h => absurd h (by omega)
theorem inG13 : ∀ w ∈ u_ws RX13 TX13 20, w ∈ lw_good := show ∀ w ∈ [u_lay RX13 TX13 0, u_lay RX13 TX13 1, u_lay RX13 TX13 2, u_lay RX13 TX13 3, u_lay RX13 TX13 4, u_lay RX13 TX13 5, u_lay RX13 TX13 6, u_lay RX13 TX13 7, u_lay RX13 TX13 8, u_lay RX13 TX13 9, u_lay RX13 TX13 10, u_lay RX13 TX13 11, u_lay RX13 TX13 12, u_lay RX13 TX13 13, u_lay RX13 TX13 14, u_lay RX13 TX13 15, u_lay RX13 TX13 16, u_lay RX13 TX13 17, u_lay RX13 TX13 18, u_lay RX13 TX13 19], w ∈ lw_good from List.forall_mem_cons.mpr ⟨mem_t6 81 (by decide +kernel) rfl, List.forall_mem_cons.mpr ⟨mem_t6 83 (by decide +kernel) rfl, List.forall_mem_cons.mpr ⟨mem_t6 85 (by decide +kernel) rfl, List.forall_mem_cons.mpr ⟨mem_t6 87 (by decide +kernel) rfl, List.forall_mem_cons.mpr ⟨mem_t6 89 (by decide +kernel) rfl, List.forall_mem_cons.mpr ⟨mem_t6 91 (by decide +kernel) rfl, List.forall_mem_cons.mpr ⟨mem_t6 93 (by decide +kernel) rfl, List.forall_mem_cons.mpr ⟨mem_t6 95 (by decide +kernel) rfl, List.forall_mem_cons.mpr ⟨mem_t6 97 (by decide +kernel) rfl, List.forall_mem_cons.mpr ⟨mem_t6 99 (by decide +kernel) rfl, List.forall_mem_cons.mpr ⟨mem_t6 101 (by decide +kernel) rfl, List.forall_mem_cons.mpr ⟨mem_t6 103 (by decide +kernel) rfl, List.forall_mem_cons.mpr ⟨mem_t6 105 (by decide +kernel) rfl, List.forall_mem_cons.mpr ⟨mem_t6 107 (by decide +kernel) rfl, List.forall_mem_cons.mpr ⟨mem_t6 109 (by decide +kernel) rfl, List.forall_mem_cons.mpr ⟨mem_t6 111 (by decide +kernel) rfl, List.forall_mem_cons.mpr ⟨mem_t6 113 (by decide +kernel) rfl, List.forall_mem_cons.mpr ⟨mem_t6 115 (by decide +kernel) rfl, List.forall_mem_cons.mpr ⟨mem_t6 117 (by decide +kernel) rfl, List.forall_mem_cons.mpr ⟨mem_t6 119 (by decide +kernel) rfl, fun _ h => absurd h List.not_mem_nil⟩⟩⟩⟩⟩⟩⟩⟩⟩⟩⟩⟩⟩⟩⟩⟩⟩⟩⟩⟩
theorem dfX13 : ∀ j, j < 20 → defaultValue (tyX13 j) = vp_V [.int 0, .null, .int 0, .int 0, .int 0, .int 0, .null, .null, .null, .null, .int 0, .null, .null, .null, .null, .null, .int 0, .null, .int 0, .null] j := fun j hj => match j, hj with
  | 0, _ => rfl
  | 1, _ => rfl
  | 2, _ => rfl
  | 3, _ => rfl
  | 4, _ => rfl
  | 5, _ => rfl
  | 6, _ => rfl
  | 7, _ => rfl
  | 8, _ => rfl
  | 9, _ => rfl
  | 10, _ => rfl
  | 11, _ => rfl
  | 12, _ => rfl
  | 13, _ => rfl
  | 14, _ => rfl
  | 15, _ => rfl
  | 16, _ => rfl
  | 17, _ => rfl
  | 18, _ => rfl
  | 19, _ => rfl
  | _ + 20, h => absurd h (by omega)
/-- words on nest mates and on arrays of references: no list of words holds them, so a contract's start does -/
def nestWs : List Cond := [.methodLinkNest RX11 23 yX7_init RX11, .methodLinkNest RX11 30 yX5_init RX11, .methodLinkNest RX2 57 yX10_init RX11, .methodLinkNest RX2 88 yX11_isSeat RX11, .methodLinkNest RX2 81 yX11_isDay RX11, .methodLinkNest RX0 29 yX8_init RX11, .methodLinkNest RX4 25 yX11_isLimitedKind RX11, .methodLinkNest RX8 50 yX11_isSeat RX11, .methodLinkNest RX13 11 yX12_init RX13, .fieldLinkNest RX13 77 RX12 "first" "I" RX13, .fieldLinkNest RX13 80 RX12 "to" "I" RX13, .fieldLinkNest RX13 83 RX12 "places" "[I" RX13, .fieldLinkNest RX13 157 RX12 "told" "[I" RX13, .fieldLinkNest RX13 158 RX12 "sort" "[I" RX13, .fieldLinkNest RX13 167 RX12 "entry" "[J" RX13, .fieldLinkNest RX13 328 RX12 "income" "[J" RX13, .fieldLinkNest RX13 179 RX12 "loose" "J" RX13, .fieldLinkNest RX13 364 RX12 "nobody" "J" RX13, .fieldLinkNest RX13 92 RX12 "seat" "[I" RX13, .fieldLinkNest RX13 68 RX12 "tenures" "I" RX13, .fieldLinkNest RX13 142 RX12 "rules" "I" RX13, .fieldLinkNest RX13 233 RX12 "years" "I" RX13, .fieldLinkNest RX13 244 RX12 "closed" "I" RX13, .fieldLinkNest RX13 193 RX12 "moves" "I" RX13, .fieldLinkNest RX13 279 RX12 "mends" "I" RX13, .fieldLinkNest RX13 161 RX12 "undone" "I" RX13, .fieldLinkNest RX13 256 RX12 "stretches" "I" RX13, .fieldLinkNest RX13 288 RX12 "hasClosed" "Z" RX13, .fieldLinkNest RX13 72 RX12 "who" "[I" RX13, .fieldLinkNest RX13 110 RX12 "where" "[I" RX13, .fieldLinkNest RX13 112 RX12 "begin" "[I" RX13, .fieldLinkNest RX13 95 RX12 "ended" "[I" RX13, .fieldLinkNest RX13 115 RX12 "instalments" "[I" RX13, .fieldLinkNest RX13 118 RX12 "bears" "[I" RX13, .fieldLinkNest RX13 121 RX12 "heir" "[I" RX13, .fieldLinkNest RX13 124 RX12 "word" "[Z" RX13, .fieldLinkNest RX13 307 RX12 "credit" "[J" RX13, .fieldLinkNest RX13 370 RX12 "hidden" "[J" RX13, .fieldLinkNest RX13 230 RX12 "borne" "[J" RX13, .fieldLinkNest RX13 205 RX12 "lent" "[J" RX13, .fieldLinkNest RX13 373 RX12 "payable" "[J" RX13, .fieldLinkNest RX13 376 RX12 "paid" "[J" RX13, .fieldLinkNest RX13 259 RX12 "dues" "[J" RX13, .fieldLinkNest RX13 145 RX12 "ruleDay" "[I" RX13, .fieldLinkNest RX13 151 RX12 "thousandths" "[I" RX13, .fieldLinkNest RX13 148 RX12 "term" "[I" RX13, .fieldLinkNest RX13 236 RX12 "end" "[I" RX13, .fieldLinkNest RX13 196 RX12 "moveOf" "[I" RX13, .fieldLinkNest RX13 199 RX12 "moveDay" "[I" RX13, .fieldLinkNest RX13 202 RX12 "moveSum" "[I" RX13, .fieldLinkNest RX13 358 RX12 "mendDay" "[I" RX13, .fieldLinkNest RX13 361 RX12 "mendSum" "[I" RX13, .fieldLinkNest RX13 210 RX12 "latest" "[I" RX13, .fieldLinkNest RX13 265 RX12 "stretchDay" "[I" RX13, .fieldLinkNest RX13 268 RX12 "stretchDays" "[I" RX13, .fieldLinkNest RX13 318 RX12 "stretchIn" "[I" RX13, .fieldLinkNest RX13 301 RX12 "result" "[J" RX13, .fieldLinkNest RX13 304 RX12 "none" "[J" RX13, .fieldLinkNest RX13 315 RX12 "all" "[J" RX13, .fieldLinkNest RX13 312 RX12 "due" "[J" RX13, .arrayOver (.object RX2), .arrayOver (.object RX4), .arrayOver (.object RX9), .arrayOver (.object RX6), .arrayOver (.object RX3), .arrayOver (.object RX8), .arrayOver (.object RX12)]
def NW (U : State) : Prop := ∀ w ∈ nestWs, va_Nw w U
def nwOk : Cond → Bool
  | .fieldLinkNest _ _ _ _ _ _ => true
  | .methodLinkNest _ _ _ _ => true
  | .arrayOver (.object _) => true
  | _ => false
theorem nestWs_ok : nestWs.all nwOk = true := by decide +kernel
theorem nw_warm {s U : State} (hW : s.WarmedH U.vm) : ∀ w : Cond, nwOk w = true → va_Nw w s → va_Nw w U := fun w h hz => match w, h, hz with
  | .fieldLinkNest _ _ _ _ _ _, _, hz => va_Nw.warmF hW hz
  | .methodLinkNest _ _ _ _, _, hz => va_Nw.warmM hW hz
  | .arrayOver (.object _), _, hz => va_AO.moved hW.alike hz
theorem nw_call {s : State} (U : State) (hv : s.vm = U.vm) : ∀ w : Cond, nwOk w = true → va_Nw w s → va_Nw w U := fun w h hz => match w, h, hz with
  | .fieldLinkNest _ _ _ _ _ _, _, hz => va_Nw.same rfl hv hz
  | .methodLinkNest _ _ _ _, _, hz => va_Nw.same rfl hv hz
  | .arrayOver (.object C), _, hz => va_AO.moved (C := C) (u := s) (U := U) (by rw [hv]; exact Vm.Alike.refl U.vm) hz
theorem NW.warm {s U : State} (hW : s.WarmedH U.vm) (h : NW s) : NW U := fun w hw => nw_warm hW w (List.all_eq_true.mp nestWs_ok w hw) (h w hw)
theorem NW.same {s U : State} (hv : s.vm = U.vm) (h : NW s) : NW U := fun w hw => nw_call U hv w (List.all_eq_true.mp nestWs_ok w hw) (h w hw)
theorem NW.use {s : State} {args : Array Value} (h : NW s) (w : Cond) (i : Nat) (hi : nestWs[i]? = some w) (ho : w.onTables = true) : w.before args s = true := va_Nw.use ho (h w (List.mem_of_getElem? hi))
theorem NW.ao {s : State} (h : NW s) (C : String) (i : Nat) (hi : nestWs[i]? = some (.arrayOver (.object C))) : va_AO C s := h _ (List.mem_of_getElem? hi)
/-- a contract's start: so many cells, the world ws, the tables -/
def Pr (D : va_G) (ws : va_W) (tys : List (ClassId × FieldType)) (sz : Nat) (U : State) : Prop := U.heap.size = sz ∧ va_P D vwCl ws U.heap ∧ va_K D vwCl tys U ∧ va_D (fun _ => True) ws ∧ NW U
/-- a contract's end: the world ws in A -/
def Po (D : va_G) (ws : va_W) (tys : List (ClassId × FieldType)) (A : Nat → Prop) (t : State) : Prop := va_P D vwCl ws t.heap ∧ va_K D vwCl tys t ∧ va_D A ws
theorem Pr.calling {D : va_G} {ws : va_W} {tys : List (ClassId × FieldType)} {sz : Nat} {U : State} (g : JFrame) (mk : MethodId) (a : Array Value) (h : Pr D ws tys sz U) : Pr D ws tys sz (U.calling g mk a) := ⟨h.1, h.2.1, va_K.moved (u := U) (U := U.calling g mk a) (Vm.Alike.refl U.vm) h.2.2.1, h.2.2.2.1, NW.same (s := U) rfl h.2.2.2.2⟩
theorem Pr.at {D : va_G} {ws : va_W} {tys : List (ClassId × FieldType)} {s U : State} {H : Heap} {A : Nat → Prop} (hP : va_P D vwCl ws H) (hK : va_K D vwCl tys s) (hD : va_D A ws) (hN : NW s) (hU : U.heap = H) (hW : s.WarmedH U.vm) : Pr D ws tys H.size U := ⟨by rw [hU], by rw [hU]; exact hP, va_K.moved hW.alike hK, hD.weaken (fun _ _ _ _ => trivial), NW.warm hW hN⟩
theorem Pr.blind {D : va_G} {ws : va_W} {tys : List (ClassId × FieldType)} {sz : Nat} {av : List Value} : FrameBlind (va_Pc av (Pr D ws tys sz)) := fun a U g mk q => ⟨q.1, q.2.calling g mk a⟩
theorem forget_join {A0 : Nat → Prop} {D : va_G} {cl : List vw_C} {ws wc wr : va_W} {H H1 : Heap} (hP : va_P D cl ws H) (hD : va_D A0 ws) (isC isR : List Nat) (hC : isC.map (fun i => ws[i]?) = wc.map some) (hR : isR.map (fun i => ws[i]?) = wr.map some) (hn : va_nd isR = true) (hdis : ∀ i ∈ isR, i ∉ isC) (hk : ∀ q : Nat, q < H.size → ¬ va_A wc H.size q → H1[q]? = H[q]?) (hF : ∀ q, va_A wc H.size q → A0 q) : va_P D cl wr H1 ∧ va_D A0 wr := by
  have h := va_join (w1 := []) hP hD isC isR hC hR hn hdis hk hF (fun k q h => by simp at h) ⟨fun i j p q h => by simp at h, fun k q h => by simp at h⟩
  rw [List.append_nil] at h
  exact h
end
section
theorem wd_0 : Cond.fieldLink RX11 380 RX11 "lastStatus" "I" ∈ lw_good := mem_t1 89 (by decide +kernel) rfl
theorem wd_1 : Cond.fieldLink RX11 43 RX11 "lastWhere" "I" ∈ lw_good := mem_t1 90 (by decide +kernel) rfl
theorem wd_2 : Cond.methodLink RX11 275 yX11_refuseAt ∈ lw_good := mem_t1 122 (by decide +kernel) rfl
theorem wd_3 : Cond.instanceMethod yX11_refuseAt ∈ lw_good := mem_t1 124 (by decide +kernel) rfl
theorem wd_4 : Cond.selects RX11 yX11_refuseAt yX11_refuseAt ∈ lw_good := mem_p 1 (by decide +kernel) rfl
theorem wd_5 : Cond.initialized RX11 ∈ lw_good := mem_t1 1 (by decide +kernel) rfl
theorem wd_6 : Cond.code yX11_refuseAt cX11_refuseAt 3 (some .int) ∈ lw_good := mem_t1 125 rfl rfl
theorem wd_7 : Cond.fieldLink RX11 51 RX11 "houseCount" "I" ∈ lw_good := mem_t1 81 (by decide +kernel) rfl
theorem wd_8 : Cond.methodLink RX11 65 yX11_houseAt ∈ lw_good := mem_t2 67 (by decide +kernel) rfl
theorem wd_9 : Cond.instanceMethod yX11_houseAt ∈ lw_good := mem_t2 69 (by decide +kernel) rfl
theorem wd_10 : Cond.selects RX11 yX11_houseAt yX11_houseAt ∈ lw_good := mem_p 3 (by decide +kernel) rfl
theorem wd_11 : Cond.code yX11_houseAt cX11_houseAt 2 (some (.object "PartnersBook$House")) ∈ lw_good := mem_t2 70 rfl rfl
theorem wd_12 : Cond.methodLink RX11 47 yX11_refuse ∈ lw_good := mem_t1 118 (by decide +kernel) rfl
theorem wd_13 : Cond.instanceMethod yX11_refuse ∈ lw_good := mem_t1 120 (by decide +kernel) rfl
theorem wd_14 : Cond.selects RX11 yX11_refuse yX11_refuse ∈ lw_good := mem_p 0 (by decide +kernel) rfl
theorem wd_15 : Cond.code yX11_refuse cX11_refuse 2 (some .int) ∈ lw_good := mem_t1 121 rfl rfl
end
section
theorem dX11_letter_0 : decode cX11_letter 0 = .ok (.aload_n 0, 1) := by decide +kernel
theorem dX11_letter_1 : decode cX11_letter 1 = .ok (.iload_n 1, 1) := by decide +kernel
theorem dX11_letter_2 : decode cX11_letter 2 = .ok (.invokevirtual 65, 3) := by decide +kernel
theorem dX11_letter_5 : decode cX11_letter 5 = .ok (.astore 4, 2) := by decide +kernel
theorem dX11_letter_7 : decode cX11_letter 7 = .ok (.aload 4, 2) := by decide +kernel
theorem dX11_letter_9 : decode cX11_letter 9 = .ok (.ifnull 10, 3) := by decide +kernel
theorem dX11_letter_19 : decode cX11_letter 19 = .ok (.aload_n 0, 1) := by decide +kernel
theorem dX11_letter_20 : decode cX11_letter 20 = .ok (.iconst 1, 1) := by decide +kernel
theorem dX11_letter_21 : decode cX11_letter 21 = .ok (.invokevirtual 47, 3) := by decide +kernel
theorem dX11_letter_24 : decode cX11_letter 24 = .ok (.ireturn, 1) := by decide +kernel
theorem dX11_accept_0 : decode cX11_accept 0 = .ok (.aload_n 0, 1) := by decide +kernel
theorem dX11_accept_1 : decode cX11_accept 1 = .ok (.iconst 0, 1) := by decide +kernel
theorem dX11_accept_2 : decode cX11_accept 2 = .ok (.putfield 380, 3) := by decide +kernel
theorem dX11_accept_5 : decode cX11_accept 5 = .ok (.aload_n 0, 1) := by decide +kernel
theorem dX11_accept_6 : decode cX11_accept 6 = .ok (.iconst (-1), 1) := by decide +kernel
theorem dX11_accept_7 : decode cX11_accept 7 = .ok (.putfield 43, 3) := by decide +kernel
theorem dX11_accept_10 : decode cX11_accept 10 = .ok (.iload_n 1, 1) := by decide +kernel
theorem dX11_accept_11 : decode cX11_accept 11 = .ok (.ireturn, 1) := by decide +kernel
theorem dX11_refuse_0 : decode cX11_refuse 0 = .ok (.aload_n 0, 1) := by decide +kernel
theorem dX11_refuse_1 : decode cX11_refuse 1 = .ok (.iload_n 1, 1) := by decide +kernel
theorem dX11_refuse_2 : decode cX11_refuse 2 = .ok (.iconst (-1), 1) := by decide +kernel
theorem dX11_refuse_3 : decode cX11_refuse 3 = .ok (.invokevirtual 275, 3) := by decide +kernel
theorem dX11_refuse_6 : decode cX11_refuse 6 = .ok (.ireturn, 1) := by decide +kernel
theorem dX11_refuseAt_0 : decode cX11_refuseAt 0 = .ok (.aload_n 0, 1) := by decide +kernel
theorem dX11_refuseAt_1 : decode cX11_refuseAt 1 = .ok (.iload_n 1, 1) := by decide +kernel
theorem dX11_refuseAt_2 : decode cX11_refuseAt 2 = .ok (.putfield 380, 3) := by decide +kernel
theorem dX11_refuseAt_5 : decode cX11_refuseAt 5 = .ok (.aload_n 0, 1) := by decide +kernel
theorem dX11_refuseAt_6 : decode cX11_refuseAt 6 = .ok (.iload_n 2, 1) := by decide +kernel
theorem dX11_refuseAt_7 : decode cX11_refuseAt 7 = .ok (.putfield 43, 3) := by decide +kernel
theorem dX11_refuseAt_10 : decode cX11_refuseAt 10 = .ok (.iconst (-1), 1) := by decide +kernel
theorem dX11_refuseAt_11 : decode cX11_refuseAt 11 = .ok (.ireturn, 1) := by decide +kernel
theorem dX11_houseAt_0 : decode cX11_houseAt 0 = .ok (.iload_n 1, 1) := by decide +kernel
theorem dX11_houseAt_1 : decode cX11_houseAt 1 = .ok (.ifCond .lt 26, 3) := by decide +kernel
theorem dX11_houseAt_4 : decode cX11_houseAt 4 = .ok (.iload_n 1, 1) := by decide +kernel
theorem dX11_houseAt_5 : decode cX11_houseAt 5 = .ok (.aload_n 0, 1) := by decide +kernel
theorem dX11_houseAt_6 : decode cX11_houseAt 6 = .ok (.getfield 51, 3) := by decide +kernel
theorem dX11_houseAt_9 : decode cX11_houseAt 9 = .ok (.if_icmp .ge 18, 3) := by decide +kernel
theorem dX11_houseAt_27 : decode cX11_houseAt 27 = .ok (.aconst_null, 1) := by decide +kernel
theorem dX11_houseAt_28 : decode cX11_houseAt 28 = .ok (.areturn, 1) := by decide +kernel
set_option maxHeartbeats 4000000 in
set_option maxRecDepth 100000 in
theorem k_refuseAt (l : Launch) (D : va_G) (sz : Nat) (xa : Nat) (x0 : Nat) (x1 : Int32) (x2 : Nat) (x3 : Int32) (x4 : Nat) (x5 : Nat) (x6 : Nat) (x7 : Int32) (x8 : Nat) (x9 : Int32) (x10 : Int32) (k1 : Int32) (k2 : Int32) : Met l yX11_refuseAt (wsM yX11_refuseAt cX11_refuseAt 3 (some .int)) ({ frames := 0, cells := 0, slots := 0, locals := 0 }) (va_Pc [.ref xa, .int k1, .int k2] (Pr D [(xa, .inr (11, [.ref x0, .int x1, .ref x2, .int x3, .ref x4, .ref x5, .ref x6, .int x7, .ref x8, .int x9, .int x10]))] [] sz)) (va_Qi (fun (r : Int32) (_ : Unit) => r = (-1)) (fun _ t => Po D [(xa, .inr (11, [.ref x0, .int x1, .ref x2, .int x3, .ref x4, .ref x5, .ref x6, .int x7, .ref x8, .int k1, .int k2]))] [] (va_A [(xa, .inr (11, [.ref x0, .int x1, .ref x2, .int x3, .ref x4, .ref x5, .ref x6, .int x7, .ref x8, .int x9, .int x10]))] sz) t) (va_A [(xa, .inr (11, [.ref x0, .int x1, .ref x2, .int x3, .ref x4, .ref x5, .ref x6, .int x7, .ref x8, .int x9, .int x10]))] sz)) 0 0 (va_A [(xa, .inr (11, [.ref x0, .int x1, .ref x2, .int x3, .ref x4, .ref x5, .ref x6, .int x7, .ref x8, .int x9, .int x10]))] sz) := by
  refine Met.ofW (cc := cX11_refuseAt) (maxL := 3) (ret := (some .int)) (by decide) rfl ?_
  intro p e s m args below meth c s₁ B hml hv
  obtain ⟨rfl, hsz, hP, hK, hD0, hN⟩ := hv
  have hx := B.exec
  have hb := B.bytes
  have hr := B.returns
  have hts := atoms_spec (ws := (wsM yX11_refuseAt cX11_refuseAt 3 (some .int))) B.pre
  have hg : ∀ w ∈ lw_good, w.before _ s = true := fun w h => hts w (List.mem_cons_of_mem _ h)
  have hown : s.vm.findClass RX11 = some m.cls := findClass_of_methodNamed B.named
  have hlocks := B.notSynchronized
  subst hsz
  have hD := hD0.self (sz := s.heap.size)
  generalize hAe : va_A [(xa, .inr (11, [.ref x0, .int x1, .ref x2, .int x3, .ref x4, .ref x5, .ref x6, .int x7, .ref x8, .int x9, .int x10]))] s.heap.size = A at hD ⊢
  have hA : ∀ q : Nat, s.heap.size ≤ q → A q := fun q h => by rw [← hAe]; exact Or.inr h
  have hS : va_S A s.heap s.heap [] := va_S.rf
  have hP : va_P D vwCl [(xa, .inr (11, [.ref x0, .int x1, .ref x2, .int x3, .ref x4, .ref x5, .ref x6, .int x7, .ref x8, .int x9, .int x10]))] s.heap := hP
  have hl := lv_entry ([.ref xa, .int k1, .int k2]) (n := 3) (Nat.le_of_ble_eq_true rfl)
  rw [lg_entry_eq]
  generalize (lg_sl ([.ref xa, .int k1, .int k2]) ++ List.replicate (3 - (lg_sl ([.ref xa, .int k1, .int k2])).length) Slot.unset).toArray = ls at hl ⊢
  have hl : lv_has ls 3 [(0, .ref xa), (1, .int k1), (2, .int k2)] := hl
  refine lv_aload_n hx hb dX11_refuseAt_0 rfl (lv_at hl 0 rfl) ?_
  refine lv_iload_n hx hb dX11_refuseAt_1 rfl (lv_at hl 1 rfl) ?_
  refine va_put (D := D) (ci := 11) (v := .int k1) (ty := .int) (C := RX11) (T := TX11) (N := 11) hx hb hg inG11 tyX11 tyX11_ok nmX11 hown hK hP hD hS 0 rfl rfl 9 (by decide) (hg _ wd_0) (fun _ h9 => h9) rfl (by decide +kernel) rfl rfl (Nat.le_of_ble_eq_true rfl) dX11_refuseAt_2 (fun H_1 locs hP hD hS => ?_)
  have hP : va_P D vwCl [(xa, .inr (11, [.ref x0, .int x1, .ref x2, .int x3, .ref x4, .ref x5, .ref x6, .int x7, .ref x8, .int k1, .int x10]))] H_1 := hP
  have hD : va_D A [(xa, .inr (11, [.ref x0, .int x1, .ref x2, .int x3, .ref x4, .ref x5, .ref x6, .int x7, .ref x8, .int k1, .int x10]))] := hD
  refine lv_aload_n hx hb dX11_refuseAt_5 rfl (lv_at hl 0 rfl) ?_
  refine lv_iload_n hx hb dX11_refuseAt_6 rfl (lv_at hl 2 rfl) ?_
  refine va_put (D := D) (ci := 11) (v := .int k2) (ty := .int) (C := RX11) (T := TX11) (N := 11) hx hb hg inG11 tyX11 tyX11_ok nmX11 hown hK hP hD hS 0 rfl rfl 10 (by decide) (hg _ wd_1) (fun _ h9 => h9) rfl (by decide +kernel) rfl rfl (Nat.le_of_ble_eq_true rfl) dX11_refuseAt_7 (fun H_2 locs hP hD hS => ?_)
  have hP : va_P D vwCl [(xa, .inr (11, [.ref x0, .int x1, .ref x2, .int x3, .ref x4, .ref x5, .ref x6, .int x7, .ref x8, .int k1, .int k2]))] H_2 := hP
  have hD : va_D A [(xa, .inr (11, [.ref x0, .int x1, .ref x2, .int x3, .ref x4, .ref x5, .ref x6, .int x7, .ref x8, .int k1, .int k2]))] := hD
  refine lv_iconst (v := (-1)) hx hb dX11_refuseAt_10 (by decide) ?_
  have hP9 := hP.sub (ws' := [(xa, .inr (11, [.ref x0, .int x1, .ref x2, .int x3, .ref x4, .ref x5, .ref x6, .int x7, .ref x8, .int k1, .int k2]))]) [0] rfl
  have hD9 := hD.sub (ws' := [(xa, .inr (11, [.ref x0, .int x1, .ref x2, .int x3, .ref x4, .ref x5, .ref x6, .int x7, .ref x8, .int k1, .int k2]))]) [0] (by decide) rfl
  have hK9 := hK.sub (tys' := []) [] rfl
  exact W.iret (v := (-1)) hx hb hr (fun t ht hW => ⟨⟨(-1), (), rfl, rfl, ⟨by rw [ht]; exact hP9, va_K.moved hW.alike hK9, hD9⟩⟩, hS.F ht⟩) hS.2.2 dX11_refuseAt_11
set_option maxHeartbeats 4000000 in
set_option maxRecDepth 100000 in
theorem k_refuse (l : Launch) (D : va_G) (sz : Nat) (xa : Nat) (x0 : Nat) (x1 : Int32) (x2 : Nat) (x3 : Int32) (x4 : Nat) (x5 : Nat) (x6 : Nat) (x7 : Int32) (x8 : Nat) (x9 : Int32) (x10 : Int32) (k1 : Int32) : Met l yX11_refuse (wsM yX11_refuse cX11_refuse 2 (some .int)) ({ frames := 1, cells := 0, slots := 0, locals := 22 }) (va_Pc [.ref xa, .int k1] (Pr D [(xa, .inr (11, [.ref x0, .int x1, .ref x2, .int x3, .ref x4, .ref x5, .ref x6, .int x7, .ref x8, .int x9, .int x10]))] [] sz)) (va_Qi (fun (r : Int32) (_ : Unit) => r = (-1)) (fun _ t => Po D [(xa, .inr (11, [.ref x0, .int x1, .ref x2, .int x3, .ref x4, .ref x5, .ref x6, .int x7, .ref x8, .int k1, .int (-1)]))] [] (va_A [(xa, .inr (11, [.ref x0, .int x1, .ref x2, .int x3, .ref x4, .ref x5, .ref x6, .int x7, .ref x8, .int x9, .int x10]))] sz) t) (va_A [(xa, .inr (11, [.ref x0, .int x1, .ref x2, .int x3, .ref x4, .ref x5, .ref x6, .int x7, .ref x8, .int x9, .int x10]))] sz)) 0 0 (va_A [(xa, .inr (11, [.ref x0, .int x1, .ref x2, .int x3, .ref x4, .ref x5, .ref x6, .int x7, .ref x8, .int x9, .int x10]))] sz) := by
  refine Met.ofW (cc := cX11_refuse) (maxL := 2) (ret := (some .int)) (by decide) rfl ?_
  intro p e s m args below meth c s₁ B hml hv
  obtain ⟨rfl, hsz, hP, hK, hD0, hN⟩ := hv
  have hx := B.exec
  have hb := B.bytes
  have hr := B.returns
  have hts := atoms_spec (ws := (wsM yX11_refuse cX11_refuse 2 (some .int))) B.pre
  have hg : ∀ w ∈ lw_good, w.before _ s = true := fun w h => hts w (List.mem_cons_of_mem _ h)
  have hown : s.vm.findClass RX11 = some m.cls := findClass_of_methodNamed B.named
  have hlocks := B.notSynchronized
  subst hsz
  have hD := hD0.self (sz := s.heap.size)
  generalize hAe : va_A [(xa, .inr (11, [.ref x0, .int x1, .ref x2, .int x3, .ref x4, .ref x5, .ref x6, .int x7, .ref x8, .int x9, .int x10]))] s.heap.size = A at hD ⊢
  have hA : ∀ q : Nat, s.heap.size ≤ q → A q := fun q h => by rw [← hAe]; exact Or.inr h
  have hS : va_S A s.heap s.heap [] := va_S.rf
  have hP : va_P D vwCl [(xa, .inr (11, [.ref x0, .int x1, .ref x2, .int x3, .ref x4, .ref x5, .ref x6, .int x7, .ref x8, .int x9, .int x10]))] s.heap := hP
  have hl := lv_entry ([.ref xa, .int k1]) (n := 2) (Nat.le_of_ble_eq_true rfl)
  rw [lg_entry_eq]
  generalize (lg_sl ([.ref xa, .int k1]) ++ List.replicate (2 - (lg_sl ([.ref xa, .int k1])).length) Slot.unset).toArray = ls at hl ⊢
  have hl : lv_has ls 2 [(0, .ref xa), (1, .int k1)] := hl
  refine lv_aload_n hx hb dX11_refuse_0 rfl (lv_at hl 0 rfl) ?_
  refine lv_iload_n hx hb dX11_refuse_1 rfl (lv_at hl 1 rfl) ?_
  refine lv_iconst (v := (-1)) hx hb dX11_refuse_2 (by decide) ?_
  have hPc := hP.sub (ws' := [(xa, .inr (11, [.ref x0, .int x1, .ref x2, .int x3, .ref x4, .ref x5, .ref x6, .int x7, .ref x8, .int x9, .int x10]))]) [0] rfl
  have hDc := hD.sub (ws' := [(xa, .inr (11, [.ref x0, .int x1, .ref x2, .int x3, .ref x4, .ref x5, .ref x6, .int x7, .ref x8, .int x9, .int x10]))]) [0] (by decide) rfl
  have hKc := hK.sub (tys' := []) [] rfl
  have hFc := va_free (wc := [(xa, .inr (11, [.ref x0, .int x1, .ref x2, .int x3, .ref x4, .ref x5, .ref x6, .int x7, .ref x8, .int x9, .int x10]))]) hD hS hA [0] rfl
  refine va_calli (va_runV (As := [.int k1, .int (-1)]) (rest := []) ⟨hx, hb, hml, hown, hg⟩ (k_refuseAt l D s.heap.size xa x0 x1 x2 x3 x4 x5 x6 x7 x8 x9 x10 k1 (-1)) (cwV 2 hg (gV wd_2 wd_3 wd_4 wd_5 wd_6) rfl rfl rfl (by decide +kernel) ⟨(Nat.le_of_ble_eq_true rfl), (Nat.le_of_ble_eq_true rfl)⟩) ⟨Pr.blind, va_recv hKc hPc (ci := 11) (q0 := 0) rfl rfl, fun U hU hW => ⟨rfl, Pr.at hPc hKc hDc hN hU hW⟩⟩ rfl rfl hl.1 rfl (lv_room (Nat.le_of_ble_eq_true rfl)) dX11_refuse_3 ⟨(Nat.le_of_ble_eq_true rfl), (Nat.le_of_ble_eq_true rfl)⟩) hS (fun q _ h => hFc q h) hFc (fun r_2 u t H_1 locs ht hvm hw hB hz1 hk1 hS => ?_)
  obtain ⟨hP1, hK1, hD1⟩ := hB
  rw [ht] at hP1
  have hK1 := va_K.moved hvm.symm hK1
  obtain ⟨hP, hD⟩ := va_join (wr := []) (w1 := [(xa, .inr (11, [.ref x0, .int x1, .ref x2, .int x3, .ref x4, .ref x5, .ref x6, .int x7, .ref x8, .int k1, .int (-1)]))]) hP hD [0] [] rfl rfl (by decide) (by decide) hk1 hFc hP1 hD1
  have hP : va_P D vwCl [(xa, .inr (11, [.ref x0, .int x1, .ref x2, .int x3, .ref x4, .ref x5, .ref x6, .int x7, .ref x8, .int k1, .int (-1)]))] H_1 := hP
  have hD : va_D A [(xa, .inr (11, [.ref x0, .int x1, .ref x2, .int x3, .ref x4, .ref x5, .ref x6, .int x7, .ref x8, .int k1, .int (-1)]))] := hD
  subst hw
  have hP9 := hP.sub (ws' := [(xa, .inr (11, [.ref x0, .int x1, .ref x2, .int x3, .ref x4, .ref x5, .ref x6, .int x7, .ref x8, .int k1, .int (-1)]))]) [0] rfl
  have hD9 := hD.sub (ws' := [(xa, .inr (11, [.ref x0, .int x1, .ref x2, .int x3, .ref x4, .ref x5, .ref x6, .int x7, .ref x8, .int k1, .int (-1)]))]) [0] (by decide) rfl
  have hK9 := hK.sub (tys' := []) [] rfl
  exact W.iret (v := (-1)) hx hb hr (fun t ht hW => ⟨⟨(-1), (), rfl, rfl, ⟨by rw [ht]; exact hP9, va_K.moved hW.alike hK9, hD9⟩⟩, hS.F ht⟩) hS.2.2 dX11_refuse_6
set_option maxHeartbeats 4000000 in
set_option maxRecDepth 100000 in
theorem k_accept (l : Launch) (D : va_G) (sz : Nat) (xa : Nat) (x0 : Nat) (x1 : Int32) (x2 : Nat) (x3 : Int32) (x4 : Nat) (x5 : Nat) (x6 : Nat) (x7 : Int32) (x8 : Nat) (x9 : Int32) (x10 : Int32) (k1 : Int32) : Met l yX11_accept (wsM yX11_accept cX11_accept 2 (some .int)) ({ frames := 0, cells := 0, slots := 0, locals := 0 }) (va_Pc [.ref xa, .int k1] (Pr D [(xa, .inr (11, [.ref x0, .int x1, .ref x2, .int x3, .ref x4, .ref x5, .ref x6, .int x7, .ref x8, .int x9, .int x10]))] [] sz)) (va_Qi (fun (r : Int32) (_ : Unit) => r = k1) (fun _ t => Po D [(xa, .inr (11, [.ref x0, .int x1, .ref x2, .int x3, .ref x4, .ref x5, .ref x6, .int x7, .ref x8, .int 0, .int (-1)]))] [] (va_A [(xa, .inr (11, [.ref x0, .int x1, .ref x2, .int x3, .ref x4, .ref x5, .ref x6, .int x7, .ref x8, .int x9, .int x10]))] sz) t) (va_A [(xa, .inr (11, [.ref x0, .int x1, .ref x2, .int x3, .ref x4, .ref x5, .ref x6, .int x7, .ref x8, .int x9, .int x10]))] sz)) 0 0 (va_A [(xa, .inr (11, [.ref x0, .int x1, .ref x2, .int x3, .ref x4, .ref x5, .ref x6, .int x7, .ref x8, .int x9, .int x10]))] sz) := by
  refine Met.ofW (cc := cX11_accept) (maxL := 2) (ret := (some .int)) (by decide) rfl ?_
  intro p e s m args below meth c s₁ B hml hv
  obtain ⟨rfl, hsz, hP, hK, hD0, hN⟩ := hv
  have hx := B.exec
  have hb := B.bytes
  have hr := B.returns
  have hts := atoms_spec (ws := (wsM yX11_accept cX11_accept 2 (some .int))) B.pre
  have hg : ∀ w ∈ lw_good, w.before _ s = true := fun w h => hts w (List.mem_cons_of_mem _ h)
  have hown : s.vm.findClass RX11 = some m.cls := findClass_of_methodNamed B.named
  have hlocks := B.notSynchronized
  subst hsz
  have hD := hD0.self (sz := s.heap.size)
  generalize hAe : va_A [(xa, .inr (11, [.ref x0, .int x1, .ref x2, .int x3, .ref x4, .ref x5, .ref x6, .int x7, .ref x8, .int x9, .int x10]))] s.heap.size = A at hD ⊢
  have hA : ∀ q : Nat, s.heap.size ≤ q → A q := fun q h => by rw [← hAe]; exact Or.inr h
  have hS : va_S A s.heap s.heap [] := va_S.rf
  have hP : va_P D vwCl [(xa, .inr (11, [.ref x0, .int x1, .ref x2, .int x3, .ref x4, .ref x5, .ref x6, .int x7, .ref x8, .int x9, .int x10]))] s.heap := hP
  have hl := lv_entry ([.ref xa, .int k1]) (n := 2) (Nat.le_of_ble_eq_true rfl)
  rw [lg_entry_eq]
  generalize (lg_sl ([.ref xa, .int k1]) ++ List.replicate (2 - (lg_sl ([.ref xa, .int k1])).length) Slot.unset).toArray = ls at hl ⊢
  have hl : lv_has ls 2 [(0, .ref xa), (1, .int k1)] := hl
  refine lv_aload_n hx hb dX11_accept_0 rfl (lv_at hl 0 rfl) ?_
  refine lv_iconst (v := 0) hx hb dX11_accept_1 (by decide) ?_
  refine va_put (D := D) (ci := 11) (v := .int 0) (ty := .int) (C := RX11) (T := TX11) (N := 11) hx hb hg inG11 tyX11 tyX11_ok nmX11 hown hK hP hD hS 0 rfl rfl 9 (by decide) (hg _ wd_0) (fun _ h9 => h9) rfl (by decide +kernel) rfl rfl (Nat.le_of_ble_eq_true rfl) dX11_accept_2 (fun H_1 locs hP hD hS => ?_)
  have hP : va_P D vwCl [(xa, .inr (11, [.ref x0, .int x1, .ref x2, .int x3, .ref x4, .ref x5, .ref x6, .int x7, .ref x8, .int 0, .int x10]))] H_1 := hP
  have hD : va_D A [(xa, .inr (11, [.ref x0, .int x1, .ref x2, .int x3, .ref x4, .ref x5, .ref x6, .int x7, .ref x8, .int 0, .int x10]))] := hD
  refine lv_aload_n hx hb dX11_accept_5 rfl (lv_at hl 0 rfl) ?_
  refine lv_iconst (v := (-1)) hx hb dX11_accept_6 (by decide) ?_
  refine va_put (D := D) (ci := 11) (v := .int (-1)) (ty := .int) (C := RX11) (T := TX11) (N := 11) hx hb hg inG11 tyX11 tyX11_ok nmX11 hown hK hP hD hS 0 rfl rfl 10 (by decide) (hg _ wd_1) (fun _ h9 => h9) rfl (by decide +kernel) rfl rfl (Nat.le_of_ble_eq_true rfl) dX11_accept_7 (fun H_2 locs hP hD hS => ?_)
  have hP : va_P D vwCl [(xa, .inr (11, [.ref x0, .int x1, .ref x2, .int x3, .ref x4, .ref x5, .ref x6, .int x7, .ref x8, .int 0, .int (-1)]))] H_2 := hP
  have hD : va_D A [(xa, .inr (11, [.ref x0, .int x1, .ref x2, .int x3, .ref x4, .ref x5, .ref x6, .int x7, .ref x8, .int 0, .int (-1)]))] := hD
  refine lv_iload_n hx hb dX11_accept_10 rfl (lv_at hl 1 rfl) ?_
  have hP9 := hP.sub (ws' := [(xa, .inr (11, [.ref x0, .int x1, .ref x2, .int x3, .ref x4, .ref x5, .ref x6, .int x7, .ref x8, .int 0, .int (-1)]))]) [0] rfl
  have hD9 := hD.sub (ws' := [(xa, .inr (11, [.ref x0, .int x1, .ref x2, .int x3, .ref x4, .ref x5, .ref x6, .int x7, .ref x8, .int 0, .int (-1)]))]) [0] (by decide) rfl
  have hK9 := hK.sub (tys' := []) [] rfl
  exact W.iret (v := k1) hx hb hr (fun t ht hW => ⟨⟨k1, (), rfl, rfl, ⟨by rw [ht]; exact hP9, va_K.moved hW.alike hK9, hD9⟩⟩, hS.F ht⟩) hS.2.2 dX11_accept_11
set_option maxHeartbeats 4000000 in
set_option maxRecDepth 100000 in
theorem k_houseAt0 (l : Launch) (D : va_G) (sz : Nat) (xa : Nat) (x0 : Nat) (x2 : Nat) (x4 : Nat) (x5 : Nat) (x6 : Nat) (x7 : Int32) (x8 : Nat) (x9 : Int32) (x10 : Int32) (k1 : Int32) : Met l yX11_houseAt (wsM yX11_houseAt cX11_houseAt 2 (some (.object "PartnersBook$House"))) ({ frames := 0, cells := 0, slots := 0, locals := 0 }) (va_Pc [.ref xa, .int k1] (Pr D [(xa, .inr (11, [.ref x0, .int 0, .ref x2, .int 0, .ref x4, .ref x5, .ref x6, .int x7, .ref x8, .int x9, .int x10]))] [] sz)) (va_Qq (fun (r : Option Nat) (_ : Unit) => r = none) (fun _ t => Po D [(xa, .inr (11, [.ref x0, .int 0, .ref x2, .int 0, .ref x4, .ref x5, .ref x6, .int x7, .ref x8, .int x9, .int x10]))] [] (va_A [(xa, .inr (11, [.ref x0, .int 0, .ref x2, .int 0, .ref x4, .ref x5, .ref x6, .int x7, .ref x8, .int x9, .int x10]))] sz) t) (va_A [(xa, .inr (11, [.ref x0, .int 0, .ref x2, .int 0, .ref x4, .ref x5, .ref x6, .int x7, .ref x8, .int x9, .int x10]))] sz)) 0 0 (va_A [(xa, .inr (11, [.ref x0, .int 0, .ref x2, .int 0, .ref x4, .ref x5, .ref x6, .int x7, .ref x8, .int x9, .int x10]))] sz) := by
  refine Met.ofW (cc := cX11_houseAt) (maxL := 2) (ret := (some (.object "PartnersBook$House"))) (by decide) rfl ?_
  intro p e s m args below meth c s₁ B hml hv
  obtain ⟨rfl, hsz, hP, hK, hD0, hN⟩ := hv
  have hx := B.exec
  have hb := B.bytes
  have hr := B.returns
  have hts := atoms_spec (ws := (wsM yX11_houseAt cX11_houseAt 2 (some (.object "PartnersBook$House")))) B.pre
  have hg : ∀ w ∈ lw_good, w.before _ s = true := fun w h => hts w (List.mem_cons_of_mem _ h)
  have hown : s.vm.findClass RX11 = some m.cls := findClass_of_methodNamed B.named
  have hlocks := B.notSynchronized
  subst hsz
  have hD := hD0.self (sz := s.heap.size)
  generalize hAe : va_A [(xa, .inr (11, [.ref x0, .int 0, .ref x2, .int 0, .ref x4, .ref x5, .ref x6, .int x7, .ref x8, .int x9, .int x10]))] s.heap.size = A at hD ⊢
  have hA : ∀ q : Nat, s.heap.size ≤ q → A q := fun q h => by rw [← hAe]; exact Or.inr h
  have hS : va_S A s.heap s.heap [] := va_S.rf
  have hP : va_P D vwCl [(xa, .inr (11, [.ref x0, .int 0, .ref x2, .int 0, .ref x4, .ref x5, .ref x6, .int x7, .ref x8, .int x9, .int x10]))] s.heap := hP
  have hl := lv_entry ([.ref xa, .int k1]) (n := 2) (Nat.le_of_ble_eq_true rfl)
  rw [lg_entry_eq]
  generalize (lg_sl ([.ref xa, .int k1]) ++ List.replicate (2 - (lg_sl ([.ref xa, .int k1])).length) Slot.unset).toArray = ls at hl ⊢
  have hl : lv_has ls 2 [(0, .ref xa), (1, .int k1)] := hl
  refine lv_iload_n hx hb dX11_houseAt_0 rfl (lv_at hl 1 rfl) ?_
  refine lv_if_lt (tgt := 27) hx hb dX11_houseAt_1 (by decide) (fun c_1 => ?_) (fun c_1 => ?_)
  · refine lv_null hx hb dX11_houseAt_27 ?_
    have hP9 := hP.sub (ws' := [(xa, .inr (11, [.ref x0, .int 0, .ref x2, .int 0, .ref x4, .ref x5, .ref x6, .int x7, .ref x8, .int x9, .int x10]))]) [0] rfl
    have hD9 := hD.sub (ws' := [(xa, .inr (11, [.ref x0, .int 0, .ref x2, .int 0, .ref x4, .ref x5, .ref x6, .int x7, .ref x8, .int x9, .int x10]))]) [0] (by decide) rfl
    have hK9 := hK.sub (tys' := []) [] rfl
    exact W.aret (v := .null) hx hb hr (Or.inl ⟨_, rfl⟩) (Or.inl rfl) (fun t ht hW => ⟨⟨none, (), rfl, rfl, ⟨by rw [ht]; exact hP9, va_K.moved hW.alike hK9, hD9⟩⟩, hS.F ht⟩) hS.2.2 dX11_houseAt_28
  · refine lv_iload_n hx hb dX11_houseAt_4 rfl (lv_at hl 1 rfl) ?_
    refine lv_aload_n hx hb dX11_houseAt_5 rfl (lv_at hl 0 rfl) ?_
    refine va_get (D := D) (ci := 11) (v := .int 0) (C := RX11) (T := TX11) (N := 11) hx hb hg inG11 hown hK hP 0 rfl rfl 1 (by decide) (hg _ wd_7) (fun _ h9 => h9) rfl dX11_houseAt_6 ?_
    refine lv_icmp_ge (tgt := 27) hx hb dX11_houseAt_9 (by decide) (fun c_2 => ?_) (fun c_2 => absurd (Int32.not_lt.mp c_1) c_2)
    refine lv_null hx hb dX11_houseAt_27 ?_
    have hP9 := hP.sub (ws' := [(xa, .inr (11, [.ref x0, .int 0, .ref x2, .int 0, .ref x4, .ref x5, .ref x6, .int x7, .ref x8, .int x9, .int x10]))]) [0] rfl
    have hD9 := hD.sub (ws' := [(xa, .inr (11, [.ref x0, .int 0, .ref x2, .int 0, .ref x4, .ref x5, .ref x6, .int x7, .ref x8, .int x9, .int x10]))]) [0] (by decide) rfl
    have hK9 := hK.sub (tys' := []) [] rfl
    exact W.aret (v := .null) hx hb hr (Or.inl ⟨_, rfl⟩) (Or.inl rfl) (fun t ht hW => ⟨⟨none, (), rfl, rfl, ⟨by rw [ht]; exact hP9, va_K.moved hW.alike hK9, hD9⟩⟩, hS.F ht⟩) hS.2.2 dX11_houseAt_28
set_option maxHeartbeats 4000000 in
set_option maxRecDepth 100000 in
theorem k_letter0 (l : Launch) (D : va_G) (sz : Nat) (xa : Nat) (x0 : Nat) (x2 : Nat) (x4 : Nat) (x5 : Nat) (x6 : Nat) (x7 : Int32) (x8 : Nat) (x9 : Int32) (x10 : Int32) (k1 : Int32) (k2 : Int32) (k3 : Int32) : Met l yX11_letter (wsM yX11_letter cX11_letter 5 (some .int)) ({ frames := 2, cells := 0, slots := 0, locals := 43 }) (va_Pc [.ref xa, .int k1, .int k2, .int k3] (Pr D [(xa, .inr (11, [.ref x0, .int 0, .ref x2, .int 0, .ref x4, .ref x5, .ref x6, .int x7, .ref x8, .int x9, .int x10]))] [] sz)) (va_Qi (fun (r : Int32) (_ : Unit) => r = (-1)) (fun _ _ => True) (va_A [(xa, .inr (11, [.ref x0, .int 0, .ref x2, .int 0, .ref x4, .ref x5, .ref x6, .int x7, .ref x8, .int x9, .int x10]))] sz)) 0 0 (va_A [(xa, .inr (11, [.ref x0, .int 0, .ref x2, .int 0, .ref x4, .ref x5, .ref x6, .int x7, .ref x8, .int x9, .int x10]))] sz) := by
  refine Met.ofW (cc := cX11_letter) (maxL := 5) (ret := (some .int)) (by decide) rfl ?_
  intro p e s m args below meth c s₁ B hml hv
  obtain ⟨rfl, hsz, hP, hK, hD0, hN⟩ := hv
  have hx := B.exec
  have hb := B.bytes
  have hr := B.returns
  have hts := atoms_spec (ws := (wsM yX11_letter cX11_letter 5 (some .int))) B.pre
  have hg : ∀ w ∈ lw_good, w.before _ s = true := fun w h => hts w (List.mem_cons_of_mem _ h)
  have hown : s.vm.findClass RX11 = some m.cls := findClass_of_methodNamed B.named
  have hlocks := B.notSynchronized
  subst hsz
  have hD := hD0.self (sz := s.heap.size)
  generalize hAe : va_A [(xa, .inr (11, [.ref x0, .int 0, .ref x2, .int 0, .ref x4, .ref x5, .ref x6, .int x7, .ref x8, .int x9, .int x10]))] s.heap.size = A at hD ⊢
  have hA : ∀ q : Nat, s.heap.size ≤ q → A q := fun q h => by rw [← hAe]; exact Or.inr h
  have hS : va_S A s.heap s.heap [] := va_S.rf
  have hP : va_P D vwCl [(xa, .inr (11, [.ref x0, .int 0, .ref x2, .int 0, .ref x4, .ref x5, .ref x6, .int x7, .ref x8, .int x9, .int x10]))] s.heap := hP
  have hl := lv_entry ([.ref xa, .int k1, .int k2, .int k3]) (n := 5) (Nat.le_of_ble_eq_true rfl)
  rw [lg_entry_eq]
  generalize (lg_sl ([.ref xa, .int k1, .int k2, .int k3]) ++ List.replicate (5 - (lg_sl ([.ref xa, .int k1, .int k2, .int k3])).length) Slot.unset).toArray = ls at hl ⊢
  have hl : lv_has ls 5 [(0, .ref xa), (1, .int k1), (2, .int k2), (3, .int k3)] := hl
  refine lv_aload_n hx hb dX11_letter_0 rfl (lv_at hl 0 rfl) ?_
  refine lv_iload_n hx hb dX11_letter_1 rfl (lv_at hl 1 rfl) ?_
  have hPc := hP.sub (ws' := [(xa, .inr (11, [.ref x0, .int 0, .ref x2, .int 0, .ref x4, .ref x5, .ref x6, .int x7, .ref x8, .int x9, .int x10]))]) [0] rfl
  have hDc := hD.sub (ws' := [(xa, .inr (11, [.ref x0, .int 0, .ref x2, .int 0, .ref x4, .ref x5, .ref x6, .int x7, .ref x8, .int x9, .int x10]))]) [0] (by decide) rfl
  have hKc := hK.sub (tys' := []) [] rfl
  have hFc := va_free (wc := [(xa, .inr (11, [.ref x0, .int 0, .ref x2, .int 0, .ref x4, .ref x5, .ref x6, .int x7, .ref x8, .int x9, .int x10]))]) hD hS hA [0] rfl
  refine va_callq (va_runV (As := [.int k1]) (rest := []) ⟨hx, hb, hml, hown, hg⟩ (k_houseAt0 l D s.heap.size xa x0 x2 x4 x5 x6 x7 x8 x9 x10 k1) (cwV 1 hg (gV wd_8 wd_9 wd_10 wd_5 wd_11) rfl rfl rfl (by decide +kernel) ⟨(Nat.le_of_ble_eq_true rfl), (Nat.le_of_ble_eq_true rfl)⟩) ⟨Pr.blind, va_recv hKc hPc (ci := 11) (q0 := 0) rfl rfl, fun U hU hW => ⟨rfl, Pr.at hPc hKc hDc hN hU hW⟩⟩ rfl rfl hl.1 rfl (lv_room (Nat.le_of_ble_eq_true rfl)) dX11_letter_2 ⟨(Nat.le_of_ble_eq_true rfl), (Nat.le_of_ble_eq_true rfl)⟩) hS (fun q _ h => hFc q h) hFc (fun r_2 u t H_1 locs ht hvm hw hB hz1 hk1 hS => ?_)
  obtain ⟨hP1, hK1, hD1⟩ := hB
  rw [ht] at hP1
  have hK1 := va_K.moved hvm.symm hK1
  obtain ⟨hP, hD⟩ := va_join (wr := []) (w1 := [(xa, .inr (11, [.ref x0, .int 0, .ref x2, .int 0, .ref x4, .ref x5, .ref x6, .int x7, .ref x8, .int x9, .int x10]))]) hP hD [0] [] rfl rfl (by decide) (by decide) hk1 hFc hP1 hD1
  have hP : va_P D vwCl [(xa, .inr (11, [.ref x0, .int 0, .ref x2, .int 0, .ref x4, .ref x5, .ref x6, .int x7, .ref x8, .int x9, .int x10]))] H_1 := hP
  have hD : va_D A [(xa, .inr (11, [.ref x0, .int 0, .ref x2, .int 0, .ref x4, .ref x5, .ref x6, .int x7, .ref x8, .int x9, .int x10]))] := hD
  subst hw
  refine lv_astoreN (lv' := [(4, .null), (0, .ref xa), (1, .int k1), (2, .int k2), (3, .int k3)]) hx hb dX11_letter_5 hl (by decide) rfl (fun ls hl => ?_)
  refine lv_aloadN hx hb dX11_letter_7 (lv_at hl 0 rfl) ?_
  refine lv_ifnullN (tgt := 19) hx hb dX11_letter_9 (by decide) ?_
  refine lv_aload_n hx hb dX11_letter_19 rfl (lv_at hl 1 rfl) ?_
  refine lv_iconst (v := 1) hx hb dX11_letter_20 (by decide) ?_
  have hPc := hP.sub (ws' := [(xa, .inr (11, [.ref x0, .int 0, .ref x2, .int 0, .ref x4, .ref x5, .ref x6, .int x7, .ref x8, .int x9, .int x10]))]) [0] rfl
  have hDc := hD.sub (ws' := [(xa, .inr (11, [.ref x0, .int 0, .ref x2, .int 0, .ref x4, .ref x5, .ref x6, .int x7, .ref x8, .int x9, .int x10]))]) [0] (by decide) rfl
  have hKc := hK.sub (tys' := []) [] rfl
  have hFc := va_free (wc := [(xa, .inr (11, [.ref x0, .int 0, .ref x2, .int 0, .ref x4, .ref x5, .ref x6, .int x7, .ref x8, .int x9, .int x10]))]) hD hS hA [0] rfl
  refine va_calli (va_runV (As := [.int 1]) (rest := []) ⟨hx, hb, hml, hown, hg⟩ (k_refuse l D H_1.size xa x0 0 x2 0 x4 x5 x6 x7 x8 x9 x10 1) (cwV 1 hg (gV wd_12 wd_13 wd_14 wd_5 wd_15) rfl rfl rfl (by decide +kernel) ⟨(Nat.le_of_ble_eq_true rfl), (Nat.le_of_ble_eq_true rfl)⟩) ⟨Pr.blind, va_recv hKc hPc (ci := 11) (q0 := 0) rfl rfl, fun U hU hW => ⟨rfl, Pr.at hPc hKc hDc hN hU hW⟩⟩ rfl rfl hl.1 rfl (lv_room (Nat.le_of_ble_eq_true rfl)) dX11_letter_21 ⟨(Nat.le_of_ble_eq_true rfl), (Nat.le_of_ble_eq_true rfl)⟩) hS (fun q _ h => hFc q h) hFc (fun r_4 u t H_3 locs ht hvm hw hB hz1 hk1 hS => ?_)
  obtain ⟨hP1, hK1, hD1⟩ := hB
  rw [ht] at hP1
  have hK1 := va_K.moved hvm.symm hK1
  obtain ⟨hP, hD⟩ := va_join (wr := []) (w1 := [(xa, .inr (11, [.ref x0, .int 0, .ref x2, .int 0, .ref x4, .ref x5, .ref x6, .int x7, .ref x8, .int 1, .int (-1)]))]) hP hD [0] [] rfl rfl (by decide) (by decide) hk1 hFc hP1 hD1
  have hP : va_P D vwCl [(xa, .inr (11, [.ref x0, .int 0, .ref x2, .int 0, .ref x4, .ref x5, .ref x6, .int x7, .ref x8, .int 1, .int (-1)]))] H_3 := hP
  have hD : va_D A [(xa, .inr (11, [.ref x0, .int 0, .ref x2, .int 0, .ref x4, .ref x5, .ref x6, .int x7, .ref x8, .int 1, .int (-1)]))] := hD
  subst hw
  exact W.iret (v := (-1)) hx hb hr (fun t ht hW => ⟨⟨(-1), (), rfl, rfl, trivial⟩, hS.F ht⟩) hS.2.2 dX11_letter_24
end
