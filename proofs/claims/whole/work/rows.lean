section
-- ===== PART A: goes FIRST, ahead of the names: the tables' words, and 'selects' of the private methods out of them =====
/-- a private method of a class that the tables say can be made, by its rows of tables_1 -/
def lw_okq (q : MethodName × Nat) : Prop := (q.1.cls ≠ "java/lang/invoke/MethodHandle" ∧ q.1.cls ≠ "java/lang/invoke/VarHandle") ∧ Cond.instantiable q.1.cls q.2 ∈ tables_1 ∧ Cond.privateMethod q.1 ∈ tables_1 ∧ Cond.instanceMethod q.1 ∈ tables_1
theorem lw_p0 : lw_okq (⟨"ColdDepots$Page", "add", "(I)Z"⟩, 2) := ⟨⟨by decide +kernel, by decide +kernel⟩, List.mem_of_getElem? (i := 17) (by decide +kernel), List.mem_of_getElem? (i := 141) (by decide +kernel), List.mem_of_getElem? (i := 142) (by decide +kernel)⟩
theorem lw_p1 : lw_okq (⟨"ColdDepots$Page", "firstWrong", "()I"⟩, 2) := ⟨⟨by decide +kernel, by decide +kernel⟩, List.mem_of_getElem? (i := 17) (by decide +kernel), List.mem_of_getElem? (i := 156) (by decide +kernel), List.mem_of_getElem? (i := 157) (by decide +kernel)⟩
theorem lw_p2 : lw_okq (⟨"ColdDepots$Page", "codeAt", "(I)I"⟩, 2) := ⟨⟨by decide +kernel, by decide +kernel⟩, List.mem_of_getElem? (i := 17) (by decide +kernel), List.mem_of_getElem? (i := 160) (by decide +kernel), List.mem_of_getElem? (i := 161) (by decide +kernel)⟩
theorem lw_p3 : lw_okq (⟨"ColdDepots$Page", "isCamp", "()Z"⟩, 2) := ⟨⟨by decide +kernel, by decide +kernel⟩, List.mem_of_getElem? (i := 17) (by decide +kernel), List.mem_of_getElem? (i := 174) (by decide +kernel), List.mem_of_getElem? (i := 175) (by decide +kernel)⟩
theorem lw_p4 : lw_okq (⟨"ColdDepots$Party", "all", "()I"⟩, 8) := ⟨⟨by decide +kernel, by decide +kernel⟩, List.mem_of_getElem? (i := 32) (by decide +kernel), List.mem_of_getElem? (i := 182) (by decide +kernel), List.mem_of_getElem? (i := 183) (by decide +kernel)⟩
theorem lw_p5 : lw_okq (⟨"ColdDepots$Standing", "begin", "(I)V"⟩, 9) := ⟨⟨by decide +kernel, by decide +kernel⟩, List.mem_of_getElem? (i := 69) (by decide +kernel), List.mem_of_getElem? (i := 186) (by decide +kernel), List.mem_of_getElem? (i := 187) (by decide +kernel)⟩
theorem lw_p6 : lw_okq (⟨"ColdDepots", "isNoCairn", "(I)Z"⟩, 8) := ⟨⟨by decide +kernel, by decide +kernel⟩, List.mem_of_getElem? (i := 9) (by decide +kernel), List.mem_of_getElem? (i := 212) (by decide +kernel), List.mem_of_getElem? (i := 213) (by decide +kernel)⟩
theorem lw_p7 : lw_okq (⟨"ColdDepots", "amountsAt", "(I)I"⟩, 8) := ⟨⟨by decide +kernel, by decide +kernel⟩, List.mem_of_getElem? (i := 9) (by decide +kernel), List.mem_of_getElem? (i := 216) (by decide +kernel), List.mem_of_getElem? (i := 217) (by decide +kernel)⟩
theorem lw_p8 : lw_okq (⟨"ColdDepots", "isAllSo", "(II)Z"⟩, 8) := ⟨⟨by decide +kernel, by decide +kernel⟩, List.mem_of_getElem? (i := 9) (by decide +kernel), List.mem_of_getElem? (i := 220) (by decide +kernel), List.mem_of_getElem? (i := 221) (by decide +kernel)⟩
theorem lw_p9 : lw_okq (⟨"ColdDepots$Party", "setCairns", "([I)V"⟩, 8) := ⟨⟨by decide +kernel, by decide +kernel⟩, List.mem_of_getElem? (i := 32) (by decide +kernel), List.mem_of_getElem? (i := 224) (by decide +kernel), List.mem_of_getElem? (i := 225) (by decide +kernel)⟩
theorem lw_p10 : lw_okq (⟨"ColdDepots$Party", "go", "(III)Z"⟩, 8) := ⟨⟨by decide +kernel, by decide +kernel⟩, List.mem_of_getElem? (i := 32) (by decide +kernel), List.mem_of_getElem? (i := 231) (by decide +kernel), List.mem_of_getElem? (i := 232) (by decide +kernel)⟩
theorem lw_p11 : lw_okq (⟨"ColdDepots$Party", "setOut", "(II)V"⟩, 8) := ⟨⟨by decide +kernel, by decide +kernel⟩, List.mem_of_getElem? (i := 32) (by decide +kernel), List.mem_of_getElem? (i := 235) (by decide +kernel), List.mem_of_getElem? (i := 236) (by decide +kernel)⟩
theorem lw_p12 : lw_okq (⟨"ColdDepots$Party", "together", "(I[I)I"⟩, 8) := ⟨⟨by decide +kernel, by decide +kernel⟩, List.mem_of_getElem? (i := 32) (by decide +kernel), List.mem_of_getElem? (i := 240) (by decide +kernel), List.mem_of_getElem? (i := 241) (by decide +kernel)⟩
theorem lw_p13 : lw_okq (⟨"ColdDepots$Party", "eatPonies", "()V"⟩, 8) := ⟨⟨by decide +kernel, by decide +kernel⟩, List.mem_of_getElem? (i := 32) (by decide +kernel), List.mem_of_getElem? (i := 249) (by decide +kernel), List.mem_of_getElem? (i := 250) (by decide +kernel)⟩
theorem lw_p14 : lw_okq (⟨"ColdDepots$Party", "devour", "(I)V"⟩, 8) := ⟨⟨by decide +kernel, by decide +kernel⟩, List.mem_of_getElem? (i := 32) (by decide +kernel), List.mem_of_getElem? (i := 253) (by decide +kernel), List.mem_of_getElem? (i := 254) (by decide +kernel)⟩
theorem lw_p15 : lw_okq (⟨"ColdDepots$Party", "eatBeasts", "()V"⟩, 8) := ⟨⟨by decide +kernel, by decide +kernel⟩, List.mem_of_getElem? (i := 32) (by decide +kernel), List.mem_of_getElem? (i := 258) (by decide +kernel), List.mem_of_getElem? (i := 259) (by decide +kernel)⟩
def lw_privs_1 : List (MethodName × Nat) := [(⟨"ColdDepots$Page", "add", "(I)Z"⟩, 2), (⟨"ColdDepots$Page", "firstWrong", "()I"⟩, 2), (⟨"ColdDepots$Page", "codeAt", "(I)I"⟩, 2), (⟨"ColdDepots$Page", "isCamp", "()Z"⟩, 2), (⟨"ColdDepots$Party", "all", "()I"⟩, 8), (⟨"ColdDepots$Standing", "begin", "(I)V"⟩, 9), (⟨"ColdDepots", "isNoCairn", "(I)Z"⟩, 8), (⟨"ColdDepots", "amountsAt", "(I)I"⟩, 8), (⟨"ColdDepots", "isAllSo", "(II)Z"⟩, 8), (⟨"ColdDepots$Party", "setCairns", "([I)V"⟩, 8), (⟨"ColdDepots$Party", "go", "(III)Z"⟩, 8), (⟨"ColdDepots$Party", "setOut", "(II)V"⟩, 8), (⟨"ColdDepots$Party", "together", "(I[I)I"⟩, 8), (⟨"ColdDepots$Party", "eatPonies", "()V"⟩, 8), (⟨"ColdDepots$Party", "devour", "(I)V"⟩, 8), (⟨"ColdDepots$Party", "eatBeasts", "()V"⟩, 8)]
theorem lw_r1 : ∀ q ∈ lw_privs_1, lw_okq q := List.forall_mem_cons.mpr ⟨lw_p0, List.forall_mem_cons.mpr ⟨lw_p1, List.forall_mem_cons.mpr ⟨lw_p2, List.forall_mem_cons.mpr ⟨lw_p3, List.forall_mem_cons.mpr ⟨lw_p4, List.forall_mem_cons.mpr ⟨lw_p5, List.forall_mem_cons.mpr ⟨lw_p6, List.forall_mem_cons.mpr ⟨lw_p7, List.forall_mem_cons.mpr ⟨lw_p8, List.forall_mem_cons.mpr ⟨lw_p9, List.forall_mem_cons.mpr ⟨lw_p10, List.forall_mem_cons.mpr ⟨lw_p11, List.forall_mem_cons.mpr ⟨lw_p12, List.forall_mem_cons.mpr ⟨lw_p13, List.forall_mem_cons.mpr ⟨lw_p14, List.forall_mem_cons.mpr ⟨lw_p15, fun _ h => absurd h List.not_mem_nil⟩⟩⟩⟩⟩⟩⟩⟩⟩⟩⟩⟩⟩⟩⟩⟩
theorem lw_p16 : lw_okq (⟨"ColdDepots$Party", "dieOn", "(I)V"⟩, 8) := ⟨⟨by decide +kernel, by decide +kernel⟩, List.mem_of_getElem? (i := 32) (by decide +kernel), List.mem_of_getElem? (i := 263) (by decide +kernel), List.mem_of_getElem? (i := 264) (by decide +kernel)⟩
theorem lw_p17 : lw_okq (⟨"ColdDepots$Party", "takeUpAt", "(I)V"⟩, 8) := ⟨⟨by decide +kernel, by decide +kernel⟩, List.mem_of_getElem? (i := 32) (by decide +kernel), List.mem_of_getElem? (i := 267) (by decide +kernel), List.mem_of_getElem? (i := 268) (by decide +kernel)⟩
theorem lw_p18 : lw_okq (⟨"ColdDepots", "bestTrial", "(II)I"⟩, 8) := ⟨⟨by decide +kernel, by decide +kernel⟩, List.mem_of_getElem? (i := 9) (by decide +kernel), List.mem_of_getElem? (i := 272) (by decide +kernel), List.mem_of_getElem? (i := 273) (by decide +kernel)⟩
theorem lw_p19 : lw_okq (⟨"ColdDepots", "mostFoodOf", "(I)I"⟩, 8) := ⟨⟨by decide +kernel, by decide +kernel⟩, List.mem_of_getElem? (i := 9) (by decide +kernel), List.mem_of_getElem? (i := 282) (by decide +kernel), List.mem_of_getElem? (i := 283) (by decide +kernel)⟩
theorem lw_p20 : lw_okq (⟨"ColdDepots", "leftAtWorst", "(III)I"⟩, 8) := ⟨⟨by decide +kernel, by decide +kernel⟩, List.mem_of_getElem? (i := 9) (by decide +kernel), List.mem_of_getElem? (i := 288) (by decide +kernel), List.mem_of_getElem? (i := 289) (by decide +kernel)⟩
theorem lw_p21 : lw_okq (⟨"ColdDepots", "isNoMarch", "(III)Z"⟩, 8) := ⟨⟨by decide +kernel, by decide +kernel⟩, List.mem_of_getElem? (i := 9) (by decide +kernel), List.mem_of_getElem? (i := 303) (by decide +kernel), List.mem_of_getElem? (i := 304) (by decide +kernel)⟩
theorem lw_p22 : lw_okq (⟨"ColdDepots", "isNobody", "(I)Z"⟩, 8) := ⟨⟨by decide +kernel, by decide +kernel⟩, List.mem_of_getElem? (i := 9) (by decide +kernel), List.mem_of_getElem? (i := 307) (by decide +kernel), List.mem_of_getElem? (i := 308) (by decide +kernel)⟩
theorem lw_p23 : lw_okq (⟨"ColdDepots", "anyIsDead", "(I)Z"⟩, 8) := ⟨⟨by decide +kernel, by decide +kernel⟩, List.mem_of_getElem? (i := 9) (by decide +kernel), List.mem_of_getElem? (i := 314) (by decide +kernel), List.mem_of_getElem? (i := 315) (by decide +kernel)⟩
theorem lw_p24 : lw_okq (⟨"ColdDepots", "leastFood", "(II[I)I"⟩, 8) := ⟨⟨by decide +kernel, by decide +kernel⟩, List.mem_of_getElem? (i := 9) (by decide +kernel), List.mem_of_getElem? (i := 330) (by decide +kernel), List.mem_of_getElem? (i := 331) (by decide +kernel)⟩
theorem lw_p25 : lw_okq (⟨"ColdDepots", "farthest", "(I[I)I"⟩, 8) := ⟨⟨by decide +kernel, by decide +kernel⟩, List.mem_of_getElem? (i := 9) (by decide +kernel), List.mem_of_getElem? (i := 338) (by decide +kernel), List.mem_of_getElem? (i := 339) (by decide +kernel)⟩
theorem lw_p26 : lw_okq (⟨"ColdDepots", "fewest", "(I)I"⟩, 8) := ⟨⟨by decide +kernel, by decide +kernel⟩, List.mem_of_getElem? (i := 9) (by decide +kernel), List.mem_of_getElem? (i := 346) (by decide +kernel), List.mem_of_getElem? (i := 347) (by decide +kernel)⟩
theorem lw_p27 : lw_okq (⟨"ColdDepots$Standing", "note", "(IIIZ)V"⟩, 9) := ⟨⟨by decide +kernel, by decide +kernel⟩, List.mem_of_getElem? (i := 69) (by decide +kernel), List.mem_of_getElem? (i := 354) (by decide +kernel), List.mem_of_getElem? (i := 355) (by decide +kernel)⟩
theorem lw_p28 : lw_okq (⟨"ColdDepots", "letCreep", "(II)I"⟩, 8) := ⟨⟨by decide +kernel, by decide +kernel⟩, List.mem_of_getElem? (i := 9) (by decide +kernel), List.mem_of_getElem? (i := 367) (by decide +kernel), List.mem_of_getElem? (i := 368) (by decide +kernel)⟩
theorem lw_p29 : lw_okq (⟨"ColdDepots$Standing", "takeFrom", "(LColdDepots$Standing;)V"⟩, 9) := ⟨⟨by decide +kernel, by decide +kernel⟩, List.mem_of_getElem? (i := 69) (by decide +kernel), List.mem_of_getElem? (i := 380) (by decide +kernel), List.mem_of_getElem? (i := 381) (by decide +kernel)⟩
theorem lw_p30 : lw_okq (⟨"ColdDepotsModel", "faultOf", "()I"⟩, 28) := ⟨⟨by decide +kernel, by decide +kernel⟩, List.mem_of_getElem? (i := 402) (by decide +kernel), List.mem_of_getElem? (i := 509) (by decide +kernel), List.mem_of_getElem? (i := 510) (by decide +kernel)⟩
theorem lw_p31 : lw_okq (⟨"ColdDepotsModel", "isGood", "(I)Z"⟩, 28) := ⟨⟨by decide +kernel, by decide +kernel⟩, List.mem_of_getElem? (i := 402) (by decide +kernel), List.mem_of_getElem? (i := 513) (by decide +kernel), List.mem_of_getElem? (i := 514) (by decide +kernel)⟩
def lw_privs_2 : List (MethodName × Nat) := [(⟨"ColdDepots$Party", "dieOn", "(I)V"⟩, 8), (⟨"ColdDepots$Party", "takeUpAt", "(I)V"⟩, 8), (⟨"ColdDepots", "bestTrial", "(II)I"⟩, 8), (⟨"ColdDepots", "mostFoodOf", "(I)I"⟩, 8), (⟨"ColdDepots", "leftAtWorst", "(III)I"⟩, 8), (⟨"ColdDepots", "isNoMarch", "(III)Z"⟩, 8), (⟨"ColdDepots", "isNobody", "(I)Z"⟩, 8), (⟨"ColdDepots", "anyIsDead", "(I)Z"⟩, 8), (⟨"ColdDepots", "leastFood", "(II[I)I"⟩, 8), (⟨"ColdDepots", "farthest", "(I[I)I"⟩, 8), (⟨"ColdDepots", "fewest", "(I)I"⟩, 8), (⟨"ColdDepots$Standing", "note", "(IIIZ)V"⟩, 9), (⟨"ColdDepots", "letCreep", "(II)I"⟩, 8), (⟨"ColdDepots$Standing", "takeFrom", "(LColdDepots$Standing;)V"⟩, 9), (⟨"ColdDepotsModel", "faultOf", "()I"⟩, 28), (⟨"ColdDepotsModel", "isGood", "(I)Z"⟩, 28)]
theorem lw_r2 : ∀ q ∈ lw_privs_2, lw_okq q := List.forall_mem_cons.mpr ⟨lw_p16, List.forall_mem_cons.mpr ⟨lw_p17, List.forall_mem_cons.mpr ⟨lw_p18, List.forall_mem_cons.mpr ⟨lw_p19, List.forall_mem_cons.mpr ⟨lw_p20, List.forall_mem_cons.mpr ⟨lw_p21, List.forall_mem_cons.mpr ⟨lw_p22, List.forall_mem_cons.mpr ⟨lw_p23, List.forall_mem_cons.mpr ⟨lw_p24, List.forall_mem_cons.mpr ⟨lw_p25, List.forall_mem_cons.mpr ⟨lw_p26, List.forall_mem_cons.mpr ⟨lw_p27, List.forall_mem_cons.mpr ⟨lw_p28, List.forall_mem_cons.mpr ⟨lw_p29, List.forall_mem_cons.mpr ⟨lw_p30, List.forall_mem_cons.mpr ⟨lw_p31, fun _ h => absurd h List.not_mem_nil⟩⟩⟩⟩⟩⟩⟩⟩⟩⟩⟩⟩⟩⟩⟩⟩
theorem lw_p32 : lw_okq (⟨"ColdDepotsModel", "isMember", "(I)Z"⟩, 28) := ⟨⟨by decide +kernel, by decide +kernel⟩, List.mem_of_getElem? (i := 402) (by decide +kernel), List.mem_of_getElem? (i := 530) (by decide +kernel), List.mem_of_getElem? (i := 531) (by decide +kernel)⟩
theorem lw_p33 : lw_okq (⟨"ColdDepotsModel", "tellMember", "(II)I"⟩, 28) := ⟨⟨by decide +kernel, by decide +kernel⟩, List.mem_of_getElem? (i := 402) (by decide +kernel), List.mem_of_getElem? (i := 534) (by decide +kernel), List.mem_of_getElem? (i := 535) (by decide +kernel)⟩
theorem lw_p34 : lw_okq (⟨"ColdDepotsModel", "pullsOf", "(I)I"⟩, 28) := ⟨⟨by decide +kernel, by decide +kernel⟩, List.mem_of_getElem? (i := 402) (by decide +kernel), List.mem_of_getElem? (i := 538) (by decide +kernel), List.mem_of_getElem? (i := 539) (by decide +kernel)⟩
theorem lw_p35 : lw_okq (⟨"ColdDepotsModel", "eatsOf", "(I)I"⟩, 28) := ⟨⟨by decide +kernel, by decide +kernel⟩, List.mem_of_getElem? (i := 402) (by decide +kernel), List.mem_of_getElem? (i := 542) (by decide +kernel), List.mem_of_getElem? (i := 543) (by decide +kernel)⟩
theorem lw_p36 : lw_okq (⟨"ColdDepotsModel", "feedsOf", "(I)I"⟩, 28) := ⟨⟨by decide +kernel, by decide +kernel⟩, List.mem_of_getElem? (i := 402) (by decide +kernel), List.mem_of_getElem? (i := 546) (by decide +kernel), List.mem_of_getElem? (i := 547) (by decide +kernel)⟩
theorem lw_p37 : lw_okq (⟨"ColdDepotsModel", "isCairn", "(I)Z"⟩, 28) := ⟨⟨by decide +kernel, by decide +kernel⟩, List.mem_of_getElem? (i := 402) (by decide +kernel), List.mem_of_getElem? (i := 559) (by decide +kernel), List.mem_of_getElem? (i := 560) (by decide +kernel)⟩
theorem lw_p38 : lw_okq (⟨"ColdDepotsModel", "lacks", "()Z"⟩, 28) := ⟨⟨by decide +kernel, by decide +kernel⟩, List.mem_of_getElem? (i := 402) (by decide +kernel), List.mem_of_getElem? (i := 563) (by decide +kernel), List.mem_of_getElem? (i := 564) (by decide +kernel)⟩
theorem lw_p39 : lw_okq (⟨"ColdDepotsModel", "tellCairn", "(II)I"⟩, 28) := ⟨⟨by decide +kernel, by decide +kernel⟩, List.mem_of_getElem? (i := 402) (by decide +kernel), List.mem_of_getElem? (i := 568) (by decide +kernel), List.mem_of_getElem? (i := 569) (by decide +kernel)⟩
theorem lw_p40 : lw_okq (⟨"ColdDepotsModel", "layOf", "(I)I"⟩, 28) := ⟨⟨by decide +kernel, by decide +kernel⟩, List.mem_of_getElem? (i := 402) (by decide +kernel), List.mem_of_getElem? (i := 572) (by decide +kernel), List.mem_of_getElem? (i := 573) (by decide +kernel)⟩
theorem lw_p41 : lw_okq (⟨"ColdDepotsModel", "comesHome", "(III[I)Z"⟩, 28) := ⟨⟨by decide +kernel, by decide +kernel⟩, List.mem_of_getElem? (i := 402) (by decide +kernel), List.mem_of_getElem? (i := 579) (by decide +kernel), List.mem_of_getElem? (i := 580) (by decide +kernel)⟩
theorem lw_p42 : lw_okq (⟨"ColdDepotsModel", "goMarch", "(III[I)V"⟩, 28) := ⟨⟨by decide +kernel, by decide +kernel⟩, List.mem_of_getElem? (i := 402) (by decide +kernel), List.mem_of_getElem? (i := 583) (by decide +kernel), List.mem_of_getElem? (i := 584) (by decide +kernel)⟩
theorem lw_p43 : lw_okq (⟨"ColdDepotsModel", "keepPulled", "()V"⟩, 28) := ⟨⟨by decide +kernel, by decide +kernel⟩, List.mem_of_getElem? (i := 402) (by decide +kernel), List.mem_of_getElem? (i := 587) (by decide +kernel), List.mem_of_getElem? (i := 588) (by decide +kernel)⟩
theorem lw_p44 : lw_okq (⟨"ColdDepotsModel", "pullOf", "(I)I"⟩, 28) := ⟨⟨by decide +kernel, by decide +kernel⟩, List.mem_of_getElem? (i := 402) (by decide +kernel), List.mem_of_getElem? (i := 591) (by decide +kernel), List.mem_of_getElem? (i := 592) (by decide +kernel)⟩
theorem lw_p45 : lw_okq (⟨"ColdDepotsModel", "goStage", "(IZ)Z"⟩, 28) := ⟨⟨by decide +kernel, by decide +kernel⟩, List.mem_of_getElem? (i := 402) (by decide +kernel), List.mem_of_getElem? (i := 595) (by decide +kernel), List.mem_of_getElem? (i := 596) (by decide +kernel)⟩
theorem lw_p46 : lw_okq (⟨"ColdDepotsModel", "lastOf", "(IZ)I"⟩, 28) := ⟨⟨by decide +kernel, by decide +kernel⟩, List.mem_of_getElem? (i := 402) (by decide +kernel), List.mem_of_getElem? (i := 599) (by decide +kernel), List.mem_of_getElem? (i := 600) (by decide +kernel)⟩
theorem lw_p47 : lw_okq (⟨"ColdDepotsModel", "eatBeast", "(I)V"⟩, 28) := ⟨⟨by decide +kernel, by decide +kernel⟩, List.mem_of_getElem? (i := 402) (by decide +kernel), List.mem_of_getElem? (i := 603) (by decide +kernel), List.mem_of_getElem? (i := 604) (by decide +kernel)⟩
def lw_privs_3 : List (MethodName × Nat) := [(⟨"ColdDepotsModel", "isMember", "(I)Z"⟩, 28), (⟨"ColdDepotsModel", "tellMember", "(II)I"⟩, 28), (⟨"ColdDepotsModel", "pullsOf", "(I)I"⟩, 28), (⟨"ColdDepotsModel", "eatsOf", "(I)I"⟩, 28), (⟨"ColdDepotsModel", "feedsOf", "(I)I"⟩, 28), (⟨"ColdDepotsModel", "isCairn", "(I)Z"⟩, 28), (⟨"ColdDepotsModel", "lacks", "()Z"⟩, 28), (⟨"ColdDepotsModel", "tellCairn", "(II)I"⟩, 28), (⟨"ColdDepotsModel", "layOf", "(I)I"⟩, 28), (⟨"ColdDepotsModel", "comesHome", "(III[I)Z"⟩, 28), (⟨"ColdDepotsModel", "goMarch", "(III[I)V"⟩, 28), (⟨"ColdDepotsModel", "keepPulled", "()V"⟩, 28), (⟨"ColdDepotsModel", "pullOf", "(I)I"⟩, 28), (⟨"ColdDepotsModel", "goStage", "(IZ)Z"⟩, 28), (⟨"ColdDepotsModel", "lastOf", "(IZ)I"⟩, 28), (⟨"ColdDepotsModel", "eatBeast", "(I)V"⟩, 28)]
theorem lw_r3 : ∀ q ∈ lw_privs_3, lw_okq q := List.forall_mem_cons.mpr ⟨lw_p32, List.forall_mem_cons.mpr ⟨lw_p33, List.forall_mem_cons.mpr ⟨lw_p34, List.forall_mem_cons.mpr ⟨lw_p35, List.forall_mem_cons.mpr ⟨lw_p36, List.forall_mem_cons.mpr ⟨lw_p37, List.forall_mem_cons.mpr ⟨lw_p38, List.forall_mem_cons.mpr ⟨lw_p39, List.forall_mem_cons.mpr ⟨lw_p40, List.forall_mem_cons.mpr ⟨lw_p41, List.forall_mem_cons.mpr ⟨lw_p42, List.forall_mem_cons.mpr ⟨lw_p43, List.forall_mem_cons.mpr ⟨lw_p44, List.forall_mem_cons.mpr ⟨lw_p45, List.forall_mem_cons.mpr ⟨lw_p46, List.forall_mem_cons.mpr ⟨lw_p47, fun _ h => absurd h List.not_mem_nil⟩⟩⟩⟩⟩⟩⟩⟩⟩⟩⟩⟩⟩⟩⟩⟩
theorem lw_p48 : lw_okq (⟨"ColdDepotsModel", "eatOf", "(I)I"⟩, 28) := ⟨⟨by decide +kernel, by decide +kernel⟩, List.mem_of_getElem? (i := 402) (by decide +kernel), List.mem_of_getElem? (i := 607) (by decide +kernel), List.mem_of_getElem? (i := 608) (by decide +kernel)⟩
theorem lw_p49 : lw_okq (⟨"ColdDepotsModel", "tryOf", "(I)I"⟩, 28) := ⟨⟨by decide +kernel, by decide +kernel⟩, List.mem_of_getElem? (i := 402) (by decide +kernel), List.mem_of_getElem? (i := 611) (by decide +kernel), List.mem_of_getElem? (i := 612) (by decide +kernel)⟩
theorem lw_p50 : lw_okq (⟨"ColdDepotsModel", "isMarch", "(III)Z"⟩, 28) := ⟨⟨by decide +kernel, by decide +kernel⟩, List.mem_of_getElem? (i := 402) (by decide +kernel), List.mem_of_getElem? (i := 624) (by decide +kernel), List.mem_of_getElem? (i := 625) (by decide +kernel)⟩
theorem lw_p51 : lw_okq (⟨"ColdDepotsModel", "areMembers", "(I)Z"⟩, 28) := ⟨⟨by decide +kernel, by decide +kernel⟩, List.mem_of_getElem? (i := 402) (by decide +kernel), List.mem_of_getElem? (i := 628) (by decide +kernel), List.mem_of_getElem? (i := 629) (by decide +kernel)⟩
theorem lw_p52 : lw_okq (⟨"ColdDepotsModel", "wouldOf", "(IIII)I"⟩, 28) := ⟨⟨by decide +kernel, by decide +kernel⟩, List.mem_of_getElem? (i := 402) (by decide +kernel), List.mem_of_getElem? (i := 639) (by decide +kernel), List.mem_of_getElem? (i := 640) (by decide +kernel)⟩
theorem lw_p53 : lw_okq (⟨"ColdDepotsModel", "needOf", "(II[I)I"⟩, 28) := ⟨⟨by decide +kernel, by decide +kernel⟩, List.mem_of_getElem? (i := 402) (by decide +kernel), List.mem_of_getElem? (i := 650) (by decide +kernel), List.mem_of_getElem? (i := 651) (by decide +kernel)⟩
theorem lw_p54 : lw_okq (⟨"ColdDepotsModel", "farOf", "(I[I)I"⟩, 28) := ⟨⟨by decide +kernel, by decide +kernel⟩, List.mem_of_getElem? (i := 402) (by decide +kernel), List.mem_of_getElem? (i := 658) (by decide +kernel), List.mem_of_getElem? (i := 659) (by decide +kernel)⟩
theorem lw_p55 : lw_okq (⟨"ColdDepotsModel", "teamOf", "(I)I"⟩, 28) := ⟨⟨by decide +kernel, by decide +kernel⟩, List.mem_of_getElem? (i := 402) (by decide +kernel), List.mem_of_getElem? (i := 666) (by decide +kernel), List.mem_of_getElem? (i := 667) (by decide +kernel)⟩
theorem lw_p56 : lw_okq (⟨"ColdDepotsModel", "draw", "(I)I"⟩, 28) := ⟨⟨by decide +kernel, by decide +kernel⟩, List.mem_of_getElem? (i := 402) (by decide +kernel), List.mem_of_getElem? (i := 687) (by decide +kernel), List.mem_of_getElem? (i := 688) (by decide +kernel)⟩
theorem lw_p57 : lw_okq (⟨"ColdDepotsModel", "countOf", "(I)I"⟩, 28) := ⟨⟨by decide +kernel, by decide +kernel⟩, List.mem_of_getElem? (i := 402) (by decide +kernel), List.mem_of_getElem? (i := 707) (by decide +kernel), List.mem_of_getElem? (i := 708) (by decide +kernel)⟩
theorem lw_p58 : lw_okq (⟨"ColdDepotsModel", "say", "(J)V"⟩, 28) := ⟨⟨by decide +kernel, by decide +kernel⟩, List.mem_of_getElem? (i := 402) (by decide +kernel), List.mem_of_getElem? (i := 716) (by decide +kernel), List.mem_of_getElem? (i := 717) (by decide +kernel)⟩
def lw_privs_4 : List (MethodName × Nat) := [(⟨"ColdDepotsModel", "eatOf", "(I)I"⟩, 28), (⟨"ColdDepotsModel", "tryOf", "(I)I"⟩, 28), (⟨"ColdDepotsModel", "isMarch", "(III)Z"⟩, 28), (⟨"ColdDepotsModel", "areMembers", "(I)Z"⟩, 28), (⟨"ColdDepotsModel", "wouldOf", "(IIII)I"⟩, 28), (⟨"ColdDepotsModel", "needOf", "(II[I)I"⟩, 28), (⟨"ColdDepotsModel", "farOf", "(I[I)I"⟩, 28), (⟨"ColdDepotsModel", "teamOf", "(I)I"⟩, 28), (⟨"ColdDepotsModel", "draw", "(I)I"⟩, 28), (⟨"ColdDepotsModel", "countOf", "(I)I"⟩, 28), (⟨"ColdDepotsModel", "say", "(J)V"⟩, 28)]
theorem lw_r4 : ∀ q ∈ lw_privs_4, lw_okq q := List.forall_mem_cons.mpr ⟨lw_p48, List.forall_mem_cons.mpr ⟨lw_p49, List.forall_mem_cons.mpr ⟨lw_p50, List.forall_mem_cons.mpr ⟨lw_p51, List.forall_mem_cons.mpr ⟨lw_p52, List.forall_mem_cons.mpr ⟨lw_p53, List.forall_mem_cons.mpr ⟨lw_p54, List.forall_mem_cons.mpr ⟨lw_p55, List.forall_mem_cons.mpr ⟨lw_p56, List.forall_mem_cons.mpr ⟨lw_p57, List.forall_mem_cons.mpr ⟨lw_p58, fun _ h => absurd h List.not_mem_nil⟩⟩⟩⟩⟩⟩⟩⟩⟩⟩⟩
def lw_privs : List (MethodName × Nat) := lw_privs_1 ++ (lw_privs_2 ++ (lw_privs_3 ++ (lw_privs_4)))
def lw_tbl : List Cond := k2_sels lw_privs ++ tables_1
theorem lw_privs_ok : ∀ q ∈ lw_privs, lw_okq q := by
  show ∀ q ∈ lw_privs_1 ++ (lw_privs_2 ++ (lw_privs_3 ++ (lw_privs_4))), lw_okq q
  exact List.forall_mem_append.mpr ⟨lw_r1, List.forall_mem_append.mpr ⟨lw_r2, List.forall_mem_append.mpr ⟨lw_r3, lw_r4⟩⟩⟩
-- ===== end of PART A; then your names; then what follows =====
/-! THE CLAIM OUT OF ONE WALK OF THE LAW'S BODY. Your part is whole_start (and what it stands on); all else here is the same for every law, but numbers. -/
def R_law : String := "ColdDepotsLaw"
def lw_P (b : Addr) (xs : List Int32) (args : Array Value) (s : State) : Prop := args = #[.ref b] ∧ s.IntsAt b xs ∧ xs.length ≤ 2560 ∧ (Jvm.Cond.and given_1 narrow_1).before args s = true
def lw_Q (_ : Array Value) (s : State) (o : Outcome) (t : State) : Prop := o = .returned (some (.int 1)) ∧ Framed s o t [] 29 257
def lw_Z (below : List Frame) (a : Array Value) (s : State) : State → Prop := fun t => ∃ o, t.status = .running ∧ Ended t below o ∧ lw_Q a s o t
/-- the law's own end, with 1 on the stack, nothing written that was there before, its room as the claim has it -/
theorem lw_ret {p : Program} {l : Launch} {e : Env} {s : State} {m : MethodId} {below : List Frame} {meth : Method} {c : Code} {b : Nat} (hx : p.tables.exec = Jvm.exec) (hb : c.code = code) (hr : meth.sig.returnType = ret) (hlocks : meth.locks = false) {pc : Nat} {H : Heap} {ls : Array Slot} (hdg : decode code pc = .ok (.ireturn, 1)) : W p l e room_1 s m #[Value.ref b] below meth c H [] 29 257 (lw_Z below #[Value.ref b] s) (F0 m pc ls [.int 1]) := by
  intro T hT X
  obtain ⟨fs, hret, hrun, hended, hW, hframe⟩ := X.leave (v := some (.int 1)) (hlocks := hlocks) (fun h => by rw [hr] at h; cases h)
  have hmeth' : T.vm.method? m = some meth := X.method'
  refine ⟨T.setFrames fs, ?_, .returned (some (.int 1)), hrun, hended, rfl, ⟨_, rfl⟩, hW, hframe⟩
  jvm_step X.here [X.here.top, hx, hb, hdg, hmeth', hr, ret, narrow_b1]
  (try refine ⟨rfl, ?_⟩); (try refine ⟨rfl, ?_⟩)
  first | (intro acts; rw [hret _ acts rfl rfl rfl]) | rw [hret _ _ rfl rfl rfl]
  exact Steps.refl _
/-- what holds at the law's entry: the machine, the code, the tables' words (any of lw_tbl by 'hts w (by decide +kernel)'), the script of L ints xs at the cell b, what the Statement gives of the start (any of its parts by flat_of_before) -/
def lw_At (p : Program) (s : State) (m : MethodId) (meth : Method) (c : Code) (b L : Nat) (xs : Nat → Int32) : Prop :=
  p.tables.exec = Jvm.exec ∧ c.code = code ∧ meth.sig.returnType = ret ∧ c.maxLocals = 4 ∧ s.vm.findClass R_law = some m.cls ∧ (∀ w ∈ lw_tbl, w.before #[Value.ref b] s = true) ∧ va_X b L xs s s.heap ∧ b < s.heap.size ∧ meth.locks = false ∧ (Jvm.Cond.and given_1 narrow_1).before #[Value.ref b] s = true
end
section
def RX0 : String := "ColdDepots$Page"
def TX0 : u_T := fun k => match k with
  | 0 => ("ColdDepots$Page", "codes", "[I", true)
  | _ => ("ColdDepots$Page", "length", "I", false)
def tyX0 : Nat → FieldType := fun k => match k with
  | 0 => .array .int
  | _ => .int
theorem nmX0 : ∀ a, a < 2 → ∀ b, b < 2 → a ≠ b → (TX0 a).2.1 ≠ (TX0 b).2.1 := by decide +kernel
theorem tyX0_ok : ∀ k, k < 2 → parseFieldDescriptor (TX0 k).2.2.1 = some (tyX0 k) := by decide +kernel
abbrev cX0_init : ByteArray := prog_2_method_1_code
def yX0_init : MethodName := ⟨RX0, "<init>", "()V"⟩
abbrev cX0_add : ByteArray := prog_2_method_2_code
def yX0_add : MethodName := ⟨RX0, "add", "(I)Z"⟩
abbrev cX0_codeAt : ByteArray := prog_2_method_3_code
def yX0_codeAt : MethodName := ⟨RX0, "codeAt", "(I)I"⟩
abbrev cX0_firstWrong : ByteArray := prog_2_method_4_code
def yX0_firstWrong : MethodName := ⟨RX0, "firstWrong", "()I"⟩
abbrev cX0_isCamp : ByteArray := prog_2_method_5_code
def yX0_isCamp : MethodName := ⟨RX0, "isCamp", "()Z"⟩
def RX1 : String := "ColdDepots$Party"
def TX1 : u_T := fun k => match k with
  | 0 => ("ColdDepots$Party", "kinds", "[I", true)
  | 1 => ("ColdDepots$Party", "size", "I", false)
  | 2 => ("ColdDepots$Party", "cairns", "[I", true)
  | 3 => ("ColdDepots$Party", "alive", "I", false)
  | 4 => ("ColdDepots$Party", "food", "I", false)
  | 5 => ("ColdDepots$Party", "pull", "I", false)
  | 6 => ("ColdDepots$Party", "eat", "I", false)
  | _ => ("ColdDepots$Party", "diedOn", "I", false)
def tyX1 : Nat → FieldType := fun k => match k with
  | 0 => .array .int
  | 1 => .int
  | 2 => .array .int
  | 3 => .int
  | 4 => .int
  | 5 => .int
  | 6 => .int
  | _ => .int
theorem nmX1 : ∀ a, a < 8 → ∀ b, b < 8 → a ≠ b → (TX1 a).2.1 ≠ (TX1 b).2.1 := by decide +kernel
theorem tyX1_ok : ∀ k, k < 8 → parseFieldDescriptor (TX1 k).2.2.1 = some (tyX1 k) := by decide +kernel
abbrev cX1_init : ByteArray := prog_3_method_1_code
def yX1_init : MethodName := ⟨RX1, "<init>", "()V"⟩
abbrev cX1_all : ByteArray := prog_3_method_2_code
def yX1_all : MethodName := ⟨RX1, "all", "()I"⟩
abbrev cX1_together : ByteArray := prog_3_method_3_code
def yX1_together : MethodName := ⟨RX1, "together", "(I[I)I"⟩
abbrev cX1_setCairns : ByteArray := prog_3_method_4_code
def yX1_setCairns : MethodName := ⟨RX1, "setCairns", "([I)V"⟩
abbrev cX1_go : ByteArray := prog_3_method_5_code
def yX1_go : MethodName := ⟨RX1, "go", "(III)Z"⟩
abbrev cX1_setOut : ByteArray := prog_3_method_6_code
def yX1_setOut : MethodName := ⟨RX1, "setOut", "(II)V"⟩
abbrev cX1_eatPonies : ByteArray := prog_3_method_7_code
def yX1_eatPonies : MethodName := ⟨RX1, "eatPonies", "()V"⟩
abbrev cX1_eatBeasts : ByteArray := prog_3_method_8_code
def yX1_eatBeasts : MethodName := ⟨RX1, "eatBeasts", "()V"⟩
abbrev cX1_devour : ByteArray := prog_3_method_9_code
def yX1_devour : MethodName := ⟨RX1, "devour", "(I)V"⟩
abbrev cX1_dieOn : ByteArray := prog_3_method_10_code
def yX1_dieOn : MethodName := ⟨RX1, "dieOn", "(I)V"⟩
abbrev cX1_takeUpAt : ByteArray := prog_3_method_11_code
def yX1_takeUpAt : MethodName := ⟨RX1, "takeUpAt", "(I)V"⟩
def RX2 : String := "ColdDepots$Standing"
def TX2 : u_T := fun k => match k with
  | 0 => ("ColdDepots$Standing", "alive", "I", false)
  | 1 => ("ColdDepots$Standing", "cairns", "[I", true)
  | 2 => ("ColdDepots$Standing", "marches", "I", false)
  | 3 => ("ColdDepots$Standing", "comingsHome", "I", false)
  | 4 => ("ColdDepots$Standing", "heard", "I", false)
  | 5 => ("ColdDepots$Standing", "heardMembers", "[I", true)
  | 6 => ("ColdDepots$Standing", "heardStages", "[I", true)
  | 7 => ("ColdDepots$Standing", "heardFoods", "[I", true)
  | _ => ("ColdDepots$Standing", "heardHomes", "[I", true)
def tyX2 : Nat → FieldType := fun k => match k with
  | 0 => .int
  | 1 => .array .int
  | 2 => .int
  | 3 => .int
  | 4 => .int
  | 5 => .array .int
  | 6 => .array .int
  | 7 => .array .int
  | _ => .array .int
theorem nmX2 : ∀ a, a < 9 → ∀ b, b < 9 → a ≠ b → (TX2 a).2.1 ≠ (TX2 b).2.1 := by decide +kernel
theorem tyX2_ok : ∀ k, k < 9 → parseFieldDescriptor (TX2 k).2.2.1 = some (tyX2 k) := by decide +kernel
abbrev cX2_init : ByteArray := prog_4_method_1_code
def yX2_init : MethodName := ⟨RX2, "<init>", "()V"⟩
abbrev cX2_begin : ByteArray := prog_4_method_2_code
def yX2_begin : MethodName := ⟨RX2, "begin", "(I)V"⟩
abbrev cX2_note : ByteArray := prog_4_method_3_code
def yX2_note : MethodName := ⟨RX2, "note", "(IIIZ)V"⟩
abbrev cX2_takeFrom : ByteArray := prog_4_method_4_code
def yX2_takeFrom : MethodName := ⟨RX2, "takeFrom", "(LColdDepots$Standing;)V"⟩
def RX3 : String := "ColdDepots"
def TX3 : u_T := fun k => match k with
  | 0 => ("ColdDepots", "page", "LColdDepots$Page;", true)
  | 1 => ("ColdDepots", "party", "LColdDepots$Party;", true)
  | 2 => ("ColdDepots", "now", "LColdDepots$Standing;", true)
  | 3 => ("ColdDepots", "kept", "LColdDepots$Standing;", true)
  | 4 => ("ColdDepots", "wintered", "[I", true)
  | 5 => ("ColdDepots", "imageKept", "Z", false)
  | 6 => ("ColdDepots", "campsRead", "I", false)
  | _ => ("ColdDepots", "teamsDone", "I", false)
def tyX3 : Nat → FieldType := fun k => match k with
  | 0 => .object "ColdDepots$Page"
  | 1 => .object "ColdDepots$Party"
  | 2 => .object "ColdDepots$Standing"
  | 3 => .object "ColdDepots$Standing"
  | 4 => .array .int
  | 5 => .boolean
  | 6 => .int
  | _ => .int
theorem nmX3 : ∀ a, a < 8 → ∀ b, b < 8 → a ≠ b → (TX3 a).2.1 ≠ (TX3 b).2.1 := by decide +kernel
theorem tyX3_ok : ∀ k, k < 8 → parseFieldDescriptor (TX3 k).2.2.1 = some (tyX3 k) := by decide +kernel
abbrev cX3_init : ByteArray := prog_1_method_1_code
def yX3_init : MethodName := ⟨RX3, "<init>", "()V"⟩
abbrev cX3_letter : ByteArray := prog_1_method_2_code
def yX3_letter : MethodName := ⟨RX3, "letter", "(I)I"⟩
abbrev cX3_blank : ByteArray := prog_1_method_3_code
def yX3_blank : MethodName := ⟨RX3, "blank", "()I"⟩
abbrev cX3_fault : ByteArray := prog_1_method_4_code
def yX3_fault : MethodName := ⟨RX3, "fault", "()I"⟩
abbrev cX3_camp : ByteArray := prog_1_method_5_code
def yX3_camp : MethodName := ⟨RX3, "camp", "()I"⟩
abbrev cX3_member : ByteArray := prog_1_method_6_code
def yX3_member : MethodName := ⟨RX3, "member", "(II)I"⟩
abbrev cX3_as : ByteArray := prog_1_method_7_code
def yX3_as : MethodName := ⟨RX3, "as", "(II)I"⟩
abbrev cX3_cairn : ByteArray := prog_1_method_8_code
def yX3_cairn : MethodName := ⟨RX3, "cairn", "(II)I"⟩
abbrev cX3_lay : ByteArray := prog_1_method_9_code
def yX3_lay : MethodName := ⟨RX3, "lay", "(II)I"⟩
abbrev cX3_march : ByteArray := prog_1_method_10_code
def yX3_march : MethodName := ⟨RX3, "march", "(III)I"⟩
abbrev cX3_would : ByteArray := prog_1_method_11_code
def yX3_would : MethodName := ⟨RX3, "would", "(IIII)I"⟩
abbrev cX3_need : ByteArray := prog_1_method_12_code
def yX3_need : MethodName := ⟨RX3, "need", "(II)I"⟩
abbrev cX3_far : ByteArray := prog_1_method_13_code
def yX3_far : MethodName := ⟨RX3, "far", "(I)I"⟩
abbrev cX3_team : ByteArray := prog_1_method_14_code
def yX3_team : MethodName := ⟨RX3, "team", "(I)I"⟩
abbrev cX3_hear : ByteArray := prog_1_method_15_code
def yX3_hear : MethodName := ⟨RX3, "hear", "(IIIZ)I"⟩
abbrev cX3_forget : ByteArray := prog_1_method_16_code
def yX3_forget : MethodName := ⟨RX3, "forget", "()I"⟩
abbrev cX3_winters : ByteArray := prog_1_method_17_code
def yX3_winters : MethodName := ⟨RX3, "winters", "(III)I"⟩
abbrev cX3_image : ByteArray := prog_1_method_18_code
def yX3_image : MethodName := ⟨RX3, "image", "()I"⟩
abbrev cX3_restore : ByteArray := prog_1_method_19_code
def yX3_restore : MethodName := ⟨RX3, "restore", "()I"⟩
abbrev cX3_count : ByteArray := prog_1_method_20_code
def yX3_count : MethodName := ⟨RX3, "count", "(I)I"⟩
abbrev cX3_digest : ByteArray := prog_1_method_21_code
def yX3_digest : MethodName := ⟨RX3, "digest", "()J"⟩
abbrev cX3_isNoCairn : ByteArray := prog_1_method_22_code
def yX3_isNoCairn : MethodName := ⟨RX3, "isNoCairn", "(I)Z"⟩
abbrev cX3_isNobody : ByteArray := prog_1_method_23_code
def yX3_isNobody : MethodName := ⟨RX3, "isNobody", "(I)Z"⟩
abbrev cX3_isNoMarch : ByteArray := prog_1_method_24_code
def yX3_isNoMarch : MethodName := ⟨RX3, "isNoMarch", "(III)Z"⟩
abbrev cX3_anyIsDead : ByteArray := prog_1_method_25_code
def yX3_anyIsDead : MethodName := ⟨RX3, "anyIsDead", "(I)Z"⟩
abbrev cX3_isNoStage : ByteArray := prog_1_method_26_code
def yX3_isNoStage : MethodName := ⟨RX3, "isNoStage", "(I)Z"⟩
abbrev cX3_mostFoodOf : ByteArray := prog_1_method_27_code
def yX3_mostFoodOf : MethodName := ⟨RX3, "mostFoodOf", "(I)I"⟩
abbrev cX3_leastFood : ByteArray := prog_1_method_28_code
def yX3_leastFood : MethodName := ⟨RX3, "leastFood", "(II[I)I"⟩
abbrev cX3_farthest : ByteArray := prog_1_method_29_code
def yX3_farthest : MethodName := ⟨RX3, "farthest", "(I[I)I"⟩
abbrev cX3_fewest : ByteArray := prog_1_method_30_code
def yX3_fewest : MethodName := ⟨RX3, "fewest", "(I)I"⟩
abbrev cX3_amountsAt : ByteArray := prog_1_method_31_code
def yX3_amountsAt : MethodName := ⟨RX3, "amountsAt", "(I)I"⟩
abbrev cX3_isAllSo : ByteArray := prog_1_method_32_code
def yX3_isAllSo : MethodName := ⟨RX3, "isAllSo", "(II)Z"⟩
abbrev cX3_bestTrial : ByteArray := prog_1_method_33_code
def yX3_bestTrial : MethodName := ⟨RX3, "bestTrial", "(II)I"⟩
abbrev cX3_leftAtWorst : ByteArray := prog_1_method_34_code
def yX3_leftAtWorst : MethodName := ⟨RX3, "leftAtWorst", "(III)I"⟩
abbrev cX3_letCreep : ByteArray := prog_1_method_35_code
def yX3_letCreep : MethodName := ⟨RX3, "letCreep", "(II)I"⟩
abbrev cX3_nextSeed : ByteArray := prog_1_method_36_code
def yX3_nextSeed : MethodName := ⟨RX3, "nextSeed", "(I)I"⟩
abbrev cX3_kindOf : ByteArray := prog_1_method_37_code
def yX3_kindOf : MethodName := ⟨RX3, "kindOf", "(I)I"⟩
abbrev cX3_isOf : ByteArray := prog_1_method_38_code
def yX3_isOf : MethodName := ⟨RX3, "isOf", "(II)Z"⟩
abbrev cX3_at : ByteArray := prog_1_method_39_code
def yX3_at : MethodName := ⟨RX3, "at", "([II)I"⟩
abbrev cX3_put : ByteArray := prog_1_method_40_code
def yX3_put : MethodName := ⟨RX3, "put", "([III)V"⟩
abbrev cX3_copy : ByteArray := prog_1_method_41_code
def yX3_copy : MethodName := ⟨RX3, "copy", "([I[I)V"⟩
abbrev cX3_sum : ByteArray := prog_1_method_42_code
def yX3_sum : MethodName := ⟨RX3, "sum", "([I)I"⟩
def RX4 : String := "ColdDepotsModel"
def TX4 : u_T := fun k => match k with
  | 0 => ("ColdDepotsModel", "page", "[I", true)
  | 1 => ("ColdDepotsModel", "pageMany", "I", false)
  | 2 => ("ColdDepotsModel", "endAt", "I", false)
  | 3 => ("ColdDepotsModel", "members", "I", false)
  | 4 => ("ColdDepotsModel", "living", "I", false)
  | 5 => ("ColdDepotsModel", "marches", "I", false)
  | 6 => ("ColdDepotsModel", "cameHome", "I", false)
  | 7 => ("ColdDepotsModel", "campsRead", "I", false)
  | 8 => ("ColdDepotsModel", "kinds", "[I", true)
  | 9 => ("ColdDepotsModel", "foods", "[I", true)
  | 10 => ("ColdDepotsModel", "party", "I", false)
  | 11 => ("ColdDepotsModel", "carried", "I", false)
  | 12 => ("ColdDepotsModel", "diedOn", "I", false)
  | 13 => ("ColdDepotsModel", "left", "[I", true)
  | 14 => ("ColdDepotsModel", "teamsDone", "I", false)
  | 15 => ("ColdDepotsModel", "heardMany", "I", false)
  | 16 => ("ColdDepotsModel", "heards", "[I", true)
  | 17 => ("ColdDepotsModel", "other", "[I", true)
  | 18 => ("ColdDepotsModel", "seedNow", "I", false)
  | 19 => ("ColdDepotsModel", "then", "[I", true)
  | 20 => ("ColdDepotsModel", "keptCamp", "I", false)
  | 21 => ("ColdDepotsModel", "keptLiving", "I", false)
  | 22 => ("ColdDepotsModel", "keptMarches", "I", false)
  | 23 => ("ColdDepotsModel", "keptHome", "I", false)
  | 24 => ("ColdDepotsModel", "keptHeard", "I", false)
  | 25 => ("ColdDepotsModel", "keptFoods", "[I", true)
  | 26 => ("ColdDepotsModel", "keptHeards", "[I", true)
  | _ => ("ColdDepotsModel", "hash", "J", false)
def tyX4 : Nat → FieldType := fun k => match k with
  | 0 => .array .int
  | 1 => .int
  | 2 => .int
  | 3 => .int
  | 4 => .int
  | 5 => .int
  | 6 => .int
  | 7 => .int
  | 8 => .array .int
  | 9 => .array .int
  | 10 => .int
  | 11 => .int
  | 12 => .int
  | 13 => .array .int
  | 14 => .int
  | 15 => .int
  | 16 => .array .int
  | 17 => .array .int
  | 18 => .int
  | 19 => .array .int
  | 20 => .int
  | 21 => .int
  | 22 => .int
  | 23 => .int
  | 24 => .int
  | 25 => .array .int
  | 26 => .array .int
  | _ => .long
theorem nmX4 : ∀ a, a < 28 → ∀ b, b < 28 → a ≠ b → (TX4 a).2.1 ≠ (TX4 b).2.1 := by decide +kernel
theorem tyX4_ok : ∀ k, k < 28 → parseFieldDescriptor (TX4 k).2.2.1 = some (tyX4 k) := by decide +kernel
abbrev cX4_init : ByteArray := prog_6_method_1_code
def yX4_init : MethodName := ⟨RX4, "<init>", "()V"⟩
abbrev cX4_in : ByteArray := prog_6_method_2_code
def yX4_in : MethodName := ⟨RX4, "in", "(JJJ)Z"⟩
abbrev cX4_copy : ByteArray := prog_6_method_3_code
def yX4_copy : MethodName := ⟨RX4, "copy", "([I[I)V"⟩
abbrev cX4_ones : ByteArray := prog_6_method_4_code
def yX4_ones : MethodName := ⟨RX4, "ones", "(I)I"⟩
abbrev cX4_letter : ByteArray := prog_6_method_5_code
def yX4_letter : MethodName := ⟨RX4, "letter", "(I)I"⟩
abbrev cX4_blank : ByteArray := prog_6_method_6_code
def yX4_blank : MethodName := ⟨RX4, "blank", "()I"⟩
abbrev cX4_kindBy : ByteArray := prog_6_method_7_code
def yX4_kindBy : MethodName := ⟨RX4, "kindBy", "(I)I"⟩
abbrev cX4_isGood : ByteArray := prog_6_method_8_code
def yX4_isGood : MethodName := ⟨RX4, "isGood", "(I)Z"⟩
abbrev cX4_faultOf : ByteArray := prog_6_method_9_code
def yX4_faultOf : MethodName := ⟨RX4, "faultOf", "()I"⟩
abbrev cX4_fault : ByteArray := prog_6_method_10_code
def yX4_fault : MethodName := ⟨RX4, "fault", "()I"⟩
abbrev cX4_camp : ByteArray := prog_6_method_11_code
def yX4_camp : MethodName := ⟨RX4, "camp", "()I"⟩
abbrev cX4_lacks : ByteArray := prog_6_method_12_code
def yX4_lacks : MethodName := ⟨RX4, "lacks", "()Z"⟩
abbrev cX4_isMember : ByteArray := prog_6_method_13_code
def yX4_isMember : MethodName := ⟨RX4, "isMember", "(I)Z"⟩
abbrev cX4_isCairn : ByteArray := prog_6_method_14_code
def yX4_isCairn : MethodName := ⟨RX4, "isCairn", "(I)Z"⟩
abbrev cX4_areMembers : ByteArray := prog_6_method_15_code
def yX4_areMembers : MethodName := ⟨RX4, "areMembers", "(I)Z"⟩
abbrev cX4_pullsOf : ByteArray := prog_6_method_16_code
def yX4_pullsOf : MethodName := ⟨RX4, "pullsOf", "(I)I"⟩
abbrev cX4_eatsOf : ByteArray := prog_6_method_17_code
def yX4_eatsOf : MethodName := ⟨RX4, "eatsOf", "(I)I"⟩
abbrev cX4_feedsOf : ByteArray := prog_6_method_18_code
def yX4_feedsOf : MethodName := ⟨RX4, "feedsOf", "(I)I"⟩
abbrev cX4_pullOf : ByteArray := prog_6_method_19_code
def yX4_pullOf : MethodName := ⟨RX4, "pullOf", "(I)I"⟩
abbrev cX4_eatOf : ByteArray := prog_6_method_20_code
def yX4_eatOf : MethodName := ⟨RX4, "eatOf", "(I)I"⟩
abbrev cX4_lastOf : ByteArray := prog_6_method_21_code
def yX4_lastOf : MethodName := ⟨RX4, "lastOf", "(IZ)I"⟩
abbrev cX4_tellMember : ByteArray := prog_6_method_22_code
def yX4_tellMember : MethodName := ⟨RX4, "tellMember", "(II)I"⟩
abbrev cX4_member : ByteArray := prog_6_method_23_code
def yX4_member : MethodName := ⟨RX4, "member", "(II)I"⟩
abbrev cX4_as : ByteArray := prog_6_method_24_code
def yX4_as : MethodName := ⟨RX4, "as", "(II)I"⟩
abbrev cX4_tellCairn : ByteArray := prog_6_method_25_code
def yX4_tellCairn : MethodName := ⟨RX4, "tellCairn", "(II)I"⟩
abbrev cX4_cairn : ByteArray := prog_6_method_26_code
def yX4_cairn : MethodName := ⟨RX4, "cairn", "(II)I"⟩
abbrev cX4_lay : ByteArray := prog_6_method_27_code
def yX4_lay : MethodName := ⟨RX4, "lay", "(II)I"⟩
abbrev cX4_eatBeast : ByteArray := prog_6_method_28_code
def yX4_eatBeast : MethodName := ⟨RX4, "eatBeast", "(I)V"⟩
abbrev cX4_keepPulled : ByteArray := prog_6_method_29_code
def yX4_keepPulled : MethodName := ⟨RX4, "keepPulled", "()V"⟩
abbrev cX4_goStage : ByteArray := prog_6_method_30_code
def yX4_goStage : MethodName := ⟨RX4, "goStage", "(IZ)Z"⟩
abbrev cX4_goMarch : ByteArray := prog_6_method_31_code
def yX4_goMarch : MethodName := ⟨RX4, "goMarch", "(III[I)V"⟩
abbrev cX4_comesHome : ByteArray := prog_6_method_32_code
def yX4_comesHome : MethodName := ⟨RX4, "comesHome", "(III[I)Z"⟩
abbrev cX4_sumOf : ByteArray := prog_6_method_33_code
def yX4_sumOf : MethodName := ⟨RX4, "sumOf", "([I)I"⟩
abbrev cX4_isMarch : ByteArray := prog_6_method_34_code
def yX4_isMarch : MethodName := ⟨RX4, "isMarch", "(III)Z"⟩
abbrev cX4_march : ByteArray := prog_6_method_35_code
def yX4_march : MethodName := ⟨RX4, "march", "(III)I"⟩
abbrev cX4_wouldOf : ByteArray := prog_6_method_36_code
def yX4_wouldOf : MethodName := ⟨RX4, "wouldOf", "(IIII)I"⟩
abbrev cX4_would : ByteArray := prog_6_method_37_code
def yX4_would : MethodName := ⟨RX4, "would", "(IIII)I"⟩
abbrev cX4_needOf : ByteArray := prog_6_method_38_code
def yX4_needOf : MethodName := ⟨RX4, "needOf", "(II[I)I"⟩
abbrev cX4_need : ByteArray := prog_6_method_39_code
def yX4_need : MethodName := ⟨RX4, "need", "(II)I"⟩
abbrev cX4_farOf : ByteArray := prog_6_method_40_code
def yX4_farOf : MethodName := ⟨RX4, "farOf", "(I[I)I"⟩
abbrev cX4_far : ByteArray := prog_6_method_41_code
def yX4_far : MethodName := ⟨RX4, "far", "(I)I"⟩
abbrev cX4_teamOf : ByteArray := prog_6_method_42_code
def yX4_teamOf : MethodName := ⟨RX4, "teamOf", "(I)I"⟩
abbrev cX4_team : ByteArray := prog_6_method_43_code
def yX4_team : MethodName := ⟨RX4, "team", "(I)I"⟩
abbrev cX4_hear : ByteArray := prog_6_method_44_code
def yX4_hear : MethodName := ⟨RX4, "hear", "(IIIZ)I"⟩
abbrev cX4_forget : ByteArray := prog_6_method_45_code
def yX4_forget : MethodName := ⟨RX4, "forget", "()I"⟩
abbrev cX4_layOf : ByteArray := prog_6_method_46_code
def yX4_layOf : MethodName := ⟨RX4, "layOf", "(I)I"⟩
abbrev cX4_tryOf : ByteArray := prog_6_method_47_code
def yX4_tryOf : MethodName := ⟨RX4, "tryOf", "(I)I"⟩
abbrev cX4_draw : ByteArray := prog_6_method_48_code
def yX4_draw : MethodName := ⟨RX4, "draw", "(I)I"⟩
abbrev cX4_winters : ByteArray := prog_6_method_49_code
def yX4_winters : MethodName := ⟨RX4, "winters", "(III)I"⟩
abbrev cX4_image : ByteArray := prog_6_method_50_code
def yX4_image : MethodName := ⟨RX4, "image", "()I"⟩
abbrev cX4_restore : ByteArray := prog_6_method_51_code
def yX4_restore : MethodName := ⟨RX4, "restore", "()I"⟩
abbrev cX4_countOf : ByteArray := prog_6_method_52_code
def yX4_countOf : MethodName := ⟨RX4, "countOf", "(I)I"⟩
abbrev cX4_count : ByteArray := prog_6_method_53_code
def yX4_count : MethodName := ⟨RX4, "count", "(I)I"⟩
abbrev cX4_say : ByteArray := prog_6_method_54_code
def yX4_say : MethodName := ⟨RX4, "say", "(J)V"⟩
abbrev cX4_digest : ByteArray := prog_6_method_55_code
def yX4_digest : MethodName := ⟨RX4, "digest", "()J"⟩
def RJ6 : String := "java/lang/Integer"
abbrev cJ6_bitCount_0f7a4 : ByteArray := prog_7_method_49_code
def yJ6_bitCount_0f7a4 : MethodName := ⟨RJ6, "bitCount", "(I)I"⟩
def RJ9 : String := "java/lang/Math"
abbrev cJ9_max_7cf53 : ByteArray := prog_8_method_65_code
def yJ9_max_7cf53 : MethodName := ⟨RJ9, "max", "(II)I"⟩
abbrev cJ9_min_7cf53 : ByteArray := prog_8_method_69_code
def yJ9_min_7cf53 : MethodName := ⟨RJ9, "min", "(II)I"⟩
def RL : String := "ColdDepotsLaw"
abbrev cL_law : ByteArray := code
def yL_law : MethodName := ⟨RL, "law", "([I)Z"⟩
abbrev vwCl : List vw_C := [(RX0, TX0, 2), (RX1, TX1, 8), (RX2, TX2, 9), (RX3, TX3, 8), (RX4, TX4, 28)]
end
section
def nestWord : Cond → Bool
  | .fieldLinkNest .. => true
  | .methodLinkNest .. => true
  | _ => false
def TB : List Cond := lw_tbl.filter goodWord
def NB : List Cond := lw_tbl.filter nestWord
theorem in_t1 {i : Nat} {w : Cond} (h : tables_1_1[i]? = some w) : w ∈ lw_tbl := List.mem_append_right _ (List.mem_append_left _ (List.mem_of_getElem? h))
theorem in_t2 {i : Nat} {w : Cond} (h : tables_1_2[i]? = some w) : w ∈ lw_tbl := List.mem_append_right _ (List.mem_append_right _ (List.mem_append_left _ (List.mem_of_getElem? h)))
theorem in_t3 {i : Nat} {w : Cond} (h : tables_1_3[i]? = some w) : w ∈ lw_tbl := List.mem_append_right _ (List.mem_append_right _ (List.mem_append_right _ (List.mem_of_getElem? h)))
theorem in_sel {q : MethodName × Nat} (h : q ∈ lw_privs) : Cond.selects q.1.cls q.1 q.1 ∈ lw_tbl := List.mem_append_left _ (List.mem_map.mpr ⟨q, h, rfl⟩)
theorem to_TB {w : Cond} (h : w ∈ lw_tbl) (g : goodWord w = true) : w ∈ TB := List.mem_filter.mpr ⟨h, g⟩
theorem to_NB {w : Cond} (h : w ∈ lw_tbl) (g : nestWord w = true) : w ∈ NB := List.mem_filter.mpr ⟨h, g⟩
theorem in_p1 {i : Nat} {q : MethodName × Nat} (h : lw_privs_1[i]? = some q) : q ∈ lw_privs := List.mem_append_left _ (List.mem_of_getElem? h)
theorem in_p2 {i : Nat} {q : MethodName × Nat} (h : lw_privs_2[i]? = some q) : q ∈ lw_privs := List.mem_append_right _ (List.mem_append_left _ (List.mem_of_getElem? h))
theorem in_p3 {i : Nat} {q : MethodName × Nat} (h : lw_privs_3[i]? = some q) : q ∈ lw_privs := List.mem_append_right _ (List.mem_append_right _ (List.mem_append_left _ (List.mem_of_getElem? h)))
theorem in_p4 {i : Nat} {q : MethodName × Nat} (h : lw_privs_4[i]? = some q) : q ∈ lw_privs := List.mem_append_right _ (List.mem_append_right _ (List.mem_append_right _ (List.mem_of_getElem? h)))

theorem wi_L : Cond.initialized RL ∈ TB := to_TB (in_t1 (i := 0) rfl) rfl
theorem wi_X3 : Cond.initialized RX3 ∈ TB := to_TB (in_t1 (i := 1) rfl) rfl
theorem wi_X0 : Cond.initialized RX0 ∈ TB := to_TB (in_t1 (i := 2) rfl) rfl
theorem wi_X1 : Cond.initialized RX1 ∈ TB := to_TB (in_t1 (i := 3) rfl) rfl
theorem wi_X2 : Cond.initialized RX2 ∈ TB := to_TB (in_t1 (i := 4) rfl) rfl
theorem wi_X4 : Cond.initialized RX4 ∈ TB := to_TB (in_t1 (i := 5) rfl) rfl
theorem wi_J9 : Cond.initialized RJ9 ∈ TB := to_TB (in_t1 (i := 6) rfl) rfl
theorem wi_J6 : Cond.initialized RJ6 ∈ TB := to_TB (in_t1 (i := 7) rfl) rfl
theorem wl_L_7 : Cond.classLink RL 7 RX3 ∈ TB := to_TB (in_t1 (i := 8) rfl) rfl
theorem wn_X3 : Cond.instantiable RX3 8 ∈ TB := to_TB (in_t1 (i := 9) rfl) rfl
theorem wl_L_9 : Cond.methodLink RL 9 yX3_init ∈ TB := to_TB (in_t1 (i := 10) rfl) rfl
theorem wm_X3_init : Cond.instanceMethod yX3_init ∈ TB := to_TB (in_t1 (i := 11) rfl) rfl
theorem wc_X3_init : Cond.code yX3_init cX3_init 1 none ∈ TB := to_TB (in_t1 (i := 12) rfl) rfl
theorem wl_X3_1 : Cond.methodLink RX3 1 objectInit ∈ TB := to_TB (in_t1 (i := 13) rfl) rfl
theorem wm_obj : Cond.instanceMethod objectInit ∈ TB := to_TB (in_t1 (i := 14) rfl) rfl
theorem wc_obj : Cond.code objectInit ⟨#[0xb1]⟩ 1 none ∈ TB := to_TB (in_t1 (i := 15) rfl) rfl
theorem wl_X3_7 : Cond.classLink RX3 7 RX0 ∈ TB := to_TB (in_t1 (i := 16) rfl) rfl
theorem wn_X0 : Cond.instantiable RX0 2 ∈ TB := to_TB (in_t1 (i := 17) rfl) rfl
theorem wl_X3_9 : Cond.methodLinkNest RX3 9 yX0_init "ColdDepots" ∈ NB := to_NB (in_t1 (i := 18) rfl) rfl
theorem wm_X0_init : Cond.instanceMethod yX0_init ∈ TB := to_TB (in_t1 (i := 19) rfl) rfl
theorem wc_X0_init : Cond.code yX0_init cX0_init 1 none ∈ TB := to_TB (in_t1 (i := 20) rfl) rfl
theorem wl_X0_3 : Cond.methodLink RX0 3 objectInit ∈ TB := to_TB (in_t1 (i := 21) rfl) rfl
theorem wl_X0_9 : Cond.fieldLink RX0 9 "ColdDepots$Page" "codes" "[I" ∈ TB := to_TB (in_t1 (i := 22) rfl) rfl
theorem wl_X0_15 : Cond.fieldLink RX0 15 "ColdDepots$Page" "length" "I" ∈ TB := to_TB (in_t1 (i := 23) rfl) rfl
theorem wl_X3_41 : Cond.fieldLinkNest RX3 41 "ColdDepots$Page" "length" "I" "ColdDepots" ∈ NB := to_NB (in_t1 (i := 24) rfl) rfl
theorem w_arr : Cond.arrayClass .int ∈ TB := to_TB (in_t1 (i := 30) rfl) rfl
theorem wl_X3_16 : Cond.classLink RX3 16 RX1 ∈ TB := to_TB (in_t1 (i := 31) rfl) rfl
theorem wn_X1 : Cond.instantiable RX1 8 ∈ TB := to_TB (in_t1 (i := 32) rfl) rfl
theorem wl_X3_18 : Cond.methodLinkNest RX3 18 yX1_init "ColdDepots" ∈ NB := to_NB (in_t1 (i := 33) rfl) rfl
theorem wm_X1_init : Cond.instanceMethod yX1_init ∈ TB := to_TB (in_t1 (i := 34) rfl) rfl
theorem wc_X1_init : Cond.code yX1_init cX1_init 1 none ∈ TB := to_TB (in_t1 (i := 35) rfl) rfl
theorem wl_X1_3 : Cond.methodLink RX1 3 objectInit ∈ TB := to_TB (in_t1 (i := 36) rfl) rfl
theorem wl_X1_9 : Cond.fieldLink RX1 9 "ColdDepots$Party" "kinds" "[I" ∈ TB := to_TB (in_t1 (i := 37) rfl) rfl
theorem wl_X3_56 : Cond.fieldLinkNest RX3 56 "ColdDepots$Party" "kinds" "[I" "ColdDepots" ∈ NB := to_NB (in_t1 (i := 38) rfl) rfl
theorem wl_X1_18 : Cond.fieldLink RX1 18 "ColdDepots$Party" "size" "I" ∈ TB := to_TB (in_t1 (i := 39) rfl) rfl
theorem wl_X3_53 : Cond.fieldLinkNest RX3 53 "ColdDepots$Party" "size" "I" "ColdDepots" ∈ NB := to_NB (in_t1 (i := 40) rfl) rfl
theorem wl_X1_15 : Cond.fieldLink RX1 15 "ColdDepots$Party" "cairns" "[I" ∈ TB := to_TB (in_t1 (i := 41) rfl) rfl
theorem wl_X3_132 : Cond.fieldLinkNest RX3 132 "ColdDepots$Party" "cairns" "[I" "ColdDepots" ∈ NB := to_NB (in_t1 (i := 42) rfl) rfl
theorem wl_X1_40 : Cond.fieldLink RX1 40 "ColdDepots$Party" "alive" "I" ∈ TB := to_TB (in_t1 (i := 43) rfl) rfl
theorem wl_X3_131 : Cond.fieldLinkNest RX3 131 "ColdDepots$Party" "alive" "I" "ColdDepots" ∈ NB := to_NB (in_t1 (i := 44) rfl) rfl
theorem wl_X1_43 : Cond.fieldLink RX1 43 "ColdDepots$Party" "food" "I" ∈ TB := to_TB (in_t1 (i := 45) rfl) rfl
theorem wl_X3_143 : Cond.fieldLinkNest RX3 143 "ColdDepots$Party" "food" "I" "ColdDepots" ∈ NB := to_NB (in_t1 (i := 46) rfl) rfl
theorem wl_X1_63 : Cond.fieldLink RX1 63 "ColdDepots$Party" "pull" "I" ∈ TB := to_TB (in_t1 (i := 47) rfl) rfl
theorem wl_X1_46 : Cond.fieldLink RX1 46 "ColdDepots$Party" "eat" "I" ∈ TB := to_TB (in_t1 (i := 48) rfl) rfl
theorem wl_X1_75 : Cond.fieldLink RX1 75 "ColdDepots$Party" "diedOn" "I" ∈ TB := to_TB (in_t1 (i := 49) rfl) rfl
theorem wl_X3_150 : Cond.fieldLinkNest RX3 150 "ColdDepots$Party" "diedOn" "I" "ColdDepots" ∈ NB := to_NB (in_t1 (i := 50) rfl) rfl
theorem wl_X3_23 : Cond.classLink RX3 23 RX2 ∈ TB := to_TB (in_t1 (i := 68) rfl) rfl
theorem wn_X2 : Cond.instantiable RX2 9 ∈ TB := to_TB (in_t1 (i := 69) rfl) rfl
theorem wl_X3_25 : Cond.methodLinkNest RX3 25 yX2_init "ColdDepots" ∈ NB := to_NB (in_t1 (i := 70) rfl) rfl
theorem wm_X2_init : Cond.instanceMethod yX2_init ∈ TB := to_TB (in_t1 (i := 71) rfl) rfl
theorem wc_X2_init : Cond.code yX2_init cX2_init 1 none ∈ TB := to_TB (in_t1 (i := 72) rfl) rfl
theorem wl_X2_3 : Cond.methodLink RX2 3 objectInit ∈ TB := to_TB (in_t1 (i := 73) rfl) rfl
theorem wl_X2_27 : Cond.fieldLink RX2 27 "ColdDepots$Standing" "alive" "I" ∈ TB := to_TB (in_t1 (i := 74) rfl) rfl
theorem wl_X3_100 : Cond.fieldLinkNest RX3 100 "ColdDepots$Standing" "alive" "I" "ColdDepots" ∈ NB := to_NB (in_t1 (i := 75) rfl) rfl
theorem wl_X2_9 : Cond.fieldLink RX2 9 "ColdDepots$Standing" "cairns" "[I" ∈ TB := to_TB (in_t1 (i := 76) rfl) rfl
theorem wl_X3_77 : Cond.fieldLinkNest RX3 77 "ColdDepots$Standing" "cairns" "[I" "ColdDepots" ∈ NB := to_NB (in_t1 (i := 77) rfl) rfl
theorem wl_X2_31 : Cond.fieldLink RX2 31 "ColdDepots$Standing" "marches" "I" ∈ TB := to_TB (in_t1 (i := 78) rfl) rfl
theorem wl_X3_137 : Cond.fieldLinkNest RX3 137 "ColdDepots$Standing" "marches" "I" "ColdDepots" ∈ NB := to_NB (in_t1 (i := 79) rfl) rfl
theorem wl_X2_34 : Cond.fieldLink RX2 34 "ColdDepots$Standing" "comingsHome" "I" ∈ TB := to_TB (in_t1 (i := 80) rfl) rfl
theorem wl_X3_140 : Cond.fieldLinkNest RX3 140 "ColdDepots$Standing" "comingsHome" "I" "ColdDepots" ∈ NB := to_NB (in_t1 (i := 81) rfl) rfl
theorem wl_X2_37 : Cond.fieldLink RX2 37 "ColdDepots$Standing" "heard" "I" ∈ TB := to_TB (in_t1 (i := 82) rfl) rfl
theorem wl_X3_173 : Cond.fieldLinkNest RX3 173 "ColdDepots$Standing" "heard" "I" "ColdDepots" ∈ NB := to_NB (in_t1 (i := 83) rfl) rfl
theorem wl_X2_15 : Cond.fieldLink RX2 15 "ColdDepots$Standing" "heardMembers" "[I" ∈ TB := to_TB (in_t1 (i := 84) rfl) rfl
theorem wl_X3_223 : Cond.fieldLinkNest RX3 223 "ColdDepots$Standing" "heardMembers" "[I" "ColdDepots" ∈ NB := to_NB (in_t1 (i := 85) rfl) rfl
theorem wl_X2_18 : Cond.fieldLink RX2 18 "ColdDepots$Standing" "heardStages" "[I" ∈ TB := to_TB (in_t1 (i := 86) rfl) rfl
theorem wl_X3_220 : Cond.fieldLinkNest RX3 220 "ColdDepots$Standing" "heardStages" "[I" "ColdDepots" ∈ NB := to_NB (in_t1 (i := 87) rfl) rfl
theorem wl_X2_21 : Cond.fieldLink RX2 21 "ColdDepots$Standing" "heardFoods" "[I" ∈ TB := to_TB (in_t1 (i := 88) rfl) rfl
theorem wl_X3_226 : Cond.fieldLinkNest RX3 226 "ColdDepots$Standing" "heardFoods" "[I" "ColdDepots" ∈ NB := to_NB (in_t1 (i := 89) rfl) rfl
theorem wl_X2_24 : Cond.fieldLink RX2 24 "ColdDepots$Standing" "heardHomes" "[I" ∈ TB := to_TB (in_t1 (i := 90) rfl) rfl
theorem wl_X3_229 : Cond.fieldLinkNest RX3 229 "ColdDepots$Standing" "heardHomes" "[I" "ColdDepots" ∈ NB := to_NB (in_t1 (i := 91) rfl) rfl
theorem wl_X3_10 : Cond.fieldLink RX3 10 "ColdDepots" "page" "LColdDepots$Page;" ∈ TB := to_TB (in_t1 (i := 111) rfl) rfl
theorem wl_X3_19 : Cond.fieldLink RX3 19 "ColdDepots" "party" "LColdDepots$Party;" ∈ TB := to_TB (in_t1 (i := 112) rfl) rfl
theorem wl_X3_26 : Cond.fieldLink RX3 26 "ColdDepots" "now" "LColdDepots$Standing;" ∈ TB := to_TB (in_t1 (i := 113) rfl) rfl
theorem wl_X3_30 : Cond.fieldLink RX3 30 "ColdDepots" "kept" "LColdDepots$Standing;" ∈ TB := to_TB (in_t1 (i := 114) rfl) rfl
theorem wl_X3_33 : Cond.fieldLink RX3 33 "ColdDepots" "wintered" "[I" ∈ TB := to_TB (in_t1 (i := 115) rfl) rfl
theorem wl_X3_80 : Cond.fieldLink RX3 80 "ColdDepots" "imageKept" "Z" ∈ TB := to_TB (in_t1 (i := 116) rfl) rfl
theorem wl_X3_84 : Cond.fieldLink RX3 84 "ColdDepots" "campsRead" "I" ∈ TB := to_TB (in_t1 (i := 117) rfl) rfl
theorem wl_X3_167 : Cond.fieldLink RX3 167 "ColdDepots" "teamsDone" "I" ∈ TB := to_TB (in_t1 (i := 118) rfl) rfl
theorem wl_L_13 : Cond.methodLink RL 13 yX3_letter ∈ TB := to_TB (in_t1 (i := 136) rfl) rfl
theorem wm_X3_letter : Cond.instanceMethod yX3_letter ∈ TB := to_TB (in_t1 (i := 137) rfl) rfl
theorem we_X3_letter : Cond.selects RX3 yX3_letter yX3_letter ∈ TB := to_TB (in_t1 (i := 138) rfl) rfl
theorem wc_X3_letter : Cond.code yX3_letter cX3_letter 2 (some .int) ∈ TB := to_TB (in_t1 (i := 139) rfl) rfl
theorem wl_X3_37 : Cond.methodLinkNest RX3 37 yX0_add "ColdDepots" ∈ NB := to_NB (in_t1 (i := 140) rfl) rfl
theorem wm_X0_add : Cond.instanceMethod yX0_add ∈ TB := to_TB (in_t1 (i := 142) rfl) rfl
theorem wc_X0_add : Cond.code yX0_add cX0_add 2 (some .boolean) ∈ TB := to_TB (in_t1 (i := 143) rfl) rfl
theorem wl_X0_19 : Cond.methodLinkNest RX0 19 yX3_put "ColdDepots" ∈ NB := to_NB (in_t1 (i := 144) rfl) rfl
theorem ws_X3_put : Cond.static yX3_put ∈ TB := to_TB (in_t1 (i := 145) rfl) rfl
theorem wc_X3_put : Cond.code yX3_put cX3_put 3 none ∈ TB := to_TB (in_t1 (i := 146) rfl) rfl
theorem wl_L_18 : Cond.methodLink RL 18 yX3_blank ∈ TB := to_TB (in_t1 (i := 147) rfl) rfl
theorem wm_X3_blank : Cond.instanceMethod yX3_blank ∈ TB := to_TB (in_t1 (i := 148) rfl) rfl
theorem we_X3_blank : Cond.selects RX3 yX3_blank yX3_blank ∈ TB := to_TB (in_t1 (i := 149) rfl) rfl
theorem wc_X3_blank : Cond.code yX3_blank cX3_blank 2 (some .int) ∈ TB := to_TB (in_t1 (i := 150) rfl) rfl
theorem wl_L_23 : Cond.methodLink RL 23 yX3_fault ∈ TB := to_TB (in_t1 (i := 151) rfl) rfl
theorem wm_X3_fault : Cond.instanceMethod yX3_fault ∈ TB := to_TB (in_t1 (i := 152) rfl) rfl
theorem we_X3_fault : Cond.selects RX3 yX3_fault yX3_fault ∈ TB := to_TB (in_t1 (i := 153) rfl) rfl
theorem wc_X3_fault : Cond.code yX3_fault cX3_fault 1 (some .int) ∈ TB := to_TB (in_t1 (i := 154) rfl) rfl
theorem wl_X3_45 : Cond.methodLinkNest RX3 45 yX0_firstWrong "ColdDepots" ∈ NB := to_NB (in_t1 (i := 155) rfl) rfl
theorem wm_X0_firstWrong : Cond.instanceMethod yX0_firstWrong ∈ TB := to_TB (in_t1 (i := 157) rfl) rfl
theorem wc_X0_firstWrong : Cond.code yX0_firstWrong cX0_firstWrong 5 (some .int) ∈ TB := to_TB (in_t1 (i := 158) rfl) rfl
theorem wl_X0_27 : Cond.methodLink RX0 27 yX0_codeAt ∈ TB := to_TB (in_t1 (i := 159) rfl) rfl
theorem wm_X0_codeAt : Cond.instanceMethod yX0_codeAt ∈ TB := to_TB (in_t1 (i := 161) rfl) rfl
theorem wc_X0_codeAt : Cond.code yX0_codeAt cX0_codeAt 2 (some .int) ∈ TB := to_TB (in_t1 (i := 162) rfl) rfl
theorem wl_X0_23 : Cond.methodLinkNest RX0 23 yX3_at "ColdDepots" ∈ NB := to_NB (in_t1 (i := 163) rfl) rfl
theorem ws_X3_at : Cond.static yX3_at ∈ TB := to_TB (in_t1 (i := 164) rfl) rfl
theorem wc_X3_at : Cond.code yX3_at cX3_at 2 (some .int) ∈ TB := to_TB (in_t1 (i := 165) rfl) rfl
theorem wl_X0_31 : Cond.methodLinkNest RX0 31 yX3_kindOf "ColdDepots" ∈ NB := to_NB (in_t1 (i := 166) rfl) rfl
theorem ws_X3_kindOf : Cond.static yX3_kindOf ∈ TB := to_TB (in_t1 (i := 167) rfl) rfl
theorem wc_X3_kindOf : Cond.code yX3_kindOf cX3_kindOf 1 (some .int) ∈ TB := to_TB (in_t1 (i := 168) rfl) rfl
theorem wl_L_27 : Cond.methodLink RL 27 yX3_camp ∈ TB := to_TB (in_t1 (i := 169) rfl) rfl
theorem wm_X3_camp : Cond.instanceMethod yX3_camp ∈ TB := to_TB (in_t1 (i := 170) rfl) rfl
theorem we_X3_camp : Cond.selects RX3 yX3_camp yX3_camp ∈ TB := to_TB (in_t1 (i := 171) rfl) rfl
theorem wc_X3_camp : Cond.code yX3_camp cX3_camp 2 (some .int) ∈ TB := to_TB (in_t1 (i := 172) rfl) rfl
theorem wl_X3_49 : Cond.methodLinkNest RX3 49 yX0_isCamp "ColdDepots" ∈ NB := to_NB (in_t1 (i := 173) rfl) rfl
theorem wm_X0_isCamp : Cond.instanceMethod yX0_isCamp ∈ TB := to_TB (in_t1 (i := 175) rfl) rfl
theorem wc_X0_isCamp : Cond.code yX0_isCamp cX0_isCamp 1 (some .boolean) ∈ TB := to_TB (in_t1 (i := 176) rfl) rfl
theorem wl_X0_34 : Cond.methodLink RX0 34 yX0_firstWrong ∈ TB := to_TB (in_t1 (i := 177) rfl) rfl
theorem wl_X3_59 : Cond.methodLinkNest RX3 59 yX0_codeAt "ColdDepots" ∈ NB := to_NB (in_t1 (i := 178) rfl) rfl
theorem wl_X3_63 : Cond.methodLink RX3 63 yX3_kindOf ∈ TB := to_TB (in_t1 (i := 179) rfl) rfl
theorem wl_X3_66 : Cond.methodLink RX3 66 yX3_put ∈ TB := to_TB (in_t1 (i := 180) rfl) rfl
theorem wl_X3_70 : Cond.methodLinkNest RX3 70 yX1_all "ColdDepots" ∈ NB := to_NB (in_t1 (i := 181) rfl) rfl
theorem wm_X1_all : Cond.instanceMethod yX1_all ∈ TB := to_TB (in_t1 (i := 183) rfl) rfl
theorem wc_X1_all : Cond.code yX1_all cX1_all 1 (some .int) ∈ TB := to_TB (in_t1 (i := 184) rfl) rfl
theorem wl_X3_73 : Cond.methodLinkNest RX3 73 yX2_begin "ColdDepots" ∈ NB := to_NB (in_t1 (i := 185) rfl) rfl
theorem wm_X2_begin : Cond.instanceMethod yX2_begin ∈ TB := to_TB (in_t1 (i := 187) rfl) rfl
theorem wc_X2_begin : Cond.code yX2_begin cX2_begin 2 none ∈ TB := to_TB (in_t1 (i := 188) rfl) rfl
theorem wl_L_31 : Cond.methodLink RL 31 yX3_member ∈ TB := to_TB (in_t1 (i := 189) rfl) rfl
theorem wm_X3_member : Cond.instanceMethod yX3_member ∈ TB := to_TB (in_t1 (i := 190) rfl) rfl
theorem we_X3_member : Cond.selects RX3 yX3_member yX3_member ∈ TB := to_TB (in_t1 (i := 191) rfl) rfl
theorem wc_X3_member : Cond.code yX3_member cX3_member 4 (some .int) ∈ TB := to_TB (in_t1 (i := 192) rfl) rfl
theorem wl_X3_87 : Cond.methodLink RX3 87 yX3_at ∈ TB := to_TB (in_t1 (i := 193) rfl) rfl
theorem wl_X3_91 : Cond.fieldLink RX3 91 "ColdDepots" "PULLS" "[I" ∈ TB := to_TB (in_t1 (i := 194) rfl) rfl
theorem wz_PULLS : Cond.laysStatic RX3 "PULLS" "[I" ∈ lw_tbl := in_t1 (i := 195) rfl
theorem wl_X3_94 : Cond.fieldLink RX3 94 "ColdDepots" "EATS" "[I" ∈ TB := to_TB (in_t1 (i := 196) rfl) rfl
theorem wz_EATS : Cond.laysStatic RX3 "EATS" "[I" ∈ lw_tbl := in_t1 (i := 197) rfl
theorem wl_X3_97 : Cond.fieldLink RX3 97 "ColdDepots" "FEEDS" "[I" ∈ TB := to_TB (in_t1 (i := 198) rfl) rfl
theorem wz_FEEDS : Cond.laysStatic RX3 "FEEDS" "[I" ∈ lw_tbl := in_t1 (i := 199) rfl
theorem wl_L_36 : Cond.methodLink RL 36 yX3_as ∈ TB := to_TB (in_t1 (i := 200) rfl) rfl
theorem wm_X3_as : Cond.instanceMethod yX3_as ∈ TB := to_TB (in_t1 (i := 201) rfl) rfl
theorem we_X3_as : Cond.selects RX3 yX3_as yX3_as ∈ TB := to_TB (in_t1 (i := 202) rfl) rfl
theorem wc_X3_as : Cond.code yX3_as cX3_as 3 (some .int) ∈ TB := to_TB (in_t1 (i := 203) rfl) rfl
theorem wl_X3_103 : Cond.methodLink RX3 103 yX3_isOf ∈ TB := to_TB (in_t1 (i := 204) rfl) rfl
theorem ws_X3_isOf : Cond.static yX3_isOf ∈ TB := to_TB (in_t1 (i := 205) rfl) rfl
theorem wc_X3_isOf : Cond.code yX3_isOf cX3_isOf 2 (some .boolean) ∈ TB := to_TB (in_t1 (i := 206) rfl) rfl
theorem wl_L_40 : Cond.methodLink RL 40 yX3_cairn ∈ TB := to_TB (in_t1 (i := 207) rfl) rfl
theorem wm_X3_cairn : Cond.instanceMethod yX3_cairn ∈ TB := to_TB (in_t1 (i := 208) rfl) rfl
theorem we_X3_cairn : Cond.selects RX3 yX3_cairn yX3_cairn ∈ TB := to_TB (in_t1 (i := 209) rfl) rfl
theorem wc_X3_cairn : Cond.code yX3_cairn cX3_cairn 3 (some .int) ∈ TB := to_TB (in_t1 (i := 210) rfl) rfl
theorem wl_X3_107 : Cond.methodLink RX3 107 yX3_isNoCairn ∈ TB := to_TB (in_t1 (i := 211) rfl) rfl
theorem wm_X3_isNoCairn : Cond.instanceMethod yX3_isNoCairn ∈ TB := to_TB (in_t1 (i := 213) rfl) rfl
theorem wc_X3_isNoCairn : Cond.code yX3_isNoCairn cX3_isNoCairn 2 (some .boolean) ∈ TB := to_TB (in_t1 (i := 214) rfl) rfl
theorem wl_X3_110 : Cond.methodLink RX3 110 yX3_amountsAt ∈ TB := to_TB (in_t1 (i := 215) rfl) rfl
theorem wm_X3_amountsAt : Cond.instanceMethod yX3_amountsAt ∈ TB := to_TB (in_t1 (i := 217) rfl) rfl
theorem wc_X3_amountsAt : Cond.code yX3_amountsAt cX3_amountsAt 4 (some .int) ∈ TB := to_TB (in_t1 (i := 218) rfl) rfl
theorem wl_X3_217 : Cond.methodLink RX3 217 yX3_isAllSo ∈ TB := to_TB (in_t1 (i := 219) rfl) rfl
theorem wm_X3_isAllSo : Cond.instanceMethod yX3_isAllSo ∈ TB := to_TB (in_t1 (i := 221) rfl) rfl
theorem wc_X3_isAllSo : Cond.code yX3_isAllSo cX3_isAllSo 6 (some .boolean) ∈ TB := to_TB (in_t1 (i := 222) rfl) rfl
theorem wl_X3_124 : Cond.methodLinkNest RX3 124 yX1_setCairns "ColdDepots" ∈ NB := to_NB (in_t1 (i := 223) rfl) rfl
theorem wm_X1_setCairns : Cond.instanceMethod yX1_setCairns ∈ TB := to_TB (in_t1 (i := 225) rfl) rfl
theorem wc_X1_setCairns : Cond.code yX1_setCairns cX1_setCairns 2 none ∈ TB := to_TB (in_t1 (i := 226) rfl) rfl
theorem wl_X1_26 : Cond.methodLinkNest RX1 26 yX3_copy "ColdDepots" ∈ NB := to_NB (in_t1 (i := 227) rfl) rfl
theorem ws_X3_copy : Cond.static yX3_copy ∈ TB := to_TB (in_t1 (i := 228) rfl) rfl
theorem wc_X3_copy : Cond.code yX3_copy cX3_copy 3 none ∈ TB := to_TB (in_t1 (i := 229) rfl) rfl
theorem wl_X3_128 : Cond.methodLinkNest RX3 128 yX1_go "ColdDepots" ∈ NB := to_NB (in_t1 (i := 230) rfl) rfl
theorem wm_X1_go : Cond.instanceMethod yX1_go ∈ TB := to_TB (in_t1 (i := 232) rfl) rfl
theorem wc_X1_go : Cond.code yX1_go cX1_go 6 (some .boolean) ∈ TB := to_TB (in_t1 (i := 233) rfl) rfl
theorem wl_X1_30 : Cond.methodLink RX1 30 yX1_setOut ∈ TB := to_TB (in_t1 (i := 234) rfl) rfl
theorem wm_X1_setOut : Cond.instanceMethod yX1_setOut ∈ TB := to_TB (in_t1 (i := 236) rfl) rfl
theorem wc_X1_setOut : Cond.code yX1_setOut cX1_setOut 3 none ∈ TB := to_TB (in_t1 (i := 237) rfl) rfl
theorem wl_X1_56 : Cond.fieldLinkNest RX1 56 "ColdDepots" "PULLS" "[I" "ColdDepots" ∈ NB := to_NB (in_t1 (i := 238) rfl) rfl
theorem wl_X1_59 : Cond.methodLink RX1 59 yX1_together ∈ TB := to_TB (in_t1 (i := 239) rfl) rfl
theorem wm_X1_together : Cond.instanceMethod yX1_together ∈ TB := to_TB (in_t2 (i := 1) rfl) rfl
theorem wc_X1_together : Cond.code yX1_together cX1_together 5 (some .int) ∈ TB := to_TB (in_t2 (i := 2) rfl) rfl
theorem wl_X1_22 : Cond.methodLinkNest RX1 22 yX3_at "ColdDepots" ∈ NB := to_NB (in_t2 (i := 3) rfl) rfl
theorem wl_X1_66 : Cond.fieldLinkNest RX1 66 "ColdDepots" "EATS" "[I" "ColdDepots" ∈ NB := to_NB (in_t2 (i := 4) rfl) rfl
theorem wl_X1_69 : Cond.methodLink RX1 69 yJ9_min_7cf53 ∈ TB := to_TB (in_t2 (i := 5) rfl) rfl
theorem ws_J9_min_7cf53 : Cond.static yJ9_min_7cf53 ∈ TB := to_TB (in_t2 (i := 6) rfl) rfl
theorem wc_J9_min_7cf53 : Cond.code yJ9_min_7cf53 cJ9_min_7cf53 2 (some .int) ∈ TB := to_TB (in_t2 (i := 7) rfl) rfl
theorem wl_X1_34 : Cond.methodLink RX1 34 yX1_eatPonies ∈ TB := to_TB (in_t2 (i := 8) rfl) rfl
theorem wm_X1_eatPonies : Cond.instanceMethod yX1_eatPonies ∈ TB := to_TB (in_t2 (i := 10) rfl) rfl
theorem wc_X1_eatPonies : Cond.code yX1_eatPonies cX1_eatPonies 2 none ∈ TB := to_TB (in_t2 (i := 11) rfl) rfl
theorem wl_X1_78 : Cond.methodLink RX1 78 yX1_devour ∈ TB := to_TB (in_t2 (i := 12) rfl) rfl
theorem wm_X1_devour : Cond.instanceMethod yX1_devour ∈ TB := to_TB (in_t2 (i := 14) rfl) rfl
theorem wc_X1_devour : Cond.code yX1_devour cX1_devour 3 none ∈ TB := to_TB (in_t2 (i := 15) rfl) rfl
theorem wl_X1_85 : Cond.fieldLinkNest RX1 85 "ColdDepots" "FEEDS" "[I" "ColdDepots" ∈ NB := to_NB (in_t2 (i := 16) rfl) rfl
theorem wl_X1_37 : Cond.methodLink RX1 37 yX1_eatBeasts ∈ TB := to_TB (in_t2 (i := 17) rfl) rfl
theorem wm_X1_eatBeasts : Cond.instanceMethod yX1_eatBeasts ∈ TB := to_TB (in_t2 (i := 19) rfl) rfl
theorem wc_X1_eatBeasts : Cond.code yX1_eatBeasts cX1_eatBeasts 3 none ∈ TB := to_TB (in_t2 (i := 20) rfl) rfl
theorem wl_X1_81 : Cond.methodLinkNest RX1 81 yX3_isOf "ColdDepots" ∈ NB := to_NB (in_t2 (i := 21) rfl) rfl
theorem wl_X1_49 : Cond.methodLink RX1 49 yX1_dieOn ∈ TB := to_TB (in_t2 (i := 22) rfl) rfl
theorem wm_X1_dieOn : Cond.instanceMethod yX1_dieOn ∈ TB := to_TB (in_t2 (i := 24) rfl) rfl
theorem wc_X1_dieOn : Cond.code yX1_dieOn cX1_dieOn 2 none ∈ TB := to_TB (in_t2 (i := 25) rfl) rfl
theorem wl_X1_53 : Cond.methodLink RX1 53 yX1_takeUpAt ∈ TB := to_TB (in_t2 (i := 26) rfl) rfl
theorem wm_X1_takeUpAt : Cond.instanceMethod yX1_takeUpAt ∈ TB := to_TB (in_t2 (i := 28) rfl) rfl
theorem wc_X1_takeUpAt : Cond.code yX1_takeUpAt cX1_takeUpAt 3 none ∈ TB := to_TB (in_t2 (i := 29) rfl) rfl
theorem wl_X1_88 : Cond.methodLinkNest RX1 88 yX3_put "ColdDepots" ∈ NB := to_NB (in_t2 (i := 30) rfl) rfl
theorem wl_X3_113 : Cond.methodLink RX3 113 yX3_bestTrial ∈ TB := to_TB (in_t2 (i := 31) rfl) rfl
theorem wm_X3_bestTrial : Cond.instanceMethod yX3_bestTrial ∈ TB := to_TB (in_t2 (i := 33) rfl) rfl
theorem wc_X3_bestTrial : Cond.code yX3_bestTrial cX3_bestTrial 8 (some .int) ∈ TB := to_TB (in_t2 (i := 34) rfl) rfl
theorem wl_X3_187 : Cond.methodLink RX3 187 yJ6_bitCount_0f7a4 ∈ TB := to_TB (in_t2 (i := 35) rfl) rfl
theorem ws_J6_bitCount_0f7a4 : Cond.static yJ6_bitCount_0f7a4 ∈ TB := to_TB (in_t2 (i := 36) rfl) rfl
theorem wc_J6_bitCount_0f7a4 : Cond.code yJ6_bitCount_0f7a4 cJ6_bitCount_0f7a4 1 (some .int) ∈ TB := to_TB (in_t2 (i := 37) rfl) rfl
theorem wl_J6_265 : Cond.constant RJ6 265 1431655765 ∈ TB := to_TB (in_t2 (i := 38) rfl) rfl
theorem wl_J6_266 : Cond.constant RJ6 266 858993459 ∈ TB := to_TB (in_t2 (i := 39) rfl) rfl
theorem wl_J6_267 : Cond.constant RJ6 267 252645135 ∈ TB := to_TB (in_t2 (i := 40) rfl) rfl
theorem wl_X3_214 : Cond.methodLink RX3 214 yX3_mostFoodOf ∈ TB := to_TB (in_t2 (i := 41) rfl) rfl
theorem wm_X3_mostFoodOf : Cond.instanceMethod yX3_mostFoodOf ∈ TB := to_TB (in_t2 (i := 43) rfl) rfl
theorem wc_X3_mostFoodOf : Cond.code yX3_mostFoodOf cX3_mostFoodOf 2 (some .int) ∈ TB := to_TB (in_t2 (i := 44) rfl) rfl
theorem wl_X3_192 : Cond.methodLinkNest RX3 192 yX1_together "ColdDepots" ∈ NB := to_NB (in_t2 (i := 45) rfl) rfl
theorem wl_X3_209 : Cond.methodLink RX3 209 yJ9_min_7cf53 ∈ TB := to_TB (in_t2 (i := 46) rfl) rfl
theorem wl_X3_232 : Cond.methodLink RX3 232 yX3_leftAtWorst ∈ TB := to_TB (in_t2 (i := 47) rfl) rfl
theorem wm_X3_leftAtWorst : Cond.instanceMethod yX3_leftAtWorst ∈ TB := to_TB (in_t2 (i := 49) rfl) rfl
theorem wc_X3_leftAtWorst : Cond.code yX3_leftAtWorst cX3_leftAtWorst 6 (some .int) ∈ TB := to_TB (in_t2 (i := 50) rfl) rfl
theorem wl_X3_236 : Cond.methodLink RX3 236 yJ9_max_7cf53 ∈ TB := to_TB (in_t2 (i := 51) rfl) rfl
theorem ws_J9_max_7cf53 : Cond.static yJ9_max_7cf53 ∈ TB := to_TB (in_t2 (i := 52) rfl) rfl
theorem wc_J9_max_7cf53 : Cond.code yJ9_max_7cf53 cJ9_max_7cf53 2 (some .int) ∈ TB := to_TB (in_t2 (i := 53) rfl) rfl
theorem wl_L_44 : Cond.methodLink RL 44 yX3_lay ∈ TB := to_TB (in_t2 (i := 54) rfl) rfl
theorem wm_X3_lay : Cond.instanceMethod yX3_lay ∈ TB := to_TB (in_t2 (i := 55) rfl) rfl
theorem we_X3_lay : Cond.selects RX3 yX3_lay yX3_lay ∈ TB := to_TB (in_t2 (i := 56) rfl) rfl
theorem wc_X3_lay : Cond.code yX3_lay cX3_lay 4 (some .int) ∈ TB := to_TB (in_t2 (i := 57) rfl) rfl
theorem wl_L_48 : Cond.methodLink RL 48 yX3_march ∈ TB := to_TB (in_t2 (i := 58) rfl) rfl
theorem wm_X3_march : Cond.instanceMethod yX3_march ∈ TB := to_TB (in_t2 (i := 59) rfl) rfl
theorem we_X3_march : Cond.selects RX3 yX3_march yX3_march ∈ TB := to_TB (in_t2 (i := 60) rfl) rfl
theorem wc_X3_march : Cond.code yX3_march cX3_march 4 (some .int) ∈ TB := to_TB (in_t2 (i := 61) rfl) rfl
theorem wl_X3_117 : Cond.methodLink RX3 117 yX3_isNoMarch ∈ TB := to_TB (in_t2 (i := 62) rfl) rfl
theorem wm_X3_isNoMarch : Cond.instanceMethod yX3_isNoMarch ∈ TB := to_TB (in_t2 (i := 64) rfl) rfl
theorem wc_X3_isNoMarch : Cond.code yX3_isNoMarch cX3_isNoMarch 4 (some .boolean) ∈ TB := to_TB (in_t2 (i := 65) rfl) rfl
theorem wl_X3_153 : Cond.methodLink RX3 153 yX3_isNobody ∈ TB := to_TB (in_t2 (i := 66) rfl) rfl
theorem wm_X3_isNobody : Cond.instanceMethod yX3_isNobody ∈ TB := to_TB (in_t2 (i := 68) rfl) rfl
theorem wc_X3_isNobody : Cond.code yX3_isNobody cX3_isNobody 2 (some .boolean) ∈ TB := to_TB (in_t2 (i := 69) rfl) rfl
theorem wl_X3_156 : Cond.methodLink RX3 156 yX3_isNoStage ∈ TB := to_TB (in_t2 (i := 70) rfl) rfl
theorem ws_X3_isNoStage : Cond.static yX3_isNoStage ∈ TB := to_TB (in_t2 (i := 71) rfl) rfl
theorem wc_X3_isNoStage : Cond.code yX3_isNoStage cX3_isNoStage 1 (some .boolean) ∈ TB := to_TB (in_t2 (i := 72) rfl) rfl
theorem wl_X3_121 : Cond.methodLink RX3 121 yX3_anyIsDead ∈ TB := to_TB (in_t2 (i := 73) rfl) rfl
theorem wm_X3_anyIsDead : Cond.instanceMethod yX3_anyIsDead ∈ TB := to_TB (in_t2 (i := 75) rfl) rfl
theorem wc_X3_anyIsDead : Cond.code yX3_anyIsDead cX3_anyIsDead 2 (some .boolean) ∈ TB := to_TB (in_t2 (i := 76) rfl) rfl
theorem wl_X3_133 : Cond.methodLink RX3 133 yX3_copy ∈ TB := to_TB (in_t2 (i := 77) rfl) rfl
theorem wl_L_53 : Cond.methodLink RL 53 yX3_would ∈ TB := to_TB (in_t2 (i := 78) rfl) rfl
theorem wm_X3_would : Cond.instanceMethod yX3_would ∈ TB := to_TB (in_t2 (i := 79) rfl) rfl
theorem we_X3_would : Cond.selects RX3 yX3_would yX3_would ∈ TB := to_TB (in_t2 (i := 80) rfl) rfl
theorem wc_X3_would : Cond.code yX3_would cX3_would 5 (some .int) ∈ TB := to_TB (in_t2 (i := 81) rfl) rfl
theorem wl_X3_146 : Cond.methodLink RX3 146 yX3_sum ∈ TB := to_TB (in_t2 (i := 82) rfl) rfl
theorem ws_X3_sum : Cond.static yX3_sum ∈ TB := to_TB (in_t2 (i := 83) rfl) rfl
theorem wc_X3_sum : Cond.code yX3_sum cX3_sum 3 (some .int) ∈ TB := to_TB (in_t2 (i := 84) rfl) rfl
theorem wl_L_58 : Cond.methodLink RL 58 yX3_need ∈ TB := to_TB (in_t2 (i := 85) rfl) rfl
theorem wm_X3_need : Cond.instanceMethod yX3_need ∈ TB := to_TB (in_t2 (i := 86) rfl) rfl
theorem we_X3_need : Cond.selects RX3 yX3_need yX3_need ∈ TB := to_TB (in_t2 (i := 87) rfl) rfl
theorem wc_X3_need : Cond.code yX3_need cX3_need 3 (some .int) ∈ TB := to_TB (in_t2 (i := 88) rfl) rfl
theorem wl_X3_159 : Cond.methodLink RX3 159 yX3_leastFood ∈ TB := to_TB (in_t2 (i := 89) rfl) rfl
theorem wm_X3_leastFood : Cond.instanceMethod yX3_leastFood ∈ TB := to_TB (in_t2 (i := 91) rfl) rfl
theorem wc_X3_leastFood : Cond.code yX3_leastFood cX3_leastFood 6 (some .int) ∈ TB := to_TB (in_t2 (i := 92) rfl) rfl
theorem wl_L_62 : Cond.methodLink RL 62 yX3_far ∈ TB := to_TB (in_t2 (i := 93) rfl) rfl
theorem wm_X3_far : Cond.instanceMethod yX3_far ∈ TB := to_TB (in_t2 (i := 94) rfl) rfl
theorem we_X3_far : Cond.selects RX3 yX3_far yX3_far ∈ TB := to_TB (in_t2 (i := 95) rfl) rfl
theorem wc_X3_far : Cond.code yX3_far cX3_far 2 (some .int) ∈ TB := to_TB (in_t2 (i := 96) rfl) rfl
theorem wl_X3_163 : Cond.methodLink RX3 163 yX3_farthest ∈ TB := to_TB (in_t2 (i := 97) rfl) rfl
theorem wm_X3_farthest : Cond.instanceMethod yX3_farthest ∈ TB := to_TB (in_t2 (i := 99) rfl) rfl
theorem wc_X3_farthest : Cond.code yX3_farthest cX3_farthest 4 (some .int) ∈ TB := to_TB (in_t2 (i := 100) rfl) rfl
theorem wl_L_66 : Cond.methodLink RL 66 yX3_team ∈ TB := to_TB (in_t2 (i := 101) rfl) rfl
theorem wm_X3_team : Cond.instanceMethod yX3_team ∈ TB := to_TB (in_t2 (i := 102) rfl) rfl
theorem we_X3_team : Cond.selects RX3 yX3_team yX3_team ∈ TB := to_TB (in_t2 (i := 103) rfl) rfl
theorem wc_X3_team : Cond.code yX3_team cX3_team 2 (some .int) ∈ TB := to_TB (in_t2 (i := 104) rfl) rfl
theorem wl_X3_170 : Cond.methodLink RX3 170 yX3_fewest ∈ TB := to_TB (in_t2 (i := 105) rfl) rfl
theorem wm_X3_fewest : Cond.instanceMethod yX3_fewest ∈ TB := to_TB (in_t2 (i := 107) rfl) rfl
theorem wc_X3_fewest : Cond.code yX3_fewest cX3_fewest 6 (some .int) ∈ TB := to_TB (in_t2 (i := 108) rfl) rfl
theorem wl_L_70 : Cond.methodLink RL 70 yX3_hear ∈ TB := to_TB (in_t2 (i := 109) rfl) rfl
theorem wm_X3_hear : Cond.instanceMethod yX3_hear ∈ TB := to_TB (in_t2 (i := 110) rfl) rfl
theorem we_X3_hear : Cond.selects RX3 yX3_hear yX3_hear ∈ TB := to_TB (in_t2 (i := 111) rfl) rfl
theorem wc_X3_hear : Cond.code yX3_hear cX3_hear 5 (some .int) ∈ TB := to_TB (in_t2 (i := 112) rfl) rfl
theorem wl_X3_176 : Cond.methodLinkNest RX3 176 yX2_note "ColdDepots" ∈ NB := to_NB (in_t2 (i := 113) rfl) rfl
theorem wm_X2_note : Cond.instanceMethod yX2_note ∈ TB := to_TB (in_t2 (i := 115) rfl) rfl
theorem wc_X2_note : Cond.code yX2_note cX2_note 5 none ∈ TB := to_TB (in_t2 (i := 116) rfl) rfl
theorem wl_X2_40 : Cond.methodLinkNest RX2 40 yX3_put "ColdDepots" ∈ NB := to_NB (in_t2 (i := 117) rfl) rfl
theorem wl_L_75 : Cond.methodLink RL 75 yX3_forget ∈ TB := to_TB (in_t2 (i := 118) rfl) rfl
theorem wm_X3_forget : Cond.instanceMethod yX3_forget ∈ TB := to_TB (in_t2 (i := 119) rfl) rfl
theorem we_X3_forget : Cond.selects RX3 yX3_forget yX3_forget ∈ TB := to_TB (in_t2 (i := 120) rfl) rfl
theorem wc_X3_forget : Cond.code yX3_forget cX3_forget 2 (some .int) ∈ TB := to_TB (in_t2 (i := 121) rfl) rfl
theorem wl_L_79 : Cond.methodLink RL 79 yX3_winters ∈ TB := to_TB (in_t2 (i := 122) rfl) rfl
theorem wm_X3_winters : Cond.instanceMethod yX3_winters ∈ TB := to_TB (in_t2 (i := 123) rfl) rfl
theorem we_X3_winters : Cond.selects RX3 yX3_winters yX3_winters ∈ TB := to_TB (in_t2 (i := 124) rfl) rfl
theorem wc_X3_winters : Cond.code yX3_winters cX3_winters 5 (some .int) ∈ TB := to_TB (in_t2 (i := 125) rfl) rfl
theorem wl_X3_180 : Cond.methodLink RX3 180 yX3_letCreep ∈ TB := to_TB (in_t2 (i := 126) rfl) rfl
theorem wm_X3_letCreep : Cond.instanceMethod yX3_letCreep ∈ TB := to_TB (in_t2 (i := 128) rfl) rfl
theorem wc_X3_letCreep : Cond.code yX3_letCreep cX3_letCreep 7 (some .int) ∈ TB := to_TB (in_t2 (i := 129) rfl) rfl
theorem wl_X3_239 : Cond.methodLink RX3 239 yX3_nextSeed ∈ TB := to_TB (in_t2 (i := 130) rfl) rfl
theorem ws_X3_nextSeed : Cond.static yX3_nextSeed ∈ TB := to_TB (in_t2 (i := 131) rfl) rfl
theorem wc_X3_nextSeed : Cond.code yX3_nextSeed cX3_nextSeed 1 (some .int) ∈ TB := to_TB (in_t2 (i := 132) rfl) rfl
theorem wl_X3_242 : Cond.constant RX3 242 1103515245 ∈ TB := to_TB (in_t2 (i := 133) rfl) rfl
theorem wl_X3_243 : Cond.constant RX3 243 2147483647 ∈ TB := to_TB (in_t2 (i := 134) rfl) rfl
theorem wl_L_83 : Cond.methodLink RL 83 yX3_image ∈ TB := to_TB (in_t2 (i := 135) rfl) rfl
theorem wm_X3_image : Cond.instanceMethod yX3_image ∈ TB := to_TB (in_t2 (i := 136) rfl) rfl
theorem we_X3_image : Cond.selects RX3 yX3_image yX3_image ∈ TB := to_TB (in_t2 (i := 137) rfl) rfl
theorem wc_X3_image : Cond.code yX3_image cX3_image 1 (some .int) ∈ TB := to_TB (in_t2 (i := 138) rfl) rfl
theorem wl_X3_183 : Cond.methodLinkNest RX3 183 yX2_takeFrom "ColdDepots" ∈ NB := to_NB (in_t2 (i := 139) rfl) rfl
theorem wm_X2_takeFrom : Cond.instanceMethod yX2_takeFrom ∈ TB := to_TB (in_t2 (i := 141) rfl) rfl
theorem wc_X2_takeFrom : Cond.code yX2_takeFrom cX2_takeFrom 2 none ∈ TB := to_TB (in_t2 (i := 142) rfl) rfl
theorem wl_X2_44 : Cond.methodLinkNest RX2 44 yX3_copy "ColdDepots" ∈ NB := to_NB (in_t2 (i := 143) rfl) rfl
theorem wl_L_87 : Cond.methodLink RL 87 yX3_restore ∈ TB := to_TB (in_t2 (i := 144) rfl) rfl
theorem wm_X3_restore : Cond.instanceMethod yX3_restore ∈ TB := to_TB (in_t2 (i := 145) rfl) rfl
theorem we_X3_restore : Cond.selects RX3 yX3_restore yX3_restore ∈ TB := to_TB (in_t2 (i := 146) rfl) rfl
theorem wc_X3_restore : Cond.code yX3_restore cX3_restore 1 (some .int) ∈ TB := to_TB (in_t2 (i := 147) rfl) rfl
theorem wl_L_91 : Cond.methodLink RL 91 yX3_count ∈ TB := to_TB (in_t2 (i := 148) rfl) rfl
theorem wm_X3_count : Cond.instanceMethod yX3_count ∈ TB := to_TB (in_t2 (i := 149) rfl) rfl
theorem we_X3_count : Cond.selects RX3 yX3_count yX3_count ∈ TB := to_TB (in_t2 (i := 150) rfl) rfl
theorem wc_X3_count : Cond.code yX3_count cX3_count 2 (some .int) ∈ TB := to_TB (in_t2 (i := 151) rfl) rfl
theorem wl_L_95 : Cond.methodLink RL 95 yX3_digest ∈ TB := to_TB (in_t2 (i := 152) rfl) rfl
theorem wm_X3_digest : Cond.instanceMethod yX3_digest ∈ TB := to_TB (in_t2 (i := 153) rfl) rfl
theorem we_X3_digest : Cond.selects RX3 yX3_digest yX3_digest ∈ TB := to_TB (in_t2 (i := 154) rfl) rfl
theorem wc_X3_digest : Cond.code yX3_digest cX3_digest 5 (some .long) ∈ TB := to_TB (in_t2 (i := 155) rfl) rfl
theorem wl_X3_195 : Cond.constantLong RX3 195 1051 ∈ TB := to_TB (in_t2 (i := 156) rfl) rfl
theorem wl_X3_197 : Cond.constantLong RX3 197 31 ∈ TB := to_TB (in_t2 (i := 157) rfl) rfl
theorem wl_X3_199 : Cond.methodLink RX3 199 yX3_member ∈ TB := to_TB (in_t2 (i := 158) rfl) rfl
theorem wl_X3_202 : Cond.methodLink RX3 202 yX3_would ∈ TB := to_TB (in_t2 (i := 159) rfl) rfl
theorem wl_X3_206 : Cond.methodLink RX3 206 yX3_count ∈ TB := to_TB (in_t2 (i := 160) rfl) rfl
theorem wl_L_10 : Cond.classLink RL 10 RX4 ∈ TB := to_TB (in_t2 (i := 161) rfl) rfl
theorem wn_X4 : Cond.instantiable RX4 28 ∈ TB := to_TB (in_t2 (i := 162) rfl) rfl
theorem wl_L_12 : Cond.methodLink RL 12 yX4_init ∈ TB := to_TB (in_t2 (i := 163) rfl) rfl
theorem wm_X4_init : Cond.instanceMethod yX4_init ∈ TB := to_TB (in_t2 (i := 164) rfl) rfl
theorem wc_X4_init : Cond.code yX4_init cX4_init 1 none ∈ TB := to_TB (in_t2 (i := 165) rfl) rfl
theorem wl_X4_1 : Cond.methodLink RX4 1 objectInit ∈ TB := to_TB (in_t2 (i := 166) rfl) rfl
theorem wl_X4_7 : Cond.fieldLink RX4 7 "ColdDepotsModel" "page" "[I" ∈ TB := to_TB (in_t2 (i := 167) rfl) rfl
theorem wl_X4_47 : Cond.fieldLink RX4 47 "ColdDepotsModel" "pageMany" "I" ∈ TB := to_TB (in_t2 (i := 168) rfl) rfl
theorem wl_X4_50 : Cond.fieldLink RX4 50 "ColdDepotsModel" "endAt" "I" ∈ TB := to_TB (in_t2 (i := 169) rfl) rfl
theorem wl_X4_69 : Cond.fieldLink RX4 69 "ColdDepotsModel" "members" "I" ∈ TB := to_TB (in_t2 (i := 170) rfl) rfl
theorem wl_X4_72 : Cond.fieldLink RX4 72 "ColdDepotsModel" "living" "I" ∈ TB := to_TB (in_t2 (i := 171) rfl) rfl
theorem wl_X4_75 : Cond.fieldLink RX4 75 "ColdDepotsModel" "marches" "I" ∈ TB := to_TB (in_t2 (i := 172) rfl) rfl
theorem wl_X4_78 : Cond.fieldLink RX4 78 "ColdDepotsModel" "cameHome" "I" ∈ TB := to_TB (in_t2 (i := 173) rfl) rfl
theorem wl_X4_84 : Cond.fieldLink RX4 84 "ColdDepotsModel" "campsRead" "I" ∈ TB := to_TB (in_t2 (i := 174) rfl) rfl
theorem wl_X4_13 : Cond.fieldLink RX4 13 "ColdDepotsModel" "kinds" "[I" ∈ TB := to_TB (in_t2 (i := 175) rfl) rfl
theorem wl_X4_16 : Cond.fieldLink RX4 16 "ColdDepotsModel" "foods" "[I" ∈ TB := to_TB (in_t2 (i := 176) rfl) rfl
theorem wl_X4_125 : Cond.fieldLink RX4 125 "ColdDepotsModel" "party" "I" ∈ TB := to_TB (in_t2 (i := 177) rfl) rfl
theorem wl_X4_128 : Cond.fieldLink RX4 128 "ColdDepotsModel" "carried" "I" ∈ TB := to_TB (in_t2 (i := 178) rfl) rfl
theorem wl_X4_152 : Cond.fieldLink RX4 152 "ColdDepotsModel" "diedOn" "I" ∈ TB := to_TB (in_t2 (i := 179) rfl) rfl
theorem wl_X4_19 : Cond.fieldLink RX4 19 "ColdDepotsModel" "left" "[I" ∈ TB := to_TB (in_t2 (i := 180) rfl) rfl
theorem wl_X4_199 : Cond.fieldLink RX4 199 "ColdDepotsModel" "teamsDone" "I" ∈ TB := to_TB (in_t2 (i := 181) rfl) rfl
theorem wl_X4_81 : Cond.fieldLink RX4 81 "ColdDepotsModel" "heardMany" "I" ∈ TB := to_TB (in_t2 (i := 182) rfl) rfl
theorem wl_X4_22 : Cond.fieldLink RX4 22 "ColdDepotsModel" "heards" "[I" ∈ TB := to_TB (in_t2 (i := 183) rfl) rfl
theorem wl_X4_25 : Cond.fieldLink RX4 25 "ColdDepotsModel" "other" "[I" ∈ TB := to_TB (in_t2 (i := 184) rfl) rfl
theorem wl_X4_207 : Cond.fieldLink RX4 207 "ColdDepotsModel" "seedNow" "I" ∈ TB := to_TB (in_t2 (i := 185) rfl) rfl
theorem wl_X4_28 : Cond.fieldLink RX4 28 "ColdDepotsModel" "then" "[I" ∈ TB := to_TB (in_t2 (i := 186) rfl) rfl
theorem wl_X4_37 : Cond.fieldLink RX4 37 "ColdDepotsModel" "keptCamp" "I" ∈ TB := to_TB (in_t2 (i := 187) rfl) rfl
theorem wl_X4_222 : Cond.fieldLink RX4 222 "ColdDepotsModel" "keptLiving" "I" ∈ TB := to_TB (in_t2 (i := 188) rfl) rfl
theorem wl_X4_225 : Cond.fieldLink RX4 225 "ColdDepotsModel" "keptMarches" "I" ∈ TB := to_TB (in_t2 (i := 189) rfl) rfl
theorem wl_X4_228 : Cond.fieldLink RX4 228 "ColdDepotsModel" "keptHome" "I" ∈ TB := to_TB (in_t2 (i := 190) rfl) rfl
theorem wl_X4_231 : Cond.fieldLink RX4 231 "ColdDepotsModel" "keptHeard" "I" ∈ TB := to_TB (in_t2 (i := 191) rfl) rfl
theorem wl_X4_31 : Cond.fieldLink RX4 31 "ColdDepotsModel" "keptFoods" "[I" ∈ TB := to_TB (in_t2 (i := 192) rfl) rfl
theorem wl_X4_34 : Cond.fieldLink RX4 34 "ColdDepotsModel" "keptHeards" "[I" ∈ TB := to_TB (in_t2 (i := 193) rfl) rfl
theorem wl_X4_239 : Cond.fieldLink RX4 239 "ColdDepotsModel" "hash" "J" ∈ TB := to_TB (in_t2 (i := 194) rfl) rfl
theorem wl_L_17 : Cond.methodLink RL 17 yX4_letter ∈ TB := to_TB (in_t3 (i := 12) rfl) rfl
theorem wm_X4_letter : Cond.instanceMethod yX4_letter ∈ TB := to_TB (in_t3 (i := 13) rfl) rfl
theorem we_X4_letter : Cond.selects RX4 yX4_letter yX4_letter ∈ TB := to_TB (in_t3 (i := 14) rfl) rfl
theorem wc_X4_letter : Cond.code yX4_letter cX4_letter 2 (some .int) ∈ TB := to_TB (in_t3 (i := 15) rfl) rfl
theorem wl_X4_41 : Cond.constantLong RX4 41 126 ∈ TB := to_TB (in_t3 (i := 16) rfl) rfl
theorem wl_X4_43 : Cond.methodLink RX4 43 yX4_in ∈ TB := to_TB (in_t3 (i := 17) rfl) rfl
theorem ws_X4_in : Cond.static yX4_in ∈ TB := to_TB (in_t3 (i := 18) rfl) rfl
theorem wc_X4_in : Cond.code yX4_in cX4_in 6 (some .boolean) ∈ TB := to_TB (in_t3 (i := 19) rfl) rfl
theorem wl_L_22 : Cond.methodLink RL 22 yX4_blank ∈ TB := to_TB (in_t3 (i := 20) rfl) rfl
theorem wm_X4_blank : Cond.instanceMethod yX4_blank ∈ TB := to_TB (in_t3 (i := 21) rfl) rfl
theorem we_X4_blank : Cond.selects RX4 yX4_blank yX4_blank ∈ TB := to_TB (in_t3 (i := 22) rfl) rfl
theorem wc_X4_blank : Cond.code yX4_blank cX4_blank 2 (some .int) ∈ TB := to_TB (in_t3 (i := 23) rfl) rfl
theorem wl_L_26 : Cond.methodLink RL 26 yX4_fault ∈ TB := to_TB (in_t3 (i := 24) rfl) rfl
theorem wm_X4_fault : Cond.instanceMethod yX4_fault ∈ TB := to_TB (in_t3 (i := 25) rfl) rfl
theorem we_X4_fault : Cond.selects RX4 yX4_fault yX4_fault ∈ TB := to_TB (in_t3 (i := 26) rfl) rfl
theorem wc_X4_fault : Cond.code yX4_fault cX4_fault 1 (some .int) ∈ TB := to_TB (in_t3 (i := 27) rfl) rfl
theorem wl_X4_65 : Cond.methodLink RX4 65 yX4_faultOf ∈ TB := to_TB (in_t3 (i := 28) rfl) rfl
theorem wm_X4_faultOf : Cond.instanceMethod yX4_faultOf ∈ TB := to_TB (in_t3 (i := 30) rfl) rfl
theorem wc_X4_faultOf : Cond.code yX4_faultOf cX4_faultOf 2 (some .int) ∈ TB := to_TB (in_t3 (i := 31) rfl) rfl
theorem wl_X4_61 : Cond.methodLink RX4 61 yX4_isGood ∈ TB := to_TB (in_t3 (i := 32) rfl) rfl
theorem wm_X4_isGood : Cond.instanceMethod yX4_isGood ∈ TB := to_TB (in_t3 (i := 34) rfl) rfl
theorem wc_X4_isGood : Cond.code yX4_isGood cX4_isGood 3 (some .boolean) ∈ TB := to_TB (in_t3 (i := 35) rfl) rfl
theorem wl_X4_53 : Cond.constantLong RX4 53 48 ∈ TB := to_TB (in_t3 (i := 36) rfl) rfl
theorem wl_X4_55 : Cond.constantLong RX4 55 57 ∈ TB := to_TB (in_t3 (i := 37) rfl) rfl
theorem wl_X4_57 : Cond.methodLink RX4 57 yX4_kindBy ∈ TB := to_TB (in_t3 (i := 38) rfl) rfl
theorem ws_X4_kindBy : Cond.static yX4_kindBy ∈ TB := to_TB (in_t3 (i := 39) rfl) rfl
theorem wc_X4_kindBy : Cond.code yX4_kindBy cX4_kindBy 1 (some .int) ∈ TB := to_TB (in_t3 (i := 40) rfl) rfl
theorem wl_L_30 : Cond.methodLink RL 30 yX4_camp ∈ TB := to_TB (in_t3 (i := 41) rfl) rfl
theorem wm_X4_camp : Cond.instanceMethod yX4_camp ∈ TB := to_TB (in_t3 (i := 42) rfl) rfl
theorem we_X4_camp : Cond.selects RX4 yX4_camp yX4_camp ∈ TB := to_TB (in_t3 (i := 43) rfl) rfl
theorem wc_X4_camp : Cond.code yX4_camp cX4_camp 2 (some .int) ∈ TB := to_TB (in_t3 (i := 44) rfl) rfl
theorem wl_L_35 : Cond.methodLink RL 35 yX4_member ∈ TB := to_TB (in_t3 (i := 45) rfl) rfl
theorem wm_X4_member : Cond.instanceMethod yX4_member ∈ TB := to_TB (in_t3 (i := 46) rfl) rfl
theorem we_X4_member : Cond.selects RX4 yX4_member yX4_member ∈ TB := to_TB (in_t3 (i := 47) rfl) rfl
theorem wc_X4_member : Cond.code yX4_member cX4_member 3 (some .int) ∈ TB := to_TB (in_t3 (i := 48) rfl) rfl
theorem wl_X4_102 : Cond.methodLink RX4 102 yX4_isMember ∈ TB := to_TB (in_t3 (i := 49) rfl) rfl
theorem wm_X4_isMember : Cond.instanceMethod yX4_isMember ∈ TB := to_TB (in_t3 (i := 51) rfl) rfl
theorem wc_X4_isMember : Cond.code yX4_isMember cX4_isMember 2 (some .boolean) ∈ TB := to_TB (in_t3 (i := 52) rfl) rfl
theorem wl_X4_105 : Cond.methodLink RX4 105 yX4_tellMember ∈ TB := to_TB (in_t3 (i := 53) rfl) rfl
theorem wm_X4_tellMember : Cond.instanceMethod yX4_tellMember ∈ TB := to_TB (in_t3 (i := 55) rfl) rfl
theorem wc_X4_tellMember : Cond.code yX4_tellMember cX4_tellMember 3 (some .int) ∈ TB := to_TB (in_t3 (i := 56) rfl) rfl
theorem wl_X4_93 : Cond.methodLink RX4 93 yX4_pullsOf ∈ TB := to_TB (in_t3 (i := 57) rfl) rfl
theorem wm_X4_pullsOf : Cond.instanceMethod yX4_pullsOf ∈ TB := to_TB (in_t3 (i := 59) rfl) rfl
theorem wc_X4_pullsOf : Cond.code yX4_pullsOf cX4_pullsOf 2 (some .int) ∈ TB := to_TB (in_t3 (i := 60) rfl) rfl
theorem wl_X4_96 : Cond.methodLink RX4 96 yX4_eatsOf ∈ TB := to_TB (in_t3 (i := 61) rfl) rfl
theorem wm_X4_eatsOf : Cond.instanceMethod yX4_eatsOf ∈ TB := to_TB (in_t3 (i := 63) rfl) rfl
theorem wc_X4_eatsOf : Cond.code yX4_eatsOf cX4_eatsOf 2 (some .int) ∈ TB := to_TB (in_t3 (i := 64) rfl) rfl
theorem wl_X4_99 : Cond.methodLink RX4 99 yX4_feedsOf ∈ TB := to_TB (in_t3 (i := 65) rfl) rfl
theorem wm_X4_feedsOf : Cond.instanceMethod yX4_feedsOf ∈ TB := to_TB (in_t3 (i := 67) rfl) rfl
theorem wc_X4_feedsOf : Cond.code yX4_feedsOf cX4_feedsOf 2 (some .int) ∈ TB := to_TB (in_t3 (i := 68) rfl) rfl
theorem wl_L_39 : Cond.methodLink RL 39 yX4_as ∈ TB := to_TB (in_t3 (i := 69) rfl) rfl
theorem wm_X4_as : Cond.instanceMethod yX4_as ∈ TB := to_TB (in_t3 (i := 70) rfl) rfl
theorem we_X4_as : Cond.selects RX4 yX4_as yX4_as ∈ TB := to_TB (in_t3 (i := 71) rfl) rfl
theorem wc_X4_as : Cond.code yX4_as cX4_as 5 (some .int) ∈ TB := to_TB (in_t3 (i := 72) rfl) rfl
theorem wl_X4_109 : Cond.constantLong RX4 109 4 ∈ TB := to_TB (in_t3 (i := 73) rfl) rfl
theorem wl_L_43 : Cond.methodLink RL 43 yX4_cairn ∈ TB := to_TB (in_t3 (i := 74) rfl) rfl
theorem wm_X4_cairn : Cond.instanceMethod yX4_cairn ∈ TB := to_TB (in_t3 (i := 75) rfl) rfl
theorem we_X4_cairn : Cond.selects RX4 yX4_cairn yX4_cairn ∈ TB := to_TB (in_t3 (i := 76) rfl) rfl
theorem wc_X4_cairn : Cond.code yX4_cairn cX4_cairn 3 (some .int) ∈ TB := to_TB (in_t3 (i := 77) rfl) rfl
theorem wl_X4_117 : Cond.methodLink RX4 117 yX4_isCairn ∈ TB := to_TB (in_t3 (i := 78) rfl) rfl
theorem wm_X4_isCairn : Cond.instanceMethod yX4_isCairn ∈ TB := to_TB (in_t3 (i := 80) rfl) rfl
theorem wc_X4_isCairn : Cond.code yX4_isCairn cX4_isCairn 2 (some .boolean) ∈ TB := to_TB (in_t3 (i := 81) rfl) rfl
theorem wl_X4_87 : Cond.methodLink RX4 87 yX4_lacks ∈ TB := to_TB (in_t3 (i := 82) rfl) rfl
theorem wm_X4_lacks : Cond.instanceMethod yX4_lacks ∈ TB := to_TB (in_t3 (i := 84) rfl) rfl
theorem wc_X4_lacks : Cond.code yX4_lacks cX4_lacks 1 (some .boolean) ∈ TB := to_TB (in_t3 (i := 85) rfl) rfl
theorem wl_X4_91 : Cond.constantLong RX4 91 5 ∈ TB := to_TB (in_t3 (i := 86) rfl) rfl
theorem wl_X4_120 : Cond.methodLink RX4 120 yX4_tellCairn ∈ TB := to_TB (in_t3 (i := 87) rfl) rfl
theorem wm_X4_tellCairn : Cond.instanceMethod yX4_tellCairn ∈ TB := to_TB (in_t3 (i := 89) rfl) rfl
theorem wc_X4_tellCairn : Cond.code yX4_tellCairn cX4_tellCairn 3 (some .int) ∈ TB := to_TB (in_t3 (i := 90) rfl) rfl
theorem wl_X4_111 : Cond.methodLink RX4 111 yX4_layOf ∈ TB := to_TB (in_t3 (i := 91) rfl) rfl
theorem wm_X4_layOf : Cond.instanceMethod yX4_layOf ∈ TB := to_TB (in_t3 (i := 93) rfl) rfl
theorem wc_X4_layOf : Cond.code yX4_layOf cX4_layOf 7 (some .int) ∈ TB := to_TB (in_t3 (i := 94) rfl) rfl
theorem wl_X4_148 : Cond.methodLink RX4 148 yX4_copy ∈ TB := to_TB (in_t3 (i := 95) rfl) rfl
theorem ws_X4_copy : Cond.static yX4_copy ∈ TB := to_TB (in_t3 (i := 96) rfl) rfl
theorem wc_X4_copy : Cond.code yX4_copy cX4_copy 3 none ∈ TB := to_TB (in_t3 (i := 97) rfl) rfl
theorem wl_X4_184 : Cond.methodLink RX4 184 yX4_comesHome ∈ TB := to_TB (in_t3 (i := 98) rfl) rfl
theorem wm_X4_comesHome : Cond.instanceMethod yX4_comesHome ∈ TB := to_TB (in_t3 (i := 100) rfl) rfl
theorem wc_X4_comesHome : Cond.code yX4_comesHome cX4_comesHome 5 (some .boolean) ∈ TB := to_TB (in_t3 (i := 101) rfl) rfl
theorem wl_X4_159 : Cond.methodLink RX4 159 yX4_goMarch ∈ TB := to_TB (in_t3 (i := 102) rfl) rfl
theorem wm_X4_goMarch : Cond.instanceMethod yX4_goMarch ∈ TB := to_TB (in_t3 (i := 104) rfl) rfl
theorem wc_X4_goMarch : Cond.code yX4_goMarch cX4_goMarch 8 none ∈ TB := to_TB (in_t3 (i := 105) rfl) rfl
theorem wl_X4_131 : Cond.methodLink RX4 131 yX4_keepPulled ∈ TB := to_TB (in_t3 (i := 106) rfl) rfl
theorem wm_X4_keepPulled : Cond.instanceMethod yX4_keepPulled ∈ TB := to_TB (in_t3 (i := 108) rfl) rfl
theorem wc_X4_keepPulled : Cond.code yX4_keepPulled cX4_keepPulled 2 none ∈ TB := to_TB (in_t3 (i := 109) rfl) rfl
theorem wl_X4_134 : Cond.methodLink RX4 134 yX4_pullOf ∈ TB := to_TB (in_t3 (i := 110) rfl) rfl
theorem wm_X4_pullOf : Cond.instanceMethod yX4_pullOf ∈ TB := to_TB (in_t3 (i := 112) rfl) rfl
theorem wc_X4_pullOf : Cond.code yX4_pullOf cX4_pullOf 4 (some .int) ∈ TB := to_TB (in_t3 (i := 113) rfl) rfl
theorem wl_X4_155 : Cond.methodLink RX4 155 yX4_goStage ∈ TB := to_TB (in_t3 (i := 114) rfl) rfl
theorem wm_X4_goStage : Cond.instanceMethod yX4_goStage ∈ TB := to_TB (in_t3 (i := 116) rfl) rfl
theorem wc_X4_goStage : Cond.code yX4_goStage cX4_goStage 6 (some .boolean) ∈ TB := to_TB (in_t3 (i := 117) rfl) rfl
theorem wl_X4_137 : Cond.methodLink RX4 137 yX4_lastOf ∈ TB := to_TB (in_t3 (i := 118) rfl) rfl
theorem wm_X4_lastOf : Cond.instanceMethod yX4_lastOf ∈ TB := to_TB (in_t3 (i := 120) rfl) rfl
theorem wc_X4_lastOf : Cond.code yX4_lastOf cX4_lastOf 6 (some .int) ∈ TB := to_TB (in_t3 (i := 121) rfl) rfl
theorem wl_X4_141 : Cond.methodLink RX4 141 yX4_eatBeast ∈ TB := to_TB (in_t3 (i := 122) rfl) rfl
theorem wm_X4_eatBeast : Cond.instanceMethod yX4_eatBeast ∈ TB := to_TB (in_t3 (i := 124) rfl) rfl
theorem wc_X4_eatBeast : Cond.code yX4_eatBeast cX4_eatBeast 2 none ∈ TB := to_TB (in_t3 (i := 125) rfl) rfl
theorem wl_X4_145 : Cond.methodLink RX4 145 yX4_eatOf ∈ TB := to_TB (in_t3 (i := 126) rfl) rfl
theorem wm_X4_eatOf : Cond.instanceMethod yX4_eatOf ∈ TB := to_TB (in_t3 (i := 128) rfl) rfl
theorem wc_X4_eatOf : Cond.code yX4_eatOf cX4_eatOf 4 (some .int) ∈ TB := to_TB (in_t3 (i := 129) rfl) rfl
theorem wl_X4_114 : Cond.methodLink RX4 114 yX4_tryOf ∈ TB := to_TB (in_t3 (i := 130) rfl) rfl
theorem wm_X4_tryOf : Cond.instanceMethod yX4_tryOf ∈ TB := to_TB (in_t3 (i := 132) rfl) rfl
theorem wc_X4_tryOf : Cond.code yX4_tryOf cX4_tryOf 9 (some .int) ∈ TB := to_TB (in_t3 (i := 133) rfl) rfl
theorem wl_L_47 : Cond.methodLink RL 47 yX4_lay ∈ TB := to_TB (in_t3 (i := 134) rfl) rfl
theorem wm_X4_lay : Cond.instanceMethod yX4_lay ∈ TB := to_TB (in_t3 (i := 135) rfl) rfl
theorem we_X4_lay : Cond.selects RX4 yX4_lay yX4_lay ∈ TB := to_TB (in_t3 (i := 136) rfl) rfl
theorem wc_X4_lay : Cond.code yX4_lay cX4_lay 4 (some .int) ∈ TB := to_TB (in_t3 (i := 137) rfl) rfl
theorem wl_X4_123 : Cond.constantLong RX4 123 9 ∈ TB := to_TB (in_t3 (i := 138) rfl) rfl
theorem wl_L_52 : Cond.methodLink RL 52 yX4_march ∈ TB := to_TB (in_t3 (i := 139) rfl) rfl
theorem wm_X4_march : Cond.instanceMethod yX4_march ∈ TB := to_TB (in_t3 (i := 140) rfl) rfl
theorem we_X4_march : Cond.selects RX4 yX4_march yX4_march ∈ TB := to_TB (in_t3 (i := 141) rfl) rfl
theorem wc_X4_march : Cond.code yX4_march cX4_march 4 (some .int) ∈ TB := to_TB (in_t3 (i := 142) rfl) rfl
theorem wl_X4_170 : Cond.methodLink RX4 170 yX4_isMarch ∈ TB := to_TB (in_t3 (i := 143) rfl) rfl
theorem wm_X4_isMarch : Cond.instanceMethod yX4_isMarch ∈ TB := to_TB (in_t3 (i := 145) rfl) rfl
theorem wc_X4_isMarch : Cond.code yX4_isMarch cX4_isMarch 4 (some .boolean) ∈ TB := to_TB (in_t3 (i := 146) rfl) rfl
theorem wl_X4_163 : Cond.methodLink RX4 163 yX4_areMembers ∈ TB := to_TB (in_t3 (i := 147) rfl) rfl
theorem wm_X4_areMembers : Cond.instanceMethod yX4_areMembers ∈ TB := to_TB (in_t3 (i := 149) rfl) rfl
theorem wc_X4_areMembers : Cond.code yX4_areMembers cX4_areMembers 2 (some .boolean) ∈ TB := to_TB (in_t3 (i := 150) rfl) rfl
theorem wl_X4_166 : Cond.constantLong RX4 166 6 ∈ TB := to_TB (in_t3 (i := 151) rfl) rfl
theorem wl_X4_168 : Cond.constantLong RX4 168 40 ∈ TB := to_TB (in_t3 (i := 152) rfl) rfl
theorem wl_L_57 : Cond.methodLink RL 57 yX4_would ∈ TB := to_TB (in_t3 (i := 153) rfl) rfl
theorem wm_X4_would : Cond.instanceMethod yX4_would ∈ TB := to_TB (in_t3 (i := 154) rfl) rfl
theorem we_X4_would : Cond.selects RX4 yX4_would yX4_would ∈ TB := to_TB (in_t3 (i := 155) rfl) rfl
theorem wc_X4_would : Cond.code yX4_would cX4_would 5 (some .int) ∈ TB := to_TB (in_t3 (i := 156) rfl) rfl
theorem wl_X4_178 : Cond.constantLong RX4 178 3 ∈ TB := to_TB (in_t3 (i := 157) rfl) rfl
theorem wl_X4_180 : Cond.methodLink RX4 180 yX4_wouldOf ∈ TB := to_TB (in_t3 (i := 158) rfl) rfl
theorem wm_X4_wouldOf : Cond.instanceMethod yX4_wouldOf ∈ TB := to_TB (in_t3 (i := 160) rfl) rfl
theorem wc_X4_wouldOf : Cond.code yX4_wouldOf cX4_wouldOf 5 (some .int) ∈ TB := to_TB (in_t3 (i := 161) rfl) rfl
theorem wl_X4_174 : Cond.methodLink RX4 174 yX4_sumOf ∈ TB := to_TB (in_t3 (i := 162) rfl) rfl
theorem ws_X4_sumOf : Cond.static yX4_sumOf ∈ TB := to_TB (in_t3 (i := 163) rfl) rfl
theorem wc_X4_sumOf : Cond.code yX4_sumOf cX4_sumOf 3 (some .int) ∈ TB := to_TB (in_t3 (i := 164) rfl) rfl
theorem wl_L_61 : Cond.methodLink RL 61 yX4_need ∈ TB := to_TB (in_t3 (i := 165) rfl) rfl
theorem wm_X4_need : Cond.instanceMethod yX4_need ∈ TB := to_TB (in_t3 (i := 166) rfl) rfl
theorem we_X4_need : Cond.selects RX4 yX4_need yX4_need ∈ TB := to_TB (in_t3 (i := 167) rfl) rfl
theorem wc_X4_need : Cond.code yX4_need cX4_need 3 (some .int) ∈ TB := to_TB (in_t3 (i := 168) rfl) rfl
theorem wl_X4_188 : Cond.methodLink RX4 188 yX4_needOf ∈ TB := to_TB (in_t3 (i := 169) rfl) rfl
theorem wm_X4_needOf : Cond.instanceMethod yX4_needOf ∈ TB := to_TB (in_t3 (i := 171) rfl) rfl
theorem wc_X4_needOf : Cond.code yX4_needOf cX4_needOf 6 (some .int) ∈ TB := to_TB (in_t3 (i := 172) rfl) rfl
theorem wl_L_65 : Cond.methodLink RL 65 yX4_far ∈ TB := to_TB (in_t3 (i := 173) rfl) rfl
theorem wm_X4_far : Cond.instanceMethod yX4_far ∈ TB := to_TB (in_t3 (i := 174) rfl) rfl
theorem we_X4_far : Cond.selects RX4 yX4_far yX4_far ∈ TB := to_TB (in_t3 (i := 175) rfl) rfl
theorem wc_X4_far : Cond.code yX4_far cX4_far 2 (some .int) ∈ TB := to_TB (in_t3 (i := 176) rfl) rfl
theorem wl_X4_192 : Cond.methodLink RX4 192 yX4_farOf ∈ TB := to_TB (in_t3 (i := 177) rfl) rfl
theorem wm_X4_farOf : Cond.instanceMethod yX4_farOf ∈ TB := to_TB (in_t3 (i := 179) rfl) rfl
theorem wc_X4_farOf : Cond.code yX4_farOf cX4_farOf 5 (some .int) ∈ TB := to_TB (in_t3 (i := 180) rfl) rfl
theorem wl_L_69 : Cond.methodLink RL 69 yX4_team ∈ TB := to_TB (in_t3 (i := 181) rfl) rfl
theorem wm_X4_team : Cond.instanceMethod yX4_team ∈ TB := to_TB (in_t3 (i := 182) rfl) rfl
theorem we_X4_team : Cond.selects RX4 yX4_team yX4_team ∈ TB := to_TB (in_t3 (i := 183) rfl) rfl
theorem wc_X4_team : Cond.code yX4_team cX4_team 2 (some .int) ∈ TB := to_TB (in_t3 (i := 184) rfl) rfl
theorem wl_X4_202 : Cond.methodLink RX4 202 yX4_teamOf ∈ TB := to_TB (in_t3 (i := 185) rfl) rfl
theorem wm_X4_teamOf : Cond.instanceMethod yX4_teamOf ∈ TB := to_TB (in_t3 (i := 187) rfl) rfl
theorem wc_X4_teamOf : Cond.code yX4_teamOf cX4_teamOf 5 (some .int) ∈ TB := to_TB (in_t3 (i := 188) rfl) rfl
theorem wl_X4_196 : Cond.methodLink RX4 196 yX4_ones ∈ TB := to_TB (in_t3 (i := 189) rfl) rfl
theorem ws_X4_ones : Cond.static yX4_ones ∈ TB := to_TB (in_t3 (i := 190) rfl) rfl
theorem wc_X4_ones : Cond.code yX4_ones cX4_ones 3 (some .int) ∈ TB := to_TB (in_t3 (i := 191) rfl) rfl
theorem wl_L_74 : Cond.methodLink RL 74 yX4_hear ∈ TB := to_TB (in_t3 (i := 192) rfl) rfl
theorem wm_X4_hear : Cond.instanceMethod yX4_hear ∈ TB := to_TB (in_t3 (i := 193) rfl) rfl
theorem we_X4_hear : Cond.selects RX4 yX4_hear yX4_hear ∈ TB := to_TB (in_t3 (i := 194) rfl) rfl
theorem wc_X4_hear : Cond.code yX4_hear cX4_hear 5 (some .int) ∈ TB := to_TB (in_t3 (i := 195) rfl) rfl
theorem wl_L_78 : Cond.methodLink RL 78 yX4_forget ∈ TB := to_TB (in_t3 (i := 196) rfl) rfl
theorem wm_X4_forget : Cond.instanceMethod yX4_forget ∈ TB := to_TB (in_t3 (i := 197) rfl) rfl
theorem we_X4_forget : Cond.selects RX4 yX4_forget yX4_forget ∈ TB := to_TB (in_t3 (i := 198) rfl) rfl
theorem wc_X4_forget : Cond.code yX4_forget cX4_forget 2 (some .int) ∈ TB := to_TB (in_t3 (i := 199) rfl) rfl
theorem wl_L_82 : Cond.methodLink RL 82 yX4_winters ∈ TB := to_TB (in_t3 (i := 200) rfl) rfl
theorem wm_X4_winters : Cond.instanceMethod yX4_winters ∈ TB := to_TB (in_t3 (i := 201) rfl) rfl
theorem we_X4_winters : Cond.selects RX4 yX4_winters yX4_winters ∈ TB := to_TB (in_t3 (i := 202) rfl) rfl
theorem wc_X4_winters : Cond.code yX4_winters cX4_winters 7 (some .int) ∈ TB := to_TB (in_t3 (i := 203) rfl) rfl
theorem wl_X4_215 : Cond.constantLong RX4 215 20 ∈ TB := to_TB (in_t3 (i := 204) rfl) rfl
theorem wl_X4_217 : Cond.constantLong RX4 217 2 ∈ TB := to_TB (in_t3 (i := 205) rfl) rfl
theorem wl_X4_219 : Cond.methodLink RX4 219 yX4_draw ∈ TB := to_TB (in_t3 (i := 206) rfl) rfl
theorem wm_X4_draw : Cond.instanceMethod yX4_draw ∈ TB := to_TB (in_t3 (i := 208) rfl) rfl
theorem wc_X4_draw : Cond.code yX4_draw cX4_draw 2 (some .int) ∈ TB := to_TB (in_t3 (i := 209) rfl) rfl
theorem wl_X4_205 : Cond.constantLong RX4 205 1103515245 ∈ TB := to_TB (in_t3 (i := 210) rfl) rfl
theorem wl_X4_210 : Cond.constantLong RX4 210 12345 ∈ TB := to_TB (in_t3 (i := 211) rfl) rfl
theorem wl_X4_212 : Cond.constantLong RX4 212 2147483647 ∈ TB := to_TB (in_t3 (i := 212) rfl) rfl
theorem wl_X4_214 : Cond.constant RX4 214 65536 ∈ TB := to_TB (in_t3 (i := 213) rfl) rfl
theorem wl_L_86 : Cond.methodLink RL 86 yX4_image ∈ TB := to_TB (in_t3 (i := 214) rfl) rfl
theorem wm_X4_image : Cond.instanceMethod yX4_image ∈ TB := to_TB (in_t3 (i := 215) rfl) rfl
theorem we_X4_image : Cond.selects RX4 yX4_image yX4_image ∈ TB := to_TB (in_t3 (i := 216) rfl) rfl
theorem wc_X4_image : Cond.code yX4_image cX4_image 1 (some .int) ∈ TB := to_TB (in_t3 (i := 217) rfl) rfl
theorem wl_L_90 : Cond.methodLink RL 90 yX4_restore ∈ TB := to_TB (in_t3 (i := 218) rfl) rfl
theorem wm_X4_restore : Cond.instanceMethod yX4_restore ∈ TB := to_TB (in_t3 (i := 219) rfl) rfl
theorem we_X4_restore : Cond.selects RX4 yX4_restore yX4_restore ∈ TB := to_TB (in_t3 (i := 220) rfl) rfl
theorem wc_X4_restore : Cond.code yX4_restore cX4_restore 1 (some .int) ∈ TB := to_TB (in_t3 (i := 221) rfl) rfl
theorem wl_L_94 : Cond.methodLink RL 94 yX4_count ∈ TB := to_TB (in_t3 (i := 222) rfl) rfl
theorem wm_X4_count : Cond.instanceMethod yX4_count ∈ TB := to_TB (in_t3 (i := 223) rfl) rfl
theorem we_X4_count : Cond.selects RX4 yX4_count yX4_count ∈ TB := to_TB (in_t3 (i := 224) rfl) rfl
theorem wc_X4_count : Cond.code yX4_count cX4_count 2 (some .int) ∈ TB := to_TB (in_t3 (i := 225) rfl) rfl
theorem wl_X4_234 : Cond.methodLink RX4 234 yX4_countOf ∈ TB := to_TB (in_t3 (i := 226) rfl) rfl
theorem wm_X4_countOf : Cond.instanceMethod yX4_countOf ∈ TB := to_TB (in_t3 (i := 228) rfl) rfl
theorem wc_X4_countOf : Cond.code yX4_countOf cX4_countOf 2 (some .int) ∈ TB := to_TB (in_t3 (i := 229) rfl) rfl
theorem wl_L_99 : Cond.methodLink RL 99 yX4_digest ∈ TB := to_TB (in_t3 (i := 230) rfl) rfl
theorem wm_X4_digest : Cond.instanceMethod yX4_digest ∈ TB := to_TB (in_t3 (i := 231) rfl) rfl
theorem we_X4_digest : Cond.selects RX4 yX4_digest yX4_digest ∈ TB := to_TB (in_t3 (i := 232) rfl) rfl
theorem wc_X4_digest : Cond.code yX4_digest cX4_digest 3 (some .long) ∈ TB := to_TB (in_t3 (i := 233) rfl) rfl
theorem wl_X4_243 : Cond.constantLong RX4 243 1051 ∈ TB := to_TB (in_t3 (i := 234) rfl) rfl
theorem wl_X4_245 : Cond.methodLink RX4 245 yX4_say ∈ TB := to_TB (in_t3 (i := 235) rfl) rfl
theorem wm_X4_say : Cond.instanceMethod yX4_say ∈ TB := to_TB (in_t3 (i := 237) rfl) rfl
theorem wc_X4_say : Cond.code yX4_say cX4_say 3 none ∈ TB := to_TB (in_t3 (i := 238) rfl) rfl
theorem wl_X4_237 : Cond.constantLong RX4 237 31 ∈ TB := to_TB (in_t3 (i := 239) rfl) rfl
theorem we_X0_add : Cond.selects RX0 yX0_add yX0_add ∈ TB := to_TB (in_sel (in_p1 (i := 0) rfl)) rfl
theorem we_X0_firstWrong : Cond.selects RX0 yX0_firstWrong yX0_firstWrong ∈ TB := to_TB (in_sel (in_p1 (i := 1) rfl)) rfl
theorem we_X0_codeAt : Cond.selects RX0 yX0_codeAt yX0_codeAt ∈ TB := to_TB (in_sel (in_p1 (i := 2) rfl)) rfl
theorem we_X0_isCamp : Cond.selects RX0 yX0_isCamp yX0_isCamp ∈ TB := to_TB (in_sel (in_p1 (i := 3) rfl)) rfl
theorem we_X1_all : Cond.selects RX1 yX1_all yX1_all ∈ TB := to_TB (in_sel (in_p1 (i := 4) rfl)) rfl
theorem we_X2_begin : Cond.selects RX2 yX2_begin yX2_begin ∈ TB := to_TB (in_sel (in_p1 (i := 5) rfl)) rfl
theorem we_X3_isNoCairn : Cond.selects RX3 yX3_isNoCairn yX3_isNoCairn ∈ TB := to_TB (in_sel (in_p1 (i := 6) rfl)) rfl
theorem we_X3_amountsAt : Cond.selects RX3 yX3_amountsAt yX3_amountsAt ∈ TB := to_TB (in_sel (in_p1 (i := 7) rfl)) rfl
theorem we_X3_isAllSo : Cond.selects RX3 yX3_isAllSo yX3_isAllSo ∈ TB := to_TB (in_sel (in_p1 (i := 8) rfl)) rfl
theorem we_X1_setCairns : Cond.selects RX1 yX1_setCairns yX1_setCairns ∈ TB := to_TB (in_sel (in_p1 (i := 9) rfl)) rfl
theorem we_X1_go : Cond.selects RX1 yX1_go yX1_go ∈ TB := to_TB (in_sel (in_p1 (i := 10) rfl)) rfl
theorem we_X1_setOut : Cond.selects RX1 yX1_setOut yX1_setOut ∈ TB := to_TB (in_sel (in_p1 (i := 11) rfl)) rfl
theorem we_X1_together : Cond.selects RX1 yX1_together yX1_together ∈ TB := to_TB (in_sel (in_p1 (i := 12) rfl)) rfl
theorem we_X1_eatPonies : Cond.selects RX1 yX1_eatPonies yX1_eatPonies ∈ TB := to_TB (in_sel (in_p1 (i := 13) rfl)) rfl
theorem we_X1_devour : Cond.selects RX1 yX1_devour yX1_devour ∈ TB := to_TB (in_sel (in_p1 (i := 14) rfl)) rfl
theorem we_X1_eatBeasts : Cond.selects RX1 yX1_eatBeasts yX1_eatBeasts ∈ TB := to_TB (in_sel (in_p1 (i := 15) rfl)) rfl
theorem we_X1_dieOn : Cond.selects RX1 yX1_dieOn yX1_dieOn ∈ TB := to_TB (in_sel (in_p2 (i := 0) rfl)) rfl
theorem we_X1_takeUpAt : Cond.selects RX1 yX1_takeUpAt yX1_takeUpAt ∈ TB := to_TB (in_sel (in_p2 (i := 1) rfl)) rfl
theorem we_X3_bestTrial : Cond.selects RX3 yX3_bestTrial yX3_bestTrial ∈ TB := to_TB (in_sel (in_p2 (i := 2) rfl)) rfl
theorem we_X3_mostFoodOf : Cond.selects RX3 yX3_mostFoodOf yX3_mostFoodOf ∈ TB := to_TB (in_sel (in_p2 (i := 3) rfl)) rfl
theorem we_X3_leftAtWorst : Cond.selects RX3 yX3_leftAtWorst yX3_leftAtWorst ∈ TB := to_TB (in_sel (in_p2 (i := 4) rfl)) rfl
theorem we_X3_isNoMarch : Cond.selects RX3 yX3_isNoMarch yX3_isNoMarch ∈ TB := to_TB (in_sel (in_p2 (i := 5) rfl)) rfl
theorem we_X3_isNobody : Cond.selects RX3 yX3_isNobody yX3_isNobody ∈ TB := to_TB (in_sel (in_p2 (i := 6) rfl)) rfl
theorem we_X3_anyIsDead : Cond.selects RX3 yX3_anyIsDead yX3_anyIsDead ∈ TB := to_TB (in_sel (in_p2 (i := 7) rfl)) rfl
theorem we_X3_leastFood : Cond.selects RX3 yX3_leastFood yX3_leastFood ∈ TB := to_TB (in_sel (in_p2 (i := 8) rfl)) rfl
theorem we_X3_farthest : Cond.selects RX3 yX3_farthest yX3_farthest ∈ TB := to_TB (in_sel (in_p2 (i := 9) rfl)) rfl
theorem we_X3_fewest : Cond.selects RX3 yX3_fewest yX3_fewest ∈ TB := to_TB (in_sel (in_p2 (i := 10) rfl)) rfl
theorem we_X2_note : Cond.selects RX2 yX2_note yX2_note ∈ TB := to_TB (in_sel (in_p2 (i := 11) rfl)) rfl
theorem we_X3_letCreep : Cond.selects RX3 yX3_letCreep yX3_letCreep ∈ TB := to_TB (in_sel (in_p2 (i := 12) rfl)) rfl
theorem we_X2_takeFrom : Cond.selects RX2 yX2_takeFrom yX2_takeFrom ∈ TB := to_TB (in_sel (in_p2 (i := 13) rfl)) rfl
theorem we_X4_faultOf : Cond.selects RX4 yX4_faultOf yX4_faultOf ∈ TB := to_TB (in_sel (in_p2 (i := 14) rfl)) rfl
theorem we_X4_isGood : Cond.selects RX4 yX4_isGood yX4_isGood ∈ TB := to_TB (in_sel (in_p2 (i := 15) rfl)) rfl
theorem we_X4_isMember : Cond.selects RX4 yX4_isMember yX4_isMember ∈ TB := to_TB (in_sel (in_p3 (i := 0) rfl)) rfl
theorem we_X4_tellMember : Cond.selects RX4 yX4_tellMember yX4_tellMember ∈ TB := to_TB (in_sel (in_p3 (i := 1) rfl)) rfl
theorem we_X4_pullsOf : Cond.selects RX4 yX4_pullsOf yX4_pullsOf ∈ TB := to_TB (in_sel (in_p3 (i := 2) rfl)) rfl
theorem we_X4_eatsOf : Cond.selects RX4 yX4_eatsOf yX4_eatsOf ∈ TB := to_TB (in_sel (in_p3 (i := 3) rfl)) rfl
theorem we_X4_feedsOf : Cond.selects RX4 yX4_feedsOf yX4_feedsOf ∈ TB := to_TB (in_sel (in_p3 (i := 4) rfl)) rfl
theorem we_X4_isCairn : Cond.selects RX4 yX4_isCairn yX4_isCairn ∈ TB := to_TB (in_sel (in_p3 (i := 5) rfl)) rfl
theorem we_X4_lacks : Cond.selects RX4 yX4_lacks yX4_lacks ∈ TB := to_TB (in_sel (in_p3 (i := 6) rfl)) rfl
theorem we_X4_tellCairn : Cond.selects RX4 yX4_tellCairn yX4_tellCairn ∈ TB := to_TB (in_sel (in_p3 (i := 7) rfl)) rfl
theorem we_X4_layOf : Cond.selects RX4 yX4_layOf yX4_layOf ∈ TB := to_TB (in_sel (in_p3 (i := 8) rfl)) rfl
theorem we_X4_comesHome : Cond.selects RX4 yX4_comesHome yX4_comesHome ∈ TB := to_TB (in_sel (in_p3 (i := 9) rfl)) rfl
theorem we_X4_goMarch : Cond.selects RX4 yX4_goMarch yX4_goMarch ∈ TB := to_TB (in_sel (in_p3 (i := 10) rfl)) rfl
theorem we_X4_keepPulled : Cond.selects RX4 yX4_keepPulled yX4_keepPulled ∈ TB := to_TB (in_sel (in_p3 (i := 11) rfl)) rfl
theorem we_X4_pullOf : Cond.selects RX4 yX4_pullOf yX4_pullOf ∈ TB := to_TB (in_sel (in_p3 (i := 12) rfl)) rfl
theorem we_X4_goStage : Cond.selects RX4 yX4_goStage yX4_goStage ∈ TB := to_TB (in_sel (in_p3 (i := 13) rfl)) rfl
theorem we_X4_lastOf : Cond.selects RX4 yX4_lastOf yX4_lastOf ∈ TB := to_TB (in_sel (in_p3 (i := 14) rfl)) rfl
theorem we_X4_eatBeast : Cond.selects RX4 yX4_eatBeast yX4_eatBeast ∈ TB := to_TB (in_sel (in_p3 (i := 15) rfl)) rfl
theorem we_X4_eatOf : Cond.selects RX4 yX4_eatOf yX4_eatOf ∈ TB := to_TB (in_sel (in_p4 (i := 0) rfl)) rfl
theorem we_X4_tryOf : Cond.selects RX4 yX4_tryOf yX4_tryOf ∈ TB := to_TB (in_sel (in_p4 (i := 1) rfl)) rfl
theorem we_X4_isMarch : Cond.selects RX4 yX4_isMarch yX4_isMarch ∈ TB := to_TB (in_sel (in_p4 (i := 2) rfl)) rfl
theorem we_X4_areMembers : Cond.selects RX4 yX4_areMembers yX4_areMembers ∈ TB := to_TB (in_sel (in_p4 (i := 3) rfl)) rfl
theorem we_X4_wouldOf : Cond.selects RX4 yX4_wouldOf yX4_wouldOf ∈ TB := to_TB (in_sel (in_p4 (i := 4) rfl)) rfl
theorem we_X4_needOf : Cond.selects RX4 yX4_needOf yX4_needOf ∈ TB := to_TB (in_sel (in_p4 (i := 5) rfl)) rfl
theorem we_X4_farOf : Cond.selects RX4 yX4_farOf yX4_farOf ∈ TB := to_TB (in_sel (in_p4 (i := 6) rfl)) rfl
theorem we_X4_teamOf : Cond.selects RX4 yX4_teamOf yX4_teamOf ∈ TB := to_TB (in_sel (in_p4 (i := 7) rfl)) rfl
theorem we_X4_draw : Cond.selects RX4 yX4_draw yX4_draw ∈ TB := to_TB (in_sel (in_p4 (i := 8) rfl)) rfl
theorem we_X4_countOf : Cond.selects RX4 yX4_countOf yX4_countOf ∈ TB := to_TB (in_sel (in_p4 (i := 9) rfl)) rfl
theorem we_X4_say : Cond.selects RX4 yX4_say yX4_say ∈ TB := to_TB (in_sel (in_p4 (i := 10) rfl)) rfl
theorem wf_X0_0 : u_lay RX0 TX0 0 ∈ TB := to_TB (in_t1 (i := 25) rfl) rfl
theorem wf_X0_1 : u_lay RX0 TX0 1 ∈ TB := to_TB (in_t1 (i := 27) rfl) rfl
theorem wf_X0 : ∀ w ∈ u_ws RX0 TX0 2, w ∈ TB := fun w hw => by
  obtain ⟨k, hk, rfl⟩ := List.mem_map.mp hw
  have hk := List.mem_range.mp hk
  match k, hk with
  | 0, _ => exact wf_X0_0
  | 1, _ => exact wf_X0_1
  | k + 2, hk => exact absurd hk (by omega)
theorem wf_X1_0 : u_lay RX1 TX1 0 ∈ TB := to_TB (in_t1 (i := 51) rfl) rfl
theorem wf_X1_1 : u_lay RX1 TX1 1 ∈ TB := to_TB (in_t1 (i := 53) rfl) rfl
theorem wf_X1_2 : u_lay RX1 TX1 2 ∈ TB := to_TB (in_t1 (i := 55) rfl) rfl
theorem wf_X1_3 : u_lay RX1 TX1 3 ∈ TB := to_TB (in_t1 (i := 57) rfl) rfl
theorem wf_X1_4 : u_lay RX1 TX1 4 ∈ TB := to_TB (in_t1 (i := 59) rfl) rfl
theorem wf_X1_5 : u_lay RX1 TX1 5 ∈ TB := to_TB (in_t1 (i := 61) rfl) rfl
theorem wf_X1_6 : u_lay RX1 TX1 6 ∈ TB := to_TB (in_t1 (i := 63) rfl) rfl
theorem wf_X1_7 : u_lay RX1 TX1 7 ∈ TB := to_TB (in_t1 (i := 65) rfl) rfl
theorem wf_X1 : ∀ w ∈ u_ws RX1 TX1 8, w ∈ TB := fun w hw => by
  obtain ⟨k, hk, rfl⟩ := List.mem_map.mp hw
  have hk := List.mem_range.mp hk
  match k, hk with
  | 0, _ => exact wf_X1_0
  | 1, _ => exact wf_X1_1
  | 2, _ => exact wf_X1_2
  | 3, _ => exact wf_X1_3
  | 4, _ => exact wf_X1_4
  | 5, _ => exact wf_X1_5
  | 6, _ => exact wf_X1_6
  | 7, _ => exact wf_X1_7
  | k + 8, hk => exact absurd hk (by omega)
theorem wf_X2_0 : u_lay RX2 TX2 0 ∈ TB := to_TB (in_t1 (i := 92) rfl) rfl
theorem wf_X2_1 : u_lay RX2 TX2 1 ∈ TB := to_TB (in_t1 (i := 94) rfl) rfl
theorem wf_X2_2 : u_lay RX2 TX2 2 ∈ TB := to_TB (in_t1 (i := 96) rfl) rfl
theorem wf_X2_3 : u_lay RX2 TX2 3 ∈ TB := to_TB (in_t1 (i := 98) rfl) rfl
theorem wf_X2_4 : u_lay RX2 TX2 4 ∈ TB := to_TB (in_t1 (i := 100) rfl) rfl
theorem wf_X2_5 : u_lay RX2 TX2 5 ∈ TB := to_TB (in_t1 (i := 102) rfl) rfl
theorem wf_X2_6 : u_lay RX2 TX2 6 ∈ TB := to_TB (in_t1 (i := 104) rfl) rfl
theorem wf_X2_7 : u_lay RX2 TX2 7 ∈ TB := to_TB (in_t1 (i := 106) rfl) rfl
theorem wf_X2_8 : u_lay RX2 TX2 8 ∈ TB := to_TB (in_t1 (i := 108) rfl) rfl
theorem wf_X2 : ∀ w ∈ u_ws RX2 TX2 9, w ∈ TB := fun w hw => by
  obtain ⟨k, hk, rfl⟩ := List.mem_map.mp hw
  have hk := List.mem_range.mp hk
  match k, hk with
  | 0, _ => exact wf_X2_0
  | 1, _ => exact wf_X2_1
  | 2, _ => exact wf_X2_2
  | 3, _ => exact wf_X2_3
  | 4, _ => exact wf_X2_4
  | 5, _ => exact wf_X2_5
  | 6, _ => exact wf_X2_6
  | 7, _ => exact wf_X2_7
  | 8, _ => exact wf_X2_8
  | k + 9, hk => exact absurd hk (by omega)
theorem wf_X3_0 : u_lay RX3 TX3 0 ∈ TB := to_TB (in_t1 (i := 119) rfl) rfl
theorem wf_X3_1 : u_lay RX3 TX3 1 ∈ TB := to_TB (in_t1 (i := 121) rfl) rfl
theorem wf_X3_2 : u_lay RX3 TX3 2 ∈ TB := to_TB (in_t1 (i := 123) rfl) rfl
theorem wf_X3_3 : u_lay RX3 TX3 3 ∈ TB := to_TB (in_t1 (i := 125) rfl) rfl
theorem wf_X3_4 : u_lay RX3 TX3 4 ∈ TB := to_TB (in_t1 (i := 127) rfl) rfl
theorem wf_X3_5 : u_lay RX3 TX3 5 ∈ TB := to_TB (in_t1 (i := 129) rfl) rfl
theorem wf_X3_6 : u_lay RX3 TX3 6 ∈ TB := to_TB (in_t1 (i := 131) rfl) rfl
theorem wf_X3_7 : u_lay RX3 TX3 7 ∈ TB := to_TB (in_t1 (i := 133) rfl) rfl
theorem wf_X3 : ∀ w ∈ u_ws RX3 TX3 8, w ∈ TB := fun w hw => by
  obtain ⟨k, hk, rfl⟩ := List.mem_map.mp hw
  have hk := List.mem_range.mp hk
  match k, hk with
  | 0, _ => exact wf_X3_0
  | 1, _ => exact wf_X3_1
  | 2, _ => exact wf_X3_2
  | 3, _ => exact wf_X3_3
  | 4, _ => exact wf_X3_4
  | 5, _ => exact wf_X3_5
  | 6, _ => exact wf_X3_6
  | 7, _ => exact wf_X3_7
  | k + 8, hk => exact absurd hk (by omega)
theorem wf_X4_0 : u_lay RX4 TX4 0 ∈ TB := to_TB (in_t2 (i := 195) rfl) rfl
theorem wf_X4_1 : u_lay RX4 TX4 1 ∈ TB := to_TB (in_t2 (i := 197) rfl) rfl
theorem wf_X4_2 : u_lay RX4 TX4 2 ∈ TB := to_TB (in_t2 (i := 199) rfl) rfl
theorem wf_X4_3 : u_lay RX4 TX4 3 ∈ TB := to_TB (in_t2 (i := 201) rfl) rfl
theorem wf_X4_4 : u_lay RX4 TX4 4 ∈ TB := to_TB (in_t2 (i := 203) rfl) rfl
theorem wf_X4_5 : u_lay RX4 TX4 5 ∈ TB := to_TB (in_t2 (i := 205) rfl) rfl
theorem wf_X4_6 : u_lay RX4 TX4 6 ∈ TB := to_TB (in_t2 (i := 207) rfl) rfl
theorem wf_X4_7 : u_lay RX4 TX4 7 ∈ TB := to_TB (in_t2 (i := 209) rfl) rfl
theorem wf_X4_8 : u_lay RX4 TX4 8 ∈ TB := to_TB (in_t2 (i := 211) rfl) rfl
theorem wf_X4_9 : u_lay RX4 TX4 9 ∈ TB := to_TB (in_t2 (i := 213) rfl) rfl
theorem wf_X4_10 : u_lay RX4 TX4 10 ∈ TB := to_TB (in_t2 (i := 215) rfl) rfl
theorem wf_X4_11 : u_lay RX4 TX4 11 ∈ TB := to_TB (in_t2 (i := 217) rfl) rfl
theorem wf_X4_12 : u_lay RX4 TX4 12 ∈ TB := to_TB (in_t2 (i := 219) rfl) rfl
theorem wf_X4_13 : u_lay RX4 TX4 13 ∈ TB := to_TB (in_t2 (i := 221) rfl) rfl
theorem wf_X4_14 : u_lay RX4 TX4 14 ∈ TB := to_TB (in_t2 (i := 223) rfl) rfl
theorem wf_X4_15 : u_lay RX4 TX4 15 ∈ TB := to_TB (in_t2 (i := 225) rfl) rfl
theorem wf_X4_16 : u_lay RX4 TX4 16 ∈ TB := to_TB (in_t2 (i := 227) rfl) rfl
theorem wf_X4_17 : u_lay RX4 TX4 17 ∈ TB := to_TB (in_t2 (i := 229) rfl) rfl
theorem wf_X4_18 : u_lay RX4 TX4 18 ∈ TB := to_TB (in_t2 (i := 231) rfl) rfl
theorem wf_X4_19 : u_lay RX4 TX4 19 ∈ TB := to_TB (in_t2 (i := 233) rfl) rfl
theorem wf_X4_20 : u_lay RX4 TX4 20 ∈ TB := to_TB (in_t2 (i := 235) rfl) rfl
theorem wf_X4_21 : u_lay RX4 TX4 21 ∈ TB := to_TB (in_t2 (i := 237) rfl) rfl
theorem wf_X4_22 : u_lay RX4 TX4 22 ∈ TB := to_TB (in_t2 (i := 239) rfl) rfl
theorem wf_X4_23 : u_lay RX4 TX4 23 ∈ TB := to_TB (in_t3 (i := 1) rfl) rfl
theorem wf_X4_24 : u_lay RX4 TX4 24 ∈ TB := to_TB (in_t3 (i := 3) rfl) rfl
theorem wf_X4_25 : u_lay RX4 TX4 25 ∈ TB := to_TB (in_t3 (i := 5) rfl) rfl
theorem wf_X4_26 : u_lay RX4 TX4 26 ∈ TB := to_TB (in_t3 (i := 7) rfl) rfl
theorem wf_X4_27 : u_lay RX4 TX4 27 ∈ TB := to_TB (in_t3 (i := 9) rfl) rfl
theorem wf_X4 : ∀ w ∈ u_ws RX4 TX4 28, w ∈ TB := fun w hw => by
  obtain ⟨k, hk, rfl⟩ := List.mem_map.mp hw
  have hk := List.mem_range.mp hk
  match k, hk with
  | 0, _ => exact wf_X4_0
  | 1, _ => exact wf_X4_1
  | 2, _ => exact wf_X4_2
  | 3, _ => exact wf_X4_3
  | 4, _ => exact wf_X4_4
  | 5, _ => exact wf_X4_5
  | 6, _ => exact wf_X4_6
  | 7, _ => exact wf_X4_7
  | 8, _ => exact wf_X4_8
  | 9, _ => exact wf_X4_9
  | 10, _ => exact wf_X4_10
  | 11, _ => exact wf_X4_11
  | 12, _ => exact wf_X4_12
  | 13, _ => exact wf_X4_13
  | 14, _ => exact wf_X4_14
  | 15, _ => exact wf_X4_15
  | 16, _ => exact wf_X4_16
  | 17, _ => exact wf_X4_17
  | 18, _ => exact wf_X4_18
  | 19, _ => exact wf_X4_19
  | 20, _ => exact wf_X4_20
  | 21, _ => exact wf_X4_21
  | 22, _ => exact wf_X4_22
  | 23, _ => exact wf_X4_23
  | 24, _ => exact wf_X4_24
  | 25, _ => exact wf_X4_25
  | 26, _ => exact wf_X4_26
  | 27, _ => exact wf_X4_27
  | k + 28, hk => exact absurd hk (by omega)
end
section
theorem dX0_init_0 : decode cX0_init 0 = .ok (.aload_n 0, 1) := by decide +kernel
theorem dX0_init_1 : decode cX0_init 1 = .ok (.invokespecial 3, 3) := by decide +kernel
theorem dX0_init_4 : decode cX0_init 4 = .ok (.aload_n 0, 1) := by decide +kernel
theorem dX0_init_5 : decode cX0_init 5 = .ok (.bipush 15, 2) := by decide +kernel
theorem dX0_init_7 : decode cX0_init 7 = .ok (.newarray .int, 2) := by decide +kernel
theorem dX0_init_9 : decode cX0_init 9 = .ok (.putfield 9, 3) := by decide +kernel
theorem dX0_init_12 : decode cX0_init 12 = .ok (.return_, 1) := by decide +kernel
theorem dX0_add_0 : decode cX0_add 0 = .ok (.aload_n 0, 1) := by decide +kernel
theorem dX0_add_1 : decode cX0_add 1 = .ok (.getfield 15, 3) := by decide +kernel
theorem dX0_add_4 : decode cX0_add 4 = .ok (.bipush 15, 2) := by decide +kernel
theorem dX0_add_6 : decode cX0_add 6 = .ok (.if_icmp .lt 5, 3) := by decide +kernel
theorem dX0_add_9 : decode cX0_add 9 = .ok (.iconst 0, 1) := by decide +kernel
theorem dX0_add_10 : decode cX0_add 10 = .ok (.ireturn, 1) := by decide +kernel
theorem dX0_add_11 : decode cX0_add 11 = .ok (.aload_n 0, 1) := by decide +kernel
theorem dX0_add_12 : decode cX0_add 12 = .ok (.getfield 9, 3) := by decide +kernel
theorem dX0_add_15 : decode cX0_add 15 = .ok (.aload_n 0, 1) := by decide +kernel
theorem dX0_add_16 : decode cX0_add 16 = .ok (.getfield 15, 3) := by decide +kernel
theorem dX0_add_19 : decode cX0_add 19 = .ok (.iload_n 1, 1) := by decide +kernel
theorem dX0_add_20 : decode cX0_add 20 = .ok (.invokestatic 19, 3) := by decide +kernel
theorem dX0_add_23 : decode cX0_add 23 = .ok (.aload_n 0, 1) := by decide +kernel
theorem dX0_add_24 : decode cX0_add 24 = .ok (.dup, 1) := by decide +kernel
theorem dX0_add_25 : decode cX0_add 25 = .ok (.getfield 15, 3) := by decide +kernel
theorem dX0_add_28 : decode cX0_add 28 = .ok (.iconst 1, 1) := by decide +kernel
theorem dX0_add_29 : decode cX0_add 29 = .ok (.iadd, 1) := by decide +kernel
theorem dX0_add_30 : decode cX0_add 30 = .ok (.putfield 15, 3) := by decide +kernel
theorem dX0_add_33 : decode cX0_add 33 = .ok (.iconst 1, 1) := by decide +kernel
theorem dX0_add_34 : decode cX0_add 34 = .ok (.ireturn, 1) := by decide +kernel
theorem dX0_codeAt_0 : decode cX0_codeAt 0 = .ok (.aload_n 0, 1) := by decide +kernel
theorem dX0_codeAt_1 : decode cX0_codeAt 1 = .ok (.getfield 9, 3) := by decide +kernel
theorem dX0_codeAt_4 : decode cX0_codeAt 4 = .ok (.iload_n 1, 1) := by decide +kernel
theorem dX0_codeAt_5 : decode cX0_codeAt 5 = .ok (.invokestatic 23, 3) := by decide +kernel
theorem dX0_codeAt_8 : decode cX0_codeAt 8 = .ok (.ireturn, 1) := by decide +kernel
theorem dX0_firstWrong_0 : decode cX0_firstWrong 0 = .ok (.iconst 0, 1) := by decide +kernel
theorem dX0_firstWrong_1 : decode cX0_firstWrong 1 = .ok (.istore_n 1, 1) := by decide +kernel
theorem dX0_firstWrong_2 : decode cX0_firstWrong 2 = .ok (.iconst (-1), 1) := by decide +kernel
theorem dX0_firstWrong_3 : decode cX0_firstWrong 3 = .ok (.istore_n 2, 1) := by decide +kernel
theorem dX0_firstWrong_4 : decode cX0_firstWrong 4 = .ok (.iconst 0, 1) := by decide +kernel
theorem dX0_firstWrong_5 : decode cX0_firstWrong 5 = .ok (.istore_n 3, 1) := by decide +kernel
theorem dX0_firstWrong_6 : decode cX0_firstWrong 6 = .ok (.iload_n 3, 1) := by decide +kernel
theorem dX0_firstWrong_7 : decode cX0_firstWrong 7 = .ok (.aload_n 0, 1) := by decide +kernel
theorem dX0_firstWrong_8 : decode cX0_firstWrong 8 = .ok (.getfield 15, 3) := by decide +kernel
theorem dX0_firstWrong_11 : decode cX0_firstWrong 11 = .ok (.if_icmp .ge 88, 3) := by decide +kernel
theorem dX0_firstWrong_14 : decode cX0_firstWrong 14 = .ok (.aload_n 0, 1) := by decide +kernel
theorem dX0_firstWrong_15 : decode cX0_firstWrong 15 = .ok (.iload_n 3, 1) := by decide +kernel
theorem dX0_firstWrong_16 : decode cX0_firstWrong 16 = .ok (.invokevirtual 27, 3) := by decide +kernel
theorem dX0_firstWrong_19 : decode cX0_firstWrong 19 = .ok (.istore 4, 2) := by decide +kernel
theorem dX0_firstWrong_21 : decode cX0_firstWrong 21 = .ok (.iload_n 2, 1) := by decide +kernel
theorem dX0_firstWrong_22 : decode cX0_firstWrong 22 = .ok (.iconst (-1), 1) := by decide +kernel
theorem dX0_firstWrong_23 : decode cX0_firstWrong 23 = .ok (.if_icmp .eq 30, 3) := by decide +kernel
theorem dX0_firstWrong_26 : decode cX0_firstWrong 26 = .ok (.iload_n 2, 1) := by decide +kernel
theorem dX0_firstWrong_27 : decode cX0_firstWrong 27 = .ok (.iconst 5, 1) := by decide +kernel
theorem dX0_firstWrong_28 : decode cX0_firstWrong 28 = .ok (.if_icmp .eq 17, 3) := by decide +kernel
theorem dX0_firstWrong_31 : decode cX0_firstWrong 31 = .ok (.iload 4, 2) := by decide +kernel
theorem dX0_firstWrong_33 : decode cX0_firstWrong 33 = .ok (.bipush 48, 2) := by decide +kernel
theorem dX0_firstWrong_35 : decode cX0_firstWrong 35 = .ok (.if_icmp .lt 10, 3) := by decide +kernel
theorem dX0_firstWrong_38 : decode cX0_firstWrong 38 = .ok (.iload 4, 2) := by decide +kernel
theorem dX0_firstWrong_40 : decode cX0_firstWrong 40 = .ok (.bipush 57, 2) := by decide +kernel
theorem dX0_firstWrong_42 : decode cX0_firstWrong 42 = .ok (.if_icmp .le 5, 3) := by decide +kernel
theorem dX0_firstWrong_45 : decode cX0_firstWrong 45 = .ok (.iload_n 3, 1) := by decide +kernel
theorem dX0_firstWrong_46 : decode cX0_firstWrong 46 = .ok (.ireturn, 1) := by decide +kernel
theorem dX0_firstWrong_47 : decode cX0_firstWrong 47 = .ok (.iinc 2 1, 3) := by decide +kernel
theorem dX0_firstWrong_50 : decode cX0_firstWrong 50 = .ok (.goto 43, 3) := by decide +kernel
theorem dX0_firstWrong_53 : decode cX0_firstWrong 53 = .ok (.iload 4, 2) := by decide +kernel
theorem dX0_firstWrong_55 : decode cX0_firstWrong 55 = .ok (.bipush 59, 2) := by decide +kernel
theorem dX0_firstWrong_57 : decode cX0_firstWrong 57 = .ok (.if_icmp .ne 13, 3) := by decide +kernel
theorem dX0_firstWrong_60 : decode cX0_firstWrong 60 = .ok (.iload_n 1, 1) := by decide +kernel
theorem dX0_firstWrong_61 : decode cX0_firstWrong 61 = .ok (.iconst 2, 1) := by decide +kernel
theorem dX0_firstWrong_62 : decode cX0_firstWrong 62 = .ok (.if_icmp .lt 8, 3) := by decide +kernel
theorem dX0_firstWrong_65 : decode cX0_firstWrong 65 = .ok (.iconst 0, 1) := by decide +kernel
theorem dX0_firstWrong_66 : decode cX0_firstWrong 66 = .ok (.istore_n 2, 1) := by decide +kernel
theorem dX0_firstWrong_67 : decode cX0_firstWrong 67 = .ok (.goto 26, 3) := by decide +kernel
theorem dX0_firstWrong_70 : decode cX0_firstWrong 70 = .ok (.iload 4, 2) := by decide +kernel
theorem dX0_firstWrong_72 : decode cX0_firstWrong 72 = .ok (.invokestatic 31, 3) := by decide +kernel
theorem dX0_firstWrong_75 : decode cX0_firstWrong 75 = .ok (.iconst (-1), 1) := by decide +kernel
theorem dX0_firstWrong_76 : decode cX0_firstWrong 76 = .ok (.if_icmp .eq 15, 3) := by decide +kernel
theorem dX0_firstWrong_79 : decode cX0_firstWrong 79 = .ok (.iload_n 1, 1) := by decide +kernel
theorem dX0_firstWrong_80 : decode cX0_firstWrong 80 = .ok (.bipush 6, 2) := by decide +kernel
theorem dX0_firstWrong_82 : decode cX0_firstWrong 82 = .ok (.if_icmp .ge 9, 3) := by decide +kernel
theorem dX0_firstWrong_85 : decode cX0_firstWrong 85 = .ok (.iinc 1 1, 3) := by decide +kernel
theorem dX0_firstWrong_88 : decode cX0_firstWrong 88 = .ok (.goto 5, 3) := by decide +kernel
theorem dX0_firstWrong_91 : decode cX0_firstWrong 91 = .ok (.iload_n 3, 1) := by decide +kernel
theorem dX0_firstWrong_92 : decode cX0_firstWrong 92 = .ok (.ireturn, 1) := by decide +kernel
theorem dX0_firstWrong_93 : decode cX0_firstWrong 93 = .ok (.iinc 3 1, 3) := by decide +kernel
theorem dX0_firstWrong_96 : decode cX0_firstWrong 96 = .ok (.goto (-90), 3) := by decide +kernel
theorem dX0_firstWrong_99 : decode cX0_firstWrong 99 = .ok (.aload_n 0, 1) := by decide +kernel
theorem dX0_firstWrong_100 : decode cX0_firstWrong 100 = .ok (.getfield 15, 3) := by decide +kernel
theorem dX0_firstWrong_103 : decode cX0_firstWrong 103 = .ok (.ireturn, 1) := by decide +kernel
theorem dX0_isCamp_0 : decode cX0_isCamp 0 = .ok (.aload_n 0, 1) := by decide +kernel
theorem dX0_isCamp_1 : decode cX0_isCamp 1 = .ok (.invokevirtual 34, 3) := by decide +kernel
theorem dX0_isCamp_4 : decode cX0_isCamp 4 = .ok (.aload_n 0, 1) := by decide +kernel
theorem dX0_isCamp_5 : decode cX0_isCamp 5 = .ok (.getfield 15, 3) := by decide +kernel
theorem dX0_isCamp_8 : decode cX0_isCamp 8 = .ok (.if_icmp .ne 24, 3) := by decide +kernel
theorem dX0_isCamp_11 : decode cX0_isCamp 11 = .ok (.aload_n 0, 1) := by decide +kernel
theorem dX0_isCamp_12 : decode cX0_isCamp 12 = .ok (.aload_n 0, 1) := by decide +kernel
theorem dX0_isCamp_13 : decode cX0_isCamp 13 = .ok (.getfield 15, 3) := by decide +kernel
theorem dX0_isCamp_16 : decode cX0_isCamp 16 = .ok (.iconst 5, 1) := by decide +kernel
theorem dX0_isCamp_17 : decode cX0_isCamp 17 = .ok (.isub, 1) := by decide +kernel
theorem dX0_isCamp_18 : decode cX0_isCamp 18 = .ok (.iconst 1, 1) := by decide +kernel
theorem dX0_isCamp_19 : decode cX0_isCamp 19 = .ok (.isub, 1) := by decide +kernel
theorem dX0_isCamp_20 : decode cX0_isCamp 20 = .ok (.invokevirtual 27, 3) := by decide +kernel
theorem dX0_isCamp_23 : decode cX0_isCamp 23 = .ok (.bipush 59, 2) := by decide +kernel
theorem dX0_isCamp_25 : decode cX0_isCamp 25 = .ok (.if_icmp .ne 7, 3) := by decide +kernel
theorem dX0_isCamp_28 : decode cX0_isCamp 28 = .ok (.iconst 1, 1) := by decide +kernel
theorem dX0_isCamp_29 : decode cX0_isCamp 29 = .ok (.goto 4, 3) := by decide +kernel
theorem dX0_isCamp_32 : decode cX0_isCamp 32 = .ok (.iconst 0, 1) := by decide +kernel
theorem dX0_isCamp_33 : decode cX0_isCamp 33 = .ok (.ireturn, 1) := by decide +kernel
theorem dX1_init_0 : decode cX1_init 0 = .ok (.aload_n 0, 1) := by decide +kernel
theorem dX1_init_1 : decode cX1_init 1 = .ok (.invokespecial 3, 3) := by decide +kernel
theorem dX1_init_4 : decode cX1_init 4 = .ok (.aload_n 0, 1) := by decide +kernel
theorem dX1_init_5 : decode cX1_init 5 = .ok (.bipush 6, 2) := by decide +kernel
theorem dX1_init_7 : decode cX1_init 7 = .ok (.newarray .int, 2) := by decide +kernel
theorem dX1_init_9 : decode cX1_init 9 = .ok (.putfield 9, 3) := by decide +kernel
theorem dX1_init_12 : decode cX1_init 12 = .ok (.aload_n 0, 1) := by decide +kernel
theorem dX1_init_13 : decode cX1_init 13 = .ok (.iconst 5, 1) := by decide +kernel
theorem dX1_init_14 : decode cX1_init 14 = .ok (.newarray .int, 2) := by decide +kernel
theorem dX1_init_16 : decode cX1_init 16 = .ok (.putfield 15, 3) := by decide +kernel
theorem dX1_init_19 : decode cX1_init 19 = .ok (.return_, 1) := by decide +kernel
theorem dX1_all_0 : decode cX1_all 0 = .ok (.iconst 1, 1) := by decide +kernel
theorem dX1_all_1 : decode cX1_all 1 = .ok (.aload_n 0, 1) := by decide +kernel
theorem dX1_all_2 : decode cX1_all 2 = .ok (.getfield 18, 3) := by decide +kernel
theorem dX1_all_5 : decode cX1_all 5 = .ok (.ishl, 1) := by decide +kernel
theorem dX1_all_6 : decode cX1_all 6 = .ok (.iconst 1, 1) := by decide +kernel
theorem dX1_all_7 : decode cX1_all 7 = .ok (.isub, 1) := by decide +kernel
theorem dX1_all_8 : decode cX1_all 8 = .ok (.ireturn, 1) := by decide +kernel
theorem dX1_together_0 : decode cX1_together 0 = .ok (.iconst 0, 1) := by decide +kernel
theorem dX1_together_1 : decode cX1_together 1 = .ok (.istore_n 3, 1) := by decide +kernel
theorem dX1_together_2 : decode cX1_together 2 = .ok (.iconst 0, 1) := by decide +kernel
theorem dX1_together_3 : decode cX1_together 3 = .ok (.istore 4, 2) := by decide +kernel
theorem dX1_together_5 : decode cX1_together 5 = .ok (.iload 4, 2) := by decide +kernel
theorem dX1_together_7 : decode cX1_together 7 = .ok (.aload_n 0, 1) := by decide +kernel
theorem dX1_together_8 : decode cX1_together 8 = .ok (.getfield 18, 3) := by decide +kernel
theorem dX1_together_11 : decode cX1_together 11 = .ok (.if_icmp .ge 35, 3) := by decide +kernel
theorem dX1_together_14 : decode cX1_together 14 = .ok (.iload_n 1, 1) := by decide +kernel
theorem dX1_together_15 : decode cX1_together 15 = .ok (.iload 4, 2) := by decide +kernel
theorem dX1_together_17 : decode cX1_together 17 = .ok (.ishr, 1) := by decide +kernel
theorem dX1_together_18 : decode cX1_together 18 = .ok (.iconst 1, 1) := by decide +kernel
theorem dX1_together_19 : decode cX1_together 19 = .ok (.iand, 1) := by decide +kernel
theorem dX1_together_20 : decode cX1_together 20 = .ok (.iconst 1, 1) := by decide +kernel
theorem dX1_together_21 : decode cX1_together 21 = .ok (.if_icmp .ne 19, 3) := by decide +kernel
theorem dX1_together_24 : decode cX1_together 24 = .ok (.iload_n 3, 1) := by decide +kernel
theorem dX1_together_25 : decode cX1_together 25 = .ok (.aload_n 2, 1) := by decide +kernel
theorem dX1_together_26 : decode cX1_together 26 = .ok (.aload_n 0, 1) := by decide +kernel
theorem dX1_together_27 : decode cX1_together 27 = .ok (.getfield 9, 3) := by decide +kernel
theorem dX1_together_30 : decode cX1_together 30 = .ok (.iload 4, 2) := by decide +kernel
theorem dX1_together_32 : decode cX1_together 32 = .ok (.invokestatic 22, 3) := by decide +kernel
theorem dX1_together_35 : decode cX1_together 35 = .ok (.invokestatic 22, 3) := by decide +kernel
theorem dX1_together_38 : decode cX1_together 38 = .ok (.iadd, 1) := by decide +kernel
theorem dX1_together_39 : decode cX1_together 39 = .ok (.istore_n 3, 1) := by decide +kernel
theorem dX1_together_40 : decode cX1_together 40 = .ok (.iinc 4 1, 3) := by decide +kernel
theorem dX1_together_43 : decode cX1_together 43 = .ok (.goto (-38), 3) := by decide +kernel
theorem dX1_together_46 : decode cX1_together 46 = .ok (.iload_n 3, 1) := by decide +kernel
theorem dX1_together_47 : decode cX1_together 47 = .ok (.ireturn, 1) := by decide +kernel
theorem dX1_setCairns_0 : decode cX1_setCairns 0 = .ok (.aload_n 1, 1) := by decide +kernel
theorem dX1_setCairns_1 : decode cX1_setCairns 1 = .ok (.aload_n 0, 1) := by decide +kernel
theorem dX1_setCairns_2 : decode cX1_setCairns 2 = .ok (.getfield 15, 3) := by decide +kernel
theorem dX1_setCairns_5 : decode cX1_setCairns 5 = .ok (.invokestatic 26, 3) := by decide +kernel
theorem dX1_setCairns_8 : decode cX1_setCairns 8 = .ok (.return_, 1) := by decide +kernel
theorem dX1_go_0 : decode cX1_go 0 = .ok (.aload_n 0, 1) := by decide +kernel
theorem dX1_go_1 : decode cX1_go 1 = .ok (.iload_n 1, 1) := by decide +kernel
theorem dX1_go_2 : decode cX1_go 2 = .ok (.iload_n 3, 1) := by decide +kernel
theorem dX1_go_3 : decode cX1_go 3 = .ok (.invokevirtual 30, 3) := by decide +kernel
theorem dX1_go_6 : decode cX1_go 6 = .ok (.iconst 1, 1) := by decide +kernel
theorem dX1_go_7 : decode cX1_go 7 = .ok (.istore 4, 2) := by decide +kernel
theorem dX1_go_9 : decode cX1_go 9 = .ok (.iload 4, 2) := by decide +kernel
theorem dX1_go_11 : decode cX1_go 11 = .ok (.iconst 2, 1) := by decide +kernel
theorem dX1_go_12 : decode cX1_go 12 = .ok (.iload_n 2, 1) := by decide +kernel
theorem dX1_go_13 : decode cX1_go 13 = .ok (.imul, 1) := by decide +kernel
theorem dX1_go_14 : decode cX1_go 14 = .ok (.if_icmp .gt 97, 3) := by decide +kernel
theorem dX1_go_17 : decode cX1_go 17 = .ok (.iload 4, 2) := by decide +kernel
theorem dX1_go_19 : decode cX1_go 19 = .ok (.iload_n 2, 1) := by decide +kernel
theorem dX1_go_20 : decode cX1_go 20 = .ok (.if_icmp .gt 7, 3) := by decide +kernel
theorem dX1_go_23 : decode cX1_go 23 = .ok (.iconst 1, 1) := by decide +kernel
theorem dX1_go_24 : decode cX1_go 24 = .ok (.goto 4, 3) := by decide +kernel
theorem dX1_go_27 : decode cX1_go 27 = .ok (.iconst 0, 1) := by decide +kernel
theorem dX1_go_28 : decode cX1_go 28 = .ok (.istore 5, 2) := by decide +kernel
theorem dX1_go_30 : decode cX1_go 30 = .ok (.iload 5, 2) := by decide +kernel
theorem dX1_go_32 : decode cX1_go 32 = .ok (.ifCond .eq 15, 3) := by decide +kernel
theorem dX1_go_35 : decode cX1_go 35 = .ok (.iload 4, 2) := by decide +kernel
theorem dX1_go_37 : decode cX1_go 37 = .ok (.iconst 1, 1) := by decide +kernel
theorem dX1_go_38 : decode cX1_go 38 = .ok (.isub, 1) := by decide +kernel
theorem dX1_go_39 : decode cX1_go 39 = .ok (.iconst 3, 1) := by decide +kernel
theorem dX1_go_40 : decode cX1_go 40 = .ok (.if_icmp .lt 7, 3) := by decide +kernel
theorem dX1_go_43 : decode cX1_go 43 = .ok (.aload_n 0, 1) := by decide +kernel
theorem dX1_go_44 : decode cX1_go 44 = .ok (.invokevirtual 34, 3) := by decide +kernel
theorem dX1_go_47 : decode cX1_go 47 = .ok (.aload_n 0, 1) := by decide +kernel
theorem dX1_go_48 : decode cX1_go 48 = .ok (.invokevirtual 37, 3) := by decide +kernel
theorem dX1_go_51 : decode cX1_go 51 = .ok (.aload_n 0, 1) := by decide +kernel
theorem dX1_go_52 : decode cX1_go 52 = .ok (.getfield 40, 3) := by decide +kernel
theorem dX1_go_55 : decode cX1_go 55 = .ok (.ifCond .eq 14, 3) := by decide +kernel
theorem dX1_go_58 : decode cX1_go 58 = .ok (.aload_n 0, 1) := by decide +kernel
theorem dX1_go_59 : decode cX1_go 59 = .ok (.getfield 43, 3) := by decide +kernel
theorem dX1_go_62 : decode cX1_go 62 = .ok (.aload_n 0, 1) := by decide +kernel
theorem dX1_go_63 : decode cX1_go 63 = .ok (.getfield 46, 3) := by decide +kernel
theorem dX1_go_66 : decode cX1_go 66 = .ok (.if_icmp .ge 11, 3) := by decide +kernel
theorem dX1_go_69 : decode cX1_go 69 = .ok (.aload_n 0, 1) := by decide +kernel
theorem dX1_go_70 : decode cX1_go 70 = .ok (.iload 4, 2) := by decide +kernel
theorem dX1_go_72 : decode cX1_go 72 = .ok (.invokevirtual 49, 3) := by decide +kernel
theorem dX1_go_75 : decode cX1_go 75 = .ok (.iconst 0, 1) := by decide +kernel
theorem dX1_go_76 : decode cX1_go 76 = .ok (.ireturn, 1) := by decide +kernel
theorem dX1_go_77 : decode cX1_go 77 = .ok (.aload_n 0, 1) := by decide +kernel
theorem dX1_go_78 : decode cX1_go 78 = .ok (.dup, 1) := by decide +kernel
theorem dX1_go_79 : decode cX1_go 79 = .ok (.getfield 43, 3) := by decide +kernel
theorem dX1_go_82 : decode cX1_go 82 = .ok (.aload_n 0, 1) := by decide +kernel
theorem dX1_go_83 : decode cX1_go 83 = .ok (.getfield 46, 3) := by decide +kernel
theorem dX1_go_86 : decode cX1_go 86 = .ok (.isub, 1) := by decide +kernel
theorem dX1_go_87 : decode cX1_go 87 = .ok (.putfield 43, 3) := by decide +kernel
theorem dX1_go_90 : decode cX1_go 90 = .ok (.iload 5, 2) := by decide +kernel
theorem dX1_go_92 : decode cX1_go 92 = .ok (.ifCond .ne 13, 3) := by decide +kernel
theorem dX1_go_95 : decode cX1_go 95 = .ok (.aload_n 0, 1) := by decide +kernel
theorem dX1_go_96 : decode cX1_go 96 = .ok (.iconst 2, 1) := by decide +kernel
theorem dX1_go_97 : decode cX1_go 97 = .ok (.iload_n 2, 1) := by decide +kernel
theorem dX1_go_98 : decode cX1_go 98 = .ok (.imul, 1) := by decide +kernel
theorem dX1_go_99 : decode cX1_go 99 = .ok (.iload 4, 2) := by decide +kernel
theorem dX1_go_101 : decode cX1_go 101 = .ok (.isub, 1) := by decide +kernel
theorem dX1_go_102 : decode cX1_go 102 = .ok (.invokevirtual 53, 3) := by decide +kernel
theorem dX1_go_105 : decode cX1_go 105 = .ok (.iinc 4 1, 3) := by decide +kernel
theorem dX1_go_108 : decode cX1_go 108 = .ok (.goto (-99), 3) := by decide +kernel
theorem dX1_go_111 : decode cX1_go 111 = .ok (.iconst 1, 1) := by decide +kernel
theorem dX1_go_112 : decode cX1_go 112 = .ok (.ireturn, 1) := by decide +kernel
theorem dX1_setOut_0 : decode cX1_setOut 0 = .ok (.aload_n 0, 1) := by decide +kernel
theorem dX1_setOut_1 : decode cX1_setOut 1 = .ok (.iload_n 1, 1) := by decide +kernel
theorem dX1_setOut_2 : decode cX1_setOut 2 = .ok (.putfield 40, 3) := by decide +kernel
theorem dX1_setOut_5 : decode cX1_setOut 5 = .ok (.aload_n 0, 1) := by decide +kernel
theorem dX1_setOut_6 : decode cX1_setOut 6 = .ok (.aload_n 0, 1) := by decide +kernel
theorem dX1_setOut_7 : decode cX1_setOut 7 = .ok (.iload_n 1, 1) := by decide +kernel
theorem dX1_setOut_8 : decode cX1_setOut 8 = .ok (.getstatic 56, 3) := by decide +kernel
theorem dX1_setOut_11 : decode cX1_setOut 11 = .ok (.invokevirtual 59, 3) := by decide +kernel
theorem dX1_setOut_14 : decode cX1_setOut 14 = .ok (.putfield 63, 3) := by decide +kernel
theorem dX1_setOut_17 : decode cX1_setOut 17 = .ok (.aload_n 0, 1) := by decide +kernel
theorem dX1_setOut_18 : decode cX1_setOut 18 = .ok (.aload_n 0, 1) := by decide +kernel
theorem dX1_setOut_19 : decode cX1_setOut 19 = .ok (.iload_n 1, 1) := by decide +kernel
theorem dX1_setOut_20 : decode cX1_setOut 20 = .ok (.getstatic 66, 3) := by decide +kernel
theorem dX1_setOut_23 : decode cX1_setOut 23 = .ok (.invokevirtual 59, 3) := by decide +kernel
theorem dX1_setOut_26 : decode cX1_setOut 26 = .ok (.putfield 46, 3) := by decide +kernel
theorem dX1_setOut_29 : decode cX1_setOut 29 = .ok (.aload_n 0, 1) := by decide +kernel
theorem dX1_setOut_30 : decode cX1_setOut 30 = .ok (.iload_n 2, 1) := by decide +kernel
theorem dX1_setOut_31 : decode cX1_setOut 31 = .ok (.aload_n 0, 1) := by decide +kernel
theorem dX1_setOut_32 : decode cX1_setOut 32 = .ok (.getfield 63, 3) := by decide +kernel
theorem dX1_setOut_35 : decode cX1_setOut 35 = .ok (.invokestatic 69, 3) := by decide +kernel
theorem dX1_setOut_38 : decode cX1_setOut 38 = .ok (.putfield 43, 3) := by decide +kernel
theorem dX1_setOut_41 : decode cX1_setOut 41 = .ok (.aload_n 0, 1) := by decide +kernel
theorem dX1_setOut_42 : decode cX1_setOut 42 = .ok (.iconst 0, 1) := by decide +kernel
theorem dX1_setOut_43 : decode cX1_setOut 43 = .ok (.putfield 75, 3) := by decide +kernel
theorem dX1_setOut_46 : decode cX1_setOut 46 = .ok (.return_, 1) := by decide +kernel
theorem dX1_eatPonies_0 : decode cX1_eatPonies 0 = .ok (.aload_n 0, 1) := by decide +kernel
theorem dX1_eatPonies_1 : decode cX1_eatPonies 1 = .ok (.getfield 18, 3) := by decide +kernel
theorem dX1_eatPonies_4 : decode cX1_eatPonies 4 = .ok (.iconst 1, 1) := by decide +kernel
theorem dX1_eatPonies_5 : decode cX1_eatPonies 5 = .ok (.isub, 1) := by decide +kernel
theorem dX1_eatPonies_6 : decode cX1_eatPonies 6 = .ok (.istore_n 1, 1) := by decide +kernel
theorem dX1_eatPonies_7 : decode cX1_eatPonies 7 = .ok (.iload_n 1, 1) := by decide +kernel
theorem dX1_eatPonies_8 : decode cX1_eatPonies 8 = .ok (.ifCond .lt 26, 3) := by decide +kernel
theorem dX1_eatPonies_11 : decode cX1_eatPonies 11 = .ok (.aload_n 0, 1) := by decide +kernel
theorem dX1_eatPonies_12 : decode cX1_eatPonies 12 = .ok (.getfield 9, 3) := by decide +kernel
theorem dX1_eatPonies_15 : decode cX1_eatPonies 15 = .ok (.iload_n 1, 1) := by decide +kernel
theorem dX1_eatPonies_16 : decode cX1_eatPonies 16 = .ok (.invokestatic 22, 3) := by decide +kernel
theorem dX1_eatPonies_19 : decode cX1_eatPonies 19 = .ok (.iconst 1, 1) := by decide +kernel
theorem dX1_eatPonies_20 : decode cX1_eatPonies 20 = .ok (.if_icmp .ne 8, 3) := by decide +kernel
theorem dX1_eatPonies_23 : decode cX1_eatPonies 23 = .ok (.aload_n 0, 1) := by decide +kernel
theorem dX1_eatPonies_24 : decode cX1_eatPonies 24 = .ok (.iload_n 1, 1) := by decide +kernel
theorem dX1_eatPonies_25 : decode cX1_eatPonies 25 = .ok (.invokevirtual 78, 3) := by decide +kernel
theorem dX1_eatPonies_28 : decode cX1_eatPonies 28 = .ok (.iinc 1 (-1), 3) := by decide +kernel
theorem dX1_eatPonies_31 : decode cX1_eatPonies 31 = .ok (.goto (-24), 3) := by decide +kernel
theorem dX1_eatPonies_34 : decode cX1_eatPonies 34 = .ok (.return_, 1) := by decide +kernel
theorem dX1_eatBeasts_0 : decode cX1_eatBeasts 0 = .ok (.aload_n 0, 1) := by decide +kernel
theorem dX1_eatBeasts_1 : decode cX1_eatBeasts 1 = .ok (.getfield 18, 3) := by decide +kernel
theorem dX1_eatBeasts_4 : decode cX1_eatBeasts 4 = .ok (.iconst 1, 1) := by decide +kernel
theorem dX1_eatBeasts_5 : decode cX1_eatBeasts 5 = .ok (.isub, 1) := by decide +kernel
theorem dX1_eatBeasts_6 : decode cX1_eatBeasts 6 = .ok (.istore_n 1, 1) := by decide +kernel
theorem dX1_eatBeasts_7 : decode cX1_eatBeasts 7 = .ok (.iload_n 1, 1) := by decide +kernel
theorem dX1_eatBeasts_8 : decode cX1_eatBeasts 8 = .ok (.ifCond .lt 47, 3) := by decide +kernel
theorem dX1_eatBeasts_11 : decode cX1_eatBeasts 11 = .ok (.aload_n 0, 1) := by decide +kernel
theorem dX1_eatBeasts_12 : decode cX1_eatBeasts 12 = .ok (.getfield 43, 3) := by decide +kernel
theorem dX1_eatBeasts_15 : decode cX1_eatBeasts 15 = .ok (.aload_n 0, 1) := by decide +kernel
theorem dX1_eatBeasts_16 : decode cX1_eatBeasts 16 = .ok (.getfield 46, 3) := by decide +kernel
theorem dX1_eatBeasts_19 : decode cX1_eatBeasts 19 = .ok (.if_icmp .ge 36, 3) := by decide +kernel
theorem dX1_eatBeasts_22 : decode cX1_eatBeasts 22 = .ok (.aload_n 0, 1) := by decide +kernel
theorem dX1_eatBeasts_23 : decode cX1_eatBeasts 23 = .ok (.getfield 9, 3) := by decide +kernel
theorem dX1_eatBeasts_26 : decode cX1_eatBeasts 26 = .ok (.iload_n 1, 1) := by decide +kernel
theorem dX1_eatBeasts_27 : decode cX1_eatBeasts 27 = .ok (.invokestatic 22, 3) := by decide +kernel
theorem dX1_eatBeasts_30 : decode cX1_eatBeasts 30 = .ok (.istore_n 2, 1) := by decide +kernel
theorem dX1_eatBeasts_31 : decode cX1_eatBeasts 31 = .ok (.iload_n 2, 1) := by decide +kernel
theorem dX1_eatBeasts_32 : decode cX1_eatBeasts 32 = .ok (.iconst 1, 1) := by decide +kernel
theorem dX1_eatBeasts_33 : decode cX1_eatBeasts 33 = .ok (.if_icmp .eq 11, 3) := by decide +kernel
theorem dX1_eatBeasts_36 : decode cX1_eatBeasts 36 = .ok (.iload_n 2, 1) := by decide +kernel
theorem dX1_eatBeasts_37 : decode cX1_eatBeasts 37 = .ok (.iconst 2, 1) := by decide +kernel
theorem dX1_eatBeasts_38 : decode cX1_eatBeasts 38 = .ok (.invokestatic 81, 3) := by decide +kernel
theorem dX1_eatBeasts_41 : decode cX1_eatBeasts 41 = .ok (.ifCond .eq 8, 3) := by decide +kernel
theorem dX1_eatBeasts_44 : decode cX1_eatBeasts 44 = .ok (.aload_n 0, 1) := by decide +kernel
theorem dX1_eatBeasts_45 : decode cX1_eatBeasts 45 = .ok (.iload_n 1, 1) := by decide +kernel
theorem dX1_eatBeasts_46 : decode cX1_eatBeasts 46 = .ok (.invokevirtual 78, 3) := by decide +kernel
theorem dX1_eatBeasts_49 : decode cX1_eatBeasts 49 = .ok (.iinc 1 (-1), 3) := by decide +kernel
theorem dX1_eatBeasts_52 : decode cX1_eatBeasts 52 = .ok (.goto (-45), 3) := by decide +kernel
theorem dX1_eatBeasts_55 : decode cX1_eatBeasts 55 = .ok (.return_, 1) := by decide +kernel
theorem dX1_devour_0 : decode cX1_devour 0 = .ok (.aload_n 0, 1) := by decide +kernel
theorem dX1_devour_1 : decode cX1_devour 1 = .ok (.getfield 40, 3) := by decide +kernel
theorem dX1_devour_4 : decode cX1_devour 4 = .ok (.iload_n 1, 1) := by decide +kernel
theorem dX1_devour_5 : decode cX1_devour 5 = .ok (.ishr, 1) := by decide +kernel
theorem dX1_devour_6 : decode cX1_devour 6 = .ok (.iconst 1, 1) := by decide +kernel
theorem dX1_devour_7 : decode cX1_devour 7 = .ok (.iand, 1) := by decide +kernel
theorem dX1_devour_8 : decode cX1_devour 8 = .ok (.ifCond .ne 4, 3) := by decide +kernel
theorem dX1_devour_11 : decode cX1_devour 11 = .ok (.return_, 1) := by decide +kernel
theorem dX1_devour_12 : decode cX1_devour 12 = .ok (.aload_n 0, 1) := by decide +kernel
theorem dX1_devour_13 : decode cX1_devour 13 = .ok (.getfield 9, 3) := by decide +kernel
theorem dX1_devour_16 : decode cX1_devour 16 = .ok (.iload_n 1, 1) := by decide +kernel
theorem dX1_devour_17 : decode cX1_devour 17 = .ok (.invokestatic 22, 3) := by decide +kernel
theorem dX1_devour_20 : decode cX1_devour 20 = .ok (.istore_n 2, 1) := by decide +kernel
theorem dX1_devour_21 : decode cX1_devour 21 = .ok (.aload_n 0, 1) := by decide +kernel
theorem dX1_devour_22 : decode cX1_devour 22 = .ok (.dup, 1) := by decide +kernel
theorem dX1_devour_23 : decode cX1_devour 23 = .ok (.getfield 40, 3) := by decide +kernel
theorem dX1_devour_26 : decode cX1_devour 26 = .ok (.iconst 1, 1) := by decide +kernel
theorem dX1_devour_27 : decode cX1_devour 27 = .ok (.iload_n 1, 1) := by decide +kernel
theorem dX1_devour_28 : decode cX1_devour 28 = .ok (.ishl, 1) := by decide +kernel
theorem dX1_devour_29 : decode cX1_devour 29 = .ok (.iconst (-1), 1) := by decide +kernel
theorem dX1_devour_30 : decode cX1_devour 30 = .ok (.ixor, 1) := by decide +kernel
theorem dX1_devour_31 : decode cX1_devour 31 = .ok (.iand, 1) := by decide +kernel
theorem dX1_devour_32 : decode cX1_devour 32 = .ok (.putfield 40, 3) := by decide +kernel
theorem dX1_devour_35 : decode cX1_devour 35 = .ok (.aload_n 0, 1) := by decide +kernel
theorem dX1_devour_36 : decode cX1_devour 36 = .ok (.dup, 1) := by decide +kernel
theorem dX1_devour_37 : decode cX1_devour 37 = .ok (.getfield 63, 3) := by decide +kernel
theorem dX1_devour_40 : decode cX1_devour 40 = .ok (.getstatic 56, 3) := by decide +kernel
theorem dX1_devour_43 : decode cX1_devour 43 = .ok (.iload_n 2, 1) := by decide +kernel
theorem dX1_devour_44 : decode cX1_devour 44 = .ok (.invokestatic 22, 3) := by decide +kernel
theorem dX1_devour_47 : decode cX1_devour 47 = .ok (.isub, 1) := by decide +kernel
theorem dX1_devour_48 : decode cX1_devour 48 = .ok (.putfield 63, 3) := by decide +kernel
theorem dX1_devour_51 : decode cX1_devour 51 = .ok (.aload_n 0, 1) := by decide +kernel
theorem dX1_devour_52 : decode cX1_devour 52 = .ok (.dup, 1) := by decide +kernel
theorem dX1_devour_53 : decode cX1_devour 53 = .ok (.getfield 46, 3) := by decide +kernel
theorem dX1_devour_56 : decode cX1_devour 56 = .ok (.getstatic 66, 3) := by decide +kernel
theorem dX1_devour_59 : decode cX1_devour 59 = .ok (.iload_n 2, 1) := by decide +kernel
theorem dX1_devour_60 : decode cX1_devour 60 = .ok (.invokestatic 22, 3) := by decide +kernel
theorem dX1_devour_63 : decode cX1_devour 63 = .ok (.isub, 1) := by decide +kernel
theorem dX1_devour_64 : decode cX1_devour 64 = .ok (.putfield 46, 3) := by decide +kernel
theorem dX1_devour_67 : decode cX1_devour 67 = .ok (.aload_n 0, 1) := by decide +kernel
theorem dX1_devour_68 : decode cX1_devour 68 = .ok (.aload_n 0, 1) := by decide +kernel
theorem dX1_devour_69 : decode cX1_devour 69 = .ok (.getfield 43, 3) := by decide +kernel
theorem dX1_devour_72 : decode cX1_devour 72 = .ok (.getstatic 85, 3) := by decide +kernel
theorem dX1_devour_75 : decode cX1_devour 75 = .ok (.iload_n 2, 1) := by decide +kernel
theorem dX1_devour_76 : decode cX1_devour 76 = .ok (.invokestatic 22, 3) := by decide +kernel
theorem dX1_devour_79 : decode cX1_devour 79 = .ok (.iadd, 1) := by decide +kernel
theorem dX1_devour_80 : decode cX1_devour 80 = .ok (.aload_n 0, 1) := by decide +kernel
theorem dX1_devour_81 : decode cX1_devour 81 = .ok (.getfield 63, 3) := by decide +kernel
theorem dX1_devour_84 : decode cX1_devour 84 = .ok (.invokestatic 69, 3) := by decide +kernel
theorem dX1_devour_87 : decode cX1_devour 87 = .ok (.putfield 43, 3) := by decide +kernel
theorem dX1_devour_90 : decode cX1_devour 90 = .ok (.return_, 1) := by decide +kernel
theorem dX1_dieOn_0 : decode cX1_dieOn 0 = .ok (.aload_n 0, 1) := by decide +kernel
theorem dX1_dieOn_1 : decode cX1_dieOn 1 = .ok (.iconst 0, 1) := by decide +kernel
theorem dX1_dieOn_2 : decode cX1_dieOn 2 = .ok (.putfield 40, 3) := by decide +kernel
theorem dX1_dieOn_5 : decode cX1_dieOn 5 = .ok (.aload_n 0, 1) := by decide +kernel
theorem dX1_dieOn_6 : decode cX1_dieOn 6 = .ok (.iconst 0, 1) := by decide +kernel
theorem dX1_dieOn_7 : decode cX1_dieOn 7 = .ok (.putfield 43, 3) := by decide +kernel
theorem dX1_dieOn_10 : decode cX1_dieOn 10 = .ok (.aload_n 0, 1) := by decide +kernel
theorem dX1_dieOn_11 : decode cX1_dieOn 11 = .ok (.iload_n 1, 1) := by decide +kernel
theorem dX1_dieOn_12 : decode cX1_dieOn 12 = .ok (.putfield 75, 3) := by decide +kernel
theorem dX1_dieOn_15 : decode cX1_dieOn 15 = .ok (.return_, 1) := by decide +kernel
theorem dX1_takeUpAt_0 : decode cX1_takeUpAt 0 = .ok (.aload_n 0, 1) := by decide +kernel
theorem dX1_takeUpAt_1 : decode cX1_takeUpAt 1 = .ok (.getfield 15, 3) := by decide +kernel
theorem dX1_takeUpAt_4 : decode cX1_takeUpAt 4 = .ok (.iload_n 1, 1) := by decide +kernel
theorem dX1_takeUpAt_5 : decode cX1_takeUpAt 5 = .ok (.iconst 1, 1) := by decide +kernel
theorem dX1_takeUpAt_6 : decode cX1_takeUpAt 6 = .ok (.isub, 1) := by decide +kernel
theorem dX1_takeUpAt_7 : decode cX1_takeUpAt 7 = .ok (.invokestatic 22, 3) := by decide +kernel
theorem dX1_takeUpAt_10 : decode cX1_takeUpAt 10 = .ok (.aload_n 0, 1) := by decide +kernel
theorem dX1_takeUpAt_11 : decode cX1_takeUpAt 11 = .ok (.getfield 63, 3) := by decide +kernel
theorem dX1_takeUpAt_14 : decode cX1_takeUpAt 14 = .ok (.aload_n 0, 1) := by decide +kernel
theorem dX1_takeUpAt_15 : decode cX1_takeUpAt 15 = .ok (.getfield 43, 3) := by decide +kernel
theorem dX1_takeUpAt_18 : decode cX1_takeUpAt 18 = .ok (.isub, 1) := by decide +kernel
theorem dX1_takeUpAt_19 : decode cX1_takeUpAt 19 = .ok (.invokestatic 69, 3) := by decide +kernel
theorem dX1_takeUpAt_22 : decode cX1_takeUpAt 22 = .ok (.istore_n 2, 1) := by decide +kernel
theorem dX1_takeUpAt_23 : decode cX1_takeUpAt 23 = .ok (.aload_n 0, 1) := by decide +kernel
theorem dX1_takeUpAt_24 : decode cX1_takeUpAt 24 = .ok (.getfield 15, 3) := by decide +kernel
theorem dX1_takeUpAt_27 : decode cX1_takeUpAt 27 = .ok (.iload_n 1, 1) := by decide +kernel
theorem dX1_takeUpAt_28 : decode cX1_takeUpAt 28 = .ok (.iconst 1, 1) := by decide +kernel
theorem dX1_takeUpAt_29 : decode cX1_takeUpAt 29 = .ok (.isub, 1) := by decide +kernel
theorem dX1_takeUpAt_30 : decode cX1_takeUpAt 30 = .ok (.aload_n 0, 1) := by decide +kernel
theorem dX1_takeUpAt_31 : decode cX1_takeUpAt 31 = .ok (.getfield 15, 3) := by decide +kernel
theorem dX1_takeUpAt_34 : decode cX1_takeUpAt 34 = .ok (.iload_n 1, 1) := by decide +kernel
theorem dX1_takeUpAt_35 : decode cX1_takeUpAt 35 = .ok (.iconst 1, 1) := by decide +kernel
theorem dX1_takeUpAt_36 : decode cX1_takeUpAt 36 = .ok (.isub, 1) := by decide +kernel
theorem dX1_takeUpAt_37 : decode cX1_takeUpAt 37 = .ok (.invokestatic 22, 3) := by decide +kernel
theorem dX1_takeUpAt_40 : decode cX1_takeUpAt 40 = .ok (.iload_n 2, 1) := by decide +kernel
theorem dX1_takeUpAt_41 : decode cX1_takeUpAt 41 = .ok (.isub, 1) := by decide +kernel
theorem dX1_takeUpAt_42 : decode cX1_takeUpAt 42 = .ok (.invokestatic 88, 3) := by decide +kernel
theorem dX1_takeUpAt_45 : decode cX1_takeUpAt 45 = .ok (.aload_n 0, 1) := by decide +kernel
theorem dX1_takeUpAt_46 : decode cX1_takeUpAt 46 = .ok (.dup, 1) := by decide +kernel
theorem dX1_takeUpAt_47 : decode cX1_takeUpAt 47 = .ok (.getfield 43, 3) := by decide +kernel
theorem dX1_takeUpAt_50 : decode cX1_takeUpAt 50 = .ok (.iload_n 2, 1) := by decide +kernel
theorem dX1_takeUpAt_51 : decode cX1_takeUpAt 51 = .ok (.iadd, 1) := by decide +kernel
theorem dX1_takeUpAt_52 : decode cX1_takeUpAt 52 = .ok (.putfield 43, 3) := by decide +kernel
theorem dX1_takeUpAt_55 : decode cX1_takeUpAt 55 = .ok (.return_, 1) := by decide +kernel
theorem dX2_init_0 : decode cX2_init 0 = .ok (.aload_n 0, 1) := by decide +kernel
theorem dX2_init_1 : decode cX2_init 1 = .ok (.invokespecial 3, 3) := by decide +kernel
theorem dX2_init_4 : decode cX2_init 4 = .ok (.aload_n 0, 1) := by decide +kernel
theorem dX2_init_5 : decode cX2_init 5 = .ok (.iconst 5, 1) := by decide +kernel
theorem dX2_init_6 : decode cX2_init 6 = .ok (.newarray .int, 2) := by decide +kernel
theorem dX2_init_8 : decode cX2_init 8 = .ok (.putfield 9, 3) := by decide +kernel
theorem dX2_init_11 : decode cX2_init 11 = .ok (.aload_n 0, 1) := by decide +kernel
theorem dX2_init_12 : decode cX2_init 12 = .ok (.bipush 6, 2) := by decide +kernel
theorem dX2_init_14 : decode cX2_init 14 = .ok (.newarray .int, 2) := by decide +kernel
theorem dX2_init_16 : decode cX2_init 16 = .ok (.putfield 15, 3) := by decide +kernel
theorem dX2_init_19 : decode cX2_init 19 = .ok (.aload_n 0, 1) := by decide +kernel
theorem dX2_init_20 : decode cX2_init 20 = .ok (.bipush 6, 2) := by decide +kernel
theorem dX2_init_22 : decode cX2_init 22 = .ok (.newarray .int, 2) := by decide +kernel
theorem dX2_init_24 : decode cX2_init 24 = .ok (.putfield 18, 3) := by decide +kernel
theorem dX2_init_27 : decode cX2_init 27 = .ok (.aload_n 0, 1) := by decide +kernel
theorem dX2_init_28 : decode cX2_init 28 = .ok (.bipush 6, 2) := by decide +kernel
theorem dX2_init_30 : decode cX2_init 30 = .ok (.newarray .int, 2) := by decide +kernel
theorem dX2_init_32 : decode cX2_init 32 = .ok (.putfield 21, 3) := by decide +kernel
theorem dX2_init_35 : decode cX2_init 35 = .ok (.aload_n 0, 1) := by decide +kernel
theorem dX2_init_36 : decode cX2_init 36 = .ok (.bipush 6, 2) := by decide +kernel
theorem dX2_init_38 : decode cX2_init 38 = .ok (.newarray .int, 2) := by decide +kernel
theorem dX2_init_40 : decode cX2_init 40 = .ok (.putfield 24, 3) := by decide +kernel
theorem dX2_init_43 : decode cX2_init 43 = .ok (.return_, 1) := by decide +kernel
theorem dX2_begin_0 : decode cX2_begin 0 = .ok (.aload_n 0, 1) := by decide +kernel
theorem dX2_begin_1 : decode cX2_begin 1 = .ok (.iload_n 1, 1) := by decide +kernel
theorem dX2_begin_2 : decode cX2_begin 2 = .ok (.putfield 27, 3) := by decide +kernel
theorem dX2_begin_5 : decode cX2_begin 5 = .ok (.aload_n 0, 1) := by decide +kernel
theorem dX2_begin_6 : decode cX2_begin 6 = .ok (.iconst 0, 1) := by decide +kernel
theorem dX2_begin_7 : decode cX2_begin 7 = .ok (.putfield 31, 3) := by decide +kernel
theorem dX2_begin_10 : decode cX2_begin 10 = .ok (.aload_n 0, 1) := by decide +kernel
theorem dX2_begin_11 : decode cX2_begin 11 = .ok (.iconst 0, 1) := by decide +kernel
theorem dX2_begin_12 : decode cX2_begin 12 = .ok (.putfield 34, 3) := by decide +kernel
theorem dX2_begin_15 : decode cX2_begin 15 = .ok (.aload_n 0, 1) := by decide +kernel
theorem dX2_begin_16 : decode cX2_begin 16 = .ok (.iconst 0, 1) := by decide +kernel
theorem dX2_begin_17 : decode cX2_begin 17 = .ok (.putfield 37, 3) := by decide +kernel
theorem dX2_begin_20 : decode cX2_begin 20 = .ok (.return_, 1) := by decide +kernel
theorem dX2_note_0 : decode cX2_note 0 = .ok (.aload_n 0, 1) := by decide +kernel
theorem dX2_note_1 : decode cX2_note 1 = .ok (.getfield 15, 3) := by decide +kernel
theorem dX2_note_4 : decode cX2_note 4 = .ok (.aload_n 0, 1) := by decide +kernel
theorem dX2_note_5 : decode cX2_note 5 = .ok (.getfield 37, 3) := by decide +kernel
theorem dX2_note_8 : decode cX2_note 8 = .ok (.iload_n 1, 1) := by decide +kernel
theorem dX2_note_9 : decode cX2_note 9 = .ok (.invokestatic 40, 3) := by decide +kernel
theorem dX2_note_12 : decode cX2_note 12 = .ok (.aload_n 0, 1) := by decide +kernel
theorem dX2_note_13 : decode cX2_note 13 = .ok (.getfield 18, 3) := by decide +kernel
theorem dX2_note_16 : decode cX2_note 16 = .ok (.aload_n 0, 1) := by decide +kernel
theorem dX2_note_17 : decode cX2_note 17 = .ok (.getfield 37, 3) := by decide +kernel
theorem dX2_note_20 : decode cX2_note 20 = .ok (.iload_n 2, 1) := by decide +kernel
theorem dX2_note_21 : decode cX2_note 21 = .ok (.invokestatic 40, 3) := by decide +kernel
theorem dX2_note_24 : decode cX2_note 24 = .ok (.aload_n 0, 1) := by decide +kernel
theorem dX2_note_25 : decode cX2_note 25 = .ok (.getfield 21, 3) := by decide +kernel
theorem dX2_note_28 : decode cX2_note 28 = .ok (.aload_n 0, 1) := by decide +kernel
theorem dX2_note_29 : decode cX2_note 29 = .ok (.getfield 37, 3) := by decide +kernel
theorem dX2_note_32 : decode cX2_note 32 = .ok (.iload_n 3, 1) := by decide +kernel
theorem dX2_note_33 : decode cX2_note 33 = .ok (.invokestatic 40, 3) := by decide +kernel
theorem dX2_note_36 : decode cX2_note 36 = .ok (.aload_n 0, 1) := by decide +kernel
theorem dX2_note_37 : decode cX2_note 37 = .ok (.getfield 24, 3) := by decide +kernel
theorem dX2_note_40 : decode cX2_note 40 = .ok (.aload_n 0, 1) := by decide +kernel
theorem dX2_note_41 : decode cX2_note 41 = .ok (.getfield 37, 3) := by decide +kernel
theorem dX2_note_44 : decode cX2_note 44 = .ok (.iload 4, 2) := by decide +kernel
theorem dX2_note_46 : decode cX2_note 46 = .ok (.ifCond .eq 7, 3) := by decide +kernel
theorem dX2_note_49 : decode cX2_note 49 = .ok (.iconst 1, 1) := by decide +kernel
theorem dX2_note_50 : decode cX2_note 50 = .ok (.goto 4, 3) := by decide +kernel
theorem dX2_note_53 : decode cX2_note 53 = .ok (.iconst 0, 1) := by decide +kernel
theorem dX2_note_54 : decode cX2_note 54 = .ok (.invokestatic 40, 3) := by decide +kernel
theorem dX2_note_57 : decode cX2_note 57 = .ok (.aload_n 0, 1) := by decide +kernel
theorem dX2_note_58 : decode cX2_note 58 = .ok (.dup, 1) := by decide +kernel
theorem dX2_note_59 : decode cX2_note 59 = .ok (.getfield 37, 3) := by decide +kernel
theorem dX2_note_62 : decode cX2_note 62 = .ok (.iconst 1, 1) := by decide +kernel
theorem dX2_note_63 : decode cX2_note 63 = .ok (.iadd, 1) := by decide +kernel
theorem dX2_note_64 : decode cX2_note 64 = .ok (.putfield 37, 3) := by decide +kernel
theorem dX2_note_67 : decode cX2_note 67 = .ok (.return_, 1) := by decide +kernel
theorem dX2_takeFrom_0 : decode cX2_takeFrom 0 = .ok (.aload_n 1, 1) := by decide +kernel
theorem dX2_takeFrom_1 : decode cX2_takeFrom 1 = .ok (.ifnonnull 4, 3) := by decide +kernel
theorem dX2_takeFrom_4 : decode cX2_takeFrom 4 = .ok (.return_, 1) := by decide +kernel
theorem dX2_takeFrom_5 : decode cX2_takeFrom 5 = .ok (.aload_n 0, 1) := by decide +kernel
theorem dX2_takeFrom_6 : decode cX2_takeFrom 6 = .ok (.aload_n 1, 1) := by decide +kernel
theorem dX2_takeFrom_7 : decode cX2_takeFrom 7 = .ok (.getfield 27, 3) := by decide +kernel
theorem dX2_takeFrom_10 : decode cX2_takeFrom 10 = .ok (.putfield 27, 3) := by decide +kernel
theorem dX2_takeFrom_13 : decode cX2_takeFrom 13 = .ok (.aload_n 0, 1) := by decide +kernel
theorem dX2_takeFrom_14 : decode cX2_takeFrom 14 = .ok (.aload_n 1, 1) := by decide +kernel
theorem dX2_takeFrom_15 : decode cX2_takeFrom 15 = .ok (.getfield 31, 3) := by decide +kernel
theorem dX2_takeFrom_18 : decode cX2_takeFrom 18 = .ok (.putfield 31, 3) := by decide +kernel
theorem dX2_takeFrom_21 : decode cX2_takeFrom 21 = .ok (.aload_n 0, 1) := by decide +kernel
theorem dX2_takeFrom_22 : decode cX2_takeFrom 22 = .ok (.aload_n 1, 1) := by decide +kernel
theorem dX2_takeFrom_23 : decode cX2_takeFrom 23 = .ok (.getfield 34, 3) := by decide +kernel
theorem dX2_takeFrom_26 : decode cX2_takeFrom 26 = .ok (.putfield 34, 3) := by decide +kernel
theorem dX2_takeFrom_29 : decode cX2_takeFrom 29 = .ok (.aload_n 0, 1) := by decide +kernel
theorem dX2_takeFrom_30 : decode cX2_takeFrom 30 = .ok (.aload_n 1, 1) := by decide +kernel
theorem dX2_takeFrom_31 : decode cX2_takeFrom 31 = .ok (.getfield 37, 3) := by decide +kernel
theorem dX2_takeFrom_34 : decode cX2_takeFrom 34 = .ok (.putfield 37, 3) := by decide +kernel
theorem dX2_takeFrom_37 : decode cX2_takeFrom 37 = .ok (.aload_n 1, 1) := by decide +kernel
theorem dX2_takeFrom_38 : decode cX2_takeFrom 38 = .ok (.getfield 9, 3) := by decide +kernel
theorem dX2_takeFrom_41 : decode cX2_takeFrom 41 = .ok (.aload_n 0, 1) := by decide +kernel
theorem dX2_takeFrom_42 : decode cX2_takeFrom 42 = .ok (.getfield 9, 3) := by decide +kernel
theorem dX2_takeFrom_45 : decode cX2_takeFrom 45 = .ok (.invokestatic 44, 3) := by decide +kernel
theorem dX2_takeFrom_48 : decode cX2_takeFrom 48 = .ok (.aload_n 1, 1) := by decide +kernel
theorem dX2_takeFrom_49 : decode cX2_takeFrom 49 = .ok (.getfield 15, 3) := by decide +kernel
theorem dX2_takeFrom_52 : decode cX2_takeFrom 52 = .ok (.aload_n 0, 1) := by decide +kernel
theorem dX2_takeFrom_53 : decode cX2_takeFrom 53 = .ok (.getfield 15, 3) := by decide +kernel
theorem dX2_takeFrom_56 : decode cX2_takeFrom 56 = .ok (.invokestatic 44, 3) := by decide +kernel
theorem dX2_takeFrom_59 : decode cX2_takeFrom 59 = .ok (.aload_n 1, 1) := by decide +kernel
theorem dX2_takeFrom_60 : decode cX2_takeFrom 60 = .ok (.getfield 18, 3) := by decide +kernel
theorem dX2_takeFrom_63 : decode cX2_takeFrom 63 = .ok (.aload_n 0, 1) := by decide +kernel
theorem dX2_takeFrom_64 : decode cX2_takeFrom 64 = .ok (.getfield 18, 3) := by decide +kernel
theorem dX2_takeFrom_67 : decode cX2_takeFrom 67 = .ok (.invokestatic 44, 3) := by decide +kernel
theorem dX2_takeFrom_70 : decode cX2_takeFrom 70 = .ok (.aload_n 1, 1) := by decide +kernel
theorem dX2_takeFrom_71 : decode cX2_takeFrom 71 = .ok (.getfield 21, 3) := by decide +kernel
theorem dX2_takeFrom_74 : decode cX2_takeFrom 74 = .ok (.aload_n 0, 1) := by decide +kernel
theorem dX2_takeFrom_75 : decode cX2_takeFrom 75 = .ok (.getfield 21, 3) := by decide +kernel
theorem dX2_takeFrom_78 : decode cX2_takeFrom 78 = .ok (.invokestatic 44, 3) := by decide +kernel
theorem dX2_takeFrom_81 : decode cX2_takeFrom 81 = .ok (.aload_n 1, 1) := by decide +kernel
theorem dX2_takeFrom_82 : decode cX2_takeFrom 82 = .ok (.getfield 24, 3) := by decide +kernel
theorem dX2_takeFrom_85 : decode cX2_takeFrom 85 = .ok (.aload_n 0, 1) := by decide +kernel
theorem dX2_takeFrom_86 : decode cX2_takeFrom 86 = .ok (.getfield 24, 3) := by decide +kernel
theorem dX2_takeFrom_89 : decode cX2_takeFrom 89 = .ok (.invokestatic 44, 3) := by decide +kernel
theorem dX2_takeFrom_92 : decode cX2_takeFrom 92 = .ok (.return_, 1) := by decide +kernel
theorem dX3_init_0 : decode cX3_init 0 = .ok (.aload_n 0, 1) := by decide +kernel
theorem dX3_init_1 : decode cX3_init 1 = .ok (.invokespecial 1, 3) := by decide +kernel
theorem dX3_init_4 : decode cX3_init 4 = .ok (.aload_n 0, 1) := by decide +kernel
theorem dX3_init_5 : decode cX3_init 5 = .ok (.new 7, 3) := by decide +kernel
theorem dX3_init_8 : decode cX3_init 8 = .ok (.dup, 1) := by decide +kernel
theorem dX3_init_9 : decode cX3_init 9 = .ok (.invokespecial 9, 3) := by decide +kernel
theorem dX3_init_12 : decode cX3_init 12 = .ok (.putfield 10, 3) := by decide +kernel
theorem dX3_init_15 : decode cX3_init 15 = .ok (.aload_n 0, 1) := by decide +kernel
theorem dX3_init_16 : decode cX3_init 16 = .ok (.new 16, 3) := by decide +kernel
theorem dX3_init_19 : decode cX3_init 19 = .ok (.dup, 1) := by decide +kernel
theorem dX3_init_20 : decode cX3_init 20 = .ok (.invokespecial 18, 3) := by decide +kernel
theorem dX3_init_23 : decode cX3_init 23 = .ok (.putfield 19, 3) := by decide +kernel
theorem dX3_init_26 : decode cX3_init 26 = .ok (.aload_n 0, 1) := by decide +kernel
theorem dX3_init_27 : decode cX3_init 27 = .ok (.new 23, 3) := by decide +kernel
theorem dX3_init_30 : decode cX3_init 30 = .ok (.dup, 1) := by decide +kernel
theorem dX3_init_31 : decode cX3_init 31 = .ok (.invokespecial 25, 3) := by decide +kernel
theorem dX3_init_34 : decode cX3_init 34 = .ok (.putfield 26, 3) := by decide +kernel
theorem dX3_init_37 : decode cX3_init 37 = .ok (.aload_n 0, 1) := by decide +kernel
theorem dX3_init_38 : decode cX3_init 38 = .ok (.new 23, 3) := by decide +kernel
theorem dX3_init_41 : decode cX3_init 41 = .ok (.dup, 1) := by decide +kernel
theorem dX3_init_42 : decode cX3_init 42 = .ok (.invokespecial 25, 3) := by decide +kernel
theorem dX3_init_45 : decode cX3_init 45 = .ok (.putfield 30, 3) := by decide +kernel
theorem dX3_init_48 : decode cX3_init 48 = .ok (.aload_n 0, 1) := by decide +kernel
theorem dX3_init_49 : decode cX3_init 49 = .ok (.iconst 5, 1) := by decide +kernel
theorem dX3_init_50 : decode cX3_init 50 = .ok (.newarray .int, 2) := by decide +kernel
theorem dX3_init_52 : decode cX3_init 52 = .ok (.putfield 33, 3) := by decide +kernel
theorem dX3_init_55 : decode cX3_init 55 = .ok (.return_, 1) := by decide +kernel
theorem dX3_letter_0 : decode cX3_letter 0 = .ok (.iload_n 1, 1) := by decide +kernel
theorem dX3_letter_1 : decode cX3_letter 1 = .ok (.iconst 1, 1) := by decide +kernel
theorem dX3_letter_2 : decode cX3_letter 2 = .ok (.if_icmp .lt 9, 3) := by decide +kernel
theorem dX3_letter_5 : decode cX3_letter 5 = .ok (.iload_n 1, 1) := by decide +kernel
theorem dX3_letter_6 : decode cX3_letter 6 = .ok (.bipush 126, 2) := by decide +kernel
theorem dX3_letter_8 : decode cX3_letter 8 = .ok (.if_icmp .le 6, 3) := by decide +kernel
theorem dX3_letter_11 : decode cX3_letter 11 = .ok (.bipush (-102), 2) := by decide +kernel
theorem dX3_letter_13 : decode cX3_letter 13 = .ok (.ireturn, 1) := by decide +kernel
theorem dX3_letter_14 : decode cX3_letter 14 = .ok (.aload_n 0, 1) := by decide +kernel
theorem dX3_letter_15 : decode cX3_letter 15 = .ok (.getfield 10, 3) := by decide +kernel
theorem dX3_letter_18 : decode cX3_letter 18 = .ok (.iload_n 1, 1) := by decide +kernel
theorem dX3_letter_19 : decode cX3_letter 19 = .ok (.invokevirtual 37, 3) := by decide +kernel
theorem dX3_letter_22 : decode cX3_letter 22 = .ok (.ifCond .eq 13, 3) := by decide +kernel
theorem dX3_letter_25 : decode cX3_letter 25 = .ok (.aload_n 0, 1) := by decide +kernel
theorem dX3_letter_26 : decode cX3_letter 26 = .ok (.getfield 10, 3) := by decide +kernel
theorem dX3_letter_29 : decode cX3_letter 29 = .ok (.getfield 41, 3) := by decide +kernel
theorem dX3_letter_32 : decode cX3_letter 32 = .ok (.goto 5, 3) := by decide +kernel
theorem dX3_letter_35 : decode cX3_letter 35 = .ok (.bipush (-104), 2) := by decide +kernel
theorem dX3_letter_37 : decode cX3_letter 37 = .ok (.ireturn, 1) := by decide +kernel
theorem dX3_blank_0 : decode cX3_blank 0 = .ok (.aload_n 0, 1) := by decide +kernel
theorem dX3_blank_1 : decode cX3_blank 1 = .ok (.getfield 10, 3) := by decide +kernel
theorem dX3_blank_4 : decode cX3_blank 4 = .ok (.getfield 41, 3) := by decide +kernel
theorem dX3_blank_7 : decode cX3_blank 7 = .ok (.istore_n 1, 1) := by decide +kernel
theorem dX3_blank_8 : decode cX3_blank 8 = .ok (.aload_n 0, 1) := by decide +kernel
theorem dX3_blank_9 : decode cX3_blank 9 = .ok (.getfield 10, 3) := by decide +kernel
theorem dX3_blank_12 : decode cX3_blank 12 = .ok (.iconst 0, 1) := by decide +kernel
theorem dX3_blank_13 : decode cX3_blank 13 = .ok (.putfield 41, 3) := by decide +kernel
theorem dX3_blank_16 : decode cX3_blank 16 = .ok (.iload_n 1, 1) := by decide +kernel
theorem dX3_blank_17 : decode cX3_blank 17 = .ok (.ireturn, 1) := by decide +kernel
theorem dX3_fault_0 : decode cX3_fault 0 = .ok (.aload_n 0, 1) := by decide +kernel
theorem dX3_fault_1 : decode cX3_fault 1 = .ok (.getfield 10, 3) := by decide +kernel
theorem dX3_fault_4 : decode cX3_fault 4 = .ok (.invokevirtual 45, 3) := by decide +kernel
theorem dX3_fault_7 : decode cX3_fault 7 = .ok (.ireturn, 1) := by decide +kernel
theorem dX3_camp_0 : decode cX3_camp 0 = .ok (.aload_n 0, 1) := by decide +kernel
theorem dX3_camp_1 : decode cX3_camp 1 = .ok (.getfield 10, 3) := by decide +kernel
theorem dX3_camp_4 : decode cX3_camp 4 = .ok (.invokevirtual 49, 3) := by decide +kernel
theorem dX3_camp_7 : decode cX3_camp 7 = .ok (.ifCond .ne 6, 3) := by decide +kernel
theorem dX3_camp_10 : decode cX3_camp 10 = .ok (.bipush (-103), 2) := by decide +kernel
theorem dX3_camp_12 : decode cX3_camp 12 = .ok (.ireturn, 1) := by decide +kernel
theorem dX3_camp_13 : decode cX3_camp 13 = .ok (.aload_n 0, 1) := by decide +kernel
theorem dX3_camp_14 : decode cX3_camp 14 = .ok (.getfield 19, 3) := by decide +kernel
theorem dX3_camp_17 : decode cX3_camp 17 = .ok (.aload_n 0, 1) := by decide +kernel
theorem dX3_camp_18 : decode cX3_camp 18 = .ok (.getfield 10, 3) := by decide +kernel
theorem dX3_camp_21 : decode cX3_camp 21 = .ok (.getfield 41, 3) := by decide +kernel
theorem dX3_camp_24 : decode cX3_camp 24 = .ok (.iconst 5, 1) := by decide +kernel
theorem dX3_camp_25 : decode cX3_camp 25 = .ok (.isub, 1) := by decide +kernel
theorem dX3_camp_26 : decode cX3_camp 26 = .ok (.iconst 1, 1) := by decide +kernel
theorem dX3_camp_27 : decode cX3_camp 27 = .ok (.isub, 1) := by decide +kernel
theorem dX3_camp_28 : decode cX3_camp 28 = .ok (.putfield 53, 3) := by decide +kernel
theorem dX3_camp_31 : decode cX3_camp 31 = .ok (.iconst 0, 1) := by decide +kernel
theorem dX3_camp_32 : decode cX3_camp 32 = .ok (.istore_n 1, 1) := by decide +kernel
theorem dX3_camp_33 : decode cX3_camp 33 = .ok (.iload_n 1, 1) := by decide +kernel
theorem dX3_camp_34 : decode cX3_camp 34 = .ok (.aload_n 0, 1) := by decide +kernel
theorem dX3_camp_35 : decode cX3_camp 35 = .ok (.getfield 19, 3) := by decide +kernel
theorem dX3_camp_38 : decode cX3_camp 38 = .ok (.getfield 53, 3) := by decide +kernel
theorem dX3_camp_41 : decode cX3_camp 41 = .ok (.if_icmp .ge 31, 3) := by decide +kernel
theorem dX3_camp_44 : decode cX3_camp 44 = .ok (.aload_n 0, 1) := by decide +kernel
theorem dX3_camp_45 : decode cX3_camp 45 = .ok (.getfield 19, 3) := by decide +kernel
theorem dX3_camp_48 : decode cX3_camp 48 = .ok (.getfield 56, 3) := by decide +kernel
theorem dX3_camp_51 : decode cX3_camp 51 = .ok (.iload_n 1, 1) := by decide +kernel
theorem dX3_camp_52 : decode cX3_camp 52 = .ok (.aload_n 0, 1) := by decide +kernel
theorem dX3_camp_53 : decode cX3_camp 53 = .ok (.getfield 10, 3) := by decide +kernel
theorem dX3_camp_56 : decode cX3_camp 56 = .ok (.iload_n 1, 1) := by decide +kernel
theorem dX3_camp_57 : decode cX3_camp 57 = .ok (.invokevirtual 59, 3) := by decide +kernel
theorem dX3_camp_60 : decode cX3_camp 60 = .ok (.invokestatic 63, 3) := by decide +kernel
theorem dX3_camp_63 : decode cX3_camp 63 = .ok (.invokestatic 66, 3) := by decide +kernel
theorem dX3_camp_66 : decode cX3_camp 66 = .ok (.iinc 1 1, 3) := by decide +kernel
theorem dX3_camp_69 : decode cX3_camp 69 = .ok (.goto (-36), 3) := by decide +kernel
theorem dX3_camp_72 : decode cX3_camp 72 = .ok (.aload_n 0, 1) := by decide +kernel
theorem dX3_camp_73 : decode cX3_camp 73 = .ok (.getfield 26, 3) := by decide +kernel
theorem dX3_camp_76 : decode cX3_camp 76 = .ok (.aload_n 0, 1) := by decide +kernel
theorem dX3_camp_77 : decode cX3_camp 77 = .ok (.getfield 19, 3) := by decide +kernel
theorem dX3_camp_80 : decode cX3_camp 80 = .ok (.invokevirtual 70, 3) := by decide +kernel
theorem dX3_camp_83 : decode cX3_camp 83 = .ok (.invokevirtual 73, 3) := by decide +kernel
theorem dX3_camp_86 : decode cX3_camp 86 = .ok (.iconst 0, 1) := by decide +kernel
theorem dX3_camp_87 : decode cX3_camp 87 = .ok (.istore_n 1, 1) := by decide +kernel
theorem dX3_camp_88 : decode cX3_camp 88 = .ok (.iload_n 1, 1) := by decide +kernel
theorem dX3_camp_89 : decode cX3_camp 89 = .ok (.iconst 5, 1) := by decide +kernel
theorem dX3_camp_90 : decode cX3_camp 90 = .ok (.if_icmp .ge 41, 3) := by decide +kernel
theorem dX3_camp_93 : decode cX3_camp 93 = .ok (.aload_n 0, 1) := by decide +kernel
theorem dX3_camp_94 : decode cX3_camp 94 = .ok (.getfield 26, 3) := by decide +kernel
theorem dX3_camp_97 : decode cX3_camp 97 = .ok (.getfield 77, 3) := by decide +kernel
theorem dX3_camp_100 : decode cX3_camp 100 = .ok (.iload_n 1, 1) := by decide +kernel
theorem dX3_camp_101 : decode cX3_camp 101 = .ok (.aload_n 0, 1) := by decide +kernel
theorem dX3_camp_102 : decode cX3_camp 102 = .ok (.getfield 10, 3) := by decide +kernel
theorem dX3_camp_105 : decode cX3_camp 105 = .ok (.aload_n 0, 1) := by decide +kernel
theorem dX3_camp_106 : decode cX3_camp 106 = .ok (.getfield 19, 3) := by decide +kernel
theorem dX3_camp_109 : decode cX3_camp 109 = .ok (.getfield 53, 3) := by decide +kernel
theorem dX3_camp_112 : decode cX3_camp 112 = .ok (.iconst 1, 1) := by decide +kernel
theorem dX3_camp_113 : decode cX3_camp 113 = .ok (.iadd, 1) := by decide +kernel
theorem dX3_camp_114 : decode cX3_camp 114 = .ok (.iload_n 1, 1) := by decide +kernel
theorem dX3_camp_115 : decode cX3_camp 115 = .ok (.iadd, 1) := by decide +kernel
theorem dX3_camp_116 : decode cX3_camp 116 = .ok (.invokevirtual 59, 3) := by decide +kernel
theorem dX3_camp_119 : decode cX3_camp 119 = .ok (.bipush 48, 2) := by decide +kernel
theorem dX3_camp_121 : decode cX3_camp 121 = .ok (.isub, 1) := by decide +kernel
theorem dX3_camp_122 : decode cX3_camp 122 = .ok (.invokestatic 66, 3) := by decide +kernel
theorem dX3_camp_125 : decode cX3_camp 125 = .ok (.iinc 1 1, 3) := by decide +kernel
theorem dX3_camp_128 : decode cX3_camp 128 = .ok (.goto (-40), 3) := by decide +kernel
theorem dX3_camp_131 : decode cX3_camp 131 = .ok (.aload_n 0, 1) := by decide +kernel
theorem dX3_camp_132 : decode cX3_camp 132 = .ok (.iconst 0, 1) := by decide +kernel
theorem dX3_camp_133 : decode cX3_camp 133 = .ok (.putfield 80, 3) := by decide +kernel
theorem dX3_camp_136 : decode cX3_camp 136 = .ok (.aload_n 0, 1) := by decide +kernel
theorem dX3_camp_137 : decode cX3_camp 137 = .ok (.dup, 1) := by decide +kernel
theorem dX3_camp_138 : decode cX3_camp 138 = .ok (.getfield 84, 3) := by decide +kernel
theorem dX3_camp_141 : decode cX3_camp 141 = .ok (.iconst 1, 1) := by decide +kernel
theorem dX3_camp_142 : decode cX3_camp 142 = .ok (.iadd, 1) := by decide +kernel
theorem dX3_camp_143 : decode cX3_camp 143 = .ok (.putfield 84, 3) := by decide +kernel
theorem dX3_camp_146 : decode cX3_camp 146 = .ok (.aload_n 0, 1) := by decide +kernel
theorem dX3_camp_147 : decode cX3_camp 147 = .ok (.getfield 10, 3) := by decide +kernel
theorem dX3_camp_150 : decode cX3_camp 150 = .ok (.iconst 0, 1) := by decide +kernel
theorem dX3_camp_151 : decode cX3_camp 151 = .ok (.putfield 41, 3) := by decide +kernel
theorem dX3_camp_154 : decode cX3_camp 154 = .ok (.aload_n 0, 1) := by decide +kernel
theorem dX3_camp_155 : decode cX3_camp 155 = .ok (.getfield 19, 3) := by decide +kernel
theorem dX3_camp_158 : decode cX3_camp 158 = .ok (.getfield 53, 3) := by decide +kernel
theorem dX3_camp_161 : decode cX3_camp 161 = .ok (.ireturn, 1) := by decide +kernel
theorem dX3_member_0 : decode cX3_member 0 = .ok (.iload_n 1, 1) := by decide +kernel
theorem dX3_member_1 : decode cX3_member 1 = .ok (.ifCond .lt 14, 3) := by decide +kernel
theorem dX3_member_4 : decode cX3_member 4 = .ok (.iload_n 1, 1) := by decide +kernel
theorem dX3_member_5 : decode cX3_member 5 = .ok (.aload_n 0, 1) := by decide +kernel
theorem dX3_member_6 : decode cX3_member 6 = .ok (.getfield 19, 3) := by decide +kernel
theorem dX3_member_9 : decode cX3_member 9 = .ok (.getfield 53, 3) := by decide +kernel
theorem dX3_member_12 : decode cX3_member 12 = .ok (.if_icmp .lt 6, 3) := by decide +kernel
theorem dX3_member_15 : decode cX3_member 15 = .ok (.bipush (-101), 2) := by decide +kernel
theorem dX3_member_17 : decode cX3_member 17 = .ok (.ireturn, 1) := by decide +kernel
theorem dX3_member_18 : decode cX3_member 18 = .ok (.aload_n 0, 1) := by decide +kernel
theorem dX3_member_19 : decode cX3_member 19 = .ok (.getfield 19, 3) := by decide +kernel
theorem dX3_member_22 : decode cX3_member 22 = .ok (.getfield 56, 3) := by decide +kernel
theorem dX3_member_25 : decode cX3_member 25 = .ok (.iload_n 1, 1) := by decide +kernel
theorem dX3_member_26 : decode cX3_member 26 = .ok (.invokestatic 87, 3) := by decide +kernel
theorem dX3_member_29 : decode cX3_member 29 = .ok (.istore_n 3, 1) := by decide +kernel
theorem dX3_member_30 : decode cX3_member 30 = .ok (.iload_n 2, 1) := by decide +kernel
theorem dX3_member_31 : decode cX3_member 31 = .ok (.tableswitch 71 0 4 #[33, 35, 43, 51, 59], 33) := by decide +kernel
theorem dX3_member_64 : decode cX3_member 64 = .ok (.iload_n 3, 1) := by decide +kernel
theorem dX3_member_65 : decode cX3_member 65 = .ok (.ireturn, 1) := by decide +kernel
theorem dX3_member_66 : decode cX3_member 66 = .ok (.getstatic 91, 3) := by decide +kernel
theorem dX3_member_69 : decode cX3_member 69 = .ok (.iload_n 3, 1) := by decide +kernel
theorem dX3_member_70 : decode cX3_member 70 = .ok (.invokestatic 87, 3) := by decide +kernel
theorem dX3_member_73 : decode cX3_member 73 = .ok (.ireturn, 1) := by decide +kernel
theorem dX3_member_74 : decode cX3_member 74 = .ok (.getstatic 94, 3) := by decide +kernel
theorem dX3_member_77 : decode cX3_member 77 = .ok (.iload_n 3, 1) := by decide +kernel
theorem dX3_member_78 : decode cX3_member 78 = .ok (.invokestatic 87, 3) := by decide +kernel
theorem dX3_member_81 : decode cX3_member 81 = .ok (.ireturn, 1) := by decide +kernel
theorem dX3_member_82 : decode cX3_member 82 = .ok (.getstatic 97, 3) := by decide +kernel
theorem dX3_member_85 : decode cX3_member 85 = .ok (.iload_n 3, 1) := by decide +kernel
theorem dX3_member_86 : decode cX3_member 86 = .ok (.invokestatic 87, 3) := by decide +kernel
theorem dX3_member_89 : decode cX3_member 89 = .ok (.ireturn, 1) := by decide +kernel
theorem dX3_member_90 : decode cX3_member 90 = .ok (.aload_n 0, 1) := by decide +kernel
theorem dX3_member_91 : decode cX3_member 91 = .ok (.getfield 26, 3) := by decide +kernel
theorem dX3_member_94 : decode cX3_member 94 = .ok (.getfield 100, 3) := by decide +kernel
theorem dX3_member_97 : decode cX3_member 97 = .ok (.iload_n 1, 1) := by decide +kernel
theorem dX3_member_98 : decode cX3_member 98 = .ok (.ishr, 1) := by decide +kernel
theorem dX3_member_99 : decode cX3_member 99 = .ok (.iconst 1, 1) := by decide +kernel
theorem dX3_member_100 : decode cX3_member 100 = .ok (.iand, 1) := by decide +kernel
theorem dX3_member_101 : decode cX3_member 101 = .ok (.ireturn, 1) := by decide +kernel
theorem dX3_member_102 : decode cX3_member 102 = .ok (.bipush (-102), 2) := by decide +kernel
theorem dX3_member_104 : decode cX3_member 104 = .ok (.ireturn, 1) := by decide +kernel
theorem dX3_as_0 : decode cX3_as 0 = .ok (.iload_n 1, 1) := by decide +kernel
theorem dX3_as_1 : decode cX3_as 1 = .ok (.ifCond .lt 14, 3) := by decide +kernel
theorem dX3_as_4 : decode cX3_as 4 = .ok (.iload_n 1, 1) := by decide +kernel
theorem dX3_as_5 : decode cX3_as 5 = .ok (.aload_n 0, 1) := by decide +kernel
theorem dX3_as_6 : decode cX3_as 6 = .ok (.getfield 19, 3) := by decide +kernel
theorem dX3_as_9 : decode cX3_as 9 = .ok (.getfield 53, 3) := by decide +kernel
theorem dX3_as_12 : decode cX3_as 12 = .ok (.if_icmp .lt 6, 3) := by decide +kernel
theorem dX3_as_15 : decode cX3_as 15 = .ok (.bipush (-101), 2) := by decide +kernel
theorem dX3_as_17 : decode cX3_as 17 = .ok (.ireturn, 1) := by decide +kernel
theorem dX3_as_18 : decode cX3_as 18 = .ok (.iload_n 2, 1) := by decide +kernel
theorem dX3_as_19 : decode cX3_as 19 = .ok (.ifCond .lt 8, 3) := by decide +kernel
theorem dX3_as_22 : decode cX3_as 22 = .ok (.iload_n 2, 1) := by decide +kernel
theorem dX3_as_23 : decode cX3_as 23 = .ok (.iconst 5, 1) := by decide +kernel
theorem dX3_as_24 : decode cX3_as 24 = .ok (.if_icmp .lt 6, 3) := by decide +kernel
theorem dX3_as_27 : decode cX3_as 27 = .ok (.bipush (-102), 2) := by decide +kernel
theorem dX3_as_29 : decode cX3_as 29 = .ok (.ireturn, 1) := by decide +kernel
theorem dX3_as_30 : decode cX3_as 30 = .ok (.aload_n 0, 1) := by decide +kernel
theorem dX3_as_31 : decode cX3_as 31 = .ok (.getfield 19, 3) := by decide +kernel
theorem dX3_as_34 : decode cX3_as 34 = .ok (.getfield 56, 3) := by decide +kernel
theorem dX3_as_37 : decode cX3_as 37 = .ok (.iload_n 1, 1) := by decide +kernel
theorem dX3_as_38 : decode cX3_as 38 = .ok (.invokestatic 87, 3) := by decide +kernel
theorem dX3_as_41 : decode cX3_as 41 = .ok (.iload_n 2, 1) := by decide +kernel
theorem dX3_as_42 : decode cX3_as 42 = .ok (.invokestatic 103, 3) := by decide +kernel
theorem dX3_as_45 : decode cX3_as 45 = .ok (.ifCond .eq 7, 3) := by decide +kernel
theorem dX3_as_48 : decode cX3_as 48 = .ok (.iload_n 1, 1) := by decide +kernel
theorem dX3_as_49 : decode cX3_as 49 = .ok (.goto 4, 3) := by decide +kernel
theorem dX3_as_52 : decode cX3_as 52 = .ok (.iconst (-1), 1) := by decide +kernel
theorem dX3_as_53 : decode cX3_as 53 = .ok (.ireturn, 1) := by decide +kernel
theorem dX3_cairn_0 : decode cX3_cairn 0 = .ok (.aload_n 0, 1) := by decide +kernel
theorem dX3_cairn_1 : decode cX3_cairn 1 = .ok (.iload_n 1, 1) := by decide +kernel
theorem dX3_cairn_2 : decode cX3_cairn 2 = .ok (.invokevirtual 107, 3) := by decide +kernel
theorem dX3_cairn_5 : decode cX3_cairn 5 = .ok (.ifCond .eq 6, 3) := by decide +kernel
theorem dX3_cairn_8 : decode cX3_cairn 8 = .ok (.bipush (-101), 2) := by decide +kernel
theorem dX3_cairn_10 : decode cX3_cairn 10 = .ok (.ireturn, 1) := by decide +kernel
theorem dX3_cairn_11 : decode cX3_cairn 11 = .ok (.iload_n 2, 1) := by decide +kernel
theorem dX3_cairn_12 : decode cX3_cairn 12 = .ok (.tableswitch 59 0 2 #[28, 42, 48], 28) := by decide +kernel
theorem dX3_cairn_40 : decode cX3_cairn 40 = .ok (.aload_n 0, 1) := by decide +kernel
theorem dX3_cairn_41 : decode cX3_cairn 41 = .ok (.getfield 26, 3) := by decide +kernel
theorem dX3_cairn_44 : decode cX3_cairn 44 = .ok (.getfield 77, 3) := by decide +kernel
theorem dX3_cairn_47 : decode cX3_cairn 47 = .ok (.iload_n 1, 1) := by decide +kernel
theorem dX3_cairn_48 : decode cX3_cairn 48 = .ok (.iconst 1, 1) := by decide +kernel
theorem dX3_cairn_49 : decode cX3_cairn 49 = .ok (.isub, 1) := by decide +kernel
theorem dX3_cairn_50 : decode cX3_cairn 50 = .ok (.invokestatic 87, 3) := by decide +kernel
theorem dX3_cairn_53 : decode cX3_cairn 53 = .ok (.ireturn, 1) := by decide +kernel
theorem dX3_cairn_54 : decode cX3_cairn 54 = .ok (.aload_n 0, 1) := by decide +kernel
theorem dX3_cairn_55 : decode cX3_cairn 55 = .ok (.iload_n 1, 1) := by decide +kernel
theorem dX3_cairn_56 : decode cX3_cairn 56 = .ok (.invokevirtual 110, 3) := by decide +kernel
theorem dX3_cairn_59 : decode cX3_cairn 59 = .ok (.ireturn, 1) := by decide +kernel
theorem dX3_cairn_60 : decode cX3_cairn 60 = .ok (.aload_n 0, 1) := by decide +kernel
theorem dX3_cairn_61 : decode cX3_cairn 61 = .ok (.iload_n 1, 1) := by decide +kernel
theorem dX3_cairn_62 : decode cX3_cairn 62 = .ok (.aload_n 0, 1) := by decide +kernel
theorem dX3_cairn_63 : decode cX3_cairn 63 = .ok (.iload_n 1, 1) := by decide +kernel
theorem dX3_cairn_64 : decode cX3_cairn 64 = .ok (.invokevirtual 110, 3) := by decide +kernel
theorem dX3_cairn_67 : decode cX3_cairn 67 = .ok (.invokevirtual 113, 3) := by decide +kernel
theorem dX3_cairn_70 : decode cX3_cairn 70 = .ok (.ireturn, 1) := by decide +kernel
theorem dX3_cairn_71 : decode cX3_cairn 71 = .ok (.bipush (-102), 2) := by decide +kernel
theorem dX3_cairn_73 : decode cX3_cairn 73 = .ok (.ireturn, 1) := by decide +kernel
theorem dX3_lay_0 : decode cX3_lay 0 = .ok (.aload_n 0, 1) := by decide +kernel
theorem dX3_lay_1 : decode cX3_lay 1 = .ok (.iload_n 1, 1) := by decide +kernel
theorem dX3_lay_2 : decode cX3_lay 2 = .ok (.invokevirtual 107, 3) := by decide +kernel
theorem dX3_lay_5 : decode cX3_lay 5 = .ok (.ifCond .eq 6, 3) := by decide +kernel
theorem dX3_lay_8 : decode cX3_lay 8 = .ok (.bipush (-101), 2) := by decide +kernel
theorem dX3_lay_10 : decode cX3_lay 10 = .ok (.ireturn, 1) := by decide +kernel
theorem dX3_lay_11 : decode cX3_lay 11 = .ok (.iload_n 2, 1) := by decide +kernel
theorem dX3_lay_12 : decode cX3_lay 12 = .ok (.ifCond .lt 9, 3) := by decide +kernel
theorem dX3_lay_15 : decode cX3_lay 15 = .ok (.iload_n 2, 1) := by decide +kernel
theorem dX3_lay_16 : decode cX3_lay 16 = .ok (.bipush 9, 2) := by decide +kernel
theorem dX3_lay_18 : decode cX3_lay 18 = .ok (.if_icmp .le 6, 3) := by decide +kernel
theorem dX3_lay_21 : decode cX3_lay 21 = .ok (.bipush (-102), 2) := by decide +kernel
theorem dX3_lay_23 : decode cX3_lay 23 = .ok (.ireturn, 1) := by decide +kernel
theorem dX3_lay_24 : decode cX3_lay 24 = .ok (.aload_n 0, 1) := by decide +kernel
theorem dX3_lay_25 : decode cX3_lay 25 = .ok (.getfield 26, 3) := by decide +kernel
theorem dX3_lay_28 : decode cX3_lay 28 = .ok (.getfield 77, 3) := by decide +kernel
theorem dX3_lay_31 : decode cX3_lay 31 = .ok (.iload_n 1, 1) := by decide +kernel
theorem dX3_lay_32 : decode cX3_lay 32 = .ok (.iconst 1, 1) := by decide +kernel
theorem dX3_lay_33 : decode cX3_lay 33 = .ok (.isub, 1) := by decide +kernel
theorem dX3_lay_34 : decode cX3_lay 34 = .ok (.invokestatic 87, 3) := by decide +kernel
theorem dX3_lay_37 : decode cX3_lay 37 = .ok (.istore_n 3, 1) := by decide +kernel
theorem dX3_lay_38 : decode cX3_lay 38 = .ok (.aload_n 0, 1) := by decide +kernel
theorem dX3_lay_39 : decode cX3_lay 39 = .ok (.getfield 26, 3) := by decide +kernel
theorem dX3_lay_42 : decode cX3_lay 42 = .ok (.getfield 77, 3) := by decide +kernel
theorem dX3_lay_45 : decode cX3_lay 45 = .ok (.iload_n 1, 1) := by decide +kernel
theorem dX3_lay_46 : decode cX3_lay 46 = .ok (.iconst 1, 1) := by decide +kernel
theorem dX3_lay_47 : decode cX3_lay 47 = .ok (.isub, 1) := by decide +kernel
theorem dX3_lay_48 : decode cX3_lay 48 = .ok (.iload_n 2, 1) := by decide +kernel
theorem dX3_lay_49 : decode cX3_lay 49 = .ok (.invokestatic 66, 3) := by decide +kernel
theorem dX3_lay_52 : decode cX3_lay 52 = .ok (.iload_n 3, 1) := by decide +kernel
theorem dX3_lay_53 : decode cX3_lay 53 = .ok (.ireturn, 1) := by decide +kernel
theorem dX3_march_0 : decode cX3_march 0 = .ok (.aload_n 0, 1) := by decide +kernel
theorem dX3_march_1 : decode cX3_march 1 = .ok (.iload_n 1, 1) := by decide +kernel
theorem dX3_march_2 : decode cX3_march 2 = .ok (.iload_n 2, 1) := by decide +kernel
theorem dX3_march_3 : decode cX3_march 3 = .ok (.iload_n 3, 1) := by decide +kernel
theorem dX3_march_4 : decode cX3_march 4 = .ok (.invokevirtual 117, 3) := by decide +kernel
theorem dX3_march_7 : decode cX3_march 7 = .ok (.ifCond .eq 6, 3) := by decide +kernel
theorem dX3_march_10 : decode cX3_march 10 = .ok (.bipush (-102), 2) := by decide +kernel
theorem dX3_march_12 : decode cX3_march 12 = .ok (.ireturn, 1) := by decide +kernel
theorem dX3_march_13 : decode cX3_march 13 = .ok (.aload_n 0, 1) := by decide +kernel
theorem dX3_march_14 : decode cX3_march 14 = .ok (.iload_n 1, 1) := by decide +kernel
theorem dX3_march_15 : decode cX3_march 15 = .ok (.invokevirtual 121, 3) := by decide +kernel
theorem dX3_march_18 : decode cX3_march 18 = .ok (.ifCond .eq 6, 3) := by decide +kernel
theorem dX3_march_21 : decode cX3_march 21 = .ok (.bipush (-103), 2) := by decide +kernel
theorem dX3_march_23 : decode cX3_march 23 = .ok (.ireturn, 1) := by decide +kernel
theorem dX3_march_24 : decode cX3_march 24 = .ok (.aload_n 0, 1) := by decide +kernel
theorem dX3_march_25 : decode cX3_march 25 = .ok (.getfield 19, 3) := by decide +kernel
theorem dX3_march_28 : decode cX3_march 28 = .ok (.aload_n 0, 1) := by decide +kernel
theorem dX3_march_29 : decode cX3_march 29 = .ok (.getfield 26, 3) := by decide +kernel
theorem dX3_march_32 : decode cX3_march 32 = .ok (.getfield 77, 3) := by decide +kernel
theorem dX3_march_35 : decode cX3_march 35 = .ok (.invokevirtual 124, 3) := by decide +kernel
theorem dX3_march_38 : decode cX3_march 38 = .ok (.aload_n 0, 1) := by decide +kernel
theorem dX3_march_39 : decode cX3_march 39 = .ok (.getfield 19, 3) := by decide +kernel
theorem dX3_march_42 : decode cX3_march 42 = .ok (.iload_n 1, 1) := by decide +kernel
theorem dX3_march_43 : decode cX3_march 43 = .ok (.iload_n 2, 1) := by decide +kernel
theorem dX3_march_44 : decode cX3_march 44 = .ok (.iload_n 3, 1) := by decide +kernel
theorem dX3_march_45 : decode cX3_march 45 = .ok (.invokevirtual 128, 3) := by decide +kernel
theorem dX3_march_48 : decode cX3_march 48 = .ok (.pop, 1) := by decide +kernel
theorem dX3_march_49 : decode cX3_march 49 = .ok (.aload_n 0, 1) := by decide +kernel
theorem dX3_march_50 : decode cX3_march 50 = .ok (.getfield 26, 3) := by decide +kernel
theorem dX3_march_53 : decode cX3_march 53 = .ok (.aload_n 0, 1) := by decide +kernel
theorem dX3_march_54 : decode cX3_march 54 = .ok (.getfield 26, 3) := by decide +kernel
theorem dX3_march_57 : decode cX3_march 57 = .ok (.getfield 100, 3) := by decide +kernel
theorem dX3_march_60 : decode cX3_march 60 = .ok (.iload_n 1, 1) := by decide +kernel
theorem dX3_march_61 : decode cX3_march 61 = .ok (.iconst (-1), 1) := by decide +kernel
theorem dX3_march_62 : decode cX3_march 62 = .ok (.ixor, 1) := by decide +kernel
theorem dX3_march_63 : decode cX3_march 63 = .ok (.iand, 1) := by decide +kernel
theorem dX3_march_64 : decode cX3_march 64 = .ok (.aload_n 0, 1) := by decide +kernel
theorem dX3_march_65 : decode cX3_march 65 = .ok (.getfield 19, 3) := by decide +kernel
theorem dX3_march_68 : decode cX3_march 68 = .ok (.getfield 131, 3) := by decide +kernel
theorem dX3_march_71 : decode cX3_march 71 = .ok (.ior, 1) := by decide +kernel
theorem dX3_march_72 : decode cX3_march 72 = .ok (.putfield 100, 3) := by decide +kernel
theorem dX3_march_75 : decode cX3_march 75 = .ok (.aload_n 0, 1) := by decide +kernel
theorem dX3_march_76 : decode cX3_march 76 = .ok (.getfield 19, 3) := by decide +kernel
theorem dX3_march_79 : decode cX3_march 79 = .ok (.getfield 132, 3) := by decide +kernel
theorem dX3_march_82 : decode cX3_march 82 = .ok (.aload_n 0, 1) := by decide +kernel
theorem dX3_march_83 : decode cX3_march 83 = .ok (.getfield 26, 3) := by decide +kernel
theorem dX3_march_86 : decode cX3_march 86 = .ok (.getfield 77, 3) := by decide +kernel
theorem dX3_march_89 : decode cX3_march 89 = .ok (.invokestatic 133, 3) := by decide +kernel
theorem dX3_march_92 : decode cX3_march 92 = .ok (.aload_n 0, 1) := by decide +kernel
theorem dX3_march_93 : decode cX3_march 93 = .ok (.getfield 26, 3) := by decide +kernel
theorem dX3_march_96 : decode cX3_march 96 = .ok (.dup, 1) := by decide +kernel
theorem dX3_march_97 : decode cX3_march 97 = .ok (.getfield 137, 3) := by decide +kernel
theorem dX3_march_100 : decode cX3_march 100 = .ok (.iconst 1, 1) := by decide +kernel
theorem dX3_march_101 : decode cX3_march 101 = .ok (.iadd, 1) := by decide +kernel
theorem dX3_march_102 : decode cX3_march 102 = .ok (.putfield 137, 3) := by decide +kernel
theorem dX3_march_105 : decode cX3_march 105 = .ok (.aload_n 0, 1) := by decide +kernel
theorem dX3_march_106 : decode cX3_march 106 = .ok (.getfield 19, 3) := by decide +kernel
theorem dX3_march_109 : decode cX3_march 109 = .ok (.getfield 131, 3) := by decide +kernel
theorem dX3_march_112 : decode cX3_march 112 = .ok (.ifCond .eq 16, 3) := by decide +kernel
theorem dX3_march_115 : decode cX3_march 115 = .ok (.aload_n 0, 1) := by decide +kernel
theorem dX3_march_116 : decode cX3_march 116 = .ok (.getfield 26, 3) := by decide +kernel
theorem dX3_march_119 : decode cX3_march 119 = .ok (.dup, 1) := by decide +kernel
theorem dX3_march_120 : decode cX3_march 120 = .ok (.getfield 140, 3) := by decide +kernel
theorem dX3_march_123 : decode cX3_march 123 = .ok (.iconst 1, 1) := by decide +kernel
theorem dX3_march_124 : decode cX3_march 124 = .ok (.iadd, 1) := by decide +kernel
theorem dX3_march_125 : decode cX3_march 125 = .ok (.putfield 140, 3) := by decide +kernel
theorem dX3_march_128 : decode cX3_march 128 = .ok (.aload_n 0, 1) := by decide +kernel
theorem dX3_march_129 : decode cX3_march 129 = .ok (.getfield 19, 3) := by decide +kernel
theorem dX3_march_132 : decode cX3_march 132 = .ok (.getfield 131, 3) := by decide +kernel
theorem dX3_march_135 : decode cX3_march 135 = .ok (.ireturn, 1) := by decide +kernel
theorem dX3_would_0 : decode cX3_would 0 = .ok (.aload_n 0, 1) := by decide +kernel
theorem dX3_would_1 : decode cX3_would 1 = .ok (.iload_n 1, 1) := by decide +kernel
theorem dX3_would_2 : decode cX3_would 2 = .ok (.iload_n 2, 1) := by decide +kernel
theorem dX3_would_3 : decode cX3_would 3 = .ok (.iload_n 3, 1) := by decide +kernel
theorem dX3_would_4 : decode cX3_would 4 = .ok (.invokevirtual 117, 3) := by decide +kernel
theorem dX3_would_7 : decode cX3_would 7 = .ok (.ifCond .ne 14, 3) := by decide +kernel
theorem dX3_would_10 : decode cX3_would 10 = .ok (.iload 4, 2) := by decide +kernel
theorem dX3_would_12 : decode cX3_would 12 = .ok (.ifCond .lt 9, 3) := by decide +kernel
theorem dX3_would_15 : decode cX3_would 15 = .ok (.iload 4, 2) := by decide +kernel
theorem dX3_would_17 : decode cX3_would 17 = .ok (.iconst 3, 1) := by decide +kernel
theorem dX3_would_18 : decode cX3_would 18 = .ok (.if_icmp .le 6, 3) := by decide +kernel
theorem dX3_would_21 : decode cX3_would 21 = .ok (.bipush (-102), 2) := by decide +kernel
theorem dX3_would_23 : decode cX3_would 23 = .ok (.ireturn, 1) := by decide +kernel
theorem dX3_would_24 : decode cX3_would 24 = .ok (.aload_n 0, 1) := by decide +kernel
theorem dX3_would_25 : decode cX3_would 25 = .ok (.iload_n 1, 1) := by decide +kernel
theorem dX3_would_26 : decode cX3_would 26 = .ok (.invokevirtual 121, 3) := by decide +kernel
theorem dX3_would_29 : decode cX3_would 29 = .ok (.ifCond .eq 6, 3) := by decide +kernel
theorem dX3_would_32 : decode cX3_would 32 = .ok (.bipush (-103), 2) := by decide +kernel
theorem dX3_would_34 : decode cX3_would 34 = .ok (.ireturn, 1) := by decide +kernel
theorem dX3_would_35 : decode cX3_would 35 = .ok (.aload_n 0, 1) := by decide +kernel
theorem dX3_would_36 : decode cX3_would 36 = .ok (.getfield 19, 3) := by decide +kernel
theorem dX3_would_39 : decode cX3_would 39 = .ok (.aload_n 0, 1) := by decide +kernel
theorem dX3_would_40 : decode cX3_would 40 = .ok (.getfield 26, 3) := by decide +kernel
theorem dX3_would_43 : decode cX3_would 43 = .ok (.getfield 77, 3) := by decide +kernel
theorem dX3_would_46 : decode cX3_would 46 = .ok (.invokevirtual 124, 3) := by decide +kernel
theorem dX3_would_49 : decode cX3_would 49 = .ok (.aload_n 0, 1) := by decide +kernel
theorem dX3_would_50 : decode cX3_would 50 = .ok (.getfield 19, 3) := by decide +kernel
theorem dX3_would_53 : decode cX3_would 53 = .ok (.iload_n 1, 1) := by decide +kernel
theorem dX3_would_54 : decode cX3_would 54 = .ok (.iload_n 2, 1) := by decide +kernel
theorem dX3_would_55 : decode cX3_would 55 = .ok (.iload_n 3, 1) := by decide +kernel
theorem dX3_would_56 : decode cX3_would 56 = .ok (.invokevirtual 128, 3) := by decide +kernel
theorem dX3_would_59 : decode cX3_would 59 = .ok (.pop, 1) := by decide +kernel
theorem dX3_would_60 : decode cX3_would 60 = .ok (.iload 4, 2) := by decide +kernel
theorem dX3_would_62 : decode cX3_would 62 = .ok (.tableswitch 53 0 2 #[26, 34, 42], 26) := by decide +kernel
theorem dX3_would_88 : decode cX3_would 88 = .ok (.aload_n 0, 1) := by decide +kernel
theorem dX3_would_89 : decode cX3_would 89 = .ok (.getfield 19, 3) := by decide +kernel
theorem dX3_would_92 : decode cX3_would 92 = .ok (.getfield 131, 3) := by decide +kernel
theorem dX3_would_95 : decode cX3_would 95 = .ok (.ireturn, 1) := by decide +kernel
theorem dX3_would_96 : decode cX3_would 96 = .ok (.aload_n 0, 1) := by decide +kernel
theorem dX3_would_97 : decode cX3_would 97 = .ok (.getfield 19, 3) := by decide +kernel
theorem dX3_would_100 : decode cX3_would 100 = .ok (.getfield 143, 3) := by decide +kernel
theorem dX3_would_103 : decode cX3_would 103 = .ok (.ireturn, 1) := by decide +kernel
theorem dX3_would_104 : decode cX3_would 104 = .ok (.aload_n 0, 1) := by decide +kernel
theorem dX3_would_105 : decode cX3_would 105 = .ok (.getfield 19, 3) := by decide +kernel
theorem dX3_would_108 : decode cX3_would 108 = .ok (.getfield 132, 3) := by decide +kernel
theorem dX3_would_111 : decode cX3_would 111 = .ok (.invokestatic 146, 3) := by decide +kernel
theorem dX3_would_114 : decode cX3_would 114 = .ok (.ireturn, 1) := by decide +kernel
theorem dX3_would_115 : decode cX3_would 115 = .ok (.aload_n 0, 1) := by decide +kernel
theorem dX3_would_116 : decode cX3_would 116 = .ok (.getfield 19, 3) := by decide +kernel
theorem dX3_would_119 : decode cX3_would 119 = .ok (.getfield 150, 3) := by decide +kernel
theorem dX3_would_122 : decode cX3_would 122 = .ok (.ireturn, 1) := by decide +kernel
theorem dX3_need_0 : decode cX3_need 0 = .ok (.aload_n 0, 1) := by decide +kernel
theorem dX3_need_1 : decode cX3_need 1 = .ok (.iload_n 1, 1) := by decide +kernel
theorem dX3_need_2 : decode cX3_need 2 = .ok (.invokevirtual 153, 3) := by decide +kernel
theorem dX3_need_5 : decode cX3_need 5 = .ok (.ifCond .ne 10, 3) := by decide +kernel
theorem dX3_need_8 : decode cX3_need 8 = .ok (.iload_n 2, 1) := by decide +kernel
theorem dX3_need_9 : decode cX3_need 9 = .ok (.invokestatic 156, 3) := by decide +kernel
theorem dX3_need_12 : decode cX3_need 12 = .ok (.ifCond .eq 6, 3) := by decide +kernel
theorem dX3_need_15 : decode cX3_need 15 = .ok (.bipush (-102), 2) := by decide +kernel
theorem dX3_need_17 : decode cX3_need 17 = .ok (.ireturn, 1) := by decide +kernel
theorem dX3_need_18 : decode cX3_need 18 = .ok (.aload_n 0, 1) := by decide +kernel
theorem dX3_need_19 : decode cX3_need 19 = .ok (.iload_n 1, 1) := by decide +kernel
theorem dX3_need_20 : decode cX3_need 20 = .ok (.invokevirtual 121, 3) := by decide +kernel
theorem dX3_need_23 : decode cX3_need 23 = .ok (.ifCond .eq 8, 3) := by decide +kernel
theorem dX3_need_26 : decode cX3_need 26 = .ok (.bipush (-103), 2) := by decide +kernel
theorem dX3_need_28 : decode cX3_need 28 = .ok (.goto 16, 3) := by decide +kernel
theorem dX3_need_31 : decode cX3_need 31 = .ok (.aload_n 0, 1) := by decide +kernel
theorem dX3_need_32 : decode cX3_need 32 = .ok (.iload_n 1, 1) := by decide +kernel
theorem dX3_need_33 : decode cX3_need 33 = .ok (.iload_n 2, 1) := by decide +kernel
theorem dX3_need_34 : decode cX3_need 34 = .ok (.aload_n 0, 1) := by decide +kernel
theorem dX3_need_35 : decode cX3_need 35 = .ok (.getfield 26, 3) := by decide +kernel
theorem dX3_need_38 : decode cX3_need 38 = .ok (.getfield 77, 3) := by decide +kernel
theorem dX3_need_41 : decode cX3_need 41 = .ok (.invokevirtual 159, 3) := by decide +kernel
theorem dX3_need_44 : decode cX3_need 44 = .ok (.ireturn, 1) := by decide +kernel
theorem dX3_far_0 : decode cX3_far 0 = .ok (.aload_n 0, 1) := by decide +kernel
theorem dX3_far_1 : decode cX3_far 1 = .ok (.iload_n 1, 1) := by decide +kernel
theorem dX3_far_2 : decode cX3_far 2 = .ok (.invokevirtual 153, 3) := by decide +kernel
theorem dX3_far_5 : decode cX3_far 5 = .ok (.ifCond .eq 6, 3) := by decide +kernel
theorem dX3_far_8 : decode cX3_far 8 = .ok (.bipush (-102), 2) := by decide +kernel
theorem dX3_far_10 : decode cX3_far 10 = .ok (.ireturn, 1) := by decide +kernel
theorem dX3_far_11 : decode cX3_far 11 = .ok (.aload_n 0, 1) := by decide +kernel
theorem dX3_far_12 : decode cX3_far 12 = .ok (.iload_n 1, 1) := by decide +kernel
theorem dX3_far_13 : decode cX3_far 13 = .ok (.invokevirtual 121, 3) := by decide +kernel
theorem dX3_far_16 : decode cX3_far 16 = .ok (.ifCond .eq 8, 3) := by decide +kernel
theorem dX3_far_19 : decode cX3_far 19 = .ok (.bipush (-103), 2) := by decide +kernel
theorem dX3_far_21 : decode cX3_far 21 = .ok (.goto 15, 3) := by decide +kernel
theorem dX3_far_24 : decode cX3_far 24 = .ok (.aload_n 0, 1) := by decide +kernel
theorem dX3_far_25 : decode cX3_far 25 = .ok (.iload_n 1, 1) := by decide +kernel
theorem dX3_far_26 : decode cX3_far 26 = .ok (.aload_n 0, 1) := by decide +kernel
theorem dX3_far_27 : decode cX3_far 27 = .ok (.getfield 26, 3) := by decide +kernel
theorem dX3_far_30 : decode cX3_far 30 = .ok (.getfield 77, 3) := by decide +kernel
theorem dX3_far_33 : decode cX3_far 33 = .ok (.invokevirtual 163, 3) := by decide +kernel
theorem dX3_far_36 : decode cX3_far 36 = .ok (.ireturn, 1) := by decide +kernel
theorem dX3_team_0 : decode cX3_team 0 = .ok (.iload_n 1, 1) := by decide +kernel
theorem dX3_team_1 : decode cX3_team 1 = .ok (.invokestatic 156, 3) := by decide +kernel
theorem dX3_team_4 : decode cX3_team 4 = .ok (.ifCond .eq 6, 3) := by decide +kernel
theorem dX3_team_7 : decode cX3_team 7 = .ok (.bipush (-102), 2) := by decide +kernel
theorem dX3_team_9 : decode cX3_team 9 = .ok (.ireturn, 1) := by decide +kernel
theorem dX3_team_10 : decode cX3_team 10 = .ok (.aload_n 0, 1) := by decide +kernel
theorem dX3_team_11 : decode cX3_team 11 = .ok (.getfield 19, 3) := by decide +kernel
theorem dX3_team_14 : decode cX3_team 14 = .ok (.getfield 53, 3) := by decide +kernel
theorem dX3_team_17 : decode cX3_team 17 = .ok (.ifCond .eq 12, 3) := by decide +kernel
theorem dX3_team_20 : decode cX3_team 20 = .ok (.aload_n 0, 1) := by decide +kernel
theorem dX3_team_21 : decode cX3_team 21 = .ok (.getfield 167, 3) := by decide +kernel
theorem dX3_team_24 : decode cX3_team 24 = .ok (.bipush 20, 2) := by decide +kernel
theorem dX3_team_26 : decode cX3_team 26 = .ok (.if_icmp .lt 6, 3) := by decide +kernel
theorem dX3_team_29 : decode cX3_team 29 = .ok (.bipush (-103), 2) := by decide +kernel
theorem dX3_team_31 : decode cX3_team 31 = .ok (.ireturn, 1) := by decide +kernel
theorem dX3_team_32 : decode cX3_team 32 = .ok (.aload_n 0, 1) := by decide +kernel
theorem dX3_team_33 : decode cX3_team 33 = .ok (.dup, 1) := by decide +kernel
theorem dX3_team_34 : decode cX3_team 34 = .ok (.getfield 167, 3) := by decide +kernel
theorem dX3_team_37 : decode cX3_team 37 = .ok (.iconst 1, 1) := by decide +kernel
theorem dX3_team_38 : decode cX3_team 38 = .ok (.iadd, 1) := by decide +kernel
theorem dX3_team_39 : decode cX3_team 39 = .ok (.putfield 167, 3) := by decide +kernel
theorem dX3_team_42 : decode cX3_team 42 = .ok (.aload_n 0, 1) := by decide +kernel
theorem dX3_team_43 : decode cX3_team 43 = .ok (.iload_n 1, 1) := by decide +kernel
theorem dX3_team_44 : decode cX3_team 44 = .ok (.invokevirtual 170, 3) := by decide +kernel
theorem dX3_team_47 : decode cX3_team 47 = .ok (.ireturn, 1) := by decide +kernel
theorem dX3_hear_0 : decode cX3_hear 0 = .ok (.aload_n 0, 1) := by decide +kernel
theorem dX3_hear_1 : decode cX3_hear 1 = .ok (.iload_n 1, 1) := by decide +kernel
theorem dX3_hear_2 : decode cX3_hear 2 = .ok (.iload_n 2, 1) := by decide +kernel
theorem dX3_hear_3 : decode cX3_hear 3 = .ok (.iload_n 3, 1) := by decide +kernel
theorem dX3_hear_4 : decode cX3_hear 4 = .ok (.invokevirtual 117, 3) := by decide +kernel
theorem dX3_hear_7 : decode cX3_hear 7 = .ok (.ifCond .eq 6, 3) := by decide +kernel
theorem dX3_hear_10 : decode cX3_hear 10 = .ok (.bipush (-102), 2) := by decide +kernel
theorem dX3_hear_12 : decode cX3_hear 12 = .ok (.ireturn, 1) := by decide +kernel
theorem dX3_hear_13 : decode cX3_hear 13 = .ok (.aload_n 0, 1) := by decide +kernel
theorem dX3_hear_14 : decode cX3_hear 14 = .ok (.getfield 26, 3) := by decide +kernel
theorem dX3_hear_17 : decode cX3_hear 17 = .ok (.getfield 173, 3) := by decide +kernel
theorem dX3_hear_20 : decode cX3_hear 20 = .ok (.bipush 6, 2) := by decide +kernel
theorem dX3_hear_22 : decode cX3_hear 22 = .ok (.if_icmp .lt 6, 3) := by decide +kernel
theorem dX3_hear_25 : decode cX3_hear 25 = .ok (.bipush (-104), 2) := by decide +kernel
theorem dX3_hear_27 : decode cX3_hear 27 = .ok (.ireturn, 1) := by decide +kernel
theorem dX3_hear_28 : decode cX3_hear 28 = .ok (.aload_n 0, 1) := by decide +kernel
theorem dX3_hear_29 : decode cX3_hear 29 = .ok (.getfield 26, 3) := by decide +kernel
theorem dX3_hear_32 : decode cX3_hear 32 = .ok (.iload_n 1, 1) := by decide +kernel
theorem dX3_hear_33 : decode cX3_hear 33 = .ok (.iload_n 2, 1) := by decide +kernel
theorem dX3_hear_34 : decode cX3_hear 34 = .ok (.iload_n 3, 1) := by decide +kernel
theorem dX3_hear_35 : decode cX3_hear 35 = .ok (.iload 4, 2) := by decide +kernel
theorem dX3_hear_37 : decode cX3_hear 37 = .ok (.invokevirtual 176, 3) := by decide +kernel
theorem dX3_hear_40 : decode cX3_hear 40 = .ok (.aload_n 0, 1) := by decide +kernel
theorem dX3_hear_41 : decode cX3_hear 41 = .ok (.getfield 26, 3) := by decide +kernel
theorem dX3_hear_44 : decode cX3_hear 44 = .ok (.getfield 173, 3) := by decide +kernel
theorem dX3_hear_47 : decode cX3_hear 47 = .ok (.ireturn, 1) := by decide +kernel
theorem dX3_forget_0 : decode cX3_forget 0 = .ok (.aload_n 0, 1) := by decide +kernel
theorem dX3_forget_1 : decode cX3_forget 1 = .ok (.getfield 26, 3) := by decide +kernel
theorem dX3_forget_4 : decode cX3_forget 4 = .ok (.getfield 173, 3) := by decide +kernel
theorem dX3_forget_7 : decode cX3_forget 7 = .ok (.istore_n 1, 1) := by decide +kernel
theorem dX3_forget_8 : decode cX3_forget 8 = .ok (.aload_n 0, 1) := by decide +kernel
theorem dX3_forget_9 : decode cX3_forget 9 = .ok (.getfield 26, 3) := by decide +kernel
theorem dX3_forget_12 : decode cX3_forget 12 = .ok (.iconst 0, 1) := by decide +kernel
theorem dX3_forget_13 : decode cX3_forget 13 = .ok (.putfield 173, 3) := by decide +kernel
theorem dX3_forget_16 : decode cX3_forget 16 = .ok (.iload_n 1, 1) := by decide +kernel
theorem dX3_forget_17 : decode cX3_forget 17 = .ok (.ireturn, 1) := by decide +kernel
theorem dX3_winters_0 : decode cX3_winters 0 = .ok (.iload_n 1, 1) := by decide +kernel
theorem dX3_winters_1 : decode cX3_winters 1 = .ok (.iconst 1, 1) := by decide +kernel
theorem dX3_winters_2 : decode cX3_winters 2 = .ok (.if_icmp .lt 22, 3) := by decide +kernel
theorem dX3_winters_5 : decode cX3_winters 5 = .ok (.iload_n 1, 1) := by decide +kernel
theorem dX3_winters_6 : decode cX3_winters 6 = .ok (.bipush 20, 2) := by decide +kernel
theorem dX3_winters_8 : decode cX3_winters 8 = .ok (.if_icmp .gt 16, 3) := by decide +kernel
theorem dX3_winters_11 : decode cX3_winters 11 = .ok (.iload_n 2, 1) := by decide +kernel
theorem dX3_winters_12 : decode cX3_winters 12 = .ok (.ifCond .lt 12, 3) := by decide +kernel
theorem dX3_winters_15 : decode cX3_winters 15 = .ok (.iload_n 3, 1) := by decide +kernel
theorem dX3_winters_16 : decode cX3_winters 16 = .ok (.ifCond .lt 8, 3) := by decide +kernel
theorem dX3_winters_19 : decode cX3_winters 19 = .ok (.iload_n 3, 1) := by decide +kernel
theorem dX3_winters_20 : decode cX3_winters 20 = .ok (.iconst 2, 1) := by decide +kernel
theorem dX3_winters_21 : decode cX3_winters 21 = .ok (.if_icmp .le 6, 3) := by decide +kernel
theorem dX3_winters_24 : decode cX3_winters 24 = .ok (.bipush (-102), 2) := by decide +kernel
theorem dX3_winters_26 : decode cX3_winters 26 = .ok (.ireturn, 1) := by decide +kernel
theorem dX3_winters_27 : decode cX3_winters 27 = .ok (.aload_n 0, 1) := by decide +kernel
theorem dX3_winters_28 : decode cX3_winters 28 = .ok (.getfield 19, 3) := by decide +kernel
theorem dX3_winters_31 : decode cX3_winters 31 = .ok (.getfield 53, 3) := by decide +kernel
theorem dX3_winters_34 : decode cX3_winters 34 = .ok (.ifCond .ne 6, 3) := by decide +kernel
theorem dX3_winters_37 : decode cX3_winters 37 = .ok (.bipush (-103), 2) := by decide +kernel
theorem dX3_winters_39 : decode cX3_winters 39 = .ok (.ireturn, 1) := by decide +kernel
theorem dX3_winters_40 : decode cX3_winters 40 = .ok (.aload_n 0, 1) := by decide +kernel
theorem dX3_winters_41 : decode cX3_winters 41 = .ok (.iload_n 1, 1) := by decide +kernel
theorem dX3_winters_42 : decode cX3_winters 42 = .ok (.iload_n 2, 1) := by decide +kernel
theorem dX3_winters_43 : decode cX3_winters 43 = .ok (.invokevirtual 180, 3) := by decide +kernel
theorem dX3_winters_46 : decode cX3_winters 46 = .ok (.istore 4, 2) := by decide +kernel
theorem dX3_winters_48 : decode cX3_winters 48 = .ok (.iload_n 3, 1) := by decide +kernel
theorem dX3_winters_49 : decode cX3_winters 49 = .ok (.iconst 2, 1) := by decide +kernel
theorem dX3_winters_50 : decode cX3_winters 50 = .ok (.if_icmp .ne 6, 3) := by decide +kernel
theorem dX3_winters_53 : decode cX3_winters 53 = .ok (.iload 4, 2) := by decide +kernel
theorem dX3_winters_55 : decode cX3_winters 55 = .ok (.ireturn, 1) := by decide +kernel
theorem dX3_winters_56 : decode cX3_winters 56 = .ok (.iload_n 3, 1) := by decide +kernel
theorem dX3_winters_57 : decode cX3_winters 57 = .ok (.ifCond .ne 13, 3) := by decide +kernel
theorem dX3_winters_60 : decode cX3_winters 60 = .ok (.aload_n 0, 1) := by decide +kernel
theorem dX3_winters_61 : decode cX3_winters 61 = .ok (.getfield 33, 3) := by decide +kernel
theorem dX3_winters_64 : decode cX3_winters 64 = .ok (.invokestatic 146, 3) := by decide +kernel
theorem dX3_winters_67 : decode cX3_winters 67 = .ok (.goto 18, 3) := by decide +kernel
theorem dX3_winters_70 : decode cX3_winters 70 = .ok (.aload_n 0, 1) := by decide +kernel
theorem dX3_winters_71 : decode cX3_winters 71 = .ok (.aload_n 0, 1) := by decide +kernel
theorem dX3_winters_72 : decode cX3_winters 72 = .ok (.getfield 26, 3) := by decide +kernel
theorem dX3_winters_75 : decode cX3_winters 75 = .ok (.getfield 100, 3) := by decide +kernel
theorem dX3_winters_78 : decode cX3_winters 78 = .ok (.aload_n 0, 1) := by decide +kernel
theorem dX3_winters_79 : decode cX3_winters 79 = .ok (.getfield 33, 3) := by decide +kernel
theorem dX3_winters_82 : decode cX3_winters 82 = .ok (.invokevirtual 163, 3) := by decide +kernel
theorem dX3_winters_85 : decode cX3_winters 85 = .ok (.ireturn, 1) := by decide +kernel
theorem dX3_image_0 : decode cX3_image 0 = .ok (.aload_n 0, 1) := by decide +kernel
theorem dX3_image_1 : decode cX3_image 1 = .ok (.getfield 19, 3) := by decide +kernel
theorem dX3_image_4 : decode cX3_image 4 = .ok (.getfield 53, 3) := by decide +kernel
theorem dX3_image_7 : decode cX3_image 7 = .ok (.ifCond .ne 6, 3) := by decide +kernel
theorem dX3_image_10 : decode cX3_image 10 = .ok (.bipush (-103), 2) := by decide +kernel
theorem dX3_image_12 : decode cX3_image 12 = .ok (.ireturn, 1) := by decide +kernel
theorem dX3_image_13 : decode cX3_image 13 = .ok (.aload_n 0, 1) := by decide +kernel
theorem dX3_image_14 : decode cX3_image 14 = .ok (.getfield 30, 3) := by decide +kernel
theorem dX3_image_17 : decode cX3_image 17 = .ok (.aload_n 0, 1) := by decide +kernel
theorem dX3_image_18 : decode cX3_image 18 = .ok (.getfield 26, 3) := by decide +kernel
theorem dX3_image_21 : decode cX3_image 21 = .ok (.invokevirtual 183, 3) := by decide +kernel
theorem dX3_image_24 : decode cX3_image 24 = .ok (.aload_n 0, 1) := by decide +kernel
theorem dX3_image_25 : decode cX3_image 25 = .ok (.iconst 1, 1) := by decide +kernel
theorem dX3_image_26 : decode cX3_image 26 = .ok (.putfield 80, 3) := by decide +kernel
theorem dX3_image_29 : decode cX3_image 29 = .ok (.aload_n 0, 1) := by decide +kernel
theorem dX3_image_30 : decode cX3_image 30 = .ok (.getfield 26, 3) := by decide +kernel
theorem dX3_image_33 : decode cX3_image 33 = .ok (.getfield 137, 3) := by decide +kernel
theorem dX3_image_36 : decode cX3_image 36 = .ok (.ireturn, 1) := by decide +kernel
theorem dX3_restore_0 : decode cX3_restore 0 = .ok (.aload_n 0, 1) := by decide +kernel
theorem dX3_restore_1 : decode cX3_restore 1 = .ok (.getfield 80, 3) := by decide +kernel
theorem dX3_restore_4 : decode cX3_restore 4 = .ok (.ifCond .ne 6, 3) := by decide +kernel
theorem dX3_restore_7 : decode cX3_restore 7 = .ok (.bipush (-103), 2) := by decide +kernel
theorem dX3_restore_9 : decode cX3_restore 9 = .ok (.ireturn, 1) := by decide +kernel
theorem dX3_restore_10 : decode cX3_restore 10 = .ok (.aload_n 0, 1) := by decide +kernel
theorem dX3_restore_11 : decode cX3_restore 11 = .ok (.getfield 26, 3) := by decide +kernel
theorem dX3_restore_14 : decode cX3_restore 14 = .ok (.aload_n 0, 1) := by decide +kernel
theorem dX3_restore_15 : decode cX3_restore 15 = .ok (.getfield 30, 3) := by decide +kernel
theorem dX3_restore_18 : decode cX3_restore 18 = .ok (.invokevirtual 183, 3) := by decide +kernel
theorem dX3_restore_21 : decode cX3_restore 21 = .ok (.aload_n 0, 1) := by decide +kernel
theorem dX3_restore_22 : decode cX3_restore 22 = .ok (.getfield 26, 3) := by decide +kernel
theorem dX3_restore_25 : decode cX3_restore 25 = .ok (.getfield 137, 3) := by decide +kernel
theorem dX3_restore_28 : decode cX3_restore 28 = .ok (.ireturn, 1) := by decide +kernel
theorem dX3_count_0 : decode cX3_count 0 = .ok (.iload_n 1, 1) := by decide +kernel
theorem dX3_count_1 : decode cX3_count 1 = .ok (.tableswitch 167 0 10 #[59, 67, 78, 89, 97, 105, 123, 141, 149, 157, 162], 59) := by decide +kernel
theorem dX3_count_60 : decode cX3_count 60 = .ok (.aload_n 0, 1) := by decide +kernel
theorem dX3_count_61 : decode cX3_count 61 = .ok (.getfield 19, 3) := by decide +kernel
theorem dX3_count_64 : decode cX3_count 64 = .ok (.getfield 53, 3) := by decide +kernel
theorem dX3_count_67 : decode cX3_count 67 = .ok (.ireturn, 1) := by decide +kernel
theorem dX3_count_68 : decode cX3_count 68 = .ok (.aload_n 0, 1) := by decide +kernel
theorem dX3_count_69 : decode cX3_count 69 = .ok (.getfield 26, 3) := by decide +kernel
theorem dX3_count_72 : decode cX3_count 72 = .ok (.getfield 100, 3) := by decide +kernel
theorem dX3_count_75 : decode cX3_count 75 = .ok (.invokestatic 187, 3) := by decide +kernel
theorem dX3_count_78 : decode cX3_count 78 = .ok (.ireturn, 1) := by decide +kernel
theorem dX3_count_79 : decode cX3_count 79 = .ok (.aload_n 0, 1) := by decide +kernel
theorem dX3_count_80 : decode cX3_count 80 = .ok (.getfield 26, 3) := by decide +kernel
theorem dX3_count_83 : decode cX3_count 83 = .ok (.getfield 77, 3) := by decide +kernel
theorem dX3_count_86 : decode cX3_count 86 = .ok (.invokestatic 146, 3) := by decide +kernel
theorem dX3_count_89 : decode cX3_count 89 = .ok (.ireturn, 1) := by decide +kernel
theorem dX3_count_90 : decode cX3_count 90 = .ok (.aload_n 0, 1) := by decide +kernel
theorem dX3_count_91 : decode cX3_count 91 = .ok (.getfield 26, 3) := by decide +kernel
theorem dX3_count_94 : decode cX3_count 94 = .ok (.getfield 137, 3) := by decide +kernel
theorem dX3_count_97 : decode cX3_count 97 = .ok (.ireturn, 1) := by decide +kernel
theorem dX3_count_98 : decode cX3_count 98 = .ok (.aload_n 0, 1) := by decide +kernel
theorem dX3_count_99 : decode cX3_count 99 = .ok (.getfield 26, 3) := by decide +kernel
theorem dX3_count_102 : decode cX3_count 102 = .ok (.getfield 140, 3) := by decide +kernel
theorem dX3_count_105 : decode cX3_count 105 = .ok (.ireturn, 1) := by decide +kernel
theorem dX3_count_106 : decode cX3_count 106 = .ok (.aload_n 0, 1) := by decide +kernel
theorem dX3_count_107 : decode cX3_count 107 = .ok (.getfield 19, 3) := by decide +kernel
theorem dX3_count_110 : decode cX3_count 110 = .ok (.aload_n 0, 1) := by decide +kernel
theorem dX3_count_111 : decode cX3_count 111 = .ok (.getfield 26, 3) := by decide +kernel
theorem dX3_count_114 : decode cX3_count 114 = .ok (.getfield 100, 3) := by decide +kernel
theorem dX3_count_117 : decode cX3_count 117 = .ok (.getstatic 91, 3) := by decide +kernel
theorem dX3_count_120 : decode cX3_count 120 = .ok (.invokevirtual 192, 3) := by decide +kernel
theorem dX3_count_123 : decode cX3_count 123 = .ok (.ireturn, 1) := by decide +kernel
theorem dX3_count_124 : decode cX3_count 124 = .ok (.aload_n 0, 1) := by decide +kernel
theorem dX3_count_125 : decode cX3_count 125 = .ok (.getfield 19, 3) := by decide +kernel
theorem dX3_count_128 : decode cX3_count 128 = .ok (.aload_n 0, 1) := by decide +kernel
theorem dX3_count_129 : decode cX3_count 129 = .ok (.getfield 26, 3) := by decide +kernel
theorem dX3_count_132 : decode cX3_count 132 = .ok (.getfield 100, 3) := by decide +kernel
theorem dX3_count_135 : decode cX3_count 135 = .ok (.getstatic 94, 3) := by decide +kernel
theorem dX3_count_138 : decode cX3_count 138 = .ok (.invokevirtual 192, 3) := by decide +kernel
theorem dX3_count_141 : decode cX3_count 141 = .ok (.ireturn, 1) := by decide +kernel
theorem dX3_count_142 : decode cX3_count 142 = .ok (.aload_n 0, 1) := by decide +kernel
theorem dX3_count_143 : decode cX3_count 143 = .ok (.getfield 26, 3) := by decide +kernel
theorem dX3_count_146 : decode cX3_count 146 = .ok (.getfield 173, 3) := by decide +kernel
theorem dX3_count_149 : decode cX3_count 149 = .ok (.ireturn, 1) := by decide +kernel
theorem dX3_count_150 : decode cX3_count 150 = .ok (.aload_n 0, 1) := by decide +kernel
theorem dX3_count_151 : decode cX3_count 151 = .ok (.getfield 10, 3) := by decide +kernel
theorem dX3_count_154 : decode cX3_count 154 = .ok (.getfield 41, 3) := by decide +kernel
theorem dX3_count_157 : decode cX3_count 157 = .ok (.ireturn, 1) := by decide +kernel
theorem dX3_count_158 : decode cX3_count 158 = .ok (.aload_n 0, 1) := by decide +kernel
theorem dX3_count_159 : decode cX3_count 159 = .ok (.getfield 84, 3) := by decide +kernel
theorem dX3_count_162 : decode cX3_count 162 = .ok (.ireturn, 1) := by decide +kernel
theorem dX3_count_163 : decode cX3_count 163 = .ok (.aload_n 0, 1) := by decide +kernel
theorem dX3_count_164 : decode cX3_count 164 = .ok (.getfield 167, 3) := by decide +kernel
theorem dX3_count_167 : decode cX3_count 167 = .ok (.ireturn, 1) := by decide +kernel
theorem dX3_count_168 : decode cX3_count 168 = .ok (.bipush (-102), 2) := by decide +kernel
theorem dX3_count_170 : decode cX3_count 170 = .ok (.ireturn, 1) := by decide +kernel
theorem dX3_digest_0 : decode cX3_digest 0 = .ok (.ldc2_w 195, 3) := by decide +kernel
theorem dX3_digest_3 : decode cX3_digest 3 = .ok (.lstore_n 1, 1) := by decide +kernel
theorem dX3_digest_4 : decode cX3_digest 4 = .ok (.iconst 0, 1) := by decide +kernel
theorem dX3_digest_5 : decode cX3_digest 5 = .ok (.istore_n 3, 1) := by decide +kernel
theorem dX3_digest_6 : decode cX3_digest 6 = .ok (.iload_n 3, 1) := by decide +kernel
theorem dX3_digest_7 : decode cX3_digest 7 = .ok (.aload_n 0, 1) := by decide +kernel
theorem dX3_digest_8 : decode cX3_digest 8 = .ok (.getfield 19, 3) := by decide +kernel
theorem dX3_digest_11 : decode cX3_digest 11 = .ok (.getfield 53, 3) := by decide +kernel
theorem dX3_digest_14 : decode cX3_digest 14 = .ok (.if_icmp .ge 39, 3) := by decide +kernel
theorem dX3_digest_17 : decode cX3_digest 17 = .ok (.iconst 0, 1) := by decide +kernel
theorem dX3_digest_18 : decode cX3_digest 18 = .ok (.istore 4, 2) := by decide +kernel
theorem dX3_digest_20 : decode cX3_digest 20 = .ok (.iload 4, 2) := by decide +kernel
theorem dX3_digest_22 : decode cX3_digest 22 = .ok (.iconst 4, 1) := by decide +kernel
theorem dX3_digest_23 : decode cX3_digest 23 = .ok (.if_icmp .gt 24, 3) := by decide +kernel
theorem dX3_digest_26 : decode cX3_digest 26 = .ok (.ldc2_w 197, 3) := by decide +kernel
theorem dX3_digest_29 : decode cX3_digest 29 = .ok (.lload_n 1, 1) := by decide +kernel
theorem dX3_digest_30 : decode cX3_digest 30 = .ok (.lmul, 1) := by decide +kernel
theorem dX3_digest_31 : decode cX3_digest 31 = .ok (.aload_n 0, 1) := by decide +kernel
theorem dX3_digest_32 : decode cX3_digest 32 = .ok (.iload_n 3, 1) := by decide +kernel
theorem dX3_digest_33 : decode cX3_digest 33 = .ok (.iload 4, 2) := by decide +kernel
theorem dX3_digest_35 : decode cX3_digest 35 = .ok (.invokevirtual 199, 3) := by decide +kernel
theorem dX3_digest_38 : decode cX3_digest 38 = .ok (.i2l, 1) := by decide +kernel
theorem dX3_digest_39 : decode cX3_digest 39 = .ok (.ladd, 1) := by decide +kernel
theorem dX3_digest_40 : decode cX3_digest 40 = .ok (.lstore_n 1, 1) := by decide +kernel
theorem dX3_digest_41 : decode cX3_digest 41 = .ok (.iinc 4 1, 3) := by decide +kernel
theorem dX3_digest_44 : decode cX3_digest 44 = .ok (.goto (-24), 3) := by decide +kernel
theorem dX3_digest_47 : decode cX3_digest 47 = .ok (.iinc 3 1, 3) := by decide +kernel
theorem dX3_digest_50 : decode cX3_digest 50 = .ok (.goto (-44), 3) := by decide +kernel
theorem dX3_digest_53 : decode cX3_digest 53 = .ok (.aload_n 0, 1) := by decide +kernel
theorem dX3_digest_54 : decode cX3_digest 54 = .ok (.getfield 19, 3) := by decide +kernel
theorem dX3_digest_57 : decode cX3_digest 57 = .ok (.getfield 53, 3) := by decide +kernel
theorem dX3_digest_60 : decode cX3_digest 60 = .ok (.ifCond .le 68, 3) := by decide +kernel
theorem dX3_digest_63 : decode cX3_digest 63 = .ok (.iconst 1, 1) := by decide +kernel
theorem dX3_digest_64 : decode cX3_digest 64 = .ok (.istore_n 3, 1) := by decide +kernel
theorem dX3_digest_65 : decode cX3_digest 65 = .ok (.iload_n 3, 1) := by decide +kernel
theorem dX3_digest_66 : decode cX3_digest 66 = .ok (.iconst 5, 1) := by decide +kernel
theorem dX3_digest_67 : decode cX3_digest 67 = .ok (.if_icmp .gt 43, 3) := by decide +kernel
theorem dX3_digest_70 : decode cX3_digest 70 = .ok (.ldc2_w 197, 3) := by decide +kernel
theorem dX3_digest_73 : decode cX3_digest 73 = .ok (.lload_n 1, 1) := by decide +kernel
theorem dX3_digest_74 : decode cX3_digest 74 = .ok (.lmul, 1) := by decide +kernel
theorem dX3_digest_75 : decode cX3_digest 75 = .ok (.aload_n 0, 1) := by decide +kernel
theorem dX3_digest_76 : decode cX3_digest 76 = .ok (.getfield 26, 3) := by decide +kernel
theorem dX3_digest_79 : decode cX3_digest 79 = .ok (.getfield 77, 3) := by decide +kernel
theorem dX3_digest_82 : decode cX3_digest 82 = .ok (.iload_n 3, 1) := by decide +kernel
theorem dX3_digest_83 : decode cX3_digest 83 = .ok (.iconst 1, 1) := by decide +kernel
theorem dX3_digest_84 : decode cX3_digest 84 = .ok (.isub, 1) := by decide +kernel
theorem dX3_digest_85 : decode cX3_digest 85 = .ok (.invokestatic 87, 3) := by decide +kernel
theorem dX3_digest_88 : decode cX3_digest 88 = .ok (.i2l, 1) := by decide +kernel
theorem dX3_digest_89 : decode cX3_digest 89 = .ok (.ladd, 1) := by decide +kernel
theorem dX3_digest_90 : decode cX3_digest 90 = .ok (.lstore_n 1, 1) := by decide +kernel
theorem dX3_digest_91 : decode cX3_digest 91 = .ok (.ldc2_w 197, 3) := by decide +kernel
theorem dX3_digest_94 : decode cX3_digest 94 = .ok (.lload_n 1, 1) := by decide +kernel
theorem dX3_digest_95 : decode cX3_digest 95 = .ok (.lmul, 1) := by decide +kernel
theorem dX3_digest_96 : decode cX3_digest 96 = .ok (.aload_n 0, 1) := by decide +kernel
theorem dX3_digest_97 : decode cX3_digest 97 = .ok (.iload_n 3, 1) := by decide +kernel
theorem dX3_digest_98 : decode cX3_digest 98 = .ok (.invokevirtual 110, 3) := by decide +kernel
theorem dX3_digest_101 : decode cX3_digest 101 = .ok (.i2l, 1) := by decide +kernel
theorem dX3_digest_102 : decode cX3_digest 102 = .ok (.ladd, 1) := by decide +kernel
theorem dX3_digest_103 : decode cX3_digest 103 = .ok (.lstore_n 1, 1) := by decide +kernel
theorem dX3_digest_104 : decode cX3_digest 104 = .ok (.iinc 3 1, 3) := by decide +kernel
theorem dX3_digest_107 : decode cX3_digest 107 = .ok (.goto (-42), 3) := by decide +kernel
theorem dX3_digest_110 : decode cX3_digest 110 = .ok (.ldc2_w 197, 3) := by decide +kernel
theorem dX3_digest_113 : decode cX3_digest 113 = .ok (.lload_n 1, 1) := by decide +kernel
theorem dX3_digest_114 : decode cX3_digest 114 = .ok (.lmul, 1) := by decide +kernel
theorem dX3_digest_115 : decode cX3_digest 115 = .ok (.aload_n 0, 1) := by decide +kernel
theorem dX3_digest_116 : decode cX3_digest 116 = .ok (.iconst 3, 1) := by decide +kernel
theorem dX3_digest_117 : decode cX3_digest 117 = .ok (.aload_n 0, 1) := by decide +kernel
theorem dX3_digest_118 : decode cX3_digest 118 = .ok (.iconst 3, 1) := by decide +kernel
theorem dX3_digest_119 : decode cX3_digest 119 = .ok (.invokevirtual 110, 3) := by decide +kernel
theorem dX3_digest_122 : decode cX3_digest 122 = .ok (.invokevirtual 113, 3) := by decide +kernel
theorem dX3_digest_125 : decode cX3_digest 125 = .ok (.i2l, 1) := by decide +kernel
theorem dX3_digest_126 : decode cX3_digest 126 = .ok (.ladd, 1) := by decide +kernel
theorem dX3_digest_127 : decode cX3_digest 127 = .ok (.lstore_n 1, 1) := by decide +kernel
theorem dX3_digest_128 : decode cX3_digest 128 = .ok (.aload_n 0, 1) := by decide +kernel
theorem dX3_digest_129 : decode cX3_digest 129 = .ok (.getfield 26, 3) := by decide +kernel
theorem dX3_digest_132 : decode cX3_digest 132 = .ok (.getfield 100, 3) := by decide +kernel
theorem dX3_digest_135 : decode cX3_digest 135 = .ok (.ifCond .eq 119, 3) := by decide +kernel
theorem dX3_digest_138 : decode cX3_digest 138 = .ok (.ldc2_w 197, 3) := by decide +kernel
theorem dX3_digest_141 : decode cX3_digest 141 = .ok (.lload_n 1, 1) := by decide +kernel
theorem dX3_digest_142 : decode cX3_digest 142 = .ok (.lmul, 1) := by decide +kernel
theorem dX3_digest_143 : decode cX3_digest 143 = .ok (.aload_n 0, 1) := by decide +kernel
theorem dX3_digest_144 : decode cX3_digest 144 = .ok (.aload_n 0, 1) := by decide +kernel
theorem dX3_digest_145 : decode cX3_digest 145 = .ok (.getfield 26, 3) := by decide +kernel
theorem dX3_digest_148 : decode cX3_digest 148 = .ok (.getfield 100, 3) := by decide +kernel
theorem dX3_digest_151 : decode cX3_digest 151 = .ok (.aload_n 0, 1) := by decide +kernel
theorem dX3_digest_152 : decode cX3_digest 152 = .ok (.getfield 26, 3) := by decide +kernel
theorem dX3_digest_155 : decode cX3_digest 155 = .ok (.getfield 77, 3) := by decide +kernel
theorem dX3_digest_158 : decode cX3_digest 158 = .ok (.invokevirtual 163, 3) := by decide +kernel
theorem dX3_digest_161 : decode cX3_digest 161 = .ok (.i2l, 1) := by decide +kernel
theorem dX3_digest_162 : decode cX3_digest 162 = .ok (.ladd, 1) := by decide +kernel
theorem dX3_digest_163 : decode cX3_digest 163 = .ok (.lstore_n 1, 1) := by decide +kernel
theorem dX3_digest_164 : decode cX3_digest 164 = .ok (.ldc2_w 197, 3) := by decide +kernel
theorem dX3_digest_167 : decode cX3_digest 167 = .ok (.lload_n 1, 1) := by decide +kernel
theorem dX3_digest_168 : decode cX3_digest 168 = .ok (.lmul, 1) := by decide +kernel
theorem dX3_digest_169 : decode cX3_digest 169 = .ok (.aload_n 0, 1) := by decide +kernel
theorem dX3_digest_170 : decode cX3_digest 170 = .ok (.aload_n 0, 1) := by decide +kernel
theorem dX3_digest_171 : decode cX3_digest 171 = .ok (.getfield 26, 3) := by decide +kernel
theorem dX3_digest_174 : decode cX3_digest 174 = .ok (.getfield 100, 3) := by decide +kernel
theorem dX3_digest_177 : decode cX3_digest 177 = .ok (.iconst 1, 1) := by decide +kernel
theorem dX3_digest_178 : decode cX3_digest 178 = .ok (.aload_n 0, 1) := by decide +kernel
theorem dX3_digest_179 : decode cX3_digest 179 = .ok (.getfield 26, 3) := by decide +kernel
theorem dX3_digest_182 : decode cX3_digest 182 = .ok (.getfield 77, 3) := by decide +kernel
theorem dX3_digest_185 : decode cX3_digest 185 = .ok (.invokevirtual 159, 3) := by decide +kernel
theorem dX3_digest_188 : decode cX3_digest 188 = .ok (.i2l, 1) := by decide +kernel
theorem dX3_digest_189 : decode cX3_digest 189 = .ok (.ladd, 1) := by decide +kernel
theorem dX3_digest_190 : decode cX3_digest 190 = .ok (.lstore_n 1, 1) := by decide +kernel
theorem dX3_digest_191 : decode cX3_digest 191 = .ok (.ldc2_w 197, 3) := by decide +kernel
theorem dX3_digest_194 : decode cX3_digest 194 = .ok (.lload_n 1, 1) := by decide +kernel
theorem dX3_digest_195 : decode cX3_digest 195 = .ok (.lmul, 1) := by decide +kernel
theorem dX3_digest_196 : decode cX3_digest 196 = .ok (.aload_n 0, 1) := by decide +kernel
theorem dX3_digest_197 : decode cX3_digest 197 = .ok (.aload_n 0, 1) := by decide +kernel
theorem dX3_digest_198 : decode cX3_digest 198 = .ok (.getfield 26, 3) := by decide +kernel
theorem dX3_digest_201 : decode cX3_digest 201 = .ok (.getfield 100, 3) := by decide +kernel
theorem dX3_digest_204 : decode cX3_digest 204 = .ok (.iconst 4, 1) := by decide +kernel
theorem dX3_digest_205 : decode cX3_digest 205 = .ok (.aload_n 0, 1) := by decide +kernel
theorem dX3_digest_206 : decode cX3_digest 206 = .ok (.getfield 26, 3) := by decide +kernel
theorem dX3_digest_209 : decode cX3_digest 209 = .ok (.getfield 77, 3) := by decide +kernel
theorem dX3_digest_212 : decode cX3_digest 212 = .ok (.invokevirtual 159, 3) := by decide +kernel
theorem dX3_digest_215 : decode cX3_digest 215 = .ok (.i2l, 1) := by decide +kernel
theorem dX3_digest_216 : decode cX3_digest 216 = .ok (.ladd, 1) := by decide +kernel
theorem dX3_digest_217 : decode cX3_digest 217 = .ok (.lstore_n 1, 1) := by decide +kernel
theorem dX3_digest_218 : decode cX3_digest 218 = .ok (.iconst 0, 1) := by decide +kernel
theorem dX3_digest_219 : decode cX3_digest 219 = .ok (.istore_n 3, 1) := by decide +kernel
theorem dX3_digest_220 : decode cX3_digest 220 = .ok (.iload_n 3, 1) := by decide +kernel
theorem dX3_digest_221 : decode cX3_digest 221 = .ok (.iconst 3, 1) := by decide +kernel
theorem dX3_digest_222 : decode cX3_digest 222 = .ok (.if_icmp .gt 32, 3) := by decide +kernel
theorem dX3_digest_225 : decode cX3_digest 225 = .ok (.ldc2_w 197, 3) := by decide +kernel
theorem dX3_digest_228 : decode cX3_digest 228 = .ok (.lload_n 1, 1) := by decide +kernel
theorem dX3_digest_229 : decode cX3_digest 229 = .ok (.lmul, 1) := by decide +kernel
theorem dX3_digest_230 : decode cX3_digest 230 = .ok (.aload_n 0, 1) := by decide +kernel
theorem dX3_digest_231 : decode cX3_digest 231 = .ok (.aload_n 0, 1) := by decide +kernel
theorem dX3_digest_232 : decode cX3_digest 232 = .ok (.getfield 26, 3) := by decide +kernel
theorem dX3_digest_235 : decode cX3_digest 235 = .ok (.getfield 100, 3) := by decide +kernel
theorem dX3_digest_238 : decode cX3_digest 238 = .ok (.iconst 5, 1) := by decide +kernel
theorem dX3_digest_239 : decode cX3_digest 239 = .ok (.bipush 12, 2) := by decide +kernel
theorem dX3_digest_241 : decode cX3_digest 241 = .ok (.iload_n 3, 1) := by decide +kernel
theorem dX3_digest_242 : decode cX3_digest 242 = .ok (.invokevirtual 202, 3) := by decide +kernel
theorem dX3_digest_245 : decode cX3_digest 245 = .ok (.i2l, 1) := by decide +kernel
theorem dX3_digest_246 : decode cX3_digest 246 = .ok (.ladd, 1) := by decide +kernel
theorem dX3_digest_247 : decode cX3_digest 247 = .ok (.lstore_n 1, 1) := by decide +kernel
theorem dX3_digest_248 : decode cX3_digest 248 = .ok (.iinc 3 1, 3) := by decide +kernel
theorem dX3_digest_251 : decode cX3_digest 251 = .ok (.goto (-31), 3) := by decide +kernel
theorem dX3_digest_254 : decode cX3_digest 254 = .ok (.iconst 0, 1) := by decide +kernel
theorem dX3_digest_255 : decode cX3_digest 255 = .ok (.istore_n 3, 1) := by decide +kernel
theorem dX3_digest_256 : decode cX3_digest 256 = .ok (.iload_n 3, 1) := by decide +kernel
theorem dX3_digest_257 : decode cX3_digest 257 = .ok (.aload_n 0, 1) := by decide +kernel
theorem dX3_digest_258 : decode cX3_digest 258 = .ok (.getfield 10, 3) := by decide +kernel
theorem dX3_digest_261 : decode cX3_digest 261 = .ok (.getfield 41, 3) := by decide +kernel
theorem dX3_digest_264 : decode cX3_digest 264 = .ok (.if_icmp .ge 25, 3) := by decide +kernel
theorem dX3_digest_267 : decode cX3_digest 267 = .ok (.ldc2_w 197, 3) := by decide +kernel
theorem dX3_digest_270 : decode cX3_digest 270 = .ok (.lload_n 1, 1) := by decide +kernel
theorem dX3_digest_271 : decode cX3_digest 271 = .ok (.lmul, 1) := by decide +kernel
theorem dX3_digest_272 : decode cX3_digest 272 = .ok (.aload_n 0, 1) := by decide +kernel
theorem dX3_digest_273 : decode cX3_digest 273 = .ok (.getfield 10, 3) := by decide +kernel
theorem dX3_digest_276 : decode cX3_digest 276 = .ok (.iload_n 3, 1) := by decide +kernel
theorem dX3_digest_277 : decode cX3_digest 277 = .ok (.invokevirtual 59, 3) := by decide +kernel
theorem dX3_digest_280 : decode cX3_digest 280 = .ok (.i2l, 1) := by decide +kernel
theorem dX3_digest_281 : decode cX3_digest 281 = .ok (.ladd, 1) := by decide +kernel
theorem dX3_digest_282 : decode cX3_digest 282 = .ok (.lstore_n 1, 1) := by decide +kernel
theorem dX3_digest_283 : decode cX3_digest 283 = .ok (.iinc 3 1, 3) := by decide +kernel
theorem dX3_digest_286 : decode cX3_digest 286 = .ok (.goto (-30), 3) := by decide +kernel
theorem dX3_digest_289 : decode cX3_digest 289 = .ok (.iconst 0, 1) := by decide +kernel
theorem dX3_digest_290 : decode cX3_digest 290 = .ok (.istore_n 3, 1) := by decide +kernel
theorem dX3_digest_291 : decode cX3_digest 291 = .ok (.iload_n 3, 1) := by decide +kernel
theorem dX3_digest_292 : decode cX3_digest 292 = .ok (.bipush 10, 2) := by decide +kernel
theorem dX3_digest_294 : decode cX3_digest 294 = .ok (.if_icmp .gt 22, 3) := by decide +kernel
theorem dX3_digest_297 : decode cX3_digest 297 = .ok (.ldc2_w 197, 3) := by decide +kernel
theorem dX3_digest_300 : decode cX3_digest 300 = .ok (.lload_n 1, 1) := by decide +kernel
theorem dX3_digest_301 : decode cX3_digest 301 = .ok (.lmul, 1) := by decide +kernel
theorem dX3_digest_302 : decode cX3_digest 302 = .ok (.aload_n 0, 1) := by decide +kernel
theorem dX3_digest_303 : decode cX3_digest 303 = .ok (.iload_n 3, 1) := by decide +kernel
theorem dX3_digest_304 : decode cX3_digest 304 = .ok (.invokevirtual 206, 3) := by decide +kernel
theorem dX3_digest_307 : decode cX3_digest 307 = .ok (.i2l, 1) := by decide +kernel
theorem dX3_digest_308 : decode cX3_digest 308 = .ok (.ladd, 1) := by decide +kernel
theorem dX3_digest_309 : decode cX3_digest 309 = .ok (.lstore_n 1, 1) := by decide +kernel
theorem dX3_digest_310 : decode cX3_digest 310 = .ok (.iinc 3 1, 3) := by decide +kernel
theorem dX3_digest_313 : decode cX3_digest 313 = .ok (.goto (-22), 3) := by decide +kernel
theorem dX3_digest_316 : decode cX3_digest 316 = .ok (.lload_n 1, 1) := by decide +kernel
theorem dX3_digest_317 : decode cX3_digest 317 = .ok (.lreturn, 1) := by decide +kernel
theorem dX3_isNoCairn_0 : decode cX3_isNoCairn 0 = .ok (.iload_n 1, 1) := by decide +kernel
theorem dX3_isNoCairn_1 : decode cX3_isNoCairn 1 = .ok (.iconst 1, 1) := by decide +kernel
theorem dX3_isNoCairn_2 : decode cX3_isNoCairn 2 = .ok (.if_icmp .lt 18, 3) := by decide +kernel
theorem dX3_isNoCairn_5 : decode cX3_isNoCairn 5 = .ok (.iload_n 1, 1) := by decide +kernel
theorem dX3_isNoCairn_6 : decode cX3_isNoCairn 6 = .ok (.iconst 5, 1) := by decide +kernel
theorem dX3_isNoCairn_7 : decode cX3_isNoCairn 7 = .ok (.if_icmp .gt 13, 3) := by decide +kernel
theorem dX3_isNoCairn_10 : decode cX3_isNoCairn 10 = .ok (.aload_n 0, 1) := by decide +kernel
theorem dX3_isNoCairn_11 : decode cX3_isNoCairn 11 = .ok (.getfield 19, 3) := by decide +kernel
theorem dX3_isNoCairn_14 : decode cX3_isNoCairn 14 = .ok (.getfield 53, 3) := by decide +kernel
theorem dX3_isNoCairn_17 : decode cX3_isNoCairn 17 = .ok (.ifCond .ne 7, 3) := by decide +kernel
theorem dX3_isNoCairn_20 : decode cX3_isNoCairn 20 = .ok (.iconst 1, 1) := by decide +kernel
theorem dX3_isNoCairn_21 : decode cX3_isNoCairn 21 = .ok (.goto 4, 3) := by decide +kernel
theorem dX3_isNoCairn_24 : decode cX3_isNoCairn 24 = .ok (.iconst 0, 1) := by decide +kernel
theorem dX3_isNoCairn_25 : decode cX3_isNoCairn 25 = .ok (.ireturn, 1) := by decide +kernel
theorem dX3_isNobody_0 : decode cX3_isNobody 0 = .ok (.iload_n 1, 1) := by decide +kernel
theorem dX3_isNobody_1 : decode cX3_isNobody 1 = .ok (.iconst 1, 1) := by decide +kernel
theorem dX3_isNobody_2 : decode cX3_isNobody 2 = .ok (.if_icmp .lt 14, 3) := by decide +kernel
theorem dX3_isNobody_5 : decode cX3_isNobody 5 = .ok (.iload_n 1, 1) := by decide +kernel
theorem dX3_isNobody_6 : decode cX3_isNobody 6 = .ok (.aload_n 0, 1) := by decide +kernel
theorem dX3_isNobody_7 : decode cX3_isNobody 7 = .ok (.getfield 19, 3) := by decide +kernel
theorem dX3_isNobody_10 : decode cX3_isNobody 10 = .ok (.invokevirtual 70, 3) := by decide +kernel
theorem dX3_isNobody_13 : decode cX3_isNobody 13 = .ok (.if_icmp .le 7, 3) := by decide +kernel
theorem dX3_isNobody_16 : decode cX3_isNobody 16 = .ok (.iconst 1, 1) := by decide +kernel
theorem dX3_isNobody_17 : decode cX3_isNobody 17 = .ok (.goto 4, 3) := by decide +kernel
theorem dX3_isNobody_20 : decode cX3_isNobody 20 = .ok (.iconst 0, 1) := by decide +kernel
theorem dX3_isNobody_21 : decode cX3_isNobody 21 = .ok (.ireturn, 1) := by decide +kernel
theorem dX3_isNoMarch_0 : decode cX3_isNoMarch 0 = .ok (.aload_n 0, 1) := by decide +kernel
theorem dX3_isNoMarch_1 : decode cX3_isNoMarch 1 = .ok (.iload_n 1, 1) := by decide +kernel
theorem dX3_isNoMarch_2 : decode cX3_isNoMarch 2 = .ok (.invokevirtual 153, 3) := by decide +kernel
theorem dX3_isNoMarch_5 : decode cX3_isNoMarch 5 = .ok (.ifCond .ne 20, 3) := by decide +kernel
theorem dX3_isNoMarch_8 : decode cX3_isNoMarch 8 = .ok (.iload_n 2, 1) := by decide +kernel
theorem dX3_isNoMarch_9 : decode cX3_isNoMarch 9 = .ok (.invokestatic 156, 3) := by decide +kernel
theorem dX3_isNoMarch_12 : decode cX3_isNoMarch 12 = .ok (.ifCond .ne 13, 3) := by decide +kernel
theorem dX3_isNoMarch_15 : decode cX3_isNoMarch 15 = .ok (.iload_n 3, 1) := by decide +kernel
theorem dX3_isNoMarch_16 : decode cX3_isNoMarch 16 = .ok (.ifCond .lt 9, 3) := by decide +kernel
theorem dX3_isNoMarch_19 : decode cX3_isNoMarch 19 = .ok (.iload_n 3, 1) := by decide +kernel
theorem dX3_isNoMarch_20 : decode cX3_isNoMarch 20 = .ok (.bipush 40, 2) := by decide +kernel
theorem dX3_isNoMarch_22 : decode cX3_isNoMarch 22 = .ok (.if_icmp .le 7, 3) := by decide +kernel
theorem dX3_isNoMarch_25 : decode cX3_isNoMarch 25 = .ok (.iconst 1, 1) := by decide +kernel
theorem dX3_isNoMarch_26 : decode cX3_isNoMarch 26 = .ok (.goto 4, 3) := by decide +kernel
theorem dX3_isNoMarch_29 : decode cX3_isNoMarch 29 = .ok (.iconst 0, 1) := by decide +kernel
theorem dX3_isNoMarch_30 : decode cX3_isNoMarch 30 = .ok (.ireturn, 1) := by decide +kernel
theorem dX3_anyIsDead_0 : decode cX3_anyIsDead 0 = .ok (.iload_n 1, 1) := by decide +kernel
theorem dX3_anyIsDead_1 : decode cX3_anyIsDead 1 = .ok (.aload_n 0, 1) := by decide +kernel
theorem dX3_anyIsDead_2 : decode cX3_anyIsDead 2 = .ok (.getfield 26, 3) := by decide +kernel
theorem dX3_anyIsDead_5 : decode cX3_anyIsDead 5 = .ok (.getfield 100, 3) := by decide +kernel
theorem dX3_anyIsDead_8 : decode cX3_anyIsDead 8 = .ok (.iconst (-1), 1) := by decide +kernel
theorem dX3_anyIsDead_9 : decode cX3_anyIsDead 9 = .ok (.ixor, 1) := by decide +kernel
theorem dX3_anyIsDead_10 : decode cX3_anyIsDead 10 = .ok (.iand, 1) := by decide +kernel
theorem dX3_anyIsDead_11 : decode cX3_anyIsDead 11 = .ok (.ifCond .eq 7, 3) := by decide +kernel
theorem dX3_anyIsDead_14 : decode cX3_anyIsDead 14 = .ok (.iconst 1, 1) := by decide +kernel
theorem dX3_anyIsDead_15 : decode cX3_anyIsDead 15 = .ok (.goto 4, 3) := by decide +kernel
theorem dX3_anyIsDead_18 : decode cX3_anyIsDead 18 = .ok (.iconst 0, 1) := by decide +kernel
theorem dX3_anyIsDead_19 : decode cX3_anyIsDead 19 = .ok (.ireturn, 1) := by decide +kernel
theorem dX3_isNoStage_0 : decode cX3_isNoStage 0 = .ok (.iload_n 0, 1) := by decide +kernel
theorem dX3_isNoStage_1 : decode cX3_isNoStage 1 = .ok (.iconst 1, 1) := by decide +kernel
theorem dX3_isNoStage_2 : decode cX3_isNoStage 2 = .ok (.if_icmp .lt 9, 3) := by decide +kernel
theorem dX3_isNoStage_5 : decode cX3_isNoStage 5 = .ok (.iload_n 0, 1) := by decide +kernel
theorem dX3_isNoStage_6 : decode cX3_isNoStage 6 = .ok (.bipush 6, 2) := by decide +kernel
theorem dX3_isNoStage_8 : decode cX3_isNoStage 8 = .ok (.if_icmp .le 7, 3) := by decide +kernel
theorem dX3_isNoStage_11 : decode cX3_isNoStage 11 = .ok (.iconst 1, 1) := by decide +kernel
theorem dX3_isNoStage_12 : decode cX3_isNoStage 12 = .ok (.goto 4, 3) := by decide +kernel
theorem dX3_isNoStage_15 : decode cX3_isNoStage 15 = .ok (.iconst 0, 1) := by decide +kernel
theorem dX3_isNoStage_16 : decode cX3_isNoStage 16 = .ok (.ireturn, 1) := by decide +kernel
theorem dX3_mostFoodOf_0 : decode cX3_mostFoodOf 0 = .ok (.bipush 40, 2) := by decide +kernel
theorem dX3_mostFoodOf_2 : decode cX3_mostFoodOf 2 = .ok (.aload_n 0, 1) := by decide +kernel
theorem dX3_mostFoodOf_3 : decode cX3_mostFoodOf 3 = .ok (.getfield 19, 3) := by decide +kernel
theorem dX3_mostFoodOf_6 : decode cX3_mostFoodOf 6 = .ok (.iload_n 1, 1) := by decide +kernel
theorem dX3_mostFoodOf_7 : decode cX3_mostFoodOf 7 = .ok (.getstatic 91, 3) := by decide +kernel
theorem dX3_mostFoodOf_10 : decode cX3_mostFoodOf 10 = .ok (.invokevirtual 192, 3) := by decide +kernel
theorem dX3_mostFoodOf_13 : decode cX3_mostFoodOf 13 = .ok (.invokestatic 209, 3) := by decide +kernel
theorem dX3_mostFoodOf_16 : decode cX3_mostFoodOf 16 = .ok (.ireturn, 1) := by decide +kernel
theorem dX3_leastFood_0 : decode cX3_leastFood 0 = .ok (.aload_n 0, 1) := by decide +kernel
theorem dX3_leastFood_1 : decode cX3_leastFood 1 = .ok (.iload_n 1, 1) := by decide +kernel
theorem dX3_leastFood_2 : decode cX3_leastFood 2 = .ok (.invokevirtual 214, 3) := by decide +kernel
theorem dX3_leastFood_5 : decode cX3_leastFood 5 = .ok (.istore 4, 2) := by decide +kernel
theorem dX3_leastFood_7 : decode cX3_leastFood 7 = .ok (.iconst 0, 1) := by decide +kernel
theorem dX3_leastFood_8 : decode cX3_leastFood 8 = .ok (.istore 5, 2) := by decide +kernel
theorem dX3_leastFood_10 : decode cX3_leastFood 10 = .ok (.iload 5, 2) := by decide +kernel
theorem dX3_leastFood_12 : decode cX3_leastFood 12 = .ok (.iload 4, 2) := by decide +kernel
theorem dX3_leastFood_14 : decode cX3_leastFood 14 = .ok (.if_icmp .gt 34, 3) := by decide +kernel
theorem dX3_leastFood_17 : decode cX3_leastFood 17 = .ok (.aload_n 0, 1) := by decide +kernel
theorem dX3_leastFood_18 : decode cX3_leastFood 18 = .ok (.getfield 19, 3) := by decide +kernel
theorem dX3_leastFood_21 : decode cX3_leastFood 21 = .ok (.aload_n 3, 1) := by decide +kernel
theorem dX3_leastFood_22 : decode cX3_leastFood 22 = .ok (.invokevirtual 124, 3) := by decide +kernel
theorem dX3_leastFood_25 : decode cX3_leastFood 25 = .ok (.aload_n 0, 1) := by decide +kernel
theorem dX3_leastFood_26 : decode cX3_leastFood 26 = .ok (.getfield 19, 3) := by decide +kernel
theorem dX3_leastFood_29 : decode cX3_leastFood 29 = .ok (.iload_n 1, 1) := by decide +kernel
theorem dX3_leastFood_30 : decode cX3_leastFood 30 = .ok (.iload_n 2, 1) := by decide +kernel
theorem dX3_leastFood_31 : decode cX3_leastFood 31 = .ok (.iload 5, 2) := by decide +kernel
theorem dX3_leastFood_33 : decode cX3_leastFood 33 = .ok (.invokevirtual 128, 3) := by decide +kernel
theorem dX3_leastFood_36 : decode cX3_leastFood 36 = .ok (.ifCond .eq 6, 3) := by decide +kernel
theorem dX3_leastFood_39 : decode cX3_leastFood 39 = .ok (.iload 5, 2) := by decide +kernel
theorem dX3_leastFood_41 : decode cX3_leastFood 41 = .ok (.ireturn, 1) := by decide +kernel
theorem dX3_leastFood_42 : decode cX3_leastFood 42 = .ok (.iinc 5 1, 3) := by decide +kernel
theorem dX3_leastFood_45 : decode cX3_leastFood 45 = .ok (.goto (-35), 3) := by decide +kernel
theorem dX3_leastFood_48 : decode cX3_leastFood 48 = .ok (.iconst (-1), 1) := by decide +kernel
theorem dX3_leastFood_49 : decode cX3_leastFood 49 = .ok (.ireturn, 1) := by decide +kernel
theorem dX3_farthest_0 : decode cX3_farthest 0 = .ok (.bipush 6, 2) := by decide +kernel
theorem dX3_farthest_2 : decode cX3_farthest 2 = .ok (.istore_n 3, 1) := by decide +kernel
theorem dX3_farthest_3 : decode cX3_farthest 3 = .ok (.iload_n 3, 1) := by decide +kernel
theorem dX3_farthest_4 : decode cX3_farthest 4 = .ok (.iconst 1, 1) := by decide +kernel
theorem dX3_farthest_5 : decode cX3_farthest 5 = .ok (.if_icmp .lt 26, 3) := by decide +kernel
theorem dX3_farthest_8 : decode cX3_farthest 8 = .ok (.iload_n 1, 1) := by decide +kernel
theorem dX3_farthest_9 : decode cX3_farthest 9 = .ok (.ifCond .eq 16, 3) := by decide +kernel
theorem dX3_farthest_12 : decode cX3_farthest 12 = .ok (.aload_n 0, 1) := by decide +kernel
theorem dX3_farthest_13 : decode cX3_farthest 13 = .ok (.iload_n 1, 1) := by decide +kernel
theorem dX3_farthest_14 : decode cX3_farthest 14 = .ok (.iload_n 3, 1) := by decide +kernel
theorem dX3_farthest_15 : decode cX3_farthest 15 = .ok (.aload_n 2, 1) := by decide +kernel
theorem dX3_farthest_16 : decode cX3_farthest 16 = .ok (.invokevirtual 159, 3) := by decide +kernel
theorem dX3_farthest_19 : decode cX3_farthest 19 = .ok (.iconst (-1), 1) := by decide +kernel
theorem dX3_farthest_20 : decode cX3_farthest 20 = .ok (.if_icmp .eq 5, 3) := by decide +kernel
theorem dX3_farthest_23 : decode cX3_farthest 23 = .ok (.iload_n 3, 1) := by decide +kernel
theorem dX3_farthest_24 : decode cX3_farthest 24 = .ok (.ireturn, 1) := by decide +kernel
theorem dX3_farthest_25 : decode cX3_farthest 25 = .ok (.iinc 3 (-1), 3) := by decide +kernel
theorem dX3_farthest_28 : decode cX3_farthest 28 = .ok (.goto (-25), 3) := by decide +kernel
theorem dX3_farthest_31 : decode cX3_farthest 31 = .ok (.iconst 0, 1) := by decide +kernel
theorem dX3_farthest_32 : decode cX3_farthest 32 = .ok (.ireturn, 1) := by decide +kernel
theorem dX3_fewest_0 : decode cX3_fewest 0 = .ok (.iconst (-1), 1) := by decide +kernel
theorem dX3_fewest_1 : decode cX3_fewest 1 = .ok (.istore_n 2, 1) := by decide +kernel
theorem dX3_fewest_2 : decode cX3_fewest 2 = .ok (.bipush 7, 2) := by decide +kernel
theorem dX3_fewest_4 : decode cX3_fewest 4 = .ok (.istore_n 3, 1) := by decide +kernel
theorem dX3_fewest_5 : decode cX3_fewest 5 = .ok (.iconst 1, 1) := by decide +kernel
theorem dX3_fewest_6 : decode cX3_fewest 6 = .ok (.istore 4, 2) := by decide +kernel
theorem dX3_fewest_8 : decode cX3_fewest 8 = .ok (.iload 4, 2) := by decide +kernel
theorem dX3_fewest_10 : decode cX3_fewest 10 = .ok (.aload_n 0, 1) := by decide +kernel
theorem dX3_fewest_11 : decode cX3_fewest 11 = .ok (.getfield 19, 3) := by decide +kernel
theorem dX3_fewest_14 : decode cX3_fewest 14 = .ok (.invokevirtual 70, 3) := by decide +kernel
theorem dX3_fewest_17 : decode cX3_fewest 17 = .ok (.if_icmp .gt 66, 3) := by decide +kernel
theorem dX3_fewest_20 : decode cX3_fewest 20 = .ok (.aload_n 0, 1) := by decide +kernel
theorem dX3_fewest_21 : decode cX3_fewest 21 = .ok (.iload 4, 2) := by decide +kernel
theorem dX3_fewest_23 : decode cX3_fewest 23 = .ok (.invokevirtual 121, 3) := by decide +kernel
theorem dX3_fewest_26 : decode cX3_fewest 26 = .ok (.ifCond .ne 16, 3) := by decide +kernel
theorem dX3_fewest_29 : decode cX3_fewest 29 = .ok (.iload 4, 2) := by decide +kernel
theorem dX3_fewest_31 : decode cX3_fewest 31 = .ok (.invokestatic 187, 3) := by decide +kernel
theorem dX3_fewest_34 : decode cX3_fewest 34 = .ok (.iload_n 3, 1) := by decide +kernel
theorem dX3_fewest_35 : decode cX3_fewest 35 = .ok (.if_icmp .ge 7, 3) := by decide +kernel
theorem dX3_fewest_38 : decode cX3_fewest 38 = .ok (.iconst 1, 1) := by decide +kernel
theorem dX3_fewest_39 : decode cX3_fewest 39 = .ok (.goto 4, 3) := by decide +kernel
theorem dX3_fewest_42 : decode cX3_fewest 42 = .ok (.iconst 0, 1) := by decide +kernel
theorem dX3_fewest_43 : decode cX3_fewest 43 = .ok (.istore 5, 2) := by decide +kernel
theorem dX3_fewest_45 : decode cX3_fewest 45 = .ok (.iload 5, 2) := by decide +kernel
theorem dX3_fewest_47 : decode cX3_fewest 47 = .ok (.ifCond .eq 30, 3) := by decide +kernel
theorem dX3_fewest_50 : decode cX3_fewest 50 = .ok (.aload_n 0, 1) := by decide +kernel
theorem dX3_fewest_51 : decode cX3_fewest 51 = .ok (.iload 4, 2) := by decide +kernel
theorem dX3_fewest_53 : decode cX3_fewest 53 = .ok (.iload_n 1, 1) := by decide +kernel
theorem dX3_fewest_54 : decode cX3_fewest 54 = .ok (.aload_n 0, 1) := by decide +kernel
theorem dX3_fewest_55 : decode cX3_fewest 55 = .ok (.getfield 26, 3) := by decide +kernel
theorem dX3_fewest_58 : decode cX3_fewest 58 = .ok (.getfield 77, 3) := by decide +kernel
theorem dX3_fewest_61 : decode cX3_fewest 61 = .ok (.invokevirtual 159, 3) := by decide +kernel
theorem dX3_fewest_64 : decode cX3_fewest 64 = .ok (.iconst (-1), 1) := by decide +kernel
theorem dX3_fewest_65 : decode cX3_fewest 65 = .ok (.if_icmp .eq 12, 3) := by decide +kernel
theorem dX3_fewest_68 : decode cX3_fewest 68 = .ok (.iload 4, 2) := by decide +kernel
theorem dX3_fewest_70 : decode cX3_fewest 70 = .ok (.istore_n 2, 1) := by decide +kernel
theorem dX3_fewest_71 : decode cX3_fewest 71 = .ok (.iload 4, 2) := by decide +kernel
theorem dX3_fewest_73 : decode cX3_fewest 73 = .ok (.invokestatic 187, 3) := by decide +kernel
theorem dX3_fewest_76 : decode cX3_fewest 76 = .ok (.istore_n 3, 1) := by decide +kernel
theorem dX3_fewest_77 : decode cX3_fewest 77 = .ok (.iinc 4 1, 3) := by decide +kernel
theorem dX3_fewest_80 : decode cX3_fewest 80 = .ok (.goto (-72), 3) := by decide +kernel
theorem dX3_fewest_83 : decode cX3_fewest 83 = .ok (.iload_n 2, 1) := by decide +kernel
theorem dX3_fewest_84 : decode cX3_fewest 84 = .ok (.ireturn, 1) := by decide +kernel
theorem dX3_amountsAt_0 : decode cX3_amountsAt 0 = .ok (.iconst 0, 1) := by decide +kernel
theorem dX3_amountsAt_1 : decode cX3_amountsAt 1 = .ok (.istore_n 2, 1) := by decide +kernel
theorem dX3_amountsAt_2 : decode cX3_amountsAt 2 = .ok (.iconst 0, 1) := by decide +kernel
theorem dX3_amountsAt_3 : decode cX3_amountsAt 3 = .ok (.istore_n 3, 1) := by decide +kernel
theorem dX3_amountsAt_4 : decode cX3_amountsAt 4 = .ok (.iload_n 3, 1) := by decide +kernel
theorem dX3_amountsAt_5 : decode cX3_amountsAt 5 = .ok (.bipush 9, 2) := by decide +kernel
theorem dX3_amountsAt_7 : decode cX3_amountsAt 7 = .ok (.if_icmp .gt 24, 3) := by decide +kernel
theorem dX3_amountsAt_10 : decode cX3_amountsAt 10 = .ok (.aload_n 0, 1) := by decide +kernel
theorem dX3_amountsAt_11 : decode cX3_amountsAt 11 = .ok (.iload_n 1, 1) := by decide +kernel
theorem dX3_amountsAt_12 : decode cX3_amountsAt 12 = .ok (.iload_n 3, 1) := by decide +kernel
theorem dX3_amountsAt_13 : decode cX3_amountsAt 13 = .ok (.invokevirtual 217, 3) := by decide +kernel
theorem dX3_amountsAt_16 : decode cX3_amountsAt 16 = .ok (.ifCond .eq 9, 3) := by decide +kernel
theorem dX3_amountsAt_19 : decode cX3_amountsAt 19 = .ok (.iload_n 2, 1) := by decide +kernel
theorem dX3_amountsAt_20 : decode cX3_amountsAt 20 = .ok (.iconst 1, 1) := by decide +kernel
theorem dX3_amountsAt_21 : decode cX3_amountsAt 21 = .ok (.iload_n 3, 1) := by decide +kernel
theorem dX3_amountsAt_22 : decode cX3_amountsAt 22 = .ok (.ishl, 1) := by decide +kernel
theorem dX3_amountsAt_23 : decode cX3_amountsAt 23 = .ok (.ior, 1) := by decide +kernel
theorem dX3_amountsAt_24 : decode cX3_amountsAt 24 = .ok (.istore_n 2, 1) := by decide +kernel
theorem dX3_amountsAt_25 : decode cX3_amountsAt 25 = .ok (.iinc 3 1, 3) := by decide +kernel
theorem dX3_amountsAt_28 : decode cX3_amountsAt 28 = .ok (.goto (-24), 3) := by decide +kernel
theorem dX3_amountsAt_31 : decode cX3_amountsAt 31 = .ok (.iload_n 2, 1) := by decide +kernel
theorem dX3_amountsAt_32 : decode cX3_amountsAt 32 = .ok (.ireturn, 1) := by decide +kernel
theorem dX3_isAllSo_0 : decode cX3_isAllSo 0 = .ok (.iconst 0, 1) := by decide +kernel
theorem dX3_isAllSo_1 : decode cX3_isAllSo 1 = .ok (.istore_n 3, 1) := by decide +kernel
theorem dX3_isAllSo_2 : decode cX3_isAllSo 2 = .ok (.iload_n 3, 1) := by decide +kernel
theorem dX3_isAllSo_3 : decode cX3_isAllSo 3 = .ok (.aload_n 0, 1) := by decide +kernel
theorem dX3_isAllSo_4 : decode cX3_isAllSo 4 = .ok (.getfield 26, 3) := by decide +kernel
theorem dX3_isAllSo_7 : decode cX3_isAllSo 7 = .ok (.getfield 173, 3) := by decide +kernel
theorem dX3_isAllSo_10 : decode cX3_isAllSo 10 = .ok (.if_icmp .ge 110, 3) := by decide +kernel
theorem dX3_isAllSo_13 : decode cX3_isAllSo 13 = .ok (.aload_n 0, 1) := by decide +kernel
theorem dX3_isAllSo_14 : decode cX3_isAllSo 14 = .ok (.getfield 19, 3) := by decide +kernel
theorem dX3_isAllSo_17 : decode cX3_isAllSo 17 = .ok (.aload_n 0, 1) := by decide +kernel
theorem dX3_isAllSo_18 : decode cX3_isAllSo 18 = .ok (.getfield 26, 3) := by decide +kernel
theorem dX3_isAllSo_21 : decode cX3_isAllSo 21 = .ok (.getfield 77, 3) := by decide +kernel
theorem dX3_isAllSo_24 : decode cX3_isAllSo 24 = .ok (.invokevirtual 124, 3) := by decide +kernel
theorem dX3_isAllSo_27 : decode cX3_isAllSo 27 = .ok (.aload_n 0, 1) := by decide +kernel
theorem dX3_isAllSo_28 : decode cX3_isAllSo 28 = .ok (.getfield 19, 3) := by decide +kernel
theorem dX3_isAllSo_31 : decode cX3_isAllSo 31 = .ok (.getfield 132, 3) := by decide +kernel
theorem dX3_isAllSo_34 : decode cX3_isAllSo 34 = .ok (.iload_n 1, 1) := by decide +kernel
theorem dX3_isAllSo_35 : decode cX3_isAllSo 35 = .ok (.iconst 1, 1) := by decide +kernel
theorem dX3_isAllSo_36 : decode cX3_isAllSo 36 = .ok (.isub, 1) := by decide +kernel
theorem dX3_isAllSo_37 : decode cX3_isAllSo 37 = .ok (.iload_n 2, 1) := by decide +kernel
theorem dX3_isAllSo_38 : decode cX3_isAllSo 38 = .ok (.invokestatic 66, 3) := by decide +kernel
theorem dX3_isAllSo_41 : decode cX3_isAllSo 41 = .ok (.aload_n 0, 1) := by decide +kernel
theorem dX3_isAllSo_42 : decode cX3_isAllSo 42 = .ok (.getfield 26, 3) := by decide +kernel
theorem dX3_isAllSo_45 : decode cX3_isAllSo 45 = .ok (.getfield 220, 3) := by decide +kernel
theorem dX3_isAllSo_48 : decode cX3_isAllSo 48 = .ok (.iload_n 3, 1) := by decide +kernel
theorem dX3_isAllSo_49 : decode cX3_isAllSo 49 = .ok (.invokestatic 87, 3) := by decide +kernel
theorem dX3_isAllSo_52 : decode cX3_isAllSo 52 = .ok (.istore 4, 2) := by decide +kernel
theorem dX3_isAllSo_54 : decode cX3_isAllSo 54 = .ok (.aload_n 0, 1) := by decide +kernel
theorem dX3_isAllSo_55 : decode cX3_isAllSo 55 = .ok (.getfield 19, 3) := by decide +kernel
theorem dX3_isAllSo_58 : decode cX3_isAllSo 58 = .ok (.aload_n 0, 1) := by decide +kernel
theorem dX3_isAllSo_59 : decode cX3_isAllSo 59 = .ok (.getfield 26, 3) := by decide +kernel
theorem dX3_isAllSo_62 : decode cX3_isAllSo 62 = .ok (.getfield 223, 3) := by decide +kernel
theorem dX3_isAllSo_65 : decode cX3_isAllSo 65 = .ok (.iload_n 3, 1) := by decide +kernel
theorem dX3_isAllSo_66 : decode cX3_isAllSo 66 = .ok (.invokestatic 87, 3) := by decide +kernel
theorem dX3_isAllSo_69 : decode cX3_isAllSo 69 = .ok (.iload 4, 2) := by decide +kernel
theorem dX3_isAllSo_71 : decode cX3_isAllSo 71 = .ok (.aload_n 0, 1) := by decide +kernel
theorem dX3_isAllSo_72 : decode cX3_isAllSo 72 = .ok (.getfield 26, 3) := by decide +kernel
theorem dX3_isAllSo_75 : decode cX3_isAllSo 75 = .ok (.getfield 226, 3) := by decide +kernel
theorem dX3_isAllSo_78 : decode cX3_isAllSo 78 = .ok (.iload_n 3, 1) := by decide +kernel
theorem dX3_isAllSo_79 : decode cX3_isAllSo 79 = .ok (.invokestatic 87, 3) := by decide +kernel
theorem dX3_isAllSo_82 : decode cX3_isAllSo 82 = .ok (.invokevirtual 128, 3) := by decide +kernel
theorem dX3_isAllSo_85 : decode cX3_isAllSo 85 = .ok (.istore 5, 2) := by decide +kernel
theorem dX3_isAllSo_87 : decode cX3_isAllSo 87 = .ok (.iload 5, 2) := by decide +kernel
theorem dX3_isAllSo_89 : decode cX3_isAllSo 89 = .ok (.aload_n 0, 1) := by decide +kernel
theorem dX3_isAllSo_90 : decode cX3_isAllSo 90 = .ok (.getfield 26, 3) := by decide +kernel
theorem dX3_isAllSo_93 : decode cX3_isAllSo 93 = .ok (.getfield 229, 3) := by decide +kernel
theorem dX3_isAllSo_96 : decode cX3_isAllSo 96 = .ok (.iload_n 3, 1) := by decide +kernel
theorem dX3_isAllSo_97 : decode cX3_isAllSo 97 = .ok (.invokestatic 87, 3) := by decide +kernel
theorem dX3_isAllSo_100 : decode cX3_isAllSo 100 = .ok (.iconst 1, 1) := by decide +kernel
theorem dX3_isAllSo_101 : decode cX3_isAllSo 101 = .ok (.if_icmp .ne 7, 3) := by decide +kernel
theorem dX3_isAllSo_104 : decode cX3_isAllSo 104 = .ok (.iconst 1, 1) := by decide +kernel
theorem dX3_isAllSo_105 : decode cX3_isAllSo 105 = .ok (.goto 4, 3) := by decide +kernel
theorem dX3_isAllSo_108 : decode cX3_isAllSo 108 = .ok (.iconst 0, 1) := by decide +kernel
theorem dX3_isAllSo_109 : decode cX3_isAllSo 109 = .ok (.if_icmp .eq 5, 3) := by decide +kernel
theorem dX3_isAllSo_112 : decode cX3_isAllSo 112 = .ok (.iconst 0, 1) := by decide +kernel
theorem dX3_isAllSo_113 : decode cX3_isAllSo 113 = .ok (.ireturn, 1) := by decide +kernel
theorem dX3_isAllSo_114 : decode cX3_isAllSo 114 = .ok (.iinc 3 1, 3) := by decide +kernel
theorem dX3_isAllSo_117 : decode cX3_isAllSo 117 = .ok (.goto (-115), 3) := by decide +kernel
theorem dX3_isAllSo_120 : decode cX3_isAllSo 120 = .ok (.iconst 1, 1) := by decide +kernel
theorem dX3_isAllSo_121 : decode cX3_isAllSo 121 = .ok (.ireturn, 1) := by decide +kernel
theorem dX3_bestTrial_0 : decode cX3_bestTrial 0 = .ok (.iconst (-1), 1) := by decide +kernel
theorem dX3_bestTrial_1 : decode cX3_bestTrial 1 = .ok (.istore_n 3, 1) := by decide +kernel
theorem dX3_bestTrial_2 : decode cX3_bestTrial 2 = .ok (.iload_n 2, 1) := by decide +kernel
theorem dX3_bestTrial_3 : decode cX3_bestTrial 3 = .ok (.invokestatic 187, 3) := by decide +kernel
theorem dX3_bestTrial_6 : decode cX3_bestTrial 6 = .ok (.iconst 1, 1) := by decide +kernel
theorem dX3_bestTrial_7 : decode cX3_bestTrial 7 = .ok (.iadd, 1) := by decide +kernel
theorem dX3_bestTrial_8 : decode cX3_bestTrial 8 = .ok (.istore 4, 2) := by decide +kernel
theorem dX3_bestTrial_10 : decode cX3_bestTrial 10 = .ok (.aload_n 0, 1) := by decide +kernel
theorem dX3_bestTrial_11 : decode cX3_bestTrial 11 = .ok (.aload_n 0, 1) := by decide +kernel
theorem dX3_bestTrial_12 : decode cX3_bestTrial 12 = .ok (.getfield 19, 3) := by decide +kernel
theorem dX3_bestTrial_15 : decode cX3_bestTrial 15 = .ok (.invokevirtual 70, 3) := by decide +kernel
theorem dX3_bestTrial_18 : decode cX3_bestTrial 18 = .ok (.invokevirtual 214, 3) := by decide +kernel
theorem dX3_bestTrial_21 : decode cX3_bestTrial 21 = .ok (.istore 5, 2) := by decide +kernel
theorem dX3_bestTrial_23 : decode cX3_bestTrial 23 = .ok (.iconst 0, 1) := by decide +kernel
theorem dX3_bestTrial_24 : decode cX3_bestTrial 24 = .ok (.istore 6, 2) := by decide +kernel
theorem dX3_bestTrial_26 : decode cX3_bestTrial 26 = .ok (.iload_n 2, 1) := by decide +kernel
theorem dX3_bestTrial_27 : decode cX3_bestTrial 27 = .ok (.ifCond .eq 40, 3) := by decide +kernel
theorem dX3_bestTrial_30 : decode cX3_bestTrial 30 = .ok (.iload 6, 2) := by decide +kernel
theorem dX3_bestTrial_32 : decode cX3_bestTrial 32 = .ok (.iload 5, 2) := by decide +kernel
theorem dX3_bestTrial_34 : decode cX3_bestTrial 34 = .ok (.if_icmp .gt 33, 3) := by decide +kernel
theorem dX3_bestTrial_37 : decode cX3_bestTrial 37 = .ok (.aload_n 0, 1) := by decide +kernel
theorem dX3_bestTrial_38 : decode cX3_bestTrial 38 = .ok (.iload_n 1, 1) := by decide +kernel
theorem dX3_bestTrial_39 : decode cX3_bestTrial 39 = .ok (.iload_n 2, 1) := by decide +kernel
theorem dX3_bestTrial_40 : decode cX3_bestTrial 40 = .ok (.iload 6, 2) := by decide +kernel
theorem dX3_bestTrial_42 : decode cX3_bestTrial 42 = .ok (.invokevirtual 232, 3) := by decide +kernel
theorem dX3_bestTrial_45 : decode cX3_bestTrial 45 = .ok (.istore 7, 2) := by decide +kernel
theorem dX3_bestTrial_47 : decode cX3_bestTrial 47 = .ok (.iload 7, 2) := by decide +kernel
theorem dX3_bestTrial_49 : decode cX3_bestTrial 49 = .ok (.iload 4, 2) := by decide +kernel
theorem dX3_bestTrial_51 : decode cX3_bestTrial 51 = .ok (.if_icmp .ge 10, 3) := by decide +kernel
theorem dX3_bestTrial_54 : decode cX3_bestTrial 54 = .ok (.iload 6, 2) := by decide +kernel
theorem dX3_bestTrial_56 : decode cX3_bestTrial 56 = .ok (.istore_n 3, 1) := by decide +kernel
theorem dX3_bestTrial_57 : decode cX3_bestTrial 57 = .ok (.iload 7, 2) := by decide +kernel
theorem dX3_bestTrial_59 : decode cX3_bestTrial 59 = .ok (.istore 4, 2) := by decide +kernel
theorem dX3_bestTrial_61 : decode cX3_bestTrial 61 = .ok (.iinc 6 1, 3) := by decide +kernel
theorem dX3_bestTrial_64 : decode cX3_bestTrial 64 = .ok (.goto (-38), 3) := by decide +kernel
theorem dX3_bestTrial_67 : decode cX3_bestTrial 67 = .ok (.iload_n 3, 1) := by decide +kernel
theorem dX3_bestTrial_68 : decode cX3_bestTrial 68 = .ok (.ireturn, 1) := by decide +kernel
theorem dX3_leftAtWorst_0 : decode cX3_leftAtWorst 0 = .ok (.iconst 0, 1) := by decide +kernel
theorem dX3_leftAtWorst_1 : decode cX3_leftAtWorst 1 = .ok (.istore 4, 2) := by decide +kernel
theorem dX3_leftAtWorst_3 : decode cX3_leftAtWorst 3 = .ok (.iconst 0, 1) := by decide +kernel
theorem dX3_leftAtWorst_4 : decode cX3_leftAtWorst 4 = .ok (.istore 5, 2) := by decide +kernel
theorem dX3_leftAtWorst_6 : decode cX3_leftAtWorst 6 = .ok (.iload 5, 2) := by decide +kernel
theorem dX3_leftAtWorst_8 : decode cX3_leftAtWorst 8 = .ok (.bipush 9, 2) := by decide +kernel
theorem dX3_leftAtWorst_10 : decode cX3_leftAtWorst 10 = .ok (.if_icmp .gt 78, 3) := by decide +kernel
theorem dX3_leftAtWorst_13 : decode cX3_leftAtWorst 13 = .ok (.iload_n 2, 1) := by decide +kernel
theorem dX3_leftAtWorst_14 : decode cX3_leftAtWorst 14 = .ok (.iload 5, 2) := by decide +kernel
theorem dX3_leftAtWorst_16 : decode cX3_leftAtWorst 16 = .ok (.ishr, 1) := by decide +kernel
theorem dX3_leftAtWorst_17 : decode cX3_leftAtWorst 17 = .ok (.iconst 1, 1) := by decide +kernel
theorem dX3_leftAtWorst_18 : decode cX3_leftAtWorst 18 = .ok (.iand, 1) := by decide +kernel
theorem dX3_leftAtWorst_19 : decode cX3_leftAtWorst 19 = .ok (.iconst 1, 1) := by decide +kernel
theorem dX3_leftAtWorst_20 : decode cX3_leftAtWorst 20 = .ok (.if_icmp .ne 62, 3) := by decide +kernel
theorem dX3_leftAtWorst_23 : decode cX3_leftAtWorst 23 = .ok (.aload_n 0, 1) := by decide +kernel
theorem dX3_leftAtWorst_24 : decode cX3_leftAtWorst 24 = .ok (.getfield 19, 3) := by decide +kernel
theorem dX3_leftAtWorst_27 : decode cX3_leftAtWorst 27 = .ok (.aload_n 0, 1) := by decide +kernel
theorem dX3_leftAtWorst_28 : decode cX3_leftAtWorst 28 = .ok (.getfield 26, 3) := by decide +kernel
theorem dX3_leftAtWorst_31 : decode cX3_leftAtWorst 31 = .ok (.getfield 77, 3) := by decide +kernel
theorem dX3_leftAtWorst_34 : decode cX3_leftAtWorst 34 = .ok (.invokevirtual 124, 3) := by decide +kernel
theorem dX3_leftAtWorst_37 : decode cX3_leftAtWorst 37 = .ok (.aload_n 0, 1) := by decide +kernel
theorem dX3_leftAtWorst_38 : decode cX3_leftAtWorst 38 = .ok (.getfield 19, 3) := by decide +kernel
theorem dX3_leftAtWorst_41 : decode cX3_leftAtWorst 41 = .ok (.getfield 132, 3) := by decide +kernel
theorem dX3_leftAtWorst_44 : decode cX3_leftAtWorst 44 = .ok (.iload_n 1, 1) := by decide +kernel
theorem dX3_leftAtWorst_45 : decode cX3_leftAtWorst 45 = .ok (.iconst 1, 1) := by decide +kernel
theorem dX3_leftAtWorst_46 : decode cX3_leftAtWorst 46 = .ok (.isub, 1) := by decide +kernel
theorem dX3_leftAtWorst_47 : decode cX3_leftAtWorst 47 = .ok (.iload 5, 2) := by decide +kernel
theorem dX3_leftAtWorst_49 : decode cX3_leftAtWorst 49 = .ok (.invokestatic 66, 3) := by decide +kernel
theorem dX3_leftAtWorst_52 : decode cX3_leftAtWorst 52 = .ok (.iload 4, 2) := by decide +kernel
theorem dX3_leftAtWorst_54 : decode cX3_leftAtWorst 54 = .ok (.aload_n 0, 1) := by decide +kernel
theorem dX3_leftAtWorst_55 : decode cX3_leftAtWorst 55 = .ok (.getfield 19, 3) := by decide +kernel
theorem dX3_leftAtWorst_58 : decode cX3_leftAtWorst 58 = .ok (.aload_n 0, 1) := by decide +kernel
theorem dX3_leftAtWorst_59 : decode cX3_leftAtWorst 59 = .ok (.getfield 19, 3) := by decide +kernel
theorem dX3_leftAtWorst_62 : decode cX3_leftAtWorst 62 = .ok (.invokevirtual 70, 3) := by decide +kernel
theorem dX3_leftAtWorst_65 : decode cX3_leftAtWorst 65 = .ok (.bipush 6, 2) := by decide +kernel
theorem dX3_leftAtWorst_67 : decode cX3_leftAtWorst 67 = .ok (.iload_n 3, 1) := by decide +kernel
theorem dX3_leftAtWorst_68 : decode cX3_leftAtWorst 68 = .ok (.invokevirtual 128, 3) := by decide +kernel
theorem dX3_leftAtWorst_71 : decode cX3_leftAtWorst 71 = .ok (.ifCond .eq 7, 3) := by decide +kernel
theorem dX3_leftAtWorst_74 : decode cX3_leftAtWorst 74 = .ok (.iconst 1, 1) := by decide +kernel
theorem dX3_leftAtWorst_75 : decode cX3_leftAtWorst 75 = .ok (.goto 4, 3) := by decide +kernel
theorem dX3_leftAtWorst_78 : decode cX3_leftAtWorst 78 = .ok (.iconst 0, 1) := by decide +kernel
theorem dX3_leftAtWorst_79 : decode cX3_leftAtWorst 79 = .ok (.iadd, 1) := by decide +kernel
theorem dX3_leftAtWorst_80 : decode cX3_leftAtWorst 80 = .ok (.istore 4, 2) := by decide +kernel
theorem dX3_leftAtWorst_82 : decode cX3_leftAtWorst 82 = .ok (.iinc 5 1, 3) := by decide +kernel
theorem dX3_leftAtWorst_85 : decode cX3_leftAtWorst 85 = .ok (.goto (-79), 3) := by decide +kernel
theorem dX3_leftAtWorst_88 : decode cX3_leftAtWorst 88 = .ok (.iload 4, 2) := by decide +kernel
theorem dX3_leftAtWorst_90 : decode cX3_leftAtWorst 90 = .ok (.iload_n 2, 1) := by decide +kernel
theorem dX3_leftAtWorst_91 : decode cX3_leftAtWorst 91 = .ok (.invokestatic 187, 3) := by decide +kernel
theorem dX3_leftAtWorst_94 : decode cX3_leftAtWorst 94 = .ok (.iload 4, 2) := by decide +kernel
theorem dX3_leftAtWorst_96 : decode cX3_leftAtWorst 96 = .ok (.isub, 1) := by decide +kernel
theorem dX3_leftAtWorst_97 : decode cX3_leftAtWorst 97 = .ok (.invokestatic 236, 3) := by decide +kernel
theorem dX3_leftAtWorst_100 : decode cX3_leftAtWorst 100 = .ok (.ireturn, 1) := by decide +kernel
theorem dX3_letCreep_0 : decode cX3_letCreep 0 = .ok (.aload_n 0, 1) := by decide +kernel
theorem dX3_letCreep_1 : decode cX3_letCreep 1 = .ok (.getfield 26, 3) := by decide +kernel
theorem dX3_letCreep_4 : decode cX3_letCreep 4 = .ok (.getfield 77, 3) := by decide +kernel
theorem dX3_letCreep_7 : decode cX3_letCreep 7 = .ok (.aload_n 0, 1) := by decide +kernel
theorem dX3_letCreep_8 : decode cX3_letCreep 8 = .ok (.getfield 33, 3) := by decide +kernel
theorem dX3_letCreep_11 : decode cX3_letCreep 11 = .ok (.invokestatic 133, 3) := by decide +kernel
theorem dX3_letCreep_14 : decode cX3_letCreep 14 = .ok (.iload_n 2, 1) := by decide +kernel
theorem dX3_letCreep_15 : decode cX3_letCreep 15 = .ok (.istore_n 3, 1) := by decide +kernel
theorem dX3_letCreep_16 : decode cX3_letCreep 16 = .ok (.iconst 0, 1) := by decide +kernel
theorem dX3_letCreep_17 : decode cX3_letCreep 17 = .ok (.istore 4, 2) := by decide +kernel
theorem dX3_letCreep_19 : decode cX3_letCreep 19 = .ok (.iload 4, 2) := by decide +kernel
theorem dX3_letCreep_21 : decode cX3_letCreep 21 = .ok (.iload_n 1, 1) := by decide +kernel
theorem dX3_letCreep_22 : decode cX3_letCreep 22 = .ok (.if_icmp .ge 62, 3) := by decide +kernel
theorem dX3_letCreep_25 : decode cX3_letCreep 25 = .ok (.iconst 0, 1) := by decide +kernel
theorem dX3_letCreep_26 : decode cX3_letCreep 26 = .ok (.istore 5, 2) := by decide +kernel
theorem dX3_letCreep_28 : decode cX3_letCreep 28 = .ok (.iload 5, 2) := by decide +kernel
theorem dX3_letCreep_30 : decode cX3_letCreep 30 = .ok (.iconst 5, 1) := by decide +kernel
theorem dX3_letCreep_31 : decode cX3_letCreep 31 = .ok (.if_icmp .ge 47, 3) := by decide +kernel
theorem dX3_letCreep_34 : decode cX3_letCreep 34 = .ok (.iload_n 3, 1) := by decide +kernel
theorem dX3_letCreep_35 : decode cX3_letCreep 35 = .ok (.invokestatic 239, 3) := by decide +kernel
theorem dX3_letCreep_38 : decode cX3_letCreep 38 = .ok (.istore_n 3, 1) := by decide +kernel
theorem dX3_letCreep_39 : decode cX3_letCreep 39 = .ok (.iload_n 3, 1) := by decide +kernel
theorem dX3_letCreep_40 : decode cX3_letCreep 40 = .ok (.bipush 16, 2) := by decide +kernel
theorem dX3_letCreep_42 : decode cX3_letCreep 42 = .ok (.ishr, 1) := by decide +kernel
theorem dX3_letCreep_43 : decode cX3_letCreep 43 = .ok (.iconst 3, 1) := by decide +kernel
theorem dX3_letCreep_44 : decode cX3_letCreep 44 = .ok (.irem, 1) := by decide +kernel
theorem dX3_letCreep_45 : decode cX3_letCreep 45 = .ok (.istore 6, 2) := by decide +kernel
theorem dX3_letCreep_47 : decode cX3_letCreep 47 = .ok (.aload_n 0, 1) := by decide +kernel
theorem dX3_letCreep_48 : decode cX3_letCreep 48 = .ok (.getfield 33, 3) := by decide +kernel
theorem dX3_letCreep_51 : decode cX3_letCreep 51 = .ok (.iload 5, 2) := by decide +kernel
theorem dX3_letCreep_53 : decode cX3_letCreep 53 = .ok (.iconst 0, 1) := by decide +kernel
theorem dX3_letCreep_54 : decode cX3_letCreep 54 = .ok (.aload_n 0, 1) := by decide +kernel
theorem dX3_letCreep_55 : decode cX3_letCreep 55 = .ok (.getfield 33, 3) := by decide +kernel
theorem dX3_letCreep_58 : decode cX3_letCreep 58 = .ok (.iload 5, 2) := by decide +kernel
theorem dX3_letCreep_60 : decode cX3_letCreep 60 = .ok (.invokestatic 87, 3) := by decide +kernel
theorem dX3_letCreep_63 : decode cX3_letCreep 63 = .ok (.iload 6, 2) := by decide +kernel
theorem dX3_letCreep_65 : decode cX3_letCreep 65 = .ok (.isub, 1) := by decide +kernel
theorem dX3_letCreep_66 : decode cX3_letCreep 66 = .ok (.invokestatic 236, 3) := by decide +kernel
theorem dX3_letCreep_69 : decode cX3_letCreep 69 = .ok (.invokestatic 66, 3) := by decide +kernel
theorem dX3_letCreep_72 : decode cX3_letCreep 72 = .ok (.iinc 5 1, 3) := by decide +kernel
theorem dX3_letCreep_75 : decode cX3_letCreep 75 = .ok (.goto (-47), 3) := by decide +kernel
theorem dX3_letCreep_78 : decode cX3_letCreep 78 = .ok (.iinc 4 1, 3) := by decide +kernel
theorem dX3_letCreep_81 : decode cX3_letCreep 81 = .ok (.goto (-62), 3) := by decide +kernel
theorem dX3_letCreep_84 : decode cX3_letCreep 84 = .ok (.iload_n 3, 1) := by decide +kernel
theorem dX3_letCreep_85 : decode cX3_letCreep 85 = .ok (.ireturn, 1) := by decide +kernel
theorem dX3_nextSeed_0 : decode cX3_nextSeed 0 = .ok (.ldc 242, 2) := by decide +kernel
theorem dX3_nextSeed_2 : decode cX3_nextSeed 2 = .ok (.iload_n 0, 1) := by decide +kernel
theorem dX3_nextSeed_3 : decode cX3_nextSeed 3 = .ok (.imul, 1) := by decide +kernel
theorem dX3_nextSeed_4 : decode cX3_nextSeed 4 = .ok (.sipush 12345, 3) := by decide +kernel
theorem dX3_nextSeed_7 : decode cX3_nextSeed 7 = .ok (.iadd, 1) := by decide +kernel
theorem dX3_nextSeed_8 : decode cX3_nextSeed 8 = .ok (.ldc 243, 2) := by decide +kernel
theorem dX3_nextSeed_10 : decode cX3_nextSeed 10 = .ok (.iand, 1) := by decide +kernel
theorem dX3_nextSeed_11 : decode cX3_nextSeed 11 = .ok (.ireturn, 1) := by decide +kernel
theorem dX3_kindOf_0 : decode cX3_kindOf 0 = .ok (.iload_n 0, 1) := by decide +kernel
theorem dX3_kindOf_1 : decode cX3_kindOf 1 = .ok (.tableswitch 85 98 112 #[81, 85, 79, 85, 85, 85, 83, 85, 85, 85, 85, 75, 85, 85, 77], 75) := by decide +kernel
theorem dX3_kindOf_76 : decode cX3_kindOf 76 = .ok (.iconst 0, 1) := by decide +kernel
theorem dX3_kindOf_77 : decode cX3_kindOf 77 = .ok (.ireturn, 1) := by decide +kernel
theorem dX3_kindOf_78 : decode cX3_kindOf 78 = .ok (.iconst 1, 1) := by decide +kernel
theorem dX3_kindOf_79 : decode cX3_kindOf 79 = .ok (.ireturn, 1) := by decide +kernel
theorem dX3_kindOf_80 : decode cX3_kindOf 80 = .ok (.iconst 2, 1) := by decide +kernel
theorem dX3_kindOf_81 : decode cX3_kindOf 81 = .ok (.ireturn, 1) := by decide +kernel
theorem dX3_kindOf_82 : decode cX3_kindOf 82 = .ok (.iconst 3, 1) := by decide +kernel
theorem dX3_kindOf_83 : decode cX3_kindOf 83 = .ok (.ireturn, 1) := by decide +kernel
theorem dX3_kindOf_84 : decode cX3_kindOf 84 = .ok (.iconst 4, 1) := by decide +kernel
theorem dX3_kindOf_85 : decode cX3_kindOf 85 = .ok (.ireturn, 1) := by decide +kernel
theorem dX3_kindOf_86 : decode cX3_kindOf 86 = .ok (.iconst (-1), 1) := by decide +kernel
theorem dX3_kindOf_87 : decode cX3_kindOf 87 = .ok (.ireturn, 1) := by decide +kernel
theorem dX3_isOf_0 : decode cX3_isOf 0 = .ok (.iload_n 1, 1) := by decide +kernel
theorem dX3_isOf_1 : decode cX3_isOf 1 = .ok (.ifCond .eq 18, 3) := by decide +kernel
theorem dX3_isOf_4 : decode cX3_isOf 4 = .ok (.iload_n 0, 1) := by decide +kernel
theorem dX3_isOf_5 : decode cX3_isOf 5 = .ok (.iload_n 1, 1) := by decide +kernel
theorem dX3_isOf_6 : decode cX3_isOf 6 = .ok (.if_icmp .eq 13, 3) := by decide +kernel
theorem dX3_isOf_9 : decode cX3_isOf 9 = .ok (.iload_n 1, 1) := by decide +kernel
theorem dX3_isOf_10 : decode cX3_isOf 10 = .ok (.iconst 2, 1) := by decide +kernel
theorem dX3_isOf_11 : decode cX3_isOf 11 = .ok (.if_icmp .ne 12, 3) := by decide +kernel
theorem dX3_isOf_14 : decode cX3_isOf 14 = .ok (.iload_n 0, 1) := by decide +kernel
theorem dX3_isOf_15 : decode cX3_isOf 15 = .ok (.iconst 4, 1) := by decide +kernel
theorem dX3_isOf_16 : decode cX3_isOf 16 = .ok (.if_icmp .ne 7, 3) := by decide +kernel
theorem dX3_isOf_19 : decode cX3_isOf 19 = .ok (.iconst 1, 1) := by decide +kernel
theorem dX3_isOf_20 : decode cX3_isOf 20 = .ok (.goto 4, 3) := by decide +kernel
theorem dX3_isOf_23 : decode cX3_isOf 23 = .ok (.iconst 0, 1) := by decide +kernel
theorem dX3_isOf_24 : decode cX3_isOf 24 = .ok (.ireturn, 1) := by decide +kernel
theorem dX3_at_0 : decode cX3_at 0 = .ok (.aload_n 0, 1) := by decide +kernel
theorem dX3_at_1 : decode cX3_at 1 = .ok (.ifnull 19, 3) := by decide +kernel
theorem dX3_at_4 : decode cX3_at 4 = .ok (.iload_n 1, 1) := by decide +kernel
theorem dX3_at_5 : decode cX3_at 5 = .ok (.ifCond .lt 15, 3) := by decide +kernel
theorem dX3_at_8 : decode cX3_at 8 = .ok (.iload_n 1, 1) := by decide +kernel
theorem dX3_at_9 : decode cX3_at 9 = .ok (.aload_n 0, 1) := by decide +kernel
theorem dX3_at_10 : decode cX3_at 10 = .ok (.arraylength, 1) := by decide +kernel
theorem dX3_at_11 : decode cX3_at 11 = .ok (.if_icmp .ge 9, 3) := by decide +kernel
theorem dX3_at_14 : decode cX3_at 14 = .ok (.aload_n 0, 1) := by decide +kernel
theorem dX3_at_15 : decode cX3_at 15 = .ok (.iload_n 1, 1) := by decide +kernel
theorem dX3_at_16 : decode cX3_at 16 = .ok (.iaload, 1) := by decide +kernel
theorem dX3_at_17 : decode cX3_at 17 = .ok (.goto 4, 3) := by decide +kernel
theorem dX3_at_20 : decode cX3_at 20 = .ok (.iconst 0, 1) := by decide +kernel
theorem dX3_at_21 : decode cX3_at 21 = .ok (.ireturn, 1) := by decide +kernel
theorem dX3_put_0 : decode cX3_put 0 = .ok (.aload_n 0, 1) := by decide +kernel
theorem dX3_put_1 : decode cX3_put 1 = .ok (.ifnull 17, 3) := by decide +kernel
theorem dX3_put_4 : decode cX3_put 4 = .ok (.iload_n 1, 1) := by decide +kernel
theorem dX3_put_5 : decode cX3_put 5 = .ok (.ifCond .lt 13, 3) := by decide +kernel
theorem dX3_put_8 : decode cX3_put 8 = .ok (.iload_n 1, 1) := by decide +kernel
theorem dX3_put_9 : decode cX3_put 9 = .ok (.aload_n 0, 1) := by decide +kernel
theorem dX3_put_10 : decode cX3_put 10 = .ok (.arraylength, 1) := by decide +kernel
theorem dX3_put_11 : decode cX3_put 11 = .ok (.if_icmp .ge 7, 3) := by decide +kernel
theorem dX3_put_14 : decode cX3_put 14 = .ok (.aload_n 0, 1) := by decide +kernel
theorem dX3_put_15 : decode cX3_put 15 = .ok (.iload_n 1, 1) := by decide +kernel
theorem dX3_put_16 : decode cX3_put 16 = .ok (.iload_n 2, 1) := by decide +kernel
theorem dX3_put_17 : decode cX3_put 17 = .ok (.iastore, 1) := by decide +kernel
theorem dX3_put_18 : decode cX3_put 18 = .ok (.return_, 1) := by decide +kernel
theorem dX3_copy_0 : decode cX3_copy 0 = .ok (.iconst 0, 1) := by decide +kernel
theorem dX3_copy_1 : decode cX3_copy 1 = .ok (.istore_n 2, 1) := by decide +kernel
theorem dX3_copy_2 : decode cX3_copy 2 = .ok (.aload_n 1, 1) := by decide +kernel
theorem dX3_copy_3 : decode cX3_copy 3 = .ok (.ifnull 25, 3) := by decide +kernel
theorem dX3_copy_6 : decode cX3_copy 6 = .ok (.iload_n 2, 1) := by decide +kernel
theorem dX3_copy_7 : decode cX3_copy 7 = .ok (.aload_n 1, 1) := by decide +kernel
theorem dX3_copy_8 : decode cX3_copy 8 = .ok (.arraylength, 1) := by decide +kernel
theorem dX3_copy_9 : decode cX3_copy 9 = .ok (.if_icmp .ge 19, 3) := by decide +kernel
theorem dX3_copy_12 : decode cX3_copy 12 = .ok (.aload_n 1, 1) := by decide +kernel
theorem dX3_copy_13 : decode cX3_copy 13 = .ok (.iload_n 2, 1) := by decide +kernel
theorem dX3_copy_14 : decode cX3_copy 14 = .ok (.aload_n 0, 1) := by decide +kernel
theorem dX3_copy_15 : decode cX3_copy 15 = .ok (.iload_n 2, 1) := by decide +kernel
theorem dX3_copy_16 : decode cX3_copy 16 = .ok (.invokestatic 87, 3) := by decide +kernel
theorem dX3_copy_19 : decode cX3_copy 19 = .ok (.invokestatic 66, 3) := by decide +kernel
theorem dX3_copy_22 : decode cX3_copy 22 = .ok (.iinc 2 1, 3) := by decide +kernel
theorem dX3_copy_25 : decode cX3_copy 25 = .ok (.goto (-23), 3) := by decide +kernel
theorem dX3_copy_28 : decode cX3_copy 28 = .ok (.return_, 1) := by decide +kernel
theorem dX3_sum_0 : decode cX3_sum 0 = .ok (.iconst 0, 1) := by decide +kernel
theorem dX3_sum_1 : decode cX3_sum 1 = .ok (.istore_n 1, 1) := by decide +kernel
theorem dX3_sum_2 : decode cX3_sum 2 = .ok (.iconst 0, 1) := by decide +kernel
theorem dX3_sum_3 : decode cX3_sum 3 = .ok (.istore_n 2, 1) := by decide +kernel
theorem dX3_sum_4 : decode cX3_sum 4 = .ok (.aload_n 0, 1) := by decide +kernel
theorem dX3_sum_5 : decode cX3_sum 5 = .ok (.ifnull 21, 3) := by decide +kernel
theorem dX3_sum_8 : decode cX3_sum 8 = .ok (.iload_n 2, 1) := by decide +kernel
theorem dX3_sum_9 : decode cX3_sum 9 = .ok (.aload_n 0, 1) := by decide +kernel
theorem dX3_sum_10 : decode cX3_sum 10 = .ok (.arraylength, 1) := by decide +kernel
theorem dX3_sum_11 : decode cX3_sum 11 = .ok (.if_icmp .ge 15, 3) := by decide +kernel
theorem dX3_sum_14 : decode cX3_sum 14 = .ok (.iload_n 1, 1) := by decide +kernel
theorem dX3_sum_15 : decode cX3_sum 15 = .ok (.aload_n 0, 1) := by decide +kernel
theorem dX3_sum_16 : decode cX3_sum 16 = .ok (.iload_n 2, 1) := by decide +kernel
theorem dX3_sum_17 : decode cX3_sum 17 = .ok (.iaload, 1) := by decide +kernel
theorem dX3_sum_18 : decode cX3_sum 18 = .ok (.iadd, 1) := by decide +kernel
theorem dX3_sum_19 : decode cX3_sum 19 = .ok (.istore_n 1, 1) := by decide +kernel
theorem dX3_sum_20 : decode cX3_sum 20 = .ok (.iinc 2 1, 3) := by decide +kernel
theorem dX3_sum_23 : decode cX3_sum 23 = .ok (.goto (-19), 3) := by decide +kernel
theorem dX3_sum_26 : decode cX3_sum 26 = .ok (.iload_n 1, 1) := by decide +kernel
theorem dX3_sum_27 : decode cX3_sum 27 = .ok (.ireturn, 1) := by decide +kernel
end
section
theorem dX4_init_0 : decode cX4_init 0 = .ok (.aload_n 0, 1) := by decide +kernel
theorem dX4_init_1 : decode cX4_init 1 = .ok (.invokespecial 1, 3) := by decide +kernel
theorem dX4_init_4 : decode cX4_init 4 = .ok (.aload_n 0, 1) := by decide +kernel
theorem dX4_init_5 : decode cX4_init 5 = .ok (.bipush 15, 2) := by decide +kernel
theorem dX4_init_7 : decode cX4_init 7 = .ok (.newarray .int, 2) := by decide +kernel
theorem dX4_init_9 : decode cX4_init 9 = .ok (.putfield 7, 3) := by decide +kernel
theorem dX4_init_12 : decode cX4_init 12 = .ok (.aload_n 0, 1) := by decide +kernel
theorem dX4_init_13 : decode cX4_init 13 = .ok (.bipush 6, 2) := by decide +kernel
theorem dX4_init_15 : decode cX4_init 15 = .ok (.newarray .int, 2) := by decide +kernel
theorem dX4_init_17 : decode cX4_init 17 = .ok (.putfield 13, 3) := by decide +kernel
theorem dX4_init_20 : decode cX4_init 20 = .ok (.aload_n 0, 1) := by decide +kernel
theorem dX4_init_21 : decode cX4_init 21 = .ok (.bipush 7, 2) := by decide +kernel
theorem dX4_init_23 : decode cX4_init 23 = .ok (.newarray .int, 2) := by decide +kernel
theorem dX4_init_25 : decode cX4_init 25 = .ok (.putfield 16, 3) := by decide +kernel
theorem dX4_init_28 : decode cX4_init 28 = .ok (.aload_n 0, 1) := by decide +kernel
theorem dX4_init_29 : decode cX4_init 29 = .ok (.bipush 7, 2) := by decide +kernel
theorem dX4_init_31 : decode cX4_init 31 = .ok (.newarray .int, 2) := by decide +kernel
theorem dX4_init_33 : decode cX4_init 33 = .ok (.putfield 19, 3) := by decide +kernel
theorem dX4_init_36 : decode cX4_init 36 = .ok (.aload_n 0, 1) := by decide +kernel
theorem dX4_init_37 : decode cX4_init 37 = .ok (.bipush 24, 2) := by decide +kernel
theorem dX4_init_39 : decode cX4_init 39 = .ok (.newarray .int, 2) := by decide +kernel
theorem dX4_init_41 : decode cX4_init 41 = .ok (.putfield 22, 3) := by decide +kernel
theorem dX4_init_44 : decode cX4_init 44 = .ok (.aload_n 0, 1) := by decide +kernel
theorem dX4_init_45 : decode cX4_init 45 = .ok (.bipush 7, 2) := by decide +kernel
theorem dX4_init_47 : decode cX4_init 47 = .ok (.newarray .int, 2) := by decide +kernel
theorem dX4_init_49 : decode cX4_init 49 = .ok (.putfield 25, 3) := by decide +kernel
theorem dX4_init_52 : decode cX4_init 52 = .ok (.aload_n 0, 1) := by decide +kernel
theorem dX4_init_53 : decode cX4_init 53 = .ok (.bipush 7, 2) := by decide +kernel
theorem dX4_init_55 : decode cX4_init 55 = .ok (.newarray .int, 2) := by decide +kernel
theorem dX4_init_57 : decode cX4_init 57 = .ok (.putfield 28, 3) := by decide +kernel
theorem dX4_init_60 : decode cX4_init 60 = .ok (.aload_n 0, 1) := by decide +kernel
theorem dX4_init_61 : decode cX4_init 61 = .ok (.bipush 7, 2) := by decide +kernel
theorem dX4_init_63 : decode cX4_init 63 = .ok (.newarray .int, 2) := by decide +kernel
theorem dX4_init_65 : decode cX4_init 65 = .ok (.putfield 31, 3) := by decide +kernel
theorem dX4_init_68 : decode cX4_init 68 = .ok (.aload_n 0, 1) := by decide +kernel
theorem dX4_init_69 : decode cX4_init 69 = .ok (.bipush 24, 2) := by decide +kernel
theorem dX4_init_71 : decode cX4_init 71 = .ok (.newarray .int, 2) := by decide +kernel
theorem dX4_init_73 : decode cX4_init 73 = .ok (.putfield 34, 3) := by decide +kernel
theorem dX4_init_76 : decode cX4_init 76 = .ok (.aload_n 0, 1) := by decide +kernel
theorem dX4_init_77 : decode cX4_init 77 = .ok (.iconst (-1), 1) := by decide +kernel
theorem dX4_init_78 : decode cX4_init 78 = .ok (.putfield 37, 3) := by decide +kernel
theorem dX4_init_81 : decode cX4_init 81 = .ok (.return_, 1) := by decide +kernel
theorem dX4_in_0 : decode cX4_in 0 = .ok (.lload_n 0, 1) := by decide +kernel
theorem dX4_in_1 : decode cX4_in 1 = .ok (.lload_n 2, 1) := by decide +kernel
theorem dX4_in_2 : decode cX4_in 2 = .ok (.lcmp, 1) := by decide +kernel
theorem dX4_in_3 : decode cX4_in 3 = .ok (.ifCond .lt 14, 3) := by decide +kernel
theorem dX4_in_6 : decode cX4_in 6 = .ok (.lload_n 0, 1) := by decide +kernel
theorem dX4_in_7 : decode cX4_in 7 = .ok (.lload 4, 2) := by decide +kernel
theorem dX4_in_9 : decode cX4_in 9 = .ok (.lcmp, 1) := by decide +kernel
theorem dX4_in_10 : decode cX4_in 10 = .ok (.ifCond .gt 7, 3) := by decide +kernel
theorem dX4_in_13 : decode cX4_in 13 = .ok (.iconst 1, 1) := by decide +kernel
theorem dX4_in_14 : decode cX4_in 14 = .ok (.goto 4, 3) := by decide +kernel
theorem dX4_in_17 : decode cX4_in 17 = .ok (.iconst 0, 1) := by decide +kernel
theorem dX4_in_18 : decode cX4_in 18 = .ok (.ireturn, 1) := by decide +kernel
theorem dX4_copy_0 : decode cX4_copy 0 = .ok (.iconst 0, 1) := by decide +kernel
theorem dX4_copy_1 : decode cX4_copy 1 = .ok (.istore_n 2, 1) := by decide +kernel
theorem dX4_copy_2 : decode cX4_copy 2 = .ok (.iload_n 2, 1) := by decide +kernel
theorem dX4_copy_3 : decode cX4_copy 3 = .ok (.aload_n 0, 1) := by decide +kernel
theorem dX4_copy_4 : decode cX4_copy 4 = .ok (.arraylength, 1) := by decide +kernel
theorem dX4_copy_5 : decode cX4_copy 5 = .ok (.if_icmp .ge 15, 3) := by decide +kernel
theorem dX4_copy_8 : decode cX4_copy 8 = .ok (.aload_n 1, 1) := by decide +kernel
theorem dX4_copy_9 : decode cX4_copy 9 = .ok (.iload_n 2, 1) := by decide +kernel
theorem dX4_copy_10 : decode cX4_copy 10 = .ok (.aload_n 0, 1) := by decide +kernel
theorem dX4_copy_11 : decode cX4_copy 11 = .ok (.iload_n 2, 1) := by decide +kernel
theorem dX4_copy_12 : decode cX4_copy 12 = .ok (.iaload, 1) := by decide +kernel
theorem dX4_copy_13 : decode cX4_copy 13 = .ok (.iastore, 1) := by decide +kernel
theorem dX4_copy_14 : decode cX4_copy 14 = .ok (.iinc 2 1, 3) := by decide +kernel
theorem dX4_copy_17 : decode cX4_copy 17 = .ok (.goto (-15), 3) := by decide +kernel
theorem dX4_copy_20 : decode cX4_copy 20 = .ok (.return_, 1) := by decide +kernel
theorem dX4_ones_0 : decode cX4_ones 0 = .ok (.iconst 0, 1) := by decide +kernel
theorem dX4_ones_1 : decode cX4_ones 1 = .ok (.istore_n 1, 1) := by decide +kernel
theorem dX4_ones_2 : decode cX4_ones 2 = .ok (.iconst 0, 1) := by decide +kernel
theorem dX4_ones_3 : decode cX4_ones 3 = .ok (.istore_n 2, 1) := by decide +kernel
theorem dX4_ones_4 : decode cX4_ones 4 = .ok (.iload_n 2, 1) := by decide +kernel
theorem dX4_ones_5 : decode cX4_ones 5 = .ok (.bipush 6, 2) := by decide +kernel
theorem dX4_ones_7 : decode cX4_ones 7 = .ok (.if_icmp .ge 17, 3) := by decide +kernel
theorem dX4_ones_10 : decode cX4_ones 10 = .ok (.iload_n 1, 1) := by decide +kernel
theorem dX4_ones_11 : decode cX4_ones 11 = .ok (.iload_n 0, 1) := by decide +kernel
theorem dX4_ones_12 : decode cX4_ones 12 = .ok (.iload_n 2, 1) := by decide +kernel
theorem dX4_ones_13 : decode cX4_ones 13 = .ok (.ishr, 1) := by decide +kernel
theorem dX4_ones_14 : decode cX4_ones 14 = .ok (.iconst 1, 1) := by decide +kernel
theorem dX4_ones_15 : decode cX4_ones 15 = .ok (.iand, 1) := by decide +kernel
theorem dX4_ones_16 : decode cX4_ones 16 = .ok (.iadd, 1) := by decide +kernel
theorem dX4_ones_17 : decode cX4_ones 17 = .ok (.istore_n 1, 1) := by decide +kernel
theorem dX4_ones_18 : decode cX4_ones 18 = .ok (.iinc 2 1, 3) := by decide +kernel
theorem dX4_ones_21 : decode cX4_ones 21 = .ok (.goto (-17), 3) := by decide +kernel
theorem dX4_ones_24 : decode cX4_ones 24 = .ok (.iload_n 1, 1) := by decide +kernel
theorem dX4_ones_25 : decode cX4_ones 25 = .ok (.ireturn, 1) := by decide +kernel
theorem dX4_letter_0 : decode cX4_letter 0 = .ok (.iload_n 1, 1) := by decide +kernel
theorem dX4_letter_1 : decode cX4_letter 1 = .ok (.i2l, 1) := by decide +kernel
theorem dX4_letter_2 : decode cX4_letter 2 = .ok (.lconst 1, 1) := by decide +kernel
theorem dX4_letter_3 : decode cX4_letter 3 = .ok (.ldc2_w 41, 3) := by decide +kernel
theorem dX4_letter_6 : decode cX4_letter 6 = .ok (.invokestatic 43, 3) := by decide +kernel
theorem dX4_letter_9 : decode cX4_letter 9 = .ok (.ifCond .ne 6, 3) := by decide +kernel
theorem dX4_letter_12 : decode cX4_letter 12 = .ok (.bipush (-102), 2) := by decide +kernel
theorem dX4_letter_14 : decode cX4_letter 14 = .ok (.ireturn, 1) := by decide +kernel
theorem dX4_letter_15 : decode cX4_letter 15 = .ok (.aload_n 0, 1) := by decide +kernel
theorem dX4_letter_16 : decode cX4_letter 16 = .ok (.getfield 47, 3) := by decide +kernel
theorem dX4_letter_19 : decode cX4_letter 19 = .ok (.bipush 15, 2) := by decide +kernel
theorem dX4_letter_21 : decode cX4_letter 21 = .ok (.if_icmp .ne 6, 3) := by decide +kernel
theorem dX4_letter_24 : decode cX4_letter 24 = .ok (.bipush (-104), 2) := by decide +kernel
theorem dX4_letter_26 : decode cX4_letter 26 = .ok (.ireturn, 1) := by decide +kernel
theorem dX4_letter_27 : decode cX4_letter 27 = .ok (.aload_n 0, 1) := by decide +kernel
theorem dX4_letter_28 : decode cX4_letter 28 = .ok (.getfield 7, 3) := by decide +kernel
theorem dX4_letter_31 : decode cX4_letter 31 = .ok (.aload_n 0, 1) := by decide +kernel
theorem dX4_letter_32 : decode cX4_letter 32 = .ok (.getfield 47, 3) := by decide +kernel
theorem dX4_letter_35 : decode cX4_letter 35 = .ok (.iload_n 1, 1) := by decide +kernel
theorem dX4_letter_36 : decode cX4_letter 36 = .ok (.iastore, 1) := by decide +kernel
theorem dX4_letter_37 : decode cX4_letter 37 = .ok (.aload_n 0, 1) := by decide +kernel
theorem dX4_letter_38 : decode cX4_letter 38 = .ok (.dup, 1) := by decide +kernel
theorem dX4_letter_39 : decode cX4_letter 39 = .ok (.getfield 47, 3) := by decide +kernel
theorem dX4_letter_42 : decode cX4_letter 42 = .ok (.iconst 1, 1) := by decide +kernel
theorem dX4_letter_43 : decode cX4_letter 43 = .ok (.iadd, 1) := by decide +kernel
theorem dX4_letter_44 : decode cX4_letter 44 = .ok (.putfield 47, 3) := by decide +kernel
theorem dX4_letter_47 : decode cX4_letter 47 = .ok (.aload_n 0, 1) := by decide +kernel
theorem dX4_letter_48 : decode cX4_letter 48 = .ok (.getfield 47, 3) := by decide +kernel
theorem dX4_letter_51 : decode cX4_letter 51 = .ok (.ireturn, 1) := by decide +kernel
theorem dX4_blank_0 : decode cX4_blank 0 = .ok (.aload_n 0, 1) := by decide +kernel
theorem dX4_blank_1 : decode cX4_blank 1 = .ok (.getfield 47, 3) := by decide +kernel
theorem dX4_blank_4 : decode cX4_blank 4 = .ok (.istore_n 1, 1) := by decide +kernel
theorem dX4_blank_5 : decode cX4_blank 5 = .ok (.aload_n 0, 1) := by decide +kernel
theorem dX4_blank_6 : decode cX4_blank 6 = .ok (.iconst 0, 1) := by decide +kernel
theorem dX4_blank_7 : decode cX4_blank 7 = .ok (.putfield 47, 3) := by decide +kernel
theorem dX4_blank_10 : decode cX4_blank 10 = .ok (.iload_n 1, 1) := by decide +kernel
theorem dX4_blank_11 : decode cX4_blank 11 = .ok (.ireturn, 1) := by decide +kernel
theorem dX4_kindBy_0 : decode cX4_kindBy 0 = .ok (.iload_n 0, 1) := by decide +kernel
theorem dX4_kindBy_1 : decode cX4_kindBy 1 = .ok (.bipush 109, 2) := by decide +kernel
theorem dX4_kindBy_3 : decode cX4_kindBy 3 = .ok (.if_icmp .ne 7, 3) := by decide +kernel
theorem dX4_kindBy_6 : decode cX4_kindBy 6 = .ok (.iconst 0, 1) := by decide +kernel
theorem dX4_kindBy_7 : decode cX4_kindBy 7 = .ok (.goto 44, 3) := by decide +kernel
theorem dX4_kindBy_10 : decode cX4_kindBy 10 = .ok (.iload_n 0, 1) := by decide +kernel
theorem dX4_kindBy_11 : decode cX4_kindBy 11 = .ok (.bipush 112, 2) := by decide +kernel
theorem dX4_kindBy_13 : decode cX4_kindBy 13 = .ok (.if_icmp .ne 7, 3) := by decide +kernel
theorem dX4_kindBy_16 : decode cX4_kindBy 16 = .ok (.iconst 1, 1) := by decide +kernel
theorem dX4_kindBy_17 : decode cX4_kindBy 17 = .ok (.goto 34, 3) := by decide +kernel
theorem dX4_kindBy_20 : decode cX4_kindBy 20 = .ok (.iload_n 0, 1) := by decide +kernel
theorem dX4_kindBy_21 : decode cX4_kindBy 21 = .ok (.bipush 100, 2) := by decide +kernel
theorem dX4_kindBy_23 : decode cX4_kindBy 23 = .ok (.if_icmp .ne 7, 3) := by decide +kernel
theorem dX4_kindBy_26 : decode cX4_kindBy 26 = .ok (.iconst 2, 1) := by decide +kernel
theorem dX4_kindBy_27 : decode cX4_kindBy 27 = .ok (.goto 24, 3) := by decide +kernel
theorem dX4_kindBy_30 : decode cX4_kindBy 30 = .ok (.iload_n 0, 1) := by decide +kernel
theorem dX4_kindBy_31 : decode cX4_kindBy 31 = .ok (.bipush 98, 2) := by decide +kernel
theorem dX4_kindBy_33 : decode cX4_kindBy 33 = .ok (.if_icmp .ne 7, 3) := by decide +kernel
theorem dX4_kindBy_36 : decode cX4_kindBy 36 = .ok (.iconst 3, 1) := by decide +kernel
theorem dX4_kindBy_37 : decode cX4_kindBy 37 = .ok (.goto 14, 3) := by decide +kernel
theorem dX4_kindBy_40 : decode cX4_kindBy 40 = .ok (.iload_n 0, 1) := by decide +kernel
theorem dX4_kindBy_41 : decode cX4_kindBy 41 = .ok (.bipush 104, 2) := by decide +kernel
theorem dX4_kindBy_43 : decode cX4_kindBy 43 = .ok (.if_icmp .ne 7, 3) := by decide +kernel
theorem dX4_kindBy_46 : decode cX4_kindBy 46 = .ok (.iconst 4, 1) := by decide +kernel
theorem dX4_kindBy_47 : decode cX4_kindBy 47 = .ok (.goto 4, 3) := by decide +kernel
theorem dX4_kindBy_50 : decode cX4_kindBy 50 = .ok (.iconst (-1), 1) := by decide +kernel
theorem dX4_kindBy_51 : decode cX4_kindBy 51 = .ok (.ireturn, 1) := by decide +kernel
theorem dX4_isGood_0 : decode cX4_isGood 0 = .ok (.aload_n 0, 1) := by decide +kernel
theorem dX4_isGood_1 : decode cX4_isGood 1 = .ok (.getfield 7, 3) := by decide +kernel
theorem dX4_isGood_4 : decode cX4_isGood 4 = .ok (.iload_n 1, 1) := by decide +kernel
theorem dX4_isGood_5 : decode cX4_isGood 5 = .ok (.iaload, 1) := by decide +kernel
theorem dX4_isGood_6 : decode cX4_isGood 6 = .ok (.istore_n 2, 1) := by decide +kernel
theorem dX4_isGood_7 : decode cX4_isGood 7 = .ok (.aload_n 0, 1) := by decide +kernel
theorem dX4_isGood_8 : decode cX4_isGood 8 = .ok (.getfield 50, 3) := by decide +kernel
theorem dX4_isGood_11 : decode cX4_isGood 11 = .ok (.iconst (-1), 1) := by decide +kernel
theorem dX4_isGood_12 : decode cX4_isGood 12 = .ok (.if_icmp .eq 34, 3) := by decide +kernel
theorem dX4_isGood_15 : decode cX4_isGood 15 = .ok (.iload_n 1, 1) := by decide +kernel
theorem dX4_isGood_16 : decode cX4_isGood 16 = .ok (.aload_n 0, 1) := by decide +kernel
theorem dX4_isGood_17 : decode cX4_isGood 17 = .ok (.getfield 50, 3) := by decide +kernel
theorem dX4_isGood_20 : decode cX4_isGood 20 = .ok (.bipush 6, 2) := by decide +kernel
theorem dX4_isGood_22 : decode cX4_isGood 22 = .ok (.iadd, 1) := by decide +kernel
theorem dX4_isGood_23 : decode cX4_isGood 23 = .ok (.if_icmp .ge 21, 3) := by decide +kernel
theorem dX4_isGood_26 : decode cX4_isGood 26 = .ok (.iload_n 2, 1) := by decide +kernel
theorem dX4_isGood_27 : decode cX4_isGood 27 = .ok (.i2l, 1) := by decide +kernel
theorem dX4_isGood_28 : decode cX4_isGood 28 = .ok (.ldc2_w 53, 3) := by decide +kernel
theorem dX4_isGood_31 : decode cX4_isGood 31 = .ok (.ldc2_w 55, 3) := by decide +kernel
theorem dX4_isGood_34 : decode cX4_isGood 34 = .ok (.invokestatic 43, 3) := by decide +kernel
theorem dX4_isGood_37 : decode cX4_isGood 37 = .ok (.ifCond .eq 7, 3) := by decide +kernel
theorem dX4_isGood_40 : decode cX4_isGood 40 = .ok (.iconst 1, 1) := by decide +kernel
theorem dX4_isGood_41 : decode cX4_isGood 41 = .ok (.goto 4, 3) := by decide +kernel
theorem dX4_isGood_44 : decode cX4_isGood 44 = .ok (.iconst 0, 1) := by decide +kernel
theorem dX4_isGood_45 : decode cX4_isGood 45 = .ok (.ireturn, 1) := by decide +kernel
theorem dX4_isGood_46 : decode cX4_isGood 46 = .ok (.iload_n 2, 1) := by decide +kernel
theorem dX4_isGood_47 : decode cX4_isGood 47 = .ok (.bipush 59, 2) := by decide +kernel
theorem dX4_isGood_49 : decode cX4_isGood 49 = .ok (.if_icmp .ne 15, 3) := by decide +kernel
theorem dX4_isGood_52 : decode cX4_isGood 52 = .ok (.iload_n 1, 1) := by decide +kernel
theorem dX4_isGood_53 : decode cX4_isGood 53 = .ok (.iconst 1, 1) := by decide +kernel
theorem dX4_isGood_54 : decode cX4_isGood 54 = .ok (.if_icmp .le 10, 3) := by decide +kernel
theorem dX4_isGood_57 : decode cX4_isGood 57 = .ok (.aload_n 0, 1) := by decide +kernel
theorem dX4_isGood_58 : decode cX4_isGood 58 = .ok (.iload_n 1, 1) := by decide +kernel
theorem dX4_isGood_59 : decode cX4_isGood 59 = .ok (.putfield 50, 3) := by decide +kernel
theorem dX4_isGood_62 : decode cX4_isGood 62 = .ok (.iconst 1, 1) := by decide +kernel
theorem dX4_isGood_63 : decode cX4_isGood 63 = .ok (.ireturn, 1) := by decide +kernel
theorem dX4_isGood_64 : decode cX4_isGood 64 = .ok (.iload_n 1, 1) := by decide +kernel
theorem dX4_isGood_65 : decode cX4_isGood 65 = .ok (.bipush 6, 2) := by decide +kernel
theorem dX4_isGood_67 : decode cX4_isGood 67 = .ok (.if_icmp .ge 15, 3) := by decide +kernel
theorem dX4_isGood_70 : decode cX4_isGood 70 = .ok (.iload_n 2, 1) := by decide +kernel
theorem dX4_isGood_71 : decode cX4_isGood 71 = .ok (.invokestatic 57, 3) := by decide +kernel
theorem dX4_isGood_74 : decode cX4_isGood 74 = .ok (.iconst (-1), 1) := by decide +kernel
theorem dX4_isGood_75 : decode cX4_isGood 75 = .ok (.if_icmp .eq 7, 3) := by decide +kernel
theorem dX4_isGood_78 : decode cX4_isGood 78 = .ok (.iconst 1, 1) := by decide +kernel
theorem dX4_isGood_79 : decode cX4_isGood 79 = .ok (.goto 4, 3) := by decide +kernel
theorem dX4_isGood_82 : decode cX4_isGood 82 = .ok (.iconst 0, 1) := by decide +kernel
theorem dX4_isGood_83 : decode cX4_isGood 83 = .ok (.ireturn, 1) := by decide +kernel
theorem dX4_faultOf_0 : decode cX4_faultOf 0 = .ok (.aload_n 0, 1) := by decide +kernel
theorem dX4_faultOf_1 : decode cX4_faultOf 1 = .ok (.iconst (-1), 1) := by decide +kernel
theorem dX4_faultOf_2 : decode cX4_faultOf 2 = .ok (.putfield 50, 3) := by decide +kernel
theorem dX4_faultOf_5 : decode cX4_faultOf 5 = .ok (.iconst 0, 1) := by decide +kernel
theorem dX4_faultOf_6 : decode cX4_faultOf 6 = .ok (.istore_n 1, 1) := by decide +kernel
theorem dX4_faultOf_7 : decode cX4_faultOf 7 = .ok (.iload_n 1, 1) := by decide +kernel
theorem dX4_faultOf_8 : decode cX4_faultOf 8 = .ok (.aload_n 0, 1) := by decide +kernel
theorem dX4_faultOf_9 : decode cX4_faultOf 9 = .ok (.getfield 47, 3) := by decide +kernel
theorem dX4_faultOf_12 : decode cX4_faultOf 12 = .ok (.if_icmp .ge 17, 3) := by decide +kernel
theorem dX4_faultOf_15 : decode cX4_faultOf 15 = .ok (.aload_n 0, 1) := by decide +kernel
theorem dX4_faultOf_16 : decode cX4_faultOf 16 = .ok (.iload_n 1, 1) := by decide +kernel
theorem dX4_faultOf_17 : decode cX4_faultOf 17 = .ok (.invokevirtual 61, 3) := by decide +kernel
theorem dX4_faultOf_20 : decode cX4_faultOf 20 = .ok (.ifCond .eq 9, 3) := by decide +kernel
theorem dX4_faultOf_23 : decode cX4_faultOf 23 = .ok (.iinc 1 1, 3) := by decide +kernel
theorem dX4_faultOf_26 : decode cX4_faultOf 26 = .ok (.goto (-19), 3) := by decide +kernel
theorem dX4_faultOf_29 : decode cX4_faultOf 29 = .ok (.iload_n 1, 1) := by decide +kernel
theorem dX4_faultOf_30 : decode cX4_faultOf 30 = .ok (.ireturn, 1) := by decide +kernel
theorem dX4_fault_0 : decode cX4_fault 0 = .ok (.aload_n 0, 1) := by decide +kernel
theorem dX4_fault_1 : decode cX4_fault 1 = .ok (.invokevirtual 65, 3) := by decide +kernel
theorem dX4_fault_4 : decode cX4_fault 4 = .ok (.ireturn, 1) := by decide +kernel
theorem dX4_camp_0 : decode cX4_camp 0 = .ok (.aload_n 0, 1) := by decide +kernel
theorem dX4_camp_1 : decode cX4_camp 1 = .ok (.invokevirtual 65, 3) := by decide +kernel
theorem dX4_camp_4 : decode cX4_camp 4 = .ok (.aload_n 0, 1) := by decide +kernel
theorem dX4_camp_5 : decode cX4_camp 5 = .ok (.getfield 47, 3) := by decide +kernel
theorem dX4_camp_8 : decode cX4_camp 8 = .ok (.if_icmp .lt 25, 3) := by decide +kernel
theorem dX4_camp_11 : decode cX4_camp 11 = .ok (.aload_n 0, 1) := by decide +kernel
theorem dX4_camp_12 : decode cX4_camp 12 = .ok (.getfield 50, 3) := by decide +kernel
theorem dX4_camp_15 : decode cX4_camp 15 = .ok (.iconst (-1), 1) := by decide +kernel
theorem dX4_camp_16 : decode cX4_camp 16 = .ok (.if_icmp .eq 17, 3) := by decide +kernel
theorem dX4_camp_19 : decode cX4_camp 19 = .ok (.aload_n 0, 1) := by decide +kernel
theorem dX4_camp_20 : decode cX4_camp 20 = .ok (.getfield 47, 3) := by decide +kernel
theorem dX4_camp_23 : decode cX4_camp 23 = .ok (.aload_n 0, 1) := by decide +kernel
theorem dX4_camp_24 : decode cX4_camp 24 = .ok (.getfield 50, 3) := by decide +kernel
theorem dX4_camp_27 : decode cX4_camp 27 = .ok (.bipush 6, 2) := by decide +kernel
theorem dX4_camp_29 : decode cX4_camp 29 = .ok (.iadd, 1) := by decide +kernel
theorem dX4_camp_30 : decode cX4_camp 30 = .ok (.if_icmp .eq 6, 3) := by decide +kernel
theorem dX4_camp_33 : decode cX4_camp 33 = .ok (.bipush (-103), 2) := by decide +kernel
theorem dX4_camp_35 : decode cX4_camp 35 = .ok (.ireturn, 1) := by decide +kernel
theorem dX4_camp_36 : decode cX4_camp 36 = .ok (.aload_n 0, 1) := by decide +kernel
theorem dX4_camp_37 : decode cX4_camp 37 = .ok (.aload_n 0, 1) := by decide +kernel
theorem dX4_camp_38 : decode cX4_camp 38 = .ok (.getfield 50, 3) := by decide +kernel
theorem dX4_camp_41 : decode cX4_camp 41 = .ok (.putfield 69, 3) := by decide +kernel
theorem dX4_camp_44 : decode cX4_camp 44 = .ok (.iconst 0, 1) := by decide +kernel
theorem dX4_camp_45 : decode cX4_camp 45 = .ok (.istore_n 1, 1) := by decide +kernel
theorem dX4_camp_46 : decode cX4_camp 46 = .ok (.iload_n 1, 1) := by decide +kernel
theorem dX4_camp_47 : decode cX4_camp 47 = .ok (.aload_n 0, 1) := by decide +kernel
theorem dX4_camp_48 : decode cX4_camp 48 = .ok (.getfield 69, 3) := by decide +kernel
theorem dX4_camp_51 : decode cX4_camp 51 = .ok (.if_icmp .ge 24, 3) := by decide +kernel
theorem dX4_camp_54 : decode cX4_camp 54 = .ok (.aload_n 0, 1) := by decide +kernel
theorem dX4_camp_55 : decode cX4_camp 55 = .ok (.getfield 13, 3) := by decide +kernel
theorem dX4_camp_58 : decode cX4_camp 58 = .ok (.iload_n 1, 1) := by decide +kernel
theorem dX4_camp_59 : decode cX4_camp 59 = .ok (.aload_n 0, 1) := by decide +kernel
theorem dX4_camp_60 : decode cX4_camp 60 = .ok (.getfield 7, 3) := by decide +kernel
theorem dX4_camp_63 : decode cX4_camp 63 = .ok (.iload_n 1, 1) := by decide +kernel
theorem dX4_camp_64 : decode cX4_camp 64 = .ok (.iaload, 1) := by decide +kernel
theorem dX4_camp_65 : decode cX4_camp 65 = .ok (.invokestatic 57, 3) := by decide +kernel
theorem dX4_camp_68 : decode cX4_camp 68 = .ok (.iastore, 1) := by decide +kernel
theorem dX4_camp_69 : decode cX4_camp 69 = .ok (.iinc 1 1, 3) := by decide +kernel
theorem dX4_camp_72 : decode cX4_camp 72 = .ok (.goto (-26), 3) := by decide +kernel
theorem dX4_camp_75 : decode cX4_camp 75 = .ok (.iconst 1, 1) := by decide +kernel
theorem dX4_camp_76 : decode cX4_camp 76 = .ok (.istore_n 1, 1) := by decide +kernel
theorem dX4_camp_77 : decode cX4_camp 77 = .ok (.iload_n 1, 1) := by decide +kernel
theorem dX4_camp_78 : decode cX4_camp 78 = .ok (.bipush 6, 2) := by decide +kernel
theorem dX4_camp_80 : decode cX4_camp 80 = .ok (.if_icmp .ge 29, 3) := by decide +kernel
theorem dX4_camp_83 : decode cX4_camp 83 = .ok (.aload_n 0, 1) := by decide +kernel
theorem dX4_camp_84 : decode cX4_camp 84 = .ok (.getfield 16, 3) := by decide +kernel
theorem dX4_camp_87 : decode cX4_camp 87 = .ok (.iload_n 1, 1) := by decide +kernel
theorem dX4_camp_88 : decode cX4_camp 88 = .ok (.aload_n 0, 1) := by decide +kernel
theorem dX4_camp_89 : decode cX4_camp 89 = .ok (.getfield 7, 3) := by decide +kernel
theorem dX4_camp_92 : decode cX4_camp 92 = .ok (.aload_n 0, 1) := by decide +kernel
theorem dX4_camp_93 : decode cX4_camp 93 = .ok (.getfield 50, 3) := by decide +kernel
theorem dX4_camp_96 : decode cX4_camp 96 = .ok (.iload_n 1, 1) := by decide +kernel
theorem dX4_camp_97 : decode cX4_camp 97 = .ok (.iadd, 1) := by decide +kernel
theorem dX4_camp_98 : decode cX4_camp 98 = .ok (.iaload, 1) := by decide +kernel
theorem dX4_camp_99 : decode cX4_camp 99 = .ok (.bipush 48, 2) := by decide +kernel
theorem dX4_camp_101 : decode cX4_camp 101 = .ok (.isub, 1) := by decide +kernel
theorem dX4_camp_102 : decode cX4_camp 102 = .ok (.iastore, 1) := by decide +kernel
theorem dX4_camp_103 : decode cX4_camp 103 = .ok (.iinc 1 1, 3) := by decide +kernel
theorem dX4_camp_106 : decode cX4_camp 106 = .ok (.goto (-29), 3) := by decide +kernel
theorem dX4_camp_109 : decode cX4_camp 109 = .ok (.aload_n 0, 1) := by decide +kernel
theorem dX4_camp_110 : decode cX4_camp 110 = .ok (.iconst 1, 1) := by decide +kernel
theorem dX4_camp_111 : decode cX4_camp 111 = .ok (.aload_n 0, 1) := by decide +kernel
theorem dX4_camp_112 : decode cX4_camp 112 = .ok (.getfield 69, 3) := by decide +kernel
theorem dX4_camp_115 : decode cX4_camp 115 = .ok (.ishl, 1) := by decide +kernel
theorem dX4_camp_116 : decode cX4_camp 116 = .ok (.iconst 1, 1) := by decide +kernel
theorem dX4_camp_117 : decode cX4_camp 117 = .ok (.isub, 1) := by decide +kernel
theorem dX4_camp_118 : decode cX4_camp 118 = .ok (.putfield 72, 3) := by decide +kernel
theorem dX4_camp_121 : decode cX4_camp 121 = .ok (.aload_n 0, 1) := by decide +kernel
theorem dX4_camp_122 : decode cX4_camp 122 = .ok (.iconst 0, 1) := by decide +kernel
theorem dX4_camp_123 : decode cX4_camp 123 = .ok (.putfield 75, 3) := by decide +kernel
theorem dX4_camp_126 : decode cX4_camp 126 = .ok (.aload_n 0, 1) := by decide +kernel
theorem dX4_camp_127 : decode cX4_camp 127 = .ok (.iconst 0, 1) := by decide +kernel
theorem dX4_camp_128 : decode cX4_camp 128 = .ok (.putfield 78, 3) := by decide +kernel
theorem dX4_camp_131 : decode cX4_camp 131 = .ok (.aload_n 0, 1) := by decide +kernel
theorem dX4_camp_132 : decode cX4_camp 132 = .ok (.iconst 0, 1) := by decide +kernel
theorem dX4_camp_133 : decode cX4_camp 133 = .ok (.putfield 81, 3) := by decide +kernel
theorem dX4_camp_136 : decode cX4_camp 136 = .ok (.aload_n 0, 1) := by decide +kernel
theorem dX4_camp_137 : decode cX4_camp 137 = .ok (.dup, 1) := by decide +kernel
theorem dX4_camp_138 : decode cX4_camp 138 = .ok (.getfield 84, 3) := by decide +kernel
theorem dX4_camp_141 : decode cX4_camp 141 = .ok (.iconst 1, 1) := by decide +kernel
theorem dX4_camp_142 : decode cX4_camp 142 = .ok (.iadd, 1) := by decide +kernel
theorem dX4_camp_143 : decode cX4_camp 143 = .ok (.putfield 84, 3) := by decide +kernel
theorem dX4_camp_146 : decode cX4_camp 146 = .ok (.aload_n 0, 1) := by decide +kernel
theorem dX4_camp_147 : decode cX4_camp 147 = .ok (.iconst 0, 1) := by decide +kernel
theorem dX4_camp_148 : decode cX4_camp 148 = .ok (.putfield 47, 3) := by decide +kernel
theorem dX4_camp_151 : decode cX4_camp 151 = .ok (.aload_n 0, 1) := by decide +kernel
theorem dX4_camp_152 : decode cX4_camp 152 = .ok (.getfield 69, 3) := by decide +kernel
theorem dX4_camp_155 : decode cX4_camp 155 = .ok (.ireturn, 1) := by decide +kernel
theorem dX4_lacks_0 : decode cX4_lacks 0 = .ok (.aload_n 0, 1) := by decide +kernel
theorem dX4_lacks_1 : decode cX4_lacks 1 = .ok (.getfield 69, 3) := by decide +kernel
theorem dX4_lacks_4 : decode cX4_lacks 4 = .ok (.ifCond .ne 7, 3) := by decide +kernel
theorem dX4_lacks_7 : decode cX4_lacks 7 = .ok (.iconst 1, 1) := by decide +kernel
theorem dX4_lacks_8 : decode cX4_lacks 8 = .ok (.goto 4, 3) := by decide +kernel
theorem dX4_lacks_11 : decode cX4_lacks 11 = .ok (.iconst 0, 1) := by decide +kernel
theorem dX4_lacks_12 : decode cX4_lacks 12 = .ok (.ireturn, 1) := by decide +kernel
theorem dX4_isMember_0 : decode cX4_isMember 0 = .ok (.iload_n 1, 1) := by decide +kernel
theorem dX4_isMember_1 : decode cX4_isMember 1 = .ok (.i2l, 1) := by decide +kernel
theorem dX4_isMember_2 : decode cX4_isMember 2 = .ok (.lconst 0, 1) := by decide +kernel
theorem dX4_isMember_3 : decode cX4_isMember 3 = .ok (.aload_n 0, 1) := by decide +kernel
theorem dX4_isMember_4 : decode cX4_isMember 4 = .ok (.getfield 69, 3) := by decide +kernel
theorem dX4_isMember_7 : decode cX4_isMember 7 = .ok (.iconst 1, 1) := by decide +kernel
theorem dX4_isMember_8 : decode cX4_isMember 8 = .ok (.isub, 1) := by decide +kernel
theorem dX4_isMember_9 : decode cX4_isMember 9 = .ok (.i2l, 1) := by decide +kernel
theorem dX4_isMember_10 : decode cX4_isMember 10 = .ok (.invokestatic 43, 3) := by decide +kernel
theorem dX4_isMember_13 : decode cX4_isMember 13 = .ok (.ireturn, 1) := by decide +kernel
theorem dX4_isCairn_0 : decode cX4_isCairn 0 = .ok (.aload_n 0, 1) := by decide +kernel
theorem dX4_isCairn_1 : decode cX4_isCairn 1 = .ok (.invokevirtual 87, 3) := by decide +kernel
theorem dX4_isCairn_4 : decode cX4_isCairn 4 = .ok (.ifCond .ne 19, 3) := by decide +kernel
theorem dX4_isCairn_7 : decode cX4_isCairn 7 = .ok (.iload_n 1, 1) := by decide +kernel
theorem dX4_isCairn_8 : decode cX4_isCairn 8 = .ok (.i2l, 1) := by decide +kernel
theorem dX4_isCairn_9 : decode cX4_isCairn 9 = .ok (.lconst 1, 1) := by decide +kernel
theorem dX4_isCairn_10 : decode cX4_isCairn 10 = .ok (.ldc2_w 91, 3) := by decide +kernel
theorem dX4_isCairn_13 : decode cX4_isCairn 13 = .ok (.invokestatic 43, 3) := by decide +kernel
theorem dX4_isCairn_16 : decode cX4_isCairn 16 = .ok (.ifCond .eq 7, 3) := by decide +kernel
theorem dX4_isCairn_19 : decode cX4_isCairn 19 = .ok (.iconst 1, 1) := by decide +kernel
theorem dX4_isCairn_20 : decode cX4_isCairn 20 = .ok (.goto 4, 3) := by decide +kernel
theorem dX4_isCairn_23 : decode cX4_isCairn 23 = .ok (.iconst 0, 1) := by decide +kernel
theorem dX4_isCairn_24 : decode cX4_isCairn 24 = .ok (.ireturn, 1) := by decide +kernel
theorem dX4_areMembers_0 : decode cX4_areMembers 0 = .ok (.iload_n 1, 1) := by decide +kernel
theorem dX4_areMembers_1 : decode cX4_areMembers 1 = .ok (.i2l, 1) := by decide +kernel
theorem dX4_areMembers_2 : decode cX4_areMembers 2 = .ok (.lconst 1, 1) := by decide +kernel
theorem dX4_areMembers_3 : decode cX4_areMembers 3 = .ok (.iconst 1, 1) := by decide +kernel
theorem dX4_areMembers_4 : decode cX4_areMembers 4 = .ok (.aload_n 0, 1) := by decide +kernel
theorem dX4_areMembers_5 : decode cX4_areMembers 5 = .ok (.getfield 69, 3) := by decide +kernel
theorem dX4_areMembers_8 : decode cX4_areMembers 8 = .ok (.ishl, 1) := by decide +kernel
theorem dX4_areMembers_9 : decode cX4_areMembers 9 = .ok (.iconst 1, 1) := by decide +kernel
theorem dX4_areMembers_10 : decode cX4_areMembers 10 = .ok (.isub, 1) := by decide +kernel
theorem dX4_areMembers_11 : decode cX4_areMembers 11 = .ok (.i2l, 1) := by decide +kernel
theorem dX4_areMembers_12 : decode cX4_areMembers 12 = .ok (.invokestatic 43, 3) := by decide +kernel
theorem dX4_areMembers_15 : decode cX4_areMembers 15 = .ok (.ireturn, 1) := by decide +kernel
theorem dX4_pullsOf_0 : decode cX4_pullsOf 0 = .ok (.aload_n 0, 1) := by decide +kernel
theorem dX4_pullsOf_1 : decode cX4_pullsOf 1 = .ok (.getfield 13, 3) := by decide +kernel
theorem dX4_pullsOf_4 : decode cX4_pullsOf 4 = .ok (.iload_n 1, 1) := by decide +kernel
theorem dX4_pullsOf_5 : decode cX4_pullsOf 5 = .ok (.iaload, 1) := by decide +kernel
theorem dX4_pullsOf_6 : decode cX4_pullsOf 6 = .ok (.iconst 1, 1) := by decide +kernel
theorem dX4_pullsOf_7 : decode cX4_pullsOf 7 = .ok (.if_icmp .ne 8, 3) := by decide +kernel
theorem dX4_pullsOf_10 : decode cX4_pullsOf 10 = .ok (.bipush 8, 2) := by decide +kernel
theorem dX4_pullsOf_12 : decode cX4_pullsOf 12 = .ok (.goto 42, 3) := by decide +kernel
theorem dX4_pullsOf_15 : decode cX4_pullsOf 15 = .ok (.aload_n 0, 1) := by decide +kernel
theorem dX4_pullsOf_16 : decode cX4_pullsOf 16 = .ok (.getfield 13, 3) := by decide +kernel
theorem dX4_pullsOf_19 : decode cX4_pullsOf 19 = .ok (.iload_n 1, 1) := by decide +kernel
theorem dX4_pullsOf_20 : decode cX4_pullsOf 20 = .ok (.iaload, 1) := by decide +kernel
theorem dX4_pullsOf_21 : decode cX4_pullsOf 21 = .ok (.iconst 2, 1) := by decide +kernel
theorem dX4_pullsOf_22 : decode cX4_pullsOf 22 = .ok (.if_icmp .eq 13, 3) := by decide +kernel
theorem dX4_pullsOf_25 : decode cX4_pullsOf 25 = .ok (.aload_n 0, 1) := by decide +kernel
theorem dX4_pullsOf_26 : decode cX4_pullsOf 26 = .ok (.getfield 13, 3) := by decide +kernel
theorem dX4_pullsOf_29 : decode cX4_pullsOf 29 = .ok (.iload_n 1, 1) := by decide +kernel
theorem dX4_pullsOf_30 : decode cX4_pullsOf 30 = .ok (.iaload, 1) := by decide +kernel
theorem dX4_pullsOf_31 : decode cX4_pullsOf 31 = .ok (.iconst 3, 1) := by decide +kernel
theorem dX4_pullsOf_32 : decode cX4_pullsOf 32 = .ok (.if_icmp .ne 7, 3) := by decide +kernel
theorem dX4_pullsOf_35 : decode cX4_pullsOf 35 = .ok (.iconst 2, 1) := by decide +kernel
theorem dX4_pullsOf_36 : decode cX4_pullsOf 36 = .ok (.goto 18, 3) := by decide +kernel
theorem dX4_pullsOf_39 : decode cX4_pullsOf 39 = .ok (.aload_n 0, 1) := by decide +kernel
theorem dX4_pullsOf_40 : decode cX4_pullsOf 40 = .ok (.getfield 13, 3) := by decide +kernel
theorem dX4_pullsOf_43 : decode cX4_pullsOf 43 = .ok (.iload_n 1, 1) := by decide +kernel
theorem dX4_pullsOf_44 : decode cX4_pullsOf 44 = .ok (.iaload, 1) := by decide +kernel
theorem dX4_pullsOf_45 : decode cX4_pullsOf 45 = .ok (.iconst 4, 1) := by decide +kernel
theorem dX4_pullsOf_46 : decode cX4_pullsOf 46 = .ok (.if_icmp .ne 7, 3) := by decide +kernel
theorem dX4_pullsOf_49 : decode cX4_pullsOf 49 = .ok (.iconst 3, 1) := by decide +kernel
theorem dX4_pullsOf_50 : decode cX4_pullsOf 50 = .ok (.goto 4, 3) := by decide +kernel
theorem dX4_pullsOf_53 : decode cX4_pullsOf 53 = .ok (.iconst 4, 1) := by decide +kernel
theorem dX4_pullsOf_54 : decode cX4_pullsOf 54 = .ok (.ireturn, 1) := by decide +kernel
theorem dX4_eatsOf_0 : decode cX4_eatsOf 0 = .ok (.aload_n 0, 1) := by decide +kernel
theorem dX4_eatsOf_1 : decode cX4_eatsOf 1 = .ok (.getfield 13, 3) := by decide +kernel
theorem dX4_eatsOf_4 : decode cX4_eatsOf 4 = .ok (.iload_n 1, 1) := by decide +kernel
theorem dX4_eatsOf_5 : decode cX4_eatsOf 5 = .ok (.iaload, 1) := by decide +kernel
theorem dX4_eatsOf_6 : decode cX4_eatsOf 6 = .ok (.iconst 1, 1) := by decide +kernel
theorem dX4_eatsOf_7 : decode cX4_eatsOf 7 = .ok (.if_icmp .ne 7, 3) := by decide +kernel
theorem dX4_eatsOf_10 : decode cX4_eatsOf 10 = .ok (.iconst 2, 1) := by decide +kernel
theorem dX4_eatsOf_11 : decode cX4_eatsOf 11 = .ok (.goto 4, 3) := by decide +kernel
theorem dX4_eatsOf_14 : decode cX4_eatsOf 14 = .ok (.iconst 1, 1) := by decide +kernel
theorem dX4_eatsOf_15 : decode cX4_eatsOf 15 = .ok (.ireturn, 1) := by decide +kernel
theorem dX4_feedsOf_0 : decode cX4_feedsOf 0 = .ok (.aload_n 0, 1) := by decide +kernel
theorem dX4_feedsOf_1 : decode cX4_feedsOf 1 = .ok (.getfield 13, 3) := by decide +kernel
theorem dX4_feedsOf_4 : decode cX4_feedsOf 4 = .ok (.iload_n 1, 1) := by decide +kernel
theorem dX4_feedsOf_5 : decode cX4_feedsOf 5 = .ok (.iaload, 1) := by decide +kernel
theorem dX4_feedsOf_6 : decode cX4_feedsOf 6 = .ok (.iconst 1, 1) := by decide +kernel
theorem dX4_feedsOf_7 : decode cX4_feedsOf 7 = .ok (.if_icmp .ne 8, 3) := by decide +kernel
theorem dX4_feedsOf_10 : decode cX4_feedsOf 10 = .ok (.bipush 6, 2) := by decide +kernel
theorem dX4_feedsOf_12 : decode cX4_feedsOf 12 = .ok (.goto 32, 3) := by decide +kernel
theorem dX4_feedsOf_15 : decode cX4_feedsOf 15 = .ok (.aload_n 0, 1) := by decide +kernel
theorem dX4_feedsOf_16 : decode cX4_feedsOf 16 = .ok (.getfield 13, 3) := by decide +kernel
theorem dX4_feedsOf_19 : decode cX4_feedsOf 19 = .ok (.iload_n 1, 1) := by decide +kernel
theorem dX4_feedsOf_20 : decode cX4_feedsOf 20 = .ok (.iaload, 1) := by decide +kernel
theorem dX4_feedsOf_21 : decode cX4_feedsOf 21 = .ok (.iconst 2, 1) := by decide +kernel
theorem dX4_feedsOf_22 : decode cX4_feedsOf 22 = .ok (.if_icmp .ne 7, 3) := by decide +kernel
theorem dX4_feedsOf_25 : decode cX4_feedsOf 25 = .ok (.iconst 2, 1) := by decide +kernel
theorem dX4_feedsOf_26 : decode cX4_feedsOf 26 = .ok (.goto 18, 3) := by decide +kernel
theorem dX4_feedsOf_29 : decode cX4_feedsOf 29 = .ok (.aload_n 0, 1) := by decide +kernel
theorem dX4_feedsOf_30 : decode cX4_feedsOf 30 = .ok (.getfield 13, 3) := by decide +kernel
theorem dX4_feedsOf_33 : decode cX4_feedsOf 33 = .ok (.iload_n 1, 1) := by decide +kernel
theorem dX4_feedsOf_34 : decode cX4_feedsOf 34 = .ok (.iaload, 1) := by decide +kernel
theorem dX4_feedsOf_35 : decode cX4_feedsOf 35 = .ok (.iconst 4, 1) := by decide +kernel
theorem dX4_feedsOf_36 : decode cX4_feedsOf 36 = .ok (.if_icmp .ne 7, 3) := by decide +kernel
theorem dX4_feedsOf_39 : decode cX4_feedsOf 39 = .ok (.iconst 3, 1) := by decide +kernel
theorem dX4_feedsOf_40 : decode cX4_feedsOf 40 = .ok (.goto 4, 3) := by decide +kernel
theorem dX4_feedsOf_43 : decode cX4_feedsOf 43 = .ok (.iconst 0, 1) := by decide +kernel
theorem dX4_feedsOf_44 : decode cX4_feedsOf 44 = .ok (.ireturn, 1) := by decide +kernel
theorem dX4_pullOf_0 : decode cX4_pullOf 0 = .ok (.iconst 0, 1) := by decide +kernel
theorem dX4_pullOf_1 : decode cX4_pullOf 1 = .ok (.istore_n 2, 1) := by decide +kernel
theorem dX4_pullOf_2 : decode cX4_pullOf 2 = .ok (.iconst 0, 1) := by decide +kernel
theorem dX4_pullOf_3 : decode cX4_pullOf 3 = .ok (.istore_n 3, 1) := by decide +kernel
theorem dX4_pullOf_4 : decode cX4_pullOf 4 = .ok (.iload_n 3, 1) := by decide +kernel
theorem dX4_pullOf_5 : decode cX4_pullOf 5 = .ok (.aload_n 0, 1) := by decide +kernel
theorem dX4_pullOf_6 : decode cX4_pullOf 6 = .ok (.getfield 69, 3) := by decide +kernel
theorem dX4_pullOf_9 : decode cX4_pullOf 9 = .ok (.if_icmp .ge 23, 3) := by decide +kernel
theorem dX4_pullOf_12 : decode cX4_pullOf 12 = .ok (.iload_n 2, 1) := by decide +kernel
theorem dX4_pullOf_13 : decode cX4_pullOf 13 = .ok (.iload_n 1, 1) := by decide +kernel
theorem dX4_pullOf_14 : decode cX4_pullOf 14 = .ok (.iload_n 3, 1) := by decide +kernel
theorem dX4_pullOf_15 : decode cX4_pullOf 15 = .ok (.ishr, 1) := by decide +kernel
theorem dX4_pullOf_16 : decode cX4_pullOf 16 = .ok (.iconst 1, 1) := by decide +kernel
theorem dX4_pullOf_17 : decode cX4_pullOf 17 = .ok (.iand, 1) := by decide +kernel
theorem dX4_pullOf_18 : decode cX4_pullOf 18 = .ok (.aload_n 0, 1) := by decide +kernel
theorem dX4_pullOf_19 : decode cX4_pullOf 19 = .ok (.iload_n 3, 1) := by decide +kernel
theorem dX4_pullOf_20 : decode cX4_pullOf 20 = .ok (.invokevirtual 93, 3) := by decide +kernel
theorem dX4_pullOf_23 : decode cX4_pullOf 23 = .ok (.imul, 1) := by decide +kernel
theorem dX4_pullOf_24 : decode cX4_pullOf 24 = .ok (.iadd, 1) := by decide +kernel
theorem dX4_pullOf_25 : decode cX4_pullOf 25 = .ok (.istore_n 2, 1) := by decide +kernel
theorem dX4_pullOf_26 : decode cX4_pullOf 26 = .ok (.iinc 3 1, 3) := by decide +kernel
theorem dX4_pullOf_29 : decode cX4_pullOf 29 = .ok (.goto (-25), 3) := by decide +kernel
theorem dX4_pullOf_32 : decode cX4_pullOf 32 = .ok (.iload_n 2, 1) := by decide +kernel
theorem dX4_pullOf_33 : decode cX4_pullOf 33 = .ok (.ireturn, 1) := by decide +kernel
theorem dX4_eatOf_0 : decode cX4_eatOf 0 = .ok (.iconst 0, 1) := by decide +kernel
theorem dX4_eatOf_1 : decode cX4_eatOf 1 = .ok (.istore_n 2, 1) := by decide +kernel
theorem dX4_eatOf_2 : decode cX4_eatOf 2 = .ok (.iconst 0, 1) := by decide +kernel
theorem dX4_eatOf_3 : decode cX4_eatOf 3 = .ok (.istore_n 3, 1) := by decide +kernel
theorem dX4_eatOf_4 : decode cX4_eatOf 4 = .ok (.iload_n 3, 1) := by decide +kernel
theorem dX4_eatOf_5 : decode cX4_eatOf 5 = .ok (.aload_n 0, 1) := by decide +kernel
theorem dX4_eatOf_6 : decode cX4_eatOf 6 = .ok (.getfield 69, 3) := by decide +kernel
theorem dX4_eatOf_9 : decode cX4_eatOf 9 = .ok (.if_icmp .ge 23, 3) := by decide +kernel
theorem dX4_eatOf_12 : decode cX4_eatOf 12 = .ok (.iload_n 2, 1) := by decide +kernel
theorem dX4_eatOf_13 : decode cX4_eatOf 13 = .ok (.iload_n 1, 1) := by decide +kernel
theorem dX4_eatOf_14 : decode cX4_eatOf 14 = .ok (.iload_n 3, 1) := by decide +kernel
theorem dX4_eatOf_15 : decode cX4_eatOf 15 = .ok (.ishr, 1) := by decide +kernel
theorem dX4_eatOf_16 : decode cX4_eatOf 16 = .ok (.iconst 1, 1) := by decide +kernel
theorem dX4_eatOf_17 : decode cX4_eatOf 17 = .ok (.iand, 1) := by decide +kernel
theorem dX4_eatOf_18 : decode cX4_eatOf 18 = .ok (.aload_n 0, 1) := by decide +kernel
theorem dX4_eatOf_19 : decode cX4_eatOf 19 = .ok (.iload_n 3, 1) := by decide +kernel
theorem dX4_eatOf_20 : decode cX4_eatOf 20 = .ok (.invokevirtual 96, 3) := by decide +kernel
theorem dX4_eatOf_23 : decode cX4_eatOf 23 = .ok (.imul, 1) := by decide +kernel
theorem dX4_eatOf_24 : decode cX4_eatOf 24 = .ok (.iadd, 1) := by decide +kernel
theorem dX4_eatOf_25 : decode cX4_eatOf 25 = .ok (.istore_n 2, 1) := by decide +kernel
theorem dX4_eatOf_26 : decode cX4_eatOf 26 = .ok (.iinc 3 1, 3) := by decide +kernel
theorem dX4_eatOf_29 : decode cX4_eatOf 29 = .ok (.goto (-25), 3) := by decide +kernel
theorem dX4_eatOf_32 : decode cX4_eatOf 32 = .ok (.iload_n 2, 1) := by decide +kernel
theorem dX4_eatOf_33 : decode cX4_eatOf 33 = .ok (.ireturn, 1) := by decide +kernel
theorem dX4_lastOf_0 : decode cX4_lastOf 0 = .ok (.iconst (-1), 1) := by decide +kernel
theorem dX4_lastOf_1 : decode cX4_lastOf 1 = .ok (.istore_n 3, 1) := by decide +kernel
theorem dX4_lastOf_2 : decode cX4_lastOf 2 = .ok (.iconst 0, 1) := by decide +kernel
theorem dX4_lastOf_3 : decode cX4_lastOf 3 = .ok (.istore 4, 2) := by decide +kernel
theorem dX4_lastOf_5 : decode cX4_lastOf 5 = .ok (.iload 4, 2) := by decide +kernel
theorem dX4_lastOf_7 : decode cX4_lastOf 7 = .ok (.aload_n 0, 1) := by decide +kernel
theorem dX4_lastOf_8 : decode cX4_lastOf 8 = .ok (.getfield 69, 3) := by decide +kernel
theorem dX4_lastOf_11 : decode cX4_lastOf 11 = .ok (.if_icmp .ge 70, 3) := by decide +kernel
theorem dX4_lastOf_14 : decode cX4_lastOf 14 = .ok (.iload_n 2, 1) := by decide +kernel
theorem dX4_lastOf_15 : decode cX4_lastOf 15 = .ok (.ifCond .eq 22, 3) := by decide +kernel
theorem dX4_lastOf_18 : decode cX4_lastOf 18 = .ok (.aload_n 0, 1) := by decide +kernel
theorem dX4_lastOf_19 : decode cX4_lastOf 19 = .ok (.getfield 13, 3) := by decide +kernel
theorem dX4_lastOf_22 : decode cX4_lastOf 22 = .ok (.iload 4, 2) := by decide +kernel
theorem dX4_lastOf_24 : decode cX4_lastOf 24 = .ok (.iaload, 1) := by decide +kernel
theorem dX4_lastOf_25 : decode cX4_lastOf 25 = .ok (.iconst 1, 1) := by decide +kernel
theorem dX4_lastOf_26 : decode cX4_lastOf 26 = .ok (.if_icmp .ne 7, 3) := by decide +kernel
theorem dX4_lastOf_29 : decode cX4_lastOf 29 = .ok (.iconst 1, 1) := by decide +kernel
theorem dX4_lastOf_30 : decode cX4_lastOf 30 = .ok (.goto 21, 3) := by decide +kernel
theorem dX4_lastOf_33 : decode cX4_lastOf 33 = .ok (.iconst 0, 1) := by decide +kernel
theorem dX4_lastOf_34 : decode cX4_lastOf 34 = .ok (.goto 17, 3) := by decide +kernel
theorem dX4_lastOf_37 : decode cX4_lastOf 37 = .ok (.aload_n 0, 1) := by decide +kernel
theorem dX4_lastOf_38 : decode cX4_lastOf 38 = .ok (.iload 4, 2) := by decide +kernel
theorem dX4_lastOf_40 : decode cX4_lastOf 40 = .ok (.invokevirtual 99, 3) := by decide +kernel
theorem dX4_lastOf_43 : decode cX4_lastOf 43 = .ok (.ifCond .le 7, 3) := by decide +kernel
theorem dX4_lastOf_46 : decode cX4_lastOf 46 = .ok (.iconst 1, 1) := by decide +kernel
theorem dX4_lastOf_47 : decode cX4_lastOf 47 = .ok (.goto 4, 3) := by decide +kernel
theorem dX4_lastOf_50 : decode cX4_lastOf 50 = .ok (.iconst 0, 1) := by decide +kernel
theorem dX4_lastOf_51 : decode cX4_lastOf 51 = .ok (.istore 5, 2) := by decide +kernel
theorem dX4_lastOf_53 : decode cX4_lastOf 53 = .ok (.iload 5, 2) := by decide +kernel
theorem dX4_lastOf_55 : decode cX4_lastOf 55 = .ok (.ifCond .eq 18, 3) := by decide +kernel
theorem dX4_lastOf_58 : decode cX4_lastOf 58 = .ok (.iload_n 1, 1) := by decide +kernel
theorem dX4_lastOf_59 : decode cX4_lastOf 59 = .ok (.iload 4, 2) := by decide +kernel
theorem dX4_lastOf_61 : decode cX4_lastOf 61 = .ok (.ishr, 1) := by decide +kernel
theorem dX4_lastOf_62 : decode cX4_lastOf 62 = .ok (.iconst 1, 1) := by decide +kernel
theorem dX4_lastOf_63 : decode cX4_lastOf 63 = .ok (.iand, 1) := by decide +kernel
theorem dX4_lastOf_64 : decode cX4_lastOf 64 = .ok (.iconst 1, 1) := by decide +kernel
theorem dX4_lastOf_65 : decode cX4_lastOf 65 = .ok (.if_icmp .ne 8, 3) := by decide +kernel
theorem dX4_lastOf_68 : decode cX4_lastOf 68 = .ok (.iload 4, 2) := by decide +kernel
theorem dX4_lastOf_70 : decode cX4_lastOf 70 = .ok (.goto 4, 3) := by decide +kernel
theorem dX4_lastOf_73 : decode cX4_lastOf 73 = .ok (.iload_n 3, 1) := by decide +kernel
theorem dX4_lastOf_74 : decode cX4_lastOf 74 = .ok (.istore_n 3, 1) := by decide +kernel
theorem dX4_lastOf_75 : decode cX4_lastOf 75 = .ok (.iinc 4 1, 3) := by decide +kernel
theorem dX4_lastOf_78 : decode cX4_lastOf 78 = .ok (.goto (-73), 3) := by decide +kernel
theorem dX4_lastOf_81 : decode cX4_lastOf 81 = .ok (.iload_n 3, 1) := by decide +kernel
theorem dX4_lastOf_82 : decode cX4_lastOf 82 = .ok (.ireturn, 1) := by decide +kernel
theorem dX4_tellMember_0 : decode cX4_tellMember 0 = .ok (.iload_n 2, 1) := by decide +kernel
theorem dX4_tellMember_1 : decode cX4_tellMember 1 = .ok (.tableswitch 69 0 4 #[35, 42, 48, 54, 60], 35) := by decide +kernel
theorem dX4_tellMember_36 : decode cX4_tellMember 36 = .ok (.aload_n 0, 1) := by decide +kernel
theorem dX4_tellMember_37 : decode cX4_tellMember 37 = .ok (.getfield 13, 3) := by decide +kernel
theorem dX4_tellMember_40 : decode cX4_tellMember 40 = .ok (.iload_n 1, 1) := by decide +kernel
theorem dX4_tellMember_41 : decode cX4_tellMember 41 = .ok (.iaload, 1) := by decide +kernel
theorem dX4_tellMember_42 : decode cX4_tellMember 42 = .ok (.ireturn, 1) := by decide +kernel
theorem dX4_tellMember_43 : decode cX4_tellMember 43 = .ok (.aload_n 0, 1) := by decide +kernel
theorem dX4_tellMember_44 : decode cX4_tellMember 44 = .ok (.iload_n 1, 1) := by decide +kernel
theorem dX4_tellMember_45 : decode cX4_tellMember 45 = .ok (.invokevirtual 93, 3) := by decide +kernel
theorem dX4_tellMember_48 : decode cX4_tellMember 48 = .ok (.ireturn, 1) := by decide +kernel
theorem dX4_tellMember_49 : decode cX4_tellMember 49 = .ok (.aload_n 0, 1) := by decide +kernel
theorem dX4_tellMember_50 : decode cX4_tellMember 50 = .ok (.iload_n 1, 1) := by decide +kernel
theorem dX4_tellMember_51 : decode cX4_tellMember 51 = .ok (.invokevirtual 96, 3) := by decide +kernel
theorem dX4_tellMember_54 : decode cX4_tellMember 54 = .ok (.ireturn, 1) := by decide +kernel
theorem dX4_tellMember_55 : decode cX4_tellMember 55 = .ok (.aload_n 0, 1) := by decide +kernel
theorem dX4_tellMember_56 : decode cX4_tellMember 56 = .ok (.iload_n 1, 1) := by decide +kernel
theorem dX4_tellMember_57 : decode cX4_tellMember 57 = .ok (.invokevirtual 99, 3) := by decide +kernel
theorem dX4_tellMember_60 : decode cX4_tellMember 60 = .ok (.ireturn, 1) := by decide +kernel
theorem dX4_tellMember_61 : decode cX4_tellMember 61 = .ok (.aload_n 0, 1) := by decide +kernel
theorem dX4_tellMember_62 : decode cX4_tellMember 62 = .ok (.getfield 72, 3) := by decide +kernel
theorem dX4_tellMember_65 : decode cX4_tellMember 65 = .ok (.iload_n 1, 1) := by decide +kernel
theorem dX4_tellMember_66 : decode cX4_tellMember 66 = .ok (.ishr, 1) := by decide +kernel
theorem dX4_tellMember_67 : decode cX4_tellMember 67 = .ok (.iconst 1, 1) := by decide +kernel
theorem dX4_tellMember_68 : decode cX4_tellMember 68 = .ok (.iand, 1) := by decide +kernel
theorem dX4_tellMember_69 : decode cX4_tellMember 69 = .ok (.ireturn, 1) := by decide +kernel
theorem dX4_tellMember_70 : decode cX4_tellMember 70 = .ok (.bipush (-102), 2) := by decide +kernel
theorem dX4_tellMember_72 : decode cX4_tellMember 72 = .ok (.ireturn, 1) := by decide +kernel
theorem dX4_member_0 : decode cX4_member 0 = .ok (.aload_n 0, 1) := by decide +kernel
theorem dX4_member_1 : decode cX4_member 1 = .ok (.iload_n 1, 1) := by decide +kernel
theorem dX4_member_2 : decode cX4_member 2 = .ok (.invokevirtual 102, 3) := by decide +kernel
theorem dX4_member_5 : decode cX4_member 5 = .ok (.ifCond .eq 12, 3) := by decide +kernel
theorem dX4_member_8 : decode cX4_member 8 = .ok (.aload_n 0, 1) := by decide +kernel
theorem dX4_member_9 : decode cX4_member 9 = .ok (.iload_n 1, 1) := by decide +kernel
theorem dX4_member_10 : decode cX4_member 10 = .ok (.iload_n 2, 1) := by decide +kernel
theorem dX4_member_11 : decode cX4_member 11 = .ok (.invokevirtual 105, 3) := by decide +kernel
theorem dX4_member_14 : decode cX4_member 14 = .ok (.goto 5, 3) := by decide +kernel
theorem dX4_member_17 : decode cX4_member 17 = .ok (.bipush (-101), 2) := by decide +kernel
theorem dX4_member_19 : decode cX4_member 19 = .ok (.ireturn, 1) := by decide +kernel
theorem dX4_as_0 : decode cX4_as 0 = .ok (.aload_n 0, 1) := by decide +kernel
theorem dX4_as_1 : decode cX4_as 1 = .ok (.iload_n 1, 1) := by decide +kernel
theorem dX4_as_2 : decode cX4_as 2 = .ok (.invokevirtual 102, 3) := by decide +kernel
theorem dX4_as_5 : decode cX4_as 5 = .ok (.ifCond .ne 6, 3) := by decide +kernel
theorem dX4_as_8 : decode cX4_as 8 = .ok (.bipush (-101), 2) := by decide +kernel
theorem dX4_as_10 : decode cX4_as 10 = .ok (.ireturn, 1) := by decide +kernel
theorem dX4_as_11 : decode cX4_as 11 = .ok (.iload_n 2, 1) := by decide +kernel
theorem dX4_as_12 : decode cX4_as 12 = .ok (.i2l, 1) := by decide +kernel
theorem dX4_as_13 : decode cX4_as 13 = .ok (.lconst 0, 1) := by decide +kernel
theorem dX4_as_14 : decode cX4_as 14 = .ok (.ldc2_w 109, 3) := by decide +kernel
theorem dX4_as_17 : decode cX4_as 17 = .ok (.invokestatic 43, 3) := by decide +kernel
theorem dX4_as_20 : decode cX4_as 20 = .ok (.ifCond .ne 6, 3) := by decide +kernel
theorem dX4_as_23 : decode cX4_as 23 = .ok (.bipush (-102), 2) := by decide +kernel
theorem dX4_as_25 : decode cX4_as 25 = .ok (.ireturn, 1) := by decide +kernel
theorem dX4_as_26 : decode cX4_as 26 = .ok (.aload_n 0, 1) := by decide +kernel
theorem dX4_as_27 : decode cX4_as 27 = .ok (.getfield 13, 3) := by decide +kernel
theorem dX4_as_30 : decode cX4_as 30 = .ok (.iload_n 1, 1) := by decide +kernel
theorem dX4_as_31 : decode cX4_as 31 = .ok (.iaload, 1) := by decide +kernel
theorem dX4_as_32 : decode cX4_as 32 = .ok (.istore_n 3, 1) := by decide +kernel
theorem dX4_as_33 : decode cX4_as 33 = .ok (.iload_n 2, 1) := by decide +kernel
theorem dX4_as_34 : decode cX4_as 34 = .ok (.ifCond .eq 18, 3) := by decide +kernel
theorem dX4_as_37 : decode cX4_as 37 = .ok (.iload_n 2, 1) := by decide +kernel
theorem dX4_as_38 : decode cX4_as 38 = .ok (.iload_n 3, 1) := by decide +kernel
theorem dX4_as_39 : decode cX4_as 39 = .ok (.if_icmp .eq 13, 3) := by decide +kernel
theorem dX4_as_42 : decode cX4_as 42 = .ok (.iload_n 2, 1) := by decide +kernel
theorem dX4_as_43 : decode cX4_as 43 = .ok (.iconst 2, 1) := by decide +kernel
theorem dX4_as_44 : decode cX4_as 44 = .ok (.if_icmp .ne 12, 3) := by decide +kernel
theorem dX4_as_47 : decode cX4_as 47 = .ok (.iload_n 3, 1) := by decide +kernel
theorem dX4_as_48 : decode cX4_as 48 = .ok (.iconst 4, 1) := by decide +kernel
theorem dX4_as_49 : decode cX4_as 49 = .ok (.if_icmp .ne 7, 3) := by decide +kernel
theorem dX4_as_52 : decode cX4_as 52 = .ok (.iconst 1, 1) := by decide +kernel
theorem dX4_as_53 : decode cX4_as 53 = .ok (.goto 4, 3) := by decide +kernel
theorem dX4_as_56 : decode cX4_as 56 = .ok (.iconst 0, 1) := by decide +kernel
theorem dX4_as_57 : decode cX4_as 57 = .ok (.istore 4, 2) := by decide +kernel
theorem dX4_as_59 : decode cX4_as 59 = .ok (.iload 4, 2) := by decide +kernel
theorem dX4_as_61 : decode cX4_as 61 = .ok (.ifCond .eq 7, 3) := by decide +kernel
theorem dX4_as_64 : decode cX4_as 64 = .ok (.iload_n 1, 1) := by decide +kernel
theorem dX4_as_65 : decode cX4_as 65 = .ok (.goto 4, 3) := by decide +kernel
theorem dX4_as_68 : decode cX4_as 68 = .ok (.iconst (-1), 1) := by decide +kernel
theorem dX4_as_69 : decode cX4_as 69 = .ok (.ireturn, 1) := by decide +kernel
theorem dX4_tellCairn_0 : decode cX4_tellCairn 0 = .ok (.iload_n 2, 1) := by decide +kernel
theorem dX4_tellCairn_1 : decode cX4_tellCairn 1 = .ok (.tableswitch 46 0 2 #[27, 34, 40], 27) := by decide +kernel
theorem dX4_tellCairn_28 : decode cX4_tellCairn 28 = .ok (.aload_n 0, 1) := by decide +kernel
theorem dX4_tellCairn_29 : decode cX4_tellCairn 29 = .ok (.getfield 16, 3) := by decide +kernel
theorem dX4_tellCairn_32 : decode cX4_tellCairn 32 = .ok (.iload_n 1, 1) := by decide +kernel
theorem dX4_tellCairn_33 : decode cX4_tellCairn 33 = .ok (.iaload, 1) := by decide +kernel
theorem dX4_tellCairn_34 : decode cX4_tellCairn 34 = .ok (.ireturn, 1) := by decide +kernel
theorem dX4_tellCairn_35 : decode cX4_tellCairn 35 = .ok (.aload_n 0, 1) := by decide +kernel
theorem dX4_tellCairn_36 : decode cX4_tellCairn 36 = .ok (.iload_n 1, 1) := by decide +kernel
theorem dX4_tellCairn_37 : decode cX4_tellCairn 37 = .ok (.invokevirtual 111, 3) := by decide +kernel
theorem dX4_tellCairn_40 : decode cX4_tellCairn 40 = .ok (.ireturn, 1) := by decide +kernel
theorem dX4_tellCairn_41 : decode cX4_tellCairn 41 = .ok (.aload_n 0, 1) := by decide +kernel
theorem dX4_tellCairn_42 : decode cX4_tellCairn 42 = .ok (.iload_n 1, 1) := by decide +kernel
theorem dX4_tellCairn_43 : decode cX4_tellCairn 43 = .ok (.invokevirtual 114, 3) := by decide +kernel
theorem dX4_tellCairn_46 : decode cX4_tellCairn 46 = .ok (.ireturn, 1) := by decide +kernel
theorem dX4_tellCairn_47 : decode cX4_tellCairn 47 = .ok (.bipush (-102), 2) := by decide +kernel
theorem dX4_tellCairn_49 : decode cX4_tellCairn 49 = .ok (.ireturn, 1) := by decide +kernel
theorem dX4_cairn_0 : decode cX4_cairn 0 = .ok (.aload_n 0, 1) := by decide +kernel
theorem dX4_cairn_1 : decode cX4_cairn 1 = .ok (.iload_n 1, 1) := by decide +kernel
theorem dX4_cairn_2 : decode cX4_cairn 2 = .ok (.invokevirtual 117, 3) := by decide +kernel
theorem dX4_cairn_5 : decode cX4_cairn 5 = .ok (.ifCond .eq 12, 3) := by decide +kernel
theorem dX4_cairn_8 : decode cX4_cairn 8 = .ok (.aload_n 0, 1) := by decide +kernel
theorem dX4_cairn_9 : decode cX4_cairn 9 = .ok (.iload_n 1, 1) := by decide +kernel
theorem dX4_cairn_10 : decode cX4_cairn 10 = .ok (.iload_n 2, 1) := by decide +kernel
theorem dX4_cairn_11 : decode cX4_cairn 11 = .ok (.invokevirtual 120, 3) := by decide +kernel
theorem dX4_cairn_14 : decode cX4_cairn 14 = .ok (.goto 5, 3) := by decide +kernel
theorem dX4_cairn_17 : decode cX4_cairn 17 = .ok (.bipush (-101), 2) := by decide +kernel
theorem dX4_cairn_19 : decode cX4_cairn 19 = .ok (.ireturn, 1) := by decide +kernel
theorem dX4_lay_0 : decode cX4_lay 0 = .ok (.aload_n 0, 1) := by decide +kernel
theorem dX4_lay_1 : decode cX4_lay 1 = .ok (.iload_n 1, 1) := by decide +kernel
theorem dX4_lay_2 : decode cX4_lay 2 = .ok (.invokevirtual 117, 3) := by decide +kernel
theorem dX4_lay_5 : decode cX4_lay 5 = .ok (.ifCond .ne 6, 3) := by decide +kernel
theorem dX4_lay_8 : decode cX4_lay 8 = .ok (.bipush (-101), 2) := by decide +kernel
theorem dX4_lay_10 : decode cX4_lay 10 = .ok (.ireturn, 1) := by decide +kernel
theorem dX4_lay_11 : decode cX4_lay 11 = .ok (.iload_n 2, 1) := by decide +kernel
theorem dX4_lay_12 : decode cX4_lay 12 = .ok (.i2l, 1) := by decide +kernel
theorem dX4_lay_13 : decode cX4_lay 13 = .ok (.lconst 0, 1) := by decide +kernel
theorem dX4_lay_14 : decode cX4_lay 14 = .ok (.ldc2_w 123, 3) := by decide +kernel
theorem dX4_lay_17 : decode cX4_lay 17 = .ok (.invokestatic 43, 3) := by decide +kernel
theorem dX4_lay_20 : decode cX4_lay 20 = .ok (.ifCond .ne 6, 3) := by decide +kernel
theorem dX4_lay_23 : decode cX4_lay 23 = .ok (.bipush (-102), 2) := by decide +kernel
theorem dX4_lay_25 : decode cX4_lay 25 = .ok (.ireturn, 1) := by decide +kernel
theorem dX4_lay_26 : decode cX4_lay 26 = .ok (.aload_n 0, 1) := by decide +kernel
theorem dX4_lay_27 : decode cX4_lay 27 = .ok (.getfield 16, 3) := by decide +kernel
theorem dX4_lay_30 : decode cX4_lay 30 = .ok (.iload_n 1, 1) := by decide +kernel
theorem dX4_lay_31 : decode cX4_lay 31 = .ok (.iaload, 1) := by decide +kernel
theorem dX4_lay_32 : decode cX4_lay 32 = .ok (.istore_n 3, 1) := by decide +kernel
theorem dX4_lay_33 : decode cX4_lay 33 = .ok (.aload_n 0, 1) := by decide +kernel
theorem dX4_lay_34 : decode cX4_lay 34 = .ok (.getfield 16, 3) := by decide +kernel
theorem dX4_lay_37 : decode cX4_lay 37 = .ok (.iload_n 1, 1) := by decide +kernel
theorem dX4_lay_38 : decode cX4_lay 38 = .ok (.iload_n 2, 1) := by decide +kernel
theorem dX4_lay_39 : decode cX4_lay 39 = .ok (.iastore, 1) := by decide +kernel
theorem dX4_lay_40 : decode cX4_lay 40 = .ok (.iload_n 3, 1) := by decide +kernel
theorem dX4_lay_41 : decode cX4_lay 41 = .ok (.ireturn, 1) := by decide +kernel
theorem dX4_eatBeast_0 : decode cX4_eatBeast 0 = .ok (.aload_n 0, 1) := by decide +kernel
theorem dX4_eatBeast_1 : decode cX4_eatBeast 1 = .ok (.dup, 1) := by decide +kernel
theorem dX4_eatBeast_2 : decode cX4_eatBeast 2 = .ok (.getfield 125, 3) := by decide +kernel
theorem dX4_eatBeast_5 : decode cX4_eatBeast 5 = .ok (.iconst 1, 1) := by decide +kernel
theorem dX4_eatBeast_6 : decode cX4_eatBeast 6 = .ok (.iload_n 1, 1) := by decide +kernel
theorem dX4_eatBeast_7 : decode cX4_eatBeast 7 = .ok (.ishl, 1) := by decide +kernel
theorem dX4_eatBeast_8 : decode cX4_eatBeast 8 = .ok (.isub, 1) := by decide +kernel
theorem dX4_eatBeast_9 : decode cX4_eatBeast 9 = .ok (.putfield 125, 3) := by decide +kernel
theorem dX4_eatBeast_12 : decode cX4_eatBeast 12 = .ok (.aload_n 0, 1) := by decide +kernel
theorem dX4_eatBeast_13 : decode cX4_eatBeast 13 = .ok (.dup, 1) := by decide +kernel
theorem dX4_eatBeast_14 : decode cX4_eatBeast 14 = .ok (.getfield 128, 3) := by decide +kernel
theorem dX4_eatBeast_17 : decode cX4_eatBeast 17 = .ok (.aload_n 0, 1) := by decide +kernel
theorem dX4_eatBeast_18 : decode cX4_eatBeast 18 = .ok (.iload_n 1, 1) := by decide +kernel
theorem dX4_eatBeast_19 : decode cX4_eatBeast 19 = .ok (.invokevirtual 99, 3) := by decide +kernel
theorem dX4_eatBeast_22 : decode cX4_eatBeast 22 = .ok (.iadd, 1) := by decide +kernel
theorem dX4_eatBeast_23 : decode cX4_eatBeast 23 = .ok (.putfield 128, 3) := by decide +kernel
theorem dX4_eatBeast_26 : decode cX4_eatBeast 26 = .ok (.aload_n 0, 1) := by decide +kernel
theorem dX4_eatBeast_27 : decode cX4_eatBeast 27 = .ok (.invokevirtual 131, 3) := by decide +kernel
theorem dX4_eatBeast_30 : decode cX4_eatBeast 30 = .ok (.return_, 1) := by decide +kernel
theorem dX4_keepPulled_0 : decode cX4_keepPulled 0 = .ok (.aload_n 0, 1) := by decide +kernel
theorem dX4_keepPulled_1 : decode cX4_keepPulled 1 = .ok (.aload_n 0, 1) := by decide +kernel
theorem dX4_keepPulled_2 : decode cX4_keepPulled 2 = .ok (.getfield 125, 3) := by decide +kernel
theorem dX4_keepPulled_5 : decode cX4_keepPulled 5 = .ok (.invokevirtual 134, 3) := by decide +kernel
theorem dX4_keepPulled_8 : decode cX4_keepPulled 8 = .ok (.istore_n 1, 1) := by decide +kernel
theorem dX4_keepPulled_9 : decode cX4_keepPulled 9 = .ok (.aload_n 0, 1) := by decide +kernel
theorem dX4_keepPulled_10 : decode cX4_keepPulled 10 = .ok (.aload_n 0, 1) := by decide +kernel
theorem dX4_keepPulled_11 : decode cX4_keepPulled 11 = .ok (.getfield 128, 3) := by decide +kernel
theorem dX4_keepPulled_14 : decode cX4_keepPulled 14 = .ok (.iload_n 1, 1) := by decide +kernel
theorem dX4_keepPulled_15 : decode cX4_keepPulled 15 = .ok (.if_icmp .le 7, 3) := by decide +kernel
theorem dX4_keepPulled_18 : decode cX4_keepPulled 18 = .ok (.iload_n 1, 1) := by decide +kernel
theorem dX4_keepPulled_19 : decode cX4_keepPulled 19 = .ok (.goto 7, 3) := by decide +kernel
theorem dX4_keepPulled_22 : decode cX4_keepPulled 22 = .ok (.aload_n 0, 1) := by decide +kernel
theorem dX4_keepPulled_23 : decode cX4_keepPulled 23 = .ok (.getfield 128, 3) := by decide +kernel
theorem dX4_keepPulled_26 : decode cX4_keepPulled 26 = .ok (.putfield 128, 3) := by decide +kernel
theorem dX4_keepPulled_29 : decode cX4_keepPulled 29 = .ok (.return_, 1) := by decide +kernel
theorem dX4_goStage_0 : decode cX4_goStage 0 = .ok (.iload_n 2, 1) := by decide +kernel
theorem dX4_goStage_1 : decode cX4_goStage 1 = .ok (.ifCond .eq 37, 3) := by decide +kernel
theorem dX4_goStage_4 : decode cX4_goStage 4 = .ok (.iload_n 1, 1) := by decide +kernel
theorem dX4_goStage_5 : decode cX4_goStage 5 = .ok (.iconst 2, 1) := by decide +kernel
theorem dX4_goStage_6 : decode cX4_goStage 6 = .ok (.if_icmp .le 32, 3) := by decide +kernel
theorem dX4_goStage_9 : decode cX4_goStage 9 = .ok (.aload_n 0, 1) := by decide +kernel
theorem dX4_goStage_10 : decode cX4_goStage 10 = .ok (.aload_n 0, 1) := by decide +kernel
theorem dX4_goStage_11 : decode cX4_goStage 11 = .ok (.getfield 125, 3) := by decide +kernel
theorem dX4_goStage_14 : decode cX4_goStage 14 = .ok (.iconst 1, 1) := by decide +kernel
theorem dX4_goStage_15 : decode cX4_goStage 15 = .ok (.invokevirtual 137, 3) := by decide +kernel
theorem dX4_goStage_18 : decode cX4_goStage 18 = .ok (.iconst (-1), 1) := by decide +kernel
theorem dX4_goStage_19 : decode cX4_goStage 19 = .ok (.if_icmp .eq 19, 3) := by decide +kernel
theorem dX4_goStage_22 : decode cX4_goStage 22 = .ok (.aload_n 0, 1) := by decide +kernel
theorem dX4_goStage_23 : decode cX4_goStage 23 = .ok (.aload_n 0, 1) := by decide +kernel
theorem dX4_goStage_24 : decode cX4_goStage 24 = .ok (.aload_n 0, 1) := by decide +kernel
theorem dX4_goStage_25 : decode cX4_goStage 25 = .ok (.getfield 125, 3) := by decide +kernel
theorem dX4_goStage_28 : decode cX4_goStage 28 = .ok (.iconst 1, 1) := by decide +kernel
theorem dX4_goStage_29 : decode cX4_goStage 29 = .ok (.invokevirtual 137, 3) := by decide +kernel
theorem dX4_goStage_32 : decode cX4_goStage 32 = .ok (.invokevirtual 141, 3) := by decide +kernel
theorem dX4_goStage_35 : decode cX4_goStage 35 = .ok (.goto (-35), 3) := by decide +kernel
theorem dX4_goStage_38 : decode cX4_goStage 38 = .ok (.aload_n 0, 1) := by decide +kernel
theorem dX4_goStage_39 : decode cX4_goStage 39 = .ok (.getfield 128, 3) := by decide +kernel
theorem dX4_goStage_42 : decode cX4_goStage 42 = .ok (.aload_n 0, 1) := by decide +kernel
theorem dX4_goStage_43 : decode cX4_goStage 43 = .ok (.aload_n 0, 1) := by decide +kernel
theorem dX4_goStage_44 : decode cX4_goStage 44 = .ok (.getfield 125, 3) := by decide +kernel
theorem dX4_goStage_47 : decode cX4_goStage 47 = .ok (.invokevirtual 145, 3) := by decide +kernel
theorem dX4_goStage_50 : decode cX4_goStage 50 = .ok (.if_icmp .ge 32, 3) := by decide +kernel
theorem dX4_goStage_53 : decode cX4_goStage 53 = .ok (.aload_n 0, 1) := by decide +kernel
theorem dX4_goStage_54 : decode cX4_goStage 54 = .ok (.aload_n 0, 1) := by decide +kernel
theorem dX4_goStage_55 : decode cX4_goStage 55 = .ok (.getfield 125, 3) := by decide +kernel
theorem dX4_goStage_58 : decode cX4_goStage 58 = .ok (.iconst 0, 1) := by decide +kernel
theorem dX4_goStage_59 : decode cX4_goStage 59 = .ok (.invokevirtual 137, 3) := by decide +kernel
theorem dX4_goStage_62 : decode cX4_goStage 62 = .ok (.iconst (-1), 1) := by decide +kernel
theorem dX4_goStage_63 : decode cX4_goStage 63 = .ok (.if_icmp .eq 19, 3) := by decide +kernel
theorem dX4_goStage_66 : decode cX4_goStage 66 = .ok (.aload_n 0, 1) := by decide +kernel
theorem dX4_goStage_67 : decode cX4_goStage 67 = .ok (.aload_n 0, 1) := by decide +kernel
theorem dX4_goStage_68 : decode cX4_goStage 68 = .ok (.aload_n 0, 1) := by decide +kernel
theorem dX4_goStage_69 : decode cX4_goStage 69 = .ok (.getfield 125, 3) := by decide +kernel
theorem dX4_goStage_72 : decode cX4_goStage 72 = .ok (.iconst 0, 1) := by decide +kernel
theorem dX4_goStage_73 : decode cX4_goStage 73 = .ok (.invokevirtual 137, 3) := by decide +kernel
theorem dX4_goStage_76 : decode cX4_goStage 76 = .ok (.invokevirtual 141, 3) := by decide +kernel
theorem dX4_goStage_79 : decode cX4_goStage 79 = .ok (.goto (-41), 3) := by decide +kernel
theorem dX4_goStage_82 : decode cX4_goStage 82 = .ok (.aload_n 0, 1) := by decide +kernel
theorem dX4_goStage_83 : decode cX4_goStage 83 = .ok (.getfield 125, 3) := by decide +kernel
theorem dX4_goStage_86 : decode cX4_goStage 86 = .ok (.ifCond .eq 18, 3) := by decide +kernel
theorem dX4_goStage_89 : decode cX4_goStage 89 = .ok (.aload_n 0, 1) := by decide +kernel
theorem dX4_goStage_90 : decode cX4_goStage 90 = .ok (.getfield 128, 3) := by decide +kernel
theorem dX4_goStage_93 : decode cX4_goStage 93 = .ok (.aload_n 0, 1) := by decide +kernel
theorem dX4_goStage_94 : decode cX4_goStage 94 = .ok (.aload_n 0, 1) := by decide +kernel
theorem dX4_goStage_95 : decode cX4_goStage 95 = .ok (.getfield 125, 3) := by decide +kernel
theorem dX4_goStage_98 : decode cX4_goStage 98 = .ok (.invokevirtual 145, 3) := by decide +kernel
theorem dX4_goStage_101 : decode cX4_goStage 101 = .ok (.if_icmp .ge 15, 3) := by decide +kernel
theorem dX4_goStage_104 : decode cX4_goStage 104 = .ok (.aload_n 0, 1) := by decide +kernel
theorem dX4_goStage_105 : decode cX4_goStage 105 = .ok (.iconst 0, 1) := by decide +kernel
theorem dX4_goStage_106 : decode cX4_goStage 106 = .ok (.putfield 125, 3) := by decide +kernel
theorem dX4_goStage_109 : decode cX4_goStage 109 = .ok (.aload_n 0, 1) := by decide +kernel
theorem dX4_goStage_110 : decode cX4_goStage 110 = .ok (.iconst 0, 1) := by decide +kernel
theorem dX4_goStage_111 : decode cX4_goStage 111 = .ok (.putfield 128, 3) := by decide +kernel
theorem dX4_goStage_114 : decode cX4_goStage 114 = .ok (.iconst 0, 1) := by decide +kernel
theorem dX4_goStage_115 : decode cX4_goStage 115 = .ok (.ireturn, 1) := by decide +kernel
theorem dX4_goStage_116 : decode cX4_goStage 116 = .ok (.aload_n 0, 1) := by decide +kernel
theorem dX4_goStage_117 : decode cX4_goStage 117 = .ok (.dup, 1) := by decide +kernel
theorem dX4_goStage_118 : decode cX4_goStage 118 = .ok (.getfield 128, 3) := by decide +kernel
theorem dX4_goStage_121 : decode cX4_goStage 121 = .ok (.aload_n 0, 1) := by decide +kernel
theorem dX4_goStage_122 : decode cX4_goStage 122 = .ok (.aload_n 0, 1) := by decide +kernel
theorem dX4_goStage_123 : decode cX4_goStage 123 = .ok (.getfield 125, 3) := by decide +kernel
theorem dX4_goStage_126 : decode cX4_goStage 126 = .ok (.invokevirtual 145, 3) := by decide +kernel
theorem dX4_goStage_129 : decode cX4_goStage 129 = .ok (.isub, 1) := by decide +kernel
theorem dX4_goStage_130 : decode cX4_goStage 130 = .ok (.putfield 128, 3) := by decide +kernel
theorem dX4_goStage_133 : decode cX4_goStage 133 = .ok (.iload_n 2, 1) := by decide +kernel
theorem dX4_goStage_134 : decode cX4_goStage 134 = .ok (.ifCond .eq 9, 3) := by decide +kernel
theorem dX4_goStage_137 : decode cX4_goStage 137 = .ok (.iload_n 1, 1) := by decide +kernel
theorem dX4_goStage_138 : decode cX4_goStage 138 = .ok (.iconst 1, 1) := by decide +kernel
theorem dX4_goStage_139 : decode cX4_goStage 139 = .ok (.iadd, 1) := by decide +kernel
theorem dX4_goStage_140 : decode cX4_goStage 140 = .ok (.goto 6, 3) := by decide +kernel
theorem dX4_goStage_143 : decode cX4_goStage 143 = .ok (.iload_n 1, 1) := by decide +kernel
theorem dX4_goStage_144 : decode cX4_goStage 144 = .ok (.iconst 1, 1) := by decide +kernel
theorem dX4_goStage_145 : decode cX4_goStage 145 = .ok (.isub, 1) := by decide +kernel
theorem dX4_goStage_146 : decode cX4_goStage 146 = .ok (.istore_n 3, 1) := by decide +kernel
theorem dX4_goStage_147 : decode cX4_goStage 147 = .ok (.iload_n 2, 1) := by decide +kernel
theorem dX4_goStage_148 : decode cX4_goStage 148 = .ok (.ifCond .ne 68, 3) := by decide +kernel
theorem dX4_goStage_151 : decode cX4_goStage 151 = .ok (.iload_n 3, 1) := by decide +kernel
theorem dX4_goStage_152 : decode cX4_goStage 152 = .ok (.ifCond .le 64, 3) := by decide +kernel
theorem dX4_goStage_155 : decode cX4_goStage 155 = .ok (.aload_n 0, 1) := by decide +kernel
theorem dX4_goStage_156 : decode cX4_goStage 156 = .ok (.aload_n 0, 1) := by decide +kernel
theorem dX4_goStage_157 : decode cX4_goStage 157 = .ok (.getfield 125, 3) := by decide +kernel
theorem dX4_goStage_160 : decode cX4_goStage 160 = .ok (.invokevirtual 134, 3) := by decide +kernel
theorem dX4_goStage_163 : decode cX4_goStage 163 = .ok (.aload_n 0, 1) := by decide +kernel
theorem dX4_goStage_164 : decode cX4_goStage 164 = .ok (.getfield 128, 3) := by decide +kernel
theorem dX4_goStage_167 : decode cX4_goStage 167 = .ok (.isub, 1) := by decide +kernel
theorem dX4_goStage_168 : decode cX4_goStage 168 = .ok (.istore 4, 2) := by decide +kernel
theorem dX4_goStage_170 : decode cX4_goStage 170 = .ok (.aload_n 0, 1) := by decide +kernel
theorem dX4_goStage_171 : decode cX4_goStage 171 = .ok (.getfield 19, 3) := by decide +kernel
theorem dX4_goStage_174 : decode cX4_goStage 174 = .ok (.iload_n 3, 1) := by decide +kernel
theorem dX4_goStage_175 : decode cX4_goStage 175 = .ok (.iaload, 1) := by decide +kernel
theorem dX4_goStage_176 : decode cX4_goStage 176 = .ok (.iload 4, 2) := by decide +kernel
theorem dX4_goStage_178 : decode cX4_goStage 178 = .ok (.if_icmp .ge 12, 3) := by decide +kernel
theorem dX4_goStage_181 : decode cX4_goStage 181 = .ok (.aload_n 0, 1) := by decide +kernel
theorem dX4_goStage_182 : decode cX4_goStage 182 = .ok (.getfield 19, 3) := by decide +kernel
theorem dX4_goStage_185 : decode cX4_goStage 185 = .ok (.iload_n 3, 1) := by decide +kernel
theorem dX4_goStage_186 : decode cX4_goStage 186 = .ok (.iaload, 1) := by decide +kernel
theorem dX4_goStage_187 : decode cX4_goStage 187 = .ok (.goto 5, 3) := by decide +kernel
theorem dX4_goStage_190 : decode cX4_goStage 190 = .ok (.iload 4, 2) := by decide +kernel
theorem dX4_goStage_192 : decode cX4_goStage 192 = .ok (.istore 5, 2) := by decide +kernel
theorem dX4_goStage_194 : decode cX4_goStage 194 = .ok (.aload_n 0, 1) := by decide +kernel
theorem dX4_goStage_195 : decode cX4_goStage 195 = .ok (.getfield 19, 3) := by decide +kernel
theorem dX4_goStage_198 : decode cX4_goStage 198 = .ok (.iload_n 3, 1) := by decide +kernel
theorem dX4_goStage_199 : decode cX4_goStage 199 = .ok (.dup2, 1) := by decide +kernel
theorem dX4_goStage_200 : decode cX4_goStage 200 = .ok (.iaload, 1) := by decide +kernel
theorem dX4_goStage_201 : decode cX4_goStage 201 = .ok (.iload 5, 2) := by decide +kernel
theorem dX4_goStage_203 : decode cX4_goStage 203 = .ok (.isub, 1) := by decide +kernel
theorem dX4_goStage_204 : decode cX4_goStage 204 = .ok (.iastore, 1) := by decide +kernel
theorem dX4_goStage_205 : decode cX4_goStage 205 = .ok (.aload_n 0, 1) := by decide +kernel
theorem dX4_goStage_206 : decode cX4_goStage 206 = .ok (.dup, 1) := by decide +kernel
theorem dX4_goStage_207 : decode cX4_goStage 207 = .ok (.getfield 128, 3) := by decide +kernel
theorem dX4_goStage_210 : decode cX4_goStage 210 = .ok (.iload 5, 2) := by decide +kernel
theorem dX4_goStage_212 : decode cX4_goStage 212 = .ok (.iadd, 1) := by decide +kernel
theorem dX4_goStage_213 : decode cX4_goStage 213 = .ok (.putfield 128, 3) := by decide +kernel
theorem dX4_goStage_216 : decode cX4_goStage 216 = .ok (.iconst 1, 1) := by decide +kernel
theorem dX4_goStage_217 : decode cX4_goStage 217 = .ok (.ireturn, 1) := by decide +kernel
theorem dX4_goMarch_0 : decode cX4_goMarch 0 = .ok (.aload 4, 2) := by decide +kernel
theorem dX4_goMarch_2 : decode cX4_goMarch 2 = .ok (.aload_n 0, 1) := by decide +kernel
theorem dX4_goMarch_3 : decode cX4_goMarch 3 = .ok (.getfield 19, 3) := by decide +kernel
theorem dX4_goMarch_6 : decode cX4_goMarch 6 = .ok (.invokestatic 148, 3) := by decide +kernel
theorem dX4_goMarch_9 : decode cX4_goMarch 9 = .ok (.aload_n 0, 1) := by decide +kernel
theorem dX4_goMarch_10 : decode cX4_goMarch 10 = .ok (.iload_n 1, 1) := by decide +kernel
theorem dX4_goMarch_11 : decode cX4_goMarch 11 = .ok (.putfield 125, 3) := by decide +kernel
theorem dX4_goMarch_14 : decode cX4_goMarch 14 = .ok (.aload_n 0, 1) := by decide +kernel
theorem dX4_goMarch_15 : decode cX4_goMarch 15 = .ok (.iload_n 3, 1) := by decide +kernel
theorem dX4_goMarch_16 : decode cX4_goMarch 16 = .ok (.putfield 128, 3) := by decide +kernel
theorem dX4_goMarch_19 : decode cX4_goMarch 19 = .ok (.aload_n 0, 1) := by decide +kernel
theorem dX4_goMarch_20 : decode cX4_goMarch 20 = .ok (.invokevirtual 131, 3) := by decide +kernel
theorem dX4_goMarch_23 : decode cX4_goMarch 23 = .ok (.aload_n 0, 1) := by decide +kernel
theorem dX4_goMarch_24 : decode cX4_goMarch 24 = .ok (.iconst 0, 1) := by decide +kernel
theorem dX4_goMarch_25 : decode cX4_goMarch 25 = .ok (.putfield 152, 3) := by decide +kernel
theorem dX4_goMarch_28 : decode cX4_goMarch 28 = .ok (.iconst 1, 1) := by decide +kernel
theorem dX4_goMarch_29 : decode cX4_goMarch 29 = .ok (.istore 5, 2) := by decide +kernel
theorem dX4_goMarch_31 : decode cX4_goMarch 31 = .ok (.iload 5, 2) := by decide +kernel
theorem dX4_goMarch_33 : decode cX4_goMarch 33 = .ok (.iconst 2, 1) := by decide +kernel
theorem dX4_goMarch_34 : decode cX4_goMarch 34 = .ok (.iload_n 2, 1) := by decide +kernel
theorem dX4_goMarch_35 : decode cX4_goMarch 35 = .ok (.imul, 1) := by decide +kernel
theorem dX4_goMarch_36 : decode cX4_goMarch 36 = .ok (.if_icmp .gt 72, 3) := by decide +kernel
theorem dX4_goMarch_39 : decode cX4_goMarch 39 = .ok (.aload_n 0, 1) := by decide +kernel
theorem dX4_goMarch_40 : decode cX4_goMarch 40 = .ok (.getfield 152, 3) := by decide +kernel
theorem dX4_goMarch_43 : decode cX4_goMarch 43 = .ok (.ifCond .ne 65, 3) := by decide +kernel
theorem dX4_goMarch_46 : decode cX4_goMarch 46 = .ok (.iload 5, 2) := by decide +kernel
theorem dX4_goMarch_48 : decode cX4_goMarch 48 = .ok (.iload_n 2, 1) := by decide +kernel
theorem dX4_goMarch_49 : decode cX4_goMarch 49 = .ok (.if_icmp .gt 7, 3) := by decide +kernel
theorem dX4_goMarch_52 : decode cX4_goMarch 52 = .ok (.iconst 1, 1) := by decide +kernel
theorem dX4_goMarch_53 : decode cX4_goMarch 53 = .ok (.goto 4, 3) := by decide +kernel
theorem dX4_goMarch_56 : decode cX4_goMarch 56 = .ok (.iconst 0, 1) := by decide +kernel
theorem dX4_goMarch_57 : decode cX4_goMarch 57 = .ok (.istore 6, 2) := by decide +kernel
theorem dX4_goMarch_59 : decode cX4_goMarch 59 = .ok (.aload_n 0, 1) := by decide +kernel
theorem dX4_goMarch_60 : decode cX4_goMarch 60 = .ok (.iload 6, 2) := by decide +kernel
theorem dX4_goMarch_62 : decode cX4_goMarch 62 = .ok (.ifCond .eq 10, 3) := by decide +kernel
theorem dX4_goMarch_65 : decode cX4_goMarch 65 = .ok (.iload 5, 2) := by decide +kernel
theorem dX4_goMarch_67 : decode cX4_goMarch 67 = .ok (.iconst 1, 1) := by decide +kernel
theorem dX4_goMarch_68 : decode cX4_goMarch 68 = .ok (.isub, 1) := by decide +kernel
theorem dX4_goMarch_69 : decode cX4_goMarch 69 = .ok (.goto 11, 3) := by decide +kernel
theorem dX4_goMarch_72 : decode cX4_goMarch 72 = .ok (.iconst 2, 1) := by decide +kernel
theorem dX4_goMarch_73 : decode cX4_goMarch 73 = .ok (.iload_n 2, 1) := by decide +kernel
theorem dX4_goMarch_74 : decode cX4_goMarch 74 = .ok (.imul, 1) := by decide +kernel
theorem dX4_goMarch_75 : decode cX4_goMarch 75 = .ok (.iload 5, 2) := by decide +kernel
theorem dX4_goMarch_77 : decode cX4_goMarch 77 = .ok (.isub, 1) := by decide +kernel
theorem dX4_goMarch_78 : decode cX4_goMarch 78 = .ok (.iconst 1, 1) := by decide +kernel
theorem dX4_goMarch_79 : decode cX4_goMarch 79 = .ok (.iadd, 1) := by decide +kernel
theorem dX4_goMarch_80 : decode cX4_goMarch 80 = .ok (.iload 6, 2) := by decide +kernel
theorem dX4_goMarch_82 : decode cX4_goMarch 82 = .ok (.invokevirtual 155, 3) := by decide +kernel
theorem dX4_goMarch_85 : decode cX4_goMarch 85 = .ok (.istore 7, 2) := by decide +kernel
theorem dX4_goMarch_87 : decode cX4_goMarch 87 = .ok (.aload_n 0, 1) := by decide +kernel
theorem dX4_goMarch_88 : decode cX4_goMarch 88 = .ok (.iload 7, 2) := by decide +kernel
theorem dX4_goMarch_90 : decode cX4_goMarch 90 = .ok (.ifCond .eq 7, 3) := by decide +kernel
theorem dX4_goMarch_93 : decode cX4_goMarch 93 = .ok (.iconst 0, 1) := by decide +kernel
theorem dX4_goMarch_94 : decode cX4_goMarch 94 = .ok (.goto 5, 3) := by decide +kernel
theorem dX4_goMarch_97 : decode cX4_goMarch 97 = .ok (.iload 5, 2) := by decide +kernel
theorem dX4_goMarch_99 : decode cX4_goMarch 99 = .ok (.putfield 152, 3) := by decide +kernel
theorem dX4_goMarch_102 : decode cX4_goMarch 102 = .ok (.iinc 5 1, 3) := by decide +kernel
theorem dX4_goMarch_105 : decode cX4_goMarch 105 = .ok (.goto (-74), 3) := by decide +kernel
theorem dX4_goMarch_108 : decode cX4_goMarch 108 = .ok (.return_, 1) := by decide +kernel
theorem dX4_comesHome_0 : decode cX4_comesHome 0 = .ok (.aload_n 0, 1) := by decide +kernel
theorem dX4_comesHome_1 : decode cX4_comesHome 1 = .ok (.iload_n 1, 1) := by decide +kernel
theorem dX4_comesHome_2 : decode cX4_comesHome 2 = .ok (.iload_n 2, 1) := by decide +kernel
theorem dX4_comesHome_3 : decode cX4_comesHome 3 = .ok (.iload_n 3, 1) := by decide +kernel
theorem dX4_comesHome_4 : decode cX4_comesHome 4 = .ok (.aload 4, 2) := by decide +kernel
theorem dX4_comesHome_6 : decode cX4_comesHome 6 = .ok (.invokevirtual 159, 3) := by decide +kernel
theorem dX4_comesHome_9 : decode cX4_comesHome 9 = .ok (.aload_n 0, 1) := by decide +kernel
theorem dX4_comesHome_10 : decode cX4_comesHome 10 = .ok (.getfield 125, 3) := by decide +kernel
theorem dX4_comesHome_13 : decode cX4_comesHome 13 = .ok (.ifCond .eq 7, 3) := by decide +kernel
theorem dX4_comesHome_16 : decode cX4_comesHome 16 = .ok (.iconst 1, 1) := by decide +kernel
theorem dX4_comesHome_17 : decode cX4_comesHome 17 = .ok (.goto 4, 3) := by decide +kernel
theorem dX4_comesHome_20 : decode cX4_comesHome 20 = .ok (.iconst 0, 1) := by decide +kernel
theorem dX4_comesHome_21 : decode cX4_comesHome 21 = .ok (.ireturn, 1) := by decide +kernel
theorem dX4_sumOf_0 : decode cX4_sumOf 0 = .ok (.iconst 0, 1) := by decide +kernel
theorem dX4_sumOf_1 : decode cX4_sumOf 1 = .ok (.istore_n 1, 1) := by decide +kernel
theorem dX4_sumOf_2 : decode cX4_sumOf 2 = .ok (.iconst 1, 1) := by decide +kernel
theorem dX4_sumOf_3 : decode cX4_sumOf 3 = .ok (.istore_n 2, 1) := by decide +kernel
theorem dX4_sumOf_4 : decode cX4_sumOf 4 = .ok (.iload_n 2, 1) := by decide +kernel
theorem dX4_sumOf_5 : decode cX4_sumOf 5 = .ok (.bipush 6, 2) := by decide +kernel
theorem dX4_sumOf_7 : decode cX4_sumOf 7 = .ok (.if_icmp .ge 15, 3) := by decide +kernel
theorem dX4_sumOf_10 : decode cX4_sumOf 10 = .ok (.iload_n 1, 1) := by decide +kernel
theorem dX4_sumOf_11 : decode cX4_sumOf 11 = .ok (.aload_n 0, 1) := by decide +kernel
theorem dX4_sumOf_12 : decode cX4_sumOf 12 = .ok (.iload_n 2, 1) := by decide +kernel
theorem dX4_sumOf_13 : decode cX4_sumOf 13 = .ok (.iaload, 1) := by decide +kernel
theorem dX4_sumOf_14 : decode cX4_sumOf 14 = .ok (.iadd, 1) := by decide +kernel
theorem dX4_sumOf_15 : decode cX4_sumOf 15 = .ok (.istore_n 1, 1) := by decide +kernel
theorem dX4_sumOf_16 : decode cX4_sumOf 16 = .ok (.iinc 2 1, 3) := by decide +kernel
theorem dX4_sumOf_19 : decode cX4_sumOf 19 = .ok (.goto (-15), 3) := by decide +kernel
theorem dX4_sumOf_22 : decode cX4_sumOf 22 = .ok (.iload_n 1, 1) := by decide +kernel
theorem dX4_sumOf_23 : decode cX4_sumOf 23 = .ok (.ireturn, 1) := by decide +kernel
theorem dX4_isMarch_0 : decode cX4_isMarch 0 = .ok (.aload_n 0, 1) := by decide +kernel
theorem dX4_isMarch_1 : decode cX4_isMarch 1 = .ok (.iload_n 1, 1) := by decide +kernel
theorem dX4_isMarch_2 : decode cX4_isMarch 2 = .ok (.invokevirtual 163, 3) := by decide +kernel
theorem dX4_isMarch_5 : decode cX4_isMarch 5 = .ok (.ifCond .eq 31, 3) := by decide +kernel
theorem dX4_isMarch_8 : decode cX4_isMarch 8 = .ok (.iload_n 2, 1) := by decide +kernel
theorem dX4_isMarch_9 : decode cX4_isMarch 9 = .ok (.i2l, 1) := by decide +kernel
theorem dX4_isMarch_10 : decode cX4_isMarch 10 = .ok (.lconst 1, 1) := by decide +kernel
theorem dX4_isMarch_11 : decode cX4_isMarch 11 = .ok (.ldc2_w 166, 3) := by decide +kernel
theorem dX4_isMarch_14 : decode cX4_isMarch 14 = .ok (.invokestatic 43, 3) := by decide +kernel
theorem dX4_isMarch_17 : decode cX4_isMarch 17 = .ok (.ifCond .eq 19, 3) := by decide +kernel
theorem dX4_isMarch_20 : decode cX4_isMarch 20 = .ok (.iload_n 3, 1) := by decide +kernel
theorem dX4_isMarch_21 : decode cX4_isMarch 21 = .ok (.i2l, 1) := by decide +kernel
theorem dX4_isMarch_22 : decode cX4_isMarch 22 = .ok (.lconst 0, 1) := by decide +kernel
theorem dX4_isMarch_23 : decode cX4_isMarch 23 = .ok (.ldc2_w 168, 3) := by decide +kernel
theorem dX4_isMarch_26 : decode cX4_isMarch 26 = .ok (.invokestatic 43, 3) := by decide +kernel
theorem dX4_isMarch_29 : decode cX4_isMarch 29 = .ok (.ifCond .eq 7, 3) := by decide +kernel
theorem dX4_isMarch_32 : decode cX4_isMarch 32 = .ok (.iconst 1, 1) := by decide +kernel
theorem dX4_isMarch_33 : decode cX4_isMarch 33 = .ok (.goto 4, 3) := by decide +kernel
theorem dX4_isMarch_36 : decode cX4_isMarch 36 = .ok (.iconst 0, 1) := by decide +kernel
theorem dX4_isMarch_37 : decode cX4_isMarch 37 = .ok (.ireturn, 1) := by decide +kernel
theorem dX4_march_0 : decode cX4_march 0 = .ok (.aload_n 0, 1) := by decide +kernel
theorem dX4_march_1 : decode cX4_march 1 = .ok (.iload_n 1, 1) := by decide +kernel
theorem dX4_march_2 : decode cX4_march 2 = .ok (.iload_n 2, 1) := by decide +kernel
theorem dX4_march_3 : decode cX4_march 3 = .ok (.iload_n 3, 1) := by decide +kernel
theorem dX4_march_4 : decode cX4_march 4 = .ok (.invokevirtual 170, 3) := by decide +kernel
theorem dX4_march_7 : decode cX4_march 7 = .ok (.ifCond .ne 6, 3) := by decide +kernel
theorem dX4_march_10 : decode cX4_march 10 = .ok (.bipush (-102), 2) := by decide +kernel
theorem dX4_march_12 : decode cX4_march 12 = .ok (.ireturn, 1) := by decide +kernel
theorem dX4_march_13 : decode cX4_march 13 = .ok (.iload_n 1, 1) := by decide +kernel
theorem dX4_march_14 : decode cX4_march 14 = .ok (.aload_n 0, 1) := by decide +kernel
theorem dX4_march_15 : decode cX4_march 15 = .ok (.getfield 72, 3) := by decide +kernel
theorem dX4_march_18 : decode cX4_march 18 = .ok (.iconst (-1), 1) := by decide +kernel
theorem dX4_march_19 : decode cX4_march 19 = .ok (.ixor, 1) := by decide +kernel
theorem dX4_march_20 : decode cX4_march 20 = .ok (.iand, 1) := by decide +kernel
theorem dX4_march_21 : decode cX4_march 21 = .ok (.ifCond .eq 6, 3) := by decide +kernel
theorem dX4_march_24 : decode cX4_march 24 = .ok (.bipush (-103), 2) := by decide +kernel
theorem dX4_march_26 : decode cX4_march 26 = .ok (.ireturn, 1) := by decide +kernel
theorem dX4_march_27 : decode cX4_march 27 = .ok (.aload_n 0, 1) := by decide +kernel
theorem dX4_march_28 : decode cX4_march 28 = .ok (.iload_n 1, 1) := by decide +kernel
theorem dX4_march_29 : decode cX4_march 29 = .ok (.iload_n 2, 1) := by decide +kernel
theorem dX4_march_30 : decode cX4_march 30 = .ok (.iload_n 3, 1) := by decide +kernel
theorem dX4_march_31 : decode cX4_march 31 = .ok (.aload_n 0, 1) := by decide +kernel
theorem dX4_march_32 : decode cX4_march 32 = .ok (.getfield 16, 3) := by decide +kernel
theorem dX4_march_35 : decode cX4_march 35 = .ok (.invokevirtual 159, 3) := by decide +kernel
theorem dX4_march_38 : decode cX4_march 38 = .ok (.aload_n 0, 1) := by decide +kernel
theorem dX4_march_39 : decode cX4_march 39 = .ok (.aload_n 0, 1) := by decide +kernel
theorem dX4_march_40 : decode cX4_march 40 = .ok (.getfield 72, 3) := by decide +kernel
theorem dX4_march_43 : decode cX4_march 43 = .ok (.iload_n 1, 1) := by decide +kernel
theorem dX4_march_44 : decode cX4_march 44 = .ok (.iconst (-1), 1) := by decide +kernel
theorem dX4_march_45 : decode cX4_march 45 = .ok (.ixor, 1) := by decide +kernel
theorem dX4_march_46 : decode cX4_march 46 = .ok (.iand, 1) := by decide +kernel
theorem dX4_march_47 : decode cX4_march 47 = .ok (.aload_n 0, 1) := by decide +kernel
theorem dX4_march_48 : decode cX4_march 48 = .ok (.getfield 125, 3) := by decide +kernel
theorem dX4_march_51 : decode cX4_march 51 = .ok (.ior, 1) := by decide +kernel
theorem dX4_march_52 : decode cX4_march 52 = .ok (.putfield 72, 3) := by decide +kernel
theorem dX4_march_55 : decode cX4_march 55 = .ok (.aload_n 0, 1) := by decide +kernel
theorem dX4_march_56 : decode cX4_march 56 = .ok (.getfield 19, 3) := by decide +kernel
theorem dX4_march_59 : decode cX4_march 59 = .ok (.aload_n 0, 1) := by decide +kernel
theorem dX4_march_60 : decode cX4_march 60 = .ok (.getfield 16, 3) := by decide +kernel
theorem dX4_march_63 : decode cX4_march 63 = .ok (.invokestatic 148, 3) := by decide +kernel
theorem dX4_march_66 : decode cX4_march 66 = .ok (.aload_n 0, 1) := by decide +kernel
theorem dX4_march_67 : decode cX4_march 67 = .ok (.dup, 1) := by decide +kernel
theorem dX4_march_68 : decode cX4_march 68 = .ok (.getfield 75, 3) := by decide +kernel
theorem dX4_march_71 : decode cX4_march 71 = .ok (.iconst 1, 1) := by decide +kernel
theorem dX4_march_72 : decode cX4_march 72 = .ok (.iadd, 1) := by decide +kernel
theorem dX4_march_73 : decode cX4_march 73 = .ok (.putfield 75, 3) := by decide +kernel
theorem dX4_march_76 : decode cX4_march 76 = .ok (.aload_n 0, 1) := by decide +kernel
theorem dX4_march_77 : decode cX4_march 77 = .ok (.dup, 1) := by decide +kernel
theorem dX4_march_78 : decode cX4_march 78 = .ok (.getfield 78, 3) := by decide +kernel
theorem dX4_march_81 : decode cX4_march 81 = .ok (.aload_n 0, 1) := by decide +kernel
theorem dX4_march_82 : decode cX4_march 82 = .ok (.getfield 125, 3) := by decide +kernel
theorem dX4_march_85 : decode cX4_march 85 = .ok (.ifCond .ne 7, 3) := by decide +kernel
theorem dX4_march_88 : decode cX4_march 88 = .ok (.iconst 0, 1) := by decide +kernel
theorem dX4_march_89 : decode cX4_march 89 = .ok (.goto 4, 3) := by decide +kernel
theorem dX4_march_92 : decode cX4_march 92 = .ok (.iconst 1, 1) := by decide +kernel
theorem dX4_march_93 : decode cX4_march 93 = .ok (.iadd, 1) := by decide +kernel
theorem dX4_march_94 : decode cX4_march 94 = .ok (.putfield 78, 3) := by decide +kernel
theorem dX4_march_97 : decode cX4_march 97 = .ok (.aload_n 0, 1) := by decide +kernel
theorem dX4_march_98 : decode cX4_march 98 = .ok (.getfield 125, 3) := by decide +kernel
theorem dX4_march_101 : decode cX4_march 101 = .ok (.ireturn, 1) := by decide +kernel
theorem dX4_wouldOf_0 : decode cX4_wouldOf 0 = .ok (.aload_n 0, 1) := by decide +kernel
theorem dX4_wouldOf_1 : decode cX4_wouldOf 1 = .ok (.iload_n 1, 1) := by decide +kernel
theorem dX4_wouldOf_2 : decode cX4_wouldOf 2 = .ok (.iload_n 2, 1) := by decide +kernel
theorem dX4_wouldOf_3 : decode cX4_wouldOf 3 = .ok (.iload_n 3, 1) := by decide +kernel
theorem dX4_wouldOf_4 : decode cX4_wouldOf 4 = .ok (.aload_n 0, 1) := by decide +kernel
theorem dX4_wouldOf_5 : decode cX4_wouldOf 5 = .ok (.getfield 16, 3) := by decide +kernel
theorem dX4_wouldOf_8 : decode cX4_wouldOf 8 = .ok (.invokevirtual 159, 3) := by decide +kernel
theorem dX4_wouldOf_11 : decode cX4_wouldOf 11 = .ok (.iload 4, 2) := by decide +kernel
theorem dX4_wouldOf_13 : decode cX4_wouldOf 13 = .ok (.ifCond .ne 10, 3) := by decide +kernel
theorem dX4_wouldOf_16 : decode cX4_wouldOf 16 = .ok (.aload_n 0, 1) := by decide +kernel
theorem dX4_wouldOf_17 : decode cX4_wouldOf 17 = .ok (.getfield 125, 3) := by decide +kernel
theorem dX4_wouldOf_20 : decode cX4_wouldOf 20 = .ok (.goto 36, 3) := by decide +kernel
theorem dX4_wouldOf_23 : decode cX4_wouldOf 23 = .ok (.iload 4, 2) := by decide +kernel
theorem dX4_wouldOf_25 : decode cX4_wouldOf 25 = .ok (.iconst 1, 1) := by decide +kernel
theorem dX4_wouldOf_26 : decode cX4_wouldOf 26 = .ok (.if_icmp .ne 10, 3) := by decide +kernel
theorem dX4_wouldOf_29 : decode cX4_wouldOf 29 = .ok (.aload_n 0, 1) := by decide +kernel
theorem dX4_wouldOf_30 : decode cX4_wouldOf 30 = .ok (.getfield 128, 3) := by decide +kernel
theorem dX4_wouldOf_33 : decode cX4_wouldOf 33 = .ok (.goto 23, 3) := by decide +kernel
theorem dX4_wouldOf_36 : decode cX4_wouldOf 36 = .ok (.iload 4, 2) := by decide +kernel
theorem dX4_wouldOf_38 : decode cX4_wouldOf 38 = .ok (.iconst 2, 1) := by decide +kernel
theorem dX4_wouldOf_39 : decode cX4_wouldOf 39 = .ok (.if_icmp .ne 13, 3) := by decide +kernel
theorem dX4_wouldOf_42 : decode cX4_wouldOf 42 = .ok (.aload_n 0, 1) := by decide +kernel
theorem dX4_wouldOf_43 : decode cX4_wouldOf 43 = .ok (.getfield 19, 3) := by decide +kernel
theorem dX4_wouldOf_46 : decode cX4_wouldOf 46 = .ok (.invokestatic 174, 3) := by decide +kernel
theorem dX4_wouldOf_49 : decode cX4_wouldOf 49 = .ok (.goto 7, 3) := by decide +kernel
theorem dX4_wouldOf_52 : decode cX4_wouldOf 52 = .ok (.aload_n 0, 1) := by decide +kernel
theorem dX4_wouldOf_53 : decode cX4_wouldOf 53 = .ok (.getfield 152, 3) := by decide +kernel
theorem dX4_wouldOf_56 : decode cX4_wouldOf 56 = .ok (.ireturn, 1) := by decide +kernel
theorem dX4_would_0 : decode cX4_would 0 = .ok (.aload_n 0, 1) := by decide +kernel
theorem dX4_would_1 : decode cX4_would 1 = .ok (.iload_n 1, 1) := by decide +kernel
theorem dX4_would_2 : decode cX4_would 2 = .ok (.iload_n 2, 1) := by decide +kernel
theorem dX4_would_3 : decode cX4_would 3 = .ok (.iload_n 3, 1) := by decide +kernel
theorem dX4_would_4 : decode cX4_would 4 = .ok (.invokevirtual 170, 3) := by decide +kernel
theorem dX4_would_7 : decode cX4_would 7 = .ok (.ifCond .eq 16, 3) := by decide +kernel
theorem dX4_would_10 : decode cX4_would 10 = .ok (.iload 4, 2) := by decide +kernel
theorem dX4_would_12 : decode cX4_would 12 = .ok (.i2l, 1) := by decide +kernel
theorem dX4_would_13 : decode cX4_would 13 = .ok (.lconst 0, 1) := by decide +kernel
theorem dX4_would_14 : decode cX4_would 14 = .ok (.ldc2_w 178, 3) := by decide +kernel
theorem dX4_would_17 : decode cX4_would 17 = .ok (.invokestatic 43, 3) := by decide +kernel
theorem dX4_would_20 : decode cX4_would 20 = .ok (.ifCond .ne 6, 3) := by decide +kernel
theorem dX4_would_23 : decode cX4_would 23 = .ok (.bipush (-102), 2) := by decide +kernel
theorem dX4_would_25 : decode cX4_would 25 = .ok (.ireturn, 1) := by decide +kernel
theorem dX4_would_26 : decode cX4_would 26 = .ok (.iload_n 1, 1) := by decide +kernel
theorem dX4_would_27 : decode cX4_would 27 = .ok (.aload_n 0, 1) := by decide +kernel
theorem dX4_would_28 : decode cX4_would 28 = .ok (.getfield 72, 3) := by decide +kernel
theorem dX4_would_31 : decode cX4_would 31 = .ok (.iconst (-1), 1) := by decide +kernel
theorem dX4_would_32 : decode cX4_would 32 = .ok (.ixor, 1) := by decide +kernel
theorem dX4_would_33 : decode cX4_would 33 = .ok (.iand, 1) := by decide +kernel
theorem dX4_would_34 : decode cX4_would 34 = .ok (.ifCond .eq 8, 3) := by decide +kernel
theorem dX4_would_37 : decode cX4_would 37 = .ok (.bipush (-103), 2) := by decide +kernel
theorem dX4_would_39 : decode cX4_would 39 = .ok (.goto 12, 3) := by decide +kernel
theorem dX4_would_42 : decode cX4_would 42 = .ok (.aload_n 0, 1) := by decide +kernel
theorem dX4_would_43 : decode cX4_would 43 = .ok (.iload_n 1, 1) := by decide +kernel
theorem dX4_would_44 : decode cX4_would 44 = .ok (.iload_n 2, 1) := by decide +kernel
theorem dX4_would_45 : decode cX4_would 45 = .ok (.iload_n 3, 1) := by decide +kernel
theorem dX4_would_46 : decode cX4_would 46 = .ok (.iload 4, 2) := by decide +kernel
theorem dX4_would_48 : decode cX4_would 48 = .ok (.invokevirtual 180, 3) := by decide +kernel
theorem dX4_would_51 : decode cX4_would 51 = .ok (.ireturn, 1) := by decide +kernel
theorem dX4_needOf_0 : decode cX4_needOf 0 = .ok (.iconst (-1), 1) := by decide +kernel
theorem dX4_needOf_1 : decode cX4_needOf 1 = .ok (.istore 4, 2) := by decide +kernel
theorem dX4_needOf_3 : decode cX4_needOf 3 = .ok (.bipush 40, 2) := by decide +kernel
theorem dX4_needOf_5 : decode cX4_needOf 5 = .ok (.istore 5, 2) := by decide +kernel
theorem dX4_needOf_7 : decode cX4_needOf 7 = .ok (.iload 5, 2) := by decide +kernel
theorem dX4_needOf_9 : decode cX4_needOf 9 = .ok (.ifCond .lt 30, 3) := by decide +kernel
theorem dX4_needOf_12 : decode cX4_needOf 12 = .ok (.aload_n 0, 1) := by decide +kernel
theorem dX4_needOf_13 : decode cX4_needOf 13 = .ok (.iload_n 1, 1) := by decide +kernel
theorem dX4_needOf_14 : decode cX4_needOf 14 = .ok (.iload_n 2, 1) := by decide +kernel
theorem dX4_needOf_15 : decode cX4_needOf 15 = .ok (.iload 5, 2) := by decide +kernel
theorem dX4_needOf_17 : decode cX4_needOf 17 = .ok (.aload_n 3, 1) := by decide +kernel
theorem dX4_needOf_18 : decode cX4_needOf 18 = .ok (.invokevirtual 184, 3) := by decide +kernel
theorem dX4_needOf_21 : decode cX4_needOf 21 = .ok (.ifCond .eq 8, 3) := by decide +kernel
theorem dX4_needOf_24 : decode cX4_needOf 24 = .ok (.iload 5, 2) := by decide +kernel
theorem dX4_needOf_26 : decode cX4_needOf 26 = .ok (.goto 5, 3) := by decide +kernel
theorem dX4_needOf_29 : decode cX4_needOf 29 = .ok (.iload 4, 2) := by decide +kernel
theorem dX4_needOf_31 : decode cX4_needOf 31 = .ok (.istore 4, 2) := by decide +kernel
theorem dX4_needOf_33 : decode cX4_needOf 33 = .ok (.iinc 5 (-1), 3) := by decide +kernel
theorem dX4_needOf_36 : decode cX4_needOf 36 = .ok (.goto (-29), 3) := by decide +kernel
theorem dX4_needOf_39 : decode cX4_needOf 39 = .ok (.iload 4, 2) := by decide +kernel
theorem dX4_needOf_41 : decode cX4_needOf 41 = .ok (.ireturn, 1) := by decide +kernel
theorem dX4_need_0 : decode cX4_need 0 = .ok (.aload_n 0, 1) := by decide +kernel
theorem dX4_need_1 : decode cX4_need 1 = .ok (.iload_n 1, 1) := by decide +kernel
theorem dX4_need_2 : decode cX4_need 2 = .ok (.invokevirtual 163, 3) := by decide +kernel
theorem dX4_need_5 : decode cX4_need 5 = .ok (.ifCond .eq 15, 3) := by decide +kernel
theorem dX4_need_8 : decode cX4_need 8 = .ok (.iload_n 2, 1) := by decide +kernel
theorem dX4_need_9 : decode cX4_need 9 = .ok (.i2l, 1) := by decide +kernel
theorem dX4_need_10 : decode cX4_need 10 = .ok (.lconst 1, 1) := by decide +kernel
theorem dX4_need_11 : decode cX4_need 11 = .ok (.ldc2_w 166, 3) := by decide +kernel
theorem dX4_need_14 : decode cX4_need 14 = .ok (.invokestatic 43, 3) := by decide +kernel
theorem dX4_need_17 : decode cX4_need 17 = .ok (.ifCond .ne 6, 3) := by decide +kernel
theorem dX4_need_20 : decode cX4_need 20 = .ok (.bipush (-102), 2) := by decide +kernel
theorem dX4_need_22 : decode cX4_need 22 = .ok (.ireturn, 1) := by decide +kernel
theorem dX4_need_23 : decode cX4_need 23 = .ok (.iload_n 1, 1) := by decide +kernel
theorem dX4_need_24 : decode cX4_need 24 = .ok (.aload_n 0, 1) := by decide +kernel
theorem dX4_need_25 : decode cX4_need 25 = .ok (.getfield 72, 3) := by decide +kernel
theorem dX4_need_28 : decode cX4_need 28 = .ok (.iconst (-1), 1) := by decide +kernel
theorem dX4_need_29 : decode cX4_need 29 = .ok (.ixor, 1) := by decide +kernel
theorem dX4_need_30 : decode cX4_need 30 = .ok (.iand, 1) := by decide +kernel
theorem dX4_need_31 : decode cX4_need 31 = .ok (.ifCond .eq 8, 3) := by decide +kernel
theorem dX4_need_34 : decode cX4_need 34 = .ok (.bipush (-103), 2) := by decide +kernel
theorem dX4_need_36 : decode cX4_need 36 = .ok (.goto 13, 3) := by decide +kernel
theorem dX4_need_39 : decode cX4_need 39 = .ok (.aload_n 0, 1) := by decide +kernel
theorem dX4_need_40 : decode cX4_need 40 = .ok (.iload_n 1, 1) := by decide +kernel
theorem dX4_need_41 : decode cX4_need 41 = .ok (.iload_n 2, 1) := by decide +kernel
theorem dX4_need_42 : decode cX4_need 42 = .ok (.aload_n 0, 1) := by decide +kernel
theorem dX4_need_43 : decode cX4_need 43 = .ok (.getfield 16, 3) := by decide +kernel
theorem dX4_need_46 : decode cX4_need 46 = .ok (.invokevirtual 188, 3) := by decide +kernel
theorem dX4_need_49 : decode cX4_need 49 = .ok (.ireturn, 1) := by decide +kernel
theorem dX4_farOf_0 : decode cX4_farOf 0 = .ok (.iconst 0, 1) := by decide +kernel
theorem dX4_farOf_1 : decode cX4_farOf 1 = .ok (.istore_n 3, 1) := by decide +kernel
theorem dX4_farOf_2 : decode cX4_farOf 2 = .ok (.iconst 1, 1) := by decide +kernel
theorem dX4_farOf_3 : decode cX4_farOf 3 = .ok (.istore 4, 2) := by decide +kernel
theorem dX4_farOf_5 : decode cX4_farOf 5 = .ok (.iload 4, 2) := by decide +kernel
theorem dX4_farOf_7 : decode cX4_farOf 7 = .ok (.bipush 7, 2) := by decide +kernel
theorem dX4_farOf_9 : decode cX4_farOf 9 = .ok (.if_icmp .ge 28, 3) := by decide +kernel
theorem dX4_farOf_12 : decode cX4_farOf 12 = .ok (.aload_n 0, 1) := by decide +kernel
theorem dX4_farOf_13 : decode cX4_farOf 13 = .ok (.iload_n 1, 1) := by decide +kernel
theorem dX4_farOf_14 : decode cX4_farOf 14 = .ok (.iload 4, 2) := by decide +kernel
theorem dX4_farOf_16 : decode cX4_farOf 16 = .ok (.aload_n 2, 1) := by decide +kernel
theorem dX4_farOf_17 : decode cX4_farOf 17 = .ok (.invokevirtual 188, 3) := by decide +kernel
theorem dX4_farOf_20 : decode cX4_farOf 20 = .ok (.iconst (-1), 1) := by decide +kernel
theorem dX4_farOf_21 : decode cX4_farOf 21 = .ok (.if_icmp .ne 7, 3) := by decide +kernel
theorem dX4_farOf_24 : decode cX4_farOf 24 = .ok (.iload_n 3, 1) := by decide +kernel
theorem dX4_farOf_25 : decode cX4_farOf 25 = .ok (.goto 5, 3) := by decide +kernel
theorem dX4_farOf_28 : decode cX4_farOf 28 = .ok (.iload 4, 2) := by decide +kernel
theorem dX4_farOf_30 : decode cX4_farOf 30 = .ok (.istore_n 3, 1) := by decide +kernel
theorem dX4_farOf_31 : decode cX4_farOf 31 = .ok (.iinc 4 1, 3) := by decide +kernel
theorem dX4_farOf_34 : decode cX4_farOf 34 = .ok (.goto (-29), 3) := by decide +kernel
theorem dX4_farOf_37 : decode cX4_farOf 37 = .ok (.iload_n 3, 1) := by decide +kernel
theorem dX4_farOf_38 : decode cX4_farOf 38 = .ok (.ireturn, 1) := by decide +kernel
theorem dX4_far_0 : decode cX4_far 0 = .ok (.aload_n 0, 1) := by decide +kernel
theorem dX4_far_1 : decode cX4_far 1 = .ok (.iload_n 1, 1) := by decide +kernel
theorem dX4_far_2 : decode cX4_far 2 = .ok (.invokevirtual 163, 3) := by decide +kernel
theorem dX4_far_5 : decode cX4_far 5 = .ok (.ifCond .ne 6, 3) := by decide +kernel
theorem dX4_far_8 : decode cX4_far 8 = .ok (.bipush (-102), 2) := by decide +kernel
theorem dX4_far_10 : decode cX4_far 10 = .ok (.ireturn, 1) := by decide +kernel
theorem dX4_far_11 : decode cX4_far 11 = .ok (.iload_n 1, 1) := by decide +kernel
theorem dX4_far_12 : decode cX4_far 12 = .ok (.aload_n 0, 1) := by decide +kernel
theorem dX4_far_13 : decode cX4_far 13 = .ok (.getfield 72, 3) := by decide +kernel
theorem dX4_far_16 : decode cX4_far 16 = .ok (.iconst (-1), 1) := by decide +kernel
theorem dX4_far_17 : decode cX4_far 17 = .ok (.ixor, 1) := by decide +kernel
theorem dX4_far_18 : decode cX4_far 18 = .ok (.iand, 1) := by decide +kernel
theorem dX4_far_19 : decode cX4_far 19 = .ok (.ifCond .eq 8, 3) := by decide +kernel
theorem dX4_far_22 : decode cX4_far 22 = .ok (.bipush (-103), 2) := by decide +kernel
theorem dX4_far_24 : decode cX4_far 24 = .ok (.goto 12, 3) := by decide +kernel
theorem dX4_far_27 : decode cX4_far 27 = .ok (.aload_n 0, 1) := by decide +kernel
theorem dX4_far_28 : decode cX4_far 28 = .ok (.iload_n 1, 1) := by decide +kernel
theorem dX4_far_29 : decode cX4_far 29 = .ok (.aload_n 0, 1) := by decide +kernel
theorem dX4_far_30 : decode cX4_far 30 = .ok (.getfield 16, 3) := by decide +kernel
theorem dX4_far_33 : decode cX4_far 33 = .ok (.invokevirtual 192, 3) := by decide +kernel
theorem dX4_far_36 : decode cX4_far 36 = .ok (.ireturn, 1) := by decide +kernel
theorem dX4_teamOf_0 : decode cX4_teamOf 0 = .ok (.iconst (-1), 1) := by decide +kernel
theorem dX4_teamOf_1 : decode cX4_teamOf 1 = .ok (.istore_n 2, 1) := by decide +kernel
theorem dX4_teamOf_2 : decode cX4_teamOf 2 = .ok (.iconst 1, 1) := by decide +kernel
theorem dX4_teamOf_3 : decode cX4_teamOf 3 = .ok (.istore_n 3, 1) := by decide +kernel
theorem dX4_teamOf_4 : decode cX4_teamOf 4 = .ok (.iload_n 3, 1) := by decide +kernel
theorem dX4_teamOf_5 : decode cX4_teamOf 5 = .ok (.iconst 1, 1) := by decide +kernel
theorem dX4_teamOf_6 : decode cX4_teamOf 6 = .ok (.aload_n 0, 1) := by decide +kernel
theorem dX4_teamOf_7 : decode cX4_teamOf 7 = .ok (.getfield 69, 3) := by decide +kernel
theorem dX4_teamOf_10 : decode cX4_teamOf 10 = .ok (.ishl, 1) := by decide +kernel
theorem dX4_teamOf_11 : decode cX4_teamOf 11 = .ok (.if_icmp .ge 68, 3) := by decide +kernel
theorem dX4_teamOf_14 : decode cX4_teamOf 14 = .ok (.iload_n 3, 1) := by decide +kernel
theorem dX4_teamOf_15 : decode cX4_teamOf 15 = .ok (.aload_n 0, 1) := by decide +kernel
theorem dX4_teamOf_16 : decode cX4_teamOf 16 = .ok (.getfield 72, 3) := by decide +kernel
theorem dX4_teamOf_19 : decode cX4_teamOf 19 = .ok (.iconst (-1), 1) := by decide +kernel
theorem dX4_teamOf_20 : decode cX4_teamOf 20 = .ok (.ixor, 1) := by decide +kernel
theorem dX4_teamOf_21 : decode cX4_teamOf 21 = .ok (.iand, 1) := by decide +kernel
theorem dX4_teamOf_22 : decode cX4_teamOf 22 = .ok (.ifCond .ne 23, 3) := by decide +kernel
theorem dX4_teamOf_25 : decode cX4_teamOf 25 = .ok (.iload_n 2, 1) := by decide +kernel
theorem dX4_teamOf_26 : decode cX4_teamOf 26 = .ok (.iconst (-1), 1) := by decide +kernel
theorem dX4_teamOf_27 : decode cX4_teamOf 27 = .ok (.if_icmp .eq 14, 3) := by decide +kernel
theorem dX4_teamOf_30 : decode cX4_teamOf 30 = .ok (.iload_n 3, 1) := by decide +kernel
theorem dX4_teamOf_31 : decode cX4_teamOf 31 = .ok (.invokestatic 196, 3) := by decide +kernel
theorem dX4_teamOf_34 : decode cX4_teamOf 34 = .ok (.iload_n 2, 1) := by decide +kernel
theorem dX4_teamOf_35 : decode cX4_teamOf 35 = .ok (.invokestatic 196, 3) := by decide +kernel
theorem dX4_teamOf_38 : decode cX4_teamOf 38 = .ok (.if_icmp .ge 7, 3) := by decide +kernel
theorem dX4_teamOf_41 : decode cX4_teamOf 41 = .ok (.iconst 1, 1) := by decide +kernel
theorem dX4_teamOf_42 : decode cX4_teamOf 42 = .ok (.goto 4, 3) := by decide +kernel
theorem dX4_teamOf_45 : decode cX4_teamOf 45 = .ok (.iconst 0, 1) := by decide +kernel
theorem dX4_teamOf_46 : decode cX4_teamOf 46 = .ok (.istore 4, 2) := by decide +kernel
theorem dX4_teamOf_48 : decode cX4_teamOf 48 = .ok (.iload 4, 2) := by decide +kernel
theorem dX4_teamOf_50 : decode cX4_teamOf 50 = .ok (.ifCond .eq 21, 3) := by decide +kernel
theorem dX4_teamOf_53 : decode cX4_teamOf 53 = .ok (.aload_n 0, 1) := by decide +kernel
theorem dX4_teamOf_54 : decode cX4_teamOf 54 = .ok (.iload_n 3, 1) := by decide +kernel
theorem dX4_teamOf_55 : decode cX4_teamOf 55 = .ok (.iload_n 1, 1) := by decide +kernel
theorem dX4_teamOf_56 : decode cX4_teamOf 56 = .ok (.aload_n 0, 1) := by decide +kernel
theorem dX4_teamOf_57 : decode cX4_teamOf 57 = .ok (.getfield 16, 3) := by decide +kernel
theorem dX4_teamOf_60 : decode cX4_teamOf 60 = .ok (.invokevirtual 188, 3) := by decide +kernel
theorem dX4_teamOf_63 : decode cX4_teamOf 63 = .ok (.iconst (-1), 1) := by decide +kernel
theorem dX4_teamOf_64 : decode cX4_teamOf 64 = .ok (.if_icmp .eq 7, 3) := by decide +kernel
theorem dX4_teamOf_67 : decode cX4_teamOf 67 = .ok (.iload_n 3, 1) := by decide +kernel
theorem dX4_teamOf_68 : decode cX4_teamOf 68 = .ok (.goto 4, 3) := by decide +kernel
theorem dX4_teamOf_71 : decode cX4_teamOf 71 = .ok (.iload_n 2, 1) := by decide +kernel
theorem dX4_teamOf_72 : decode cX4_teamOf 72 = .ok (.istore_n 2, 1) := by decide +kernel
theorem dX4_teamOf_73 : decode cX4_teamOf 73 = .ok (.iinc 3 1, 3) := by decide +kernel
theorem dX4_teamOf_76 : decode cX4_teamOf 76 = .ok (.goto (-72), 3) := by decide +kernel
theorem dX4_teamOf_79 : decode cX4_teamOf 79 = .ok (.iload_n 2, 1) := by decide +kernel
theorem dX4_teamOf_80 : decode cX4_teamOf 80 = .ok (.ireturn, 1) := by decide +kernel
theorem dX4_team_0 : decode cX4_team 0 = .ok (.iload_n 1, 1) := by decide +kernel
theorem dX4_team_1 : decode cX4_team 1 = .ok (.i2l, 1) := by decide +kernel
theorem dX4_team_2 : decode cX4_team 2 = .ok (.lconst 1, 1) := by decide +kernel
theorem dX4_team_3 : decode cX4_team 3 = .ok (.ldc2_w 166, 3) := by decide +kernel
theorem dX4_team_6 : decode cX4_team 6 = .ok (.invokestatic 43, 3) := by decide +kernel
theorem dX4_team_9 : decode cX4_team 9 = .ok (.ifCond .ne 6, 3) := by decide +kernel
theorem dX4_team_12 : decode cX4_team 12 = .ok (.bipush (-102), 2) := by decide +kernel
theorem dX4_team_14 : decode cX4_team 14 = .ok (.ireturn, 1) := by decide +kernel
theorem dX4_team_15 : decode cX4_team 15 = .ok (.aload_n 0, 1) := by decide +kernel
theorem dX4_team_16 : decode cX4_team 16 = .ok (.invokevirtual 87, 3) := by decide +kernel
theorem dX4_team_19 : decode cX4_team 19 = .ok (.ifCond .ne 12, 3) := by decide +kernel
theorem dX4_team_22 : decode cX4_team 22 = .ok (.aload_n 0, 1) := by decide +kernel
theorem dX4_team_23 : decode cX4_team 23 = .ok (.getfield 199, 3) := by decide +kernel
theorem dX4_team_26 : decode cX4_team 26 = .ok (.bipush 20, 2) := by decide +kernel
theorem dX4_team_28 : decode cX4_team 28 = .ok (.if_icmp .ne 6, 3) := by decide +kernel
theorem dX4_team_31 : decode cX4_team 31 = .ok (.bipush (-103), 2) := by decide +kernel
theorem dX4_team_33 : decode cX4_team 33 = .ok (.ireturn, 1) := by decide +kernel
theorem dX4_team_34 : decode cX4_team 34 = .ok (.aload_n 0, 1) := by decide +kernel
theorem dX4_team_35 : decode cX4_team 35 = .ok (.dup, 1) := by decide +kernel
theorem dX4_team_36 : decode cX4_team 36 = .ok (.getfield 199, 3) := by decide +kernel
theorem dX4_team_39 : decode cX4_team 39 = .ok (.iconst 1, 1) := by decide +kernel
theorem dX4_team_40 : decode cX4_team 40 = .ok (.iadd, 1) := by decide +kernel
theorem dX4_team_41 : decode cX4_team 41 = .ok (.putfield 199, 3) := by decide +kernel
theorem dX4_team_44 : decode cX4_team 44 = .ok (.aload_n 0, 1) := by decide +kernel
theorem dX4_team_45 : decode cX4_team 45 = .ok (.iload_n 1, 1) := by decide +kernel
theorem dX4_team_46 : decode cX4_team 46 = .ok (.invokevirtual 202, 3) := by decide +kernel
theorem dX4_team_49 : decode cX4_team 49 = .ok (.ireturn, 1) := by decide +kernel
theorem dX4_hear_0 : decode cX4_hear 0 = .ok (.aload_n 0, 1) := by decide +kernel
theorem dX4_hear_1 : decode cX4_hear 1 = .ok (.iload_n 1, 1) := by decide +kernel
theorem dX4_hear_2 : decode cX4_hear 2 = .ok (.iload_n 2, 1) := by decide +kernel
theorem dX4_hear_3 : decode cX4_hear 3 = .ok (.iload_n 3, 1) := by decide +kernel
theorem dX4_hear_4 : decode cX4_hear 4 = .ok (.invokevirtual 170, 3) := by decide +kernel
theorem dX4_hear_7 : decode cX4_hear 7 = .ok (.ifCond .ne 6, 3) := by decide +kernel
theorem dX4_hear_10 : decode cX4_hear 10 = .ok (.bipush (-102), 2) := by decide +kernel
theorem dX4_hear_12 : decode cX4_hear 12 = .ok (.ireturn, 1) := by decide +kernel
theorem dX4_hear_13 : decode cX4_hear 13 = .ok (.aload_n 0, 1) := by decide +kernel
theorem dX4_hear_14 : decode cX4_hear 14 = .ok (.getfield 81, 3) := by decide +kernel
theorem dX4_hear_17 : decode cX4_hear 17 = .ok (.bipush 6, 2) := by decide +kernel
theorem dX4_hear_19 : decode cX4_hear 19 = .ok (.if_icmp .ne 6, 3) := by decide +kernel
theorem dX4_hear_22 : decode cX4_hear 22 = .ok (.bipush (-104), 2) := by decide +kernel
theorem dX4_hear_24 : decode cX4_hear 24 = .ok (.ireturn, 1) := by decide +kernel
theorem dX4_hear_25 : decode cX4_hear 25 = .ok (.aload_n 0, 1) := by decide +kernel
theorem dX4_hear_26 : decode cX4_hear 26 = .ok (.getfield 22, 3) := by decide +kernel
theorem dX4_hear_29 : decode cX4_hear 29 = .ok (.iconst 4, 1) := by decide +kernel
theorem dX4_hear_30 : decode cX4_hear 30 = .ok (.aload_n 0, 1) := by decide +kernel
theorem dX4_hear_31 : decode cX4_hear 31 = .ok (.getfield 81, 3) := by decide +kernel
theorem dX4_hear_34 : decode cX4_hear 34 = .ok (.imul, 1) := by decide +kernel
theorem dX4_hear_35 : decode cX4_hear 35 = .ok (.iload_n 1, 1) := by decide +kernel
theorem dX4_hear_36 : decode cX4_hear 36 = .ok (.iastore, 1) := by decide +kernel
theorem dX4_hear_37 : decode cX4_hear 37 = .ok (.aload_n 0, 1) := by decide +kernel
theorem dX4_hear_38 : decode cX4_hear 38 = .ok (.getfield 22, 3) := by decide +kernel
theorem dX4_hear_41 : decode cX4_hear 41 = .ok (.iconst 4, 1) := by decide +kernel
theorem dX4_hear_42 : decode cX4_hear 42 = .ok (.aload_n 0, 1) := by decide +kernel
theorem dX4_hear_43 : decode cX4_hear 43 = .ok (.getfield 81, 3) := by decide +kernel
theorem dX4_hear_46 : decode cX4_hear 46 = .ok (.imul, 1) := by decide +kernel
theorem dX4_hear_47 : decode cX4_hear 47 = .ok (.iconst 1, 1) := by decide +kernel
theorem dX4_hear_48 : decode cX4_hear 48 = .ok (.iadd, 1) := by decide +kernel
theorem dX4_hear_49 : decode cX4_hear 49 = .ok (.iload_n 2, 1) := by decide +kernel
theorem dX4_hear_50 : decode cX4_hear 50 = .ok (.iastore, 1) := by decide +kernel
theorem dX4_hear_51 : decode cX4_hear 51 = .ok (.aload_n 0, 1) := by decide +kernel
theorem dX4_hear_52 : decode cX4_hear 52 = .ok (.getfield 22, 3) := by decide +kernel
theorem dX4_hear_55 : decode cX4_hear 55 = .ok (.iconst 4, 1) := by decide +kernel
theorem dX4_hear_56 : decode cX4_hear 56 = .ok (.aload_n 0, 1) := by decide +kernel
theorem dX4_hear_57 : decode cX4_hear 57 = .ok (.getfield 81, 3) := by decide +kernel
theorem dX4_hear_60 : decode cX4_hear 60 = .ok (.imul, 1) := by decide +kernel
theorem dX4_hear_61 : decode cX4_hear 61 = .ok (.iconst 2, 1) := by decide +kernel
theorem dX4_hear_62 : decode cX4_hear 62 = .ok (.iadd, 1) := by decide +kernel
theorem dX4_hear_63 : decode cX4_hear 63 = .ok (.iload_n 3, 1) := by decide +kernel
theorem dX4_hear_64 : decode cX4_hear 64 = .ok (.iastore, 1) := by decide +kernel
theorem dX4_hear_65 : decode cX4_hear 65 = .ok (.aload_n 0, 1) := by decide +kernel
theorem dX4_hear_66 : decode cX4_hear 66 = .ok (.getfield 22, 3) := by decide +kernel
theorem dX4_hear_69 : decode cX4_hear 69 = .ok (.iconst 4, 1) := by decide +kernel
theorem dX4_hear_70 : decode cX4_hear 70 = .ok (.aload_n 0, 1) := by decide +kernel
theorem dX4_hear_71 : decode cX4_hear 71 = .ok (.getfield 81, 3) := by decide +kernel
theorem dX4_hear_74 : decode cX4_hear 74 = .ok (.imul, 1) := by decide +kernel
theorem dX4_hear_75 : decode cX4_hear 75 = .ok (.iconst 3, 1) := by decide +kernel
theorem dX4_hear_76 : decode cX4_hear 76 = .ok (.iadd, 1) := by decide +kernel
theorem dX4_hear_77 : decode cX4_hear 77 = .ok (.iload 4, 2) := by decide +kernel
theorem dX4_hear_79 : decode cX4_hear 79 = .ok (.ifCond .eq 7, 3) := by decide +kernel
theorem dX4_hear_82 : decode cX4_hear 82 = .ok (.iconst 1, 1) := by decide +kernel
theorem dX4_hear_83 : decode cX4_hear 83 = .ok (.goto 4, 3) := by decide +kernel
theorem dX4_hear_86 : decode cX4_hear 86 = .ok (.iconst 0, 1) := by decide +kernel
theorem dX4_hear_87 : decode cX4_hear 87 = .ok (.iastore, 1) := by decide +kernel
theorem dX4_hear_88 : decode cX4_hear 88 = .ok (.aload_n 0, 1) := by decide +kernel
theorem dX4_hear_89 : decode cX4_hear 89 = .ok (.dup, 1) := by decide +kernel
theorem dX4_hear_90 : decode cX4_hear 90 = .ok (.getfield 81, 3) := by decide +kernel
theorem dX4_hear_93 : decode cX4_hear 93 = .ok (.iconst 1, 1) := by decide +kernel
theorem dX4_hear_94 : decode cX4_hear 94 = .ok (.iadd, 1) := by decide +kernel
theorem dX4_hear_95 : decode cX4_hear 95 = .ok (.putfield 81, 3) := by decide +kernel
theorem dX4_hear_98 : decode cX4_hear 98 = .ok (.aload_n 0, 1) := by decide +kernel
theorem dX4_hear_99 : decode cX4_hear 99 = .ok (.getfield 81, 3) := by decide +kernel
theorem dX4_hear_102 : decode cX4_hear 102 = .ok (.ireturn, 1) := by decide +kernel
theorem dX4_forget_0 : decode cX4_forget 0 = .ok (.aload_n 0, 1) := by decide +kernel
theorem dX4_forget_1 : decode cX4_forget 1 = .ok (.getfield 81, 3) := by decide +kernel
theorem dX4_forget_4 : decode cX4_forget 4 = .ok (.istore_n 1, 1) := by decide +kernel
theorem dX4_forget_5 : decode cX4_forget 5 = .ok (.aload_n 0, 1) := by decide +kernel
theorem dX4_forget_6 : decode cX4_forget 6 = .ok (.iconst 0, 1) := by decide +kernel
theorem dX4_forget_7 : decode cX4_forget 7 = .ok (.putfield 81, 3) := by decide +kernel
theorem dX4_forget_10 : decode cX4_forget 10 = .ok (.iload_n 1, 1) := by decide +kernel
theorem dX4_forget_11 : decode cX4_forget 11 = .ok (.ireturn, 1) := by decide +kernel
theorem dX4_layOf_0 : decode cX4_layOf 0 = .ok (.aload_n 0, 1) := by decide +kernel
theorem dX4_layOf_1 : decode cX4_layOf 1 = .ok (.getfield 16, 3) := by decide +kernel
theorem dX4_layOf_4 : decode cX4_layOf 4 = .ok (.aload_n 0, 1) := by decide +kernel
theorem dX4_layOf_5 : decode cX4_layOf 5 = .ok (.getfield 25, 3) := by decide +kernel
theorem dX4_layOf_8 : decode cX4_layOf 8 = .ok (.invokestatic 148, 3) := by decide +kernel
theorem dX4_layOf_11 : decode cX4_layOf 11 = .ok (.iconst 0, 1) := by decide +kernel
theorem dX4_layOf_12 : decode cX4_layOf 12 = .ok (.istore_n 2, 1) := by decide +kernel
theorem dX4_layOf_13 : decode cX4_layOf 13 = .ok (.iconst 0, 1) := by decide +kernel
theorem dX4_layOf_14 : decode cX4_layOf 14 = .ok (.istore_n 3, 1) := by decide +kernel
theorem dX4_layOf_15 : decode cX4_layOf 15 = .ok (.iload_n 3, 1) := by decide +kernel
theorem dX4_layOf_16 : decode cX4_layOf 16 = .ok (.bipush 10, 2) := by decide +kernel
theorem dX4_layOf_18 : decode cX4_layOf 18 = .ok (.if_icmp .ge 124, 3) := by decide +kernel
theorem dX4_layOf_21 : decode cX4_layOf 21 = .ok (.aload_n 0, 1) := by decide +kernel
theorem dX4_layOf_22 : decode cX4_layOf 22 = .ok (.getfield 25, 3) := by decide +kernel
theorem dX4_layOf_25 : decode cX4_layOf 25 = .ok (.iload_n 1, 1) := by decide +kernel
theorem dX4_layOf_26 : decode cX4_layOf 26 = .ok (.iload_n 3, 1) := by decide +kernel
theorem dX4_layOf_27 : decode cX4_layOf 27 = .ok (.iastore, 1) := by decide +kernel
theorem dX4_layOf_28 : decode cX4_layOf 28 = .ok (.iconst 1, 1) := by decide +kernel
theorem dX4_layOf_29 : decode cX4_layOf 29 = .ok (.istore 4, 2) := by decide +kernel
theorem dX4_layOf_31 : decode cX4_layOf 31 = .ok (.iconst 0, 1) := by decide +kernel
theorem dX4_layOf_32 : decode cX4_layOf 32 = .ok (.istore 5, 2) := by decide +kernel
theorem dX4_layOf_34 : decode cX4_layOf 34 = .ok (.iload 5, 2) := by decide +kernel
theorem dX4_layOf_36 : decode cX4_layOf 36 = .ok (.iconst 4, 1) := by decide +kernel
theorem dX4_layOf_37 : decode cX4_layOf 37 = .ok (.aload_n 0, 1) := by decide +kernel
theorem dX4_layOf_38 : decode cX4_layOf 38 = .ok (.getfield 81, 3) := by decide +kernel
theorem dX4_layOf_41 : decode cX4_layOf 41 = .ok (.imul, 1) := by decide +kernel
theorem dX4_layOf_42 : decode cX4_layOf 42 = .ok (.if_icmp .ge 79, 3) := by decide +kernel
theorem dX4_layOf_45 : decode cX4_layOf 45 = .ok (.aload_n 0, 1) := by decide +kernel
theorem dX4_layOf_46 : decode cX4_layOf 46 = .ok (.aload_n 0, 1) := by decide +kernel
theorem dX4_layOf_47 : decode cX4_layOf 47 = .ok (.getfield 22, 3) := by decide +kernel
theorem dX4_layOf_50 : decode cX4_layOf 50 = .ok (.iload 5, 2) := by decide +kernel
theorem dX4_layOf_52 : decode cX4_layOf 52 = .ok (.iaload, 1) := by decide +kernel
theorem dX4_layOf_53 : decode cX4_layOf 53 = .ok (.aload_n 0, 1) := by decide +kernel
theorem dX4_layOf_54 : decode cX4_layOf 54 = .ok (.getfield 22, 3) := by decide +kernel
theorem dX4_layOf_57 : decode cX4_layOf 57 = .ok (.iload 5, 2) := by decide +kernel
theorem dX4_layOf_59 : decode cX4_layOf 59 = .ok (.iconst 1, 1) := by decide +kernel
theorem dX4_layOf_60 : decode cX4_layOf 60 = .ok (.iadd, 1) := by decide +kernel
theorem dX4_layOf_61 : decode cX4_layOf 61 = .ok (.iaload, 1) := by decide +kernel
theorem dX4_layOf_62 : decode cX4_layOf 62 = .ok (.aload_n 0, 1) := by decide +kernel
theorem dX4_layOf_63 : decode cX4_layOf 63 = .ok (.getfield 22, 3) := by decide +kernel
theorem dX4_layOf_66 : decode cX4_layOf 66 = .ok (.iload 5, 2) := by decide +kernel
theorem dX4_layOf_68 : decode cX4_layOf 68 = .ok (.iconst 2, 1) := by decide +kernel
theorem dX4_layOf_69 : decode cX4_layOf 69 = .ok (.iadd, 1) := by decide +kernel
theorem dX4_layOf_70 : decode cX4_layOf 70 = .ok (.iaload, 1) := by decide +kernel
theorem dX4_layOf_71 : decode cX4_layOf 71 = .ok (.aload_n 0, 1) := by decide +kernel
theorem dX4_layOf_72 : decode cX4_layOf 72 = .ok (.getfield 25, 3) := by decide +kernel
theorem dX4_layOf_75 : decode cX4_layOf 75 = .ok (.invokevirtual 184, 3) := by decide +kernel
theorem dX4_layOf_78 : decode cX4_layOf 78 = .ok (.istore 6, 2) := by decide +kernel
theorem dX4_layOf_80 : decode cX4_layOf 80 = .ok (.iload 4, 2) := by decide +kernel
theorem dX4_layOf_82 : decode cX4_layOf 82 = .ok (.ifCond .eq 30, 3) := by decide +kernel
theorem dX4_layOf_85 : decode cX4_layOf 85 = .ok (.iload 6, 2) := by decide +kernel
theorem dX4_layOf_87 : decode cX4_layOf 87 = .ok (.aload_n 0, 1) := by decide +kernel
theorem dX4_layOf_88 : decode cX4_layOf 88 = .ok (.getfield 22, 3) := by decide +kernel
theorem dX4_layOf_91 : decode cX4_layOf 91 = .ok (.iload 5, 2) := by decide +kernel
theorem dX4_layOf_93 : decode cX4_layOf 93 = .ok (.iconst 3, 1) := by decide +kernel
theorem dX4_layOf_94 : decode cX4_layOf 94 = .ok (.iadd, 1) := by decide +kernel
theorem dX4_layOf_95 : decode cX4_layOf 95 = .ok (.iaload, 1) := by decide +kernel
theorem dX4_layOf_96 : decode cX4_layOf 96 = .ok (.iconst 1, 1) := by decide +kernel
theorem dX4_layOf_97 : decode cX4_layOf 97 = .ok (.if_icmp .ne 7, 3) := by decide +kernel
theorem dX4_layOf_100 : decode cX4_layOf 100 = .ok (.iconst 1, 1) := by decide +kernel
theorem dX4_layOf_101 : decode cX4_layOf 101 = .ok (.goto 4, 3) := by decide +kernel
theorem dX4_layOf_104 : decode cX4_layOf 104 = .ok (.iconst 0, 1) := by decide +kernel
theorem dX4_layOf_105 : decode cX4_layOf 105 = .ok (.if_icmp .ne 7, 3) := by decide +kernel
theorem dX4_layOf_108 : decode cX4_layOf 108 = .ok (.iconst 1, 1) := by decide +kernel
theorem dX4_layOf_109 : decode cX4_layOf 109 = .ok (.goto 4, 3) := by decide +kernel
theorem dX4_layOf_112 : decode cX4_layOf 112 = .ok (.iconst 0, 1) := by decide +kernel
theorem dX4_layOf_113 : decode cX4_layOf 113 = .ok (.istore 4, 2) := by decide +kernel
theorem dX4_layOf_115 : decode cX4_layOf 115 = .ok (.iinc 5 4, 3) := by decide +kernel
theorem dX4_layOf_118 : decode cX4_layOf 118 = .ok (.goto (-84), 3) := by decide +kernel
theorem dX4_layOf_121 : decode cX4_layOf 121 = .ok (.iload_n 2, 1) := by decide +kernel
theorem dX4_layOf_122 : decode cX4_layOf 122 = .ok (.iload 4, 2) := by decide +kernel
theorem dX4_layOf_124 : decode cX4_layOf 124 = .ok (.ifCond .eq 9, 3) := by decide +kernel
theorem dX4_layOf_127 : decode cX4_layOf 127 = .ok (.iconst 1, 1) := by decide +kernel
theorem dX4_layOf_128 : decode cX4_layOf 128 = .ok (.iload_n 3, 1) := by decide +kernel
theorem dX4_layOf_129 : decode cX4_layOf 129 = .ok (.ishl, 1) := by decide +kernel
theorem dX4_layOf_130 : decode cX4_layOf 130 = .ok (.goto 4, 3) := by decide +kernel
theorem dX4_layOf_133 : decode cX4_layOf 133 = .ok (.iconst 0, 1) := by decide +kernel
theorem dX4_layOf_134 : decode cX4_layOf 134 = .ok (.ior, 1) := by decide +kernel
theorem dX4_layOf_135 : decode cX4_layOf 135 = .ok (.istore_n 2, 1) := by decide +kernel
theorem dX4_layOf_136 : decode cX4_layOf 136 = .ok (.iinc 3 1, 3) := by decide +kernel
theorem dX4_layOf_139 : decode cX4_layOf 139 = .ok (.goto (-124), 3) := by decide +kernel
theorem dX4_layOf_142 : decode cX4_layOf 142 = .ok (.iload_n 2, 1) := by decide +kernel
theorem dX4_layOf_143 : decode cX4_layOf 143 = .ok (.ireturn, 1) := by decide +kernel
theorem dX4_tryOf_0 : decode cX4_tryOf 0 = .ok (.aload_n 0, 1) := by decide +kernel
theorem dX4_tryOf_1 : decode cX4_tryOf 1 = .ok (.iload_n 1, 1) := by decide +kernel
theorem dX4_tryOf_2 : decode cX4_tryOf 2 = .ok (.invokevirtual 111, 3) := by decide +kernel
theorem dX4_tryOf_5 : decode cX4_tryOf 5 = .ok (.istore_n 2, 1) := by decide +kernel
theorem dX4_tryOf_6 : decode cX4_tryOf 6 = .ok (.iconst (-1), 1) := by decide +kernel
theorem dX4_tryOf_7 : decode cX4_tryOf 7 = .ok (.istore_n 3, 1) := by decide +kernel
theorem dX4_tryOf_8 : decode cX4_tryOf 8 = .ok (.bipush 11, 2) := by decide +kernel
theorem dX4_tryOf_10 : decode cX4_tryOf 10 = .ok (.istore 4, 2) := by decide +kernel
theorem dX4_tryOf_12 : decode cX4_tryOf 12 = .ok (.iconst 0, 1) := by decide +kernel
theorem dX4_tryOf_13 : decode cX4_tryOf 13 = .ok (.istore 5, 2) := by decide +kernel
theorem dX4_tryOf_15 : decode cX4_tryOf 15 = .ok (.iload 5, 2) := by decide +kernel
theorem dX4_tryOf_17 : decode cX4_tryOf 17 = .ok (.bipush 41, 2) := by decide +kernel
theorem dX4_tryOf_19 : decode cX4_tryOf 19 = .ok (.if_icmp .ge 144, 3) := by decide +kernel
theorem dX4_tryOf_22 : decode cX4_tryOf 22 = .ok (.iload_n 2, 1) := by decide +kernel
theorem dX4_tryOf_23 : decode cX4_tryOf 23 = .ok (.ifCond .eq 140, 3) := by decide +kernel
theorem dX4_tryOf_26 : decode cX4_tryOf 26 = .ok (.iconst 0, 1) := by decide +kernel
theorem dX4_tryOf_27 : decode cX4_tryOf 27 = .ok (.istore 6, 2) := by decide +kernel
theorem dX4_tryOf_29 : decode cX4_tryOf 29 = .ok (.iconst 0, 1) := by decide +kernel
theorem dX4_tryOf_30 : decode cX4_tryOf 30 = .ok (.istore 7, 2) := by decide +kernel
theorem dX4_tryOf_32 : decode cX4_tryOf 32 = .ok (.iconst 0, 1) := by decide +kernel
theorem dX4_tryOf_33 : decode cX4_tryOf 33 = .ok (.istore 8, 2) := by decide +kernel
theorem dX4_tryOf_35 : decode cX4_tryOf 35 = .ok (.iload 8, 2) := by decide +kernel
theorem dX4_tryOf_37 : decode cX4_tryOf 37 = .ok (.bipush 10, 2) := by decide +kernel
theorem dX4_tryOf_39 : decode cX4_tryOf 39 = .ok (.if_icmp .ge 66, 3) := by decide +kernel
theorem dX4_tryOf_42 : decode cX4_tryOf 42 = .ok (.aload_n 0, 1) := by decide +kernel
theorem dX4_tryOf_43 : decode cX4_tryOf 43 = .ok (.getfield 25, 3) := by decide +kernel
theorem dX4_tryOf_46 : decode cX4_tryOf 46 = .ok (.iload_n 1, 1) := by decide +kernel
theorem dX4_tryOf_47 : decode cX4_tryOf 47 = .ok (.iload 8, 2) := by decide +kernel
theorem dX4_tryOf_49 : decode cX4_tryOf 49 = .ok (.iastore, 1) := by decide +kernel
theorem dX4_tryOf_50 : decode cX4_tryOf 50 = .ok (.iload 7, 2) := by decide +kernel
theorem dX4_tryOf_52 : decode cX4_tryOf 52 = .ok (.iload_n 2, 1) := by decide +kernel
theorem dX4_tryOf_53 : decode cX4_tryOf 53 = .ok (.iload 8, 2) := by decide +kernel
theorem dX4_tryOf_55 : decode cX4_tryOf 55 = .ok (.ishr, 1) := by decide +kernel
theorem dX4_tryOf_56 : decode cX4_tryOf 56 = .ok (.iconst 1, 1) := by decide +kernel
theorem dX4_tryOf_57 : decode cX4_tryOf 57 = .ok (.iand, 1) := by decide +kernel
theorem dX4_tryOf_58 : decode cX4_tryOf 58 = .ok (.iadd, 1) := by decide +kernel
theorem dX4_tryOf_59 : decode cX4_tryOf 59 = .ok (.istore 7, 2) := by decide +kernel
theorem dX4_tryOf_61 : decode cX4_tryOf 61 = .ok (.iload 6, 2) := by decide +kernel
theorem dX4_tryOf_63 : decode cX4_tryOf 63 = .ok (.aload_n 0, 1) := by decide +kernel
theorem dX4_tryOf_64 : decode cX4_tryOf 64 = .ok (.iconst 1, 1) := by decide +kernel
theorem dX4_tryOf_65 : decode cX4_tryOf 65 = .ok (.aload_n 0, 1) := by decide +kernel
theorem dX4_tryOf_66 : decode cX4_tryOf 66 = .ok (.getfield 69, 3) := by decide +kernel
theorem dX4_tryOf_69 : decode cX4_tryOf 69 = .ok (.ishl, 1) := by decide +kernel
theorem dX4_tryOf_70 : decode cX4_tryOf 70 = .ok (.iconst 1, 1) := by decide +kernel
theorem dX4_tryOf_71 : decode cX4_tryOf 71 = .ok (.isub, 1) := by decide +kernel
theorem dX4_tryOf_72 : decode cX4_tryOf 72 = .ok (.bipush 6, 2) := by decide +kernel
theorem dX4_tryOf_74 : decode cX4_tryOf 74 = .ok (.iload 5, 2) := by decide +kernel
theorem dX4_tryOf_76 : decode cX4_tryOf 76 = .ok (.aload_n 0, 1) := by decide +kernel
theorem dX4_tryOf_77 : decode cX4_tryOf 77 = .ok (.getfield 25, 3) := by decide +kernel
theorem dX4_tryOf_80 : decode cX4_tryOf 80 = .ok (.invokevirtual 184, 3) := by decide +kernel
theorem dX4_tryOf_83 : decode cX4_tryOf 83 = .ok (.ifCond .eq 12, 3) := by decide +kernel
theorem dX4_tryOf_86 : decode cX4_tryOf 86 = .ok (.iload_n 2, 1) := by decide +kernel
theorem dX4_tryOf_87 : decode cX4_tryOf 87 = .ok (.iload 8, 2) := by decide +kernel
theorem dX4_tryOf_89 : decode cX4_tryOf 89 = .ok (.ishr, 1) := by decide +kernel
theorem dX4_tryOf_90 : decode cX4_tryOf 90 = .ok (.iconst 1, 1) := by decide +kernel
theorem dX4_tryOf_91 : decode cX4_tryOf 91 = .ok (.iand, 1) := by decide +kernel
theorem dX4_tryOf_92 : decode cX4_tryOf 92 = .ok (.goto 4, 3) := by decide +kernel
theorem dX4_tryOf_95 : decode cX4_tryOf 95 = .ok (.iconst 0, 1) := by decide +kernel
theorem dX4_tryOf_96 : decode cX4_tryOf 96 = .ok (.iadd, 1) := by decide +kernel
theorem dX4_tryOf_97 : decode cX4_tryOf 97 = .ok (.istore 6, 2) := by decide +kernel
theorem dX4_tryOf_99 : decode cX4_tryOf 99 = .ok (.iinc 8 1, 3) := by decide +kernel
theorem dX4_tryOf_102 : decode cX4_tryOf 102 = .ok (.goto (-67), 3) := by decide +kernel
theorem dX4_tryOf_105 : decode cX4_tryOf 105 = .ok (.iload 6, 2) := by decide +kernel
theorem dX4_tryOf_107 : decode cX4_tryOf 107 = .ok (.iload 7, 2) := by decide +kernel
theorem dX4_tryOf_109 : decode cX4_tryOf 109 = .ok (.iload 6, 2) := by decide +kernel
theorem dX4_tryOf_111 : decode cX4_tryOf 111 = .ok (.isub, 1) := by decide +kernel
theorem dX4_tryOf_112 : decode cX4_tryOf 112 = .ok (.if_icmp .le 8, 3) := by decide +kernel
theorem dX4_tryOf_115 : decode cX4_tryOf 115 = .ok (.iload 6, 2) := by decide +kernel
theorem dX4_tryOf_117 : decode cX4_tryOf 117 = .ok (.goto 8, 3) := by decide +kernel
theorem dX4_tryOf_120 : decode cX4_tryOf 120 = .ok (.iload 7, 2) := by decide +kernel
theorem dX4_tryOf_122 : decode cX4_tryOf 122 = .ok (.iload 6, 2) := by decide +kernel
theorem dX4_tryOf_124 : decode cX4_tryOf 124 = .ok (.isub, 1) := by decide +kernel
theorem dX4_tryOf_125 : decode cX4_tryOf 125 = .ok (.istore 8, 2) := by decide +kernel
theorem dX4_tryOf_127 : decode cX4_tryOf 127 = .ok (.iload 8, 2) := by decide +kernel
theorem dX4_tryOf_129 : decode cX4_tryOf 129 = .ok (.iload 4, 2) := by decide +kernel
theorem dX4_tryOf_131 : decode cX4_tryOf 131 = .ok (.if_icmp .ge 8, 3) := by decide +kernel
theorem dX4_tryOf_134 : decode cX4_tryOf 134 = .ok (.iload 5, 2) := by decide +kernel
theorem dX4_tryOf_136 : decode cX4_tryOf 136 = .ok (.goto 4, 3) := by decide +kernel
theorem dX4_tryOf_139 : decode cX4_tryOf 139 = .ok (.iload_n 3, 1) := by decide +kernel
theorem dX4_tryOf_140 : decode cX4_tryOf 140 = .ok (.istore_n 3, 1) := by decide +kernel
theorem dX4_tryOf_141 : decode cX4_tryOf 141 = .ok (.iload 8, 2) := by decide +kernel
theorem dX4_tryOf_143 : decode cX4_tryOf 143 = .ok (.iload 4, 2) := by decide +kernel
theorem dX4_tryOf_145 : decode cX4_tryOf 145 = .ok (.if_icmp .ge 8, 3) := by decide +kernel
theorem dX4_tryOf_148 : decode cX4_tryOf 148 = .ok (.iload 8, 2) := by decide +kernel
theorem dX4_tryOf_150 : decode cX4_tryOf 150 = .ok (.goto 5, 3) := by decide +kernel
theorem dX4_tryOf_153 : decode cX4_tryOf 153 = .ok (.iload 4, 2) := by decide +kernel
theorem dX4_tryOf_155 : decode cX4_tryOf 155 = .ok (.istore 4, 2) := by decide +kernel
theorem dX4_tryOf_157 : decode cX4_tryOf 157 = .ok (.iinc 5 1, 3) := by decide +kernel
theorem dX4_tryOf_160 : decode cX4_tryOf 160 = .ok (.goto (-145), 3) := by decide +kernel
theorem dX4_tryOf_163 : decode cX4_tryOf 163 = .ok (.iload_n 3, 1) := by decide +kernel
theorem dX4_tryOf_164 : decode cX4_tryOf 164 = .ok (.ireturn, 1) := by decide +kernel
theorem dX4_draw_0 : decode cX4_draw 0 = .ok (.aload_n 0, 1) := by decide +kernel
theorem dX4_draw_1 : decode cX4_draw 1 = .ok (.ldc2_w 205, 3) := by decide +kernel
theorem dX4_draw_4 : decode cX4_draw 4 = .ok (.aload_n 0, 1) := by decide +kernel
theorem dX4_draw_5 : decode cX4_draw 5 = .ok (.getfield 207, 3) := by decide +kernel
theorem dX4_draw_8 : decode cX4_draw 8 = .ok (.i2l, 1) := by decide +kernel
theorem dX4_draw_9 : decode cX4_draw 9 = .ok (.lmul, 1) := by decide +kernel
theorem dX4_draw_10 : decode cX4_draw 10 = .ok (.ldc2_w 210, 3) := by decide +kernel
theorem dX4_draw_13 : decode cX4_draw 13 = .ok (.ladd, 1) := by decide +kernel
theorem dX4_draw_14 : decode cX4_draw 14 = .ok (.ldc2_w 212, 3) := by decide +kernel
theorem dX4_draw_17 : decode cX4_draw 17 = .ok (.land, 1) := by decide +kernel
theorem dX4_draw_18 : decode cX4_draw 18 = .ok (.l2i, 1) := by decide +kernel
theorem dX4_draw_19 : decode cX4_draw 19 = .ok (.putfield 207, 3) := by decide +kernel
theorem dX4_draw_22 : decode cX4_draw 22 = .ok (.aload_n 0, 1) := by decide +kernel
theorem dX4_draw_23 : decode cX4_draw 23 = .ok (.getfield 207, 3) := by decide +kernel
theorem dX4_draw_26 : decode cX4_draw 26 = .ok (.ldc 214, 2) := by decide +kernel
theorem dX4_draw_28 : decode cX4_draw 28 = .ok (.idiv, 1) := by decide +kernel
theorem dX4_draw_29 : decode cX4_draw 29 = .ok (.iload_n 1, 1) := by decide +kernel
theorem dX4_draw_30 : decode cX4_draw 30 = .ok (.irem, 1) := by decide +kernel
theorem dX4_draw_31 : decode cX4_draw 31 = .ok (.ireturn, 1) := by decide +kernel
theorem dX4_winters_0 : decode cX4_winters 0 = .ok (.iload_n 1, 1) := by decide +kernel
theorem dX4_winters_1 : decode cX4_winters 1 = .ok (.i2l, 1) := by decide +kernel
theorem dX4_winters_2 : decode cX4_winters 2 = .ok (.lconst 1, 1) := by decide +kernel
theorem dX4_winters_3 : decode cX4_winters 3 = .ok (.ldc2_w 215, 3) := by decide +kernel
theorem dX4_winters_6 : decode cX4_winters 6 = .ok (.invokestatic 43, 3) := by decide +kernel
theorem dX4_winters_9 : decode cX4_winters 9 = .ok (.ifCond .eq 19, 3) := by decide +kernel
theorem dX4_winters_12 : decode cX4_winters 12 = .ok (.iload_n 2, 1) := by decide +kernel
theorem dX4_winters_13 : decode cX4_winters 13 = .ok (.ifCond .lt 15, 3) := by decide +kernel
theorem dX4_winters_16 : decode cX4_winters 16 = .ok (.iload_n 3, 1) := by decide +kernel
theorem dX4_winters_17 : decode cX4_winters 17 = .ok (.i2l, 1) := by decide +kernel
theorem dX4_winters_18 : decode cX4_winters 18 = .ok (.lconst 0, 1) := by decide +kernel
theorem dX4_winters_19 : decode cX4_winters 19 = .ok (.ldc2_w 217, 3) := by decide +kernel
theorem dX4_winters_22 : decode cX4_winters 22 = .ok (.invokestatic 43, 3) := by decide +kernel
theorem dX4_winters_25 : decode cX4_winters 25 = .ok (.ifCond .ne 6, 3) := by decide +kernel
theorem dX4_winters_28 : decode cX4_winters 28 = .ok (.bipush (-102), 2) := by decide +kernel
theorem dX4_winters_30 : decode cX4_winters 30 = .ok (.ireturn, 1) := by decide +kernel
theorem dX4_winters_31 : decode cX4_winters 31 = .ok (.aload_n 0, 1) := by decide +kernel
theorem dX4_winters_32 : decode cX4_winters 32 = .ok (.invokevirtual 87, 3) := by decide +kernel
theorem dX4_winters_35 : decode cX4_winters 35 = .ok (.ifCond .eq 6, 3) := by decide +kernel
theorem dX4_winters_38 : decode cX4_winters 38 = .ok (.bipush (-103), 2) := by decide +kernel
theorem dX4_winters_40 : decode cX4_winters 40 = .ok (.ireturn, 1) := by decide +kernel
theorem dX4_winters_41 : decode cX4_winters 41 = .ok (.aload_n 0, 1) := by decide +kernel
theorem dX4_winters_42 : decode cX4_winters 42 = .ok (.getfield 16, 3) := by decide +kernel
theorem dX4_winters_45 : decode cX4_winters 45 = .ok (.aload_n 0, 1) := by decide +kernel
theorem dX4_winters_46 : decode cX4_winters 46 = .ok (.getfield 28, 3) := by decide +kernel
theorem dX4_winters_49 : decode cX4_winters 49 = .ok (.invokestatic 148, 3) := by decide +kernel
theorem dX4_winters_52 : decode cX4_winters 52 = .ok (.aload_n 0, 1) := by decide +kernel
theorem dX4_winters_53 : decode cX4_winters 53 = .ok (.iload_n 2, 1) := by decide +kernel
theorem dX4_winters_54 : decode cX4_winters 54 = .ok (.putfield 207, 3) := by decide +kernel
theorem dX4_winters_57 : decode cX4_winters 57 = .ok (.iconst 0, 1) := by decide +kernel
theorem dX4_winters_58 : decode cX4_winters 58 = .ok (.istore 4, 2) := by decide +kernel
theorem dX4_winters_60 : decode cX4_winters 60 = .ok (.iload 4, 2) := by decide +kernel
theorem dX4_winters_62 : decode cX4_winters 62 = .ok (.iload_n 1, 1) := by decide +kernel
theorem dX4_winters_63 : decode cX4_winters 63 = .ok (.if_icmp .ge 65, 3) := by decide +kernel
theorem dX4_winters_66 : decode cX4_winters 66 = .ok (.iconst 1, 1) := by decide +kernel
theorem dX4_winters_67 : decode cX4_winters 67 = .ok (.istore 5, 2) := by decide +kernel
theorem dX4_winters_69 : decode cX4_winters 69 = .ok (.iload 5, 2) := by decide +kernel
theorem dX4_winters_71 : decode cX4_winters 71 = .ok (.bipush 6, 2) := by decide +kernel
theorem dX4_winters_73 : decode cX4_winters 73 = .ok (.if_icmp .ge 49, 3) := by decide +kernel
theorem dX4_winters_76 : decode cX4_winters 76 = .ok (.aload_n 0, 1) := by decide +kernel
theorem dX4_winters_77 : decode cX4_winters 77 = .ok (.iconst 3, 1) := by decide +kernel
theorem dX4_winters_78 : decode cX4_winters 78 = .ok (.invokevirtual 219, 3) := by decide +kernel
theorem dX4_winters_81 : decode cX4_winters 81 = .ok (.istore 6, 2) := by decide +kernel
theorem dX4_winters_83 : decode cX4_winters 83 = .ok (.aload_n 0, 1) := by decide +kernel
theorem dX4_winters_84 : decode cX4_winters 84 = .ok (.getfield 28, 3) := by decide +kernel
theorem dX4_winters_87 : decode cX4_winters 87 = .ok (.iload 5, 2) := by decide +kernel
theorem dX4_winters_89 : decode cX4_winters 89 = .ok (.aload_n 0, 1) := by decide +kernel
theorem dX4_winters_90 : decode cX4_winters 90 = .ok (.getfield 28, 3) := by decide +kernel
theorem dX4_winters_93 : decode cX4_winters 93 = .ok (.iload 5, 2) := by decide +kernel
theorem dX4_winters_95 : decode cX4_winters 95 = .ok (.iaload, 1) := by decide +kernel
theorem dX4_winters_96 : decode cX4_winters 96 = .ok (.iload 6, 2) := by decide +kernel
theorem dX4_winters_98 : decode cX4_winters 98 = .ok (.if_icmp .le 16, 3) := by decide +kernel
theorem dX4_winters_101 : decode cX4_winters 101 = .ok (.aload_n 0, 1) := by decide +kernel
theorem dX4_winters_102 : decode cX4_winters 102 = .ok (.getfield 28, 3) := by decide +kernel
theorem dX4_winters_105 : decode cX4_winters 105 = .ok (.iload 5, 2) := by decide +kernel
theorem dX4_winters_107 : decode cX4_winters 107 = .ok (.iaload, 1) := by decide +kernel
theorem dX4_winters_108 : decode cX4_winters 108 = .ok (.iload 6, 2) := by decide +kernel
theorem dX4_winters_110 : decode cX4_winters 110 = .ok (.isub, 1) := by decide +kernel
theorem dX4_winters_111 : decode cX4_winters 111 = .ok (.goto 4, 3) := by decide +kernel
theorem dX4_winters_114 : decode cX4_winters 114 = .ok (.iconst 0, 1) := by decide +kernel
theorem dX4_winters_115 : decode cX4_winters 115 = .ok (.iastore, 1) := by decide +kernel
theorem dX4_winters_116 : decode cX4_winters 116 = .ok (.iinc 5 1, 3) := by decide +kernel
theorem dX4_winters_119 : decode cX4_winters 119 = .ok (.goto (-50), 3) := by decide +kernel
theorem dX4_winters_122 : decode cX4_winters 122 = .ok (.iinc 4 1, 3) := by decide +kernel
theorem dX4_winters_125 : decode cX4_winters 125 = .ok (.goto (-65), 3) := by decide +kernel
theorem dX4_winters_128 : decode cX4_winters 128 = .ok (.aload_n 0, 1) := by decide +kernel
theorem dX4_winters_129 : decode cX4_winters 129 = .ok (.getfield 28, 3) := by decide +kernel
theorem dX4_winters_132 : decode cX4_winters 132 = .ok (.invokestatic 174, 3) := by decide +kernel
theorem dX4_winters_135 : decode cX4_winters 135 = .ok (.istore 4, 2) := by decide +kernel
theorem dX4_winters_137 : decode cX4_winters 137 = .ok (.aload_n 0, 1) := by decide +kernel
theorem dX4_winters_138 : decode cX4_winters 138 = .ok (.getfield 72, 3) := by decide +kernel
theorem dX4_winters_141 : decode cX4_winters 141 = .ok (.ifCond .ne 7, 3) := by decide +kernel
theorem dX4_winters_144 : decode cX4_winters 144 = .ok (.iconst 0, 1) := by decide +kernel
theorem dX4_winters_145 : decode cX4_winters 145 = .ok (.goto 15, 3) := by decide +kernel
theorem dX4_winters_148 : decode cX4_winters 148 = .ok (.aload_n 0, 1) := by decide +kernel
theorem dX4_winters_149 : decode cX4_winters 149 = .ok (.aload_n 0, 1) := by decide +kernel
theorem dX4_winters_150 : decode cX4_winters 150 = .ok (.getfield 72, 3) := by decide +kernel
theorem dX4_winters_153 : decode cX4_winters 153 = .ok (.aload_n 0, 1) := by decide +kernel
theorem dX4_winters_154 : decode cX4_winters 154 = .ok (.getfield 28, 3) := by decide +kernel
theorem dX4_winters_157 : decode cX4_winters 157 = .ok (.invokevirtual 192, 3) := by decide +kernel
theorem dX4_winters_160 : decode cX4_winters 160 = .ok (.istore 5, 2) := by decide +kernel
theorem dX4_winters_162 : decode cX4_winters 162 = .ok (.iload_n 3, 1) := by decide +kernel
theorem dX4_winters_163 : decode cX4_winters 163 = .ok (.ifCond .ne 8, 3) := by decide +kernel
theorem dX4_winters_166 : decode cX4_winters 166 = .ok (.iload 4, 2) := by decide +kernel
theorem dX4_winters_168 : decode cX4_winters 168 = .ok (.goto 17, 3) := by decide +kernel
theorem dX4_winters_171 : decode cX4_winters 171 = .ok (.iload_n 3, 1) := by decide +kernel
theorem dX4_winters_172 : decode cX4_winters 172 = .ok (.iconst 1, 1) := by decide +kernel
theorem dX4_winters_173 : decode cX4_winters 173 = .ok (.if_icmp .ne 8, 3) := by decide +kernel
theorem dX4_winters_176 : decode cX4_winters 176 = .ok (.iload 5, 2) := by decide +kernel
theorem dX4_winters_178 : decode cX4_winters 178 = .ok (.goto 7, 3) := by decide +kernel
theorem dX4_winters_181 : decode cX4_winters 181 = .ok (.aload_n 0, 1) := by decide +kernel
theorem dX4_winters_182 : decode cX4_winters 182 = .ok (.getfield 207, 3) := by decide +kernel
theorem dX4_winters_185 : decode cX4_winters 185 = .ok (.ireturn, 1) := by decide +kernel
theorem dX4_image_0 : decode cX4_image 0 = .ok (.aload_n 0, 1) := by decide +kernel
theorem dX4_image_1 : decode cX4_image 1 = .ok (.invokevirtual 87, 3) := by decide +kernel
theorem dX4_image_4 : decode cX4_image 4 = .ok (.ifCond .eq 6, 3) := by decide +kernel
theorem dX4_image_7 : decode cX4_image 7 = .ok (.bipush (-103), 2) := by decide +kernel
theorem dX4_image_9 : decode cX4_image 9 = .ok (.ireturn, 1) := by decide +kernel
theorem dX4_image_10 : decode cX4_image 10 = .ok (.aload_n 0, 1) := by decide +kernel
theorem dX4_image_11 : decode cX4_image 11 = .ok (.getfield 16, 3) := by decide +kernel
theorem dX4_image_14 : decode cX4_image 14 = .ok (.aload_n 0, 1) := by decide +kernel
theorem dX4_image_15 : decode cX4_image 15 = .ok (.getfield 31, 3) := by decide +kernel
theorem dX4_image_18 : decode cX4_image 18 = .ok (.invokestatic 148, 3) := by decide +kernel
theorem dX4_image_21 : decode cX4_image 21 = .ok (.aload_n 0, 1) := by decide +kernel
theorem dX4_image_22 : decode cX4_image 22 = .ok (.getfield 22, 3) := by decide +kernel
theorem dX4_image_25 : decode cX4_image 25 = .ok (.aload_n 0, 1) := by decide +kernel
theorem dX4_image_26 : decode cX4_image 26 = .ok (.getfield 34, 3) := by decide +kernel
theorem dX4_image_29 : decode cX4_image 29 = .ok (.invokestatic 148, 3) := by decide +kernel
theorem dX4_image_32 : decode cX4_image 32 = .ok (.aload_n 0, 1) := by decide +kernel
theorem dX4_image_33 : decode cX4_image 33 = .ok (.aload_n 0, 1) := by decide +kernel
theorem dX4_image_34 : decode cX4_image 34 = .ok (.getfield 72, 3) := by decide +kernel
theorem dX4_image_37 : decode cX4_image 37 = .ok (.putfield 222, 3) := by decide +kernel
theorem dX4_image_40 : decode cX4_image 40 = .ok (.aload_n 0, 1) := by decide +kernel
theorem dX4_image_41 : decode cX4_image 41 = .ok (.aload_n 0, 1) := by decide +kernel
theorem dX4_image_42 : decode cX4_image 42 = .ok (.getfield 75, 3) := by decide +kernel
theorem dX4_image_45 : decode cX4_image 45 = .ok (.putfield 225, 3) := by decide +kernel
theorem dX4_image_48 : decode cX4_image 48 = .ok (.aload_n 0, 1) := by decide +kernel
theorem dX4_image_49 : decode cX4_image 49 = .ok (.aload_n 0, 1) := by decide +kernel
theorem dX4_image_50 : decode cX4_image 50 = .ok (.getfield 78, 3) := by decide +kernel
theorem dX4_image_53 : decode cX4_image 53 = .ok (.putfield 228, 3) := by decide +kernel
theorem dX4_image_56 : decode cX4_image 56 = .ok (.aload_n 0, 1) := by decide +kernel
theorem dX4_image_57 : decode cX4_image 57 = .ok (.aload_n 0, 1) := by decide +kernel
theorem dX4_image_58 : decode cX4_image 58 = .ok (.getfield 81, 3) := by decide +kernel
theorem dX4_image_61 : decode cX4_image 61 = .ok (.putfield 231, 3) := by decide +kernel
theorem dX4_image_64 : decode cX4_image 64 = .ok (.aload_n 0, 1) := by decide +kernel
theorem dX4_image_65 : decode cX4_image 65 = .ok (.aload_n 0, 1) := by decide +kernel
theorem dX4_image_66 : decode cX4_image 66 = .ok (.getfield 84, 3) := by decide +kernel
theorem dX4_image_69 : decode cX4_image 69 = .ok (.putfield 37, 3) := by decide +kernel
theorem dX4_image_72 : decode cX4_image 72 = .ok (.aload_n 0, 1) := by decide +kernel
theorem dX4_image_73 : decode cX4_image 73 = .ok (.getfield 75, 3) := by decide +kernel
theorem dX4_image_76 : decode cX4_image 76 = .ok (.ireturn, 1) := by decide +kernel
theorem dX4_restore_0 : decode cX4_restore 0 = .ok (.aload_n 0, 1) := by decide +kernel
theorem dX4_restore_1 : decode cX4_restore 1 = .ok (.getfield 37, 3) := by decide +kernel
theorem dX4_restore_4 : decode cX4_restore 4 = .ok (.aload_n 0, 1) := by decide +kernel
theorem dX4_restore_5 : decode cX4_restore 5 = .ok (.getfield 84, 3) := by decide +kernel
theorem dX4_restore_8 : decode cX4_restore 8 = .ok (.if_icmp .eq 6, 3) := by decide +kernel
theorem dX4_restore_11 : decode cX4_restore 11 = .ok (.bipush (-103), 2) := by decide +kernel
theorem dX4_restore_13 : decode cX4_restore 13 = .ok (.ireturn, 1) := by decide +kernel
theorem dX4_restore_14 : decode cX4_restore 14 = .ok (.aload_n 0, 1) := by decide +kernel
theorem dX4_restore_15 : decode cX4_restore 15 = .ok (.getfield 31, 3) := by decide +kernel
theorem dX4_restore_18 : decode cX4_restore 18 = .ok (.aload_n 0, 1) := by decide +kernel
theorem dX4_restore_19 : decode cX4_restore 19 = .ok (.getfield 16, 3) := by decide +kernel
theorem dX4_restore_22 : decode cX4_restore 22 = .ok (.invokestatic 148, 3) := by decide +kernel
theorem dX4_restore_25 : decode cX4_restore 25 = .ok (.aload_n 0, 1) := by decide +kernel
theorem dX4_restore_26 : decode cX4_restore 26 = .ok (.getfield 34, 3) := by decide +kernel
theorem dX4_restore_29 : decode cX4_restore 29 = .ok (.aload_n 0, 1) := by decide +kernel
theorem dX4_restore_30 : decode cX4_restore 30 = .ok (.getfield 22, 3) := by decide +kernel
theorem dX4_restore_33 : decode cX4_restore 33 = .ok (.invokestatic 148, 3) := by decide +kernel
theorem dX4_restore_36 : decode cX4_restore 36 = .ok (.aload_n 0, 1) := by decide +kernel
theorem dX4_restore_37 : decode cX4_restore 37 = .ok (.aload_n 0, 1) := by decide +kernel
theorem dX4_restore_38 : decode cX4_restore 38 = .ok (.getfield 222, 3) := by decide +kernel
theorem dX4_restore_41 : decode cX4_restore 41 = .ok (.putfield 72, 3) := by decide +kernel
theorem dX4_restore_44 : decode cX4_restore 44 = .ok (.aload_n 0, 1) := by decide +kernel
theorem dX4_restore_45 : decode cX4_restore 45 = .ok (.aload_n 0, 1) := by decide +kernel
theorem dX4_restore_46 : decode cX4_restore 46 = .ok (.getfield 225, 3) := by decide +kernel
theorem dX4_restore_49 : decode cX4_restore 49 = .ok (.putfield 75, 3) := by decide +kernel
theorem dX4_restore_52 : decode cX4_restore 52 = .ok (.aload_n 0, 1) := by decide +kernel
theorem dX4_restore_53 : decode cX4_restore 53 = .ok (.aload_n 0, 1) := by decide +kernel
theorem dX4_restore_54 : decode cX4_restore 54 = .ok (.getfield 228, 3) := by decide +kernel
theorem dX4_restore_57 : decode cX4_restore 57 = .ok (.putfield 78, 3) := by decide +kernel
theorem dX4_restore_60 : decode cX4_restore 60 = .ok (.aload_n 0, 1) := by decide +kernel
theorem dX4_restore_61 : decode cX4_restore 61 = .ok (.aload_n 0, 1) := by decide +kernel
theorem dX4_restore_62 : decode cX4_restore 62 = .ok (.getfield 231, 3) := by decide +kernel
theorem dX4_restore_65 : decode cX4_restore 65 = .ok (.putfield 81, 3) := by decide +kernel
theorem dX4_restore_68 : decode cX4_restore 68 = .ok (.aload_n 0, 1) := by decide +kernel
theorem dX4_restore_69 : decode cX4_restore 69 = .ok (.getfield 75, 3) := by decide +kernel
theorem dX4_restore_72 : decode cX4_restore 72 = .ok (.ireturn, 1) := by decide +kernel
theorem dX4_countOf_0 : decode cX4_countOf 0 = .ok (.iload_n 1, 1) := by decide +kernel
theorem dX4_countOf_1 : decode cX4_countOf 1 = .ok (.tableswitch 128 0 10 #[59, 64, 72, 80, 85, 90, 99, 108, 113, 118, 123], 59) := by decide +kernel
theorem dX4_countOf_60 : decode cX4_countOf 60 = .ok (.aload_n 0, 1) := by decide +kernel
theorem dX4_countOf_61 : decode cX4_countOf 61 = .ok (.getfield 69, 3) := by decide +kernel
theorem dX4_countOf_64 : decode cX4_countOf 64 = .ok (.ireturn, 1) := by decide +kernel
theorem dX4_countOf_65 : decode cX4_countOf 65 = .ok (.aload_n 0, 1) := by decide +kernel
theorem dX4_countOf_66 : decode cX4_countOf 66 = .ok (.getfield 72, 3) := by decide +kernel
theorem dX4_countOf_69 : decode cX4_countOf 69 = .ok (.invokestatic 196, 3) := by decide +kernel
theorem dX4_countOf_72 : decode cX4_countOf 72 = .ok (.ireturn, 1) := by decide +kernel
theorem dX4_countOf_73 : decode cX4_countOf 73 = .ok (.aload_n 0, 1) := by decide +kernel
theorem dX4_countOf_74 : decode cX4_countOf 74 = .ok (.getfield 16, 3) := by decide +kernel
theorem dX4_countOf_77 : decode cX4_countOf 77 = .ok (.invokestatic 174, 3) := by decide +kernel
theorem dX4_countOf_80 : decode cX4_countOf 80 = .ok (.ireturn, 1) := by decide +kernel
theorem dX4_countOf_81 : decode cX4_countOf 81 = .ok (.aload_n 0, 1) := by decide +kernel
theorem dX4_countOf_82 : decode cX4_countOf 82 = .ok (.getfield 75, 3) := by decide +kernel
theorem dX4_countOf_85 : decode cX4_countOf 85 = .ok (.ireturn, 1) := by decide +kernel
theorem dX4_countOf_86 : decode cX4_countOf 86 = .ok (.aload_n 0, 1) := by decide +kernel
theorem dX4_countOf_87 : decode cX4_countOf 87 = .ok (.getfield 78, 3) := by decide +kernel
theorem dX4_countOf_90 : decode cX4_countOf 90 = .ok (.ireturn, 1) := by decide +kernel
theorem dX4_countOf_91 : decode cX4_countOf 91 = .ok (.aload_n 0, 1) := by decide +kernel
theorem dX4_countOf_92 : decode cX4_countOf 92 = .ok (.aload_n 0, 1) := by decide +kernel
theorem dX4_countOf_93 : decode cX4_countOf 93 = .ok (.getfield 72, 3) := by decide +kernel
theorem dX4_countOf_96 : decode cX4_countOf 96 = .ok (.invokevirtual 134, 3) := by decide +kernel
theorem dX4_countOf_99 : decode cX4_countOf 99 = .ok (.ireturn, 1) := by decide +kernel
theorem dX4_countOf_100 : decode cX4_countOf 100 = .ok (.aload_n 0, 1) := by decide +kernel
theorem dX4_countOf_101 : decode cX4_countOf 101 = .ok (.aload_n 0, 1) := by decide +kernel
theorem dX4_countOf_102 : decode cX4_countOf 102 = .ok (.getfield 72, 3) := by decide +kernel
theorem dX4_countOf_105 : decode cX4_countOf 105 = .ok (.invokevirtual 145, 3) := by decide +kernel
theorem dX4_countOf_108 : decode cX4_countOf 108 = .ok (.ireturn, 1) := by decide +kernel
theorem dX4_countOf_109 : decode cX4_countOf 109 = .ok (.aload_n 0, 1) := by decide +kernel
theorem dX4_countOf_110 : decode cX4_countOf 110 = .ok (.getfield 81, 3) := by decide +kernel
theorem dX4_countOf_113 : decode cX4_countOf 113 = .ok (.ireturn, 1) := by decide +kernel
theorem dX4_countOf_114 : decode cX4_countOf 114 = .ok (.aload_n 0, 1) := by decide +kernel
theorem dX4_countOf_115 : decode cX4_countOf 115 = .ok (.getfield 47, 3) := by decide +kernel
theorem dX4_countOf_118 : decode cX4_countOf 118 = .ok (.ireturn, 1) := by decide +kernel
theorem dX4_countOf_119 : decode cX4_countOf 119 = .ok (.aload_n 0, 1) := by decide +kernel
theorem dX4_countOf_120 : decode cX4_countOf 120 = .ok (.getfield 84, 3) := by decide +kernel
theorem dX4_countOf_123 : decode cX4_countOf 123 = .ok (.ireturn, 1) := by decide +kernel
theorem dX4_countOf_124 : decode cX4_countOf 124 = .ok (.aload_n 0, 1) := by decide +kernel
theorem dX4_countOf_125 : decode cX4_countOf 125 = .ok (.getfield 199, 3) := by decide +kernel
theorem dX4_countOf_128 : decode cX4_countOf 128 = .ok (.ireturn, 1) := by decide +kernel
theorem dX4_countOf_129 : decode cX4_countOf 129 = .ok (.bipush (-102), 2) := by decide +kernel
theorem dX4_countOf_131 : decode cX4_countOf 131 = .ok (.ireturn, 1) := by decide +kernel
theorem dX4_count_0 : decode cX4_count 0 = .ok (.aload_n 0, 1) := by decide +kernel
theorem dX4_count_1 : decode cX4_count 1 = .ok (.iload_n 1, 1) := by decide +kernel
theorem dX4_count_2 : decode cX4_count 2 = .ok (.invokevirtual 234, 3) := by decide +kernel
theorem dX4_count_5 : decode cX4_count 5 = .ok (.ireturn, 1) := by decide +kernel
theorem dX4_say_0 : decode cX4_say 0 = .ok (.aload_n 0, 1) := by decide +kernel
theorem dX4_say_1 : decode cX4_say 1 = .ok (.ldc2_w 237, 3) := by decide +kernel
theorem dX4_say_4 : decode cX4_say 4 = .ok (.aload_n 0, 1) := by decide +kernel
theorem dX4_say_5 : decode cX4_say 5 = .ok (.getfield 239, 3) := by decide +kernel
theorem dX4_say_8 : decode cX4_say 8 = .ok (.lmul, 1) := by decide +kernel
theorem dX4_say_9 : decode cX4_say 9 = .ok (.lload_n 1, 1) := by decide +kernel
theorem dX4_say_10 : decode cX4_say 10 = .ok (.ladd, 1) := by decide +kernel
theorem dX4_say_11 : decode cX4_say 11 = .ok (.putfield 239, 3) := by decide +kernel
theorem dX4_say_14 : decode cX4_say 14 = .ok (.return_, 1) := by decide +kernel
theorem dX4_digest_0 : decode cX4_digest 0 = .ok (.aload_n 0, 1) := by decide +kernel
theorem dX4_digest_1 : decode cX4_digest 1 = .ok (.ldc2_w 243, 3) := by decide +kernel
theorem dX4_digest_4 : decode cX4_digest 4 = .ok (.putfield 239, 3) := by decide +kernel
theorem dX4_digest_7 : decode cX4_digest 7 = .ok (.iconst 0, 1) := by decide +kernel
theorem dX4_digest_8 : decode cX4_digest 8 = .ok (.istore_n 1, 1) := by decide +kernel
theorem dX4_digest_9 : decode cX4_digest 9 = .ok (.iload_n 1, 1) := by decide +kernel
theorem dX4_digest_10 : decode cX4_digest 10 = .ok (.aload_n 0, 1) := by decide +kernel
theorem dX4_digest_11 : decode cX4_digest 11 = .ok (.getfield 69, 3) := by decide +kernel
theorem dX4_digest_14 : decode cX4_digest 14 = .ok (.if_icmp .ge 33, 3) := by decide +kernel
theorem dX4_digest_17 : decode cX4_digest 17 = .ok (.iconst 0, 1) := by decide +kernel
theorem dX4_digest_18 : decode cX4_digest 18 = .ok (.istore_n 2, 1) := by decide +kernel
theorem dX4_digest_19 : decode cX4_digest 19 = .ok (.iload_n 2, 1) := by decide +kernel
theorem dX4_digest_20 : decode cX4_digest 20 = .ok (.iconst 5, 1) := by decide +kernel
theorem dX4_digest_21 : decode cX4_digest 21 = .ok (.if_icmp .ge 20, 3) := by decide +kernel
theorem dX4_digest_24 : decode cX4_digest 24 = .ok (.aload_n 0, 1) := by decide +kernel
theorem dX4_digest_25 : decode cX4_digest 25 = .ok (.aload_n 0, 1) := by decide +kernel
theorem dX4_digest_26 : decode cX4_digest 26 = .ok (.iload_n 1, 1) := by decide +kernel
theorem dX4_digest_27 : decode cX4_digest 27 = .ok (.iload_n 2, 1) := by decide +kernel
theorem dX4_digest_28 : decode cX4_digest 28 = .ok (.invokevirtual 105, 3) := by decide +kernel
theorem dX4_digest_31 : decode cX4_digest 31 = .ok (.i2l, 1) := by decide +kernel
theorem dX4_digest_32 : decode cX4_digest 32 = .ok (.invokevirtual 245, 3) := by decide +kernel
theorem dX4_digest_35 : decode cX4_digest 35 = .ok (.iinc 2 1, 3) := by decide +kernel
theorem dX4_digest_38 : decode cX4_digest 38 = .ok (.goto (-19), 3) := by decide +kernel
theorem dX4_digest_41 : decode cX4_digest 41 = .ok (.iinc 1 1, 3) := by decide +kernel
theorem dX4_digest_44 : decode cX4_digest 44 = .ok (.goto (-35), 3) := by decide +kernel
theorem dX4_digest_47 : decode cX4_digest 47 = .ok (.iconst 1, 1) := by decide +kernel
theorem dX4_digest_48 : decode cX4_digest 48 = .ok (.istore_n 1, 1) := by decide +kernel
theorem dX4_digest_49 : decode cX4_digest 49 = .ok (.iload_n 1, 1) := by decide +kernel
theorem dX4_digest_50 : decode cX4_digest 50 = .ok (.bipush 6, 2) := by decide +kernel
theorem dX4_digest_52 : decode cX4_digest 52 = .ok (.if_icmp .ge 37, 3) := by decide +kernel
theorem dX4_digest_55 : decode cX4_digest 55 = .ok (.aload_n 0, 1) := by decide +kernel
theorem dX4_digest_56 : decode cX4_digest 56 = .ok (.invokevirtual 87, 3) := by decide +kernel
theorem dX4_digest_59 : decode cX4_digest 59 = .ok (.ifCond .ne 30, 3) := by decide +kernel
theorem dX4_digest_62 : decode cX4_digest 62 = .ok (.aload_n 0, 1) := by decide +kernel
theorem dX4_digest_63 : decode cX4_digest 63 = .ok (.aload_n 0, 1) := by decide +kernel
theorem dX4_digest_64 : decode cX4_digest 64 = .ok (.getfield 16, 3) := by decide +kernel
theorem dX4_digest_67 : decode cX4_digest 67 = .ok (.iload_n 1, 1) := by decide +kernel
theorem dX4_digest_68 : decode cX4_digest 68 = .ok (.iaload, 1) := by decide +kernel
theorem dX4_digest_69 : decode cX4_digest 69 = .ok (.i2l, 1) := by decide +kernel
theorem dX4_digest_70 : decode cX4_digest 70 = .ok (.invokevirtual 245, 3) := by decide +kernel
theorem dX4_digest_73 : decode cX4_digest 73 = .ok (.aload_n 0, 1) := by decide +kernel
theorem dX4_digest_74 : decode cX4_digest 74 = .ok (.aload_n 0, 1) := by decide +kernel
theorem dX4_digest_75 : decode cX4_digest 75 = .ok (.iload_n 1, 1) := by decide +kernel
theorem dX4_digest_76 : decode cX4_digest 76 = .ok (.invokevirtual 111, 3) := by decide +kernel
theorem dX4_digest_79 : decode cX4_digest 79 = .ok (.i2l, 1) := by decide +kernel
theorem dX4_digest_80 : decode cX4_digest 80 = .ok (.invokevirtual 245, 3) := by decide +kernel
theorem dX4_digest_83 : decode cX4_digest 83 = .ok (.iinc 1 1, 3) := by decide +kernel
theorem dX4_digest_86 : decode cX4_digest 86 = .ok (.goto (-37), 3) := by decide +kernel
theorem dX4_digest_89 : decode cX4_digest 89 = .ok (.aload_n 0, 1) := by decide +kernel
theorem dX4_digest_90 : decode cX4_digest 90 = .ok (.invokevirtual 87, 3) := by decide +kernel
theorem dX4_digest_93 : decode cX4_digest 93 = .ok (.ifCond .ne 13, 3) := by decide +kernel
theorem dX4_digest_96 : decode cX4_digest 96 = .ok (.aload_n 0, 1) := by decide +kernel
theorem dX4_digest_97 : decode cX4_digest 97 = .ok (.aload_n 0, 1) := by decide +kernel
theorem dX4_digest_98 : decode cX4_digest 98 = .ok (.iconst 3, 1) := by decide +kernel
theorem dX4_digest_99 : decode cX4_digest 99 = .ok (.invokevirtual 114, 3) := by decide +kernel
theorem dX4_digest_102 : decode cX4_digest 102 = .ok (.i2l, 1) := by decide +kernel
theorem dX4_digest_103 : decode cX4_digest 103 = .ok (.invokevirtual 245, 3) := by decide +kernel
theorem dX4_digest_106 : decode cX4_digest 106 = .ok (.aload_n 0, 1) := by decide +kernel
theorem dX4_digest_107 : decode cX4_digest 107 = .ok (.getfield 72, 3) := by decide +kernel
theorem dX4_digest_110 : decode cX4_digest 110 = .ok (.ifCond .eq 86, 3) := by decide +kernel
theorem dX4_digest_113 : decode cX4_digest 113 = .ok (.aload_n 0, 1) := by decide +kernel
theorem dX4_digest_114 : decode cX4_digest 114 = .ok (.aload_n 0, 1) := by decide +kernel
theorem dX4_digest_115 : decode cX4_digest 115 = .ok (.aload_n 0, 1) := by decide +kernel
theorem dX4_digest_116 : decode cX4_digest 116 = .ok (.getfield 72, 3) := by decide +kernel
theorem dX4_digest_119 : decode cX4_digest 119 = .ok (.aload_n 0, 1) := by decide +kernel
theorem dX4_digest_120 : decode cX4_digest 120 = .ok (.getfield 16, 3) := by decide +kernel
theorem dX4_digest_123 : decode cX4_digest 123 = .ok (.invokevirtual 192, 3) := by decide +kernel
theorem dX4_digest_126 : decode cX4_digest 126 = .ok (.i2l, 1) := by decide +kernel
theorem dX4_digest_127 : decode cX4_digest 127 = .ok (.invokevirtual 245, 3) := by decide +kernel
theorem dX4_digest_130 : decode cX4_digest 130 = .ok (.aload_n 0, 1) := by decide +kernel
theorem dX4_digest_131 : decode cX4_digest 131 = .ok (.aload_n 0, 1) := by decide +kernel
theorem dX4_digest_132 : decode cX4_digest 132 = .ok (.aload_n 0, 1) := by decide +kernel
theorem dX4_digest_133 : decode cX4_digest 133 = .ok (.getfield 72, 3) := by decide +kernel
theorem dX4_digest_136 : decode cX4_digest 136 = .ok (.iconst 1, 1) := by decide +kernel
theorem dX4_digest_137 : decode cX4_digest 137 = .ok (.aload_n 0, 1) := by decide +kernel
theorem dX4_digest_138 : decode cX4_digest 138 = .ok (.getfield 16, 3) := by decide +kernel
theorem dX4_digest_141 : decode cX4_digest 141 = .ok (.invokevirtual 188, 3) := by decide +kernel
theorem dX4_digest_144 : decode cX4_digest 144 = .ok (.i2l, 1) := by decide +kernel
theorem dX4_digest_145 : decode cX4_digest 145 = .ok (.invokevirtual 245, 3) := by decide +kernel
theorem dX4_digest_148 : decode cX4_digest 148 = .ok (.aload_n 0, 1) := by decide +kernel
theorem dX4_digest_149 : decode cX4_digest 149 = .ok (.aload_n 0, 1) := by decide +kernel
theorem dX4_digest_150 : decode cX4_digest 150 = .ok (.aload_n 0, 1) := by decide +kernel
theorem dX4_digest_151 : decode cX4_digest 151 = .ok (.getfield 72, 3) := by decide +kernel
theorem dX4_digest_154 : decode cX4_digest 154 = .ok (.iconst 4, 1) := by decide +kernel
theorem dX4_digest_155 : decode cX4_digest 155 = .ok (.aload_n 0, 1) := by decide +kernel
theorem dX4_digest_156 : decode cX4_digest 156 = .ok (.getfield 16, 3) := by decide +kernel
theorem dX4_digest_159 : decode cX4_digest 159 = .ok (.invokevirtual 188, 3) := by decide +kernel
theorem dX4_digest_162 : decode cX4_digest 162 = .ok (.i2l, 1) := by decide +kernel
theorem dX4_digest_163 : decode cX4_digest 163 = .ok (.invokevirtual 245, 3) := by decide +kernel
theorem dX4_digest_166 : decode cX4_digest 166 = .ok (.iconst 0, 1) := by decide +kernel
theorem dX4_digest_167 : decode cX4_digest 167 = .ok (.istore_n 1, 1) := by decide +kernel
theorem dX4_digest_168 : decode cX4_digest 168 = .ok (.iload_n 1, 1) := by decide +kernel
theorem dX4_digest_169 : decode cX4_digest 169 = .ok (.iconst 4, 1) := by decide +kernel
theorem dX4_digest_170 : decode cX4_digest 170 = .ok (.if_icmp .ge 26, 3) := by decide +kernel
theorem dX4_digest_173 : decode cX4_digest 173 = .ok (.aload_n 0, 1) := by decide +kernel
theorem dX4_digest_174 : decode cX4_digest 174 = .ok (.aload_n 0, 1) := by decide +kernel
theorem dX4_digest_175 : decode cX4_digest 175 = .ok (.aload_n 0, 1) := by decide +kernel
theorem dX4_digest_176 : decode cX4_digest 176 = .ok (.getfield 72, 3) := by decide +kernel
theorem dX4_digest_179 : decode cX4_digest 179 = .ok (.iconst 5, 1) := by decide +kernel
theorem dX4_digest_180 : decode cX4_digest 180 = .ok (.bipush 12, 2) := by decide +kernel
theorem dX4_digest_182 : decode cX4_digest 182 = .ok (.iload_n 1, 1) := by decide +kernel
theorem dX4_digest_183 : decode cX4_digest 183 = .ok (.invokevirtual 180, 3) := by decide +kernel
theorem dX4_digest_186 : decode cX4_digest 186 = .ok (.i2l, 1) := by decide +kernel
theorem dX4_digest_187 : decode cX4_digest 187 = .ok (.invokevirtual 245, 3) := by decide +kernel
theorem dX4_digest_190 : decode cX4_digest 190 = .ok (.iinc 1 1, 3) := by decide +kernel
theorem dX4_digest_193 : decode cX4_digest 193 = .ok (.goto (-25), 3) := by decide +kernel
theorem dX4_digest_196 : decode cX4_digest 196 = .ok (.iconst 0, 1) := by decide +kernel
theorem dX4_digest_197 : decode cX4_digest 197 = .ok (.istore_n 1, 1) := by decide +kernel
theorem dX4_digest_198 : decode cX4_digest 198 = .ok (.iload_n 1, 1) := by decide +kernel
theorem dX4_digest_199 : decode cX4_digest 199 = .ok (.aload_n 0, 1) := by decide +kernel
theorem dX4_digest_200 : decode cX4_digest 200 = .ok (.getfield 47, 3) := by decide +kernel
theorem dX4_digest_203 : decode cX4_digest 203 = .ok (.if_icmp .ge 20, 3) := by decide +kernel
theorem dX4_digest_206 : decode cX4_digest 206 = .ok (.aload_n 0, 1) := by decide +kernel
theorem dX4_digest_207 : decode cX4_digest 207 = .ok (.aload_n 0, 1) := by decide +kernel
theorem dX4_digest_208 : decode cX4_digest 208 = .ok (.getfield 7, 3) := by decide +kernel
theorem dX4_digest_211 : decode cX4_digest 211 = .ok (.iload_n 1, 1) := by decide +kernel
theorem dX4_digest_212 : decode cX4_digest 212 = .ok (.iaload, 1) := by decide +kernel
theorem dX4_digest_213 : decode cX4_digest 213 = .ok (.i2l, 1) := by decide +kernel
theorem dX4_digest_214 : decode cX4_digest 214 = .ok (.invokevirtual 245, 3) := by decide +kernel
theorem dX4_digest_217 : decode cX4_digest 217 = .ok (.iinc 1 1, 3) := by decide +kernel
theorem dX4_digest_220 : decode cX4_digest 220 = .ok (.goto (-22), 3) := by decide +kernel
theorem dX4_digest_223 : decode cX4_digest 223 = .ok (.iconst 0, 1) := by decide +kernel
theorem dX4_digest_224 : decode cX4_digest 224 = .ok (.istore_n 1, 1) := by decide +kernel
theorem dX4_digest_225 : decode cX4_digest 225 = .ok (.iload_n 1, 1) := by decide +kernel
theorem dX4_digest_226 : decode cX4_digest 226 = .ok (.bipush 11, 2) := by decide +kernel
theorem dX4_digest_228 : decode cX4_digest 228 = .ok (.if_icmp .ge 19, 3) := by decide +kernel
theorem dX4_digest_231 : decode cX4_digest 231 = .ok (.aload_n 0, 1) := by decide +kernel
theorem dX4_digest_232 : decode cX4_digest 232 = .ok (.aload_n 0, 1) := by decide +kernel
theorem dX4_digest_233 : decode cX4_digest 233 = .ok (.iload_n 1, 1) := by decide +kernel
theorem dX4_digest_234 : decode cX4_digest 234 = .ok (.invokevirtual 234, 3) := by decide +kernel
theorem dX4_digest_237 : decode cX4_digest 237 = .ok (.i2l, 1) := by decide +kernel
theorem dX4_digest_238 : decode cX4_digest 238 = .ok (.invokevirtual 245, 3) := by decide +kernel
theorem dX4_digest_241 : decode cX4_digest 241 = .ok (.iinc 1 1, 3) := by decide +kernel
theorem dX4_digest_244 : decode cX4_digest 244 = .ok (.goto (-19), 3) := by decide +kernel
theorem dX4_digest_247 : decode cX4_digest 247 = .ok (.aload_n 0, 1) := by decide +kernel
theorem dX4_digest_248 : decode cX4_digest 248 = .ok (.getfield 239, 3) := by decide +kernel
theorem dX4_digest_251 : decode cX4_digest 251 = .ok (.lreturn, 1) := by decide +kernel
theorem dJ6_bitCount_0f7a4_0 : decode cJ6_bitCount_0f7a4 0 = .ok (.iload_n 0, 1) := by decide +kernel
theorem dJ6_bitCount_0f7a4_1 : decode cJ6_bitCount_0f7a4 1 = .ok (.iload_n 0, 1) := by decide +kernel
theorem dJ6_bitCount_0f7a4_2 : decode cJ6_bitCount_0f7a4 2 = .ok (.iconst 1, 1) := by decide +kernel
theorem dJ6_bitCount_0f7a4_3 : decode cJ6_bitCount_0f7a4 3 = .ok (.iushr, 1) := by decide +kernel
theorem dJ6_bitCount_0f7a4_4 : decode cJ6_bitCount_0f7a4 4 = .ok (.ldc_w 265, 3) := by decide +kernel
theorem dJ6_bitCount_0f7a4_7 : decode cJ6_bitCount_0f7a4 7 = .ok (.iand, 1) := by decide +kernel
theorem dJ6_bitCount_0f7a4_8 : decode cJ6_bitCount_0f7a4 8 = .ok (.isub, 1) := by decide +kernel
theorem dJ6_bitCount_0f7a4_9 : decode cJ6_bitCount_0f7a4 9 = .ok (.istore_n 0, 1) := by decide +kernel
theorem dJ6_bitCount_0f7a4_10 : decode cJ6_bitCount_0f7a4 10 = .ok (.iload_n 0, 1) := by decide +kernel
theorem dJ6_bitCount_0f7a4_11 : decode cJ6_bitCount_0f7a4 11 = .ok (.ldc_w 266, 3) := by decide +kernel
theorem dJ6_bitCount_0f7a4_14 : decode cJ6_bitCount_0f7a4 14 = .ok (.iand, 1) := by decide +kernel
theorem dJ6_bitCount_0f7a4_15 : decode cJ6_bitCount_0f7a4 15 = .ok (.iload_n 0, 1) := by decide +kernel
theorem dJ6_bitCount_0f7a4_16 : decode cJ6_bitCount_0f7a4 16 = .ok (.iconst 2, 1) := by decide +kernel
theorem dJ6_bitCount_0f7a4_17 : decode cJ6_bitCount_0f7a4 17 = .ok (.iushr, 1) := by decide +kernel
theorem dJ6_bitCount_0f7a4_18 : decode cJ6_bitCount_0f7a4 18 = .ok (.ldc_w 266, 3) := by decide +kernel
theorem dJ6_bitCount_0f7a4_21 : decode cJ6_bitCount_0f7a4 21 = .ok (.iand, 1) := by decide +kernel
theorem dJ6_bitCount_0f7a4_22 : decode cJ6_bitCount_0f7a4 22 = .ok (.iadd, 1) := by decide +kernel
theorem dJ6_bitCount_0f7a4_23 : decode cJ6_bitCount_0f7a4 23 = .ok (.istore_n 0, 1) := by decide +kernel
theorem dJ6_bitCount_0f7a4_24 : decode cJ6_bitCount_0f7a4 24 = .ok (.iload_n 0, 1) := by decide +kernel
theorem dJ6_bitCount_0f7a4_25 : decode cJ6_bitCount_0f7a4 25 = .ok (.iload_n 0, 1) := by decide +kernel
theorem dJ6_bitCount_0f7a4_26 : decode cJ6_bitCount_0f7a4 26 = .ok (.iconst 4, 1) := by decide +kernel
theorem dJ6_bitCount_0f7a4_27 : decode cJ6_bitCount_0f7a4 27 = .ok (.iushr, 1) := by decide +kernel
theorem dJ6_bitCount_0f7a4_28 : decode cJ6_bitCount_0f7a4 28 = .ok (.iadd, 1) := by decide +kernel
theorem dJ6_bitCount_0f7a4_29 : decode cJ6_bitCount_0f7a4 29 = .ok (.ldc_w 267, 3) := by decide +kernel
theorem dJ6_bitCount_0f7a4_32 : decode cJ6_bitCount_0f7a4 32 = .ok (.iand, 1) := by decide +kernel
theorem dJ6_bitCount_0f7a4_33 : decode cJ6_bitCount_0f7a4 33 = .ok (.istore_n 0, 1) := by decide +kernel
theorem dJ6_bitCount_0f7a4_34 : decode cJ6_bitCount_0f7a4 34 = .ok (.iload_n 0, 1) := by decide +kernel
theorem dJ6_bitCount_0f7a4_35 : decode cJ6_bitCount_0f7a4 35 = .ok (.iload_n 0, 1) := by decide +kernel
theorem dJ6_bitCount_0f7a4_36 : decode cJ6_bitCount_0f7a4 36 = .ok (.bipush 8, 2) := by decide +kernel
theorem dJ6_bitCount_0f7a4_38 : decode cJ6_bitCount_0f7a4 38 = .ok (.iushr, 1) := by decide +kernel
theorem dJ6_bitCount_0f7a4_39 : decode cJ6_bitCount_0f7a4 39 = .ok (.iadd, 1) := by decide +kernel
theorem dJ6_bitCount_0f7a4_40 : decode cJ6_bitCount_0f7a4 40 = .ok (.istore_n 0, 1) := by decide +kernel
theorem dJ6_bitCount_0f7a4_41 : decode cJ6_bitCount_0f7a4 41 = .ok (.iload_n 0, 1) := by decide +kernel
theorem dJ6_bitCount_0f7a4_42 : decode cJ6_bitCount_0f7a4 42 = .ok (.iload_n 0, 1) := by decide +kernel
theorem dJ6_bitCount_0f7a4_43 : decode cJ6_bitCount_0f7a4 43 = .ok (.bipush 16, 2) := by decide +kernel
theorem dJ6_bitCount_0f7a4_45 : decode cJ6_bitCount_0f7a4 45 = .ok (.iushr, 1) := by decide +kernel
theorem dJ6_bitCount_0f7a4_46 : decode cJ6_bitCount_0f7a4 46 = .ok (.iadd, 1) := by decide +kernel
theorem dJ6_bitCount_0f7a4_47 : decode cJ6_bitCount_0f7a4 47 = .ok (.istore_n 0, 1) := by decide +kernel
theorem dJ6_bitCount_0f7a4_48 : decode cJ6_bitCount_0f7a4 48 = .ok (.iload_n 0, 1) := by decide +kernel
theorem dJ6_bitCount_0f7a4_49 : decode cJ6_bitCount_0f7a4 49 = .ok (.bipush 63, 2) := by decide +kernel
theorem dJ6_bitCount_0f7a4_51 : decode cJ6_bitCount_0f7a4 51 = .ok (.iand, 1) := by decide +kernel
theorem dJ6_bitCount_0f7a4_52 : decode cJ6_bitCount_0f7a4 52 = .ok (.ireturn, 1) := by decide +kernel
theorem dJ9_max_7cf53_0 : decode cJ9_max_7cf53 0 = .ok (.iload_n 0, 1) := by decide +kernel
theorem dJ9_max_7cf53_1 : decode cJ9_max_7cf53 1 = .ok (.iload_n 1, 1) := by decide +kernel
theorem dJ9_max_7cf53_2 : decode cJ9_max_7cf53 2 = .ok (.if_icmp .lt 7, 3) := by decide +kernel
theorem dJ9_max_7cf53_5 : decode cJ9_max_7cf53 5 = .ok (.iload_n 0, 1) := by decide +kernel
theorem dJ9_max_7cf53_6 : decode cJ9_max_7cf53 6 = .ok (.goto 4, 3) := by decide +kernel
theorem dJ9_max_7cf53_9 : decode cJ9_max_7cf53 9 = .ok (.iload_n 1, 1) := by decide +kernel
theorem dJ9_max_7cf53_10 : decode cJ9_max_7cf53 10 = .ok (.ireturn, 1) := by decide +kernel
theorem dJ9_min_7cf53_0 : decode cJ9_min_7cf53 0 = .ok (.iload_n 0, 1) := by decide +kernel
theorem dJ9_min_7cf53_1 : decode cJ9_min_7cf53 1 = .ok (.iload_n 1, 1) := by decide +kernel
theorem dJ9_min_7cf53_2 : decode cJ9_min_7cf53 2 = .ok (.if_icmp .gt 7, 3) := by decide +kernel
theorem dJ9_min_7cf53_5 : decode cJ9_min_7cf53 5 = .ok (.iload_n 0, 1) := by decide +kernel
theorem dJ9_min_7cf53_6 : decode cJ9_min_7cf53 6 = .ok (.goto 4, 3) := by decide +kernel
theorem dJ9_min_7cf53_9 : decode cJ9_min_7cf53 9 = .ok (.iload_n 1, 1) := by decide +kernel
theorem dJ9_min_7cf53_10 : decode cJ9_min_7cf53 10 = .ok (.ireturn, 1) := by decide +kernel
end
section
theorem dL_law_0 : decode cL_law 0 = .ok (.new 7, 3) := by decide +kernel
theorem dL_law_3 : decode cL_law 3 = .ok (.dup, 1) := by decide +kernel
theorem dL_law_4 : decode cL_law 4 = .ok (.invokespecial 9, 3) := by decide +kernel
theorem dL_law_7 : decode cL_law 7 = .ok (.astore_n 1, 1) := by decide +kernel
theorem dL_law_8 : decode cL_law 8 = .ok (.new 10, 3) := by decide +kernel
theorem dL_law_11 : decode cL_law 11 = .ok (.dup, 1) := by decide +kernel
theorem dL_law_12 : decode cL_law 12 = .ok (.invokespecial 12, 3) := by decide +kernel
theorem dL_law_15 : decode cL_law 15 = .ok (.astore_n 2, 1) := by decide +kernel
theorem dL_law_16 : decode cL_law 16 = .ok (.iconst 0, 1) := by decide +kernel
theorem dL_law_17 : decode cL_law 17 = .ok (.istore_n 3, 1) := by decide +kernel
theorem dL_law_18 : decode cL_law 18 = .ok (.iload_n 3, 1) := by decide +kernel
theorem dL_law_19 : decode cL_law 19 = .ok (.aload_n 0, 1) := by decide +kernel
theorem dL_law_20 : decode cL_law 20 = .ok (.arraylength, 1) := by decide +kernel
theorem dL_law_21 : decode cL_law 21 = .ok (.iconst 5, 1) := by decide +kernel
theorem dL_law_22 : decode cL_law 22 = .ok (.isub, 1) := by decide +kernel
theorem dL_law_23 : decode cL_law 23 = .ok (.if_icmp .gt 668, 3) := by decide +kernel
theorem dL_law_26 : decode cL_law 26 = .ok (.aload_n 0, 1) := by decide +kernel
theorem dL_law_27 : decode cL_law 27 = .ok (.iload_n 3, 1) := by decide +kernel
theorem dL_law_28 : decode cL_law 28 = .ok (.iaload, 1) := by decide +kernel
theorem dL_law_29 : decode cL_law 29 = .ok (.bipush 31, 2) := by decide +kernel
theorem dL_law_31 : decode cL_law 31 = .ok (.iand, 1) := by decide +kernel
theorem dL_law_32 : decode cL_law 32 = .ok (.tableswitch 653 0 19 #[96, 119, 132, 145, 158, 191, 224, 257, 290, 333, 386, 419, 442, 465, 534, 547, 590, 603, 616, 639], 96) := by decide +kernel
theorem dL_law_128 : decode cL_law 128 = .ok (.aload_n 1, 1) := by decide +kernel
theorem dL_law_129 : decode cL_law 129 = .ok (.aload_n 0, 1) := by decide +kernel
theorem dL_law_130 : decode cL_law 130 = .ok (.iload_n 3, 1) := by decide +kernel
theorem dL_law_131 : decode cL_law 131 = .ok (.iconst 1, 1) := by decide +kernel
theorem dL_law_132 : decode cL_law 132 = .ok (.iadd, 1) := by decide +kernel
theorem dL_law_133 : decode cL_law 133 = .ok (.iaload, 1) := by decide +kernel
theorem dL_law_134 : decode cL_law 134 = .ok (.invokevirtual 13, 3) := by decide +kernel
theorem dL_law_137 : decode cL_law 137 = .ok (.aload_n 2, 1) := by decide +kernel
theorem dL_law_138 : decode cL_law 138 = .ok (.aload_n 0, 1) := by decide +kernel
theorem dL_law_139 : decode cL_law 139 = .ok (.iload_n 3, 1) := by decide +kernel
theorem dL_law_140 : decode cL_law 140 = .ok (.iconst 1, 1) := by decide +kernel
theorem dL_law_141 : decode cL_law 141 = .ok (.iadd, 1) := by decide +kernel
theorem dL_law_142 : decode cL_law 142 = .ok (.iaload, 1) := by decide +kernel
theorem dL_law_143 : decode cL_law 143 = .ok (.invokevirtual 17, 3) := by decide +kernel
theorem dL_law_146 : decode cL_law 146 = .ok (.if_icmp .eq 539, 3) := by decide +kernel
theorem dL_law_149 : decode cL_law 149 = .ok (.iconst 0, 1) := by decide +kernel
theorem dL_law_150 : decode cL_law 150 = .ok (.ireturn, 1) := by decide +kernel
theorem dL_law_151 : decode cL_law 151 = .ok (.aload_n 1, 1) := by decide +kernel
theorem dL_law_152 : decode cL_law 152 = .ok (.invokevirtual 18, 3) := by decide +kernel
theorem dL_law_155 : decode cL_law 155 = .ok (.aload_n 2, 1) := by decide +kernel
theorem dL_law_156 : decode cL_law 156 = .ok (.invokevirtual 22, 3) := by decide +kernel
theorem dL_law_159 : decode cL_law 159 = .ok (.if_icmp .eq 526, 3) := by decide +kernel
theorem dL_law_162 : decode cL_law 162 = .ok (.iconst 0, 1) := by decide +kernel
theorem dL_law_163 : decode cL_law 163 = .ok (.ireturn, 1) := by decide +kernel
theorem dL_law_164 : decode cL_law 164 = .ok (.aload_n 1, 1) := by decide +kernel
theorem dL_law_165 : decode cL_law 165 = .ok (.invokevirtual 23, 3) := by decide +kernel
theorem dL_law_168 : decode cL_law 168 = .ok (.aload_n 2, 1) := by decide +kernel
theorem dL_law_169 : decode cL_law 169 = .ok (.invokevirtual 26, 3) := by decide +kernel
theorem dL_law_172 : decode cL_law 172 = .ok (.if_icmp .eq 513, 3) := by decide +kernel
theorem dL_law_175 : decode cL_law 175 = .ok (.iconst 0, 1) := by decide +kernel
theorem dL_law_176 : decode cL_law 176 = .ok (.ireturn, 1) := by decide +kernel
theorem dL_law_177 : decode cL_law 177 = .ok (.aload_n 1, 1) := by decide +kernel
theorem dL_law_178 : decode cL_law 178 = .ok (.invokevirtual 27, 3) := by decide +kernel
theorem dL_law_181 : decode cL_law 181 = .ok (.aload_n 2, 1) := by decide +kernel
theorem dL_law_182 : decode cL_law 182 = .ok (.invokevirtual 30, 3) := by decide +kernel
theorem dL_law_185 : decode cL_law 185 = .ok (.if_icmp .eq 500, 3) := by decide +kernel
theorem dL_law_188 : decode cL_law 188 = .ok (.iconst 0, 1) := by decide +kernel
theorem dL_law_189 : decode cL_law 189 = .ok (.ireturn, 1) := by decide +kernel
theorem dL_law_190 : decode cL_law 190 = .ok (.aload_n 1, 1) := by decide +kernel
theorem dL_law_191 : decode cL_law 191 = .ok (.aload_n 0, 1) := by decide +kernel
theorem dL_law_192 : decode cL_law 192 = .ok (.iload_n 3, 1) := by decide +kernel
theorem dL_law_193 : decode cL_law 193 = .ok (.iconst 1, 1) := by decide +kernel
theorem dL_law_194 : decode cL_law 194 = .ok (.iadd, 1) := by decide +kernel
theorem dL_law_195 : decode cL_law 195 = .ok (.iaload, 1) := by decide +kernel
theorem dL_law_196 : decode cL_law 196 = .ok (.aload_n 0, 1) := by decide +kernel
theorem dL_law_197 : decode cL_law 197 = .ok (.iload_n 3, 1) := by decide +kernel
theorem dL_law_198 : decode cL_law 198 = .ok (.iconst 2, 1) := by decide +kernel
theorem dL_law_199 : decode cL_law 199 = .ok (.iadd, 1) := by decide +kernel
theorem dL_law_200 : decode cL_law 200 = .ok (.iaload, 1) := by decide +kernel
theorem dL_law_201 : decode cL_law 201 = .ok (.invokevirtual 31, 3) := by decide +kernel
theorem dL_law_204 : decode cL_law 204 = .ok (.aload_n 2, 1) := by decide +kernel
theorem dL_law_205 : decode cL_law 205 = .ok (.aload_n 0, 1) := by decide +kernel
theorem dL_law_206 : decode cL_law 206 = .ok (.iload_n 3, 1) := by decide +kernel
theorem dL_law_207 : decode cL_law 207 = .ok (.iconst 1, 1) := by decide +kernel
theorem dL_law_208 : decode cL_law 208 = .ok (.iadd, 1) := by decide +kernel
theorem dL_law_209 : decode cL_law 209 = .ok (.iaload, 1) := by decide +kernel
theorem dL_law_210 : decode cL_law 210 = .ok (.aload_n 0, 1) := by decide +kernel
theorem dL_law_211 : decode cL_law 211 = .ok (.iload_n 3, 1) := by decide +kernel
theorem dL_law_212 : decode cL_law 212 = .ok (.iconst 2, 1) := by decide +kernel
theorem dL_law_213 : decode cL_law 213 = .ok (.iadd, 1) := by decide +kernel
theorem dL_law_214 : decode cL_law 214 = .ok (.iaload, 1) := by decide +kernel
theorem dL_law_215 : decode cL_law 215 = .ok (.invokevirtual 35, 3) := by decide +kernel
theorem dL_law_218 : decode cL_law 218 = .ok (.if_icmp .eq 467, 3) := by decide +kernel
theorem dL_law_221 : decode cL_law 221 = .ok (.iconst 0, 1) := by decide +kernel
theorem dL_law_222 : decode cL_law 222 = .ok (.ireturn, 1) := by decide +kernel
theorem dL_law_223 : decode cL_law 223 = .ok (.aload_n 1, 1) := by decide +kernel
theorem dL_law_224 : decode cL_law 224 = .ok (.aload_n 0, 1) := by decide +kernel
theorem dL_law_225 : decode cL_law 225 = .ok (.iload_n 3, 1) := by decide +kernel
theorem dL_law_226 : decode cL_law 226 = .ok (.iconst 1, 1) := by decide +kernel
theorem dL_law_227 : decode cL_law 227 = .ok (.iadd, 1) := by decide +kernel
theorem dL_law_228 : decode cL_law 228 = .ok (.iaload, 1) := by decide +kernel
theorem dL_law_229 : decode cL_law 229 = .ok (.aload_n 0, 1) := by decide +kernel
theorem dL_law_230 : decode cL_law 230 = .ok (.iload_n 3, 1) := by decide +kernel
theorem dL_law_231 : decode cL_law 231 = .ok (.iconst 2, 1) := by decide +kernel
theorem dL_law_232 : decode cL_law 232 = .ok (.iadd, 1) := by decide +kernel
theorem dL_law_233 : decode cL_law 233 = .ok (.iaload, 1) := by decide +kernel
theorem dL_law_234 : decode cL_law 234 = .ok (.invokevirtual 36, 3) := by decide +kernel
theorem dL_law_237 : decode cL_law 237 = .ok (.aload_n 2, 1) := by decide +kernel
theorem dL_law_238 : decode cL_law 238 = .ok (.aload_n 0, 1) := by decide +kernel
theorem dL_law_239 : decode cL_law 239 = .ok (.iload_n 3, 1) := by decide +kernel
theorem dL_law_240 : decode cL_law 240 = .ok (.iconst 1, 1) := by decide +kernel
theorem dL_law_241 : decode cL_law 241 = .ok (.iadd, 1) := by decide +kernel
theorem dL_law_242 : decode cL_law 242 = .ok (.iaload, 1) := by decide +kernel
theorem dL_law_243 : decode cL_law 243 = .ok (.aload_n 0, 1) := by decide +kernel
theorem dL_law_244 : decode cL_law 244 = .ok (.iload_n 3, 1) := by decide +kernel
theorem dL_law_245 : decode cL_law 245 = .ok (.iconst 2, 1) := by decide +kernel
theorem dL_law_246 : decode cL_law 246 = .ok (.iadd, 1) := by decide +kernel
theorem dL_law_247 : decode cL_law 247 = .ok (.iaload, 1) := by decide +kernel
theorem dL_law_248 : decode cL_law 248 = .ok (.invokevirtual 39, 3) := by decide +kernel
theorem dL_law_251 : decode cL_law 251 = .ok (.if_icmp .eq 434, 3) := by decide +kernel
theorem dL_law_254 : decode cL_law 254 = .ok (.iconst 0, 1) := by decide +kernel
theorem dL_law_255 : decode cL_law 255 = .ok (.ireturn, 1) := by decide +kernel
theorem dL_law_256 : decode cL_law 256 = .ok (.aload_n 1, 1) := by decide +kernel
theorem dL_law_257 : decode cL_law 257 = .ok (.aload_n 0, 1) := by decide +kernel
theorem dL_law_258 : decode cL_law 258 = .ok (.iload_n 3, 1) := by decide +kernel
theorem dL_law_259 : decode cL_law 259 = .ok (.iconst 1, 1) := by decide +kernel
theorem dL_law_260 : decode cL_law 260 = .ok (.iadd, 1) := by decide +kernel
theorem dL_law_261 : decode cL_law 261 = .ok (.iaload, 1) := by decide +kernel
theorem dL_law_262 : decode cL_law 262 = .ok (.aload_n 0, 1) := by decide +kernel
theorem dL_law_263 : decode cL_law 263 = .ok (.iload_n 3, 1) := by decide +kernel
theorem dL_law_264 : decode cL_law 264 = .ok (.iconst 2, 1) := by decide +kernel
theorem dL_law_265 : decode cL_law 265 = .ok (.iadd, 1) := by decide +kernel
theorem dL_law_266 : decode cL_law 266 = .ok (.iaload, 1) := by decide +kernel
theorem dL_law_267 : decode cL_law 267 = .ok (.invokevirtual 40, 3) := by decide +kernel
theorem dL_law_270 : decode cL_law 270 = .ok (.aload_n 2, 1) := by decide +kernel
theorem dL_law_271 : decode cL_law 271 = .ok (.aload_n 0, 1) := by decide +kernel
theorem dL_law_272 : decode cL_law 272 = .ok (.iload_n 3, 1) := by decide +kernel
theorem dL_law_273 : decode cL_law 273 = .ok (.iconst 1, 1) := by decide +kernel
theorem dL_law_274 : decode cL_law 274 = .ok (.iadd, 1) := by decide +kernel
theorem dL_law_275 : decode cL_law 275 = .ok (.iaload, 1) := by decide +kernel
theorem dL_law_276 : decode cL_law 276 = .ok (.aload_n 0, 1) := by decide +kernel
theorem dL_law_277 : decode cL_law 277 = .ok (.iload_n 3, 1) := by decide +kernel
theorem dL_law_278 : decode cL_law 278 = .ok (.iconst 2, 1) := by decide +kernel
theorem dL_law_279 : decode cL_law 279 = .ok (.iadd, 1) := by decide +kernel
theorem dL_law_280 : decode cL_law 280 = .ok (.iaload, 1) := by decide +kernel
theorem dL_law_281 : decode cL_law 281 = .ok (.invokevirtual 43, 3) := by decide +kernel
theorem dL_law_284 : decode cL_law 284 = .ok (.if_icmp .eq 401, 3) := by decide +kernel
theorem dL_law_287 : decode cL_law 287 = .ok (.iconst 0, 1) := by decide +kernel
theorem dL_law_288 : decode cL_law 288 = .ok (.ireturn, 1) := by decide +kernel
theorem dL_law_289 : decode cL_law 289 = .ok (.aload_n 1, 1) := by decide +kernel
theorem dL_law_290 : decode cL_law 290 = .ok (.aload_n 0, 1) := by decide +kernel
theorem dL_law_291 : decode cL_law 291 = .ok (.iload_n 3, 1) := by decide +kernel
theorem dL_law_292 : decode cL_law 292 = .ok (.iconst 1, 1) := by decide +kernel
theorem dL_law_293 : decode cL_law 293 = .ok (.iadd, 1) := by decide +kernel
theorem dL_law_294 : decode cL_law 294 = .ok (.iaload, 1) := by decide +kernel
theorem dL_law_295 : decode cL_law 295 = .ok (.aload_n 0, 1) := by decide +kernel
theorem dL_law_296 : decode cL_law 296 = .ok (.iload_n 3, 1) := by decide +kernel
theorem dL_law_297 : decode cL_law 297 = .ok (.iconst 2, 1) := by decide +kernel
theorem dL_law_298 : decode cL_law 298 = .ok (.iadd, 1) := by decide +kernel
theorem dL_law_299 : decode cL_law 299 = .ok (.iaload, 1) := by decide +kernel
theorem dL_law_300 : decode cL_law 300 = .ok (.invokevirtual 44, 3) := by decide +kernel
theorem dL_law_303 : decode cL_law 303 = .ok (.aload_n 2, 1) := by decide +kernel
theorem dL_law_304 : decode cL_law 304 = .ok (.aload_n 0, 1) := by decide +kernel
theorem dL_law_305 : decode cL_law 305 = .ok (.iload_n 3, 1) := by decide +kernel
theorem dL_law_306 : decode cL_law 306 = .ok (.iconst 1, 1) := by decide +kernel
theorem dL_law_307 : decode cL_law 307 = .ok (.iadd, 1) := by decide +kernel
theorem dL_law_308 : decode cL_law 308 = .ok (.iaload, 1) := by decide +kernel
theorem dL_law_309 : decode cL_law 309 = .ok (.aload_n 0, 1) := by decide +kernel
theorem dL_law_310 : decode cL_law 310 = .ok (.iload_n 3, 1) := by decide +kernel
theorem dL_law_311 : decode cL_law 311 = .ok (.iconst 2, 1) := by decide +kernel
theorem dL_law_312 : decode cL_law 312 = .ok (.iadd, 1) := by decide +kernel
theorem dL_law_313 : decode cL_law 313 = .ok (.iaload, 1) := by decide +kernel
theorem dL_law_314 : decode cL_law 314 = .ok (.invokevirtual 47, 3) := by decide +kernel
theorem dL_law_317 : decode cL_law 317 = .ok (.if_icmp .eq 368, 3) := by decide +kernel
theorem dL_law_320 : decode cL_law 320 = .ok (.iconst 0, 1) := by decide +kernel
theorem dL_law_321 : decode cL_law 321 = .ok (.ireturn, 1) := by decide +kernel
theorem dL_law_322 : decode cL_law 322 = .ok (.aload_n 1, 1) := by decide +kernel
theorem dL_law_323 : decode cL_law 323 = .ok (.aload_n 0, 1) := by decide +kernel
theorem dL_law_324 : decode cL_law 324 = .ok (.iload_n 3, 1) := by decide +kernel
theorem dL_law_325 : decode cL_law 325 = .ok (.iconst 1, 1) := by decide +kernel
theorem dL_law_326 : decode cL_law 326 = .ok (.iadd, 1) := by decide +kernel
theorem dL_law_327 : decode cL_law 327 = .ok (.iaload, 1) := by decide +kernel
theorem dL_law_328 : decode cL_law 328 = .ok (.aload_n 0, 1) := by decide +kernel
theorem dL_law_329 : decode cL_law 329 = .ok (.iload_n 3, 1) := by decide +kernel
theorem dL_law_330 : decode cL_law 330 = .ok (.iconst 2, 1) := by decide +kernel
theorem dL_law_331 : decode cL_law 331 = .ok (.iadd, 1) := by decide +kernel
theorem dL_law_332 : decode cL_law 332 = .ok (.iaload, 1) := by decide +kernel
theorem dL_law_333 : decode cL_law 333 = .ok (.aload_n 0, 1) := by decide +kernel
theorem dL_law_334 : decode cL_law 334 = .ok (.iload_n 3, 1) := by decide +kernel
theorem dL_law_335 : decode cL_law 335 = .ok (.iconst 3, 1) := by decide +kernel
theorem dL_law_336 : decode cL_law 336 = .ok (.iadd, 1) := by decide +kernel
theorem dL_law_337 : decode cL_law 337 = .ok (.iaload, 1) := by decide +kernel
theorem dL_law_338 : decode cL_law 338 = .ok (.invokevirtual 48, 3) := by decide +kernel
theorem dL_law_341 : decode cL_law 341 = .ok (.aload_n 2, 1) := by decide +kernel
theorem dL_law_342 : decode cL_law 342 = .ok (.aload_n 0, 1) := by decide +kernel
theorem dL_law_343 : decode cL_law 343 = .ok (.iload_n 3, 1) := by decide +kernel
theorem dL_law_344 : decode cL_law 344 = .ok (.iconst 1, 1) := by decide +kernel
theorem dL_law_345 : decode cL_law 345 = .ok (.iadd, 1) := by decide +kernel
theorem dL_law_346 : decode cL_law 346 = .ok (.iaload, 1) := by decide +kernel
theorem dL_law_347 : decode cL_law 347 = .ok (.aload_n 0, 1) := by decide +kernel
theorem dL_law_348 : decode cL_law 348 = .ok (.iload_n 3, 1) := by decide +kernel
theorem dL_law_349 : decode cL_law 349 = .ok (.iconst 2, 1) := by decide +kernel
theorem dL_law_350 : decode cL_law 350 = .ok (.iadd, 1) := by decide +kernel
theorem dL_law_351 : decode cL_law 351 = .ok (.iaload, 1) := by decide +kernel
theorem dL_law_352 : decode cL_law 352 = .ok (.aload_n 0, 1) := by decide +kernel
theorem dL_law_353 : decode cL_law 353 = .ok (.iload_n 3, 1) := by decide +kernel
theorem dL_law_354 : decode cL_law 354 = .ok (.iconst 3, 1) := by decide +kernel
theorem dL_law_355 : decode cL_law 355 = .ok (.iadd, 1) := by decide +kernel
theorem dL_law_356 : decode cL_law 356 = .ok (.iaload, 1) := by decide +kernel
theorem dL_law_357 : decode cL_law 357 = .ok (.invokevirtual 52, 3) := by decide +kernel
theorem dL_law_360 : decode cL_law 360 = .ok (.if_icmp .eq 325, 3) := by decide +kernel
theorem dL_law_363 : decode cL_law 363 = .ok (.iconst 0, 1) := by decide +kernel
theorem dL_law_364 : decode cL_law 364 = .ok (.ireturn, 1) := by decide +kernel
theorem dL_law_365 : decode cL_law 365 = .ok (.aload_n 1, 1) := by decide +kernel
theorem dL_law_366 : decode cL_law 366 = .ok (.aload_n 0, 1) := by decide +kernel
theorem dL_law_367 : decode cL_law 367 = .ok (.iload_n 3, 1) := by decide +kernel
theorem dL_law_368 : decode cL_law 368 = .ok (.iconst 1, 1) := by decide +kernel
theorem dL_law_369 : decode cL_law 369 = .ok (.iadd, 1) := by decide +kernel
theorem dL_law_370 : decode cL_law 370 = .ok (.iaload, 1) := by decide +kernel
theorem dL_law_371 : decode cL_law 371 = .ok (.aload_n 0, 1) := by decide +kernel
theorem dL_law_372 : decode cL_law 372 = .ok (.iload_n 3, 1) := by decide +kernel
theorem dL_law_373 : decode cL_law 373 = .ok (.iconst 2, 1) := by decide +kernel
theorem dL_law_374 : decode cL_law 374 = .ok (.iadd, 1) := by decide +kernel
theorem dL_law_375 : decode cL_law 375 = .ok (.iaload, 1) := by decide +kernel
theorem dL_law_376 : decode cL_law 376 = .ok (.aload_n 0, 1) := by decide +kernel
theorem dL_law_377 : decode cL_law 377 = .ok (.iload_n 3, 1) := by decide +kernel
theorem dL_law_378 : decode cL_law 378 = .ok (.iconst 3, 1) := by decide +kernel
theorem dL_law_379 : decode cL_law 379 = .ok (.iadd, 1) := by decide +kernel
theorem dL_law_380 : decode cL_law 380 = .ok (.iaload, 1) := by decide +kernel
theorem dL_law_381 : decode cL_law 381 = .ok (.aload_n 0, 1) := by decide +kernel
theorem dL_law_382 : decode cL_law 382 = .ok (.iload_n 3, 1) := by decide +kernel
theorem dL_law_383 : decode cL_law 383 = .ok (.iconst 4, 1) := by decide +kernel
theorem dL_law_384 : decode cL_law 384 = .ok (.iadd, 1) := by decide +kernel
theorem dL_law_385 : decode cL_law 385 = .ok (.iaload, 1) := by decide +kernel
theorem dL_law_386 : decode cL_law 386 = .ok (.invokevirtual 53, 3) := by decide +kernel
theorem dL_law_389 : decode cL_law 389 = .ok (.aload_n 2, 1) := by decide +kernel
theorem dL_law_390 : decode cL_law 390 = .ok (.aload_n 0, 1) := by decide +kernel
theorem dL_law_391 : decode cL_law 391 = .ok (.iload_n 3, 1) := by decide +kernel
theorem dL_law_392 : decode cL_law 392 = .ok (.iconst 1, 1) := by decide +kernel
theorem dL_law_393 : decode cL_law 393 = .ok (.iadd, 1) := by decide +kernel
theorem dL_law_394 : decode cL_law 394 = .ok (.iaload, 1) := by decide +kernel
theorem dL_law_395 : decode cL_law 395 = .ok (.aload_n 0, 1) := by decide +kernel
theorem dL_law_396 : decode cL_law 396 = .ok (.iload_n 3, 1) := by decide +kernel
theorem dL_law_397 : decode cL_law 397 = .ok (.iconst 2, 1) := by decide +kernel
theorem dL_law_398 : decode cL_law 398 = .ok (.iadd, 1) := by decide +kernel
theorem dL_law_399 : decode cL_law 399 = .ok (.iaload, 1) := by decide +kernel
theorem dL_law_400 : decode cL_law 400 = .ok (.aload_n 0, 1) := by decide +kernel
theorem dL_law_401 : decode cL_law 401 = .ok (.iload_n 3, 1) := by decide +kernel
theorem dL_law_402 : decode cL_law 402 = .ok (.iconst 3, 1) := by decide +kernel
theorem dL_law_403 : decode cL_law 403 = .ok (.iadd, 1) := by decide +kernel
theorem dL_law_404 : decode cL_law 404 = .ok (.iaload, 1) := by decide +kernel
theorem dL_law_405 : decode cL_law 405 = .ok (.aload_n 0, 1) := by decide +kernel
theorem dL_law_406 : decode cL_law 406 = .ok (.iload_n 3, 1) := by decide +kernel
theorem dL_law_407 : decode cL_law 407 = .ok (.iconst 4, 1) := by decide +kernel
theorem dL_law_408 : decode cL_law 408 = .ok (.iadd, 1) := by decide +kernel
theorem dL_law_409 : decode cL_law 409 = .ok (.iaload, 1) := by decide +kernel
theorem dL_law_410 : decode cL_law 410 = .ok (.invokevirtual 57, 3) := by decide +kernel
theorem dL_law_413 : decode cL_law 413 = .ok (.if_icmp .eq 272, 3) := by decide +kernel
theorem dL_law_416 : decode cL_law 416 = .ok (.iconst 0, 1) := by decide +kernel
theorem dL_law_417 : decode cL_law 417 = .ok (.ireturn, 1) := by decide +kernel
theorem dL_law_418 : decode cL_law 418 = .ok (.aload_n 1, 1) := by decide +kernel
theorem dL_law_419 : decode cL_law 419 = .ok (.aload_n 0, 1) := by decide +kernel
theorem dL_law_420 : decode cL_law 420 = .ok (.iload_n 3, 1) := by decide +kernel
theorem dL_law_421 : decode cL_law 421 = .ok (.iconst 1, 1) := by decide +kernel
theorem dL_law_422 : decode cL_law 422 = .ok (.iadd, 1) := by decide +kernel
theorem dL_law_423 : decode cL_law 423 = .ok (.iaload, 1) := by decide +kernel
theorem dL_law_424 : decode cL_law 424 = .ok (.aload_n 0, 1) := by decide +kernel
theorem dL_law_425 : decode cL_law 425 = .ok (.iload_n 3, 1) := by decide +kernel
theorem dL_law_426 : decode cL_law 426 = .ok (.iconst 2, 1) := by decide +kernel
theorem dL_law_427 : decode cL_law 427 = .ok (.iadd, 1) := by decide +kernel
theorem dL_law_428 : decode cL_law 428 = .ok (.iaload, 1) := by decide +kernel
theorem dL_law_429 : decode cL_law 429 = .ok (.invokevirtual 58, 3) := by decide +kernel
theorem dL_law_432 : decode cL_law 432 = .ok (.aload_n 2, 1) := by decide +kernel
theorem dL_law_433 : decode cL_law 433 = .ok (.aload_n 0, 1) := by decide +kernel
theorem dL_law_434 : decode cL_law 434 = .ok (.iload_n 3, 1) := by decide +kernel
theorem dL_law_435 : decode cL_law 435 = .ok (.iconst 1, 1) := by decide +kernel
theorem dL_law_436 : decode cL_law 436 = .ok (.iadd, 1) := by decide +kernel
theorem dL_law_437 : decode cL_law 437 = .ok (.iaload, 1) := by decide +kernel
theorem dL_law_438 : decode cL_law 438 = .ok (.aload_n 0, 1) := by decide +kernel
theorem dL_law_439 : decode cL_law 439 = .ok (.iload_n 3, 1) := by decide +kernel
theorem dL_law_440 : decode cL_law 440 = .ok (.iconst 2, 1) := by decide +kernel
theorem dL_law_441 : decode cL_law 441 = .ok (.iadd, 1) := by decide +kernel
theorem dL_law_442 : decode cL_law 442 = .ok (.iaload, 1) := by decide +kernel
theorem dL_law_443 : decode cL_law 443 = .ok (.invokevirtual 61, 3) := by decide +kernel
theorem dL_law_446 : decode cL_law 446 = .ok (.if_icmp .eq 239, 3) := by decide +kernel
theorem dL_law_449 : decode cL_law 449 = .ok (.iconst 0, 1) := by decide +kernel
theorem dL_law_450 : decode cL_law 450 = .ok (.ireturn, 1) := by decide +kernel
theorem dL_law_451 : decode cL_law 451 = .ok (.aload_n 1, 1) := by decide +kernel
theorem dL_law_452 : decode cL_law 452 = .ok (.aload_n 0, 1) := by decide +kernel
theorem dL_law_453 : decode cL_law 453 = .ok (.iload_n 3, 1) := by decide +kernel
theorem dL_law_454 : decode cL_law 454 = .ok (.iconst 1, 1) := by decide +kernel
theorem dL_law_455 : decode cL_law 455 = .ok (.iadd, 1) := by decide +kernel
theorem dL_law_456 : decode cL_law 456 = .ok (.iaload, 1) := by decide +kernel
theorem dL_law_457 : decode cL_law 457 = .ok (.invokevirtual 62, 3) := by decide +kernel
theorem dL_law_460 : decode cL_law 460 = .ok (.aload_n 2, 1) := by decide +kernel
theorem dL_law_461 : decode cL_law 461 = .ok (.aload_n 0, 1) := by decide +kernel
theorem dL_law_462 : decode cL_law 462 = .ok (.iload_n 3, 1) := by decide +kernel
theorem dL_law_463 : decode cL_law 463 = .ok (.iconst 1, 1) := by decide +kernel
theorem dL_law_464 : decode cL_law 464 = .ok (.iadd, 1) := by decide +kernel
theorem dL_law_465 : decode cL_law 465 = .ok (.iaload, 1) := by decide +kernel
theorem dL_law_466 : decode cL_law 466 = .ok (.invokevirtual 65, 3) := by decide +kernel
theorem dL_law_469 : decode cL_law 469 = .ok (.if_icmp .eq 216, 3) := by decide +kernel
theorem dL_law_472 : decode cL_law 472 = .ok (.iconst 0, 1) := by decide +kernel
theorem dL_law_473 : decode cL_law 473 = .ok (.ireturn, 1) := by decide +kernel
theorem dL_law_474 : decode cL_law 474 = .ok (.aload_n 1, 1) := by decide +kernel
theorem dL_law_475 : decode cL_law 475 = .ok (.aload_n 0, 1) := by decide +kernel
theorem dL_law_476 : decode cL_law 476 = .ok (.iload_n 3, 1) := by decide +kernel
theorem dL_law_477 : decode cL_law 477 = .ok (.iconst 1, 1) := by decide +kernel
theorem dL_law_478 : decode cL_law 478 = .ok (.iadd, 1) := by decide +kernel
theorem dL_law_479 : decode cL_law 479 = .ok (.iaload, 1) := by decide +kernel
theorem dL_law_480 : decode cL_law 480 = .ok (.invokevirtual 66, 3) := by decide +kernel
theorem dL_law_483 : decode cL_law 483 = .ok (.aload_n 2, 1) := by decide +kernel
theorem dL_law_484 : decode cL_law 484 = .ok (.aload_n 0, 1) := by decide +kernel
theorem dL_law_485 : decode cL_law 485 = .ok (.iload_n 3, 1) := by decide +kernel
theorem dL_law_486 : decode cL_law 486 = .ok (.iconst 1, 1) := by decide +kernel
theorem dL_law_487 : decode cL_law 487 = .ok (.iadd, 1) := by decide +kernel
theorem dL_law_488 : decode cL_law 488 = .ok (.iaload, 1) := by decide +kernel
theorem dL_law_489 : decode cL_law 489 = .ok (.invokevirtual 69, 3) := by decide +kernel
theorem dL_law_492 : decode cL_law 492 = .ok (.if_icmp .eq 193, 3) := by decide +kernel
theorem dL_law_495 : decode cL_law 495 = .ok (.iconst 0, 1) := by decide +kernel
theorem dL_law_496 : decode cL_law 496 = .ok (.ireturn, 1) := by decide +kernel
theorem dL_law_497 : decode cL_law 497 = .ok (.aload_n 1, 1) := by decide +kernel
theorem dL_law_498 : decode cL_law 498 = .ok (.aload_n 0, 1) := by decide +kernel
theorem dL_law_499 : decode cL_law 499 = .ok (.iload_n 3, 1) := by decide +kernel
theorem dL_law_500 : decode cL_law 500 = .ok (.iconst 1, 1) := by decide +kernel
theorem dL_law_501 : decode cL_law 501 = .ok (.iadd, 1) := by decide +kernel
theorem dL_law_502 : decode cL_law 502 = .ok (.iaload, 1) := by decide +kernel
theorem dL_law_503 : decode cL_law 503 = .ok (.aload_n 0, 1) := by decide +kernel
theorem dL_law_504 : decode cL_law 504 = .ok (.iload_n 3, 1) := by decide +kernel
theorem dL_law_505 : decode cL_law 505 = .ok (.iconst 2, 1) := by decide +kernel
theorem dL_law_506 : decode cL_law 506 = .ok (.iadd, 1) := by decide +kernel
theorem dL_law_507 : decode cL_law 507 = .ok (.iaload, 1) := by decide +kernel
theorem dL_law_508 : decode cL_law 508 = .ok (.aload_n 0, 1) := by decide +kernel
theorem dL_law_509 : decode cL_law 509 = .ok (.iload_n 3, 1) := by decide +kernel
theorem dL_law_510 : decode cL_law 510 = .ok (.iconst 3, 1) := by decide +kernel
theorem dL_law_511 : decode cL_law 511 = .ok (.iadd, 1) := by decide +kernel
theorem dL_law_512 : decode cL_law 512 = .ok (.iaload, 1) := by decide +kernel
theorem dL_law_513 : decode cL_law 513 = .ok (.aload_n 0, 1) := by decide +kernel
theorem dL_law_514 : decode cL_law 514 = .ok (.iload_n 3, 1) := by decide +kernel
theorem dL_law_515 : decode cL_law 515 = .ok (.iconst 4, 1) := by decide +kernel
theorem dL_law_516 : decode cL_law 516 = .ok (.iadd, 1) := by decide +kernel
theorem dL_law_517 : decode cL_law 517 = .ok (.iaload, 1) := by decide +kernel
theorem dL_law_518 : decode cL_law 518 = .ok (.ifCond .eq 7, 3) := by decide +kernel
theorem dL_law_521 : decode cL_law 521 = .ok (.iconst 1, 1) := by decide +kernel
theorem dL_law_522 : decode cL_law 522 = .ok (.goto 4, 3) := by decide +kernel
theorem dL_law_525 : decode cL_law 525 = .ok (.iconst 0, 1) := by decide +kernel
theorem dL_law_526 : decode cL_law 526 = .ok (.invokevirtual 70, 3) := by decide +kernel
theorem dL_law_529 : decode cL_law 529 = .ok (.aload_n 2, 1) := by decide +kernel
theorem dL_law_530 : decode cL_law 530 = .ok (.aload_n 0, 1) := by decide +kernel
theorem dL_law_531 : decode cL_law 531 = .ok (.iload_n 3, 1) := by decide +kernel
theorem dL_law_532 : decode cL_law 532 = .ok (.iconst 1, 1) := by decide +kernel
theorem dL_law_533 : decode cL_law 533 = .ok (.iadd, 1) := by decide +kernel
theorem dL_law_534 : decode cL_law 534 = .ok (.iaload, 1) := by decide +kernel
theorem dL_law_535 : decode cL_law 535 = .ok (.aload_n 0, 1) := by decide +kernel
theorem dL_law_536 : decode cL_law 536 = .ok (.iload_n 3, 1) := by decide +kernel
theorem dL_law_537 : decode cL_law 537 = .ok (.iconst 2, 1) := by decide +kernel
theorem dL_law_538 : decode cL_law 538 = .ok (.iadd, 1) := by decide +kernel
theorem dL_law_539 : decode cL_law 539 = .ok (.iaload, 1) := by decide +kernel
theorem dL_law_540 : decode cL_law 540 = .ok (.aload_n 0, 1) := by decide +kernel
theorem dL_law_541 : decode cL_law 541 = .ok (.iload_n 3, 1) := by decide +kernel
theorem dL_law_542 : decode cL_law 542 = .ok (.iconst 3, 1) := by decide +kernel
theorem dL_law_543 : decode cL_law 543 = .ok (.iadd, 1) := by decide +kernel
theorem dL_law_544 : decode cL_law 544 = .ok (.iaload, 1) := by decide +kernel
theorem dL_law_545 : decode cL_law 545 = .ok (.aload_n 0, 1) := by decide +kernel
theorem dL_law_546 : decode cL_law 546 = .ok (.iload_n 3, 1) := by decide +kernel
theorem dL_law_547 : decode cL_law 547 = .ok (.iconst 4, 1) := by decide +kernel
theorem dL_law_548 : decode cL_law 548 = .ok (.iadd, 1) := by decide +kernel
theorem dL_law_549 : decode cL_law 549 = .ok (.iaload, 1) := by decide +kernel
theorem dL_law_550 : decode cL_law 550 = .ok (.ifCond .eq 7, 3) := by decide +kernel
theorem dL_law_553 : decode cL_law 553 = .ok (.iconst 1, 1) := by decide +kernel
theorem dL_law_554 : decode cL_law 554 = .ok (.goto 4, 3) := by decide +kernel
theorem dL_law_557 : decode cL_law 557 = .ok (.iconst 0, 1) := by decide +kernel
theorem dL_law_558 : decode cL_law 558 = .ok (.invokevirtual 74, 3) := by decide +kernel
theorem dL_law_561 : decode cL_law 561 = .ok (.if_icmp .eq 124, 3) := by decide +kernel
theorem dL_law_564 : decode cL_law 564 = .ok (.iconst 0, 1) := by decide +kernel
theorem dL_law_565 : decode cL_law 565 = .ok (.ireturn, 1) := by decide +kernel
theorem dL_law_566 : decode cL_law 566 = .ok (.aload_n 1, 1) := by decide +kernel
theorem dL_law_567 : decode cL_law 567 = .ok (.invokevirtual 75, 3) := by decide +kernel
theorem dL_law_570 : decode cL_law 570 = .ok (.aload_n 2, 1) := by decide +kernel
theorem dL_law_571 : decode cL_law 571 = .ok (.invokevirtual 78, 3) := by decide +kernel
theorem dL_law_574 : decode cL_law 574 = .ok (.if_icmp .eq 111, 3) := by decide +kernel
theorem dL_law_577 : decode cL_law 577 = .ok (.iconst 0, 1) := by decide +kernel
theorem dL_law_578 : decode cL_law 578 = .ok (.ireturn, 1) := by decide +kernel
theorem dL_law_579 : decode cL_law 579 = .ok (.aload_n 1, 1) := by decide +kernel
theorem dL_law_580 : decode cL_law 580 = .ok (.aload_n 0, 1) := by decide +kernel
theorem dL_law_581 : decode cL_law 581 = .ok (.iload_n 3, 1) := by decide +kernel
theorem dL_law_582 : decode cL_law 582 = .ok (.iconst 1, 1) := by decide +kernel
theorem dL_law_583 : decode cL_law 583 = .ok (.iadd, 1) := by decide +kernel
theorem dL_law_584 : decode cL_law 584 = .ok (.iaload, 1) := by decide +kernel
theorem dL_law_585 : decode cL_law 585 = .ok (.aload_n 0, 1) := by decide +kernel
theorem dL_law_586 : decode cL_law 586 = .ok (.iload_n 3, 1) := by decide +kernel
theorem dL_law_587 : decode cL_law 587 = .ok (.iconst 2, 1) := by decide +kernel
theorem dL_law_588 : decode cL_law 588 = .ok (.iadd, 1) := by decide +kernel
theorem dL_law_589 : decode cL_law 589 = .ok (.iaload, 1) := by decide +kernel
theorem dL_law_590 : decode cL_law 590 = .ok (.aload_n 0, 1) := by decide +kernel
theorem dL_law_591 : decode cL_law 591 = .ok (.iload_n 3, 1) := by decide +kernel
theorem dL_law_592 : decode cL_law 592 = .ok (.iconst 3, 1) := by decide +kernel
theorem dL_law_593 : decode cL_law 593 = .ok (.iadd, 1) := by decide +kernel
theorem dL_law_594 : decode cL_law 594 = .ok (.iaload, 1) := by decide +kernel
theorem dL_law_595 : decode cL_law 595 = .ok (.invokevirtual 79, 3) := by decide +kernel
theorem dL_law_598 : decode cL_law 598 = .ok (.aload_n 2, 1) := by decide +kernel
theorem dL_law_599 : decode cL_law 599 = .ok (.aload_n 0, 1) := by decide +kernel
theorem dL_law_600 : decode cL_law 600 = .ok (.iload_n 3, 1) := by decide +kernel
theorem dL_law_601 : decode cL_law 601 = .ok (.iconst 1, 1) := by decide +kernel
theorem dL_law_602 : decode cL_law 602 = .ok (.iadd, 1) := by decide +kernel
theorem dL_law_603 : decode cL_law 603 = .ok (.iaload, 1) := by decide +kernel
theorem dL_law_604 : decode cL_law 604 = .ok (.aload_n 0, 1) := by decide +kernel
theorem dL_law_605 : decode cL_law 605 = .ok (.iload_n 3, 1) := by decide +kernel
theorem dL_law_606 : decode cL_law 606 = .ok (.iconst 2, 1) := by decide +kernel
theorem dL_law_607 : decode cL_law 607 = .ok (.iadd, 1) := by decide +kernel
theorem dL_law_608 : decode cL_law 608 = .ok (.iaload, 1) := by decide +kernel
theorem dL_law_609 : decode cL_law 609 = .ok (.aload_n 0, 1) := by decide +kernel
theorem dL_law_610 : decode cL_law 610 = .ok (.iload_n 3, 1) := by decide +kernel
theorem dL_law_611 : decode cL_law 611 = .ok (.iconst 3, 1) := by decide +kernel
theorem dL_law_612 : decode cL_law 612 = .ok (.iadd, 1) := by decide +kernel
theorem dL_law_613 : decode cL_law 613 = .ok (.iaload, 1) := by decide +kernel
theorem dL_law_614 : decode cL_law 614 = .ok (.invokevirtual 82, 3) := by decide +kernel
theorem dL_law_617 : decode cL_law 617 = .ok (.if_icmp .eq 68, 3) := by decide +kernel
theorem dL_law_620 : decode cL_law 620 = .ok (.iconst 0, 1) := by decide +kernel
theorem dL_law_621 : decode cL_law 621 = .ok (.ireturn, 1) := by decide +kernel
theorem dL_law_622 : decode cL_law 622 = .ok (.aload_n 1, 1) := by decide +kernel
theorem dL_law_623 : decode cL_law 623 = .ok (.invokevirtual 83, 3) := by decide +kernel
theorem dL_law_626 : decode cL_law 626 = .ok (.aload_n 2, 1) := by decide +kernel
theorem dL_law_627 : decode cL_law 627 = .ok (.invokevirtual 86, 3) := by decide +kernel
theorem dL_law_630 : decode cL_law 630 = .ok (.if_icmp .eq 55, 3) := by decide +kernel
theorem dL_law_633 : decode cL_law 633 = .ok (.iconst 0, 1) := by decide +kernel
theorem dL_law_634 : decode cL_law 634 = .ok (.ireturn, 1) := by decide +kernel
theorem dL_law_635 : decode cL_law 635 = .ok (.aload_n 1, 1) := by decide +kernel
theorem dL_law_636 : decode cL_law 636 = .ok (.invokevirtual 87, 3) := by decide +kernel
theorem dL_law_639 : decode cL_law 639 = .ok (.aload_n 2, 1) := by decide +kernel
theorem dL_law_640 : decode cL_law 640 = .ok (.invokevirtual 90, 3) := by decide +kernel
theorem dL_law_643 : decode cL_law 643 = .ok (.if_icmp .eq 42, 3) := by decide +kernel
theorem dL_law_646 : decode cL_law 646 = .ok (.iconst 0, 1) := by decide +kernel
theorem dL_law_647 : decode cL_law 647 = .ok (.ireturn, 1) := by decide +kernel
theorem dL_law_648 : decode cL_law 648 = .ok (.aload_n 1, 1) := by decide +kernel
theorem dL_law_649 : decode cL_law 649 = .ok (.aload_n 0, 1) := by decide +kernel
theorem dL_law_650 : decode cL_law 650 = .ok (.iload_n 3, 1) := by decide +kernel
theorem dL_law_651 : decode cL_law 651 = .ok (.iconst 1, 1) := by decide +kernel
theorem dL_law_652 : decode cL_law 652 = .ok (.iadd, 1) := by decide +kernel
theorem dL_law_653 : decode cL_law 653 = .ok (.iaload, 1) := by decide +kernel
theorem dL_law_654 : decode cL_law 654 = .ok (.invokevirtual 91, 3) := by decide +kernel
theorem dL_law_657 : decode cL_law 657 = .ok (.aload_n 2, 1) := by decide +kernel
theorem dL_law_658 : decode cL_law 658 = .ok (.aload_n 0, 1) := by decide +kernel
theorem dL_law_659 : decode cL_law 659 = .ok (.iload_n 3, 1) := by decide +kernel
theorem dL_law_660 : decode cL_law 660 = .ok (.iconst 1, 1) := by decide +kernel
theorem dL_law_661 : decode cL_law 661 = .ok (.iadd, 1) := by decide +kernel
theorem dL_law_662 : decode cL_law 662 = .ok (.iaload, 1) := by decide +kernel
theorem dL_law_663 : decode cL_law 663 = .ok (.invokevirtual 94, 3) := by decide +kernel
theorem dL_law_666 : decode cL_law 666 = .ok (.if_icmp .eq 19, 3) := by decide +kernel
theorem dL_law_669 : decode cL_law 669 = .ok (.iconst 0, 1) := by decide +kernel
theorem dL_law_670 : decode cL_law 670 = .ok (.ireturn, 1) := by decide +kernel
theorem dL_law_671 : decode cL_law 671 = .ok (.aload_n 1, 1) := by decide +kernel
theorem dL_law_672 : decode cL_law 672 = .ok (.invokevirtual 95, 3) := by decide +kernel
theorem dL_law_675 : decode cL_law 675 = .ok (.aload_n 2, 1) := by decide +kernel
theorem dL_law_676 : decode cL_law 676 = .ok (.invokevirtual 99, 3) := by decide +kernel
theorem dL_law_679 : decode cL_law 679 = .ok (.lcmp, 1) := by decide +kernel
theorem dL_law_680 : decode cL_law 680 = .ok (.ifCond .eq 5, 3) := by decide +kernel
theorem dL_law_683 : decode cL_law 683 = .ok (.iconst 0, 1) := by decide +kernel
theorem dL_law_684 : decode cL_law 684 = .ok (.ireturn, 1) := by decide +kernel
theorem dL_law_685 : decode cL_law 685 = .ok (.iinc 3 5, 3) := by decide +kernel
theorem dL_law_688 : decode cL_law 688 = .ok (.goto (-670), 3) := by decide +kernel
theorem dL_law_691 : decode cL_law 691 = .ok (.iconst 1, 1) := by decide +kernel
theorem dL_law_692 : decode cL_law 692 = .ok (.ireturn, 1) := by decide +kernel
end
section
/-! THE Z LAYER: a method's walk over its world alone (heap, written places and locals' array are hidden) -/
theorem nest_forms {w : Cond} (h : nestWord w = true) : (∃ a i b n d t, w = .fieldLinkNest a i b n d t) ∨ (∃ a i x t, w = .methodLinkNest a i x t) := by
  cases w <;> first | exact Or.inl ⟨_, _, _, _, _, _, rfl⟩ | exact Or.inr ⟨_, _, _, _, rfl⟩ | exact absurd h (by simp [nestWord])
def NN (U : State) : Prop := ∀ w ∈ NB, va_Nw w U
theorem NN.vm {u U : State} (h : u.vm = U.vm) (hn : NN u) : NN U := fun w hw => by
  rcases nest_forms (List.mem_filter.mp hw).2 with ⟨a, i, b, n, d, t, rfl⟩ | ⟨a, i, x, t, rfl⟩
  · exact va_Nw.same rfl h (hn _ hw)
  · exact va_Nw.same rfl h (hn _ hw)
theorem NN.warm {s U : State} (hW : s.WarmedH U.vm) (hn : NN s) : NN U := fun w hw => by
  rcases nest_forms (List.mem_filter.mp hw).2 with ⟨a, i, b, n, d, t, rfl⟩ | ⟨a, i, x, t, rfl⟩
  · exact va_Nw.warmF hW (hn _ hw)
  · exact va_Nw.warmM hW (hn _ hw)
def pullsV : Nat → Int32 := fun k => match k with | 0 => 4 | 1 => 8 | 2 => 2 | 3 => 2 | _ => 3
def eatsV : Nat → Int32 := fun k => match k with | 1 => 2 | _ => 1
def feedsV : Nat → Int32 := fun k => match k with | 1 => 6 | 2 => 2 | 4 => 3 | _ => 0
def ST (tt : Nat × Nat × Nat) (A : Nat → Prop) (U : State) (H : Heap) : Prop :=
  (va_Z RX3 "PULLS" "[I" (.ref tt.1) A U H ∧ va_T .int tt.1 5 (fun j => .int (pullsV j)) A U H) ∧
  (va_Z RX3 "EATS" "[I" (.ref tt.2.1) A U H ∧ va_T .int tt.2.1 5 (fun j => .int (eatsV j)) A U H) ∧
  (va_Z RX3 "FEEDS" "[I" (.ref tt.2.2) A U H ∧ va_T .int tt.2.2 5 (fun j => .int (feedsV j)) A U H)
theorem ST.moved {tt : Nat × Nat × Nat} {A : Nat → Prop} {u U : State} {H : Heap} (hvm : u.vm.Alike U.vm) (h : ST tt A u H) : ST tt A U H :=
  ⟨⟨va_Z.moved hvm h.1.1, va_T.moved hvm h.1.2⟩, ⟨va_Z.moved hvm h.2.1.1, va_T.moved hvm h.2.1.2⟩, va_Z.moved hvm h.2.2.1, va_T.moved hvm h.2.2.2⟩
theorem ST.kept {tt : Nat × Nat × Nat} {A : Nat → Prop} {U : State} {H H1 : Heap} (h : ST tt A U H) (hq : ∀ a : Nat, a < H.size → ¬ A a → H1[a]? = H[a]?) : ST tt A U H1 :=
  ⟨⟨h.1.1.kept hq, h.1.2.kept hq⟩, ⟨h.2.1.1.kept hq, h.2.1.2.kept hq⟩, h.2.2.1.kept hq, h.2.2.2.kept hq⟩
theorem ST.narrow {tt : Nat × Nat × Nat} {A B : Nat → Prop} {U : State} {H : Heap} (h : ST tt A U H) (hAB : ∀ q, B q → A q) : ST tt B U H :=
  ⟨⟨h.1.1.narrow hAB, h.1.2.narrow hAB⟩, ⟨h.2.1.1.narrow hAB, h.2.1.2.narrow hAB⟩, h.2.2.1.narrow hAB, h.2.2.2.narrow hAB⟩
/-- what a method is told at its start: its world ws, and nothing else -/
def Pre (D : va_G) (cI : ClassId) (tt : Nat × Nat × Nat) (ws : va_W) (sz : Nat) (U : State) : Prop :=
  U.heap.size = sz ∧ va_P D vwCl ws U.heap ∧ va_D (fun _ => True) ws ∧ va_K D vwCl [(cI, .int)] U ∧ NN U ∧ ST tt (va_A ws sz) U U.heap
def rm (F L : Nat) : Room := { frames := F, cells := 0, slots := 0, locals := L }
/-- contracts: the method returns an int, a long, nothing; 'post' says what of the answer and of the u of the world 'wf u' behind it -/
abbrev MetI {S : Type} (l : Launch) (y : MethodName) (cc : ByteArray) (n : Nat) (rt : Option FieldType) (R : Room) (D : va_G) (cI : ClassId) (tt : Nat × Nat × Nat) (av : List Value) (ws : va_W) (post : Int32 → S → Prop) (wf : S → va_W) : Prop :=
  ∀ sz : Nat, Met l y (.code y cc n rt :: TB) R (va_Pc av (Pre D cI tt ws sz)) (va_Qi post (fun u t => va_P D vwCl (wf u) t.heap) (va_A ws sz)) 0 0 (va_A ws sz)
abbrev MetL {S : Type} (l : Launch) (y : MethodName) (cc : ByteArray) (n : Nat) (rt : Option FieldType) (R : Room) (D : va_G) (cI : ClassId) (tt : Nat × Nat × Nat) (av : List Value) (ws : va_W) (post : Int64 → S → Prop) (wf : S → va_W) : Prop :=
  ∀ sz : Nat, Met l y (.code y cc n rt :: TB) R (va_Pc av (Pre D cI tt ws sz)) (va_Ql post (fun u t => va_P D vwCl (wf u) t.heap) (va_A ws sz)) 0 0 (va_A ws sz)
abbrev MetV {S : Type} (l : Launch) (y : MethodName) (cc : ByteArray) (n : Nat) (rt : Option FieldType) (R : Room) (D : va_G) (cI : ClassId) (tt : Nat × Nat × Nat) (av : List Value) (ws : va_W) (post : S → Prop) (wf : S → va_W) : Prop :=
  ∀ sz : Nat, Met l y (.code y cc n rt :: TB) R (va_Pc av (Pre D cI tt ws sz)) (va_Qv post (fun u t => va_P D vwCl (wf u) t.heap) (va_A ws sz)) 0 0 (va_A ws sz)
/-- what holds all through a method's body -/
def Cx (p : Program) (s : State) (m : MethodId) (args : Array Value) (meth : Method) (c : Code) (own : String) (cc : ByteArray) (n : Nat) (rt : Option FieldType) (D : va_G) (cI : ClassId) (tt : Nat × Nat × Nat) (A : Nat → Prop) : Prop :=
  p.tables.exec = Jvm.exec ∧ c.code = cc ∧ c.maxLocals = n ∧ s.vm.findClass own = some m.cls ∧ (∀ w ∈ TB, w.before args s = true) ∧ va_K D vwCl [(cI, .int)] s ∧ NN s ∧ ST tt A s s.heap ∧ meth.sig.returnType = rt ∧ meth.locks = false ∧ (∀ q : Nat, s.heap.size ≤ q → A q)
def Z (p : Program) (l : Launch) (e : Env) (R : Room) (s : State) (m : MethodId) (args : Array Value) (below : List Frame) (meth : Method) (c : Code) (D : va_G) (A : Nat → Prop) (n ce sl : Nat) (Q : State → Prop) (pc : Nat) (lv : List (Nat × Value)) (st : List Value) (ws : va_W) : Prop :=
  ∀ (H : Heap) (locs : List Loc) (ls : Array Slot), va_P D vwCl ws H → va_D A ws → va_S A s.heap H locs → lv_has ls n lv → W p l e R s m args below meth c H locs ce sl Q (F0 m pc ls st)
/-- a local's value, by its number -/
def lk : List (Nat × Value) → Nat → Option Value
  | [], _ => none
  | q :: t, i => if q.1 = i then some q.2 else lk t i
theorem lk_mem : ∀ {lv : List (Nat × Value)} {i : Nat} {v : Value}, lk lv i = some v → (i, v) ∈ lv
  | [], _, _, h => by cases h
  | q :: t, i, v, h => by
    unfold lk at h
    by_cases e : q.1 = i
    · rw [if_pos e] at h
      cases h
      subst e
      exact List.mem_cons_self
    · rw [if_neg e] at h
      exact List.mem_cons_of_mem _ (lk_mem h)
theorem lk_at {ls : Array Slot} {n : Nat} {lv : List (Nat × Value)} {i : Nat} {v : Value} (h : lv_has ls n lv) (hl : lk lv i = some v) : ls[i]? = some (.val v) := h.2.2 (i, v) (lk_mem hl)
/-- fewer locals, in another order: checked by lookup -/
def lsub (lv : List (Nat × Value)) : List (Nat × Value) → Prop
  | [] => True
  | q :: t => lk lv q.1 = some q.2 ∧ lsub lv t
theorem lsub_has {ls : Array Slot} {n : Nat} {lv : List (Nat × Value)} (h : lv_has ls n lv) : ∀ {lv' : List (Nat × Value)}, lsub lv lv' → lv_has ls n lv'
  | [], _ => ⟨h.1, h.2.1, fun q hq => by cases hq⟩
  | q :: t, hs => ⟨h.1, h.2.1, fun q' hq => by
      rcases List.mem_cons.mp hq with rfl | hq
      · exact lk_at h hs.1
      · exact (lsub_has h hs.2).2.2 q' hq⟩
/-- a store keeps the list's order; the list's other locals are not its neighbours' halves -/
def sto (i : Nat) (v : Value) : List (Nat × Value) → List (Nat × Value)
  | [] => [(i, v)]
  | q :: t => if q.1 = i then (i, v) :: t else q :: sto i v t
def sok1 (i : Nat) (lv : List (Nat × Value)) : Bool := lv.all (fun q => !(q.1 + 1 == i && q.2.category == 2))
def sok2 (i : Nat) (lv : List (Nat × Value)) : Bool := lv.all (fun q => !(q.1 == i + 1) && !(q.1 + 1 == i && q.2.category == 2))
def nodup (lv : List (Nat × Value)) : Bool := match lv with | [] => true | q :: t => t.all (fun r => !(r.1 == q.1)) && nodup t
theorem sto_mem (i : Nat) (v : Value) : ∀ (lv : List (Nat × Value)), nodup lv = true → ∀ q ∈ sto i v lv, q = (i, v) ∨ (q ∈ lv ∧ q.1 ≠ i)
  | [], _, q, h => Or.inl (by simpa [sto] using h)
  | r :: t, hn, q, h => by
    have hn' : t.all (fun x => !(x.1 == r.1)) = true ∧ nodup t = true := by simpa [nodup] using hn
    unfold sto at h
    by_cases e : r.1 = i
    · rw [if_pos e] at h
      rcases List.mem_cons.mp h with h | h
      · exact Or.inl h
      · refine Or.inr ⟨List.mem_cons_of_mem _ h, fun e2 => ?_⟩
        have h3 := List.all_eq_true.mp hn'.1 q h
        simp [e2, e] at h3
    · rw [if_neg e] at h
      rcases List.mem_cons.mp h with rfl | h
      · exact Or.inr ⟨List.mem_cons_self, e⟩
      · rcases sto_mem i v t hn'.2 q h with h | ⟨h1, h2⟩
        · exact Or.inl h
        · exact Or.inr ⟨List.mem_cons_of_mem _ h1, h2⟩
theorem sto_has1 {ls : Array Slot} {n i : Nat} {v : Value} {lv : List (Nat × Value)} (hn : nodup lv = true) (ho : sok1 i lv = true) (h : lv_has ls n ((i, v) :: lv.filter (fun q => !(q.1 == i) && !(q.1 + 1 == i && q.2.category == 2)))) : lv_has ls n (sto i v lv) := by
  refine ⟨h.1, h.2.1, fun q hq => h.2.2 q ?_⟩
  rcases sto_mem i v lv hn q hq with rfl | ⟨h1, h2⟩
  · exact List.mem_cons_self
  · refine List.mem_cons_of_mem _ (List.mem_filter.mpr ⟨h1, ?_⟩)
    have h3 := List.all_eq_true.mp ho q h1
    have h4 : (!(q.1 == i)) = true := by simp [h2]
    rw [h4, Bool.true_and]
    exact h3
theorem sto_has2 {ls : Array Slot} {n i : Nat} {v : Value} {lv : List (Nat × Value)} (hn : nodup lv = true) (ho : sok2 i lv = true) (h : lv_has ls n ((i, v) :: lv.filter (fun q => !(q.1 == i) && (!(q.1 == i + 1) && !(q.1 + 1 == i && q.2.category == 2))))) : lv_has ls n (sto i v lv) := by
  refine ⟨h.1, h.2.1, fun q hq => h.2.2 q ?_⟩
  rcases sto_mem i v lv hn q hq with rfl | ⟨h1, h2⟩
  · exact List.mem_cons_self
  · refine List.mem_cons_of_mem _ (List.mem_filter.mpr ⟨h1, ?_⟩)
    have h3 := List.all_eq_true.mp ho q h1
    have h4 : (!(q.1 == i)) = true := by simp [h2]
    rw [h4, Bool.true_and]
    exact h3
/-- a world with some cells replaced, by their places -/
def weave (ws : va_W) : List Nat → va_W → va_W
  | i :: is, c :: cs => weave (ws.set i c) is cs
  | [], _ => ws
  | _ :: _, [] => ws
theorem weave_at : ∀ (is : List Nat) (cs ws : va_W) (k : Nat) (q : Nat × va_E), is.length = cs.length → (weave ws is cs)[k]? = some q → (k ∉ is ∧ ws[k]? = some q) ∨ ∃ j : Nat, is[j]? = some k ∧ cs[j]? = some q
  | [], cs, ws, k, q, _, h => Or.inl ⟨List.not_mem_nil, by simpa [weave] using h⟩
  | _ :: _, [], _, _, _, hl, _ => by simp at hl
  | i :: is, c :: cs, ws, k, q, hl, h => by
    unfold weave at h
    rcases weave_at is cs (ws.set i c) k q (by simpa using hl) h with ⟨h1, h2⟩ | ⟨j, h1, h2⟩
    · by_cases e : i = k
      · subst e
        rw [List.getElem?_set] at h2
        simp only [if_true] at h2
        split at h2
        · exact Or.inr ⟨0, rfl, h2⟩
        · cases h2
      · rw [List.getElem?_set, if_neg e] at h2
        refine Or.inl ⟨fun hm => ?_, h2⟩
        rcases List.mem_cons.mp hm with r | r
        · exact e r.symm
        · exact h1 r
    · exact Or.inr ⟨j + 1, by simpa using h1, by simpa using h2⟩
theorem va_D_addr {A : Nat → Prop} {ws ws' : va_W} (h : va_D A ws) (e : ws'.map (·.1) = ws.map (·.1)) : va_D A ws' := by
  have key : ∀ (k : Nat) (q : Nat × va_E), ws'[k]? = some q → ∃ q', ws[k]? = some q' ∧ q'.1 = q.1 := by
    intro k q hk
    have h1 : (ws'.map (·.1))[k]? = some q.1 := by rw [List.getElem?_map, hk]; rfl
    rw [e, List.getElem?_map] at h1
    cases hw : ws[k]? with
    | none => rw [hw] at h1; cases h1
    | some q' => rw [hw] at h1; exact ⟨q', rfl, Option.some.inj h1⟩
  refine ⟨fun i j x y hx hy hxy => ?_, fun k q hk => ?_⟩
  · obtain ⟨x', h1, h2⟩ := key i x hx
    obtain ⟨y', h3, h4⟩ := key j y hy
    exact h.1 i j x' y' h1 h3 (by rw [h2, h4]; exact hxy)
  · obtain ⟨q', h1, h2⟩ := key k q hk
    rw [← h2]
    exact h.2 k q' h1
theorem weave_addr : ∀ (is : List Nat) (cs wc ws : va_W), is.map (fun i => ws[i]?) = wc.map some → cs.map (·.1) = wc.map (·.1) → (weave ws is cs).map (·.1) = ws.map (·.1)
  | [], _, _, _, _, _ => by simp [weave]
  | _ :: _, [], _, _, _, _ => by simp [weave]
  | _ :: _, _ :: _, [], _, h, _ => by simp at h
  | i :: is, c :: cs, d :: wc, ws, h, e => by
    have h1 : ws[i]? = some d := by
      have h0 := congrArg List.head? h
      simpa using h0
    have h2 : is.map (fun i => ws[i]?) = wc.map some := by
      have h0 := congrArg List.tail h
      simpa using h0
    have e1 : c.1 = d.1 := by
      have h0 := congrArg List.head? e
      simpa using h0
    have e2 : cs.map (·.1) = wc.map (·.1) := by
      have h0 := congrArg List.tail e
      simpa using h0
    have hmap : (ws.set i c).map (·.1) = ws.map (·.1) := by
      apply List.ext_getElem?
      intro k
      simp only [List.getElem?_map, List.getElem?_set]
      by_cases hk : i = k
      · subst hk
        by_cases hl : i < ws.length
        · simp [hl, h1, e1]
          have := (List.getElem?_eq_some_iff.mp h1).2
          simp [this]
        · simp at hl
          rw [List.getElem?_eq_none hl] at h1
          cases h1
      · simp [hk]
    have key : ∀ (is' : List Nat) (cs' ws1 ws2 : va_W), ws1.map (·.1) = ws2.map (·.1) → (∀ (j : Nat) (i' : Nat) (c' : Nat × va_E), is'[j]? = some i' → cs'[j]? = some c' → (ws1.map (·.1))[i']? = some c'.1) → (weave ws1 is' cs').map (·.1) = ws2.map (·.1) := by
      intro is'
      induction is' with
      | nil => intro cs' ws1 ws2 h3 _; simpa [weave] using h3
      | cons i' is' ih =>
        intro cs' ws1 ws2 h3 h4
        cases cs' with
        | nil => simpa [weave] using h3
        | cons c' cs' =>
          unfold weave
          have h5 := h4 0 i' c' rfl rfl
          have h6 : (ws1.set i' c').map (·.1) = ws1.map (·.1) := by
            apply List.ext_getElem?
            intro k
            simp only [List.getElem?_map, List.getElem?_set]
            by_cases hk : i' = k
            · subst hk
              rw [List.getElem?_map] at h5
              by_cases hl : i' < ws1.length
              · simp only [if_true, hl]
                rw [h5]; rfl
              · simp at hl
                rw [List.getElem?_eq_none hl] at h5
                cases h5
            · simp [hk]
          refine ih cs' _ ws2 (h6.trans h3) (fun j i2 c2 q1 q2 => ?_)
          rw [h6]
          exact h4 (j + 1) i2 c2 (by simpa using q1) (by simpa using q2)
    unfold weave
    refine key is cs _ ws hmap (fun j i' c' q1 q2 => ?_)
    rw [hmap, List.getElem?_map]
    have q3 : (is.map (fun i => ws[i]?))[j]? = some (ws[i']?) := by rw [List.getElem?_map, q1]; rfl
    rw [h2, List.getElem?_map] at q3
    have q4 : (cs.map (·.1))[j]? = some c'.1 := by rw [List.getElem?_map, q2]; rfl
    rw [e2, List.getElem?_map] at q4
    cases hw : wc[j]? with
    | none => rw [hw] at q4; cases q4
    | some d' =>
      rw [hw] at q3 q4
      have q5 : some d' = ws[i']? := by simpa using q3
      rw [← q5]
      exact q4
theorem va_weave {A : Nat → Prop} {D : va_G} {cl : List vw_C} {ws wc w1 : va_W} {H H1 : Heap} (hP : va_P D cl ws H) (hD : va_D A ws) (is : List Nat) (hC : is.map (fun i => ws[i]?) = wc.map some) (he : w1.map (·.1) = wc.map (·.1))
    (hk : ∀ q : Nat, q < H.size → ¬ va_A wc H.size q → H1[q]? = H[q]?) (hP1 : va_P D cl w1 H1) : va_P D cl (weave ws is w1) H1 ∧ va_D A (weave ws is w1) := by
  have hl : is.length = w1.length := by
    have h1 := congrArg List.length hC
    have h2 := congrArg List.length he
    simp at h1 h2
    omega
  refine ⟨fun k q hq => ?_, va_D_addr hD (weave_addr is w1 wc ws hC he)⟩
  rcases weave_at is w1 ws k q hl hq with ⟨h1, h2⟩ | ⟨j, h1, h2⟩
  · have hlt := (hP k q h2).lt
    refine (hP k q h2).kept (hk q.1 hlt (fun h => ?_))
    rcases h with ⟨j, e, h⟩ | h
    · have h3 : (is.map (fun i => ws[i]?))[j]? = some (some (q.1, e)) := by rw [hC, List.getElem?_map, h]; rfl
      rw [List.getElem?_map] at h3
      cases hi : is[j]? with
      | none => rw [hi] at h3; cases h3
      | some i =>
        rw [hi] at h3
        have h4 : ws[i]? = some (q.1, e) := Option.some.inj h3
        have h5 := hD.1 k i q (q.1, e) h2 h4 rfl
        subst h5
        exact h1 (List.mem_of_getElem? hi)
    · omega
  · exact hP1 j q h2
section ZR
variable {p : Program} {l : Launch} {e : Env} {R : Room} {s : State} {m : MethodId} {args : Array Value} {below : List Frame} {meth : Method} {c : Code} {D : va_G} {A : Nat → Prop} {n ce sl : Nat} {Q : State → Prop} {own : String} {cc : ByteArray} {rt : Option FieldType} {cI : ClassId} {tt : Nat × Nat × Nat} {pc : Nat} {lv : List (Nat × Value)} {st : List Value} {ws : va_W}

theorem z_iconst (C : Cx p s m args meth c own cc n rt D cI tt A) {k : Int} {v : Int32} (hd : decode cc pc = .ok (.iconst k, 1)) (hv : Int32.ofInt k = v) (k : Z p l e R s m args below meth c D A n ce sl Q (pc + 1) lv (.int v :: st) ws) : Z p l e R s m args below meth c D A n ce sl Q pc lv st ws := fun H locs ls h1 h2 h3 h4 => lv_iconst C.1 C.2.1 hd hv (k H locs ls h1 h2 h3 h4)
theorem z_bipush (C : Cx p s m args meth c own cc n rt D cI tt A) {k : Int} {v : Int32} (hd : decode cc pc = .ok (.bipush k, 2)) (hv : (Int8.ofInt k).toInt32 = v) (k : Z p l e R s m args below meth c D A n ce sl Q (pc + 2) lv (.int v :: st) ws) : Z p l e R s m args below meth c D A n ce sl Q pc lv st ws := fun H locs ls h1 h2 h3 h4 => lv_bipush C.1 C.2.1 hd hv (k H locs ls h1 h2 h3 h4)
theorem z_sipush (C : Cx p s m args meth c own cc n rt D cI tt A) {k : Int} {v : Int32} (hd : decode cc pc = .ok (.sipush k, 3)) (hv : (Int16.ofInt k).toInt32 = v) (k : Z p l e R s m args below meth c D A n ce sl Q (pc + 3) lv (.int v :: st) ws) : Z p l e R s m args below meth c D A n ce sl Q pc lv st ws := fun H locs ls h1 h2 h3 h4 => lv_sipush C.1 C.2.1 hd hv (k H locs ls h1 h2 h3 h4)
theorem z_lconst (C : Cx p s m args meth c own cc n rt D cI tt A) {k : Fin 2} {v : Int64} (hd : decode cc pc = .ok (.lconst k, 1)) (hv : Int64.ofNat (k : Nat) = v) (k : Z p l e R s m args below meth c D A n ce sl Q (pc + 1) lv (.long v :: st) ws) : Z p l e R s m args below meth c D A n ce sl Q pc lv st ws := fun H locs ls h1 h2 h3 h4 => lv_lconst C.1 C.2.1 hd hv (k H locs ls h1 h2 h3 h4)
theorem z_iload_n (C : Cx p s m args meth c own cc n rt D cI tt A) {j : Fin 4} {x : Int32} (hd : decode cc pc = .ok (.iload_n j, 1)) (hl : lk lv (j : Nat) = some (.int x)) (k : Z p l e R s m args below meth c D A n ce sl Q (pc + 1) lv (.int x :: st) ws) : Z p l e R s m args below meth c D A n ce sl Q pc lv st ws := fun H locs ls h1 h2 h3 h4 => lv_iload_n C.1 C.2.1 hd rfl (lk_at h4 hl) (k H locs ls h1 h2 h3 h4)
theorem z_iload (C : Cx p s m args meth c own cc n rt D cI tt A) {j : Nat} {x : Int32} (hd : decode cc pc = .ok (.iload j, 2)) (hl : lk lv j = some (.int x)) (k : Z p l e R s m args below meth c D A n ce sl Q (pc + 2) lv (.int x :: st) ws) : Z p l e R s m args below meth c D A n ce sl Q pc lv st ws := fun H locs ls h1 h2 h3 h4 => lv_iload C.1 C.2.1 hd (lk_at h4 hl) (k H locs ls h1 h2 h3 h4)
theorem z_lload_n (C : Cx p s m args meth c own cc n rt D cI tt A) {j : Fin 4} {x : Int64} (hd : decode cc pc = .ok (.lload_n j, 1)) (hl : lk lv (j : Nat) = some (.long x)) (k : Z p l e R s m args below meth c D A n ce sl Q (pc + 1) lv (.long x :: st) ws) : Z p l e R s m args below meth c D A n ce sl Q pc lv st ws := fun H locs ls h1 h2 h3 h4 => lv_lload_n C.1 C.2.1 hd rfl (lk_at h4 hl) (k H locs ls h1 h2 h3 h4)
theorem z_lload (C : Cx p s m args meth c own cc n rt D cI tt A) {j : Nat} {x : Int64} (hd : decode cc pc = .ok (.lload j, 2)) (hl : lk lv j = some (.long x)) (k : Z p l e R s m args below meth c D A n ce sl Q (pc + 2) lv (.long x :: st) ws) : Z p l e R s m args below meth c D A n ce sl Q pc lv st ws := fun H locs ls h1 h2 h3 h4 => lv_lload C.1 C.2.1 hd (lk_at h4 hl) (k H locs ls h1 h2 h3 h4)
theorem z_aload_n (C : Cx p s m args meth c own cc n rt D cI tt A) {j : Fin 4} {x : Nat} (hd : decode cc pc = .ok (.aload_n j, 1)) (hl : lk lv (j : Nat) = some (.ref x)) (k : Z p l e R s m args below meth c D A n ce sl Q (pc + 1) lv (.ref x :: st) ws) : Z p l e R s m args below meth c D A n ce sl Q pc lv st ws := fun H locs ls h1 h2 h3 h4 => lv_aload_n C.1 C.2.1 hd rfl (lk_at h4 hl) (k H locs ls h1 h2 h3 h4)
theorem z_aload (C : Cx p s m args meth c own cc n rt D cI tt A) {j : Nat} {x : Nat} (hd : decode cc pc = .ok (.aload j, 2)) (hl : lk lv j = some (.ref x)) (k : Z p l e R s m args below meth c D A n ce sl Q (pc + 2) lv (.ref x :: st) ws) : Z p l e R s m args below meth c D A n ce sl Q pc lv st ws := fun H locs ls h1 h2 h3 h4 => lv_aload C.1 C.2.1 hd (lk_at h4 hl) (k H locs ls h1 h2 h3 h4)
theorem z_istore_n (C : Cx p s m args meth c own cc n rt D cI tt A) {j : Fin 4} {x : Int32} {lv' : List (Nat × Value)} (hd : decode cc pc = .ok (.istore_n j, 1)) (hn : (j : Nat) < n) (ho : (nodup lv && sok1 (j : Nat) lv) = true) (hl : sto (j : Nat) (.int x) lv = lv') (k : Z p l e R s m args below meth c D A n ce sl Q (pc + 1) lv' st ws) : Z p l e R s m args below meth c D A n ce sl Q pc lv (.int x :: st) ws := by
  rw [Bool.and_eq_true] at ho
  subst hl
  exact fun H locs ls h1 h2 h3 h4 => lv_istore_n C.1 C.2.1 hd rfl h4 hn rfl (fun ls' h5 => k H locs ls' h1 h2 h3 (sto_has1 ho.1 ho.2 h5))
theorem z_istore (C : Cx p s m args meth c own cc n rt D cI tt A) {j : Nat} {x : Int32} {lv' : List (Nat × Value)} (hd : decode cc pc = .ok (.istore j, 2)) (hn : j < n) (ho : (nodup lv && sok1 j lv) = true) (hl : sto j (.int x) lv = lv') (k : Z p l e R s m args below meth c D A n ce sl Q (pc + 2) lv' st ws) : Z p l e R s m args below meth c D A n ce sl Q pc lv (.int x :: st) ws := by
  rw [Bool.and_eq_true] at ho
  subst hl
  exact fun H locs ls h1 h2 h3 h4 => lv_istore C.1 C.2.1 hd h4 hn rfl (fun ls' h5 => k H locs ls' h1 h2 h3 (sto_has1 ho.1 ho.2 h5))
theorem z_lstore_n (C : Cx p s m args meth c own cc n rt D cI tt A) {j : Fin 4} {x : Int64} {lv' : List (Nat × Value)} (hd : decode cc pc = .ok (.lstore_n j, 1)) (hn : (j : Nat) + 1 < n) (ho : (nodup lv && sok2 (j : Nat) lv) = true) (hl : sto (j : Nat) (.long x) lv = lv') (k : Z p l e R s m args below meth c D A n ce sl Q (pc + 1) lv' st ws) : Z p l e R s m args below meth c D A n ce sl Q pc lv (.long x :: st) ws := by
  rw [Bool.and_eq_true] at ho
  subst hl
  exact fun H locs ls h1 h2 h3 h4 => lv_lstore_n C.1 C.2.1 hd rfl h4 hn rfl (fun ls' h5 => k H locs ls' h1 h2 h3 (sto_has2 ho.1 ho.2 h5))
theorem z_astore_n (C : Cx p s m args meth c own cc n rt D cI tt A) {j : Fin 4} {x : Nat} {lv' : List (Nat × Value)} (hd : decode cc pc = .ok (.astore_n j, 1)) (hn : (j : Nat) < n) (ho : (nodup lv && sok1 (j : Nat) lv) = true) (hl : sto (j : Nat) (.ref x) lv = lv') (k : Z p l e R s m args below meth c D A n ce sl Q (pc + 1) lv' st ws) : Z p l e R s m args below meth c D A n ce sl Q pc lv (.ref x :: st) ws := by
  rw [Bool.and_eq_true] at ho
  subst hl
  exact fun H locs ls h1 h2 h3 h4 => lv_astore_n C.1 C.2.1 hd rfl h4 hn rfl (fun ls' h5 => k H locs ls' h1 h2 h3 (sto_has1 ho.1 ho.2 h5))
theorem lk_idx : ∀ {lv : List (Nat × Value)} {i : Nat} {v : Value}, lk lv i = some v → ∃ k : Nat, lv[k]? = some (i, v) := fun h => List.getElem?_of_mem (lk_mem h)
theorem z_iinc (C : Cx p s m args meth c own cc n rt D cI tt A) {j : Nat} {i : Int} {x v : Int32} {lv' : List (Nat × Value)} (hd : decode cc pc = .ok (.iinc j i, 3)) (hx : lk lv j = some (.int x)) (hv : x + Int32.ofInt i = v) (hn : j < n) (ho : (nodup lv && sok1 j lv) = true) (hl : sto j (.int v) lv = lv') (k : Z p l e R s m args below meth c D A n ce sl Q (pc + 3) lv' st ws) : Z p l e R s m args below meth c D A n ce sl Q pc lv st ws := by
  rw [Bool.and_eq_true] at ho
  subst hl
  obtain ⟨q, hq⟩ := lk_idx hx
  exact fun H locs ls h1 h2 h3 h4 => lv_iinc C.1 C.2.1 hd h4 hq hv hn rfl (fun ls' h5 => k H locs ls' h1 h2 h3 (sto_has1 ho.1 ho.2 h5))
theorem z_iadd (C : Cx p s m args meth c own cc n rt D cI tt A) {x y : Int32} (hd : decode cc pc = .ok (.iadd, 1)) (k : Z p l e R s m args below meth c D A n ce sl Q (pc + 1) lv (.int (x + y) :: st) ws) : Z p l e R s m args below meth c D A n ce sl Q pc lv (.int y :: .int x :: st) ws := fun H locs ls h1 h2 h3 h4 => lv_iadd C.1 C.2.1 hd (k H locs ls h1 h2 h3 h4)
theorem z_isub (C : Cx p s m args meth c own cc n rt D cI tt A) {x y : Int32} (hd : decode cc pc = .ok (.isub, 1)) (k : Z p l e R s m args below meth c D A n ce sl Q (pc + 1) lv (.int (x - y) :: st) ws) : Z p l e R s m args below meth c D A n ce sl Q pc lv (.int y :: .int x :: st) ws := fun H locs ls h1 h2 h3 h4 => lv_isub C.1 C.2.1 hd (k H locs ls h1 h2 h3 h4)
theorem z_imul (C : Cx p s m args meth c own cc n rt D cI tt A) {x y : Int32} (hd : decode cc pc = .ok (.imul, 1)) (k : Z p l e R s m args below meth c D A n ce sl Q (pc + 1) lv (.int (x * y) :: st) ws) : Z p l e R s m args below meth c D A n ce sl Q pc lv (.int y :: .int x :: st) ws := fun H locs ls h1 h2 h3 h4 => lv_imul C.1 C.2.1 hd (k H locs ls h1 h2 h3 h4)
theorem z_iand (C : Cx p s m args meth c own cc n rt D cI tt A) {x y : Int32} (hd : decode cc pc = .ok (.iand, 1)) (k : Z p l e R s m args below meth c D A n ce sl Q (pc + 1) lv (.int (x &&& y) :: st) ws) : Z p l e R s m args below meth c D A n ce sl Q pc lv (.int y :: .int x :: st) ws := fun H locs ls h1 h2 h3 h4 => lv_iand C.1 C.2.1 hd (k H locs ls h1 h2 h3 h4)
theorem z_ior (C : Cx p s m args meth c own cc n rt D cI tt A) {x y : Int32} (hd : decode cc pc = .ok (.ior, 1)) (k : Z p l e R s m args below meth c D A n ce sl Q (pc + 1) lv (.int (x ||| y) :: st) ws) : Z p l e R s m args below meth c D A n ce sl Q pc lv (.int y :: .int x :: st) ws := fun H locs ls h1 h2 h3 h4 => lv_ior C.1 C.2.1 hd (k H locs ls h1 h2 h3 h4)
theorem z_ixor (C : Cx p s m args meth c own cc n rt D cI tt A) {x y : Int32} (hd : decode cc pc = .ok (.ixor, 1)) (k : Z p l e R s m args below meth c D A n ce sl Q (pc + 1) lv (.int (x ^^^ y) :: st) ws) : Z p l e R s m args below meth c D A n ce sl Q pc lv (.int y :: .int x :: st) ws := fun H locs ls h1 h2 h3 h4 => lv_ixor C.1 C.2.1 hd (k H locs ls h1 h2 h3 h4)
theorem z_idiv (C : Cx p s m args meth c own cc n rt D cI tt A) {x y : Int32} (hd : decode cc pc = .ok (.idiv, 1)) (hne : ¬ y = 0) (k : Z p l e R s m args below meth c D A n ce sl Q (pc + 1) lv (.int (x / y) :: st) ws) : Z p l e R s m args below meth c D A n ce sl Q pc lv (.int y :: .int x :: st) ws := fun H locs ls h1 h2 h3 h4 => lv_idiv C.1 C.2.1 hd hne (k H locs ls h1 h2 h3 h4)
theorem z_irem (C : Cx p s m args meth c own cc n rt D cI tt A) {x y : Int32} (hd : decode cc pc = .ok (.irem, 1)) (hne : ¬ y = 0) (k : Z p l e R s m args below meth c D A n ce sl Q (pc + 1) lv (.int (x - x / y * y) :: st) ws) : Z p l e R s m args below meth c D A n ce sl Q pc lv (.int y :: .int x :: st) ws := fun H locs ls h1 h2 h3 h4 => lv_irem C.1 C.2.1 hd hne (k H locs ls h1 h2 h3 h4)
theorem z_ishl (C : Cx p s m args meth c own cc n rt D cI tt A) {x y : Int32} (hd : decode cc pc = .ok (.ishl, 1)) (k : Z p l e R s m args below meth c D A n ce sl Q (pc + 1) lv (.int (x <<< (y &&& 31)) :: st) ws) : Z p l e R s m args below meth c D A n ce sl Q pc lv (.int y :: .int x :: st) ws := fun H locs ls h1 h2 h3 h4 => lv_ishl C.1 C.2.1 hd (k H locs ls h1 h2 h3 h4)
theorem z_ishr (C : Cx p s m args meth c own cc n rt D cI tt A) {x y : Int32} (hd : decode cc pc = .ok (.ishr, 1)) (k : Z p l e R s m args below meth c D A n ce sl Q (pc + 1) lv (.int (x >>> (y &&& 31)) :: st) ws) : Z p l e R s m args below meth c D A n ce sl Q pc lv (.int y :: .int x :: st) ws := fun H locs ls h1 h2 h3 h4 => lv_ishr C.1 C.2.1 hd (k H locs ls h1 h2 h3 h4)
theorem z_iushr (C : Cx p s m args meth c own cc n rt D cI tt A) {x y v : Int32} (hd : decode cc pc = .ok (.iushr, 1)) (hv : (x.toUInt32 >>> (y.toUInt32 &&& Int32.toUInt32 31)).toInt32 = v) (k : Z p l e R s m args below meth c D A n ce sl Q (pc + 1) lv (.int v :: st) ws) : Z p l e R s m args below meth c D A n ce sl Q pc lv (.int y :: .int x :: st) ws := fun H locs ls h1 h2 h3 h4 => lv_iushr C.1 C.2.1 hd hv (k H locs ls h1 h2 h3 h4)
theorem z_ladd (C : Cx p s m args meth c own cc n rt D cI tt A) {x y : Int64} (hd : decode cc pc = .ok (.ladd, 1)) (k : Z p l e R s m args below meth c D A n ce sl Q (pc + 1) lv (.long (x + y) :: st) ws) : Z p l e R s m args below meth c D A n ce sl Q pc lv (.long y :: .long x :: st) ws := fun H locs ls h1 h2 h3 h4 => lv_ladd C.1 C.2.1 hd (k H locs ls h1 h2 h3 h4)
theorem z_lmul (C : Cx p s m args meth c own cc n rt D cI tt A) {x y : Int64} (hd : decode cc pc = .ok (.lmul, 1)) (k : Z p l e R s m args below meth c D A n ce sl Q (pc + 1) lv (.long (x * y) :: st) ws) : Z p l e R s m args below meth c D A n ce sl Q pc lv (.long y :: .long x :: st) ws := fun H locs ls h1 h2 h3 h4 => lv_lmul C.1 C.2.1 hd (k H locs ls h1 h2 h3 h4)
theorem z_land (C : Cx p s m args meth c own cc n rt D cI tt A) {x y : Int64} (hd : decode cc pc = .ok (.land, 1)) (k : Z p l e R s m args below meth c D A n ce sl Q (pc + 1) lv (.long (x &&& y) :: st) ws) : Z p l e R s m args below meth c D A n ce sl Q pc lv (.long y :: .long x :: st) ws := fun H locs ls h1 h2 h3 h4 => lv_land C.1 C.2.1 hd (k H locs ls h1 h2 h3 h4)
theorem z_lcmp (C : Cx p s m args meth c own cc n rt D cI tt A) {x y : Int64} (hd : decode cc pc = .ok (.lcmp, 1)) (k : Z p l e R s m args below meth c D A n ce sl Q (pc + 1) lv (.int (lg_cmp x y) :: st) ws) : Z p l e R s m args below meth c D A n ce sl Q pc lv (.long y :: .long x :: st) ws := fun H locs ls h1 h2 h3 h4 => W.lcmp C.1 C.2.1 hd (k H locs ls h1 h2 h3 h4)
theorem z_i2l (C : Cx p s m args meth c own cc n rt D cI tt A) {x : Int32} (hd : decode cc pc = .ok (.i2l, 1)) (k : Z p l e R s m args below meth c D A n ce sl Q (pc + 1) lv (.long x.toInt64 :: st) ws) : Z p l e R s m args below meth c D A n ce sl Q pc lv (.int x :: st) ws := fun H locs ls h1 h2 h3 h4 => lv_i2l C.1 C.2.1 hd rfl (k H locs ls h1 h2 h3 h4)
theorem z_l2i (C : Cx p s m args meth c own cc n rt D cI tt A) {x : Int64} (hd : decode cc pc = .ok (.l2i, 1)) (k : Z p l e R s m args below meth c D A n ce sl Q (pc + 1) lv (.int x.toInt32 :: st) ws) : Z p l e R s m args below meth c D A n ce sl Q pc lv (.long x :: st) ws := fun H locs ls h1 h2 h3 h4 => lv_l2i C.1 C.2.1 hd rfl (k H locs ls h1 h2 h3 h4)
theorem z_dup (C : Cx p s m args meth c own cc n rt D cI tt A) {v : Value} (hd : decode cc pc = .ok (.dup, 1)) (hv : v.category = 1) (k : Z p l e R s m args below meth c D A n ce sl Q (pc + 1) lv (v :: v :: st) ws) : Z p l e R s m args below meth c D A n ce sl Q pc lv (v :: st) ws := fun H locs ls h1 h2 h3 h4 => lv_dup C.1 C.2.1 hd hv (k H locs ls h1 h2 h3 h4)
theorem z_pop (C : Cx p s m args meth c own cc n rt D cI tt A) {v : Value} (hd : decode cc pc = .ok (.pop, 1)) (hv : v.category = 1) (k : Z p l e R s m args below meth c D A n ce sl Q (pc + 1) lv st ws) : Z p l e R s m args below meth c D A n ce sl Q pc lv (v :: st) ws := fun H locs ls h1 h2 h3 h4 => lv_pop C.1 C.2.1 hd hv (k H locs ls h1 h2 h3 h4)
theorem z_dup2 (C : Cx p s m args meth c own cc n rt D cI tt A) {v w : Value} (hd : decode cc pc = .ok (.dup2, 1)) (hv : v.category = 1) (hw : w.category = 1) (k : Z p l e R s m args below meth c D A n ce sl Q (pc + 1) lv (v :: w :: v :: w :: st) ws) : Z p l e R s m args below meth c D A n ce sl Q pc lv (v :: w :: st) ws := fun H locs ls h1 h2 h3 h4 => lv_dup2_11 C.1 C.2.1 hd hv hw (k H locs ls h1 h2 h3 h4)
theorem z_if_eq (C : Cx p s m args meth c own cc n rt D cI tt A) {x : Int32} {off : Int} {tgt : Nat} (hd : decode cc pc = .ok (.ifCond .eq off, 3)) (ht : (pc : Int) + off = (tgt : Int)) (kt : x = 0 → Z p l e R s m args below meth c D A n ce sl Q tgt lv st ws) (kf : ¬ x = 0 → Z p l e R s m args below meth c D A n ce sl Q (pc + 3) lv st ws) : Z p l e R s m args below meth c D A n ce sl Q pc lv (.int x :: st) ws := fun H locs ls h1 h2 h3 h4 => lv_if_eq C.1 C.2.1 hd ht (fun q => kt q H locs ls h1 h2 h3 h4) (fun q => kf q H locs ls h1 h2 h3 h4)
theorem z_if_ne (C : Cx p s m args meth c own cc n rt D cI tt A) {x : Int32} {off : Int} {tgt : Nat} (hd : decode cc pc = .ok (.ifCond .ne off, 3)) (ht : (pc : Int) + off = (tgt : Int)) (kt : ¬ x = 0 → Z p l e R s m args below meth c D A n ce sl Q tgt lv st ws) (kf : x = 0 → Z p l e R s m args below meth c D A n ce sl Q (pc + 3) lv st ws) : Z p l e R s m args below meth c D A n ce sl Q pc lv (.int x :: st) ws := fun H locs ls h1 h2 h3 h4 => lv_if_ne C.1 C.2.1 hd ht (fun q => kt q H locs ls h1 h2 h3 h4) (fun q => kf q H locs ls h1 h2 h3 h4)
theorem z_if_lt (C : Cx p s m args meth c own cc n rt D cI tt A) {x : Int32} {off : Int} {tgt : Nat} (hd : decode cc pc = .ok (.ifCond .lt off, 3)) (ht : (pc : Int) + off = (tgt : Int)) (kt : x < 0 → Z p l e R s m args below meth c D A n ce sl Q tgt lv st ws) (kf : ¬ x < 0 → Z p l e R s m args below meth c D A n ce sl Q (pc + 3) lv st ws) : Z p l e R s m args below meth c D A n ce sl Q pc lv (.int x :: st) ws := fun H locs ls h1 h2 h3 h4 => lv_if_lt C.1 C.2.1 hd ht (fun q => kt q H locs ls h1 h2 h3 h4) (fun q => kf q H locs ls h1 h2 h3 h4)
theorem z_if_ge (C : Cx p s m args meth c own cc n rt D cI tt A) {x : Int32} {off : Int} {tgt : Nat} (hd : decode cc pc = .ok (.ifCond .ge off, 3)) (ht : (pc : Int) + off = (tgt : Int)) (kt : 0 ≤ x → Z p l e R s m args below meth c D A n ce sl Q tgt lv st ws) (kf : ¬ 0 ≤ x → Z p l e R s m args below meth c D A n ce sl Q (pc + 3) lv st ws) : Z p l e R s m args below meth c D A n ce sl Q pc lv (.int x :: st) ws := fun H locs ls h1 h2 h3 h4 => lv_if_ge C.1 C.2.1 hd ht (fun q => kt q H locs ls h1 h2 h3 h4) (fun q => kf q H locs ls h1 h2 h3 h4)
theorem z_if_gt (C : Cx p s m args meth c own cc n rt D cI tt A) {x : Int32} {off : Int} {tgt : Nat} (hd : decode cc pc = .ok (.ifCond .gt off, 3)) (ht : (pc : Int) + off = (tgt : Int)) (kt : 0 < x → Z p l e R s m args below meth c D A n ce sl Q tgt lv st ws) (kf : ¬ 0 < x → Z p l e R s m args below meth c D A n ce sl Q (pc + 3) lv st ws) : Z p l e R s m args below meth c D A n ce sl Q pc lv (.int x :: st) ws := fun H locs ls h1 h2 h3 h4 => lv_if_gt C.1 C.2.1 hd ht (fun q => kt q H locs ls h1 h2 h3 h4) (fun q => kf q H locs ls h1 h2 h3 h4)
theorem z_if_le (C : Cx p s m args meth c own cc n rt D cI tt A) {x : Int32} {off : Int} {tgt : Nat} (hd : decode cc pc = .ok (.ifCond .le off, 3)) (ht : (pc : Int) + off = (tgt : Int)) (kt : x ≤ 0 → Z p l e R s m args below meth c D A n ce sl Q tgt lv st ws) (kf : ¬ x ≤ 0 → Z p l e R s m args below meth c D A n ce sl Q (pc + 3) lv st ws) : Z p l e R s m args below meth c D A n ce sl Q pc lv (.int x :: st) ws := fun H locs ls h1 h2 h3 h4 => lv_if_le C.1 C.2.1 hd ht (fun q => kt q H locs ls h1 h2 h3 h4) (fun q => kf q H locs ls h1 h2 h3 h4)
theorem z_icmp_eq (C : Cx p s m args meth c own cc n rt D cI tt A) {x y : Int32} {off : Int} {tgt : Nat} (hd : decode cc pc = .ok (.if_icmp .eq off, 3)) (ht : (pc : Int) + off = (tgt : Int)) (kt : x = y → Z p l e R s m args below meth c D A n ce sl Q tgt lv st ws) (kf : ¬ x = y → Z p l e R s m args below meth c D A n ce sl Q (pc + 3) lv st ws) : Z p l e R s m args below meth c D A n ce sl Q pc lv (.int y :: .int x :: st) ws := fun H locs ls h1 h2 h3 h4 => lv_icmp_eq C.1 C.2.1 hd ht (fun q => kt q H locs ls h1 h2 h3 h4) (fun q => kf q H locs ls h1 h2 h3 h4)
theorem z_icmp_ne (C : Cx p s m args meth c own cc n rt D cI tt A) {x y : Int32} {off : Int} {tgt : Nat} (hd : decode cc pc = .ok (.if_icmp .ne off, 3)) (ht : (pc : Int) + off = (tgt : Int)) (kt : ¬ x = y → Z p l e R s m args below meth c D A n ce sl Q tgt lv st ws) (kf : x = y → Z p l e R s m args below meth c D A n ce sl Q (pc + 3) lv st ws) : Z p l e R s m args below meth c D A n ce sl Q pc lv (.int y :: .int x :: st) ws := fun H locs ls h1 h2 h3 h4 => lv_icmp_ne C.1 C.2.1 hd ht (fun q => kt q H locs ls h1 h2 h3 h4) (fun q => kf q H locs ls h1 h2 h3 h4)
theorem z_icmp_lt (C : Cx p s m args meth c own cc n rt D cI tt A) {x y : Int32} {off : Int} {tgt : Nat} (hd : decode cc pc = .ok (.if_icmp .lt off, 3)) (ht : (pc : Int) + off = (tgt : Int)) (kt : x < y → Z p l e R s m args below meth c D A n ce sl Q tgt lv st ws) (kf : ¬ x < y → Z p l e R s m args below meth c D A n ce sl Q (pc + 3) lv st ws) : Z p l e R s m args below meth c D A n ce sl Q pc lv (.int y :: .int x :: st) ws := fun H locs ls h1 h2 h3 h4 => lv_icmp_lt C.1 C.2.1 hd ht (fun q => kt q H locs ls h1 h2 h3 h4) (fun q => kf q H locs ls h1 h2 h3 h4)
theorem z_icmp_ge (C : Cx p s m args meth c own cc n rt D cI tt A) {x y : Int32} {off : Int} {tgt : Nat} (hd : decode cc pc = .ok (.if_icmp .ge off, 3)) (ht : (pc : Int) + off = (tgt : Int)) (kt : y ≤ x → Z p l e R s m args below meth c D A n ce sl Q tgt lv st ws) (kf : ¬ y ≤ x → Z p l e R s m args below meth c D A n ce sl Q (pc + 3) lv st ws) : Z p l e R s m args below meth c D A n ce sl Q pc lv (.int y :: .int x :: st) ws := fun H locs ls h1 h2 h3 h4 => lv_icmp_ge C.1 C.2.1 hd ht (fun q => kt q H locs ls h1 h2 h3 h4) (fun q => kf q H locs ls h1 h2 h3 h4)
theorem z_icmp_gt (C : Cx p s m args meth c own cc n rt D cI tt A) {x y : Int32} {off : Int} {tgt : Nat} (hd : decode cc pc = .ok (.if_icmp .gt off, 3)) (ht : (pc : Int) + off = (tgt : Int)) (kt : y < x → Z p l e R s m args below meth c D A n ce sl Q tgt lv st ws) (kf : ¬ y < x → Z p l e R s m args below meth c D A n ce sl Q (pc + 3) lv st ws) : Z p l e R s m args below meth c D A n ce sl Q pc lv (.int y :: .int x :: st) ws := fun H locs ls h1 h2 h3 h4 => lv_icmp_gt C.1 C.2.1 hd ht (fun q => kt q H locs ls h1 h2 h3 h4) (fun q => kf q H locs ls h1 h2 h3 h4)
theorem z_icmp_le (C : Cx p s m args meth c own cc n rt D cI tt A) {x y : Int32} {off : Int} {tgt : Nat} (hd : decode cc pc = .ok (.if_icmp .le off, 3)) (ht : (pc : Int) + off = (tgt : Int)) (kt : x ≤ y → Z p l e R s m args below meth c D A n ce sl Q tgt lv st ws) (kf : ¬ x ≤ y → Z p l e R s m args below meth c D A n ce sl Q (pc + 3) lv st ws) : Z p l e R s m args below meth c D A n ce sl Q pc lv (.int y :: .int x :: st) ws := fun H locs ls h1 h2 h3 h4 => lv_icmp_le C.1 C.2.1 hd ht (fun q => kt q H locs ls h1 h2 h3 h4) (fun q => kf q H locs ls h1 h2 h3 h4)
theorem z_lookup (C : Cx p s m args meth c own cc n rt D cI tt A) {dflt : Int} {ps : Array (Int × Int)} {len : Nat} {x : Int32} {off : Int} {tgt : Nat} (hd : decode cc pc = .ok (.lookupswitch dflt ps, len)) (hp : (ps.toList.zip (ps.toList.drop 1)).all (fun (a, next) => a.1 < next.1) = true) (ho : Op.lookupswitch.offset ps.toList dflt x.toInt = off) (ht : (pc : Int) + off = (tgt : Int)) (k : Z p l e R s m args below meth c D A n ce sl Q tgt lv st ws) : Z p l e R s m args below meth c D A n ce sl Q pc lv (.int x :: st) ws := fun H locs ls h1 h2 h3 h4 => lv_lookup C.1 C.2.1 hd hp ho ht (k H locs ls h1 h2 h3 h4)
theorem z_tableOut (C : Cx p s m args meth c own cc n rt D cI tt A) {dflt lo hi : Int} {offs : Array Int} {len : Nat} {x : Int32} {tgt : Nat} (hd : decode cc pc = .ok (.tableswitch dflt lo hi offs, len)) (h : x.toInt < lo ∨ hi < x.toInt) (ht : (pc : Int) + dflt = (tgt : Int)) (k : Z p l e R s m args below meth c D A n ce sl Q tgt lv st ws) : Z p l e R s m args below meth c D A n ce sl Q pc lv (.int x :: st) ws := fun H locs ls h1 h2 h3 h4 => lv_tableOut C.1 C.2.1 hd h ht (k H locs ls h1 h2 h3 h4)
theorem z_tableIn (C : Cx p s m args meth c own cc n rt D cI tt A) {dflt lo hi : Int} {offs : Array Int} {len : Nat} {x : Int32} {off : Int} {tgt : Nat} (hd : decode cc pc = .ok (.tableswitch dflt lo hi offs, len)) (g1 : ¬ x.toInt < lo) (g2 : ¬ hi < x.toInt) (ho : offs[(x.toInt - lo).toNat]? = some off) (ht : (pc : Int) + off = (tgt : Int)) (k : Z p l e R s m args below meth c D A n ce sl Q tgt lv st ws) : Z p l e R s m args below meth c D A n ce sl Q pc lv (.int x :: st) ws := fun H locs ls h1 h2 h3 h4 => lv_tableIn C.1 C.2.1 hd g1 g2 ho ht (k H locs ls h1 h2 h3 h4)
theorem z_goto (C : Cx p s m args meth c own cc n rt D cI tt A) {off : Int} {tgt : Nat} (hd : decode cc pc = .ok (.goto off, 3)) (ht : (pc : Int) + off = (tgt : Int)) (k : Z p l e R s m args below meth c D A n ce sl Q tgt lv st ws) : Z p l e R s m args below meth c D A n ce sl Q pc lv st ws := fun H locs ls h1 h2 h3 h4 => lv_goto C.1 C.2.1 hd ht (k H locs ls h1 h2 h3 h4)
theorem z_ifnull (C : Cx p s m args meth c own cc n rt D cI tt A) {x : Nat} {off : Int} (hd : decode cc pc = .ok (.ifnull off, 3)) (k : Z p l e R s m args below meth c D A n ce sl Q (pc + 3) lv st ws) : Z p l e R s m args below meth c D A n ce sl Q pc lv (.ref x :: st) ws := fun H locs ls h1 h2 h3 h4 => lv_ifnull C.1 C.2.1 hd (k H locs ls h1 h2 h3 h4)
theorem z_ifnonnull (C : Cx p s m args meth c own cc n rt D cI tt A) {x : Nat} {off : Int} {tgt : Nat} (hd : decode cc pc = .ok (.ifnonnull off, 3)) (ht : (pc : Int) + off = (tgt : Int)) (k : Z p l e R s m args below meth c D A n ce sl Q tgt lv st ws) : Z p l e R s m args below meth c D A n ce sl Q pc lv (.ref x :: st) ws := fun H locs ls h1 h2 h3 h4 => lv_ifnonnull C.1 C.2.1 hd ht (k H locs ls h1 h2 h3 h4)
theorem z_ldc2 (C : Cx p s m args meth c own cc n rt D cI tt A) {i : Nat} {v : Int64} (hw : Cond.constantLong own i v ∈ TB) (hd : decode cc pc = .ok (.ldc2_w i, 3)) (k : Z p l e R s m args below meth c D A n ce sl Q (pc + 3) lv (.long v :: st) ws) : Z p l e R s m args below meth c D A n ce sl Q pc lv st ws := fun H locs ls h1 h2 h3 h4 => lv_ldc2 C.1 C.2.1 C.2.2.2.1 (C.2.2.2.2.1 _ hw) hd (k H locs ls h1 h2 h3 h4)
theorem z_ldcw (C : Cx p s m args meth c own cc n rt D cI tt A) {i : Nat} {v : Int32} (hw : Cond.constant own i v ∈ TB) (hd : decode cc pc = .ok (.ldc_w i, 3)) (k : Z p l e R s m args below meth c D A n ce sl Q (pc + 3) lv (.int v :: st) ws) : Z p l e R s m args below meth c D A n ce sl Q pc lv st ws := fun H locs ls h1 h2 h3 h4 => lv_ldcw C.1 C.2.1 C.2.2.2.1 (C.2.2.2.2.1 _ hw) hd (k H locs ls h1 h2 h3 h4)
theorem z_ldc (C : Cx p s m args meth c own cc n rt D cI tt A) {i : Nat} {v : Int32} (hw : Cond.constant own i v ∈ TB) (hd : decode cc pc = .ok (.ldc i, 2)) (k : Z p l e R s m args below meth c D A n ce sl Q (pc + 2) lv (.int v :: st) ws) : Z p l e R s m args below meth c D A n ce sl Q pc lv st ws := fun H locs ls h1 h2 h3 h4 => lv_ldc C.1 C.2.1 C.2.2.2.1 (C.2.2.2.2.1 _ hw) hd (k H locs ls h1 h2 h3 h4)
theorem z_get (C : Cx p s m args meth c own cc n rt D cI tt A) (q0 : Nat) {a ci : Nat} {fs : List Value} {CN : String} {T : u_T} {N : Nat} (he : ws[q0]? = some (a, .inr (ci, fs))) (hc : vwCl[ci]? = some (CN, T, N)) (hin : ∀ w ∈ u_ws CN T N, w ∈ TB) (k : Nat) (hk : k < N) {idx : Nat} {ref : String} (hr : (T k).1 = ref) (hw : Cond.fieldLink own idx ref (T k).2.1 (T k).2.2.1 ∈ TB) {v : Value} (hv : fs[k]? = some v) (hd : decode cc pc = .ok (.getfield idx, 3)) (kk : Z p l e R s m args below meth c D A n ce sl Q (pc + 3) lv (v :: st) ws) : Z p l e R s m args below meth c D A n ce sl Q pc lv (.ref a :: st) ws := fun H locs ls h1 h2 h3 h4 => va_get C.1 C.2.1 C.2.2.2.2.1 hin C.2.2.2.1 C.2.2.2.2.2.1 h1 q0 he hc k hk (C.2.2.2.2.1 _ hw) (fun x hx => by rw [← hr]; exact hx) hv hd (kk H locs ls h1 h2 h3 h4)
theorem z_getN (C : Cx p s m args meth c own cc n rt D cI tt A) (q0 : Nat) {a ci : Nat} {fs : List Value} {CN : String} {T : u_T} {N : Nat} (he : ws[q0]? = some (a, .inr (ci, fs))) (hc : vwCl[ci]? = some (CN, T, N)) (hin : ∀ w ∈ u_ws CN T N, w ∈ TB) (k : Nat) (hk : k < N) {idx : Nat} {ref : String} (hr : (T k).1 = ref) {host : String} (hw : Cond.fieldLinkNest own idx ref (T k).2.1 (T k).2.2.1 host ∈ NB) {v : Value} (hv : fs[k]? = some v) (hd : decode cc pc = .ok (.getfield idx, 3)) (kk : Z p l e R s m args below meth c D A n ce sl Q (pc + 3) lv (v :: st) ws) : Z p l e R s m args below meth c D A n ce sl Q pc lv (.ref a :: st) ws := fun H locs ls h1 h2 h3 h4 => va_getN C.1 C.2.1 C.2.2.2.2.1 hin C.2.2.2.1 C.2.2.2.2.2.1 h1 q0 he hc k hk (va_Nw.use rfl (C.2.2.2.2.2.2.1 _ hw)) (fun x hx => by rw [← hr]; exact hx) hv hd (kk H locs ls h1 h2 h3 h4)
theorem z_put (C : Cx p s m args meth c own cc n rt D cI tt A) (q0 : Nat) {a ci : Nat} {fs : List Value} {CN : String} {T : u_T} {N : Nat} (he : ws[q0]? = some (a, .inr (ci, fs))) (hc : vwCl[ci]? = some (CN, T, N)) (hin : ∀ w ∈ u_ws CN T N, w ∈ TB) (k : Nat) (hk : k < N) {idx : Nat} {ref : String} (hr : (T k).1 = ref) (ty0 : Nat → FieldType) (hty : ∀ k, k < N → parseFieldDescriptor (T k).2.2.1 = some (ty0 k)) (hnm : ∀ a, a < N → ∀ b, b < N → a ≠ b → (T a).2.1 ≠ (T b).2.1) (hfin : (T k).2.2.2 = false) {v : Value} (hn : narrow (ty0 k) v = v) (hfit : fits (ty0 k) v = true) (hl : k < fs.length) {ws' : va_W} (hws : ws.set q0 (a, .inr (ci, fs.set k v)) = ws') (hw : Cond.fieldLink own idx ref (T k).2.1 (T k).2.2.1 ∈ TB) (hd : decode cc pc = .ok (.putfield idx, 3)) (kk : Z p l e R s m args below meth c D A n ce sl Q (pc + 3) lv st ws') : Z p l e R s m args below meth c D A n ce sl Q pc lv (v :: .ref a :: st) ws := by
  subst hws
  exact fun H locs ls h1 h2 h3 h4 => va_put C.1 C.2.1 C.2.2.2.2.1 hin ty0 hty hnm C.2.2.2.1 C.2.2.2.2.2.1 h1 h2 h3 q0 he hc k hk (C.2.2.2.2.1 _ hw) (fun x hx => by rw [← hr]; exact hx) hfin (hty k hk) hn hfit hl hd (fun H1 locs1 g1 g2 g3 => kk H1 locs1 ls g1 g2 g3 h4)
theorem z_putN (C : Cx p s m args meth c own cc n rt D cI tt A) (q0 : Nat) {a ci : Nat} {fs : List Value} {CN : String} {T : u_T} {N : Nat} (he : ws[q0]? = some (a, .inr (ci, fs))) (hc : vwCl[ci]? = some (CN, T, N)) (hin : ∀ w ∈ u_ws CN T N, w ∈ TB) (k : Nat) (hk : k < N) {idx : Nat} {ref : String} (hr : (T k).1 = ref) (ty0 : Nat → FieldType) (hty : ∀ k, k < N → parseFieldDescriptor (T k).2.2.1 = some (ty0 k)) (hnm : ∀ a, a < N → ∀ b, b < N → a ≠ b → (T a).2.1 ≠ (T b).2.1) (hfin : (T k).2.2.2 = false) {v : Value} (hn : narrow (ty0 k) v = v) (hfit : fits (ty0 k) v = true) (hl : k < fs.length) {ws' : va_W} (hws : ws.set q0 (a, .inr (ci, fs.set k v)) = ws') {host : String} (hw : Cond.fieldLinkNest own idx ref (T k).2.1 (T k).2.2.1 host ∈ NB) (hd : decode cc pc = .ok (.putfield idx, 3)) (kk : Z p l e R s m args below meth c D A n ce sl Q (pc + 3) lv st ws') : Z p l e R s m args below meth c D A n ce sl Q pc lv (v :: .ref a :: st) ws := by
  subst hws
  exact fun H locs ls h1 h2 h3 h4 => va_putN C.1 C.2.1 C.2.2.2.2.1 hin ty0 hty hnm C.2.2.2.1 C.2.2.2.2.2.1 h1 h2 h3 q0 he hc k hk (va_Nw.use rfl (C.2.2.2.2.2.2.1 _ hw)) (fun x hx => by rw [← hr]; exact hx) hfin (hty k hk) hn hfit hl hd (fun H1 locs1 g1 g2 g3 => kk H1 locs1 ls g1 g2 g3 h4)
theorem z_putF (C : Cx p s m args meth c own cc n rt D cI tt A) (q0 : Nat) {a ci : Nat} {fs : List Value} {CN : String} {T : u_T} {N : Nat} (he : ws[q0]? = some (a, .inr (ci, fs))) (hc : vwCl[ci]? = some (CN, T, N)) (hin : ∀ w ∈ u_ws CN T N, w ∈ TB) (k : Nat) (hk : k < N) {idx : Nat} {ref : String} (hr : (T k).1 = ref) (ty0 : Nat → FieldType) (hty : ∀ k, k < N → parseFieldDescriptor (T k).2.2.1 = some (ty0 k)) (hnm : ∀ a, a < N → ∀ b, b < N → a ≠ b → (T a).2.1 ≠ (T b).2.1) (hfin : (T k).2.2.2 = true) {v : Value} (hn : narrow (ty0 k) v = v) (hfit : fits (ty0 k) v = true) (hl : k < fs.length) {ws' : va_W} (hws : ws.set q0 (a, .inr (ci, fs.set k v)) = ws') (hw : Cond.fieldLink own idx ref (T k).2.1 (T k).2.2.1 ∈ TB) (hi : meth.name = "<init>") (hdecl : (T k).1 = own) (hd : decode cc pc = .ok (.putfield idx, 3)) (kk : Z p l e R s m args below meth c D A n ce sl Q (pc + 3) lv st ws') : Z p l e R s m args below meth c D A n ce sl Q pc lv (v :: .ref a :: st) ws := by
  subst hws
  exact fun H locs ls h1 h2 h3 h4 => va_putF C.1 C.2.1 C.2.2.2.2.1 hin ty0 hty hnm C.2.2.2.1 C.2.2.2.2.2.1 h1 h2 h3 q0 he hc k hk (C.2.2.2.2.1 _ hw) (fun x hx => by rw [← hr]; exact hx) hfin hi hdecl (hty k hk) hn hfit hl hd (fun H1 locs1 g1 g2 g3 => kk H1 locs1 ls g1 g2 g3 h4)
theorem z_iald (C : Cx p s m args meth c own cc n rt D cI tt A) (q0 : Nat) {a N : Nat} {f : Nat → Int32} (ha : ws[q0]? = some (a, .inl (cI, N, .inl f))) {i : Int32} (hi : vp_in i N) (hd : decode cc pc = .ok (.iaload, 1)) (kk : Z p l e R s m args below meth c D A n ce sl Q (pc + 1) lv (.int (f i.toNatClampNeg) :: st) ws) : Z p l e R s m args below meth c D A n ce sl Q pc lv (.int i :: .ref a :: st) ws := fun H locs ls h1 h2 h3 h4 => va_iald C.1 C.2.1 C.2.2.2.2.2.1 h1 q0 0 ha rfl hi hd (kk H locs ls h1 h2 h3 h4)
theorem z_iast (C : Cx p s m args meth c own cc n rt D cI tt A) (q0 : Nat) {a N : Nat} {f : Nat → Int32} (ha : ws[q0]? = some (a, .inl (cI, N, .inl f))) {i x : Int32} (hi : vp_in i N) {ws' : va_W} (hws : ws.set q0 (a, .inl (cI, N, .inl (upd f i.toNatClampNeg x))) = ws') (hd : decode cc pc = .ok (.iastore, 1)) (kk : Z p l e R s m args below meth c D A n ce sl Q (pc + 1) lv st ws') : Z p l e R s m args below meth c D A n ce sl Q pc lv (.int x :: .int i :: .ref a :: st) ws := by
  subst hws
  exact fun H locs ls h1 h2 h3 h4 => va_iast C.1 C.2.1 C.2.2.2.2.2.1 h1 h2 h3 q0 0 ha rfl hi hd (fun H1 locs1 g1 g2 g3 => kk H1 locs1 ls g1 g2 g3 h4)
theorem z_alen (C : Cx p s m args meth c own cc n rt D cI tt A) (q0 : Nat) {a N : Nat} {f : Nat → Int32} (ha : ws[q0]? = some (a, .inl (cI, N, .inl f))) {v : Int32} (hv : Int32.ofNat N = v) (hd : decode cc pc = .ok (.arraylength, 1)) (kk : Z p l e R s m args below meth c D A n ce sl Q (pc + 1) lv (.int v :: st) ws) : Z p l e R s m args below meth c D A n ce sl Q pc lv (.ref a :: st) ws := fun H locs ls h1 h2 h3 h4 => va_alen C.1 C.2.1 C.2.2.2.2.2.1 h1 q0 0 ha rfl hv hd (kk H locs ls h1 h2 h3 h4)
theorem z_tald (C : Cx p s m args meth c own cc n rt D cI tt A) {t N : Nat} {f : Nat → Value} (hT : va_T .int t N f A s s.heap) {i : Int32} (hi : vp_in i N) {v : Value} (hv : f i.toNatClampNeg = v) (hd : decode cc pc = .ok (.iaload, 1)) (kk : Z p l e R s m args below meth c D A n ce sl Q (pc + 1) lv (v :: st) ws) : Z p l e R s m args below meth c D A n ce sl Q pc lv (.int i :: .ref t :: st) ws := fun H locs ls h1 h2 h3 h4 => va_ti C.1 C.2.1 hT h3 hi hv hd (kk H locs ls h1 h2 h3 h4)
theorem z_tlen (C : Cx p s m args meth c own cc n rt D cI tt A) {t N : Nat} {f : Nat → Value} (hT : va_T .int t N f A s s.heap) {v : Int32} (hv : Int32.ofNat N = v) (hd : decode cc pc = .ok (.arraylength, 1)) (kk : Z p l e R s m args below meth c D A n ce sl Q (pc + 1) lv (.int v :: st) ws) : Z p l e R s m args below meth c D A n ce sl Q pc lv (.ref t :: st) ws := fun H locs ls h1 h2 h3 h4 => va_tlen C.1 C.2.1 hT h3 hv hd (kk H locs ls h1 h2 h3 h4)
theorem z_gets (C : Cx p s m args meth c own cc n rt D cI tt A) {nm : String} {t : Nat} (hZ : va_Z RX3 nm "[I" (.ref t) A s s.heap) {idx : Nat} (hw : Cond.fieldLink own idx RX3 nm "[I" ∈ TB) (hd : decode cc pc = .ok (.getstatic idx, 3)) (kk : Z p l e R s m args below meth c D A n ce sl Q (pc + 3) lv (.ref t :: st) ws) : Z p l e R s m args below meth c D A n ce sl Q pc lv st ws := fun H locs ls h1 h2 h3 h4 => va_gets C.1 C.2.1 hZ h3 C.2.2.2.1 (C.2.2.2.2.1 _ hw) (fun _ h => h) hd (kk H locs ls h1 h2 h3 h4)
theorem z_getsN (C : Cx p s m args meth c own cc n rt D cI tt A) {nm : String} {t : Nat} (hZ : va_Z RX3 nm "[I" (.ref t) A s s.heap) {idx : Nat} {host : String} (hw : Cond.fieldLinkNest own idx RX3 nm "[I" host ∈ NB) (hd : decode cc pc = .ok (.getstatic idx, 3)) (kk : Z p l e R s m args below meth c D A n ce sl Q (pc + 3) lv (.ref t :: st) ws) : Z p l e R s m args below meth c D A n ce sl Q pc lv st ws := fun H locs ls h1 h2 h3 h4 => va_getsN C.1 C.2.1 hZ h3 C.2.2.2.1 (va_Nw.use rfl (C.2.2.2.2.2.2.1 _ hw)) (fun _ h => h) hd (kk H locs ls h1 h2 h3 h4)
theorem z_mmin (C : Cx p s m args meth c own cc n rt D cI tt A) {x y : Int32} {idx : Nat} (hw : Cond.methodLink own idx yJ9_min_7cf53 ∈ TB) (hfr : 1 ≤ R.frames) (hlo : (st.map fun v => v.category).sum + 13 ≤ R.locals) (hce : ce ≤ R.cells) (hsl : sl ≤ R.slots) (hd : decode cc pc = .ok (.invokestatic idx, 3)) (kk : Z p l e R s m args below meth c D A n ce sl Q (pc + 3) lv (.int (if y < x then y else x) :: st) ws) : Z p l e R s m args below meth c D A n ce sl Q pc lv (.int y :: .int x :: st) ws := fun H locs ls h1 h2 h3 h4 => va_mmin C.1 C.2.1 (C.2.2.1.trans h4.1.symm) C.2.2.2.1 (C.2.2.2.2.1 _ hw) (C.2.2.2.2.1 _ ws_J9_min_7cf53) (C.2.2.2.2.1 _ wi_J9) (C.2.2.2.2.1 _ wc_J9_min_7cf53) hfr hlo hce hsl hd (kk H locs ls h1 h2 h3 h4)
theorem z_mmax (C : Cx p s m args meth c own cc n rt D cI tt A) {x y : Int32} {idx : Nat} (hw : Cond.methodLink own idx yJ9_max_7cf53 ∈ TB) (hfr : 1 ≤ R.frames) (hlo : (st.map fun v => v.category).sum + 13 ≤ R.locals) (hce : ce ≤ R.cells) (hsl : sl ≤ R.slots) (hd : decode cc pc = .ok (.invokestatic idx, 3)) (kk : Z p l e R s m args below meth c D A n ce sl Q (pc + 3) lv (.int (if x < y then y else x) :: st) ws) : Z p l e R s m args below meth c D A n ce sl Q pc lv (.int y :: .int x :: st) ws := fun H locs ls h1 h2 h3 h4 => va_mmax C.1 C.2.1 (C.2.2.1.trans h4.1.symm) C.2.2.2.1 (C.2.2.2.2.1 _ hw) (C.2.2.2.2.1 _ ws_J9_max_7cf53) (C.2.2.2.2.1 _ wi_J9) (C.2.2.2.2.1 _ wc_J9_max_7cf53) hfr hlo hce hsl hd (kk H locs ls h1 h2 h3 h4)
theorem z_conv {lv' : List (Nat × Value)} {ws' : va_W} {st' : List Value} (hl : lsub lv lv') (hw : ws = ws') (hs : st = st') (k : Z p l e R s m args below meth c D A n ce sl Q pc lv' st' ws') : Z p l e R s m args below meth c D A n ce sl Q pc lv st ws := by
  subst hw; subst hs
  exact fun H locs ls h1 h2 h3 h4 => k H locs ls h1 h2 h3 (lsub_has h4 hl)
theorem z_iret {S : Type} {post : Int32 → S → Prop} {wf : S → va_W} {v : Int32} (C : Cx p s m args meth c own cc n (some .int) D cI tt A) (u : S) (hd : decode cc pc = .ok (.ireturn, 1)) (hp : post v u) (hw : wf u = ws) : Z p l e R s m args below meth c D A n ce sl (MQ below (va_Qi post (fun u t => va_P D vwCl (wf u) t.heap) A) args s ce sl A) pc lv [.int v] ws := by
  subst hw
  exact fun H locs ls h1 h2 h3 h4 => W.iret C.1 C.2.1 C.2.2.2.2.2.2.2.2.1 (fun t ht hW => ⟨⟨v, u, rfl, hp, by show va_P D vwCl (wf u) t.heap; rw [ht]; exact h1⟩, h3.F ht⟩) h3.2.2 hd C.2.2.2.2.2.2.2.2.2.1
theorem z_zret {S : Type} {post : Int32 → S → Prop} {wf : S → va_W} {v : Int32} (C : Cx p s m args meth c own cc n (some .boolean) D cI tt A) (u : S) (hd : decode cc pc = .ok (.ireturn, 1)) (hn : narrow .boolean (.int v) = .int v) (hp : post v u) (hw : wf u = ws) : Z p l e R s m args below meth c D A n ce sl (MQ below (va_Qi post (fun u t => va_P D vwCl (wf u) t.heap) A) args s ce sl A) pc lv [.int v] ws := by
  subst hw
  exact fun H locs ls h1 h2 h3 h4 => W.zret C.1 C.2.1 C.2.2.2.2.2.2.2.2.1 hn (fun t ht hW => ⟨⟨v, u, rfl, hp, by show va_P D vwCl (wf u) t.heap; rw [ht]; exact h1⟩, h3.F ht⟩) h3.2.2 hd C.2.2.2.2.2.2.2.2.2.1
theorem z_lret {S : Type} {post : Int64 → S → Prop} {wf : S → va_W} {v : Int64} (C : Cx p s m args meth c own cc n (some .long) D cI tt A) (u : S) (hd : decode cc pc = .ok (.lreturn, 1)) (hp : post v u) (hw : wf u = ws) : Z p l e R s m args below meth c D A n ce sl (MQ below (va_Ql post (fun u t => va_P D vwCl (wf u) t.heap) A) args s ce sl A) pc lv [.long v] ws := by
  subst hw
  exact fun H locs ls h1 h2 h3 h4 => W.lret C.1 C.2.1 C.2.2.2.2.2.2.2.2.1 (fun t ht hW => ⟨⟨v, u, rfl, hp, by show va_P D vwCl (wf u) t.heap; rw [ht]; exact h1⟩, h3.F ht⟩) h3.2.2 hd C.2.2.2.2.2.2.2.2.2.1
theorem z_vret {S : Type} {post : S → Prop} {wf : S → va_W} (C : Cx p s m args meth c own cc n none D cI tt A) (u : S) (hd : decode cc pc = .ok (.return_, 1)) (hp : post u) (hw : wf u = ws) : Z p l e R s m args below meth c D A n ce sl (MQ below (va_Qv post (fun u t => va_P D vwCl (wf u) t.heap) A) args s ce sl A) pc lv [] ws := by
  subst hw
  exact fun H locs ls h1 h2 h3 h4 => W.vret C.1 C.2.1 C.2.2.2.2.2.2.2.2.1 (fun t ht hW => ⟨⟨u, rfl, hp, by show va_P D vwCl (wf u) t.heap; rw [ht]; exact h1⟩, h3.F ht⟩) h3.2.2 hd C.2.2.2.2.2.2.2.2.2.1

theorem pre_blind (wc : va_W) (sz : Nat) (av : List Value) : FrameBlind (va_Pc av (Pre D cI tt wc sz)) := fun a U g mk q => by
  obtain ⟨q0, q1, q2, q3, q4, q5, q6⟩ := q
  exact ⟨q0, q1, q2, q3, va_K.moved (u := U) (U := U.calling g mk a) (Vm.Alike.refl U.vm) q4, NN.vm (u := U) (U := U.calling g mk a) rfl q5, ST.moved (u := U) (U := U.calling g mk a) (Vm.Alike.refl U.vm) q6⟩
theorem pre_of {H : Heap} {locs : List Loc} {wc : va_W} {isC : List Nat} (C : Cx p s m args meth c own cc n rt D cI tt A) (h1 : va_P D vwCl ws H) (h2 : va_D A ws) (h3 : va_S A s.heap H locs) (hC : isC.map (fun i => ws[i]?) = wc.map some) (hnd : va_nd isC = true) : ∀ U : State, U.heap = H → s.WarmedH U.vm → Pre D cI tt wc H.size U := by
  have hm : isC.filterMap (fun i => ws[i]?) = wc := by
    have : isC.filterMap (fun i => ws[i]?) = (isC.map (fun i => ws[i]?)).filterMap id := by rw [List.filterMap_map]; rfl
    rw [this, hC, List.filterMap_map]
    simp [Function.comp_def]
  intro U hU hW
  refine ⟨by rw [hU], by rw [hU]; exact h1.sub isC hm, (h2.sub isC hnd hC).weaken (fun _ _ _ _ => trivial), va_K.moved hW.alike C.2.2.2.2.2.1, NN.warm hW C.2.2.2.2.2.2.1, ?_⟩
  rw [hU]
  exact ((ST.moved hW.alike (C.2.2.2.2.2.2.2.1.kept (fun q hq hA => h3.2.1 q hq hA)))).narrow (va_free h2 h3 C.2.2.2.2.2.2.2.2.2.2 isC hC)
theorem fix_of (C : Cx p s m args meth c own cc n rt D cI tt A) : CallFix p m c cc n s args TB own := ⟨C.1, C.2.1, C.2.2.1, C.2.2.2.1, C.2.2.2.2.1⟩
theorem good_TB {w : Cond} (h : w ∈ TB) : GoodIn TB (w :: TB) := fun x hx => by
  rcases List.mem_cons.mp hx with rfl | hx
  · exact ⟨h, good_of_word (List.mem_filter.mp h).2⟩
  · exact ⟨hx, good_of_word (List.mem_filter.mp hx).2⟩
/-- how a call is run, whatever its kind: Run st0 rest wc F says that from a state with the stack st0 over the world's heap H, the callee with the world wc comes to F's end -/
def Runs (p : Program) (l : Launch) (e : Env) (R : Room) (s : State) (m : MethodId) (args : Array Value) (below : List Frame) (meth : Method) (c : Code) (D : va_G) (A : Nat → Prop) (n ce sl : Nat) (pc : Nat) (st0 rest : List Value) (ws wc : va_W) (isC : List Nat) (Qa : Nat → Array Value → State → Outcome → State → Prop) : Prop :=
  ∀ (H : Heap) (locs : List Loc) (ls : Array Slot), va_P D vwCl ws H → va_D A ws → va_S A s.heap H locs → ls.size = n → ∃ a, va_Run p l e R s m args below meth c H locs ce sl 0 0 (F0 m pc ls st0) rest (Qa H.size a) (va_A wc H.size)
theorem z_calli {S : Type} {post : Int32 → S → Prop} {wf : S → va_W} {st0 rest : List Value} {wc : va_W} {isC : List Nat} (C : Cx p s m args meth c own cc n rt D cI tt A) (hC : isC.map (fun i => ws[i]?) = wc.map some) (he : ∀ u, (wf u).map (·.1) = wc.map (·.1)) (hr : Runs p l e R s m args below meth c D A n ce sl pc st0 rest ws wc isC (fun sz => va_Qi post (fun u t => va_P D vwCl (wf u) t.heap) (va_A wc sz)))
    (kk : ∀ (r : Int32) (u : S), post r u → Z p l e R s m args below meth c D A n ce sl Q (pc + 3) lv (.int r :: rest) (weave ws isC (wf u))) : Z p l e R s m args below meth c D A n ce sl Q pc lv st0 ws := fun H locs ls h1 h2 h3 h4 => by
  obtain ⟨a, hr⟩ := hr H locs ls h1 h2 h3 h4.1
  have hF := va_free h2 h3 C.2.2.2.2.2.2.2.2.2.2 isC hC
  refine va_calli hr h3 (fun q _ h => hF q h) hF (fun r u t H1 locs1 ht hvm hw hB hz1 hk1 hS => ?_)
  have hB1 : va_P D vwCl (wf u) H1 := by rw [← ht]; exact hB
  obtain ⟨g1, g2⟩ := va_weave h1 h2 isC hC (he u) hk1 hB1
  exact kk r u hw H1 locs1 ls g1 g2 hS h4
theorem z_calll {S : Type} {post : Int64 → S → Prop} {wf : S → va_W} {st0 rest : List Value} {wc : va_W} {isC : List Nat} (C : Cx p s m args meth c own cc n rt D cI tt A) (hC : isC.map (fun i => ws[i]?) = wc.map some) (he : ∀ u, (wf u).map (·.1) = wc.map (·.1)) (hr : Runs p l e R s m args below meth c D A n ce sl pc st0 rest ws wc isC (fun sz => va_Ql post (fun u t => va_P D vwCl (wf u) t.heap) (va_A wc sz)))
    (kk : ∀ (r : Int64) (u : S), post r u → Z p l e R s m args below meth c D A n ce sl Q (pc + 3) lv (.long r :: rest) (weave ws isC (wf u))) : Z p l e R s m args below meth c D A n ce sl Q pc lv st0 ws := fun H locs ls h1 h2 h3 h4 => by
  obtain ⟨a, hr⟩ := hr H locs ls h1 h2 h3 h4.1
  have hF := va_free h2 h3 C.2.2.2.2.2.2.2.2.2.2 isC hC
  refine va_calll hr h3 (fun q _ h => hF q h) hF (fun r u t H1 locs1 ht hvm hw hB hz1 hk1 hS => ?_)
  have hB1 : va_P D vwCl (wf u) H1 := by rw [← ht]; exact hB
  obtain ⟨g1, g2⟩ := va_weave h1 h2 isC hC (he u) hk1 hB1
  exact kk r u hw H1 locs1 ls g1 g2 hS h4
theorem z_callv {S : Type} {post : S → Prop} {wf : S → va_W} {st0 rest : List Value} {wc : va_W} {isC : List Nat} (C : Cx p s m args meth c own cc n rt D cI tt A) (hC : isC.map (fun i => ws[i]?) = wc.map some) (he : ∀ u, (wf u).map (·.1) = wc.map (·.1)) (hr : Runs p l e R s m args below meth c D A n ce sl pc st0 rest ws wc isC (fun sz => va_Qv post (fun u t => va_P D vwCl (wf u) t.heap) (va_A wc sz)))
    (kk : ∀ (u : S), post u → Z p l e R s m args below meth c D A n ce sl Q (pc + 3) lv rest (weave ws isC (wf u))) : Z p l e R s m args below meth c D A n ce sl Q pc lv st0 ws := fun H locs ls h1 h2 h3 h4 => by
  obtain ⟨a, hr⟩ := hr H locs ls h1 h2 h3 h4.1
  have hF := va_free h2 h3 C.2.2.2.2.2.2.2.2.2.2 isC hC
  refine va_callv hr h3 (fun q _ h => hF q h) hF (fun u t H1 locs1 ht hvm hw hB hz1 hk1 hS => ?_)
  have hB1 : va_P D vwCl (wf u) H1 := by rw [← ht]; exact hB
  obtain ⟨g1, g2⟩ := va_weave h1 h2 isC hC (he u) hk1 hB1
  exact kk u hw H1 locs1 ls g1 g2 hS h4
variable {y : MethodName} {bytes : ByteArray} {nY : Nat} {rY : Option FieldType} {rY' : Room} {av : List Value} {wc : va_W} {Qa : Nat → Array Value → State → Outcome → State → Prop} {isC : List Nat} {st0 rest : List Value} {idx : Nat}
/-- what a call asks of the room -/
def Fit (R rY : Room) (nY ce sl : Nat) : Prop := rY.cells = 0 ∧ rY.slots = 0 ∧ (rY.frames + 1 ≤ R.frames ∧ 8 + (nY + 11) + rY.locals ≤ R.locals) ∧ ce ≤ R.cells ∧ sl ≤ R.slots
theorem runV {CN : String} {b : Nat} {As : List Value} {nn : Nat} {ci : Nat} {q : vw_C} {fs : List Value} (C : Cx p s m args meth c own cc n rt D cI tt A) (hM : ∀ sz : Nat, Met l y (.code y bytes nY rY :: TB) rY' (va_Pc (.ref b :: As) (Pre D cI tt wc sz)) (Qa sz) 0 0 (va_A wc sz)) (hC : isC.map (fun i => ws[i]?) = wc.map some) (hnd : va_nd isC = true) (hfit : Fit R rY' nY ce sl)
    (hl : Cond.methodLink own idx y ∈ TB) (hm : Cond.instanceMethod y ∈ TB) (hs : Cond.selects CN y y ∈ TB) (hi : Cond.initialized CN ∈ TB) (hc : Cond.code y bytes nY rY ∈ TB) (hy : y.cls = CN ∧ y.cls ≠ "java/lang/invoke/MethodHandle" ∧ y.cls ≠ "java/lang/invoke/VarHandle" ∧ (parseMethodDescriptor y.desc).map (fun d => d.parameters.length) = some nn) (hAs : As.length = nn)
    (q0 : Nat) (hq : ws[q0]? = some (b, .inr (ci, fs))) (hcl : vwCl[ci]? = some q) (hqn : q.1 = CN) (hst : st0 = As.reverse ++ .ref b :: rest) (hcat : (rest.map fun v => v.category).sum ≤ 8) (hd : decode cc pc = .ok (.invokevirtual idx, 3)) :
    Runs p l e R s m args below meth c D A n ce sl pc st0 rest ws wc isC Qa := fun H locs ls h1 h2 h3 h4 => by
  subst hqn
  obtain ⟨f1, f2, f3, f4, f5⟩ := hfit
  refine ⟨(.ref b :: As).toArray, va_runV (fix_of C) (hM H.size) (C := q.1) (n := nn) (cwV nn C.2.2.2.2.1 (fun w hw => ?_) rfl f1 f2 hy f3) ⟨pre_blind wc H.size _, va_recv C.2.2.2.2.2.1 h1 hcl hq, fun U hU hW => ⟨rfl, pre_of C h1 h2 h3 hC hnd U hU hW⟩⟩ rfl hAs h4 hst (lv_room hcat) hd ⟨f4, f5⟩⟩
  rcases List.mem_append.mp hw with hw | hw
  · have : w = .methodLink own idx y ∨ w = .instanceMethod y ∨ w = .selects q.1 y y ∨ w = .initialized q.1 := by simpa [wsV] using hw
    rcases this with rfl | rfl | rfl | rfl
    · exact good_TB hl _ List.mem_cons_self
    · exact good_TB hm _ List.mem_cons_self
    · exact good_TB hs _ List.mem_cons_self
    · exact good_TB hi _ List.mem_cons_self
  · exact good_TB hc w hw
theorem runVN {CN host : String} {b : Nat} {As : List Value} {nn : Nat} {ci : Nat} {q : vw_C} {fs : List Value} (C : Cx p s m args meth c own cc n rt D cI tt A) (hM : ∀ sz : Nat, Met l y (.code y bytes nY rY :: TB) rY' (va_Pc (.ref b :: As) (Pre D cI tt wc sz)) (Qa sz) 0 0 (va_A wc sz)) (hC : isC.map (fun i => ws[i]?) = wc.map some) (hnd : va_nd isC = true) (hfit : Fit R rY' nY ce sl)
    (hl : Cond.methodLinkNest own idx y host ∈ NB) (hm : Cond.instanceMethod y ∈ TB) (hs : Cond.selects CN y y ∈ TB) (hi : Cond.initialized CN ∈ TB) (hc : Cond.code y bytes nY rY ∈ TB) (hy : y.cls = CN ∧ y.cls ≠ "java/lang/invoke/MethodHandle" ∧ y.cls ≠ "java/lang/invoke/VarHandle" ∧ (parseMethodDescriptor y.desc).map (fun d => d.parameters.length) = some nn) (hAs : As.length = nn)
    (q0 : Nat) (hq : ws[q0]? = some (b, .inr (ci, fs))) (hcl : vwCl[ci]? = some q) (hqn : q.1 = CN) (hst : st0 = As.reverse ++ .ref b :: rest) (hcat : (rest.map fun v => v.category).sum ≤ 8) (hd : decode cc pc = .ok (.invokevirtual idx, 3)) :
    Runs p l e R s m args below meth c D A n ce sl pc st0 rest ws wc isC Qa := fun H locs ls h1 h2 h3 h4 => by
  subst hqn
  obtain ⟨f1, f2, f3, f4, f5⟩ := hfit
  obtain ⟨y1, y2⟩ := hy
  exact ⟨(.ref b :: As).toArray, va_runVN (fix_of C) (hM H.size) (C := q.1) (n := nn) ⟨va_cnB nn C.2.2.2.2.1 (good_TB hc) rfl f1 f2 (C.2.2.2.2.2.2.1 _ hl) (by rw [y1]; exact C.2.2.2.2.1 _ hi) y2 f3, C.2.2.2.2.1 _ hm, C.2.2.2.2.1 _ hs⟩ ⟨pre_blind wc H.size _, va_recv C.2.2.2.2.2.1 h1 hcl hq, fun U hU hW => ⟨rfl, pre_of C h1 h2 h3 hC hnd U hU hW⟩⟩ rfl hAs h4 hst (lv_room hcat) hd ⟨f4, f5⟩⟩
theorem runS {As : List Value} {nn : Nat} (C : Cx p s m args meth c own cc n rt D cI tt A) (hM : ∀ sz : Nat, Met l y (.code y bytes nY rY :: TB) rY' (va_Pc As (Pre D cI tt wc sz)) (Qa sz) 0 0 (va_A wc sz)) (hC : isC.map (fun i => ws[i]?) = wc.map some) (hnd : va_nd isC = true) (hfit : Fit R rY' nY ce sl)
    (hl : Cond.methodLink own idx y ∈ TB) (hm : Cond.static y ∈ TB) (hi : Cond.initialized y.cls ∈ TB) (hc : Cond.code y bytes nY rY ∈ TB) (hy : y.cls ≠ "java/lang/invoke/MethodHandle" ∧ y.cls ≠ "java/lang/invoke/VarHandle" ∧ (parseMethodDescriptor y.desc).map (fun d => d.parameters.length) = some nn) (hAs : As.length = nn)
    (hst : st0 = As.reverse ++ rest) (hcat : (rest.map fun v => v.category).sum ≤ 8) (hd : decode cc pc = .ok (.invokestatic idx, 3)) :
    Runs p l e R s m args below meth c D A n ce sl pc st0 rest ws wc isC Qa := fun H locs ls h1 h2 h3 h4 => by
  obtain ⟨f1, f2, f3, f4, f5⟩ := hfit
  refine ⟨As.toArray, va_runS (fix_of C) (hM H.size) (n := nn) (va_cwS nn C.2.2.2.2.1 (fun w hw => ?_) rfl f1 f2 hy f3) ⟨pre_blind wc H.size _, fun U hU hW => ⟨rfl, pre_of C h1 h2 h3 hC hnd U hU hW⟩⟩ rfl hAs h4 hst (lv_room hcat) hd ⟨f4, f5⟩⟩
  rcases List.mem_append.mp hw with hw | hw
  · have : w = .methodLink own idx y ∨ w = .static y ∨ w = .initialized y.cls := by simpa using hw
    rcases this with rfl | rfl | rfl
    · exact good_TB hl _ List.mem_cons_self
    · exact good_TB hm _ List.mem_cons_self
    · exact good_TB hi _ List.mem_cons_self
  · exact good_TB hc w hw
theorem runSN {host : String} {As : List Value} {nn : Nat} (C : Cx p s m args meth c own cc n rt D cI tt A) (hM : ∀ sz : Nat, Met l y (.code y bytes nY rY :: TB) rY' (va_Pc As (Pre D cI tt wc sz)) (Qa sz) 0 0 (va_A wc sz)) (hC : isC.map (fun i => ws[i]?) = wc.map some) (hnd : va_nd isC = true) (hfit : Fit R rY' nY ce sl)
    (hl : Cond.methodLinkNest own idx y host ∈ NB) (hm : Cond.static y ∈ TB) (hi : Cond.initialized y.cls ∈ TB) (hc : Cond.code y bytes nY rY ∈ TB) (hy : y.cls ≠ "java/lang/invoke/MethodHandle" ∧ y.cls ≠ "java/lang/invoke/VarHandle" ∧ (parseMethodDescriptor y.desc).map (fun d => d.parameters.length) = some nn) (hAs : As.length = nn)
    (hst : st0 = As.reverse ++ rest) (hcat : (rest.map fun v => v.category).sum ≤ 8) (hd : decode cc pc = .ok (.invokestatic idx, 3)) :
    Runs p l e R s m args below meth c D A n ce sl pc st0 rest ws wc isC Qa := fun H locs ls h1 h2 h3 h4 => by
  obtain ⟨f1, f2, f3, f4, f5⟩ := hfit
  exact ⟨As.toArray, va_runSN (fix_of C) (hM H.size) (n := nn) ⟨va_cnB nn C.2.2.2.2.1 (good_TB hc) rfl f1 f2 (C.2.2.2.2.2.2.1 _ hl) (C.2.2.2.2.1 _ hi) hy f3, C.2.2.2.2.1 _ hm, trivial⟩ ⟨pre_blind wc H.size _, fun U hU hW => ⟨rfl, pre_of C h1 h2 h3 hC hnd U hU hW⟩⟩ rfl hAs h4 hst (lv_room hcat) hd ⟨f4, f5⟩⟩
end ZR
/-- a method's contract out of its walk -/
theorem met_of {S : Type} {l : Launch} {y : MethodName} {cc : ByteArray} {nY : Nat} {rt : Option FieldType} {R : Room} {D : va_G} {cI : ClassId} {tt : Nat × Nat × Nat} {av : List Value} {ws : va_W} {Qc : (Nat → Prop) → Array Value → State → Outcome → State → Prop} (hy : plainName y.cls = true) (hn : (lg_sl av).length ≤ nY)
    (body : ∀ (p : Program) (e : Env) (s : State) (m : MethodId) (args : Array Value) (below : List Frame) (meth : Method) (c : Code) (A : Nat → Prop), Cx p s m args meth c y.cls cc nY rt D cI tt A → (y.name = "<init>" → meth.name = "<init>") → Z p l e R s m args below meth c D A nY 0 0 (MQ below (Qc A) args s 0 0 A) 0 (lv_args 0 av) [] ws) :
    ∀ sz : Nat, Met l y (.code y cc nY rt :: TB) R (va_Pc av (Pre D cI tt ws sz)) (Qc (va_A ws sz)) 0 0 (va_A ws sz) := fun sz => by
  refine Met.ofW (cc := cc) (maxL := nY) (ret := rt) hy rfl ?_
  intro p e s m args below meth c s₁ B hml hv
  obtain ⟨rfl, hsz, hP, hD, hK, hN, hST⟩ := hv
  have hts : ∀ w ∈ (.code y cc nY rt :: TB : List Cond), w.before av.toArray s = true := atoms_spec (ws := .code y cc nY rt :: TB) B.pre
  have hown : s.vm.findClass y.cls = some m.cls := findClass_of_methodNamed B.named
  subst hsz
  have hl := lv_entry av (n := nY) hn
  rw [lg_entry_eq]
  exact body p e s m av.toArray below meth c (va_A ws s.heap.size) ⟨B.exec, B.bytes, hml, hown, fun w hw => hts w (List.mem_cons_of_mem _ hw), hK, hN, hST, B.returns, B.notSynchronized, fun q hq => Or.inr hq⟩ (fun h => by rw [← h]; exact (name_of_methodNamed B.named B.method).1) s.heap [] _ hP hD.self va_S.rf hl
end
section
section ZM
variable {S : Type} {l : Launch} {y : MethodName} {cc : ByteArray} {nY : Nat} {rt : Option FieldType} {R : Room} {D : va_G} {cI : ClassId} {tt : Nat × Nat × Nat} {av : List Value} {ws : va_W} {wf : S → va_W}
theorem met_ofI {post : Int32 → S → Prop} (hy : plainName y.cls = true) (hn : (lg_sl av).length ≤ nY)
    (body : ∀ (p : Program) (e : Env) (s : State) (m : MethodId) (args : Array Value) (below : List Frame) (meth : Method) (c : Code) (A : Nat → Prop), Cx p s m args meth c y.cls cc nY rt D cI tt A → (y.name = "<init>" → meth.name = "<init>") → Z p l e R s m args below meth c D A nY 0 0 (MQ below (va_Qi post (fun u t => va_P D vwCl (wf u) t.heap) A) args s 0 0 A) 0 (lv_args 0 av) [] ws) :
    MetI l y cc nY rt R D cI tt av ws post wf := met_of (S := S) (Qc := fun A => va_Qi post (fun u t => va_P D vwCl (wf u) t.heap) A) hy hn body
theorem met_ofL {post : Int64 → S → Prop} (hy : plainName y.cls = true) (hn : (lg_sl av).length ≤ nY)
    (body : ∀ (p : Program) (e : Env) (s : State) (m : MethodId) (args : Array Value) (below : List Frame) (meth : Method) (c : Code) (A : Nat → Prop), Cx p s m args meth c y.cls cc nY rt D cI tt A → (y.name = "<init>" → meth.name = "<init>") → Z p l e R s m args below meth c D A nY 0 0 (MQ below (va_Ql post (fun u t => va_P D vwCl (wf u) t.heap) A) args s 0 0 A) 0 (lv_args 0 av) [] ws) :
    MetL l y cc nY rt R D cI tt av ws post wf := met_of (S := S) (Qc := fun A => va_Ql post (fun u t => va_P D vwCl (wf u) t.heap) A) hy hn body
theorem met_ofV {post : S → Prop} (hy : plainName y.cls = true) (hn : (lg_sl av).length ≤ nY)
    (body : ∀ (p : Program) (e : Env) (s : State) (m : MethodId) (args : Array Value) (below : List Frame) (meth : Method) (c : Code) (A : Nat → Prop), Cx p s m args meth c y.cls cc nY rt D cI tt A → (y.name = "<init>" → meth.name = "<init>") → Z p l e R s m args below meth c D A nY 0 0 (MQ below (va_Qv post (fun u t => va_P D vwCl (wf u) t.heap) A) args s 0 0 A) 0 (lv_args 0 av) [] ws) :
    MetV l y cc nY rt R D cI tt av ws post wf := met_of (S := S) (Qc := fun A => va_Qv post (fun u t => va_P D vwCl (wf u) t.heap) A) hy hn body
end ZM
section ZN
variable {p : Program} {l : Launch} {e : Env} {R : Room} {s : State} {m : MethodId} {args : Array Value} {below : List Frame} {meth : Method} {c : Code} {D : va_G} {A : Nat → Prop} {n ce sl : Nat} {Q : State → Prop} {pc : Nat} {lv : List (Nat × Value)} {st : List Value} {ws : va_W}
theorem z_ws {ws' : va_W} {st' : List Value} (hw : ws = ws') (hs : st = st') (k : Z p l e R s m args below meth c D A n ce sl Q pc lv st' ws') : Z p l e R s m args below meth c D A n ce sl Q pc lv st ws := by
  subst hw; subst hs
  exact k
theorem z_lv {lv' : List (Nat × Value)} (hl : lsub lv lv') (k : Z p l e R s m args below meth c D A n ce sl Q pc lv' st ws) : Z p l e R s m args below meth c D A n ce sl Q pc lv st ws := fun H locs ls h1 h2 h3 h4 => k H locs ls h1 h2 h3 (lsub_has h4 hl)
theorem z_topi {x : Int32} (k : ∀ y : Int32, y = x → Z p l e R s m args below meth c D A n ce sl Q pc lv (.int y :: st) ws) : Z p l e R s m args below meth c D A n ce sl Q pc lv (.int x :: st) ws := k x rfl
theorem z_topl {x : Int64} (k : ∀ y : Int64, y = x → Z p l e R s m args below meth c D A n ce sl Q pc lv (.long y :: st) ws) : Z p l e R s m args below meth c D A n ce sl Q pc lv (.long x :: st) ws := k x rfl
theorem z_seti {x y : Int32} (h : x = y) (k : Z p l e R s m args below meth c D A n ce sl Q pc lv (.int y :: st) ws) : Z p l e R s m args below meth c D A n ce sl Q pc lv (.int x :: st) ws := by subst h; exact k
end ZN
/-! calls over the whole world -/
theorem va_nd_of {l : List Nat} : l.Nodup → va_nd l = true := by
  induction l with
  | nil => intro _; rfl
  | cons a t ih =>
    intro h
    rw [List.nodup_cons] at h
    show (decide (a ∉ t) && va_nd t) = true
    rw [ih h.2, Bool.and_true]
    exact decide_eq_true h.1
theorem full_nd (ws : va_W) : va_nd (List.range ws.length) = true := va_nd_of List.nodup_range
theorem full_hC (ws : va_W) : (List.range ws.length).map (fun i => ws[i]?) = ws.map some := by
  apply List.ext_getElem?
  intro k
  rw [List.getElem?_map, List.getElem?_map]
  by_cases h : k < ws.length
  · rw [List.getElem?_range h]
    simp [h]
  · have h1 : (List.range ws.length)[k]? = none := by rw [List.getElem?_eq_none]; simp; omega
    rw [h1, List.getElem?_eq_none (by omega)]
    rfl
section ZF
variable {S : Type} {p : Program} {l : Launch} {e : Env} {R : Room} {s : State} {m : MethodId} {args : Array Value} {below : List Frame} {meth : Method} {c : Code} {D : va_G} {A : Nat → Prop} {n ce sl : Nat} {Q : State → Prop} {own : String} {cc : ByteArray} {rt : Option FieldType} {cI : ClassId} {tt : Nat × Nat × Nat} {pc : Nat} {lv : List (Nat × Value)} {st0 rest : List Value} {ws : va_W} {wf : S → va_W}
theorem z_calliF {post : Int32 → S → Prop} (C : Cx p s m args meth c own cc n rt D cI tt A) (he : ∀ u, (wf u).map (·.1) = ws.map (·.1)) (hr : Runs p l e R s m args below meth c D A n ce sl pc st0 rest ws ws (List.range ws.length) (fun sz => va_Qi post (fun u t => va_P D vwCl (wf u) t.heap) (va_A ws sz)))
    (kk : ∀ (r : Int32) (u : S), post r u → Z p l e R s m args below meth c D A n ce sl Q (pc + 3) lv (.int r :: rest) (wf u)) : Z p l e R s m args below meth c D A n ce sl Q pc lv st0 ws := fun H locs ls h1 h2 h3 h4 => by
  obtain ⟨a, hr⟩ := hr H locs ls h1 h2 h3 h4.1
  have hF := va_free h2 h3 C.2.2.2.2.2.2.2.2.2.2 _ (full_hC ws)
  refine va_calli hr h3 (fun q _ h => hF q h) hF (fun r u t H1 locs1 ht hvm hw hB hz1 hk1 hS => ?_)
  have hB1 : va_P D vwCl (wf u) H1 := by rw [← ht]; exact hB
  exact kk r u hw H1 locs1 ls hB1 (va_D_addr h2 (he u)) hS h4
theorem z_calllF {post : Int64 → S → Prop} (C : Cx p s m args meth c own cc n rt D cI tt A) (he : ∀ u, (wf u).map (·.1) = ws.map (·.1)) (hr : Runs p l e R s m args below meth c D A n ce sl pc st0 rest ws ws (List.range ws.length) (fun sz => va_Ql post (fun u t => va_P D vwCl (wf u) t.heap) (va_A ws sz)))
    (kk : ∀ (r : Int64) (u : S), post r u → Z p l e R s m args below meth c D A n ce sl Q (pc + 3) lv (.long r :: rest) (wf u)) : Z p l e R s m args below meth c D A n ce sl Q pc lv st0 ws := fun H locs ls h1 h2 h3 h4 => by
  obtain ⟨a, hr⟩ := hr H locs ls h1 h2 h3 h4.1
  have hF := va_free h2 h3 C.2.2.2.2.2.2.2.2.2.2 _ (full_hC ws)
  refine va_calll hr h3 (fun q _ h => hF q h) hF (fun r u t H1 locs1 ht hvm hw hB hz1 hk1 hS => ?_)
  have hB1 : va_P D vwCl (wf u) H1 := by rw [← ht]; exact hB
  exact kk r u hw H1 locs1 ls hB1 (va_D_addr h2 (he u)) hS h4
theorem z_callvF {post : S → Prop} (C : Cx p s m args meth c own cc n rt D cI tt A) (he : ∀ u, (wf u).map (·.1) = ws.map (·.1)) (hr : Runs p l e R s m args below meth c D A n ce sl pc st0 rest ws ws (List.range ws.length) (fun sz => va_Qv post (fun u t => va_P D vwCl (wf u) t.heap) (va_A ws sz)))
    (kk : ∀ (u : S), post u → Z p l e R s m args below meth c D A n ce sl Q (pc + 3) lv rest (wf u)) : Z p l e R s m args below meth c D A n ce sl Q pc lv st0 ws := fun H locs ls h1 h2 h3 h4 => by
  obtain ⟨a, hr⟩ := hr H locs ls h1 h2 h3 h4.1
  have hF := va_free h2 h3 C.2.2.2.2.2.2.2.2.2.2 _ (full_hC ws)
  refine va_callv hr h3 (fun q _ h => hF q h) hF (fun u t H1 locs1 ht hvm hw hB hz1 hk1 hS => ?_)
  have hB1 : va_P D vwCl (wf u) H1 := by rw [← ht]; exact hB
  exact kk u hw H1 locs1 ls hB1 (va_D_addr h2 (he u)) hS h4
end ZF
/-- the class's world, and the reference's -/
def cW (cI : ClassId) (a : Nat → Nat) (i : Nat → Int32) (r : Nat → Nat → Int32) : va_W :=
  [(a 0, .inr (3, [.ref (a 1), .ref (a 3), .ref (a 6), .ref (a 12), .ref (a 18), .int (i 0), .int (i 1), .int (i 2)])),
   (a 1, .inr (0, [.ref (a 2), .int (i 3)])), (a 2, .inl (cI, 15, .inl (r 0))),
   (a 3, .inr (1, [.ref (a 4), .int (i 4), .ref (a 5), .int (i 5), .int (i 6), .int (i 7), .int (i 8), .int (i 9)])), (a 4, .inl (cI, 6, .inl (r 1))), (a 5, .inl (cI, 5, .inl (r 2))),
   (a 6, .inr (2, [.int (i 10), .ref (a 7), .int (i 11), .int (i 12), .int (i 13), .ref (a 8), .ref (a 9), .ref (a 10), .ref (a 11)])), (a 7, .inl (cI, 5, .inl (r 3))), (a 8, .inl (cI, 6, .inl (r 4))), (a 9, .inl (cI, 6, .inl (r 5))), (a 10, .inl (cI, 6, .inl (r 6))), (a 11, .inl (cI, 6, .inl (r 7))),
   (a 12, .inr (2, [.int (i 14), .ref (a 13), .int (i 15), .int (i 16), .int (i 17), .ref (a 14), .ref (a 15), .ref (a 16), .ref (a 17)])), (a 13, .inl (cI, 5, .inl (r 8))), (a 14, .inl (cI, 6, .inl (r 9))), (a 15, .inl (cI, 6, .inl (r 10))), (a 16, .inl (cI, 6, .inl (r 11))), (a 17, .inl (cI, 6, .inl (r 12))),
   (a 18, .inl (cI, 5, .inl (r 13)))]
def mW (cI : ClassId) (b : Nat → Nat) (i : Nat → Int32) (r : Nat → Nat → Int32) (h : Int64) : va_W :=
  [(b 0, .inr (4, [.ref (b 1), .int (i 1), .int (i 2), .int (i 3), .int (i 4), .int (i 5), .int (i 6), .int (i 7), .ref (b 2), .ref (b 3), .int (i 10), .int (i 11), .int (i 12), .ref (b 4), .int (i 14), .int (i 15), .ref (b 5), .ref (b 6), .int (i 18), .ref (b 7), .int (i 20), .int (i 21), .int (i 22), .int (i 23), .int (i 24), .ref (b 8), .ref (b 9), .long h])),
   (b 1, .inl (cI, 15, .inl (r 0))), (b 2, .inl (cI, 6, .inl (r 1))), (b 3, .inl (cI, 7, .inl (r 2))), (b 4, .inl (cI, 7, .inl (r 3))), (b 5, .inl (cI, 24, .inl (r 4))), (b 6, .inl (cI, 7, .inl (r 5))), (b 7, .inl (cI, 7, .inl (r 6))), (b 8, .inl (cI, 7, .inl (r 7))), (b 9, .inl (cI, 24, .inl (r 8)))]
theorem cW_ad {cI : ClassId} {a : Nat → Nat} {i i' : Nat → Int32} {r r' : Nat → Nat → Int32} : (cW cI a i r).map (·.1) = (cW cI a i' r').map (·.1) := rfl
theorem mW_ad {cI : ClassId} {a : Nat → Nat} {i i' : Nat → Int32} {r r' : Nat → Nat → Int32} {h h' : Int64} : (mW cI a i r h).map (·.1) = (mW cI a i' r' h').map (·.1) := rfl
end
section
/-! small pure rows -/
theorem i_nlt {x y : Int32} : ¬ x < y ↔ y ≤ x := by simp only [Int32.lt_iff_toInt_lt, Int32.le_iff_toInt_le]; omega
theorem i_nle {x y : Int32} : ¬ x ≤ y ↔ y < x := by simp only [Int32.lt_iff_toInt_lt, Int32.le_iff_toInt_le]; omega
theorem vp_of {k : Int32} {N : Nat} (h : ¬ k < 0) (h2 : ¬ nI N ≤ k) (hN : N < 2 ^ 31) : vp_in k N := by
  rw [vp_in_iff]
  simp only [Int32.lt_iff_toInt_lt, Int32.le_iff_toInt_le, nI_toInt hN] at h h2
  have : (0 : Int32).toInt = 0 := rfl
  omega
/-- a row read, written, copied, looked at before -/
def atv (N : Nat) (f : Nat → Int32) (k : Int32) : Int32 := if k < 0 then 0 else if nI N ≤ k then 0 else f k.toNatClampNeg
def putv (N : Nat) (f : Nat → Int32) (k v : Int32) : Nat → Int32 := if k < 0 then f else if nI N ≤ k then f else upd f k.toNatClampNeg v
def cpv (n1 : Nat) (f1 : Nat → Int32) (n2 : Nat) (f2 : Nat → Int32) : Nat → Nat → Int32
  | 0 => f2
  | j + 1 => putv n2 (cpv n1 f1 n2 f2 j) (nI j) (atv n1 f1 (nI j))
def sumv (f : Nat → Int32) : Nat → Int32
  | 0 => 0
  | j + 1 => sumv f j + f j
def b2 (b : Bool) : Int32 := if b = true then 1 else 0
theorem b2_f {b : Bool} (h : b2 b = 0) : b = false := by cases b <;> first | rfl | exact absurd h (by decide)
theorem b2_t {b : Bool} (h : ¬ b2 b = 0) : b = true := by cases b <;> first | rfl | exact absurd rfl h
def noStage (y : Int32) : Bool := decide (y < 1) || !decide (y ≤ 6)
def noFood (f : Int32) : Bool := decide (f < 0) || !decide (f ≤ 40)
def noPeople (n : Nat) (x : Int32) : Bool := decide (x < 1) || !decide (x ≤ nI (2 ^ n - 1))
def noMarch (n : Nat) (x y f : Int32) : Bool := noPeople n x || (noStage y || noFood f)
def isOfv (o k : Int32) : Int32 := if k = 0 then 1 else if o = k then 1 else if k = 2 ∧ o = 4 then 1 else 0
def kindOfv (c : Int32) : Int32 := if c = 109 then 0 else if c = 112 then 1 else if c = 100 then 2 else if c = 98 then 3 else if c = 104 then 4 else -1
def nextSeedv (x : Int32) : Int32 := (1103515245 * x + 12345) &&& 2147483647
def bcv (x : Int32) : Int32 :=
  let t1 := x - ((x.toUInt32 >>> ((1 : Int32).toUInt32 &&& Int32.toUInt32 31)).toInt32 &&& 1431655765)
  let t2 := (t1 &&& 858993459) + ((t1.toUInt32 >>> ((2 : Int32).toUInt32 &&& Int32.toUInt32 31)).toInt32 &&& 858993459)
  let t3 := (t2 + (t2.toUInt32 >>> ((4 : Int32).toUInt32 &&& Int32.toUInt32 31)).toInt32) &&& 252645135
  let t4 := t3 + (t3.toUInt32 >>> ((8 : Int32).toUInt32 &&& Int32.toUInt32 31)).toInt32
  let t5 := t4 + (t4.toUInt32 >>> ((16 : Int32).toUInt32 &&& Int32.toUInt32 31)).toInt32
  t5 &&& 63
theorem atv_nI {N : Nat} {f : Nat → Int32} {j : Nat} (hj : j < N) (hN : N < 2 ^ 31) : atv N f (nI j) = f j := by
  unfold atv
  rw [if_neg (nI_pos (by omega)), if_neg (nI_ge hj hN), nI_clamp (by omega)]
theorem putv_nI {N : Nat} {f : Nat → Int32} {j : Nat} {v : Int32} (hj : j < N) (hN : N < 2 ^ 31) : putv N f (nI j) v = upd f j v := by
  unfold putv
  rw [if_neg (nI_pos (by omega)), if_neg (nI_ge hj hN), nI_clamp (by omega)]
theorem cpv_at {n1 n2 : Nat} {f1 f2 : Nat → Int32} (h1 : n1 < 2 ^ 31) (h2 : n2 < 2 ^ 31) : ∀ (j : Nat), j ≤ n1 → j ≤ n2 → ∀ k, cpv n1 f1 n2 f2 j k = if k < j then f1 k else f2 k
  | 0, _, _, k => by simp [cpv]
  | j + 1, ha, hb, k => by
    unfold cpv
    rw [putv_nI (by omega) h2, atv_nI (by omega) h1]
    unfold upd
    by_cases e : k = j
    · subst e; simp
    · rw [if_neg e, cpv_at h1 h2 j (by omega) (by omega) k]
      by_cases e2 : k < j
      · rw [if_pos e2, if_pos (by omega)]
      · rw [if_neg e2, if_neg (by omega)]
end
section
set_option maxHeartbeats 4000000 in
set_option maxRecDepth 100000 in
theorem c_at (l : Launch) (D : va_G) (cI : ClassId) (tt : Nat × Nat × Nat) (b N : Nat) (f : Nat → Int32) (k : Int32) (hN : N < 2 ^ 31) : MetI (S := Unit) l yX3_at cX3_at 2 (some .int) (rm 0 0) D cI tt [.ref b, .int k] [(b, .inl (cI, N, .inl f))] (fun r _ => r = atv N f k) (fun _ => [(b, .inl (cI, N, .inl f))]) := by
  refine met_ofI (by decide) (Nat.le_of_ble_eq_true rfl) ?_
  intro pP eE sS mM aV bB mE cC AA C hin
  refine z_conv (lv' := [(0, .ref b), (1, .int k)]) ⟨rfl, rfl, trivial⟩ rfl rfl ?_
  refine z_aload_n C (pc := 0) dX3_at_0 rfl ?_
  refine z_ifnull C (pc := 1) dX3_at_1 ?_
  refine z_iload_n C (pc := 4) dX3_at_4 rfl ?_
  refine z_if_lt C (pc := 5) (tgt := 20) dX3_at_5 (by decide) (fun c_1 => ?_) (fun c_1 => ?_)
  · refine z_iconst C (pc := 20) (v := 0) dX3_at_20 (by decide) ?_
    refine z_iret C (pc := 21) () dX3_at_21 ?_ rfl
    simp only [atv, reduceIte, c_1]
  · refine z_iload_n C (pc := 8) dX3_at_8 rfl ?_
    refine z_aload_n C (pc := 9) dX3_at_9 rfl ?_
    refine z_alen C (pc := 10) 0 rfl (v := (nI N)) rfl dX3_at_10 ?_
    refine z_icmp_ge C (pc := 11) (tgt := 20) dX3_at_11 (by decide) (fun c_2 => ?_) (fun c_2 => ?_)
    · refine z_iconst C (pc := 20) (v := 0) dX3_at_20 (by decide) ?_
      refine z_iret C (pc := 21) () dX3_at_21 ?_ rfl
      simp only [atv, reduceIte, c_1, c_2]
    · refine z_aload_n C (pc := 14) dX3_at_14 rfl ?_
      refine z_iload_n C (pc := 15) dX3_at_15 rfl ?_
      have h_3 : vp_in k N := by exact vp_of c_1 c_2 hN
      refine z_iald C (pc := 16) 0 rfl h_3 dX3_at_16 ?_
      refine z_goto C (pc := 17) (tgt := 21) dX3_at_17 (by decide) ?_
      refine z_iret C (pc := 21) () dX3_at_21 ?_ rfl
      simp only [atv, reduceIte, c_1, c_2]

set_option maxHeartbeats 4000000 in
set_option maxRecDepth 100000 in
theorem c_atP (l : Launch) (D : va_G) (cI : ClassId) (tt : Nat × Nat × Nat) (k : Int32) : MetI (S := Unit) l yX3_at cX3_at 2 (some .int) (rm 0 0) D cI tt [.ref tt.1, .int k] [] (fun r _ => r = atv 5 pullsV k) (fun _ => []) := by
  refine met_ofI (by decide) (Nat.le_of_ble_eq_true rfl) ?_
  intro pP eE sS mM aV bB mE cC AA C hin
  refine z_conv (lv' := [(0, .ref tt.1), (1, .int k)]) ⟨rfl, rfl, trivial⟩ rfl rfl ?_
  refine z_aload_n C (pc := 0) dX3_at_0 rfl ?_
  refine z_ifnull C (pc := 1) dX3_at_1 ?_
  refine z_iload_n C (pc := 4) dX3_at_4 rfl ?_
  refine z_if_lt C (pc := 5) (tgt := 20) dX3_at_5 (by decide) (fun c_1 => ?_) (fun c_1 => ?_)
  · refine z_iconst C (pc := 20) (v := 0) dX3_at_20 (by decide) ?_
    refine z_iret C (pc := 21) () dX3_at_21 ?_ rfl
    simp only [atv, reduceIte, c_1]
  · refine z_iload_n C (pc := 8) dX3_at_8 rfl ?_
    refine z_aload_n C (pc := 9) dX3_at_9 rfl ?_
    refine z_tlen C (pc := 10) C.2.2.2.2.2.2.2.1.1.2 (v := (nI 5)) rfl dX3_at_10 ?_
    refine z_icmp_ge C (pc := 11) (tgt := 20) dX3_at_11 (by decide) (fun c_2 => ?_) (fun c_2 => ?_)
    · refine z_iconst C (pc := 20) (v := 0) dX3_at_20 (by decide) ?_
      refine z_iret C (pc := 21) () dX3_at_21 ?_ rfl
      simp only [atv, reduceIte, c_1, c_2]
    · refine z_aload_n C (pc := 14) dX3_at_14 rfl ?_
      refine z_iload_n C (pc := 15) dX3_at_15 rfl ?_
      have h_3 : vp_in k 5 := by exact vp_of c_1 c_2 (by decide)
      refine z_tald C (pc := 16) C.2.2.2.2.2.2.2.1.1.2 h_3 (v := .int (pullsV k.toNatClampNeg)) rfl dX3_at_16 ?_
      refine z_goto C (pc := 17) (tgt := 21) dX3_at_17 (by decide) ?_
      refine z_iret C (pc := 21) () dX3_at_21 ?_ rfl
      simp only [atv, reduceIte, c_1, c_2]

set_option maxHeartbeats 4000000 in
set_option maxRecDepth 100000 in
theorem c_atE (l : Launch) (D : va_G) (cI : ClassId) (tt : Nat × Nat × Nat) (k : Int32) : MetI (S := Unit) l yX3_at cX3_at 2 (some .int) (rm 0 0) D cI tt [.ref tt.2.1, .int k] [] (fun r _ => r = atv 5 eatsV k) (fun _ => []) := by
  refine met_ofI (by decide) (Nat.le_of_ble_eq_true rfl) ?_
  intro pP eE sS mM aV bB mE cC AA C hin
  refine z_conv (lv' := [(0, .ref tt.2.1), (1, .int k)]) ⟨rfl, rfl, trivial⟩ rfl rfl ?_
  refine z_aload_n C (pc := 0) dX3_at_0 rfl ?_
  refine z_ifnull C (pc := 1) dX3_at_1 ?_
  refine z_iload_n C (pc := 4) dX3_at_4 rfl ?_
  refine z_if_lt C (pc := 5) (tgt := 20) dX3_at_5 (by decide) (fun c_1 => ?_) (fun c_1 => ?_)
  · refine z_iconst C (pc := 20) (v := 0) dX3_at_20 (by decide) ?_
    refine z_iret C (pc := 21) () dX3_at_21 ?_ rfl
    simp only [atv, reduceIte, c_1]
  · refine z_iload_n C (pc := 8) dX3_at_8 rfl ?_
    refine z_aload_n C (pc := 9) dX3_at_9 rfl ?_
    refine z_tlen C (pc := 10) C.2.2.2.2.2.2.2.1.2.1.2 (v := (nI 5)) rfl dX3_at_10 ?_
    refine z_icmp_ge C (pc := 11) (tgt := 20) dX3_at_11 (by decide) (fun c_2 => ?_) (fun c_2 => ?_)
    · refine z_iconst C (pc := 20) (v := 0) dX3_at_20 (by decide) ?_
      refine z_iret C (pc := 21) () dX3_at_21 ?_ rfl
      simp only [atv, reduceIte, c_1, c_2]
    · refine z_aload_n C (pc := 14) dX3_at_14 rfl ?_
      refine z_iload_n C (pc := 15) dX3_at_15 rfl ?_
      have h_3 : vp_in k 5 := by exact vp_of c_1 c_2 (by decide)
      refine z_tald C (pc := 16) C.2.2.2.2.2.2.2.1.2.1.2 h_3 (v := .int (eatsV k.toNatClampNeg)) rfl dX3_at_16 ?_
      refine z_goto C (pc := 17) (tgt := 21) dX3_at_17 (by decide) ?_
      refine z_iret C (pc := 21) () dX3_at_21 ?_ rfl
      simp only [atv, reduceIte, c_1, c_2]

set_option maxHeartbeats 4000000 in
set_option maxRecDepth 100000 in
theorem c_atF (l : Launch) (D : va_G) (cI : ClassId) (tt : Nat × Nat × Nat) (k : Int32) : MetI (S := Unit) l yX3_at cX3_at 2 (some .int) (rm 0 0) D cI tt [.ref tt.2.2, .int k] [] (fun r _ => r = atv 5 feedsV k) (fun _ => []) := by
  refine met_ofI (by decide) (Nat.le_of_ble_eq_true rfl) ?_
  intro pP eE sS mM aV bB mE cC AA C hin
  refine z_conv (lv' := [(0, .ref tt.2.2), (1, .int k)]) ⟨rfl, rfl, trivial⟩ rfl rfl ?_
  refine z_aload_n C (pc := 0) dX3_at_0 rfl ?_
  refine z_ifnull C (pc := 1) dX3_at_1 ?_
  refine z_iload_n C (pc := 4) dX3_at_4 rfl ?_
  refine z_if_lt C (pc := 5) (tgt := 20) dX3_at_5 (by decide) (fun c_1 => ?_) (fun c_1 => ?_)
  · refine z_iconst C (pc := 20) (v := 0) dX3_at_20 (by decide) ?_
    refine z_iret C (pc := 21) () dX3_at_21 ?_ rfl
    simp only [atv, reduceIte, c_1]
  · refine z_iload_n C (pc := 8) dX3_at_8 rfl ?_
    refine z_aload_n C (pc := 9) dX3_at_9 rfl ?_
    refine z_tlen C (pc := 10) C.2.2.2.2.2.2.2.1.2.2.2 (v := (nI 5)) rfl dX3_at_10 ?_
    refine z_icmp_ge C (pc := 11) (tgt := 20) dX3_at_11 (by decide) (fun c_2 => ?_) (fun c_2 => ?_)
    · refine z_iconst C (pc := 20) (v := 0) dX3_at_20 (by decide) ?_
      refine z_iret C (pc := 21) () dX3_at_21 ?_ rfl
      simp only [atv, reduceIte, c_1, c_2]
    · refine z_aload_n C (pc := 14) dX3_at_14 rfl ?_
      refine z_iload_n C (pc := 15) dX3_at_15 rfl ?_
      have h_3 : vp_in k 5 := by exact vp_of c_1 c_2 (by decide)
      refine z_tald C (pc := 16) C.2.2.2.2.2.2.2.1.2.2.2 h_3 (v := .int (feedsV k.toNatClampNeg)) rfl dX3_at_16 ?_
      refine z_goto C (pc := 17) (tgt := 21) dX3_at_17 (by decide) ?_
      refine z_iret C (pc := 21) () dX3_at_21 ?_ rfl
      simp only [atv, reduceIte, c_1, c_2]

set_option maxHeartbeats 4000000 in
set_option maxRecDepth 100000 in
theorem c_put (l : Launch) (D : va_G) (cI : ClassId) (tt : Nat × Nat × Nat) (b N : Nat) (f : Nat → Int32) (k v : Int32) (hN : N < 2 ^ 31) : MetV (S := (Nat → Int32)) l yX3_put cX3_put 3 none (rm 0 0) D cI tt [.ref b, .int k, .int v] [(b, .inl (cI, N, .inl f))] (fun g => g = putv N f k v) (fun g => [(b, .inl (cI, N, .inl g))]) := by
  refine met_ofV (by decide) (Nat.le_of_ble_eq_true rfl) ?_
  intro pP eE sS mM aV bB mE cC AA C hin
  refine z_conv (lv' := [(0, .ref b), (1, .int k), (2, .int v)]) ⟨rfl, rfl, rfl, trivial⟩ rfl rfl ?_
  refine z_aload_n C (pc := 0) dX3_put_0 rfl ?_
  refine z_ifnull C (pc := 1) dX3_put_1 ?_
  refine z_iload_n C (pc := 4) dX3_put_4 rfl ?_
  refine z_if_lt C (pc := 5) (tgt := 18) dX3_put_5 (by decide) (fun c_1 => ?_) (fun c_1 => ?_)
  · refine z_vret C (pc := 18) f dX3_put_18 ?_ rfl
    simp only [putv, reduceIte, c_1]
  · refine z_iload_n C (pc := 8) dX3_put_8 rfl ?_
    refine z_aload_n C (pc := 9) dX3_put_9 rfl ?_
    refine z_alen C (pc := 10) 0 rfl (v := (nI N)) rfl dX3_put_10 ?_
    refine z_icmp_ge C (pc := 11) (tgt := 18) dX3_put_11 (by decide) (fun c_2 => ?_) (fun c_2 => ?_)
    · refine z_vret C (pc := 18) f dX3_put_18 ?_ rfl
      simp only [putv, reduceIte, c_1, c_2]
    · refine z_aload_n C (pc := 14) dX3_put_14 rfl ?_
      refine z_iload_n C (pc := 15) dX3_put_15 rfl ?_
      refine z_iload_n C (pc := 16) dX3_put_16 rfl ?_
      have h_3 : vp_in k N := by exact vp_of c_1 c_2 hN
      refine z_iast C (pc := 17) 0 rfl h_3 (ws' := [(b, .inl (cI, N, .inl (upd f k.toNatClampNeg v)))]) rfl dX3_put_17 ?_
      refine z_vret C (pc := 18) (upd f k.toNatClampNeg v) dX3_put_18 ?_ rfl
      simp only [putv, reduceIte, c_1, c_2]

set_option maxHeartbeats 4000000 in
set_option maxRecDepth 100000 in
theorem c_isOf (l : Launch) (D : va_G) (cI : ClassId) (tt : Nat × Nat × Nat) (o k : Int32) : MetI (S := Unit) l yX3_isOf cX3_isOf 2 (some .boolean) (rm 0 0) D cI tt [.int o, .int k] [] (fun r _ => r = isOfv o k) (fun _ => []) := by
  refine met_ofI (by decide) (Nat.le_of_ble_eq_true rfl) ?_
  intro pP eE sS mM aV bB mE cC AA C hin
  refine z_conv (lv' := [(0, .int o), (1, .int k)]) ⟨rfl, rfl, trivial⟩ rfl rfl ?_
  refine z_iload_n C (pc := 0) dX3_isOf_0 rfl ?_
  refine z_if_eq C (pc := 1) (tgt := 19) dX3_isOf_1 (by decide) (fun c_1 => ?_) (fun c_1 => ?_)
  · refine z_iconst C (pc := 19) (v := 1) dX3_isOf_19 (by decide) ?_
    refine z_goto C (pc := 20) (tgt := 24) dX3_isOf_20 (by decide) ?_
    refine z_zret C (pc := 24) () dX3_isOf_24 rfl ?_ rfl
    simp_all [isOfv]
  · refine z_iload_n C (pc := 4) dX3_isOf_4 rfl ?_
    refine z_iload_n C (pc := 5) dX3_isOf_5 rfl ?_
    refine z_icmp_eq C (pc := 6) (tgt := 19) dX3_isOf_6 (by decide) (fun c_2 => ?_) (fun c_2 => ?_)
    · refine z_iconst C (pc := 19) (v := 1) dX3_isOf_19 (by decide) ?_
      refine z_goto C (pc := 20) (tgt := 24) dX3_isOf_20 (by decide) ?_
      refine z_zret C (pc := 24) () dX3_isOf_24 rfl ?_ rfl
      simp_all [isOfv]
    · refine z_iload_n C (pc := 9) dX3_isOf_9 rfl ?_
      refine z_iconst C (pc := 10) (v := 2) dX3_isOf_10 (by decide) ?_
      refine z_icmp_ne C (pc := 11) (tgt := 23) dX3_isOf_11 (by decide) (fun c_3 => ?_) (fun c_3 => ?_)
      · refine z_iconst C (pc := 23) (v := 0) dX3_isOf_23 (by decide) ?_
        refine z_zret C (pc := 24) () dX3_isOf_24 rfl ?_ rfl
        simp_all [isOfv]
      · refine z_iload_n C (pc := 14) dX3_isOf_14 rfl ?_
        refine z_iconst C (pc := 15) (v := 4) dX3_isOf_15 (by decide) ?_
        refine z_icmp_ne C (pc := 16) (tgt := 23) dX3_isOf_16 (by decide) (fun c_4 => ?_) (fun c_4 => ?_)
        · refine z_iconst C (pc := 23) (v := 0) dX3_isOf_23 (by decide) ?_
          refine z_zret C (pc := 24) () dX3_isOf_24 rfl ?_ rfl
          simp_all [isOfv]
        · refine z_iconst C (pc := 19) (v := 1) dX3_isOf_19 (by decide) ?_
          refine z_goto C (pc := 20) (tgt := 24) dX3_isOf_20 (by decide) ?_
          refine z_zret C (pc := 24) () dX3_isOf_24 rfl ?_ rfl
          simp_all [isOfv]

set_option maxHeartbeats 4000000 in
set_option maxRecDepth 100000 in
theorem c_nextSeed (l : Launch) (D : va_G) (cI : ClassId) (tt : Nat × Nat × Nat) (x : Int32) : MetI (S := Unit) l yX3_nextSeed cX3_nextSeed 1 (some .int) (rm 0 0) D cI tt [.int x] [] (fun r _ => r = nextSeedv x) (fun _ => []) := by
  refine met_ofI (by decide) (Nat.le_of_ble_eq_true rfl) ?_
  intro pP eE sS mM aV bB mE cC AA C hin
  refine z_conv (lv' := [(0, .int x)]) ⟨rfl, trivial⟩ rfl rfl ?_
  refine z_ldc C (pc := 0) (v := 1103515245) wl_X3_242 dX3_nextSeed_0 ?_
  refine z_iload_n C (pc := 2) dX3_nextSeed_2 rfl ?_
  refine z_imul C (pc := 3) dX3_nextSeed_3 ?_
  refine z_sipush C (pc := 4) (v := 12345) dX3_nextSeed_4 (by decide) ?_
  refine z_iadd C (pc := 7) dX3_nextSeed_7 ?_
  refine z_ldc C (pc := 8) (v := 2147483647) wl_X3_243 dX3_nextSeed_8 ?_
  refine z_iand C (pc := 10) dX3_nextSeed_10 ?_
  refine z_iret C (pc := 11) () dX3_nextSeed_11 ?_ rfl
  rfl

set_option maxHeartbeats 4000000 in
set_option maxRecDepth 100000 in
theorem c_isNoStage (l : Launch) (D : va_G) (cI : ClassId) (tt : Nat × Nat × Nat) (x : Int32) : MetI (S := Unit) l yX3_isNoStage cX3_isNoStage 1 (some .boolean) (rm 0 0) D cI tt [.int x] [] (fun q _ => q = b2 (noStage x)) (fun _ => []) := by
  refine met_ofI (by decide) (Nat.le_of_ble_eq_true rfl) ?_
  intro pP eE sS mM aV bB mE cC AA C hin
  refine z_conv (lv' := [(0, .int x)]) ⟨rfl, trivial⟩ rfl rfl ?_
  refine z_iload_n C (pc := 0) dX3_isNoStage_0 rfl ?_
  refine z_iconst C (pc := 1) (v := 1) dX3_isNoStage_1 (by decide) ?_
  refine z_icmp_lt C (pc := 2) (tgt := 11) dX3_isNoStage_2 (by decide) (fun c_1 => ?_) (fun c_1 => ?_)
  · refine z_iconst C (pc := 11) (v := 1) dX3_isNoStage_11 (by decide) ?_
    refine z_goto C (pc := 12) (tgt := 16) dX3_isNoStage_12 (by decide) ?_
    refine z_zret C (pc := 16) () dX3_isNoStage_16 rfl ?_ rfl
    simp [b2, noStage, c_1]
  · refine z_iload_n C (pc := 5) dX3_isNoStage_5 rfl ?_
    refine z_bipush C (pc := 6) (v := 6) dX3_isNoStage_6 (by decide) ?_
    refine z_icmp_le C (pc := 8) (tgt := 15) dX3_isNoStage_8 (by decide) (fun c_2 => ?_) (fun c_2 => ?_)
    · refine z_iconst C (pc := 15) (v := 0) dX3_isNoStage_15 (by decide) ?_
      refine z_zret C (pc := 16) () dX3_isNoStage_16 rfl ?_ rfl
      simp [b2, noStage, c_1, c_2]
    · refine z_iconst C (pc := 11) (v := 1) dX3_isNoStage_11 (by decide) ?_
      refine z_goto C (pc := 12) (tgt := 16) dX3_isNoStage_12 (by decide) ?_
      refine z_zret C (pc := 16) () dX3_isNoStage_16 rfl ?_ rfl
      simp [b2, noStage, c_1, c_2]
end
section
set_option maxHeartbeats 4000000 in
set_option maxRecDepth 100000 in
theorem c_kindOf (l : Launch) (D : va_G) (cI : ClassId) (tt : Nat × Nat × Nat) (x : Int32) : MetI (S := Unit) l yX3_kindOf cX3_kindOf 1 (some .int) (rm 0 0) D cI tt [.int x] [] (fun r _ => r = kindOfv x) (fun _ => []) := by
  refine met_ofI (by decide) (Nat.le_of_ble_eq_true rfl) ?_
  intro pP eE sS mM aV bB mE cC AA C hin
  refine z_conv (lv' := [(0, .int x)]) ⟨rfl, trivial⟩ rfl rfl ?_
  refine z_iload_n C (pc := 0) dX3_kindOf_0 rfl ?_
  by_cases c_1 : x = 98
  · refine z_tableIn C (pc := 1) (tgt := 82) (off := 81) dX3_kindOf_1 (by rw [c_1]; decide) (by rw [c_1]; decide) (by rw [c_1]; rfl) (by decide) ?_
    refine z_iconst C (pc := 82) (v := 3) dX3_kindOf_82 (by decide) ?_
    refine z_iret C (pc := 83) () dX3_kindOf_83 ?_ rfl
    first | (simp_all [kindOfv]; done) | (rw [c_1]; rfl)
  by_cases c_2 : x = 99
  · refine z_tableIn C (pc := 1) (tgt := 86) (off := 85) dX3_kindOf_1 (by rw [c_2]; decide) (by rw [c_2]; decide) (by rw [c_2]; rfl) (by decide) ?_
    refine z_iconst C (pc := 86) (v := (-1)) dX3_kindOf_86 (by decide) ?_
    refine z_iret C (pc := 87) () dX3_kindOf_87 ?_ rfl
    first | (simp_all [kindOfv]; done) | (rw [c_2]; rfl)
  by_cases c_3 : x = 100
  · refine z_tableIn C (pc := 1) (tgt := 80) (off := 79) dX3_kindOf_1 (by rw [c_3]; decide) (by rw [c_3]; decide) (by rw [c_3]; rfl) (by decide) ?_
    refine z_iconst C (pc := 80) (v := 2) dX3_kindOf_80 (by decide) ?_
    refine z_iret C (pc := 81) () dX3_kindOf_81 ?_ rfl
    first | (simp_all [kindOfv]; done) | (rw [c_3]; rfl)
  by_cases c_4 : x = 101
  · refine z_tableIn C (pc := 1) (tgt := 86) (off := 85) dX3_kindOf_1 (by rw [c_4]; decide) (by rw [c_4]; decide) (by rw [c_4]; rfl) (by decide) ?_
    refine z_iconst C (pc := 86) (v := (-1)) dX3_kindOf_86 (by decide) ?_
    refine z_iret C (pc := 87) () dX3_kindOf_87 ?_ rfl
    first | (simp_all [kindOfv]; done) | (rw [c_4]; rfl)
  by_cases c_5 : x = 102
  · refine z_tableIn C (pc := 1) (tgt := 86) (off := 85) dX3_kindOf_1 (by rw [c_5]; decide) (by rw [c_5]; decide) (by rw [c_5]; rfl) (by decide) ?_
    refine z_iconst C (pc := 86) (v := (-1)) dX3_kindOf_86 (by decide) ?_
    refine z_iret C (pc := 87) () dX3_kindOf_87 ?_ rfl
    first | (simp_all [kindOfv]; done) | (rw [c_5]; rfl)
  by_cases c_6 : x = 103
  · refine z_tableIn C (pc := 1) (tgt := 86) (off := 85) dX3_kindOf_1 (by rw [c_6]; decide) (by rw [c_6]; decide) (by rw [c_6]; rfl) (by decide) ?_
    refine z_iconst C (pc := 86) (v := (-1)) dX3_kindOf_86 (by decide) ?_
    refine z_iret C (pc := 87) () dX3_kindOf_87 ?_ rfl
    first | (simp_all [kindOfv]; done) | (rw [c_6]; rfl)
  by_cases c_7 : x = 104
  · refine z_tableIn C (pc := 1) (tgt := 84) (off := 83) dX3_kindOf_1 (by rw [c_7]; decide) (by rw [c_7]; decide) (by rw [c_7]; rfl) (by decide) ?_
    refine z_iconst C (pc := 84) (v := 4) dX3_kindOf_84 (by decide) ?_
    refine z_iret C (pc := 85) () dX3_kindOf_85 ?_ rfl
    first | (simp_all [kindOfv]; done) | (rw [c_7]; rfl)
  by_cases c_8 : x = 105
  · refine z_tableIn C (pc := 1) (tgt := 86) (off := 85) dX3_kindOf_1 (by rw [c_8]; decide) (by rw [c_8]; decide) (by rw [c_8]; rfl) (by decide) ?_
    refine z_iconst C (pc := 86) (v := (-1)) dX3_kindOf_86 (by decide) ?_
    refine z_iret C (pc := 87) () dX3_kindOf_87 ?_ rfl
    first | (simp_all [kindOfv]; done) | (rw [c_8]; rfl)
  by_cases c_9 : x = 106
  · refine z_tableIn C (pc := 1) (tgt := 86) (off := 85) dX3_kindOf_1 (by rw [c_9]; decide) (by rw [c_9]; decide) (by rw [c_9]; rfl) (by decide) ?_
    refine z_iconst C (pc := 86) (v := (-1)) dX3_kindOf_86 (by decide) ?_
    refine z_iret C (pc := 87) () dX3_kindOf_87 ?_ rfl
    first | (simp_all [kindOfv]; done) | (rw [c_9]; rfl)
  by_cases c_10 : x = 107
  · refine z_tableIn C (pc := 1) (tgt := 86) (off := 85) dX3_kindOf_1 (by rw [c_10]; decide) (by rw [c_10]; decide) (by rw [c_10]; rfl) (by decide) ?_
    refine z_iconst C (pc := 86) (v := (-1)) dX3_kindOf_86 (by decide) ?_
    refine z_iret C (pc := 87) () dX3_kindOf_87 ?_ rfl
    first | (simp_all [kindOfv]; done) | (rw [c_10]; rfl)
  by_cases c_11 : x = 108
  · refine z_tableIn C (pc := 1) (tgt := 86) (off := 85) dX3_kindOf_1 (by rw [c_11]; decide) (by rw [c_11]; decide) (by rw [c_11]; rfl) (by decide) ?_
    refine z_iconst C (pc := 86) (v := (-1)) dX3_kindOf_86 (by decide) ?_
    refine z_iret C (pc := 87) () dX3_kindOf_87 ?_ rfl
    first | (simp_all [kindOfv]; done) | (rw [c_11]; rfl)
  by_cases c_12 : x = 109
  · refine z_tableIn C (pc := 1) (tgt := 76) (off := 75) dX3_kindOf_1 (by rw [c_12]; decide) (by rw [c_12]; decide) (by rw [c_12]; rfl) (by decide) ?_
    refine z_iconst C (pc := 76) (v := 0) dX3_kindOf_76 (by decide) ?_
    refine z_iret C (pc := 77) () dX3_kindOf_77 ?_ rfl
    first | (simp_all [kindOfv]; done) | (rw [c_12]; rfl)
  by_cases c_13 : x = 110
  · refine z_tableIn C (pc := 1) (tgt := 86) (off := 85) dX3_kindOf_1 (by rw [c_13]; decide) (by rw [c_13]; decide) (by rw [c_13]; rfl) (by decide) ?_
    refine z_iconst C (pc := 86) (v := (-1)) dX3_kindOf_86 (by decide) ?_
    refine z_iret C (pc := 87) () dX3_kindOf_87 ?_ rfl
    first | (simp_all [kindOfv]; done) | (rw [c_13]; rfl)
  by_cases c_14 : x = 111
  · refine z_tableIn C (pc := 1) (tgt := 86) (off := 85) dX3_kindOf_1 (by rw [c_14]; decide) (by rw [c_14]; decide) (by rw [c_14]; rfl) (by decide) ?_
    refine z_iconst C (pc := 86) (v := (-1)) dX3_kindOf_86 (by decide) ?_
    refine z_iret C (pc := 87) () dX3_kindOf_87 ?_ rfl
    first | (simp_all [kindOfv]; done) | (rw [c_14]; rfl)
  by_cases c_15 : x = 112
  · refine z_tableIn C (pc := 1) (tgt := 78) (off := 77) dX3_kindOf_1 (by rw [c_15]; decide) (by rw [c_15]; decide) (by rw [c_15]; rfl) (by decide) ?_
    refine z_iconst C (pc := 78) (v := 1) dX3_kindOf_78 (by decide) ?_
    refine z_iret C (pc := 79) () dX3_kindOf_79 ?_ rfl
    first | (simp_all [kindOfv]; done) | (rw [c_15]; rfl)
  refine z_tableOut C (pc := 1) (tgt := 86) dX3_kindOf_1 (by have q0 := lv_neT c_1 (a := 98) rfl; have q1 := lv_neT c_2 (a := 99) rfl; have q2 := lv_neT c_3 (a := 100) rfl; have q3 := lv_neT c_4 (a := 101) rfl; have q4 := lv_neT c_5 (a := 102) rfl; have q5 := lv_neT c_6 (a := 103) rfl; have q6 := lv_neT c_7 (a := 104) rfl; have q7 := lv_neT c_8 (a := 105) rfl; have q8 := lv_neT c_9 (a := 106) rfl; have q9 := lv_neT c_10 (a := 107) rfl; have q10 := lv_neT c_11 (a := 108) rfl; have q11 := lv_neT c_12 (a := 109) rfl; have q12 := lv_neT c_13 (a := 110) rfl; have q13 := lv_neT c_14 (a := 111) rfl; have q14 := lv_neT c_15 (a := 112) rfl; omega) (by decide) ?_
  refine z_iconst C (pc := 86) (v := (-1)) dX3_kindOf_86 (by decide) ?_
  refine z_iret C (pc := 87) () dX3_kindOf_87 ?_ rfl
  first | (simp_all [kindOfv]; done) | (rw [c_15]; rfl)

set_option maxHeartbeats 4000000 in
set_option maxRecDepth 100000 in
theorem c_bitCount (l : Launch) (D : va_G) (cI : ClassId) (tt : Nat × Nat × Nat) (x : Int32) : MetI (S := Unit) l yJ6_bitCount_0f7a4 cJ6_bitCount_0f7a4 1 (some .int) (rm 0 0) D cI tt [.int x] [] (fun r _ => r = bcv x) (fun _ => []) := by
  refine met_ofI (by decide) (Nat.le_of_ble_eq_true rfl) ?_
  intro pP eE sS mM aV bB mE cC AA C hin
  refine z_conv (lv' := [(0, .int x)]) ⟨rfl, trivial⟩ rfl rfl ?_
  refine z_iload_n C (pc := 0) dJ6_bitCount_0f7a4_0 rfl ?_
  refine z_iload_n C (pc := 1) dJ6_bitCount_0f7a4_1 rfl ?_
  refine z_iconst C (pc := 2) (v := 1) dJ6_bitCount_0f7a4_2 (by decide) ?_
  refine z_iushr C (pc := 3) (v := ((x).toUInt32 >>> ((1 : Int32).toUInt32 &&& Int32.toUInt32 31)).toInt32) dJ6_bitCount_0f7a4_3 rfl ?_
  refine z_ldcw C (pc := 4) (v := 1431655765) wl_J6_265 dJ6_bitCount_0f7a4_4 ?_
  refine z_iand C (pc := 7) dJ6_bitCount_0f7a4_7 ?_
  refine z_isub C (pc := 8) dJ6_bitCount_0f7a4_8 ?_
  refine z_topi (fun t_1 et_1 => ?_)
  refine z_istore_n C (pc := 9) (lv' := [(0, .int t_1)]) dJ6_bitCount_0f7a4_9 (Nat.le_of_ble_eq_true rfl) rfl rfl ?_
  refine z_iload_n C (pc := 10) dJ6_bitCount_0f7a4_10 rfl ?_
  refine z_ldcw C (pc := 11) (v := 858993459) wl_J6_266 dJ6_bitCount_0f7a4_11 ?_
  refine z_iand C (pc := 14) dJ6_bitCount_0f7a4_14 ?_
  refine z_iload_n C (pc := 15) dJ6_bitCount_0f7a4_15 rfl ?_
  refine z_iconst C (pc := 16) (v := 2) dJ6_bitCount_0f7a4_16 (by decide) ?_
  refine z_iushr C (pc := 17) (v := ((t_1).toUInt32 >>> ((2 : Int32).toUInt32 &&& Int32.toUInt32 31)).toInt32) dJ6_bitCount_0f7a4_17 rfl ?_
  refine z_ldcw C (pc := 18) (v := 858993459) wl_J6_266 dJ6_bitCount_0f7a4_18 ?_
  refine z_iand C (pc := 21) dJ6_bitCount_0f7a4_21 ?_
  refine z_iadd C (pc := 22) dJ6_bitCount_0f7a4_22 ?_
  refine z_topi (fun t_2 et_2 => ?_)
  refine z_istore_n C (pc := 23) (lv' := [(0, .int t_2)]) dJ6_bitCount_0f7a4_23 (Nat.le_of_ble_eq_true rfl) rfl rfl ?_
  refine z_iload_n C (pc := 24) dJ6_bitCount_0f7a4_24 rfl ?_
  refine z_iload_n C (pc := 25) dJ6_bitCount_0f7a4_25 rfl ?_
  refine z_iconst C (pc := 26) (v := 4) dJ6_bitCount_0f7a4_26 (by decide) ?_
  refine z_iushr C (pc := 27) (v := ((t_2).toUInt32 >>> ((4 : Int32).toUInt32 &&& Int32.toUInt32 31)).toInt32) dJ6_bitCount_0f7a4_27 rfl ?_
  refine z_iadd C (pc := 28) dJ6_bitCount_0f7a4_28 ?_
  refine z_ldcw C (pc := 29) (v := 252645135) wl_J6_267 dJ6_bitCount_0f7a4_29 ?_
  refine z_iand C (pc := 32) dJ6_bitCount_0f7a4_32 ?_
  refine z_topi (fun t_3 et_3 => ?_)
  refine z_istore_n C (pc := 33) (lv' := [(0, .int t_3)]) dJ6_bitCount_0f7a4_33 (Nat.le_of_ble_eq_true rfl) rfl rfl ?_
  refine z_iload_n C (pc := 34) dJ6_bitCount_0f7a4_34 rfl ?_
  refine z_iload_n C (pc := 35) dJ6_bitCount_0f7a4_35 rfl ?_
  refine z_bipush C (pc := 36) (v := 8) dJ6_bitCount_0f7a4_36 (by decide) ?_
  refine z_iushr C (pc := 38) (v := ((t_3).toUInt32 >>> ((8 : Int32).toUInt32 &&& Int32.toUInt32 31)).toInt32) dJ6_bitCount_0f7a4_38 rfl ?_
  refine z_iadd C (pc := 39) dJ6_bitCount_0f7a4_39 ?_
  refine z_topi (fun t_4 et_4 => ?_)
  refine z_istore_n C (pc := 40) (lv' := [(0, .int t_4)]) dJ6_bitCount_0f7a4_40 (Nat.le_of_ble_eq_true rfl) rfl rfl ?_
  refine z_iload_n C (pc := 41) dJ6_bitCount_0f7a4_41 rfl ?_
  refine z_iload_n C (pc := 42) dJ6_bitCount_0f7a4_42 rfl ?_
  refine z_bipush C (pc := 43) (v := 16) dJ6_bitCount_0f7a4_43 (by decide) ?_
  refine z_iushr C (pc := 45) (v := ((t_4).toUInt32 >>> ((16 : Int32).toUInt32 &&& Int32.toUInt32 31)).toInt32) dJ6_bitCount_0f7a4_45 rfl ?_
  refine z_iadd C (pc := 46) dJ6_bitCount_0f7a4_46 ?_
  refine z_topi (fun t_5 et_5 => ?_)
  refine z_istore_n C (pc := 47) (lv' := [(0, .int t_5)]) dJ6_bitCount_0f7a4_47 (Nat.le_of_ble_eq_true rfl) rfl rfl ?_
  refine z_iload_n C (pc := 48) dJ6_bitCount_0f7a4_48 rfl ?_
  refine z_bipush C (pc := 49) (v := 63) dJ6_bitCount_0f7a4_49 (by decide) ?_
  refine z_iand C (pc := 51) dJ6_bitCount_0f7a4_51 ?_
  refine z_iret C (pc := 52) () dJ6_bitCount_0f7a4_52 ?_ rfl
  subst_vars; rfl

set_option maxHeartbeats 4000000 in
set_option maxRecDepth 100000 in
theorem c_copy (l : Launch) (D : va_G) (cI : ClassId) (tt : Nat × Nat × Nat) (b1 n1 b2 n2 : Nat) (f1 f2 : Nat → Int32) (h1 : n1 < 2 ^ 31) (h2 : n2 < 2 ^ 31) : MetV (S := (Nat → Int32)) l yX3_copy cX3_copy 3 none (rm 1 22) D cI tt [.ref b1, .ref b2] [(b1, .inl (cI, n1, .inl f1)), (b2, .inl (cI, n2, .inl f2))] (fun g => g = cpv n1 f1 n2 f2 n2) (fun g => [(b1, .inl (cI, n1, .inl f1)), (b2, .inl (cI, n2, .inl g))]) := by
  refine met_ofV (by decide) (Nat.le_of_ble_eq_true rfl) ?_
  intro pP eE sS mM aV bB mE cC AA C hin
  refine z_conv (lv' := [(0, .ref b1), (1, .ref b2)]) ⟨rfl, rfl, trivial⟩ rfl rfl ?_
  refine z_iconst C (pc := 0) (v := 0) dX3_copy_0 (by decide) ?_
  refine z_istore_n C (pc := 1) (lv' := [(0, .ref b1), (1, .ref b2), (2, .int 0)]) dX3_copy_1 (Nat.le_of_ble_eq_true rfl) rfl rfl ?_
  have key : ∀ (fu j : Nat), j ≤ n2 → n2 < j + fu → Z pP l eE (rm 1 22) sS mM aV bB mE cC D AA 3 0 0 (MQ bB (va_Qv (S := (Nat → Int32)) (fun g => g = cpv n1 f1 n2 f2 n2) (fun u t => va_P D vwCl ((fun g => [(b1, .inl (cI, n1, .inl f1)), (b2, .inl (cI, n2, .inl g))]) u) t.heap) AA) aV sS 0 0 AA) 2 [(0, .ref b1), (1, .ref b2), (2, .int (nI j))] [] [(b1, .inl (cI, n1, .inl f1)), (b2, .inl (cI, n2, .inl (cpv n1 f1 n2 f2 j)))] := by
    intro fu
    induction fu with
    | zero => intro j h1 h2; exact absurd h2 (by omega)
    | succ fu ih =>
      intro j g1 g2
      refine z_aload_n C (pc := 2) dX3_copy_2 rfl ?_
      refine z_ifnull C (pc := 3) dX3_copy_3 ?_
      refine z_iload_n C (pc := 6) dX3_copy_6 rfl ?_
      refine z_aload_n C (pc := 7) dX3_copy_7 rfl ?_
      refine z_alen C (pc := 8) 1 rfl (v := (nI n2)) rfl dX3_copy_8 ?_
      refine z_icmp_ge C (pc := 9) (tgt := 28) dX3_copy_9 (by decide) (fun c_1 => ?_) (fun c_1 => ?_)
      · refine z_vret C (pc := 28) (cpv n1 f1 n2 f2 j) dX3_copy_28 ?_ rfl
        have : j = n2 := by
          rcases Nat.lt_or_ge j n2 with q | q
          · exact absurd c_1 (nI_ge q h2)
          · omega
        subst this; rfl
      · have hj : j < n2 := by
          rcases Nat.lt_or_ge j n2 with q | q
          · exact q
          · exact absurd (nI_le q (by omega)) c_1
        refine z_aload_n C (pc := 12) dX3_copy_12 rfl ?_
        refine z_iload_n C (pc := 13) dX3_copy_13 rfl ?_
        refine z_aload_n C (pc := 14) dX3_copy_14 rfl ?_
        refine z_iload_n C (pc := 15) dX3_copy_15 rfl ?_
        refine z_calli C (isC := [0]) rfl (by exact fun _ => rfl) (runS C (wc := [(b1, .inl (cI, n1, .inl f1))]) (pc := 16) (rY' := rm 0 0) (nn := 2) (As := [.ref b1, .int (nI j)]) (rest := [.int (nI j), .ref b2]) (c_at l D cI tt b1 n1 f1 (nI j) h1) rfl rfl ⟨rfl, rfl, ⟨Nat.le_of_ble_eq_true rfl, Nat.le_of_ble_eq_true rfl⟩, Nat.le_of_ble_eq_true rfl, Nat.le_of_ble_eq_true rfl⟩ wl_X3_87 ws_X3_at wi_X3 wc_X3_at (by decide +kernel) rfl rfl (Nat.le_of_ble_eq_true rfl) dX3_copy_16) (fun r_2 u_2 h_2 => ?_)
        refine z_ws (st' := [.int r_2, .int (nI j), .ref b2]) (ws' := [(b1, .inl (cI, n1, .inl f1)), (b2, .inl (cI, n2, .inl (cpv n1 f1 n2 f2 j)))]) rfl rfl ?_
        refine z_callv C (isC := [1]) rfl (by exact fun _ => rfl) (runS C (wc := [(b2, .inl (cI, n2, .inl (cpv n1 f1 n2 f2 j)))]) (pc := 19) (rY' := rm 0 0) (nn := 3) (As := [.ref b2, .int (nI j), .int r_2]) (rest := []) (c_put l D cI tt b2 n2 (cpv n1 f1 n2 f2 j) (nI j) r_2 h2) rfl rfl ⟨rfl, rfl, ⟨Nat.le_of_ble_eq_true rfl, Nat.le_of_ble_eq_true rfl⟩, Nat.le_of_ble_eq_true rfl, Nat.le_of_ble_eq_true rfl⟩ wl_X3_66 ws_X3_put wi_X3 wc_X3_put (by decide +kernel) rfl rfl (Nat.le_of_ble_eq_true rfl) dX3_copy_19) (fun u_3 h_3 => ?_)
        subst h_3
        subst h_2
        refine z_ws (st' := []) (ws' := [(b1, .inl (cI, n1, .inl f1)), (b2, .inl (cI, n2, .inl (putv n2 (cpv n1 f1 n2 f2 j) (nI j) (atv n1 f1 (nI j)))))]) rfl rfl ?_
        refine z_iinc C (pc := 22) (v := ((nI j) + 1)) (lv' := [(0, .ref b1), (1, .ref b2), (2, .int ((nI j) + 1))]) dX3_copy_22 rfl rfl (Nat.le_of_ble_eq_true rfl) rfl rfl ?_
        refine z_goto C (pc := 25) (tgt := 2) dX3_copy_25 (by decide) ?_
        refine z_ws (st' := []) (ws' := [(b1, .inl (cI, n1, .inl f1)), (b2, .inl (cI, n2, .inl (cpv n1 f1 n2 f2 (j + 1))))]) rfl rfl ?_
        refine z_lv (lv' := [(0, .ref b1), (1, .ref b2), (2, .int (nI (j + 1)))]) ⟨rfl, rfl, by rw [nI_succ]; rfl, trivial⟩ ?_
        exact ih (j + 1) (by omega) (by omega)
  exact z_lv (lv' := [(0, .ref b1), (1, .ref b2), (2, .int (nI 0))]) ⟨rfl, rfl, rfl, trivial⟩ (key (n2 + 1) 0 (Nat.zero_le _) (by omega))
end
section
/-! what a march is, in whole numbers -/
def bt (a k : Nat) : Nat := a / 2 ^ k % 2
def pls : Nat → Nat | 0 => 4 | 1 => 8 | 2 => 2 | 3 => 2 | _ => 3
def ets : Nat → Nat | 1 => 2 | _ => 1
def fds : Nat → Nat | 1 => 6 | 2 => 2 | 4 => 3 | _ => 0
def sumk (g kd : Nat → Nat) (x : Nat) : Nat → Nat
  | 0 => 0
  | k + 1 => sumk g kd x k + bt x k * g (kd k)
def dev (kd : Nat → Nat) (n k : Nat) (s : Nat × Nat) : Nat × Nat := if bt s.1 k = 1 then (s.1 - 2 ^ k, min (s.2 + fds (kd k)) (sumk pls kd (s.1 - 2 ^ k) n)) else s
def isB (t : Nat) : Bool := t == 1 || t == 2 || t == 4
def pon (kd : Nat → Nat) (n : Nat) : Nat → Nat × Nat → Nat × Nat
  | 0, s => s
  | k + 1, s => pon kd n k (if kd k = 1 then dev kd n k s else s)
def bea (kd : Nat → Nat) (n : Nat) : Nat → Nat × Nat → Nat × Nat
  | 0, s => s
  | k + 1, s => if s.2 < sumk ets kd s.1 n then bea kd n k (if isB (kd k) = true then dev kd n k s else s) else s
def upN (f : Nat → Nat) (k x : Nat) : Nat → Nat := fun j => if j = k then x else f j
/-- who lives, the food, what lies at the cairns, where they died -/
abbrev MS : Type := Nat × Nat × (Nat → Nat) × Nat
def outv (kd : Nat → Nat) (n st j : Nat) (s : Nat × Nat) : Nat × Nat := bea kd n n (if j ≤ st ∧ 3 ≤ j - 1 then pon kd n n s else s)
def takev (kd : Nat → Nat) (n q : Nat) (s : Nat × Nat) (c : Nat → Nat) : Nat × (Nat → Nat) :=
  if q = 0 then (s.2, c) else (s.2 + min (c (q - 1)) (sumk pls kd s.1 n - s.2), upN c (q - 1) (c (q - 1) - min (c (q - 1)) (sumk pls kd s.1 n - s.2)))
def legv (kd : Nat → Nat) (n st j : Nat) (z : MS) : MS :=
  let s := outv kd n st j (z.1, z.2.1)
  if s.1 = 0 ∨ s.2 < sumk ets kd s.1 n then (0, 0, z.2.2.1, j)
  else if j ≤ st then (s.1, s.2 - sumk ets kd s.1 n, z.2.2.1, 0)
  else let t := takev kd n (2 * st - j) (s.1, s.2 - sumk ets kd s.1 n) z.2.2.1
    (s.1, t.1, t.2, 0)
def runv (kd : Nat → Nat) (n st : Nat) : Nat → MS → MS
  | 0, z => z
  | j + 1, z => if (runv kd n st j z).2.2.2 = 0 then legv kd n st (j + 1) (runv kd n st j z) else runv kd n st j z
def marv (kd : Nat → Nat) (n x st f : Nat) (c : Nat → Nat) : MS := runv kd n st (2 * st) (x, min f (sumk pls kd x n), c, 0)
/-! rows of it -/
theorem bt_lt (x k : Nat) : bt x k < 2 := Nat.mod_lt _ (by decide)
theorem bt_01 (x k : Nat) : bt x k = 0 ∨ bt x k = 1 := by have := bt_lt x k; omega
theorem pls_le (t : Nat) : pls t ≤ 8 := by unfold pls; split <;> decide
theorem ets_le (t : Nat) : ets t ≤ 2 := by unfold ets; split <;> decide
theorem ets_pos (t : Nat) : 1 ≤ ets t := by unfold ets; split <;> decide
theorem fds_le (t : Nat) : fds t ≤ 6 := by unfold fds; split <;> decide
theorem sumk_le {g kd : Nat → Nat} {x M : Nat} (h : ∀ t, g t ≤ M) : ∀ k, sumk g kd x k ≤ M * k
  | 0 => Nat.zero_le _
  | k + 1 => by
    unfold sumk
    have h1 := sumk_le (kd := kd) (x := x) h k
    have h2 := h (kd k)
    rcases bt_01 x k with e | e
    · rw [e, Nat.zero_mul]; rw [Nat.mul_succ]; omega
    · rw [e, Nat.one_mul]; rw [Nat.mul_succ]; omega
theorem pl_le {kd : Nat → Nat} {x n : Nat} (h : n ≤ 6) : sumk pls kd x n ≤ 48 := by have := sumk_le (kd := kd) (x := x) pls_le n; omega
theorem et_le {kd : Nat → Nat} {x n : Nat} (h : n ≤ 6) : sumk ets kd x n ≤ 12 := by have := sumk_le (kd := kd) (x := x) ets_le n; omega
theorem smod32 : ∀ k, k < 32 → ((nI k &&& 31).toBitVec.smod 32).toNat = k := by decide +kernel
theorem shr_bt {x k : Nat} (hk : k < 32) (hx : x < 2 ^ 31) : (nI x >>> (nI k &&& 31)) &&& 1 = nI (bt x k) := by
  rw [pk_shrN hx _ k (smod32 k hk)]
  exact pk_andN (Nat.lt_of_le_of_lt (Nat.div_le_self _ _) (by omega)) (m := 1) 1 (by decide)
theorem bt_sub : ∀ x, x < 64 → ∀ k, k < 6 → ∀ j, j < 6 → bt x k = 1 → bt (x - 2 ^ k) j = if j = k then 0 else bt x j := by decide +kernel
theorem bit_le : ∀ x, x < 64 → ∀ k, k < 6 → bt x k = 1 → 2 ^ k ≤ x := by decide +kernel
theorem and_not : ∀ x, x < 64 → ∀ k, k < 6 → bt x k = 1 → nI x &&& ((1 <<< (nI k &&& 31)) ^^^ (-1)) = nI (x - 2 ^ k) := by decide +kernel
theorem sub_bit : ∀ x, x < 64 → ∀ k, k < 6 → bt x k = 1 → nI x - (1 <<< (nI k &&& 31)) = nI (x - 2 ^ k) := by decide +kernel
theorem one_shl : ∀ n, n ≤ 6 → (1 <<< (nI n &&& 31)) - 1 = nI (2 ^ n - 1) := by decide +kernel
theorem sumk_same {g kd : Nat → Nat} {x y : Nat} : ∀ k, (∀ j, j < k → bt x j = bt y j) → sumk g kd x k = sumk g kd y k
  | 0, _ => rfl
  | k + 1, h => by unfold sumk; rw [sumk_same k (fun j hj => h j (by omega)), h k (by omega)]
theorem sumk_sub {g kd : Nat → Nat} {x k : Nat} (hx : x < 64) (hk : k < 6) (hb : bt x k = 1) : ∀ n, n ≤ 6 → k < n → sumk g kd (x - 2 ^ k) n + g (kd k) = sumk g kd x n
  | 0, _, h => absurd h (by omega)
  | n + 1, hn, hkn => by
    unfold sumk
    by_cases e : k = n
    · subst e
      rw [bt_sub x hx k hk k hk hb, if_pos rfl, hb, sumk_same (y := x) k (fun j hj => by rw [bt_sub x hx k hk j (by omega) hb, if_neg (by omega)])]
      omega
    · have h := sumk_sub (g := g) (kd := kd) hx hk hb n (by omega) (by omega)
      rw [bt_sub x hx k hk n (by omega) hb, if_neg (by omega)]
      omega
theorem pow_le6 {n : Nat} (h : n ≤ 6) : 2 ^ n ≤ 64 := Nat.pow_le_pow_right (by decide) h
theorem pullsV_nI : ∀ t, t ≤ 4 → pullsV t = nI (pls t) := by decide +kernel
theorem eatsV_nI : ∀ t, t ≤ 4 → eatsV t = nI (ets t) := by decide +kernel
theorem feedsV_nI : ∀ t, t ≤ 4 → feedsV t = nI (fds t) := by decide +kernel
theorem atv_tab {f : Nat → Int32} {t : Nat} (ht : t ≤ 4) : atv 5 f (nI t) = f t := atv_nI (by omega) (by decide)
/-! states: the party of n members of the kinds kd; x of them live, with the food f -/
def PV (i : Nat → Int32) (r : Nat → Nat → Int32) (kd : Nat → Nat) (n : Nat) : Prop := i 4 = nI n ∧ n ≤ 6 ∧ ∀ k, k < n → r 1 k = nI (kd k) ∧ kd k ≤ 4
def PS (i : Nat → Int32) (kd : Nat → Nat) (n x f : Nat) : Prop := i 5 = nI x ∧ i 6 = nI f ∧ i 7 = nI (sumk pls kd x n) ∧ i 8 = nI (sumk ets kd x n)
def OK (kd : Nat → Nat) (n x f : Nat) : Prop := x < 2 ^ n ∧ f ≤ sumk pls kd x n
def SP (i i' : Nat → Int32) : Prop := ∀ k, k < 5 ∨ 9 < k → i' k = i k
def SR (r r' : Nat → Nat → Int32) : Prop := ∀ k, k ≠ 2 → r' k = r k
theorem SP.rf {i : Nat → Int32} : SP i i := fun _ _ => rfl
theorem SP.tr {i j k : Nat → Int32} (h : SP i j) (h2 : SP j k) : SP i k := fun q hq => (h2 q hq).trans (h q hq)
theorem SP.up {i j : Nat → Int32} (h : SP i j) {k : Nat} {v : Int32} (hk : 5 ≤ k ∧ k ≤ 9) : SP i (upd j k v) := fun q hq => by unfold upd; rw [if_neg (by omega)]; exact h q hq
theorem SR.rf {r : Nat → Nat → Int32} : SR r r := fun _ _ => rfl
theorem SR.tr {i j k : Nat → Nat → Int32} (h : SR i j) (h2 : SR j k) : SR i k := fun q hq => (h2 q hq).trans (h q hq)
theorem SR.up {i j : Nat → Nat → Int32} (h : SR i j) {v : Nat → Int32} : SR i (va_up j 2 v) := fun q hq => by unfold va_up; rw [if_neg hq]; exact h q hq
theorem PV.sp {i i' : Nat → Int32} {r r' : Nat → Nat → Int32} {kd : Nat → Nat} {n : Nat} (h : PV i r kd n) (hi : SP i i') (hr : SR r r') : PV i' r' kd n := ⟨(hi 4 (by omega)).trans h.1, h.2.1, fun k hk => by rw [hr 1 (by omega)]; exact h.2.2 k hk⟩
theorem upd_s {f : Nat → Int32} {k : Nat} {v : Int32} : upd f k v k = v := by simp [upd]
theorem upd_n {f : Nat → Int32} {k j : Nat} {v : Int32} (h : j ≠ k) : upd f k v j = f j := by simp [upd, h]
theorem vup_s {α : Type} {f : Nat → α} {k : Nat} {v : α} : va_up f k v k = v := by simp [va_up]
theorem vup_n {α : Type} {f : Nat → α} {k j : Nat} {v : α} (h : j ≠ k) : va_up f k v j = f j := by simp [va_up, h]
theorem dev_ok {kd : Nat → Nat} {n k : Nat} {s : Nat × Nat} (hn : n ≤ 6) (hk : k < n) (h : OK kd n s.1 s.2) : OK kd n (dev kd n k s).1 (dev kd n k s).2 := by
  unfold dev
  by_cases hb : bt s.1 k = 1
  · rw [if_pos hb]
    exact ⟨Nat.lt_of_le_of_lt (Nat.sub_le _ _) h.1, Nat.min_le_right _ _⟩
  · rw [if_neg hb]; exact h
theorem pon_ok {kd : Nat → Nat} {n : Nat} (hn : n ≤ 6) : ∀ (k : Nat) (s : Nat × Nat), k ≤ n → OK kd n s.1 s.2 → OK kd n (pon kd n k s).1 (pon kd n k s).2
  | 0, s, _, h => h
  | k + 1, s, hk, h => by
    unfold pon
    by_cases e : kd k = 1
    · rw [if_pos e]; exact pon_ok hn k _ (by omega) (dev_ok hn (by omega) h)
    · rw [if_neg e]; exact pon_ok hn k _ (by omega) h
theorem bea_ok {kd : Nat → Nat} {n : Nat} (hn : n ≤ 6) : ∀ (k : Nat) (s : Nat × Nat), k ≤ n → OK kd n s.1 s.2 → OK kd n (bea kd n k s).1 (bea kd n k s).2
  | 0, s, _, h => h
  | k + 1, s, hk, h => by
    unfold bea
    by_cases e0 : s.2 < sumk ets kd s.1 n
    · rw [if_pos e0]
      by_cases e : isB (kd k) = true
      · rw [if_pos e]; exact bea_ok hn k _ (by omega) (dev_ok hn (by omega) h)
      · rw [if_neg e]; exact bea_ok hn k _ (by omega) h
    · rw [if_neg e0]; exact h
theorem outv_ok {kd : Nat → Nat} {n st j : Nat} {s : Nat × Nat} (hn : n ≤ 6) (h : OK kd n s.1 s.2) : OK kd n (outv kd n st j s).1 (outv kd n st j s).2 := by
  unfold outv
  by_cases e : j ≤ st ∧ 3 ≤ j - 1
  · rw [if_pos e]; exact bea_ok hn n _ (Nat.le_refl _) (pon_ok hn n _ (Nat.le_refl _) h)
  · rw [if_neg e]; exact bea_ok hn n _ (Nat.le_refl _) h
theorem takev_ok {kd : Nat → Nat} {n q : Nat} {s : Nat × Nat} {c : Nat → Nat} (h : OK kd n s.1 s.2) (hc : ∀ k, k < 5 → c k ≤ 9) : OK kd n s.1 (takev kd n q s c).1 ∧ ∀ k, k < 5 → (takev kd n q s c).2 k ≤ 9 := by
  unfold takev
  by_cases e : q = 0
  · rw [if_pos e]; exact ⟨h, hc⟩
  · rw [if_neg e]
    refine ⟨⟨h.1, ?_⟩, fun k hk => ?_⟩
    · have h2 := h.2
      have h3 := Nat.min_le_right (c (q - 1)) (sumk pls kd s.1 n - s.2)
      show s.2 + min (c (q - 1)) (sumk pls kd s.1 n - s.2) ≤ sumk pls kd s.1 n
      omega
    · show upN c (q - 1) _ k ≤ 9
      unfold upN
      by_cases e2 : k = q - 1
      · rw [if_pos e2]; exact Nat.le_trans (Nat.sub_le _ _) (hc _ (by omega))
      · rw [if_neg e2]; exact hc k hk
def MOK (kd : Nat → Nat) (n : Nat) (z : MS) : Prop := OK kd n z.1 z.2.1 ∧ (∀ k, k < 5 → z.2.2.1 k ≤ 9) ∧ (z.2.2.2 = 0 ∨ (z.1 = 0 ∧ z.2.1 = 0))
theorem ok_0 {kd : Nat → Nat} {n : Nat} : OK kd n 0 0 := ⟨Nat.pow_pos (by decide), Nat.zero_le _⟩
theorem legv_ok {kd : Nat → Nat} {n st j : Nat} {z : MS} (hn : n ≤ 6) (h : MOK kd n z) : MOK kd n (legv kd n st j z) := by
  unfold legv
  have h1 := outv_ok (st := st) (j := j) (s := (z.1, z.2.1)) hn h.1
  generalize outv kd n st j (z.1, z.2.1) = s at h1 ⊢
  dsimp only
  by_cases e : s.1 = 0 ∨ s.2 < sumk ets kd s.1 n
  · rw [if_pos e]; exact ⟨ok_0, h.2.1, Or.inr ⟨rfl, rfl⟩⟩
  · rw [if_neg e]
    have h2 : OK kd n s.1 (s.2 - sumk ets kd s.1 n) := ⟨h1.1, Nat.le_trans (Nat.sub_le _ _) h1.2⟩
    by_cases e2 : j ≤ st
    · rw [if_pos e2]; exact ⟨h2, h.2.1, Or.inl rfl⟩
    · rw [if_neg e2]
      obtain ⟨g1, g2⟩ := takev_ok (q := 2 * st - j) (s := (s.1, s.2 - sumk ets kd s.1 n)) h2 h.2.1
      exact ⟨g1, g2, Or.inl rfl⟩
theorem runv_ok {kd : Nat → Nat} {n st : Nat} (hn : n ≤ 6) : ∀ (j : Nat) (z : MS), MOK kd n z → MOK kd n (runv kd n st j z)
  | 0, z, h => h
  | j + 1, z, h => by
    unfold runv
    have := runv_ok (st := st) hn j z h
    by_cases e : (runv kd n st j z).2.2.2 = 0
    · rw [if_pos e]; exact legv_ok hn this
    · rw [if_neg e]; exact this
theorem runv_dead {kd : Nat → Nat} {n st : Nat} {z : MS} {j : Nat} (h : (runv kd n st j z).2.2.2 ≠ 0) : ∀ i, runv kd n st (j + i) z = runv kd n st j z
  | 0 => rfl
  | i + 1 => by
    have h2 := runv_dead h i
    show (if (runv kd n st (j + i) z).2.2.2 = 0 then _ else runv kd n st (j + i) z) = _
    rw [if_neg (by rw [h2]; exact h)]
    exact h2
/-- who dies has nobody living; who lives, somebody -/
theorem legv_alive {kd : Nat → Nat} {n st j : Nat} {z : MS} (hj : j ≠ 0) : ((legv kd n st j z).2.2.2 = 0 ↔ (legv kd n st j z).1 ≠ 0) := by
  unfold legv
  generalize outv kd n st j (z.1, z.2.1) = s
  dsimp only
  by_cases e : s.1 = 0 ∨ s.2 < sumk ets kd s.1 n
  · rw [if_pos e]; simp [hj]
  · rw [if_neg e]
    have : s.1 ≠ 0 := fun h => e (Or.inl h)
    by_cases e2 : j ≤ st
    · rw [if_pos e2]; simp [this]
    · rw [if_neg e2]; simp [this]
theorem runv_alive {kd : Nat → Nat} {n st : Nat} {z : MS} (hz : z.2.2.2 = 0 ↔ z.1 ≠ 0) : ∀ j, ((runv kd n st j z).2.2.2 = 0 ↔ (runv kd n st j z).1 ≠ 0)
  | 0 => hz
  | j + 1 => by
    unfold runv
    by_cases e : (runv kd n st j z).2.2.2 = 0
    · rw [if_pos e]; exact legv_alive (by omega)
    · rw [if_neg e]; exact runv_alive hz j
end
section
theorem lki {x y : Int32} (h : x = y) : some (Value.int x) = some (.int y) := by rw [h]
theorem lt_of_nI {j n : Nat} (h : ¬ nI n ≤ nI j) (hj : j < 2 ^ 31) : j < n := by
  rcases Nat.lt_or_ge j n with q | q
  · exact q
  · exact absurd (nI_le q hj) h
theorem ge_of_nI {j n : Nat} (h : nI n ≤ nI j) (hn : n < 2 ^ 31) : n ≤ j := by
  rcases Nat.lt_or_ge j n with q | q
  · exact absurd h (nI_ge q hn)
  · exact q
theorem bt1 {x k : Nat} (hk : k < 32) (hx : x < 2 ^ 31) (h : (nI x >>> (nI k &&& 31)) &&& 1 = 1) : bt x k = 1 := by
  rw [shr_bt hk hx] at h
  rcases bt_01 x k with e | e
  · rw [e] at h; exact absurd h (by decide)
  · exact e
theorem bt0 {x k : Nat} (hk : k < 32) (hx : x < 2 ^ 31) (h : ¬ (nI x >>> (nI k &&& 31)) &&& 1 = 1) : bt x k = 0 := by
  rw [shr_bt hk hx] at h
  rcases bt_01 x k with e | e
  · exact e
  · rw [e] at h; exact absurd rfl h
theorem bt0' {x k : Nat} (hk : k < 32) (hx : x < 2 ^ 31) (h : (nI x >>> (nI k &&& 31)) &&& 1 = 0) : bt x k = 0 := by
  rw [shr_bt hk hx] at h
  rcases bt_01 x k with e | e
  · exact e
  · rw [e] at h; exact absurd h (by decide)
theorem bt1' {x k : Nat} (hk : k < 32) (hx : x < 2 ^ 31) (h : ¬ (nI x >>> (nI k &&& 31)) &&& 1 = 0) : bt x k = 1 := by
  rw [shr_bt hk hx] at h
  rcases bt_01 x k with e | e
  · rw [e] at h; exact absurd rfl h
  · exact e
theorem kind_at {i : Nat → Int32} {r : Nat → Nat → Int32} {kd : Nat → Nat} {n k : Nat} (h : PV i r kd n) (hk : k < n) : atv 6 (r 1) (nI k) = nI (kd k) := by
  rw [atv_nI (Nat.lt_of_lt_of_le hk h.2.1) (by decide)]; exact (h.2.2 k hk).1
theorem tabP {t : Nat} (h : t ≤ 4) : atv 5 pullsV (nI t) = nI (pls t) := by rw [atv_tab h]; exact pullsV_nI t h
theorem tabE {t : Nat} (h : t ≤ 4) : atv 5 eatsV (nI t) = nI (ets t) := by rw [atv_tab h]; exact eatsV_nI t h
theorem tabF {t : Nat} (h : t ≤ 4) : atv 5 feedsV (nI t) = nI (fds t) := by rw [atv_tab h]; exact feedsV_nI t h
set_option maxHeartbeats 4000000 in
set_option maxRecDepth 100000 in
theorem c_all (l : Launch) (D : va_G) (cI : ClassId) (tt : Nat × Nat × Nat) (a : Nat → Nat) (i : Nat → Int32) (r : Nat → Nat → Int32) (n : Nat) (hn : i 4 = nI n) (hn6 : n ≤ 6) : MetI (S := Unit) l yX1_all cX1_all 1 (some .int) (rm 0 0) D cI tt [.ref (a 3)] (cW cI a i r) (fun r _ => r = nI (2 ^ n - 1)) (fun _ => cW cI a i r) := by
  refine met_ofI (by decide) (Nat.le_of_ble_eq_true rfl) ?_
  intro pP eE sS mM aV bB mE cC AA C hin
  refine z_conv (lv' := [(0, .ref (a 3))]) ⟨rfl, trivial⟩ rfl rfl ?_
  refine z_iconst C (pc := 0) (v := 1) dX1_all_0 (by decide) ?_
  refine z_aload_n C (pc := 1) dX1_all_1 rfl ?_
  refine z_get C (pc := 2) 3 rfl rfl wf_X1 1 (by decide) rfl wl_X1_18 (v := .int (i 4)) rfl dX1_all_2 ?_
  refine z_ishl C (pc := 5) dX1_all_5 ?_
  refine z_iconst C (pc := 6) (v := 1) dX1_all_6 (by decide) ?_
  refine z_isub C (pc := 7) dX1_all_7 ?_
  refine z_iret C (pc := 8) () dX1_all_8 ?_ rfl
  rw [hn]; exact one_shl n hn6

set_option maxHeartbeats 4000000 in
set_option maxRecDepth 100000 in
theorem c_togetherP (l : Launch) (D : va_G) (cI : ClassId) (tt : Nat × Nat × Nat) (a : Nat → Nat) (i : Nat → Int32) (r : Nat → Nat → Int32) (kd : Nat → Nat) (n x : Nat) (hv : PV i r kd n) (hx : x < 2 ^ 31) : MetI (S := Unit) l yX1_together cX1_together 5 (some .int) (rm 1 21) D cI tt [.ref (a 3), .int (nI x), .ref tt.1] (cW cI a i r) (fun r _ => r = nI (sumk pls kd x n)) (fun _ => cW cI a i r) := by
  have hn6 := hv.2.1
  refine met_ofI (by decide) (Nat.le_of_ble_eq_true rfl) ?_
  intro pP eE sS mM aV bB mE cC AA C hin
  refine z_conv (lv' := [(0, .ref (a 3)), (1, .int (nI x)), (2, .ref tt.1)]) ⟨rfl, rfl, rfl, trivial⟩ rfl rfl ?_
  refine z_iconst C (pc := 0) (v := 0) dX1_together_0 (by decide) ?_
  refine z_istore_n C (pc := 1) (lv' := [(0, .ref (a 3)), (1, .int (nI x)), (2, .ref tt.1), (3, .int 0)]) dX1_together_1 (Nat.le_of_ble_eq_true rfl) rfl rfl ?_
  refine z_iconst C (pc := 2) (v := 0) dX1_together_2 (by decide) ?_
  refine z_istore C (pc := 3) (lv' := [(0, .ref (a 3)), (1, .int (nI x)), (2, .ref tt.1), (3, .int 0), (4, .int 0)]) dX1_together_3 (Nat.le_of_ble_eq_true rfl) rfl rfl ?_
  have key5 : ∀ (fu5 : Nat) (k : Nat), n - k < fu5 → (k ≤ n) → Z pP l eE (rm 1 21) sS mM aV bB mE cC D AA 5 0 0 (MQ bB (va_Qi (S := Unit) (fun r _ => r = nI (sumk pls kd x n)) (fun u t => va_P D vwCl ((fun _ => cW cI a i r) u) t.heap) AA) aV sS 0 0 AA) 5 [(0, .ref (a 3)), (1, .int (nI x)), (2, .ref tt.1), (3, .int (nI (sumk pls kd x k))), (4, .int (nI k))] [] (cW cI a i r) := by
    intro fu5
    induction fu5 with
    | zero => intro k hfu5; exact absurd hfu5 (Nat.not_lt_zero _)
    | succ fu5 ih5 =>
      intro k hfu5 hkn
      refine z_iload C (pc := 5) dX1_together_5 rfl ?_
      refine z_aload_n C (pc := 7) dX1_together_7 rfl ?_
      refine z_get C (pc := 8) 3 rfl rfl wf_X1 1 (by decide) rfl wl_X1_18 (v := .int (i 4)) rfl dX1_together_8 ?_
      refine z_icmp_ge C (pc := 11) (tgt := 46) dX1_together_11 (by decide) (fun c_1 => ?_) (fun c_1 => ?_)
      · refine z_iload_n C (pc := 46) dX1_together_46 rfl ?_
        refine z_iret C (pc := 47) () dX1_together_47 ?_ rfl
        rw [hv.1] at c_1
        have : k = n := by have := ge_of_nI c_1 (by omega); omega
        rw [this]
      · rw [hv.1] at c_1
        have hk : k < n := lt_of_nI c_1 (by omega)
        refine z_iload_n C (pc := 14) dX1_together_14 rfl ?_
        refine z_iload C (pc := 15) dX1_together_15 rfl ?_
        refine z_ishr C (pc := 17) dX1_together_17 ?_
        refine z_iconst C (pc := 18) (v := 1) dX1_together_18 (by decide) ?_
        refine z_iand C (pc := 19) dX1_together_19 ?_
        refine z_iconst C (pc := 20) (v := 1) dX1_together_20 (by decide) ?_
        refine z_icmp_ne C (pc := 21) (tgt := 40) dX1_together_21 (by decide) (fun c_2 => ?_) (fun c_2 => ?_)
        · have hb := bt0 (by omega) hx c_2
          refine z_iinc C (pc := 40) (v := ((nI k) + 1)) (lv' := [(0, .ref (a 3)), (1, .int (nI x)), (2, .ref tt.1), (3, .int (nI (sumk pls kd x k))), (4, .int ((nI k) + 1))]) dX1_together_40 rfl rfl (Nat.le_of_ble_eq_true rfl) rfl rfl ?_
          refine z_goto C (pc := 43) (tgt := 5) dX1_together_43 (by decide) ?_
          refine z_lv (lv' := [(0, .ref (a 3)), (1, .int (nI x)), (2, .ref tt.1), (3, .int (nI (sumk pls kd x (k + 1)))), (4, .int (nI (k + 1)))]) ⟨rfl, rfl, rfl, lki (by simp [sumk, hb, nI_add]), lki (nI_1 k), trivial⟩ ?_
          exact ih5 (k + 1) (by omega) hk
        · have hb := bt1 (by omega) hx c_2
          refine z_iload_n C (pc := 24) dX1_together_24 rfl ?_
          refine z_aload_n C (pc := 25) dX1_together_25 rfl ?_
          refine z_aload_n C (pc := 26) dX1_together_26 rfl ?_
          refine z_get C (pc := 27) 3 rfl rfl wf_X1 0 (by decide) rfl wl_X1_9 (v := .ref (a 4)) rfl dX1_together_27 ?_
          refine z_iload C (pc := 30) dX1_together_30 rfl ?_
          refine z_calli C (isC := [4]) rfl (by exact fun _ => rfl) (runSN C (wc := [(a 4, .inl (cI, 6, .inl (r 1)))]) (pc := 32) (rY' := rm 0 0) (nn := 2) (As := [.ref (a 4), .int (nI k)]) (rest := [.ref tt.1, .int (nI (sumk pls kd x k))]) (c_at l D cI tt (a 4) 6 (r 1) (nI k) (by decide)) rfl rfl ⟨rfl, rfl, ⟨Nat.le_of_ble_eq_true rfl, Nat.le_of_ble_eq_true rfl⟩, Nat.le_of_ble_eq_true rfl, Nat.le_of_ble_eq_true rfl⟩ wl_X1_22 ws_X3_at wi_X3 wc_X3_at (by decide +kernel) rfl rfl (Nat.le_of_ble_eq_true rfl) dX1_together_32) (fun r_3 u_3 h_3 => ?_)
          have h_3 : r_3 = (nI (kd k)) := h_3.trans (kind_at hv hk)
          subst h_3
          refine z_ws (st' := [.int (nI (kd k)), .ref tt.1, .int (nI (sumk pls kd x k))]) (ws' := (cW cI a i r)) rfl rfl ?_
          refine z_calli C (isC := []) rfl (by exact fun _ => rfl) (runSN C (wc := []) (pc := 35) (rY' := rm 0 0) (nn := 2) (As := [.ref tt.1, .int (nI (kd k))]) (rest := [.int (nI (sumk pls kd x k))]) (c_atP l D cI tt (nI (kd k))) rfl rfl ⟨rfl, rfl, ⟨Nat.le_of_ble_eq_true rfl, Nat.le_of_ble_eq_true rfl⟩, Nat.le_of_ble_eq_true rfl, Nat.le_of_ble_eq_true rfl⟩ wl_X1_22 ws_X3_at wi_X3 wc_X3_at (by decide +kernel) rfl rfl (Nat.le_of_ble_eq_true rfl) dX1_together_35) (fun r_4 u_4 h_4 => ?_)
          have h_4 : r_4 = (nI (pls (kd k))) := h_4.trans (tabP (hv.2.2 k hk).2)
          subst h_4
          refine z_ws (st' := [.int (nI (pls (kd k))), .int (nI (sumk pls kd x k))]) (ws' := (cW cI a i r)) rfl rfl ?_
          refine z_iadd C (pc := 38) dX1_together_38 ?_
          refine z_istore_n C (pc := 39) (lv' := [(0, .ref (a 3)), (1, .int (nI x)), (2, .ref tt.1), (3, .int ((nI (sumk pls kd x k)) + (nI (pls (kd k))))), (4, .int (nI k))]) dX1_together_39 (Nat.le_of_ble_eq_true rfl) rfl rfl ?_
          refine z_iinc C (pc := 40) (v := ((nI k) + 1)) (lv' := [(0, .ref (a 3)), (1, .int (nI x)), (2, .ref tt.1), (3, .int ((nI (sumk pls kd x k)) + (nI (pls (kd k))))), (4, .int ((nI k) + 1))]) dX1_together_40 rfl rfl (Nat.le_of_ble_eq_true rfl) rfl rfl ?_
          refine z_goto C (pc := 43) (tgt := 5) dX1_together_43 (by decide) ?_
          refine z_lv (lv' := [(0, .ref (a 3)), (1, .int (nI x)), (2, .ref tt.1), (3, .int (nI (sumk pls kd x (k + 1)))), (4, .int (nI (k + 1)))]) ⟨rfl, rfl, rfl, lki (by simp [sumk, hb, nI_add]), lki (nI_1 k), trivial⟩ ?_
          exact ih5 (k + 1) (by omega) hk
  refine z_lv (lv' := [(0, .ref (a 3)), (1, .int (nI x)), (2, .ref tt.1), (3, .int (nI (sumk pls kd x 0))), (4, .int (nI 0))]) ⟨rfl, rfl, rfl, rfl, rfl, trivial⟩ ?_
  exact key5 (_ + 1) 0 (Nat.lt_succ_self _) (Nat.zero_le _)

set_option maxHeartbeats 4000000 in
set_option maxRecDepth 100000 in
theorem c_togetherE (l : Launch) (D : va_G) (cI : ClassId) (tt : Nat × Nat × Nat) (a : Nat → Nat) (i : Nat → Int32) (r : Nat → Nat → Int32) (kd : Nat → Nat) (n x : Nat) (hv : PV i r kd n) (hx : x < 2 ^ 31) : MetI (S := Unit) l yX1_together cX1_together 5 (some .int) (rm 1 21) D cI tt [.ref (a 3), .int (nI x), .ref tt.2.1] (cW cI a i r) (fun r _ => r = nI (sumk ets kd x n)) (fun _ => cW cI a i r) := by
  have hn6 := hv.2.1
  refine met_ofI (by decide) (Nat.le_of_ble_eq_true rfl) ?_
  intro pP eE sS mM aV bB mE cC AA C hin
  refine z_conv (lv' := [(0, .ref (a 3)), (1, .int (nI x)), (2, .ref tt.2.1)]) ⟨rfl, rfl, rfl, trivial⟩ rfl rfl ?_
  refine z_iconst C (pc := 0) (v := 0) dX1_together_0 (by decide) ?_
  refine z_istore_n C (pc := 1) (lv' := [(0, .ref (a 3)), (1, .int (nI x)), (2, .ref tt.2.1), (3, .int 0)]) dX1_together_1 (Nat.le_of_ble_eq_true rfl) rfl rfl ?_
  refine z_iconst C (pc := 2) (v := 0) dX1_together_2 (by decide) ?_
  refine z_istore C (pc := 3) (lv' := [(0, .ref (a 3)), (1, .int (nI x)), (2, .ref tt.2.1), (3, .int 0), (4, .int 0)]) dX1_together_3 (Nat.le_of_ble_eq_true rfl) rfl rfl ?_
  have key5 : ∀ (fu5 : Nat) (k : Nat), n - k < fu5 → (k ≤ n) → Z pP l eE (rm 1 21) sS mM aV bB mE cC D AA 5 0 0 (MQ bB (va_Qi (S := Unit) (fun r _ => r = nI (sumk ets kd x n)) (fun u t => va_P D vwCl ((fun _ => cW cI a i r) u) t.heap) AA) aV sS 0 0 AA) 5 [(0, .ref (a 3)), (1, .int (nI x)), (2, .ref tt.2.1), (3, .int (nI (sumk ets kd x k))), (4, .int (nI k))] [] (cW cI a i r) := by
    intro fu5
    induction fu5 with
    | zero => intro k hfu5; exact absurd hfu5 (Nat.not_lt_zero _)
    | succ fu5 ih5 =>
      intro k hfu5 hkn
      refine z_iload C (pc := 5) dX1_together_5 rfl ?_
      refine z_aload_n C (pc := 7) dX1_together_7 rfl ?_
      refine z_get C (pc := 8) 3 rfl rfl wf_X1 1 (by decide) rfl wl_X1_18 (v := .int (i 4)) rfl dX1_together_8 ?_
      refine z_icmp_ge C (pc := 11) (tgt := 46) dX1_together_11 (by decide) (fun c_1 => ?_) (fun c_1 => ?_)
      · refine z_iload_n C (pc := 46) dX1_together_46 rfl ?_
        refine z_iret C (pc := 47) () dX1_together_47 ?_ rfl
        rw [hv.1] at c_1
        have : k = n := by have := ge_of_nI c_1 (by omega); omega
        rw [this]
      · rw [hv.1] at c_1
        have hk : k < n := lt_of_nI c_1 (by omega)
        refine z_iload_n C (pc := 14) dX1_together_14 rfl ?_
        refine z_iload C (pc := 15) dX1_together_15 rfl ?_
        refine z_ishr C (pc := 17) dX1_together_17 ?_
        refine z_iconst C (pc := 18) (v := 1) dX1_together_18 (by decide) ?_
        refine z_iand C (pc := 19) dX1_together_19 ?_
        refine z_iconst C (pc := 20) (v := 1) dX1_together_20 (by decide) ?_
        refine z_icmp_ne C (pc := 21) (tgt := 40) dX1_together_21 (by decide) (fun c_2 => ?_) (fun c_2 => ?_)
        · have hb := bt0 (by omega) hx c_2
          refine z_iinc C (pc := 40) (v := ((nI k) + 1)) (lv' := [(0, .ref (a 3)), (1, .int (nI x)), (2, .ref tt.2.1), (3, .int (nI (sumk ets kd x k))), (4, .int ((nI k) + 1))]) dX1_together_40 rfl rfl (Nat.le_of_ble_eq_true rfl) rfl rfl ?_
          refine z_goto C (pc := 43) (tgt := 5) dX1_together_43 (by decide) ?_
          refine z_lv (lv' := [(0, .ref (a 3)), (1, .int (nI x)), (2, .ref tt.2.1), (3, .int (nI (sumk ets kd x (k + 1)))), (4, .int (nI (k + 1)))]) ⟨rfl, rfl, rfl, lki (by simp [sumk, hb, nI_add]), lki (nI_1 k), trivial⟩ ?_
          exact ih5 (k + 1) (by omega) hk
        · have hb := bt1 (by omega) hx c_2
          refine z_iload_n C (pc := 24) dX1_together_24 rfl ?_
          refine z_aload_n C (pc := 25) dX1_together_25 rfl ?_
          refine z_aload_n C (pc := 26) dX1_together_26 rfl ?_
          refine z_get C (pc := 27) 3 rfl rfl wf_X1 0 (by decide) rfl wl_X1_9 (v := .ref (a 4)) rfl dX1_together_27 ?_
          refine z_iload C (pc := 30) dX1_together_30 rfl ?_
          refine z_calli C (isC := [4]) rfl (by exact fun _ => rfl) (runSN C (wc := [(a 4, .inl (cI, 6, .inl (r 1)))]) (pc := 32) (rY' := rm 0 0) (nn := 2) (As := [.ref (a 4), .int (nI k)]) (rest := [.ref tt.2.1, .int (nI (sumk ets kd x k))]) (c_at l D cI tt (a 4) 6 (r 1) (nI k) (by decide)) rfl rfl ⟨rfl, rfl, ⟨Nat.le_of_ble_eq_true rfl, Nat.le_of_ble_eq_true rfl⟩, Nat.le_of_ble_eq_true rfl, Nat.le_of_ble_eq_true rfl⟩ wl_X1_22 ws_X3_at wi_X3 wc_X3_at (by decide +kernel) rfl rfl (Nat.le_of_ble_eq_true rfl) dX1_together_32) (fun r_3 u_3 h_3 => ?_)
          have h_3 : r_3 = (nI (kd k)) := h_3.trans (kind_at hv hk)
          subst h_3
          refine z_ws (st' := [.int (nI (kd k)), .ref tt.2.1, .int (nI (sumk ets kd x k))]) (ws' := (cW cI a i r)) rfl rfl ?_
          refine z_calli C (isC := []) rfl (by exact fun _ => rfl) (runSN C (wc := []) (pc := 35) (rY' := rm 0 0) (nn := 2) (As := [.ref tt.2.1, .int (nI (kd k))]) (rest := [.int (nI (sumk ets kd x k))]) (c_atE l D cI tt (nI (kd k))) rfl rfl ⟨rfl, rfl, ⟨Nat.le_of_ble_eq_true rfl, Nat.le_of_ble_eq_true rfl⟩, Nat.le_of_ble_eq_true rfl, Nat.le_of_ble_eq_true rfl⟩ wl_X1_22 ws_X3_at wi_X3 wc_X3_at (by decide +kernel) rfl rfl (Nat.le_of_ble_eq_true rfl) dX1_together_35) (fun r_4 u_4 h_4 => ?_)
          have h_4 : r_4 = (nI (ets (kd k))) := h_4.trans (tabE (hv.2.2 k hk).2)
          subst h_4
          refine z_ws (st' := [.int (nI (ets (kd k))), .int (nI (sumk ets kd x k))]) (ws' := (cW cI a i r)) rfl rfl ?_
          refine z_iadd C (pc := 38) dX1_together_38 ?_
          refine z_istore_n C (pc := 39) (lv' := [(0, .ref (a 3)), (1, .int (nI x)), (2, .ref tt.2.1), (3, .int ((nI (sumk ets kd x k)) + (nI (ets (kd k))))), (4, .int (nI k))]) dX1_together_39 (Nat.le_of_ble_eq_true rfl) rfl rfl ?_
          refine z_iinc C (pc := 40) (v := ((nI k) + 1)) (lv' := [(0, .ref (a 3)), (1, .int (nI x)), (2, .ref tt.2.1), (3, .int ((nI (sumk ets kd x k)) + (nI (ets (kd k))))), (4, .int ((nI k) + 1))]) dX1_together_40 rfl rfl (Nat.le_of_ble_eq_true rfl) rfl rfl ?_
          refine z_goto C (pc := 43) (tgt := 5) dX1_together_43 (by decide) ?_
          refine z_lv (lv' := [(0, .ref (a 3)), (1, .int (nI x)), (2, .ref tt.2.1), (3, .int (nI (sumk ets kd x (k + 1)))), (4, .int (nI (k + 1)))]) ⟨rfl, rfl, rfl, lki (by simp [sumk, hb, nI_add]), lki (nI_1 k), trivial⟩ ?_
          exact ih5 (k + 1) (by omega) hk
  refine z_lv (lv' := [(0, .ref (a 3)), (1, .int (nI x)), (2, .ref tt.2.1), (3, .int (nI (sumk ets kd x 0))), (4, .int (nI 0))]) ⟨rfl, rfl, rfl, rfl, rfl, trivial⟩ ?_
  exact key5 (_ + 1) 0 (Nat.lt_succ_self _) (Nat.zero_le _)
end
section
theorem min_nI {x y : Nat} (hx : x < 2 ^ 31) (hy : y < 2 ^ 31) : (if nI y < nI x then nI y else nI x) = nI (min x y) := by
  by_cases h : y < x
  · rw [if_pos (nI_lt h hx), Nat.min_eq_right (by omega)]
  · rw [if_neg (nI_nlt (by omega) hy), Nat.min_eq_left (by omega)]
set_option maxHeartbeats 4000000 in
set_option maxRecDepth 100000 in
theorem c_setCairnsN (l : Launch) (D : va_G) (cI : ClassId) (tt : Nat × Nat × Nat) (a : Nat → Nat) (i : Nat → Int32) (r : Nat → Nat → Int32) : MetV (S := (Nat → Nat → Int32)) l yX1_setCairns cX1_setCairns 2 none (rm 2 44) D cI tt [.ref (a 3), .ref (a 7)] (cW cI a i r) (fun r' => SR r r' ∧ ∀ k, k < 5 → r' 2 k = r 3 k) (fun r' => cW cI a i r') := by
  refine met_ofV (by decide) (Nat.le_of_ble_eq_true rfl) ?_
  intro pP eE sS mM aV bB mE cC AA C hin
  refine z_conv (lv' := [(0, .ref (a 3)), (1, .ref (a 7))]) ⟨rfl, rfl, trivial⟩ rfl rfl ?_
  refine z_aload_n C (pc := 0) dX1_setCairns_0 rfl ?_
  refine z_aload_n C (pc := 1) dX1_setCairns_1 rfl ?_
  refine z_get C (pc := 2) 3 rfl rfl wf_X1 2 (by decide) rfl wl_X1_15 (v := .ref (a 5)) rfl dX1_setCairns_2 ?_
  refine z_callv C (isC := [7, 5]) rfl (by exact fun _ => rfl) (runSN C (wc := [(a 7, .inl (cI, 5, .inl (r 3))), (a 5, .inl (cI, 5, .inl (r 2)))]) (pc := 5) (rY' := rm 1 22) (nn := 2) (As := [.ref (a 7), .ref (a 5)]) (rest := []) (c_copy l D cI tt (a 7) 5 (a 5) 5 (r 3) (r 2) (by decide) (by decide)) rfl rfl ⟨rfl, rfl, ⟨Nat.le_of_ble_eq_true rfl, Nat.le_of_ble_eq_true rfl⟩, Nat.le_of_ble_eq_true rfl, Nat.le_of_ble_eq_true rfl⟩ wl_X1_26 ws_X3_copy wi_X3 wc_X3_copy (by decide +kernel) rfl rfl (Nat.le_of_ble_eq_true rfl) dX1_setCairns_5) (fun u_1 h_1 => ?_)
  subst h_1
  refine z_ws (st' := []) (ws' := (cW cI a i (va_up r 2 (cpv 5 (r 3) 5 (r 2) 5)))) rfl rfl ?_
  refine z_vret C (pc := 8) (va_up r 2 (cpv 5 (r 3) 5 (r 2) 5)) dX1_setCairns_8 ?_ rfl
  refine ⟨SR.rf.up, fun k hk => ?_⟩
  rw [vup_s, cpv_at (by decide) (by decide) 5 (by decide) (by decide), if_pos hk]

set_option maxHeartbeats 4000000 in
set_option maxRecDepth 100000 in
theorem c_setCairnsW (l : Launch) (D : va_G) (cI : ClassId) (tt : Nat × Nat × Nat) (a : Nat → Nat) (i : Nat → Int32) (r : Nat → Nat → Int32) : MetV (S := (Nat → Nat → Int32)) l yX1_setCairns cX1_setCairns 2 none (rm 2 44) D cI tt [.ref (a 3), .ref (a 18)] (cW cI a i r) (fun r' => SR r r' ∧ ∀ k, k < 5 → r' 2 k = r 13 k) (fun r' => cW cI a i r') := by
  refine met_ofV (by decide) (Nat.le_of_ble_eq_true rfl) ?_
  intro pP eE sS mM aV bB mE cC AA C hin
  refine z_conv (lv' := [(0, .ref (a 3)), (1, .ref (a 18))]) ⟨rfl, rfl, trivial⟩ rfl rfl ?_
  refine z_aload_n C (pc := 0) dX1_setCairns_0 rfl ?_
  refine z_aload_n C (pc := 1) dX1_setCairns_1 rfl ?_
  refine z_get C (pc := 2) 3 rfl rfl wf_X1 2 (by decide) rfl wl_X1_15 (v := .ref (a 5)) rfl dX1_setCairns_2 ?_
  refine z_callv C (isC := [18, 5]) rfl (by exact fun _ => rfl) (runSN C (wc := [(a 18, .inl (cI, 5, .inl (r 13))), (a 5, .inl (cI, 5, .inl (r 2)))]) (pc := 5) (rY' := rm 1 22) (nn := 2) (As := [.ref (a 18), .ref (a 5)]) (rest := []) (c_copy l D cI tt (a 18) 5 (a 5) 5 (r 13) (r 2) (by decide) (by decide)) rfl rfl ⟨rfl, rfl, ⟨Nat.le_of_ble_eq_true rfl, Nat.le_of_ble_eq_true rfl⟩, Nat.le_of_ble_eq_true rfl, Nat.le_of_ble_eq_true rfl⟩ wl_X1_26 ws_X3_copy wi_X3 wc_X3_copy (by decide +kernel) rfl rfl (Nat.le_of_ble_eq_true rfl) dX1_setCairns_5) (fun u_1 h_1 => ?_)
  subst h_1
  refine z_ws (st' := []) (ws' := (cW cI a i (va_up r 2 (cpv 5 (r 13) 5 (r 2) 5)))) rfl rfl ?_
  refine z_vret C (pc := 8) (va_up r 2 (cpv 5 (r 13) 5 (r 2) 5)) dX1_setCairns_8 ?_ rfl
  refine ⟨SR.rf.up, fun k hk => ?_⟩
  rw [vup_s, cpv_at (by decide) (by decide) 5 (by decide) (by decide), if_pos hk]

set_option maxHeartbeats 4000000 in
set_option maxRecDepth 100000 in
theorem c_dieOn (l : Launch) (D : va_G) (cI : ClassId) (tt : Nat × Nat × Nat) (a : Nat → Nat) (i : Nat → Int32) (r : Nat → Nat → Int32) (v : Int32) : MetV (S := (Nat → Int32)) l yX1_dieOn cX1_dieOn 2 none (rm 0 0) D cI tt [.ref (a 3), .int v] (cW cI a i r) (fun i' => SP i i' ∧ i' 5 = 0 ∧ i' 6 = 0 ∧ i' 9 = v) (fun i' => cW cI a i' r) := by
  refine met_ofV (by decide) (Nat.le_of_ble_eq_true rfl) ?_
  intro pP eE sS mM aV bB mE cC AA C hin
  refine z_conv (lv' := [(0, .ref (a 3)), (1, .int v)]) ⟨rfl, rfl, trivial⟩ rfl rfl ?_
  refine z_aload_n C (pc := 0) dX1_dieOn_0 rfl ?_
  refine z_iconst C (pc := 1) (v := 0) dX1_dieOn_1 (by decide) ?_
  refine z_put C (pc := 2) 3 rfl rfl wf_X1 3 (by decide) rfl tyX1 tyX1_ok nmX1 rfl rfl rfl (Nat.le_of_ble_eq_true rfl) (ws' := (cW cI a (upd i 5 0) r)) rfl wl_X1_40 dX1_dieOn_2 ?_
  refine z_aload_n C (pc := 5) dX1_dieOn_5 rfl ?_
  refine z_iconst C (pc := 6) (v := 0) dX1_dieOn_6 (by decide) ?_
  refine z_put C (pc := 7) 3 rfl rfl wf_X1 4 (by decide) rfl tyX1 tyX1_ok nmX1 rfl rfl rfl (Nat.le_of_ble_eq_true rfl) (ws' := (cW cI a (upd (upd i 5 0) 6 0) r)) rfl wl_X1_43 dX1_dieOn_7 ?_
  refine z_aload_n C (pc := 10) dX1_dieOn_10 rfl ?_
  refine z_iload_n C (pc := 11) dX1_dieOn_11 rfl ?_
  refine z_put C (pc := 12) 3 rfl rfl wf_X1 7 (by decide) rfl tyX1 tyX1_ok nmX1 rfl rfl rfl (Nat.le_of_ble_eq_true rfl) (ws' := (cW cI a (upd (upd (upd i 5 0) 6 0) 9 v) r)) rfl wl_X1_75 dX1_dieOn_12 ?_
  refine z_vret C (pc := 15) (upd (upd (upd i 5 0) 6 0) 9 v) dX1_dieOn_15 ?_ rfl
  exact ⟨((SP.rf.up (by omega)).up (by omega)).up (by omega), by simp [upd], by simp [upd], by simp [upd]⟩

set_option maxHeartbeats 4000000 in
set_option maxRecDepth 100000 in
theorem c_devour (l : Launch) (D : va_G) (cI : ClassId) (tt : Nat × Nat × Nat) (a : Nat → Nat) (i : Nat → Int32) (r : Nat → Nat → Int32) (kd : Nat → Nat) (n x f : Nat) (hv : PV i r kd n) (hs : PS i kd n x f) (ho : OK kd n x f) (k : Nat) (hk : k < n) : MetV (S := (Nat → Int32)) l yX1_devour cX1_devour 3 none (rm 1 21) D cI tt [.ref (a 3), .int (nI k)] (cW cI a i r) (fun i' => SP i i' ∧ i' 9 = i 9 ∧ PS i' kd n (dev kd n k (x, f)).1 (dev kd n k (x, f)).2) (fun i' => cW cI a i' r) := by
  have hn6 := hv.2.1
  have hx6 := pow_le6 hn6
  have hx := ho.1
  refine met_ofV (by decide) (Nat.le_of_ble_eq_true rfl) ?_
  intro pP eE sS mM aV bB mE cC AA C hin
  refine z_conv (lv' := [(0, .ref (a 3)), (1, .int (nI k))]) ⟨rfl, rfl, trivial⟩ rfl rfl ?_
  refine z_aload_n C (pc := 0) dX1_devour_0 rfl ?_
  refine z_get C (pc := 1) 3 rfl rfl wf_X1 3 (by decide) rfl wl_X1_40 (v := .int (i 5)) rfl dX1_devour_1 ?_
  refine z_iload_n C (pc := 4) dX1_devour_4 rfl ?_
  refine z_ishr C (pc := 5) dX1_devour_5 ?_
  refine z_iconst C (pc := 6) (v := 1) dX1_devour_6 (by decide) ?_
  refine z_iand C (pc := 7) dX1_devour_7 ?_
  refine z_if_ne C (pc := 8) (tgt := 12) dX1_devour_8 (by decide) (fun c_1 => ?_) (fun c_1 => ?_)
  · have hb := bt1' (by omega) (by omega) (hs.1 ▸ c_1)
    refine z_aload_n C (pc := 12) dX1_devour_12 rfl ?_
    refine z_get C (pc := 13) 3 rfl rfl wf_X1 0 (by decide) rfl wl_X1_9 (v := .ref (a 4)) rfl dX1_devour_13 ?_
    refine z_iload_n C (pc := 16) dX1_devour_16 rfl ?_
    refine z_calli C (isC := [4]) rfl (by exact fun _ => rfl) (runSN C (wc := [(a 4, .inl (cI, 6, .inl (r 1)))]) (pc := 17) (rY' := rm 0 0) (nn := 2) (As := [.ref (a 4), .int (nI k)]) (rest := []) (c_at l D cI tt (a 4) 6 (r 1) (nI k) (by decide)) rfl rfl ⟨rfl, rfl, ⟨Nat.le_of_ble_eq_true rfl, Nat.le_of_ble_eq_true rfl⟩, Nat.le_of_ble_eq_true rfl, Nat.le_of_ble_eq_true rfl⟩ wl_X1_22 ws_X3_at wi_X3 wc_X3_at (by decide +kernel) rfl rfl (Nat.le_of_ble_eq_true rfl) dX1_devour_17) (fun r_2 u_2 h_2 => ?_)
    have h_2 : r_2 = (nI (kd k)) := h_2.trans (kind_at hv hk)
    subst h_2
    refine z_ws (st' := [.int (nI (kd k))]) (ws' := (cW cI a i r)) rfl rfl ?_
    refine z_istore_n C (pc := 20) (lv' := [(0, .ref (a 3)), (1, .int (nI k)), (2, .int (nI (kd k)))]) dX1_devour_20 (Nat.le_of_ble_eq_true rfl) rfl rfl ?_
    refine z_aload_n C (pc := 21) dX1_devour_21 rfl ?_
    refine z_dup C (pc := 22) dX1_devour_22 rfl ?_
    refine z_get C (pc := 23) 3 rfl rfl wf_X1 3 (by decide) rfl wl_X1_40 (v := .int (i 5)) rfl dX1_devour_23 ?_
    refine z_iconst C (pc := 26) (v := 1) dX1_devour_26 (by decide) ?_
    refine z_iload_n C (pc := 27) dX1_devour_27 rfl ?_
    refine z_ishl C (pc := 28) dX1_devour_28 ?_
    refine z_iconst C (pc := 29) (v := (-1)) dX1_devour_29 (by decide) ?_
    refine z_ixor C (pc := 30) dX1_devour_30 ?_
    refine z_iand C (pc := 31) dX1_devour_31 ?_
    refine z_put C (pc := 32) 3 rfl rfl wf_X1 3 (by decide) rfl tyX1 tyX1_ok nmX1 rfl rfl rfl (Nat.le_of_ble_eq_true rfl) (ws' := (cW cI a (upd i 5 ((i 5) &&& ((1 <<< ((nI k) &&& 31)) ^^^ (-1)))) r)) rfl wl_X1_40 dX1_devour_32 ?_
    refine z_aload_n C (pc := 35) dX1_devour_35 rfl ?_
    refine z_dup C (pc := 36) dX1_devour_36 rfl ?_
    refine z_get C (pc := 37) 3 rfl rfl wf_X1 5 (by decide) rfl wl_X1_63 (v := .int (i 7)) rfl dX1_devour_37 ?_
    refine z_getsN C (pc := 40) C.2.2.2.2.2.2.2.1.1.1 wl_X1_56 dX1_devour_40 ?_
    refine z_iload_n C (pc := 43) dX1_devour_43 rfl ?_
    refine z_calli C (isC := []) rfl (by exact fun _ => rfl) (runSN C (wc := []) (pc := 44) (rY' := rm 0 0) (nn := 2) (As := [.ref tt.1, .int (nI (kd k))]) (rest := [.int (i 7), .ref (a 3)]) (c_atP l D cI tt (nI (kd k))) rfl rfl ⟨rfl, rfl, ⟨Nat.le_of_ble_eq_true rfl, Nat.le_of_ble_eq_true rfl⟩, Nat.le_of_ble_eq_true rfl, Nat.le_of_ble_eq_true rfl⟩ wl_X1_22 ws_X3_at wi_X3 wc_X3_at (by decide +kernel) rfl rfl (Nat.le_of_ble_eq_true rfl) dX1_devour_44) (fun r_3 u_3 h_3 => ?_)
    have h_3 : r_3 = (nI (pls (kd k))) := h_3.trans (tabP (hv.2.2 k hk).2)
    subst h_3
    refine z_ws (st' := [.int (nI (pls (kd k))), .int (i 7), .ref (a 3)]) (ws' := (cW cI a (upd i 5 ((i 5) &&& ((1 <<< ((nI k) &&& 31)) ^^^ (-1)))) r)) rfl rfl ?_
    refine z_isub C (pc := 47) dX1_devour_47 ?_
    refine z_put C (pc := 48) 3 rfl rfl wf_X1 5 (by decide) rfl tyX1 tyX1_ok nmX1 rfl rfl rfl (Nat.le_of_ble_eq_true rfl) (ws' := (cW cI a (upd (upd i 5 ((i 5) &&& ((1 <<< ((nI k) &&& 31)) ^^^ (-1)))) 7 ((i 7) - (nI (pls (kd k))))) r)) rfl wl_X1_63 dX1_devour_48 ?_
    refine z_aload_n C (pc := 51) dX1_devour_51 rfl ?_
    refine z_dup C (pc := 52) dX1_devour_52 rfl ?_
    refine z_get C (pc := 53) 3 rfl rfl wf_X1 6 (by decide) rfl wl_X1_46 (v := .int (i 8)) rfl dX1_devour_53 ?_
    refine z_getsN C (pc := 56) C.2.2.2.2.2.2.2.1.2.1.1 wl_X1_66 dX1_devour_56 ?_
    refine z_iload_n C (pc := 59) dX1_devour_59 rfl ?_
    refine z_calli C (isC := []) rfl (by exact fun _ => rfl) (runSN C (wc := []) (pc := 60) (rY' := rm 0 0) (nn := 2) (As := [.ref tt.2.1, .int (nI (kd k))]) (rest := [.int (i 8), .ref (a 3)]) (c_atE l D cI tt (nI (kd k))) rfl rfl ⟨rfl, rfl, ⟨Nat.le_of_ble_eq_true rfl, Nat.le_of_ble_eq_true rfl⟩, Nat.le_of_ble_eq_true rfl, Nat.le_of_ble_eq_true rfl⟩ wl_X1_22 ws_X3_at wi_X3 wc_X3_at (by decide +kernel) rfl rfl (Nat.le_of_ble_eq_true rfl) dX1_devour_60) (fun r_4 u_4 h_4 => ?_)
    have h_4 : r_4 = (nI (ets (kd k))) := h_4.trans (tabE (hv.2.2 k hk).2)
    subst h_4
    refine z_ws (st' := [.int (nI (ets (kd k))), .int (i 8), .ref (a 3)]) (ws' := (cW cI a (upd (upd i 5 ((i 5) &&& ((1 <<< ((nI k) &&& 31)) ^^^ (-1)))) 7 ((i 7) - (nI (pls (kd k))))) r)) rfl rfl ?_
    refine z_isub C (pc := 63) dX1_devour_63 ?_
    refine z_put C (pc := 64) 3 rfl rfl wf_X1 6 (by decide) rfl tyX1 tyX1_ok nmX1 rfl rfl rfl (Nat.le_of_ble_eq_true rfl) (ws' := (cW cI a (upd (upd (upd i 5 ((i 5) &&& ((1 <<< ((nI k) &&& 31)) ^^^ (-1)))) 7 ((i 7) - (nI (pls (kd k))))) 8 ((i 8) - (nI (ets (kd k))))) r)) rfl wl_X1_46 dX1_devour_64 ?_
    refine z_aload_n C (pc := 67) dX1_devour_67 rfl ?_
    refine z_aload_n C (pc := 68) dX1_devour_68 rfl ?_
    refine z_get C (pc := 69) 3 rfl rfl wf_X1 4 (by decide) rfl wl_X1_43 (v := .int (i 6)) rfl dX1_devour_69 ?_
    refine z_getsN C (pc := 72) C.2.2.2.2.2.2.2.1.2.2.1 wl_X1_85 dX1_devour_72 ?_
    refine z_iload_n C (pc := 75) dX1_devour_75 rfl ?_
    refine z_calli C (isC := []) rfl (by exact fun _ => rfl) (runSN C (wc := []) (pc := 76) (rY' := rm 0 0) (nn := 2) (As := [.ref tt.2.2, .int (nI (kd k))]) (rest := [.int (i 6), .ref (a 3)]) (c_atF l D cI tt (nI (kd k))) rfl rfl ⟨rfl, rfl, ⟨Nat.le_of_ble_eq_true rfl, Nat.le_of_ble_eq_true rfl⟩, Nat.le_of_ble_eq_true rfl, Nat.le_of_ble_eq_true rfl⟩ wl_X1_22 ws_X3_at wi_X3 wc_X3_at (by decide +kernel) rfl rfl (Nat.le_of_ble_eq_true rfl) dX1_devour_76) (fun r_5 u_5 h_5 => ?_)
    have h_5 : r_5 = (nI (fds (kd k))) := h_5.trans (tabF (hv.2.2 k hk).2)
    subst h_5
    refine z_ws (st' := [.int (nI (fds (kd k))), .int (i 6), .ref (a 3)]) (ws' := (cW cI a (upd (upd (upd i 5 ((i 5) &&& ((1 <<< ((nI k) &&& 31)) ^^^ (-1)))) 7 ((i 7) - (nI (pls (kd k))))) 8 ((i 8) - (nI (ets (kd k))))) r)) rfl rfl ?_
    refine z_iadd C (pc := 79) dX1_devour_79 ?_
    refine z_aload_n C (pc := 80) dX1_devour_80 rfl ?_
    refine z_get C (pc := 81) 3 rfl rfl wf_X1 5 (by decide) rfl wl_X1_63 (v := .int ((i 7) - (nI (pls (kd k))))) rfl dX1_devour_81 ?_
    refine z_mmin C (pc := 84) wl_X1_69 (Nat.le_of_ble_eq_true rfl) (Nat.le_of_ble_eq_true rfl) (Nat.zero_le _) (Nat.zero_le _) dX1_devour_84 ?_
    refine z_put C (pc := 87) 3 rfl rfl wf_X1 4 (by decide) rfl tyX1 tyX1_ok nmX1 rfl rfl rfl (Nat.le_of_ble_eq_true rfl) (ws' := (cW cI a (upd (upd (upd (upd i 5 ((i 5) &&& ((1 <<< ((nI k) &&& 31)) ^^^ (-1)))) 7 ((i 7) - (nI (pls (kd k))))) 8 ((i 8) - (nI (ets (kd k))))) 6 (if ((i 7) - (nI (pls (kd k)))) < ((i 6) + (nI (fds (kd k)))) then ((i 7) - (nI (pls (kd k)))) else ((i 6) + (nI (fds (kd k)))))) r)) rfl wl_X1_43 dX1_devour_87 ?_
    refine z_vret C (pc := 90) (upd (upd (upd (upd i 5 ((i 5) &&& ((1 <<< ((nI k) &&& 31)) ^^^ (-1)))) 7 ((i 7) - (nI (pls (kd k))))) 8 ((i 8) - (nI (ets (kd k))))) 6 (if ((i 7) - (nI (pls (kd k)))) < ((i 6) + (nI (fds (kd k)))) then ((i 7) - (nI (pls (kd k)))) else ((i 6) + (nI (fds (kd k)))))) dX1_devour_90 ?_ rfl
    have e5 : i 5 &&& ((1 <<< (nI k &&& 31)) ^^^ (-1)) = nI (x - 2 ^ k) := by rw [hs.1]; exact and_not x (by omega) k (by omega) hb
    have hp := sumk_sub (g := pls) (kd := kd) (by omega) (by omega) hb n hn6 hk
    have hq := sumk_sub (g := ets) (kd := kd) (by omega) (by omega) hb n hn6 hk
    have e7 : i 7 - nI (pls (kd k)) = nI (sumk pls kd (x - 2 ^ k) n) := by rw [hs.2.2.1, ← hp, ← nI_add]; simp
    have e8 : i 8 - nI (ets (kd k)) = nI (sumk ets kd (x - 2 ^ k) n) := by rw [hs.2.2.2, ← hq, ← nI_add]; simp
    have hf := fds_le (kd k)
    have hpl := pl_le (kd := kd) (x := x) hn6
    have hpl2 := pl_le (kd := kd) (x := x - 2 ^ k) hn6
    have hof := ho.2
    have e6 : (if i 7 - nI (pls (kd k)) < i 6 + nI (fds (kd k)) then i 7 - nI (pls (kd k)) else i 6 + nI (fds (kd k))) = nI (min (f + fds (kd k)) (sumk pls kd (x - 2 ^ k) n)) := by
      rw [e7, hs.2.1, nI_add, min_nI (by omega) (by omega)]
    refine ⟨(((SP.rf.up (by omega)).up (by omega)).up (by omega)).up (by omega), by simp [upd], ?_⟩
    unfold dev
    rw [if_pos hb]
    refine ⟨?_, ?_, ?_, ?_⟩
    · rw [upd_n (by decide), upd_n (by decide), upd_n (by decide), upd_s]; exact e5
    · rw [upd_s]; exact e6
    · rw [upd_n (by decide), upd_n (by decide), upd_s]; exact e7
    · rw [upd_n (by decide), upd_s]; exact e8
  · refine z_vret C (pc := 11) i dX1_devour_11 ?_ rfl
    have hb := bt0' (by omega) (by omega) (hs.1 ▸ c_1)
    refine ⟨SP.rf, rfl, ?_⟩
    unfold dev; rw [if_neg (show ¬ bt x k = 1 by omega)]; exact hs
end
section
theorem add_m1 (x : Int32) : x + (-1) = x - 1 := (Int32.sub_eq_add_neg x 1).symm
theorem neg_pred : ∀ m, m < 7 → (nI m - 1 < 0 ↔ m = 0) := by decide +kernel
theorem nI_eq1 {t : Nat} (h : t < 2 ^ 31) : nI t = 1 ↔ t = 1 := nI_eq (b := 1) h (by decide)
theorem isOf_2 : ∀ t, t ≤ 4 → (isOfv (nI t) 2 = 0 ↔ ¬ (t = 2 ∨ t = 4)) := by decide +kernel
theorem pon_s {kd : Nat → Nat} {n k : Nat} {s : Nat × Nat} (h : kd k = 1) : pon kd n (k + 1) s = pon kd n k (dev kd n k s) := by
  show pon kd n k (if kd k = 1 then _ else _) = _
  rw [if_pos h]
theorem pon_n {kd : Nat → Nat} {n k : Nat} {s : Nat × Nat} (h : ¬ kd k = 1) : pon kd n (k + 1) s = pon kd n k s := by
  show pon kd n k (if kd k = 1 then _ else _) = _
  rw [if_neg h]
theorem bea_s {kd : Nat → Nat} {n k : Nat} {s : Nat × Nat} (h0 : s.2 < sumk ets kd s.1 n) (h : isB (kd k) = true) : bea kd n (k + 1) s = bea kd n k (dev kd n k s) := by
  show (if _ then bea kd n k (if isB (kd k) = true then _ else _) else _) = _
  rw [if_pos h0, if_pos h]
theorem bea_n {kd : Nat → Nat} {n k : Nat} {s : Nat × Nat} (h0 : s.2 < sumk ets kd s.1 n) (h : ¬ isB (kd k) = true) : bea kd n (k + 1) s = bea kd n k s := by
  show (if _ then bea kd n k (if isB (kd k) = true then _ else _) else _) = _
  rw [if_pos h0, if_neg h]
theorem bea_x {kd : Nat → Nat} {n : Nat} {s : Nat × Nat} (h0 : ¬ s.2 < sumk ets kd s.1 n) : ∀ k, bea kd n k s = s
  | 0 => rfl
  | k + 1 => by
    show (if _ then _ else _) = _
    rw [if_neg h0]
theorem isB_iff (t : Nat) : isB t = true ↔ t = 1 ∨ t = 2 ∨ t = 4 := by simp [isB, or_assoc]
def cav (c : Nat → Nat) (q : Nat) : Nat := if q = 0 then 0 else c (q - 1)
theorem pred_neg : ∀ q, q < 6 → (nI q - 1 < 0 ↔ q = 0) := by decide +kernel
theorem pred_5 : ∀ q, q < 6 → ¬ nI 5 ≤ nI q - 1 := by decide +kernel
theorem pred_cl : ∀ q, q < 6 → q ≠ 0 → (nI q - 1).toNatClampNeg = q - 1 := by decide +kernel
theorem at_c {f : Nat → Int32} {c : Nat → Nat} {q : Nat} (hq : q < 6) (h : ∀ k, k < 5 → f k = nI (c k) ∧ c k ≤ 9) : atv 5 f (nI q - 1) = nI (cav c q) := by
  unfold atv cav
  by_cases e : q = 0
  · rw [if_pos ((pred_neg q hq).mpr e), if_pos e]; rfl
  · rw [if_neg (fun h => e ((pred_neg q hq).mp h)), if_neg (pred_5 q hq), if_neg e, pred_cl q hq e]
    exact (h (q - 1) (by omega)).1
theorem put_c {f : Nat → Int32} {q : Nat} {v : Int32} (hq : q < 6) : putv 5 f (nI q - 1) v = if q = 0 then f else upd f (q - 1) v := by
  unfold putv
  by_cases e : q = 0
  · rw [if_pos ((pred_neg q hq).mpr e), if_pos e]
  · rw [if_neg (fun h => e ((pred_neg q hq).mp h)), if_neg (pred_5 q hq), if_neg e, pred_cl q hq e]
theorem cav_le {f : Nat → Int32} (c : Nat → Nat) (q : Nat) (h : ∀ k, k < 5 → f k = nI (c k) ∧ c k ≤ 9) : q < 6 → cav c q ≤ 9 := fun hq => by
  unfold cav
  by_cases e : q = 0
  · rw [if_pos e]; decide
  · rw [if_neg e]; exact (h _ (by omega)).2
set_option maxHeartbeats 4000000 in
set_option maxRecDepth 100000 in
theorem c_eatPonies (l : Launch) (D : va_G) (cI : ClassId) (tt : Nat × Nat × Nat) (a : Nat → Nat) (i : Nat → Int32) (r : Nat → Nat → Int32) (kd : Nat → Nat) (n x f : Nat) (hv : PV i r kd n) (hs : PS i kd n x f) (ho : OK kd n x f) : MetV (S := (Nat → Int32)) l yX1_eatPonies cX1_eatPonies 2 none (rm 2 43) D cI tt [.ref (a 3)] (cW cI a i r) (fun i' => SP i i' ∧ i' 9 = i 9 ∧ PS i' kd n (pon kd n n (x, f)).1 (pon kd n n (x, f)).2) (fun i' => cW cI a i' r) := by
  have hn6 := hv.2.1
  have hx6 := pow_le6 hn6
  have hx := ho.1
  refine met_ofV (by decide) (Nat.le_of_ble_eq_true rfl) ?_
  intro pP eE sS mM aV bB mE cC AA C hin
  refine z_conv (lv' := [(0, .ref (a 3))]) ⟨rfl, trivial⟩ rfl rfl ?_
  refine z_aload_n C (pc := 0) dX1_eatPonies_0 rfl ?_
  refine z_get C (pc := 1) 3 rfl rfl wf_X1 1 (by decide) rfl wl_X1_18 (v := .int (i 4)) rfl dX1_eatPonies_1 ?_
  refine z_iconst C (pc := 4) (v := 1) dX1_eatPonies_4 (by decide) ?_
  refine z_isub C (pc := 5) dX1_eatPonies_5 ?_
  refine z_istore_n C (pc := 6) (lv' := [(0, .ref (a 3)), (1, .int ((i 4) - 1))]) dX1_eatPonies_6 (Nat.le_of_ble_eq_true rfl) rfl rfl ?_
  have key7 : ∀ (fu7 : Nat) (m x' f' : Nat) (i' : Nat → Int32), m < fu7 → (m ≤ n) → (SP i i') → (i' 9 = i 9) → (PS i' kd n x' f') → (OK kd n x' f') → (pon kd n m (x', f') = pon kd n n (x, f)) → Z pP l eE (rm 2 43) sS mM aV bB mE cC D AA 2 0 0 (MQ bB (va_Qv (S := (Nat → Int32)) (fun i' => SP i i' ∧ i' 9 = i 9 ∧ PS i' kd n (pon kd n n (x, f)).1 (pon kd n n (x, f)).2) (fun u t => va_P D vwCl ((fun i' => cW cI a i' r) u) t.heap) AA) aV sS 0 0 AA) 7 [(0, .ref (a 3)), (1, .int (nI m - 1))] [] (cW cI a i' r) := by
    intro fu7
    induction fu7 with
    | zero => intro m x' f' i' hfu7; exact absurd hfu7 (Nat.not_lt_zero _)
    | succ fu7 ih7 =>
      intro m x' f' i' hfu7 hm hsp h9 hps hok heq
      refine z_iload_n C (pc := 7) dX1_eatPonies_7 rfl ?_
      refine z_if_lt C (pc := 8) (tgt := 34) dX1_eatPonies_8 (by decide) (fun c_1 => ?_) (fun c_1 => ?_)
      · refine z_vret C (pc := 34) i' dX1_eatPonies_34 ?_ rfl
        have hm0 := (neg_pred m (by omega)).mp c_1
        subst hm0
        refine ⟨hsp, h9, ?_⟩
        rw [← heq]; exact hps
      · obtain ⟨k, rfl⟩ : ∃ k, m = k + 1 := ⟨m - 1, by have hm0 : m ≠ 0 := (fun h => c_1 ((neg_pred m (by omega)).mpr h)); omega⟩
        refine z_lv (lv' := [(0, .ref (a 3)), (1, .int (nI k))]) ⟨rfl, lki (nI_pred k), trivial⟩ ?_
        have hk : k < n := by omega
        have hv' := hv.sp hsp (SR.rf (r := r))
        refine z_aload_n C (pc := 11) dX1_eatPonies_11 rfl ?_
        refine z_get C (pc := 12) 3 rfl rfl wf_X1 0 (by decide) rfl wl_X1_9 (v := .ref (a 4)) rfl dX1_eatPonies_12 ?_
        refine z_iload_n C (pc := 15) dX1_eatPonies_15 rfl ?_
        refine z_calli C (isC := [4]) rfl (by exact fun _ => rfl) (runSN C (wc := [(a 4, .inl (cI, 6, .inl (r 1)))]) (pc := 16) (rY' := rm 0 0) (nn := 2) (As := [.ref (a 4), .int (nI k)]) (rest := []) (c_at l D cI tt (a 4) 6 (r 1) (nI k) (by decide)) rfl rfl ⟨rfl, rfl, ⟨Nat.le_of_ble_eq_true rfl, Nat.le_of_ble_eq_true rfl⟩, Nat.le_of_ble_eq_true rfl, Nat.le_of_ble_eq_true rfl⟩ wl_X1_22 ws_X3_at wi_X3 wc_X3_at (by decide +kernel) rfl rfl (Nat.le_of_ble_eq_true rfl) dX1_eatPonies_16) (fun r_2 u_2 h_2 => ?_)
        have h_2 : r_2 = (nI (kd k)) := h_2.trans (kind_at hv' hk)
        subst h_2
        refine z_ws (st' := [.int (nI (kd k))]) (ws' := (cW cI a i' r)) rfl rfl ?_
        refine z_iconst C (pc := 19) (v := 1) dX1_eatPonies_19 (by decide) ?_
        refine z_icmp_ne C (pc := 20) (tgt := 28) dX1_eatPonies_20 (by decide) (fun c_3 => ?_) (fun c_3 => ?_)
        · have hkd : ¬ kd k = 1 := fun h => c_3 ((nI_eq1 (by have := (hv.2.2 k hk).2; omega)).mpr h)
          refine z_iinc C (pc := 28) (v := ((nI k) + (-1))) (lv' := [(0, .ref (a 3)), (1, .int ((nI k) + (-1)))]) dX1_eatPonies_28 rfl rfl (Nat.le_of_ble_eq_true rfl) rfl rfl ?_
          refine z_goto C (pc := 31) (tgt := 7) dX1_eatPonies_31 (by decide) ?_
          refine z_lv (lv' := [(0, .ref (a 3)), (1, .int (nI k - 1))]) ⟨rfl, lki (add_m1 _), trivial⟩ ?_
          exact ih7 k x' f' i' (by omega) (by omega) hsp h9 hps hok ((pon_n hkd).symm.trans heq)
        · have hkd : kd k = 1 := (nI_eq1 (by have := (hv.2.2 k hk).2; omega)).mp c_3
          refine z_aload_n C (pc := 23) dX1_eatPonies_23 rfl ?_
          refine z_iload_n C (pc := 24) dX1_eatPonies_24 rfl ?_
          refine z_callvF C (by exact fun _ => cW_ad) (runV C (wc := (cW cI a i' r)) (pc := 25) (rY' := rm 1 21) (nn := 1) (As := [.int (nI k)]) (rest := []) (c_devour l D cI tt a i' r kd n x' f' hv' hps hok k hk) (full_hC _) (full_nd _) ⟨rfl, rfl, ⟨Nat.le_of_ble_eq_true rfl, Nat.le_of_ble_eq_true rfl⟩, Nat.le_of_ble_eq_true rfl, Nat.le_of_ble_eq_true rfl⟩ wl_X1_78 wm_X1_devour we_X1_devour wi_X1 wc_X1_devour (by decide +kernel) rfl 3 rfl rfl rfl rfl (Nat.le_of_ble_eq_true rfl) dX1_eatPonies_25) (fun u_4 h_4 => ?_)
          generalize u_4 = i4 at h_4 ⊢
          obtain ⟨g1, g2, g3⟩ := h_4
          refine z_ws (st' := []) (ws' := (cW cI a i4 r)) rfl rfl ?_
          refine z_iinc C (pc := 28) (v := ((nI k) + (-1))) (lv' := [(0, .ref (a 3)), (1, .int ((nI k) + (-1)))]) dX1_eatPonies_28 rfl rfl (Nat.le_of_ble_eq_true rfl) rfl rfl ?_
          refine z_goto C (pc := 31) (tgt := 7) dX1_eatPonies_31 (by decide) ?_
          refine z_lv (lv' := [(0, .ref (a 3)), (1, .int (nI k - 1))]) ⟨rfl, lki (add_m1 _), trivial⟩ ?_
          exact ih7 k ((dev kd n k (x', f')).1) ((dev kd n k (x', f')).2) i4 (by omega) (by omega) (hsp.tr g1) (g2.trans h9) g3 (dev_ok hn6 hk hok) ((pon_s hkd).symm.trans heq)
  refine z_lv (lv' := [(0, .ref (a 3)), (1, .int (nI n - 1))]) ⟨rfl, lki (by rw [hv.1]), trivial⟩ ?_
  exact key7 (_ + 1) n x f i (Nat.lt_succ_self _) (Nat.le_refl _) SP.rf rfl hs ho rfl

set_option maxHeartbeats 4000000 in
set_option maxRecDepth 100000 in
theorem c_eatBeasts (l : Launch) (D : va_G) (cI : ClassId) (tt : Nat × Nat × Nat) (a : Nat → Nat) (i : Nat → Int32) (r : Nat → Nat → Int32) (kd : Nat → Nat) (n x f : Nat) (hv : PV i r kd n) (hs : PS i kd n x f) (ho : OK kd n x f) : MetV (S := (Nat → Int32)) l yX1_eatBeasts cX1_eatBeasts 3 none (rm 2 43) D cI tt [.ref (a 3)] (cW cI a i r) (fun i' => SP i i' ∧ i' 9 = i 9 ∧ PS i' kd n (bea kd n n (x, f)).1 (bea kd n n (x, f)).2) (fun i' => cW cI a i' r) := by
  have hn6 := hv.2.1
  have hx6 := pow_le6 hn6
  have hx := ho.1
  refine met_ofV (by decide) (Nat.le_of_ble_eq_true rfl) ?_
  intro pP eE sS mM aV bB mE cC AA C hin
  refine z_conv (lv' := [(0, .ref (a 3))]) ⟨rfl, trivial⟩ rfl rfl ?_
  refine z_aload_n C (pc := 0) dX1_eatBeasts_0 rfl ?_
  refine z_get C (pc := 1) 3 rfl rfl wf_X1 1 (by decide) rfl wl_X1_18 (v := .int (i 4)) rfl dX1_eatBeasts_1 ?_
  refine z_iconst C (pc := 4) (v := 1) dX1_eatBeasts_4 (by decide) ?_
  refine z_isub C (pc := 5) dX1_eatBeasts_5 ?_
  refine z_istore_n C (pc := 6) (lv' := [(0, .ref (a 3)), (1, .int ((i 4) - 1))]) dX1_eatBeasts_6 (Nat.le_of_ble_eq_true rfl) rfl rfl ?_
  have key7 : ∀ (fu7 : Nat) (m x' f' : Nat) (i' : Nat → Int32), m < fu7 → (m ≤ n) → (SP i i') → (i' 9 = i 9) → (PS i' kd n x' f') → (OK kd n x' f') → (bea kd n m (x', f') = bea kd n n (x, f)) → Z pP l eE (rm 2 43) sS mM aV bB mE cC D AA 3 0 0 (MQ bB (va_Qv (S := (Nat → Int32)) (fun i' => SP i i' ∧ i' 9 = i 9 ∧ PS i' kd n (bea kd n n (x, f)).1 (bea kd n n (x, f)).2) (fun u t => va_P D vwCl ((fun i' => cW cI a i' r) u) t.heap) AA) aV sS 0 0 AA) 7 [(0, .ref (a 3)), (1, .int (nI m - 1))] [] (cW cI a i' r) := by
    intro fu7
    induction fu7 with
    | zero => intro m x' f' i' hfu7; exact absurd hfu7 (Nat.not_lt_zero _)
    | succ fu7 ih7 =>
      intro m x' f' i' hfu7 hm hsp h9 hps hok heq
      refine z_iload_n C (pc := 7) dX1_eatBeasts_7 rfl ?_
      refine z_if_lt C (pc := 8) (tgt := 55) dX1_eatBeasts_8 (by decide) (fun c_1 => ?_) (fun c_1 => ?_)
      · refine z_vret C (pc := 55) i' dX1_eatBeasts_55 ?_ rfl
        have hm0 := (neg_pred m (by omega)).mp c_1
        subst hm0
        refine ⟨hsp, h9, ?_⟩
        rw [← heq]; exact hps
      · obtain ⟨k, rfl⟩ : ∃ k, m = k + 1 := ⟨m - 1, by have hm0 : m ≠ 0 := (fun h => c_1 ((neg_pred m (by omega)).mpr h)); omega⟩
        refine z_lv (lv' := [(0, .ref (a 3)), (1, .int (nI k))]) ⟨rfl, lki (nI_pred k), trivial⟩ ?_
        have hk : k < n := by omega
        have hv' := hv.sp hsp (SR.rf (r := r))
        refine z_aload_n C (pc := 11) dX1_eatBeasts_11 rfl ?_
        refine z_get C (pc := 12) 3 rfl rfl wf_X1 4 (by decide) rfl wl_X1_43 (v := .int (i' 6)) rfl dX1_eatBeasts_12 ?_
        refine z_aload_n C (pc := 15) dX1_eatBeasts_15 rfl ?_
        refine z_get C (pc := 16) 3 rfl rfl wf_X1 6 (by decide) rfl wl_X1_46 (v := .int (i' 8)) rfl dX1_eatBeasts_16 ?_
        refine z_icmp_ge C (pc := 19) (tgt := 55) dX1_eatBeasts_19 (by decide) (fun c_2 => ?_) (fun c_2 => ?_)
        · refine z_vret C (pc := 55) i' dX1_eatBeasts_55 ?_ rfl
          have hge : ¬ (x', f').2 < sumk ets kd (x', f').1 n := by
            rw [hps.2.2.2, hps.2.1] at c_2
            have := ge_of_nI c_2 (by have := et_le (kd := kd) (x := x') hn6; omega)
            exact Nat.not_lt.mpr this
          refine ⟨hsp, h9, ?_⟩
          rw [← heq, bea_x hge]; exact hps
        · have hlt : (x', f').2 < sumk ets kd (x', f').1 n := by
            rw [hps.2.2.2, hps.2.1] at c_2
            exact lt_of_nI c_2 (by have := hok.2; have := pl_le (kd := kd) (x := x') hn6; omega)
          refine z_aload_n C (pc := 22) dX1_eatBeasts_22 rfl ?_
          refine z_get C (pc := 23) 3 rfl rfl wf_X1 0 (by decide) rfl wl_X1_9 (v := .ref (a 4)) rfl dX1_eatBeasts_23 ?_
          refine z_iload_n C (pc := 26) dX1_eatBeasts_26 rfl ?_
          refine z_calli C (isC := [4]) rfl (by exact fun _ => rfl) (runSN C (wc := [(a 4, .inl (cI, 6, .inl (r 1)))]) (pc := 27) (rY' := rm 0 0) (nn := 2) (As := [.ref (a 4), .int (nI k)]) (rest := []) (c_at l D cI tt (a 4) 6 (r 1) (nI k) (by decide)) rfl rfl ⟨rfl, rfl, ⟨Nat.le_of_ble_eq_true rfl, Nat.le_of_ble_eq_true rfl⟩, Nat.le_of_ble_eq_true rfl, Nat.le_of_ble_eq_true rfl⟩ wl_X1_22 ws_X3_at wi_X3 wc_X3_at (by decide +kernel) rfl rfl (Nat.le_of_ble_eq_true rfl) dX1_eatBeasts_27) (fun r_3 u_3 h_3 => ?_)
          have h_3 : r_3 = (nI (kd k)) := h_3.trans (kind_at hv' hk)
          subst h_3
          refine z_ws (st' := [.int (nI (kd k))]) (ws' := (cW cI a i' r)) rfl rfl ?_
          refine z_istore_n C (pc := 30) (lv' := [(0, .ref (a 3)), (1, .int (nI k)), (2, .int (nI (kd k)))]) dX1_eatBeasts_30 (Nat.le_of_ble_eq_true rfl) rfl rfl ?_
          refine z_iload_n C (pc := 31) dX1_eatBeasts_31 rfl ?_
          refine z_iconst C (pc := 32) (v := 1) dX1_eatBeasts_32 (by decide) ?_
          refine z_icmp_eq C (pc := 33) (tgt := 44) dX1_eatBeasts_33 (by decide) (fun c_4 => ?_) (fun c_4 => ?_)
          · have hkd : isB (kd k) = true := (isB_iff _).mpr (Or.inl ((nI_eq1 (by have := (hv.2.2 k hk).2; omega)).mp c_4))
            refine z_aload_n C (pc := 44) dX1_eatBeasts_44 rfl ?_
            refine z_iload_n C (pc := 45) dX1_eatBeasts_45 rfl ?_
            refine z_callvF C (by exact fun _ => cW_ad) (runV C (wc := (cW cI a i' r)) (pc := 46) (rY' := rm 1 21) (nn := 1) (As := [.int (nI k)]) (rest := []) (c_devour l D cI tt a i' r kd n x' f' hv' hps hok k hk) (full_hC _) (full_nd _) ⟨rfl, rfl, ⟨Nat.le_of_ble_eq_true rfl, Nat.le_of_ble_eq_true rfl⟩, Nat.le_of_ble_eq_true rfl, Nat.le_of_ble_eq_true rfl⟩ wl_X1_78 wm_X1_devour we_X1_devour wi_X1 wc_X1_devour (by decide +kernel) rfl 3 rfl rfl rfl rfl (Nat.le_of_ble_eq_true rfl) dX1_eatBeasts_46) (fun u_5 h_5 => ?_)
            generalize u_5 = i5 at h_5 ⊢
            obtain ⟨g1, g2, g3⟩ := h_5
            refine z_ws (st' := []) (ws' := (cW cI a i5 r)) rfl rfl ?_
            refine z_iinc C (pc := 49) (v := ((nI k) + (-1))) (lv' := [(0, .ref (a 3)), (1, .int ((nI k) + (-1))), (2, .int (nI (kd k)))]) dX1_eatBeasts_49 rfl rfl (Nat.le_of_ble_eq_true rfl) rfl rfl ?_
            refine z_goto C (pc := 52) (tgt := 7) dX1_eatBeasts_52 (by decide) ?_
            refine z_lv (lv' := [(0, .ref (a 3)), (1, .int (nI k - 1))]) ⟨rfl, lki (add_m1 _), trivial⟩ ?_
            exact ih7 k ((dev kd n k (x', f')).1) ((dev kd n k (x', f')).2) i5 (by omega) (by omega) (hsp.tr g1) (g2.trans h9) g3 (dev_ok hn6 hk hok) ((bea_s hlt hkd).symm.trans heq)
          · have hk1 : ¬ kd k = 1 := fun h => c_4 ((nI_eq1 (by have := (hv.2.2 k hk).2; omega)).mpr h)
            refine z_iload_n C (pc := 36) dX1_eatBeasts_36 rfl ?_
            refine z_iconst C (pc := 37) (v := 2) dX1_eatBeasts_37 (by decide) ?_
            refine z_calli C (isC := []) rfl (by exact fun _ => rfl) (runSN C (wc := []) (pc := 38) (rY' := rm 0 0) (nn := 2) (As := [.int (nI (kd k)), .int 2]) (rest := []) (c_isOf l D cI tt (nI (kd k)) 2) rfl rfl ⟨rfl, rfl, ⟨Nat.le_of_ble_eq_true rfl, Nat.le_of_ble_eq_true rfl⟩, Nat.le_of_ble_eq_true rfl, Nat.le_of_ble_eq_true rfl⟩ wl_X1_81 ws_X3_isOf wi_X3 wc_X3_isOf (by decide +kernel) rfl rfl (Nat.le_of_ble_eq_true rfl) dX1_eatBeasts_38) (fun r_6 u_6 h_6 => ?_)
            subst h_6
            refine z_ws (st' := [.int (isOfv (nI (kd k)) 2)]) (ws' := (cW cI a i' r)) rfl rfl ?_
            refine z_if_eq C (pc := 41) (tgt := 49) dX1_eatBeasts_41 (by decide) (fun c_7 => ?_) (fun c_7 => ?_)
            · have hkd : ¬ isB (kd k) = true := fun h => ((isOf_2 _ (hv.2.2 k hk).2).mp c_7) (((isB_iff _).mp h).resolve_left hk1)
              refine z_iinc C (pc := 49) (v := ((nI k) + (-1))) (lv' := [(0, .ref (a 3)), (1, .int ((nI k) + (-1))), (2, .int (nI (kd k)))]) dX1_eatBeasts_49 rfl rfl (Nat.le_of_ble_eq_true rfl) rfl rfl ?_
              refine z_goto C (pc := 52) (tgt := 7) dX1_eatBeasts_52 (by decide) ?_
              refine z_lv (lv' := [(0, .ref (a 3)), (1, .int (nI k - 1))]) ⟨rfl, lki (add_m1 _), trivial⟩ ?_
              exact ih7 k x' f' i' (by omega) (by omega) hsp h9 hps hok ((bea_n hlt hkd).symm.trans heq)
            · have hkd : isB (kd k) = true := (isB_iff _).mpr (Or.inr (Classical.not_not.mp (fun h => c_7 ((isOf_2 _ (hv.2.2 k hk).2).mpr h))))
              refine z_aload_n C (pc := 44) dX1_eatBeasts_44 rfl ?_
              refine z_iload_n C (pc := 45) dX1_eatBeasts_45 rfl ?_
              refine z_callvF C (by exact fun _ => cW_ad) (runV C (wc := (cW cI a i' r)) (pc := 46) (rY' := rm 1 21) (nn := 1) (As := [.int (nI k)]) (rest := []) (c_devour l D cI tt a i' r kd n x' f' hv' hps hok k hk) (full_hC _) (full_nd _) ⟨rfl, rfl, ⟨Nat.le_of_ble_eq_true rfl, Nat.le_of_ble_eq_true rfl⟩, Nat.le_of_ble_eq_true rfl, Nat.le_of_ble_eq_true rfl⟩ wl_X1_78 wm_X1_devour we_X1_devour wi_X1 wc_X1_devour (by decide +kernel) rfl 3 rfl rfl rfl rfl (Nat.le_of_ble_eq_true rfl) dX1_eatBeasts_46) (fun u_8 h_8 => ?_)
              generalize u_8 = i8 at h_8 ⊢
              obtain ⟨g1, g2, g3⟩ := h_8
              refine z_ws (st' := []) (ws' := (cW cI a i8 r)) rfl rfl ?_
              refine z_iinc C (pc := 49) (v := ((nI k) + (-1))) (lv' := [(0, .ref (a 3)), (1, .int ((nI k) + (-1))), (2, .int (nI (kd k)))]) dX1_eatBeasts_49 rfl rfl (Nat.le_of_ble_eq_true rfl) rfl rfl ?_
              refine z_goto C (pc := 52) (tgt := 7) dX1_eatBeasts_52 (by decide) ?_
              refine z_lv (lv' := [(0, .ref (a 3)), (1, .int (nI k - 1))]) ⟨rfl, lki (add_m1 _), trivial⟩ ?_
              exact ih7 k ((dev kd n k (x', f')).1) ((dev kd n k (x', f')).2) i8 (by omega) (by omega) (hsp.tr g1) (g2.trans h9) g3 (dev_ok hn6 hk hok) ((bea_s hlt hkd).symm.trans heq)
  refine z_lv (lv' := [(0, .ref (a 3)), (1, .int (nI n - 1))]) ⟨rfl, lki (by rw [hv.1]), trivial⟩ ?_
  exact key7 (_ + 1) n x f i (Nat.lt_succ_self _) (Nat.le_refl _) SP.rf rfl hs ho rfl

set_option maxHeartbeats 4000000 in
set_option maxRecDepth 100000 in
theorem c_setOut (l : Launch) (D : va_G) (cI : ClassId) (tt : Nat × Nat × Nat) (a : Nat → Nat) (i : Nat → Int32) (r : Nat → Nat → Int32) (kd : Nat → Nat) (n x f : Nat) (hv : PV i r kd n) (hx : x < 2 ^ n) (hf : f ≤ 40) : MetV (S := (Nat → Int32)) l yX1_setOut cX1_setOut 3 none (rm 2 45) D cI tt [.ref (a 3), .int (nI x), .int (nI f)] (cW cI a i r) (fun i' => SP i i' ∧ i' 9 = 0 ∧ PS i' kd n x (min f (sumk pls kd x n))) (fun i' => cW cI a i' r) := by
  have hn6 := hv.2.1
  have hx6 := pow_le6 hn6
  refine met_ofV (by decide) (Nat.le_of_ble_eq_true rfl) ?_
  intro pP eE sS mM aV bB mE cC AA C hin
  refine z_conv (lv' := [(0, .ref (a 3)), (1, .int (nI x)), (2, .int (nI f))]) ⟨rfl, rfl, rfl, trivial⟩ rfl rfl ?_
  refine z_aload_n C (pc := 0) dX1_setOut_0 rfl ?_
  refine z_iload_n C (pc := 1) dX1_setOut_1 rfl ?_
  refine z_put C (pc := 2) 3 rfl rfl wf_X1 3 (by decide) rfl tyX1 tyX1_ok nmX1 rfl rfl rfl (Nat.le_of_ble_eq_true rfl) (ws' := (cW cI a (upd i 5 (nI x)) r)) rfl wl_X1_40 dX1_setOut_2 ?_
  refine z_aload_n C (pc := 5) dX1_setOut_5 rfl ?_
  refine z_aload_n C (pc := 6) dX1_setOut_6 rfl ?_
  refine z_iload_n C (pc := 7) dX1_setOut_7 rfl ?_
  refine z_getsN C (pc := 8) C.2.2.2.2.2.2.2.1.1.1 wl_X1_56 dX1_setOut_8 ?_
  refine z_calliF C (by exact fun _ => cW_ad) (runV C (wc := (cW cI a (upd i 5 (nI x)) r)) (pc := 11) (rY' := rm 1 21) (nn := 2) (As := [.int (nI x), .ref tt.1]) (rest := [.ref (a 3)]) (c_togetherP l D cI tt a (upd i 5 (nI x)) r kd n x (hv.sp (SP.rf.up (by omega)) SR.rf) (by omega)) (full_hC _) (full_nd _) ⟨rfl, rfl, ⟨Nat.le_of_ble_eq_true rfl, Nat.le_of_ble_eq_true rfl⟩, Nat.le_of_ble_eq_true rfl, Nat.le_of_ble_eq_true rfl⟩ wl_X1_59 wm_X1_together we_X1_together wi_X1 wc_X1_together (by decide +kernel) rfl 3 rfl rfl rfl rfl (Nat.le_of_ble_eq_true rfl) dX1_setOut_11) (fun q_1 u_1 h_1 => ?_)
  subst h_1
  refine z_ws (st' := [.int (nI (sumk pls kd x n)), .ref (a 3)]) (ws' := (cW cI a (upd i 5 (nI x)) r)) rfl rfl ?_
  refine z_put C (pc := 14) 3 rfl rfl wf_X1 5 (by decide) rfl tyX1 tyX1_ok nmX1 rfl rfl rfl (Nat.le_of_ble_eq_true rfl) (ws' := (cW cI a (upd (upd i 5 (nI x)) 7 (nI (sumk pls kd x n))) r)) rfl wl_X1_63 dX1_setOut_14 ?_
  refine z_aload_n C (pc := 17) dX1_setOut_17 rfl ?_
  refine z_aload_n C (pc := 18) dX1_setOut_18 rfl ?_
  refine z_iload_n C (pc := 19) dX1_setOut_19 rfl ?_
  refine z_getsN C (pc := 20) C.2.2.2.2.2.2.2.1.2.1.1 wl_X1_66 dX1_setOut_20 ?_
  refine z_calliF C (by exact fun _ => cW_ad) (runV C (wc := (cW cI a (upd (upd i 5 (nI x)) 7 (nI (sumk pls kd x n))) r)) (pc := 23) (rY' := rm 1 21) (nn := 2) (As := [.int (nI x), .ref tt.2.1]) (rest := [.ref (a 3)]) (c_togetherE l D cI tt a (upd (upd i 5 (nI x)) 7 (nI (sumk pls kd x n))) r kd n x (hv.sp ((SP.rf.up (by omega)).up (by omega)) SR.rf) (by omega)) (full_hC _) (full_nd _) ⟨rfl, rfl, ⟨Nat.le_of_ble_eq_true rfl, Nat.le_of_ble_eq_true rfl⟩, Nat.le_of_ble_eq_true rfl, Nat.le_of_ble_eq_true rfl⟩ wl_X1_59 wm_X1_together we_X1_together wi_X1 wc_X1_together (by decide +kernel) rfl 3 rfl rfl rfl rfl (Nat.le_of_ble_eq_true rfl) dX1_setOut_23) (fun q_2 u_2 h_2 => ?_)
  subst h_2
  refine z_ws (st' := [.int (nI (sumk ets kd x n)), .ref (a 3)]) (ws' := (cW cI a (upd (upd i 5 (nI x)) 7 (nI (sumk pls kd x n))) r)) rfl rfl ?_
  refine z_put C (pc := 26) 3 rfl rfl wf_X1 6 (by decide) rfl tyX1 tyX1_ok nmX1 rfl rfl rfl (Nat.le_of_ble_eq_true rfl) (ws' := (cW cI a (upd (upd (upd i 5 (nI x)) 7 (nI (sumk pls kd x n))) 8 (nI (sumk ets kd x n))) r)) rfl wl_X1_46 dX1_setOut_26 ?_
  refine z_aload_n C (pc := 29) dX1_setOut_29 rfl ?_
  refine z_iload_n C (pc := 30) dX1_setOut_30 rfl ?_
  refine z_aload_n C (pc := 31) dX1_setOut_31 rfl ?_
  refine z_get C (pc := 32) 3 rfl rfl wf_X1 5 (by decide) rfl wl_X1_63 (v := .int (nI (sumk pls kd x n))) rfl dX1_setOut_32 ?_
  refine z_mmin C (pc := 35) wl_X1_69 (Nat.le_of_ble_eq_true rfl) (Nat.le_of_ble_eq_true rfl) (Nat.zero_le _) (Nat.zero_le _) dX1_setOut_35 ?_
  refine z_put C (pc := 38) 3 rfl rfl wf_X1 4 (by decide) rfl tyX1 tyX1_ok nmX1 rfl rfl rfl (Nat.le_of_ble_eq_true rfl) (ws' := (cW cI a (upd (upd (upd (upd i 5 (nI x)) 7 (nI (sumk pls kd x n))) 8 (nI (sumk ets kd x n))) 6 (if (nI (sumk pls kd x n)) < (nI f) then (nI (sumk pls kd x n)) else (nI f))) r)) rfl wl_X1_43 dX1_setOut_38 ?_
  refine z_aload_n C (pc := 41) dX1_setOut_41 rfl ?_
  refine z_iconst C (pc := 42) (v := 0) dX1_setOut_42 (by decide) ?_
  refine z_put C (pc := 43) 3 rfl rfl wf_X1 7 (by decide) rfl tyX1 tyX1_ok nmX1 rfl rfl rfl (Nat.le_of_ble_eq_true rfl) (ws' := (cW cI a (upd (upd (upd (upd (upd i 5 (nI x)) 7 (nI (sumk pls kd x n))) 8 (nI (sumk ets kd x n))) 6 (if (nI (sumk pls kd x n)) < (nI f) then (nI (sumk pls kd x n)) else (nI f))) 9 0) r)) rfl wl_X1_75 dX1_setOut_43 ?_
  refine z_vret C (pc := 46) (upd (upd (upd (upd (upd i 5 (nI x)) 7 (nI (sumk pls kd x n))) 8 (nI (sumk ets kd x n))) 6 (if (nI (sumk pls kd x n)) < (nI f) then (nI (sumk pls kd x n)) else (nI f))) 9 0) dX1_setOut_46 ?_ rfl
  refine ⟨((((SP.rf.up (by omega)).up (by omega)).up (by omega)).up (by omega)).up (by omega), by simp [upd], by simp [upd], ?_, by simp [upd], by simp [upd]⟩
  rw [upd_n (by decide), upd_s]
  exact min_nI (by omega) (by have := pl_le (kd := kd) (x := x) hn6; omega)

set_option maxHeartbeats 4000000 in
set_option maxRecDepth 100000 in
theorem c_takeUpAt (l : Launch) (D : va_G) (cI : ClassId) (tt : Nat × Nat × Nat) (a : Nat → Nat) (i : Nat → Int32) (r : Nat → Nat → Int32) (kd : Nat → Nat) (n x f : Nat) (hv : PV i r kd n) (hs : PS i kd n x f) (ho : OK kd n x f) (c : Nat → Nat) (hc : ∀ k, k < 5 → r 2 k = nI (c k) ∧ c k ≤ 9) (q : Nat) (hq : q < 6) : MetV (S := ((Nat → Int32) × (Nat → Nat → Int32))) l yX1_takeUpAt cX1_takeUpAt 3 none (rm 1 22) D cI tt [.ref (a 3), .int (nI q)] (cW cI a i r) (fun u => SP i u.1 ∧ SR r u.2 ∧ u.1 9 = i 9 ∧ PS u.1 kd n x (takev kd n q (x, f) c).1 ∧ ∀ k, k < 5 → u.2 2 k = nI ((takev kd n q (x, f) c).2 k)) (fun u => cW cI a u.1 u.2) := by
  have hn6 := hv.2.1
  have hx6 := pow_le6 hn6
  have hx := ho.1
  refine met_ofV (by decide) (Nat.le_of_ble_eq_true rfl) ?_
  intro pP eE sS mM aV bB mE cC AA C hin
  refine z_conv (lv' := [(0, .ref (a 3)), (1, .int (nI q))]) ⟨rfl, rfl, trivial⟩ rfl rfl ?_
  refine z_aload_n C (pc := 0) dX1_takeUpAt_0 rfl ?_
  refine z_get C (pc := 1) 3 rfl rfl wf_X1 2 (by decide) rfl wl_X1_15 (v := .ref (a 5)) rfl dX1_takeUpAt_1 ?_
  refine z_iload_n C (pc := 4) dX1_takeUpAt_4 rfl ?_
  refine z_iconst C (pc := 5) (v := 1) dX1_takeUpAt_5 (by decide) ?_
  refine z_isub C (pc := 6) dX1_takeUpAt_6 ?_
  refine z_calli C (isC := [5]) rfl (by exact fun _ => rfl) (runSN C (wc := [(a 5, .inl (cI, 5, .inl (r 2)))]) (pc := 7) (rY' := rm 0 0) (nn := 2) (As := [.ref (a 5), .int ((nI q) - 1)]) (rest := []) (c_at l D cI tt (a 5) 5 (r 2) ((nI q) - 1) (by decide)) rfl rfl ⟨rfl, rfl, ⟨Nat.le_of_ble_eq_true rfl, Nat.le_of_ble_eq_true rfl⟩, Nat.le_of_ble_eq_true rfl, Nat.le_of_ble_eq_true rfl⟩ wl_X1_22 ws_X3_at wi_X3 wc_X3_at (by decide +kernel) rfl rfl (Nat.le_of_ble_eq_true rfl) dX1_takeUpAt_7) (fun r_1 u_1 h_1 => ?_)
  have h_1 : r_1 = (nI (cav c q)) := h_1.trans (at_c hq hc)
  subst h_1
  refine z_ws (st' := [.int (nI (cav c q))]) (ws' := (cW cI a i r)) rfl rfl ?_
  refine z_aload_n C (pc := 10) dX1_takeUpAt_10 rfl ?_
  refine z_get C (pc := 11) 3 rfl rfl wf_X1 5 (by decide) rfl wl_X1_63 (v := .int (i 7)) rfl dX1_takeUpAt_11 ?_
  refine z_aload_n C (pc := 14) dX1_takeUpAt_14 rfl ?_
  refine z_get C (pc := 15) 3 rfl rfl wf_X1 4 (by decide) rfl wl_X1_43 (v := .int (i 6)) rfl dX1_takeUpAt_15 ?_
  refine z_isub C (pc := 18) dX1_takeUpAt_18 ?_
  refine z_mmin C (pc := 19) wl_X1_69 (Nat.le_of_ble_eq_true rfl) (Nat.le_of_ble_eq_true rfl) (Nat.zero_le _) (Nat.zero_le _) dX1_takeUpAt_19 ?_
  refine z_topi (fun t_2 et_2 => ?_)
  refine z_istore_n C (pc := 22) (lv' := [(0, .ref (a 3)), (1, .int (nI q)), (2, .int t_2)]) dX1_takeUpAt_22 (Nat.le_of_ble_eq_true rfl) rfl rfl ?_
  have ht : t_2 = (nI (min (cav c q) (sumk pls kd x n - f))) := by rw [et_2, hs.2.2.1, hs.2.1, pk_sub ho.2, min_nI (by have := cav_le c q hc hq; omega) (by have := pl_le (kd := kd) (x := x) hn6; omega)]
  subst ht
  refine z_lv (lv' := [(0, .ref (a 3)), (1, .int (nI q)), (2, .int (nI (min (cav c q) (sumk pls kd x n - f))))]) ⟨rfl, rfl, rfl, trivial⟩ ?_
  refine z_aload_n C (pc := 23) dX1_takeUpAt_23 rfl ?_
  refine z_get C (pc := 24) 3 rfl rfl wf_X1 2 (by decide) rfl wl_X1_15 (v := .ref (a 5)) rfl dX1_takeUpAt_24 ?_
  refine z_iload_n C (pc := 27) dX1_takeUpAt_27 rfl ?_
  refine z_iconst C (pc := 28) (v := 1) dX1_takeUpAt_28 (by decide) ?_
  refine z_isub C (pc := 29) dX1_takeUpAt_29 ?_
  refine z_aload_n C (pc := 30) dX1_takeUpAt_30 rfl ?_
  refine z_get C (pc := 31) 3 rfl rfl wf_X1 2 (by decide) rfl wl_X1_15 (v := .ref (a 5)) rfl dX1_takeUpAt_31 ?_
  refine z_iload_n C (pc := 34) dX1_takeUpAt_34 rfl ?_
  refine z_iconst C (pc := 35) (v := 1) dX1_takeUpAt_35 (by decide) ?_
  refine z_isub C (pc := 36) dX1_takeUpAt_36 ?_
  refine z_calli C (isC := [5]) rfl (by exact fun _ => rfl) (runSN C (wc := [(a 5, .inl (cI, 5, .inl (r 2)))]) (pc := 37) (rY' := rm 0 0) (nn := 2) (As := [.ref (a 5), .int ((nI q) - 1)]) (rest := [.int ((nI q) - 1), .ref (a 5)]) (c_at l D cI tt (a 5) 5 (r 2) ((nI q) - 1) (by decide)) rfl rfl ⟨rfl, rfl, ⟨Nat.le_of_ble_eq_true rfl, Nat.le_of_ble_eq_true rfl⟩, Nat.le_of_ble_eq_true rfl, Nat.le_of_ble_eq_true rfl⟩ wl_X1_22 ws_X3_at wi_X3 wc_X3_at (by decide +kernel) rfl rfl (Nat.le_of_ble_eq_true rfl) dX1_takeUpAt_37) (fun r_3 u_3 h_3 => ?_)
  have h_3 : r_3 = (nI (cav c q)) := h_3.trans (at_c hq hc)
  subst h_3
  refine z_ws (st' := [.int (nI (cav c q)), .int ((nI q) - 1), .ref (a 5)]) (ws' := (cW cI a i r)) rfl rfl ?_
  refine z_iload_n C (pc := 40) dX1_takeUpAt_40 rfl ?_
  refine z_isub C (pc := 41) dX1_takeUpAt_41 ?_
  refine z_callv C (isC := [5]) rfl (by exact fun _ => rfl) (runSN C (wc := [(a 5, .inl (cI, 5, .inl (r 2)))]) (pc := 42) (rY' := rm 0 0) (nn := 3) (As := [.ref (a 5), .int ((nI q) - 1), .int ((nI (cav c q)) - (nI (min (cav c q) (sumk pls kd x n - f))))]) (rest := []) (c_put l D cI tt (a 5) 5 (r 2) ((nI q) - 1) ((nI (cav c q)) - (nI (min (cav c q) (sumk pls kd x n - f)))) (by decide)) rfl rfl ⟨rfl, rfl, ⟨Nat.le_of_ble_eq_true rfl, Nat.le_of_ble_eq_true rfl⟩, Nat.le_of_ble_eq_true rfl, Nat.le_of_ble_eq_true rfl⟩ wl_X1_88 ws_X3_put wi_X3 wc_X3_put (by decide +kernel) rfl rfl (Nat.le_of_ble_eq_true rfl) dX1_takeUpAt_42) (fun u_4 h_4 => ?_)
  subst h_4
  refine z_ws (st' := []) (ws' := (cW cI a i (va_up r 2 (putv 5 (r 2) ((nI q) - 1) ((nI (cav c q)) - (nI (min (cav c q) (sumk pls kd x n - f)))))))) rfl rfl ?_
  refine z_aload_n C (pc := 45) dX1_takeUpAt_45 rfl ?_
  refine z_dup C (pc := 46) dX1_takeUpAt_46 rfl ?_
  refine z_get C (pc := 47) 3 rfl rfl wf_X1 4 (by decide) rfl wl_X1_43 (v := .int (i 6)) rfl dX1_takeUpAt_47 ?_
  refine z_iload_n C (pc := 50) dX1_takeUpAt_50 rfl ?_
  refine z_iadd C (pc := 51) dX1_takeUpAt_51 ?_
  refine z_put C (pc := 52) 3 rfl rfl wf_X1 4 (by decide) rfl tyX1 tyX1_ok nmX1 rfl rfl rfl (Nat.le_of_ble_eq_true rfl) (ws' := (cW cI a (upd i 6 ((i 6) + (nI (min (cav c q) (sumk pls kd x n - f))))) (va_up r 2 (putv 5 (r 2) ((nI q) - 1) ((nI (cav c q)) - (nI (min (cav c q) (sumk pls kd x n - f)))))))) rfl wl_X1_43 dX1_takeUpAt_52 ?_
  refine z_vret C (pc := 55) ((upd i 6 ((i 6) + (nI (min (cav c q) (sumk pls kd x n - f))))), (va_up r 2 (putv 5 (r 2) ((nI q) - 1) ((nI (cav c q)) - (nI (min (cav c q) (sumk pls kd x n - f))))))) dX1_takeUpAt_55 ?_ rfl
  have hcv := cav_le c q hc hq
  have hpl := pl_le (kd := kd) (x := x) hn6
  have hof := ho.2
  refine ⟨SP.rf.up (by omega), SR.rf.up, by simp [upd], ⟨by simp [upd]; exact hs.1, ?_, by simp [upd]; exact hs.2.2.1, by simp [upd]; exact hs.2.2.2⟩, fun k hk => ?_⟩
  · dsimp only
    rw [upd_s, hs.2.1, nI_add]
    unfold takev cav
    by_cases e : q = 0
    · rw [if_pos e, if_pos e]; simp
    · rw [if_neg e, if_neg e]
  · dsimp only
    rw [vup_s, put_c hq]
    unfold takev cav
    by_cases e : q = 0
    · rw [if_pos e, if_pos e]; exact (hc k hk).1
    · rw [if_neg e, if_neg e, if_neg e]
      show upd (r 2) (q - 1) _ k = nI (upN c (q - 1) _ k)
      unfold upd upN
      by_cases e2 : k = q - 1
      · rw [if_pos e2, if_pos e2, pk_sub (Nat.min_le_left _ _)]
      · rw [if_neg e2, if_neg e2]; exact (hc k hk).1
end
section
theorem two_mul_nI (st : Nat) : 2 * nI st = nI (2 * st) := pk_mul 2 st
def GO (i : Nat → Int32) (r : Nat → Nat → Int32) (i' : Nat → Int32) (r' : Nat → Nat → Int32) (z : MS) : Prop := SP i i' ∧ SR r r' ∧ i' 5 = nI z.1 ∧ i' 6 = nI z.2.1 ∧ i' 9 = nI z.2.2.2 ∧ ∀ k, k < 5 → r' 2 k = nI (z.2.2.1 k)
theorem mar_end {kd : Nat → Nat} {n st x f : Nat} {c : Nat → Nat} {j : Nat} (hj : j ≤ 2 * st) (h : (runv kd n st j (x, min f (sumk pls kd x n), c, 0)).2.2.2 ≠ 0) : marv kd n x st f c = runv kd n st j (x, min f (sumk pls kd x n), c, 0) := by
  have := runv_dead h (2 * st - j)
  rw [show j + (2 * st - j) = 2 * st by omega] at this
  exact this
theorem run_s {kd : Nat → Nat} {n st j : Nat} {z : MS} (h : (runv kd n st j z).2.2.2 = 0) : runv kd n st (j + 1) z = legv kd n st (j + 1) (runv kd n st j z) := by
  show (if _ then _ else _) = _
  rw [if_pos h]
theorem leg_die {kd : Nat → Nat} {n st j : Nat} {z : MS} {s : Nat × Nat} (hs : outv kd n st j (z.1, z.2.1) = s) (h : s.1 = 0 ∨ s.2 < sumk ets kd s.1 n) : legv kd n st j z = (0, 0, z.2.2.1, j) := by
  unfold legv; rw [hs]; dsimp only; rw [if_pos h]
theorem leg_out {kd : Nat → Nat} {n st j : Nat} {z : MS} {s : Nat × Nat} (hs : outv kd n st j (z.1, z.2.1) = s) (h : ¬ (s.1 = 0 ∨ s.2 < sumk ets kd s.1 n)) (h2 : j ≤ st) : legv kd n st j z = (s.1, s.2 - sumk ets kd s.1 n, z.2.2.1, 0) := by
  unfold legv; rw [hs]; dsimp only; rw [if_neg h, if_pos h2]
theorem leg_home {kd : Nat → Nat} {n st j : Nat} {z : MS} {s : Nat × Nat} (hs : outv kd n st j (z.1, z.2.1) = s) (h : ¬ (s.1 = 0 ∨ s.2 < sumk ets kd s.1 n)) (h2 : ¬ j ≤ st) : legv kd n st j z = (s.1, (takev kd n (2 * st - j) (s.1, s.2 - sumk ets kd s.1 n) z.2.2.1).1, (takev kd n (2 * st - j) (s.1, s.2 - sumk ets kd s.1 n) z.2.2.1).2, 0) := by
  unfold legv; rw [hs]; dsimp only; rw [if_neg h, if_neg h2]
theorem out_p {kd : Nat → Nat} {n st j : Nat} {s : Nat × Nat} (h1 : j ≤ st) (h2 : 3 ≤ j - 1) : outv kd n st j s = bea kd n n (pon kd n n s) := by unfold outv; rw [if_pos ⟨h1, h2⟩]
theorem out_n {kd : Nat → Nat} {n st j : Nat} {s : Nat × Nat} (h : ¬ (j ≤ st ∧ 3 ≤ j - 1)) : outv kd n st j s = bea kd n n s := by unfold outv; rw [if_neg h]
theorem mok0 {kd : Nat → Nat} {n x f : Nat} {c : Nat → Nat} (hx : x < 2 ^ n) (hc : ∀ k, k < 5 → c k ≤ 9) : MOK kd n (x, min f (sumk pls kd x n), c, 0) := ⟨⟨hx, Nat.min_le_right _ _⟩, hc, Or.inl rfl⟩
set_option maxHeartbeats 4000000 in
set_option maxRecDepth 100000 in
theorem c_go (l : Launch) (D : va_G) (cI : ClassId) (tt : Nat × Nat × Nat) (a : Nat → Nat) (i : Nat → Int32) (r : Nat → Nat → Int32) (kd : Nat → Nat) (n x st f : Nat) (hv : PV i r kd n) (hx : x < 2 ^ n) (hst : st ≤ 6) (hf : f ≤ 40) (c : Nat → Nat) (hc : ∀ k, k < 5 → r 2 k = nI (c k) ∧ c k ≤ 9) : MetI (S := ((Nat → Int32) × (Nat → Nat → Int32))) l yX1_go cX1_go 6 (some .boolean) (rm 3 67) D cI tt [.ref (a 3), .int (nI x), .int (nI st), .int (nI f)] (cW cI a i r) (fun q u => q = (if (marv kd n x st f c).2.2.2 = 0 then 1 else 0) ∧ GO i r u.1 u.2 (marv kd n x st f c)) (fun u => cW cI a u.1 u.2) := by
  have hn6 := hv.2.1
  have hx6 := pow_le6 hn6
  have hcc : ∀ k, k < 5 → c k ≤ 9 := fun k hk => (hc k hk).2
  refine met_ofI (by decide) (Nat.le_of_ble_eq_true rfl) ?_
  intro pP eE sS mM aV bB mE cC AA C hin
  refine z_conv (lv' := [(0, .ref (a 3)), (1, .int (nI x)), (2, .int (nI st)), (3, .int (nI f))]) ⟨rfl, rfl, rfl, rfl, trivial⟩ rfl rfl ?_
  refine z_aload_n C (pc := 0) dX1_go_0 rfl ?_
  refine z_iload_n C (pc := 1) dX1_go_1 rfl ?_
  refine z_iload_n C (pc := 2) dX1_go_2 rfl ?_
  refine z_callvF C (by exact fun _ => cW_ad) (runV C (wc := (cW cI a i r)) (pc := 3) (rY' := rm 2 45) (nn := 2) (As := [.int (nI x), .int (nI f)]) (rest := []) (c_setOut l D cI tt a i r kd n x f hv hx hf) (full_hC _) (full_nd _) ⟨rfl, rfl, ⟨Nat.le_of_ble_eq_true rfl, Nat.le_of_ble_eq_true rfl⟩, Nat.le_of_ble_eq_true rfl, Nat.le_of_ble_eq_true rfl⟩ wl_X1_30 wm_X1_setOut we_X1_setOut wi_X1 wc_X1_setOut (by decide +kernel) rfl 3 rfl rfl rfl rfl (Nat.le_of_ble_eq_true rfl) dX1_go_3) (fun u_1 h_1 => ?_)
  generalize u_1 = i1 at h_1 ⊢
  obtain ⟨q1, q2, q3⟩ := h_1
  refine z_ws (st' := []) (ws' := (cW cI a i1 r)) rfl rfl ?_
  refine z_iconst C (pc := 6) (v := 1) dX1_go_6 (by decide) ?_
  refine z_istore C (pc := 7) (lv' := [(0, .ref (a 3)), (1, .int (nI x)), (2, .int (nI st)), (3, .int (nI f)), (4, .int 1)]) dX1_go_7 (Nat.le_of_ble_eq_true rfl) rfl rfl ?_
  have key9 : ∀ (fu9 : Nat) (j : Nat) (i' : Nat → Int32) (r' : Nat → Nat → Int32), 2 * st - j < fu9 → (j ≤ 2 * st) → ((runv kd n st j (x, min f (sumk pls kd x n), c, 0)).2.2.2 = 0) → (SP i i') → (SR r r') → (i' 9 = 0) → (PS i' kd n (runv kd n st j (x, min f (sumk pls kd x n), c, 0)).1 (runv kd n st j (x, min f (sumk pls kd x n), c, 0)).2.1) → (∀ k, k < 5 → r' 2 k = nI ((runv kd n st j (x, min f (sumk pls kd x n), c, 0)).2.2.1 k)) → Z pP l eE (rm 3 67) sS mM aV bB mE cC D AA 6 0 0 (MQ bB (va_Qi (S := ((Nat → Int32) × (Nat → Nat → Int32))) (fun q u => q = (if (marv kd n x st f c).2.2.2 = 0 then 1 else 0) ∧ GO i r u.1 u.2 (marv kd n x st f c)) (fun u t => va_P D vwCl ((fun u => cW cI a u.1 u.2) u) t.heap) AA) aV sS 0 0 AA) 9 [(0, .ref (a 3)), (1, .int (nI x)), (2, .int (nI st)), (3, .int (nI f)), (4, .int (nI (j + 1)))] [] (cW cI a i' r') := by
    intro fu9
    induction fu9 with
    | zero => intro j i' r' hfu9; exact absurd hfu9 (Nat.not_lt_zero _)
    | succ fu9 ih9 =>
      intro j i' r' hfu9 hj hd hsp hsr h9 hps hc2
      refine z_iload C (pc := 9) dX1_go_9 rfl ?_
      refine z_iconst C (pc := 11) (v := 2) dX1_go_11 (by decide) ?_
      refine z_iload_n C (pc := 12) dX1_go_12 rfl ?_
      refine z_imul C (pc := 13) dX1_go_13 ?_
      refine z_icmp_gt C (pc := 14) (tgt := 111) dX1_go_14 (by decide) (fun c_2 => ?_) (fun c_2 => ?_)
      · have hje : j = 2 * st := by
          rw [two_mul_nI] at c_2
          have := Nat.lt_of_not_le (fun h => nI_nlt (a := 2 * st) (b := j + 1) h (by omega) c_2)
          omega
        refine z_iconst C (pc := 111) (v := 1) dX1_go_111 (by decide) ?_
        refine z_zret C (pc := 112) (i', r') dX1_go_112 rfl ?_ rfl
        subst hje
        have hme : marv kd n x st f c = (runv kd n st (2 * st) (x, min f (sumk pls kd x n), c, 0)) := rfl
        rw [hme]
        exact ⟨by rw [if_pos hd], hsp, hsr, hps.1, hps.2.1, by rw [hd]; exact h9, hc2⟩
      · have hjl : j + 1 ≤ 2 * st := by
          rw [two_mul_nI] at c_2
          exact Nat.le_of_not_lt (fun h => c_2 (nI_lt h (by omega)))
        have hv' := hv.sp hsp hsr
        have hmk := runv_ok (kd := kd) (st := st) hn6 j (x, min f (sumk pls kd x n), c, 0) (mok0 (kd := kd) (f := f) hx hcc)
        generalize hzz : (runv kd n st j (x, min f (sumk pls kd x n), c, 0)) = z at hd hps hc2 hmk
        have hok := hmk.1
        refine z_iload C (pc := 17) dX1_go_17 rfl ?_
        refine z_iload_n C (pc := 19) dX1_go_19 rfl ?_
        refine z_icmp_gt C (pc := 20) (tgt := 27) dX1_go_20 (by decide) (fun c_3 => ?_) (fun c_3 => ?_)
        · have hout : ¬ j + 1 ≤ st := fun h => nI_nlt h (by omega) c_3
          refine z_iconst C (pc := 27) (v := 0) dX1_go_27 (by decide) ?_
          refine z_istore C (pc := 28) (lv' := [(0, .ref (a 3)), (1, .int (nI x)), (2, .int (nI st)), (3, .int (nI f)), (4, .int (nI (j + 1))), (5, .int 0)]) dX1_go_28 (Nat.le_of_ble_eq_true rfl) rfl rfl ?_
          refine z_iload C (pc := 30) dX1_go_30 rfl ?_
          refine z_if_eq C (pc := 32) (tgt := 47) dX1_go_32 (by decide) (fun c_4 => ?_) (fun c_4 => ?_)
          · refine z_aload_n C (pc := 47) dX1_go_47 rfl ?_
            refine z_callvF C (by exact fun _ => cW_ad) (runV C (wc := (cW cI a i' r')) (pc := 48) (rY' := rm 2 43) (nn := 0) (As := []) (rest := []) (c_eatBeasts l D cI tt a i' r' kd n z.1 z.2.1 hv' hps hok) (full_hC _) (full_nd _) ⟨rfl, rfl, ⟨Nat.le_of_ble_eq_true rfl, Nat.le_of_ble_eq_true rfl⟩, Nat.le_of_ble_eq_true rfl, Nat.le_of_ble_eq_true rfl⟩ wl_X1_37 wm_X1_eatBeasts we_X1_eatBeasts wi_X1 wc_X1_eatBeasts (by decide +kernel) rfl 3 rfl rfl rfl rfl (Nat.le_of_ble_eq_true rfl) dX1_go_48) (fun u_5 h_5 => ?_)
            generalize u_5 = i5 at h_5 ⊢
            obtain ⟨b1, b2, b3⟩ := h_5
            have hsp2 := hsp.tr b1
            have h92 : i5 9 = 0 := b2.trans h9
            have hov : outv kd n st (j + 1) (z.1, z.2.1) = bea kd n n (z.1, z.2.1) := out_n (fun h => hout h.1)
            have oko := outv_ok (st := st) (j := j + 1) (s := (z.1, z.2.1)) hn6 hok
            rw [hov] at oko
            generalize bea kd n n (z.1, z.2.1) = s2 at hov b3 oko
            refine z_ws (st' := []) (ws' := (cW cI a i5 r')) rfl rfl ?_
            refine z_aload_n C (pc := 51) dX1_go_51 rfl ?_
            refine z_get C (pc := 52) 3 rfl rfl wf_X1 3 (by decide) rfl wl_X1_40 (v := .int (i5 5)) rfl dX1_go_52 ?_
            refine z_if_eq C (pc := 55) (tgt := 69) dX1_go_55 (by decide) (fun c_6 => ?_) (fun c_6 => ?_)
            · have hdie : s2.1 = 0 ∨ s2.2 < sumk ets kd s2.1 n := Or.inl (by
                rw [b3.1] at c_6
                exact (nI_eq (b := 0) (by have := oko.1; omega) (by omega)).mp c_6)
              refine z_aload_n C (pc := 69) dX1_go_69 rfl ?_
              refine z_iload C (pc := 70) dX1_go_70 rfl ?_
              refine z_callvF C (by exact fun _ => cW_ad) (runV C (wc := (cW cI a i5 r')) (pc := 72) (rY' := rm 0 0) (nn := 1) (As := [.int (nI (j + 1))]) (rest := []) (c_dieOn l D cI tt a i5 r' (nI (j + 1))) (full_hC _) (full_nd _) ⟨rfl, rfl, ⟨Nat.le_of_ble_eq_true rfl, Nat.le_of_ble_eq_true rfl⟩, Nat.le_of_ble_eq_true rfl, Nat.le_of_ble_eq_true rfl⟩ wl_X1_49 wm_X1_dieOn we_X1_dieOn wi_X1 wc_X1_dieOn (by decide +kernel) rfl 3 rfl rfl rfl rfl (Nat.le_of_ble_eq_true rfl) dX1_go_72) (fun u_7 h_7 => ?_)
              generalize u_7 = i7 at h_7 ⊢
              obtain ⟨e1, e5, e6, e9⟩ := h_7
              refine z_ws (st' := []) (ws' := (cW cI a i7 r')) rfl rfl ?_
              refine z_iconst C (pc := 75) (v := 0) dX1_go_75 (by decide) ?_
              refine z_zret C (pc := 76) (i7, r') dX1_go_76 rfl ?_ rfl
              have hrs : runv kd n st (j + 1) (x, min f (sumk pls kd x n), c, 0) = (0, 0, z.2.2.1, j + 1) := by rw [run_s (by rw [hzz]; exact hd), hzz]; exact leg_die hov hdie
              have hme : marv kd n x st f c = (0, 0, z.2.2.1, j + 1) := by rw [mar_end hjl (by rw [hrs]; simp), hrs]
              rw [hme]
              exact ⟨by simp, hsp2.tr e1, hsr, e5, e6, e9, hc2⟩
            · have hal : s2.1 ≠ 0 := fun h => c_6 (by rw [b3.1, h]; rfl)
              refine z_aload_n C (pc := 58) dX1_go_58 rfl ?_
              refine z_get C (pc := 59) 3 rfl rfl wf_X1 4 (by decide) rfl wl_X1_43 (v := .int (i5 6)) rfl dX1_go_59 ?_
              refine z_aload_n C (pc := 62) dX1_go_62 rfl ?_
              refine z_get C (pc := 63) 3 rfl rfl wf_X1 6 (by decide) rfl wl_X1_46 (v := .int (i5 8)) rfl dX1_go_63 ?_
              refine z_icmp_ge C (pc := 66) (tgt := 77) dX1_go_66 (by decide) (fun c_8 => ?_) (fun c_8 => ?_)
              · have hnd : ¬ (s2.1 = 0 ∨ s2.2 < sumk ets kd s2.1 n) := by
                  rw [b3.2.2.2, b3.2.1] at c_8
                  have := ge_of_nI c_8 (by have := et_le (kd := kd) (x := s2.1) hn6; omega)
                  omega
                have hsub : i' 0 = i' 0 := rfl
                refine z_aload_n C (pc := 77) dX1_go_77 rfl ?_
                refine z_dup C (pc := 78) dX1_go_78 rfl ?_
                refine z_get C (pc := 79) 3 rfl rfl wf_X1 4 (by decide) rfl wl_X1_43 (v := .int (i5 6)) rfl dX1_go_79 ?_
                refine z_aload_n C (pc := 82) dX1_go_82 rfl ?_
                refine z_get C (pc := 83) 3 rfl rfl wf_X1 6 (by decide) rfl wl_X1_46 (v := .int (i5 8)) rfl dX1_go_83 ?_
                refine z_isub C (pc := 86) dX1_go_86 ?_
                refine z_put C (pc := 87) 3 rfl rfl wf_X1 4 (by decide) rfl tyX1 tyX1_ok nmX1 rfl rfl rfl (Nat.le_of_ble_eq_true rfl) (ws' := (cW cI a (upd i5 6 ((i5 6) - (i5 8))) r')) rfl wl_X1_43 dX1_go_87 ?_
                refine z_iload C (pc := 90) dX1_go_90 rfl ?_
                refine z_if_ne C (pc := 92) (tgt := 105) dX1_go_92 (by decide) (fun c_9 => ?_) (fun c_9 => ?_)
                · exact absurd c_9 (by decide)
                · refine z_aload_n C (pc := 95) dX1_go_95 rfl ?_
                  refine z_iconst C (pc := 96) (v := 2) dX1_go_96 (by decide) ?_
                  refine z_iload_n C (pc := 97) dX1_go_97 rfl ?_
                  refine z_imul C (pc := 98) dX1_go_98 ?_
                  refine z_iload C (pc := 99) dX1_go_99 rfl ?_
                  refine z_isub C (pc := 101) dX1_go_101 ?_
                  refine z_seti (y := nI (2 * st - (j + 1))) (by rw [two_mul_nI, pk_sub hjl]) ?_
                  have hps2 : PS (upd i5 6 (i5 6 - i5 8)) kd n s2.1 (s2.2 - sumk ets kd s2.1 n) := ⟨by rw [upd_n (by decide)]; exact b3.1, by rw [upd_s, b3.2.1, b3.2.2.2, pk_sub (by omega)], by rw [upd_n (by decide)]; exact b3.2.2.1, by rw [upd_n (by decide)]; exact b3.2.2.2⟩
                  have hok2 : OK kd n s2.1 (s2.2 - sumk ets kd s2.1 n) := ⟨oko.1, Nat.le_trans (Nat.sub_le _ _) oko.2⟩
                  have hv3 := hv.sp (hsp2.up (k := 6) (v := i5 6 - i5 8) (by omega)) hsr
                  refine z_callvF C (by exact fun _ => cW_ad) (runV C (wc := (cW cI a (upd i5 6 ((i5 6) - (i5 8))) r')) (pc := 102) (rY' := rm 1 22) (nn := 1) (As := [.int (nI (2 * st - (j + 1)))]) (rest := []) (c_takeUpAt l D cI tt a (upd i5 6 ((i5 6) - (i5 8))) r' kd n s2.1 (s2.2 - sumk ets kd s2.1 n) hv3 hps2 hok2 z.2.2.1 (fun k hk => ⟨hc2 k hk, hmk.2.1 k hk⟩) (2 * st - (j + 1)) (by omega)) (full_hC _) (full_nd _) ⟨rfl, rfl, ⟨Nat.le_of_ble_eq_true rfl, Nat.le_of_ble_eq_true rfl⟩, Nat.le_of_ble_eq_true rfl, Nat.le_of_ble_eq_true rfl⟩ wl_X1_53 wm_X1_takeUpAt we_X1_takeUpAt wi_X1 wc_X1_takeUpAt (by decide +kernel) rfl 3 rfl rfl rfl rfl (Nat.le_of_ble_eq_true rfl) dX1_go_102) (fun u_10 h_10 => ?_)
                  obtain ⟨i10, r10⟩ := u_10
                  try dsimp only at h_10
                  obtain ⟨t1, t2, t3, t4, t5⟩ := h_10
                  have hrs : runv kd n st (j + 1) (x, min f (sumk pls kd x n), c, 0) = (s2.1, (takev kd n (2 * st - (j + 1)) (s2.1, s2.2 - sumk ets kd s2.1 n) z.2.2.1).1, (takev kd n (2 * st - (j + 1)) (s2.1, s2.2 - sumk ets kd s2.1 n) z.2.2.1).2, 0) := by rw [run_s (by rw [hzz]; exact hd), hzz]; exact leg_home hov hnd hout
                  refine z_ws (st' := []) (ws' := (cW cI a i10 r10)) rfl rfl ?_
                  refine z_iinc C (pc := 105) (v := ((nI (j + 1)) + 1)) (lv' := [(0, .ref (a 3)), (1, .int (nI x)), (2, .int (nI st)), (3, .int (nI f)), (4, .int ((nI (j + 1)) + 1)), (5, .int 0)]) dX1_go_105 rfl rfl (Nat.le_of_ble_eq_true rfl) rfl rfl ?_
                  refine z_goto C (pc := 108) (tgt := 9) dX1_go_108 (by decide) ?_
                  refine z_lv (lv' := [(0, .ref (a 3)), (1, .int (nI x)), (2, .int (nI st)), (3, .int (nI f)), (4, .int (nI ((j + 1) + 1)))]) ⟨rfl, rfl, rfl, rfl, lki (nI_1 _), trivial⟩ ?_
                  exact ih9 (j + 1) i10 r10 (by omega) hjl (by rw [hrs]) (hsp2.tr ((SP.rf.up (by omega)).tr t1)) (hsr.tr t2) (t3.trans (by rw [upd_n (by decide)]; exact h92)) (by rw [hrs]; exact t4) (by rw [hrs]; exact t5)
              · have hdie : s2.1 = 0 ∨ s2.2 < sumk ets kd s2.1 n := Or.inr (by
                  rw [b3.2.2.2, b3.2.1] at c_8
                  exact lt_of_nI c_8 (by have := oko.2; have := pl_le (kd := kd) (x := s2.1) hn6; omega))
                refine z_aload_n C (pc := 69) dX1_go_69 rfl ?_
                refine z_iload C (pc := 70) dX1_go_70 rfl ?_
                refine z_callvF C (by exact fun _ => cW_ad) (runV C (wc := (cW cI a i5 r')) (pc := 72) (rY' := rm 0 0) (nn := 1) (As := [.int (nI (j + 1))]) (rest := []) (c_dieOn l D cI tt a i5 r' (nI (j + 1))) (full_hC _) (full_nd _) ⟨rfl, rfl, ⟨Nat.le_of_ble_eq_true rfl, Nat.le_of_ble_eq_true rfl⟩, Nat.le_of_ble_eq_true rfl, Nat.le_of_ble_eq_true rfl⟩ wl_X1_49 wm_X1_dieOn we_X1_dieOn wi_X1 wc_X1_dieOn (by decide +kernel) rfl 3 rfl rfl rfl rfl (Nat.le_of_ble_eq_true rfl) dX1_go_72) (fun u_11 h_11 => ?_)
                generalize u_11 = i11 at h_11 ⊢
                obtain ⟨e1, e5, e6, e9⟩ := h_11
                refine z_ws (st' := []) (ws' := (cW cI a i11 r')) rfl rfl ?_
                refine z_iconst C (pc := 75) (v := 0) dX1_go_75 (by decide) ?_
                refine z_zret C (pc := 76) (i11, r') dX1_go_76 rfl ?_ rfl
                have hrs : runv kd n st (j + 1) (x, min f (sumk pls kd x n), c, 0) = (0, 0, z.2.2.1, j + 1) := by rw [run_s (by rw [hzz]; exact hd), hzz]; exact leg_die hov hdie
                have hme : marv kd n x st f c = (0, 0, z.2.2.1, j + 1) := by rw [mar_end hjl (by rw [hrs]; simp), hrs]
                rw [hme]
                exact ⟨by simp, hsp2.tr e1, hsr, e5, e6, e9, hc2⟩
          · exact absurd c_4 (by decide)
        · have hout : j + 1 ≤ st := Nat.le_of_not_lt (fun h => c_3 (nI_lt h (by omega)))
          refine z_iconst C (pc := 23) (v := 1) dX1_go_23 (by decide) ?_
          refine z_goto C (pc := 24) (tgt := 28) dX1_go_24 (by decide) ?_
          refine z_istore C (pc := 28) (lv' := [(0, .ref (a 3)), (1, .int (nI x)), (2, .int (nI st)), (3, .int (nI f)), (4, .int (nI (j + 1))), (5, .int 1)]) dX1_go_28 (Nat.le_of_ble_eq_true rfl) rfl rfl ?_
          refine z_iload C (pc := 30) dX1_go_30 rfl ?_
          refine z_if_eq C (pc := 32) (tgt := 47) dX1_go_32 (by decide) (fun c_12 => ?_) (fun c_12 => ?_)
          · exact absurd c_12 (by decide)
          · refine z_iload C (pc := 35) dX1_go_35 rfl ?_
            refine z_iconst C (pc := 37) (v := 1) dX1_go_37 (by decide) ?_
            refine z_isub C (pc := 38) dX1_go_38 ?_
            refine z_iconst C (pc := 39) (v := 3) dX1_go_39 (by decide) ?_
            refine z_icmp_lt C (pc := 40) (tgt := 47) dX1_go_40 (by decide) (fun c_13 => ?_) (fun c_13 => ?_)
            · have hsk : ¬ 3 ≤ j + 1 - 1 := by
                rw [nI_pred] at c_13
                exact fun h => nI_nlt (a := j) (b := 3) (by omega) (by omega) c_13
              refine z_aload_n C (pc := 47) dX1_go_47 rfl ?_
              refine z_callvF C (by exact fun _ => cW_ad) (runV C (wc := (cW cI a i' r')) (pc := 48) (rY' := rm 2 43) (nn := 0) (As := []) (rest := []) (c_eatBeasts l D cI tt a i' r' kd n z.1 z.2.1 hv' hps hok) (full_hC _) (full_nd _) ⟨rfl, rfl, ⟨Nat.le_of_ble_eq_true rfl, Nat.le_of_ble_eq_true rfl⟩, Nat.le_of_ble_eq_true rfl, Nat.le_of_ble_eq_true rfl⟩ wl_X1_37 wm_X1_eatBeasts we_X1_eatBeasts wi_X1 wc_X1_eatBeasts (by decide +kernel) rfl 3 rfl rfl rfl rfl (Nat.le_of_ble_eq_true rfl) dX1_go_48) (fun u_14 h_14 => ?_)
              generalize u_14 = i14 at h_14 ⊢
              obtain ⟨b1, b2, b3⟩ := h_14
              have hsp2 := hsp.tr b1
              have h92 : i14 9 = 0 := b2.trans h9
              have hov : outv kd n st (j + 1) (z.1, z.2.1) = bea kd n n (z.1, z.2.1) := out_n (fun h => hsk h.2)
              have oko := outv_ok (st := st) (j := j + 1) (s := (z.1, z.2.1)) hn6 hok
              rw [hov] at oko
              generalize bea kd n n (z.1, z.2.1) = s2 at hov b3 oko
              refine z_ws (st' := []) (ws' := (cW cI a i14 r')) rfl rfl ?_
              refine z_aload_n C (pc := 51) dX1_go_51 rfl ?_
              refine z_get C (pc := 52) 3 rfl rfl wf_X1 3 (by decide) rfl wl_X1_40 (v := .int (i14 5)) rfl dX1_go_52 ?_
              refine z_if_eq C (pc := 55) (tgt := 69) dX1_go_55 (by decide) (fun c_15 => ?_) (fun c_15 => ?_)
              · have hdie : s2.1 = 0 ∨ s2.2 < sumk ets kd s2.1 n := Or.inl (by
                  rw [b3.1] at c_15
                  exact (nI_eq (b := 0) (by have := oko.1; omega) (by omega)).mp c_15)
                refine z_aload_n C (pc := 69) dX1_go_69 rfl ?_
                refine z_iload C (pc := 70) dX1_go_70 rfl ?_
                refine z_callvF C (by exact fun _ => cW_ad) (runV C (wc := (cW cI a i14 r')) (pc := 72) (rY' := rm 0 0) (nn := 1) (As := [.int (nI (j + 1))]) (rest := []) (c_dieOn l D cI tt a i14 r' (nI (j + 1))) (full_hC _) (full_nd _) ⟨rfl, rfl, ⟨Nat.le_of_ble_eq_true rfl, Nat.le_of_ble_eq_true rfl⟩, Nat.le_of_ble_eq_true rfl, Nat.le_of_ble_eq_true rfl⟩ wl_X1_49 wm_X1_dieOn we_X1_dieOn wi_X1 wc_X1_dieOn (by decide +kernel) rfl 3 rfl rfl rfl rfl (Nat.le_of_ble_eq_true rfl) dX1_go_72) (fun u_16 h_16 => ?_)
                generalize u_16 = i16 at h_16 ⊢
                obtain ⟨e1, e5, e6, e9⟩ := h_16
                refine z_ws (st' := []) (ws' := (cW cI a i16 r')) rfl rfl ?_
                refine z_iconst C (pc := 75) (v := 0) dX1_go_75 (by decide) ?_
                refine z_zret C (pc := 76) (i16, r') dX1_go_76 rfl ?_ rfl
                have hrs : runv kd n st (j + 1) (x, min f (sumk pls kd x n), c, 0) = (0, 0, z.2.2.1, j + 1) := by rw [run_s (by rw [hzz]; exact hd), hzz]; exact leg_die hov hdie
                have hme : marv kd n x st f c = (0, 0, z.2.2.1, j + 1) := by rw [mar_end hjl (by rw [hrs]; simp), hrs]
                rw [hme]
                exact ⟨by simp, hsp2.tr e1, hsr, e5, e6, e9, hc2⟩
              · have hal : s2.1 ≠ 0 := fun h => c_15 (by rw [b3.1, h]; rfl)
                refine z_aload_n C (pc := 58) dX1_go_58 rfl ?_
                refine z_get C (pc := 59) 3 rfl rfl wf_X1 4 (by decide) rfl wl_X1_43 (v := .int (i14 6)) rfl dX1_go_59 ?_
                refine z_aload_n C (pc := 62) dX1_go_62 rfl ?_
                refine z_get C (pc := 63) 3 rfl rfl wf_X1 6 (by decide) rfl wl_X1_46 (v := .int (i14 8)) rfl dX1_go_63 ?_
                refine z_icmp_ge C (pc := 66) (tgt := 77) dX1_go_66 (by decide) (fun c_17 => ?_) (fun c_17 => ?_)
                · have hnd : ¬ (s2.1 = 0 ∨ s2.2 < sumk ets kd s2.1 n) := by
                    rw [b3.2.2.2, b3.2.1] at c_17
                    have := ge_of_nI c_17 (by have := et_le (kd := kd) (x := s2.1) hn6; omega)
                    omega
                  have hsub : i' 0 = i' 0 := rfl
                  refine z_aload_n C (pc := 77) dX1_go_77 rfl ?_
                  refine z_dup C (pc := 78) dX1_go_78 rfl ?_
                  refine z_get C (pc := 79) 3 rfl rfl wf_X1 4 (by decide) rfl wl_X1_43 (v := .int (i14 6)) rfl dX1_go_79 ?_
                  refine z_aload_n C (pc := 82) dX1_go_82 rfl ?_
                  refine z_get C (pc := 83) 3 rfl rfl wf_X1 6 (by decide) rfl wl_X1_46 (v := .int (i14 8)) rfl dX1_go_83 ?_
                  refine z_isub C (pc := 86) dX1_go_86 ?_
                  refine z_put C (pc := 87) 3 rfl rfl wf_X1 4 (by decide) rfl tyX1 tyX1_ok nmX1 rfl rfl rfl (Nat.le_of_ble_eq_true rfl) (ws' := (cW cI a (upd i14 6 ((i14 6) - (i14 8))) r')) rfl wl_X1_43 dX1_go_87 ?_
                  refine z_iload C (pc := 90) dX1_go_90 rfl ?_
                  refine z_if_ne C (pc := 92) (tgt := 105) dX1_go_92 (by decide) (fun c_18 => ?_) (fun c_18 => ?_)
                  · refine z_iinc C (pc := 105) (v := ((nI (j + 1)) + 1)) (lv' := [(0, .ref (a 3)), (1, .int (nI x)), (2, .int (nI st)), (3, .int (nI f)), (4, .int ((nI (j + 1)) + 1)), (5, .int 1)]) dX1_go_105 rfl rfl (Nat.le_of_ble_eq_true rfl) rfl rfl ?_
                    refine z_goto C (pc := 108) (tgt := 9) dX1_go_108 (by decide) ?_
                    have hrs : runv kd n st (j + 1) (x, min f (sumk pls kd x n), c, 0) = (s2.1, s2.2 - sumk ets kd s2.1 n, z.2.2.1, 0) := by rw [run_s (by rw [hzz]; exact hd), hzz]; exact leg_out hov hnd hout
                    have hps2 : PS (upd i14 6 (i14 6 - i14 8)) kd n s2.1 (s2.2 - sumk ets kd s2.1 n) := ⟨by rw [upd_n (by decide)]; exact b3.1, by rw [upd_s, b3.2.1, b3.2.2.2, pk_sub (by omega)], by rw [upd_n (by decide)]; exact b3.2.2.1, by rw [upd_n (by decide)]; exact b3.2.2.2⟩
                    refine z_lv (lv' := [(0, .ref (a 3)), (1, .int (nI x)), (2, .int (nI st)), (3, .int (nI f)), (4, .int (nI ((j + 1) + 1)))]) ⟨rfl, rfl, rfl, rfl, lki (nI_1 _), trivial⟩ ?_
                    exact ih9 (j + 1) (upd i14 6 ((i14 6) - (i14 8))) r' (by omega) hjl (by rw [hrs]) (hsp2.up (by omega)) hsr (by rw [upd_n (by decide)]; exact h92) (by rw [hrs]; exact hps2) (by rw [hrs]; exact hc2)
                  · exact absurd c_18 (by decide)
                · have hdie : s2.1 = 0 ∨ s2.2 < sumk ets kd s2.1 n := Or.inr (by
                    rw [b3.2.2.2, b3.2.1] at c_17
                    exact lt_of_nI c_17 (by have := oko.2; have := pl_le (kd := kd) (x := s2.1) hn6; omega))
                  refine z_aload_n C (pc := 69) dX1_go_69 rfl ?_
                  refine z_iload C (pc := 70) dX1_go_70 rfl ?_
                  refine z_callvF C (by exact fun _ => cW_ad) (runV C (wc := (cW cI a i14 r')) (pc := 72) (rY' := rm 0 0) (nn := 1) (As := [.int (nI (j + 1))]) (rest := []) (c_dieOn l D cI tt a i14 r' (nI (j + 1))) (full_hC _) (full_nd _) ⟨rfl, rfl, ⟨Nat.le_of_ble_eq_true rfl, Nat.le_of_ble_eq_true rfl⟩, Nat.le_of_ble_eq_true rfl, Nat.le_of_ble_eq_true rfl⟩ wl_X1_49 wm_X1_dieOn we_X1_dieOn wi_X1 wc_X1_dieOn (by decide +kernel) rfl 3 rfl rfl rfl rfl (Nat.le_of_ble_eq_true rfl) dX1_go_72) (fun u_19 h_19 => ?_)
                  generalize u_19 = i19 at h_19 ⊢
                  obtain ⟨e1, e5, e6, e9⟩ := h_19
                  refine z_ws (st' := []) (ws' := (cW cI a i19 r')) rfl rfl ?_
                  refine z_iconst C (pc := 75) (v := 0) dX1_go_75 (by decide) ?_
                  refine z_zret C (pc := 76) (i19, r') dX1_go_76 rfl ?_ rfl
                  have hrs : runv kd n st (j + 1) (x, min f (sumk pls kd x n), c, 0) = (0, 0, z.2.2.1, j + 1) := by rw [run_s (by rw [hzz]; exact hd), hzz]; exact leg_die hov hdie
                  have hme : marv kd n x st f c = (0, 0, z.2.2.1, j + 1) := by rw [mar_end hjl (by rw [hrs]; simp), hrs]
                  rw [hme]
                  exact ⟨by simp, hsp2.tr e1, hsr, e5, e6, e9, hc2⟩
            · have hsk : 3 ≤ j + 1 - 1 := by
                rw [nI_pred] at c_13
                have := Nat.le_of_not_lt (fun h => c_13 (nI_lt (a := j) (b := 3) h (by omega)))
                omega
              refine z_aload_n C (pc := 43) dX1_go_43 rfl ?_
              refine z_callvF C (by exact fun _ => cW_ad) (runV C (wc := (cW cI a i' r')) (pc := 44) (rY' := rm 2 43) (nn := 0) (As := []) (rest := []) (c_eatPonies l D cI tt a i' r' kd n z.1 z.2.1 hv' hps hok) (full_hC _) (full_nd _) ⟨rfl, rfl, ⟨Nat.le_of_ble_eq_true rfl, Nat.le_of_ble_eq_true rfl⟩, Nat.le_of_ble_eq_true rfl, Nat.le_of_ble_eq_true rfl⟩ wl_X1_34 wm_X1_eatPonies we_X1_eatPonies wi_X1 wc_X1_eatPonies (by decide +kernel) rfl 3 rfl rfl rfl rfl (Nat.le_of_ble_eq_true rfl) dX1_go_44) (fun u_20 h_20 => ?_)
              generalize u_20 = i20 at h_20 ⊢
              obtain ⟨k1, k2, k3⟩ := h_20
              have kok := pon_ok hn6 n (z.1, z.2.1) (Nat.le_refl _) hok
              have hv2 := hv'.sp k1 (SR.rf (r := r'))
              refine z_ws (st' := []) (ws' := (cW cI a i20 r')) rfl rfl ?_
              refine z_aload_n C (pc := 47) dX1_go_47 rfl ?_
              refine z_callvF C (by exact fun _ => cW_ad) (runV C (wc := (cW cI a i20 r')) (pc := 48) (rY' := rm 2 43) (nn := 0) (As := []) (rest := []) (c_eatBeasts l D cI tt a i20 r' kd n (pon kd n n (z.1, z.2.1)).1 (pon kd n n (z.1, z.2.1)).2 hv2 k3 kok) (full_hC _) (full_nd _) ⟨rfl, rfl, ⟨Nat.le_of_ble_eq_true rfl, Nat.le_of_ble_eq_true rfl⟩, Nat.le_of_ble_eq_true rfl, Nat.le_of_ble_eq_true rfl⟩ wl_X1_37 wm_X1_eatBeasts we_X1_eatBeasts wi_X1 wc_X1_eatBeasts (by decide +kernel) rfl 3 rfl rfl rfl rfl (Nat.le_of_ble_eq_true rfl) dX1_go_48) (fun u_21 h_21 => ?_)
              generalize u_21 = i21 at h_21 ⊢
              obtain ⟨b1, b2, b3⟩ := h_21
              have hsp2 := (hsp.tr k1).tr b1
              have h92 : i21 9 = 0 := b2.trans (k2.trans h9)
              have hov : outv kd n st (j + 1) (z.1, z.2.1) = bea kd n n (pon kd n n (z.1, z.2.1)) := out_p hout hsk
              have oko := outv_ok (st := st) (j := j + 1) (s := (z.1, z.2.1)) hn6 hok
              rw [hov] at oko
              generalize bea kd n n (pon kd n n (z.1, z.2.1)) = s2 at hov b3 oko
              refine z_ws (st' := []) (ws' := (cW cI a i21 r')) rfl rfl ?_
              refine z_aload_n C (pc := 51) dX1_go_51 rfl ?_
              refine z_get C (pc := 52) 3 rfl rfl wf_X1 3 (by decide) rfl wl_X1_40 (v := .int (i21 5)) rfl dX1_go_52 ?_
              refine z_if_eq C (pc := 55) (tgt := 69) dX1_go_55 (by decide) (fun c_22 => ?_) (fun c_22 => ?_)
              · have hdie : s2.1 = 0 ∨ s2.2 < sumk ets kd s2.1 n := Or.inl (by
                  rw [b3.1] at c_22
                  exact (nI_eq (b := 0) (by have := oko.1; omega) (by omega)).mp c_22)
                refine z_aload_n C (pc := 69) dX1_go_69 rfl ?_
                refine z_iload C (pc := 70) dX1_go_70 rfl ?_
                refine z_callvF C (by exact fun _ => cW_ad) (runV C (wc := (cW cI a i21 r')) (pc := 72) (rY' := rm 0 0) (nn := 1) (As := [.int (nI (j + 1))]) (rest := []) (c_dieOn l D cI tt a i21 r' (nI (j + 1))) (full_hC _) (full_nd _) ⟨rfl, rfl, ⟨Nat.le_of_ble_eq_true rfl, Nat.le_of_ble_eq_true rfl⟩, Nat.le_of_ble_eq_true rfl, Nat.le_of_ble_eq_true rfl⟩ wl_X1_49 wm_X1_dieOn we_X1_dieOn wi_X1 wc_X1_dieOn (by decide +kernel) rfl 3 rfl rfl rfl rfl (Nat.le_of_ble_eq_true rfl) dX1_go_72) (fun u_23 h_23 => ?_)
                generalize u_23 = i23 at h_23 ⊢
                obtain ⟨e1, e5, e6, e9⟩ := h_23
                refine z_ws (st' := []) (ws' := (cW cI a i23 r')) rfl rfl ?_
                refine z_iconst C (pc := 75) (v := 0) dX1_go_75 (by decide) ?_
                refine z_zret C (pc := 76) (i23, r') dX1_go_76 rfl ?_ rfl
                have hrs : runv kd n st (j + 1) (x, min f (sumk pls kd x n), c, 0) = (0, 0, z.2.2.1, j + 1) := by rw [run_s (by rw [hzz]; exact hd), hzz]; exact leg_die hov hdie
                have hme : marv kd n x st f c = (0, 0, z.2.2.1, j + 1) := by rw [mar_end hjl (by rw [hrs]; simp), hrs]
                rw [hme]
                exact ⟨by simp, hsp2.tr e1, hsr, e5, e6, e9, hc2⟩
              · have hal : s2.1 ≠ 0 := fun h => c_22 (by rw [b3.1, h]; rfl)
                refine z_aload_n C (pc := 58) dX1_go_58 rfl ?_
                refine z_get C (pc := 59) 3 rfl rfl wf_X1 4 (by decide) rfl wl_X1_43 (v := .int (i21 6)) rfl dX1_go_59 ?_
                refine z_aload_n C (pc := 62) dX1_go_62 rfl ?_
                refine z_get C (pc := 63) 3 rfl rfl wf_X1 6 (by decide) rfl wl_X1_46 (v := .int (i21 8)) rfl dX1_go_63 ?_
                refine z_icmp_ge C (pc := 66) (tgt := 77) dX1_go_66 (by decide) (fun c_24 => ?_) (fun c_24 => ?_)
                · have hnd : ¬ (s2.1 = 0 ∨ s2.2 < sumk ets kd s2.1 n) := by
                    rw [b3.2.2.2, b3.2.1] at c_24
                    have := ge_of_nI c_24 (by have := et_le (kd := kd) (x := s2.1) hn6; omega)
                    omega
                  have hsub : i' 0 = i' 0 := rfl
                  refine z_aload_n C (pc := 77) dX1_go_77 rfl ?_
                  refine z_dup C (pc := 78) dX1_go_78 rfl ?_
                  refine z_get C (pc := 79) 3 rfl rfl wf_X1 4 (by decide) rfl wl_X1_43 (v := .int (i21 6)) rfl dX1_go_79 ?_
                  refine z_aload_n C (pc := 82) dX1_go_82 rfl ?_
                  refine z_get C (pc := 83) 3 rfl rfl wf_X1 6 (by decide) rfl wl_X1_46 (v := .int (i21 8)) rfl dX1_go_83 ?_
                  refine z_isub C (pc := 86) dX1_go_86 ?_
                  refine z_put C (pc := 87) 3 rfl rfl wf_X1 4 (by decide) rfl tyX1 tyX1_ok nmX1 rfl rfl rfl (Nat.le_of_ble_eq_true rfl) (ws' := (cW cI a (upd i21 6 ((i21 6) - (i21 8))) r')) rfl wl_X1_43 dX1_go_87 ?_
                  refine z_iload C (pc := 90) dX1_go_90 rfl ?_
                  refine z_if_ne C (pc := 92) (tgt := 105) dX1_go_92 (by decide) (fun c_25 => ?_) (fun c_25 => ?_)
                  · refine z_iinc C (pc := 105) (v := ((nI (j + 1)) + 1)) (lv' := [(0, .ref (a 3)), (1, .int (nI x)), (2, .int (nI st)), (3, .int (nI f)), (4, .int ((nI (j + 1)) + 1)), (5, .int 1)]) dX1_go_105 rfl rfl (Nat.le_of_ble_eq_true rfl) rfl rfl ?_
                    refine z_goto C (pc := 108) (tgt := 9) dX1_go_108 (by decide) ?_
                    have hrs : runv kd n st (j + 1) (x, min f (sumk pls kd x n), c, 0) = (s2.1, s2.2 - sumk ets kd s2.1 n, z.2.2.1, 0) := by rw [run_s (by rw [hzz]; exact hd), hzz]; exact leg_out hov hnd hout
                    have hps2 : PS (upd i21 6 (i21 6 - i21 8)) kd n s2.1 (s2.2 - sumk ets kd s2.1 n) := ⟨by rw [upd_n (by decide)]; exact b3.1, by rw [upd_s, b3.2.1, b3.2.2.2, pk_sub (by omega)], by rw [upd_n (by decide)]; exact b3.2.2.1, by rw [upd_n (by decide)]; exact b3.2.2.2⟩
                    refine z_lv (lv' := [(0, .ref (a 3)), (1, .int (nI x)), (2, .int (nI st)), (3, .int (nI f)), (4, .int (nI ((j + 1) + 1)))]) ⟨rfl, rfl, rfl, rfl, lki (nI_1 _), trivial⟩ ?_
                    exact ih9 (j + 1) (upd i21 6 ((i21 6) - (i21 8))) r' (by omega) hjl (by rw [hrs]) (hsp2.up (by omega)) hsr (by rw [upd_n (by decide)]; exact h92) (by rw [hrs]; exact hps2) (by rw [hrs]; exact hc2)
                  · exact absurd c_25 (by decide)
                · have hdie : s2.1 = 0 ∨ s2.2 < sumk ets kd s2.1 n := Or.inr (by
                    rw [b3.2.2.2, b3.2.1] at c_24
                    exact lt_of_nI c_24 (by have := oko.2; have := pl_le (kd := kd) (x := s2.1) hn6; omega))
                  refine z_aload_n C (pc := 69) dX1_go_69 rfl ?_
                  refine z_iload C (pc := 70) dX1_go_70 rfl ?_
                  refine z_callvF C (by exact fun _ => cW_ad) (runV C (wc := (cW cI a i21 r')) (pc := 72) (rY' := rm 0 0) (nn := 1) (As := [.int (nI (j + 1))]) (rest := []) (c_dieOn l D cI tt a i21 r' (nI (j + 1))) (full_hC _) (full_nd _) ⟨rfl, rfl, ⟨Nat.le_of_ble_eq_true rfl, Nat.le_of_ble_eq_true rfl⟩, Nat.le_of_ble_eq_true rfl, Nat.le_of_ble_eq_true rfl⟩ wl_X1_49 wm_X1_dieOn we_X1_dieOn wi_X1 wc_X1_dieOn (by decide +kernel) rfl 3 rfl rfl rfl rfl (Nat.le_of_ble_eq_true rfl) dX1_go_72) (fun u_26 h_26 => ?_)
                  generalize u_26 = i26 at h_26 ⊢
                  obtain ⟨e1, e5, e6, e9⟩ := h_26
                  refine z_ws (st' := []) (ws' := (cW cI a i26 r')) rfl rfl ?_
                  refine z_iconst C (pc := 75) (v := 0) dX1_go_75 (by decide) ?_
                  refine z_zret C (pc := 76) (i26, r') dX1_go_76 rfl ?_ rfl
                  have hrs : runv kd n st (j + 1) (x, min f (sumk pls kd x n), c, 0) = (0, 0, z.2.2.1, j + 1) := by rw [run_s (by rw [hzz]; exact hd), hzz]; exact leg_die hov hdie
                  have hme : marv kd n x st f c = (0, 0, z.2.2.1, j + 1) := by rw [mar_end hjl (by rw [hrs]; simp), hrs]
                  rw [hme]
                  exact ⟨by simp, hsp2.tr e1, hsr, e5, e6, e9, hc2⟩
  refine z_lv (lv' := [(0, .ref (a 3)), (1, .int (nI x)), (2, .int (nI st)), (3, .int (nI f)), (4, .int (nI (0 + 1)))]) ⟨rfl, rfl, rfl, rfl, rfl, trivial⟩ ?_
  exact key9 (_ + 1) 0 i1 r (Nat.lt_succ_self _) (Nat.zero_le _) rfl q1 SR.rf q2 q3 (fun k hk => (hc k hk).1)
end
section
/-! what is searched for, in whole numbers -/
def homeb (kd : Nat → Nat) (n x st : Nat) (c : Nat → Nat) (f : Nat) : Bool := decide ((marv kd n x st f c).2.2.2 = 0)
def ndv (P : Nat → Bool) : Nat → Nat → Int32
  | 0, _ => -1
  | k + 1, f => if P f = true then nI f else ndv P k (f + 1)
def needv (kd : Nat → Nat) (n x st : Nat) (c : Nat → Nat) : Int32 := ndv (homeb kd n x st c) 41 0
def frv (P : Nat → Bool) : Nat → Nat
  | 0 => 0
  | s + 1 => if P (s + 1) = true then s + 1 else frv P s
def farb (kd : Nat → Nat) (n x : Nat) (c : Nat → Nat) (st : Nat) : Bool := decide (x ≠ 0) && decide (needv kd n x st c ≠ -1)
def farv (kd : Nat → Nat) (n x : Nat) (c : Nat → Nat) : Nat := frv (farb kd n x c) 6
def deadv (x y : Int32) : Int32 := x &&& (y ^^^ (-1))
def pcn (x : Nat) : Nat := sumk (fun _ => 1) (fun _ => 0) x 10
def tmv (ok : Nat → Bool) : Nat → Nat × Nat
  | 0 => (0, 7)
  | s + 1 => if ok (s + 1) = true ∧ pcn (s + 1) < (tmv ok s).2 then (s + 1, pcn (s + 1)) else tmv ok s
def okb (kd : Nat → Nat) (n al st : Nat) (c : Nat → Nat) (x : Nat) : Bool := decide (deadv (nI x) (nI al) = 0) && decide (needv kd n x st c ≠ -1)
def noneI (b : Nat) : Int32 := if b = 0 then -1 else nI b
def teamv (kd : Nat → Nat) (n al st : Nat) (c : Nat → Nat) : Int32 := noneI (tmv (okb kd n al st c) (2 ^ n - 1)).1
def alls (S : Nat → Bool) : Nat → Bool
  | 0 => true
  | p + 1 => alls S p && S p
def lyv (P : Nat → Bool) : Nat → Nat
  | 0 => 0
  | v + 1 => lyv P v + (if P v = true then 2 ^ v else 0)
def sob (kd : Nat → Nat) (n : Nat) (hm hs hf hh : Nat → Nat) (c : Nat → Nat) (k : Nat) : Bool := homeb kd n (hm k) (hs k) c (hf k) == decide (hh k = 1)
/-- LAY at the cairn q (from 1) -/
def layv (kd : Nat → Nat) (n : Nat) (c : Nat → Nat) (hn : Nat) (hm hs hf hh : Nat → Nat) (q : Nat) : Nat := lyv (fun v => alls (sob kd n hm hs hf hh (upN c (q - 1) v)) hn) 10
def hcv (H : Nat → Bool) (bits : Nat) : Nat → Nat
  | 0 => 0
  | v + 1 => hcv H bits v + (if bt bits v = 1 ∧ H v = true then 1 else 0)
def wov (kd : Nat → Nat) (n : Nat) (c : Nat → Nat) (q bits f : Nat) : Nat := max (hcv (fun v => homeb kd n (2 ^ n - 1) 6 (upN c (q - 1) v) f) bits 10) (pcn bits - hcv (fun v => homeb kd n (2 ^ n - 1) 6 (upN c (q - 1) v) f) bits 10)
def trv (w : Nat → Nat) (l0 : Nat) : Nat → Int32 × Nat
  | 0 => (-1, l0)
  | f + 1 => if w f < (trv w l0 f).2 then (nI f, w f) else trv w l0 f
/-- TRY at the cairn q, of these amounts -/
def tryv (kd : Nat → Nat) (n : Nat) (c : Nat → Nat) (q bits : Nat) : Int32 := if bits = 0 then -1 else (trv (wov kd n c q bits) 11 41).1
def nxt (t : Nat) : Nat := (1103515245 * t + 12345) % 2147483648
def crn (t : Nat) : Nat := t / 65536 % 3
def crp : Nat → Nat × (Nat → Nat) → Nat × (Nat → Nat)
  | 0, z => z
  | k + 1, z => (nxt (crp k z).1, upN (crp k z).2 k ((crp k z).2 k - crn (nxt (crp k z).1)))
def crw : Nat → Nat × (Nat → Nat) → Nat × (Nat → Nat)
  | 0, z => z
  | k + 1, z => crp 5 (crw k z)
/-! rows of it -/
theorem home_cap {kd : Nat → Nat} {n x st f : Nat} {c : Nat → Nat} (h : sumk pls kd x n ≤ f) : homeb kd n x st c f = homeb kd n x st c (sumk pls kd x n) := by
  unfold homeb marv
  rw [Nat.min_eq_right h, Nat.min_self]
theorem ndv_none {P : Nat → Bool} : ∀ k f, (∀ j, f ≤ j → P j = false) → ndv P k f = -1
  | 0, _, _ => rfl
  | k + 1, f, h => by
    unfold ndv
    rw [if_neg (by rw [h f (Nat.le_refl _)]; decide)]
    exact ndv_none k (f + 1) (fun j hj => h j (by omega))
theorem ndv_cap {P : Nat → Bool} {m : Nat} (hm : m ≤ 40) (hP : ∀ f, m ≤ f → P f = P m) : ∀ k f, k + f = m + 1 → f ≤ m → ndv P k f = ndv P (41 - f) f
  | 0, f, h, h2 => by omega
  | k + 1, f, h, h2 => by
    rw [show 41 - f = (40 - f) + 1 by omega]
    unfold ndv
    by_cases e : P f = true
    · rw [if_pos e, if_pos e]
    · rw [if_neg e, if_neg e]
      by_cases e2 : f = m
      · have hk : k = 0 := by omega
        subst hk
        rw [ndv_none (40 - f) (f + 1) (fun j hj => by rw [hP j (by omega), ← e2]; simpa using e)]
        rfl
      · rw [ndv_cap hm hP k (f + 1) (by omega) (by omega), show 41 - (f + 1) = 40 - f by omega]
theorem need_cap {kd : Nat → Nat} {n x st : Nat} {c : Nat → Nat} : ndv (homeb kd n x st c) (min 40 (sumk pls kd x n) + 1) 0 = needv kd n x st c := by
  unfold needv
  by_cases h : sumk pls kd x n ≤ 40
  · rw [Nat.min_eq_right h]
    exact ndv_cap (P := homeb kd n x st c) h (fun f hf => home_cap hf) _ 0 rfl (Nat.zero_le _)
  · rw [Nat.min_eq_left (by omega)]
theorem bc_pcn : ∀ x, x < 1024 → bcv (nI x) = nI (pcn x) := by decide +kernel
theorem pcn_le (x : Nat) : pcn x ≤ 10 := by have := sumk_le (g := fun _ => 1) (kd := fun _ => 0) (x := x) (M := 1) (fun _ => Nat.le_refl _) 10; unfold pcn; omega
theorem or_bit : ∀ v, v < 10 → ∀ b, b < 2 ^ v → nI b ||| (1 <<< (nI v &&& 31)) = nI (b + 2 ^ v) := by decide +kernel
theorem lyv_lt (P : Nat → Bool) : ∀ v, lyv P v < 2 ^ v
  | 0 => Nat.one_pos
  | v + 1 => by
    have := lyv_lt P v
    unfold lyv
    rw [Nat.pow_succ]
    split <;> omega
theorem alls_f {S : Nat → Bool} {p : Nat} (h : alls S p = false) : ∀ k, alls S (p + k) = false
  | 0 => h
  | k + 1 => by
    show (alls S (p + k) && S (p + k)) = false
    rw [alls_f h k]; rfl
theorem hcv_le (H : Nat → Bool) (bits : Nat) : ∀ v, hcv H bits v ≤ sumk (fun _ => 1) (fun _ => 0) bits v
  | 0 => Nat.le_refl _
  | v + 1 => by
    have := hcv_le H bits v
    unfold hcv sumk
    by_cases e : bt bits v = 1 ∧ H v = true
    · rw [if_pos e, e.1]; omega
    · rw [if_neg e]; omega
theorem wov_le {kd : Nat → Nat} {n : Nat} {c : Nat → Nat} {q bits f : Nat} : wov kd n c q bits f ≤ pcn bits := by
  unfold wov
  have := hcv_le (fun v => homeb kd n (2 ^ n - 1) 6 (upN c (q - 1) v) f) bits 10
  unfold pcn at *
  omega
theorem wov_cap {kd : Nat → Nat} {n : Nat} {c : Nat → Nat} {q bits f : Nat} (h : sumk pls kd (2 ^ n - 1) n ≤ f) : wov kd n c q bits f = wov kd n c q bits (sumk pls kd (2 ^ n - 1) n) := by
  have : (fun v => homeb kd n (2 ^ n - 1) 6 (upN c (q - 1) v) f) = (fun v => homeb kd n (2 ^ n - 1) 6 (upN c (q - 1) v) (sumk pls kd (2 ^ n - 1) n)) := funext fun v => home_cap h
  unfold wov
  rw [this]
/-- the first trial is better than any start: both starts come to the same -/
theorem trv_start {w : Nat → Nat} {l l' : Nat} (h : w 0 < l) (h' : w 0 < l') : ∀ k, trv w l (k + 1) = trv w l' (k + 1)
  | 0 => by
    show (if w 0 < l then _ else _) = (if w 0 < l' then _ else _)
    rw [if_pos h, if_pos h']
  | k + 1 => by
    have e := trv_start h h' k
    show (if w (k + 1) < (trv w l (k + 1)).2 then _ else trv w l (k + 1)) = (if w (k + 1) < (trv w l' (k + 1)).2 then _ else trv w l' (k + 1))
    rw [e]
theorem trv_le {w : Nat → Nat} {l : Nat} : ∀ k f, f < k → (trv w l k).2 ≤ w f
  | 0, f, h => by omega
  | k + 1, f, h => by
    show (if w k < (trv w l k).2 then (nI k, w k) else trv w l k).2 ≤ w f
    by_cases e : w k < (trv w l k).2
    · rw [if_pos e]
      by_cases e2 : f = k
      · subst e2; exact Nat.le_refl _
      · have := trv_le (w := w) (l := l) k f (by omega)
        show w k ≤ w f
        omega
    · rw [if_neg e]
      by_cases e2 : f = k
      · subst e2; omega
      · exact trv_le k f (by omega)
theorem trv_cap {w : Nat → Nat} {l m : Nat} (hw : ∀ f, m ≤ f → w f = w m) : ∀ k, trv w l (m + 1 + k) = trv w l (m + 1)
  | 0 => rfl
  | k + 1 => by
    show (if w (m + 1 + k) < (trv w l (m + 1 + k)).2 then _ else trv w l (m + 1 + k)) = _
    rw [trv_cap hw k, hw (m + 1 + k) (by omega), if_neg (by have := trv_le (w := w) (l := l) (m + 1) m (by omega); omega)]
theorem try_cap {kd : Nat → Nat} {n : Nat} {c : Nat → Nat} {q bits : Nat} : (trv (wov kd n c q bits) (pcn bits + 1) (min 40 (sumk pls kd (2 ^ n - 1) n) + 1)).1 = (trv (wov kd n c q bits) 11 41).1 := by
  have h0 : wov kd n c q bits 0 ≤ pcn bits := wov_le
  have h1 := pcn_le bits
  rw [trv_start (l' := 11) (by omega) (by omega)]
  by_cases h : sumk pls kd (2 ^ n - 1) n ≤ 40
  · rw [Nat.min_eq_right h]
    have := trv_cap (w := wov kd n c q bits) (l := 11) (m := sumk pls kd (2 ^ n - 1) n) (fun f hf => wov_cap hf) (40 - sumk pls kd (2 ^ n - 1) n)
    rw [show sumk pls kd (2 ^ n - 1) n + 1 + (40 - sumk pls kd (2 ^ n - 1) n) = 41 by omega] at this
    rw [this]
  · rw [Nat.min_eq_left (by omega)]
theorem tmv_le (ok : Nat → Bool) : ∀ s, (tmv ok s).1 ≤ s
  | 0 => Nat.le_refl _
  | s + 1 => by
    unfold tmv
    by_cases e : ok (s + 1) = true ∧ pcn (s + 1) < (tmv ok s).2
    · rw [if_pos e]; exact Nat.le_refl _
    · rw [if_neg e]; have := tmv_le ok s; omega
theorem tmv_7 (ok : Nat → Bool) : ∀ s, (tmv ok s).2 ≤ 7
  | 0 => Nat.le_refl _
  | s + 1 => by
    unfold tmv
    have := tmv_7 ok s
    by_cases e : ok (s + 1) = true ∧ pcn (s + 1) < (tmv ok s).2
    · rw [if_pos e]; show pcn (s + 1) ≤ 7; omega
    · rw [if_neg e]; exact this
theorem nextSeed_nI {t : Nat} (ht : t < 2147483648) : nextSeedv (nI t) = nI (nxt t) := by
  unfold nextSeedv nxt
  rw [show (1103515245 : Int32) = nI 1103515245 from rfl, show (12345 : Int32) = nI 12345 from rfl, pk_mul, nI_add, pk_and _ (m := 2147483647) 31 (by decide)]
  have h1 : (nI (1103515245 * t + 12345)).toBitVec.toNat = (1103515245 * t + 12345) % 4294967296 := by
    show (BitVec.ofNat 32 (1103515245 * t + 12345)).toNat = _
    simp [BitVec.toNat_ofNat]
  rw [h1, show ∀ z : Nat, z % 4294967296 % 2 ^ 31 = z % 2147483648 from fun z => by omega]
theorem nxt_lt (t : Nat) : nxt t < 2147483648 := Nat.mod_lt _ (by decide)
theorem crn_lt (t : Nat) : crn t < 3 := Nat.mod_lt _ (by decide)
theorem max_sub : ∀ w, w < 10 → ∀ k, k < 3 → (if (0 : Int32) < nI w - nI k then nI w - nI k else 0) = nI (w - k) := by decide +kernel
end
section
theorem nI_z {n : Nat} (hn : n < 2 ^ 31) (h : nI n = 0) : n = 0 := (nI_eq (b := 0) hn (by decide)).mp h
theorem nI_nz {n : Nat} (h : ¬ nI n = 0) : n ≠ 0 := fun e => h (by rw [e]; rfl)
def noCairn (n : Nat) (x : Int32) : Bool := decide (x < 1) || (!decide (x ≤ 5) || decide (n = 0))
set_option maxHeartbeats 4000000 in
set_option maxRecDepth 100000 in
theorem c_isNobody (l : Launch) (D : va_G) (cI : ClassId) (tt : Nat × Nat × Nat) (a : Nat → Nat) (i : Nat → Int32) (r : Nat → Nat → Int32) (x : Int32) (n : Nat) (hn : i 4 = nI n) (hn6 : n ≤ 6) : MetI (S := Unit) l yX3_isNobody cX3_isNobody 2 (some .boolean) (rm 1 20) D cI tt [.ref (a 0), .int x] (cW cI a i r) (fun q _ => q = b2 (noPeople n x)) (fun _ => cW cI a i r) := by
  refine met_ofI (by decide) (Nat.le_of_ble_eq_true rfl) ?_
  intro pP eE sS mM aV bB mE cC AA C hin
  refine z_conv (lv' := [(0, .ref (a 0)), (1, .int x)]) ⟨rfl, rfl, trivial⟩ rfl rfl ?_
  refine z_iload_n C (pc := 0) dX3_isNobody_0 rfl ?_
  refine z_iconst C (pc := 1) (v := 1) dX3_isNobody_1 (by decide) ?_
  refine z_icmp_lt C (pc := 2) (tgt := 16) dX3_isNobody_2 (by decide) (fun c_1 => ?_) (fun c_1 => ?_)
  · refine z_iconst C (pc := 16) (v := 1) dX3_isNobody_16 (by decide) ?_
    refine z_goto C (pc := 17) (tgt := 21) dX3_isNobody_17 (by decide) ?_
    refine z_zret C (pc := 21) () dX3_isNobody_21 rfl ?_ rfl
    simp [b2, noPeople, c_1]
  · refine z_iload_n C (pc := 5) dX3_isNobody_5 rfl ?_
    refine z_aload_n C (pc := 6) dX3_isNobody_6 rfl ?_
    refine z_get C (pc := 7) 0 rfl rfl wf_X3 1 (by decide) rfl wl_X3_19 (v := .ref (a 3)) rfl dX3_isNobody_7 ?_
    refine z_calliF C (by exact fun _ => cW_ad) (runVN C (wc := (cW cI a i r)) (pc := 10) (rY' := rm 0 0) (nn := 0) (As := []) (rest := [.int x]) (c_all l D cI tt a i r n hn hn6) (full_hC _) (full_nd _) ⟨rfl, rfl, ⟨Nat.le_of_ble_eq_true rfl, Nat.le_of_ble_eq_true rfl⟩, Nat.le_of_ble_eq_true rfl, Nat.le_of_ble_eq_true rfl⟩ wl_X3_70 wm_X1_all we_X1_all wi_X1 wc_X1_all (by decide +kernel) rfl 3 rfl rfl rfl rfl (Nat.le_of_ble_eq_true rfl) dX3_isNobody_10) (fun q_2 u_2 h_2 => ?_)
    subst h_2
    refine z_ws (st' := [.int (nI (2 ^ n - 1)), .int x]) (ws' := (cW cI a i r)) rfl rfl ?_
    refine z_icmp_le C (pc := 13) (tgt := 20) dX3_isNobody_13 (by decide) (fun c_3 => ?_) (fun c_3 => ?_)
    · refine z_iconst C (pc := 20) (v := 0) dX3_isNobody_20 (by decide) ?_
      refine z_zret C (pc := 21) () dX3_isNobody_21 rfl ?_ rfl
      simp [b2, noPeople, c_1, c_3]
    · refine z_iconst C (pc := 16) (v := 1) dX3_isNobody_16 (by decide) ?_
      refine z_goto C (pc := 17) (tgt := 21) dX3_isNobody_17 (by decide) ?_
      refine z_zret C (pc := 21) () dX3_isNobody_21 rfl ?_ rfl
      simp [b2, noPeople, c_1, c_3]

set_option maxHeartbeats 4000000 in
set_option maxRecDepth 100000 in
theorem c_isNoMarch (l : Launch) (D : va_G) (cI : ClassId) (tt : Nat × Nat × Nat) (a : Nat → Nat) (i : Nat → Int32) (r : Nat → Nat → Int32) (x y f : Int32) (n : Nat) (hn : i 4 = nI n) (hn6 : n ≤ 6) : MetI (S := Unit) l yX3_isNoMarch cX3_isNoMarch 4 (some .boolean) (rm 2 41) D cI tt [.ref (a 0), .int x, .int y, .int f] (cW cI a i r) (fun q _ => q = b2 (noMarch n x y f)) (fun _ => cW cI a i r) := by
  refine met_ofI (by decide) (Nat.le_of_ble_eq_true rfl) ?_
  intro pP eE sS mM aV bB mE cC AA C hin
  refine z_conv (lv' := [(0, .ref (a 0)), (1, .int x), (2, .int y), (3, .int f)]) ⟨rfl, rfl, rfl, rfl, trivial⟩ rfl rfl ?_
  refine z_aload_n C (pc := 0) dX3_isNoMarch_0 rfl ?_
  refine z_iload_n C (pc := 1) dX3_isNoMarch_1 rfl ?_
  refine z_calliF C (by exact fun _ => cW_ad) (runV C (wc := (cW cI a i r)) (pc := 2) (rY' := rm 1 20) (nn := 1) (As := [.int x]) (rest := []) (c_isNobody l D cI tt a i r x n hn hn6) (full_hC _) (full_nd _) ⟨rfl, rfl, ⟨Nat.le_of_ble_eq_true rfl, Nat.le_of_ble_eq_true rfl⟩, Nat.le_of_ble_eq_true rfl, Nat.le_of_ble_eq_true rfl⟩ wl_X3_153 wm_X3_isNobody we_X3_isNobody wi_X3 wc_X3_isNobody (by decide +kernel) rfl 0 rfl rfl rfl rfl (Nat.le_of_ble_eq_true rfl) dX3_isNoMarch_2) (fun q_1 u_1 h_1 => ?_)
  refine z_ws (st' := [.int q_1]) (ws' := (cW cI a i r)) rfl rfl ?_
  refine z_if_ne C (pc := 5) (tgt := 25) dX3_isNoMarch_5 (by decide) (fun c_2 => ?_) (fun c_2 => ?_)
  · have hb1 := b2_t (h_1 ▸ c_2)
    refine z_iconst C (pc := 25) (v := 1) dX3_isNoMarch_25 (by decide) ?_
    refine z_goto C (pc := 26) (tgt := 30) dX3_isNoMarch_26 (by decide) ?_
    refine z_zret C (pc := 30) () dX3_isNoMarch_30 rfl ?_ rfl
    simp [b2, noMarch, *]
  · have hb1 := b2_f (h_1 ▸ c_2)
    refine z_iload_n C (pc := 8) dX3_isNoMarch_8 rfl ?_
    refine z_calli C (isC := []) rfl (by exact fun _ => rfl) (runS C (wc := []) (pc := 9) (rY' := rm 0 0) (nn := 1) (As := [.int y]) (rest := []) (c_isNoStage l D cI tt y) rfl rfl ⟨rfl, rfl, ⟨Nat.le_of_ble_eq_true rfl, Nat.le_of_ble_eq_true rfl⟩, Nat.le_of_ble_eq_true rfl, Nat.le_of_ble_eq_true rfl⟩ wl_X3_156 ws_X3_isNoStage wi_X3 wc_X3_isNoStage (by decide +kernel) rfl rfl (Nat.le_of_ble_eq_true rfl) dX3_isNoMarch_9) (fun q_3 u_3 h_3 => ?_)
    refine z_ws (st' := [.int q_3]) (ws' := (cW cI a i r)) rfl rfl ?_
    refine z_if_ne C (pc := 12) (tgt := 25) dX3_isNoMarch_12 (by decide) (fun c_4 => ?_) (fun c_4 => ?_)
    · have hb2 := b2_t (h_3 ▸ c_4)
      refine z_iconst C (pc := 25) (v := 1) dX3_isNoMarch_25 (by decide) ?_
      refine z_goto C (pc := 26) (tgt := 30) dX3_isNoMarch_26 (by decide) ?_
      refine z_zret C (pc := 30) () dX3_isNoMarch_30 rfl ?_ rfl
      simp [b2, noMarch, *]
    · have hb2 := b2_f (h_3 ▸ c_4)
      refine z_iload_n C (pc := 15) dX3_isNoMarch_15 rfl ?_
      refine z_if_lt C (pc := 16) (tgt := 25) dX3_isNoMarch_16 (by decide) (fun c_5 => ?_) (fun c_5 => ?_)
      · refine z_iconst C (pc := 25) (v := 1) dX3_isNoMarch_25 (by decide) ?_
        refine z_goto C (pc := 26) (tgt := 30) dX3_isNoMarch_26 (by decide) ?_
        refine z_zret C (pc := 30) () dX3_isNoMarch_30 rfl ?_ rfl
        simp [b2, noMarch, noFood, *]
      · refine z_iload_n C (pc := 19) dX3_isNoMarch_19 rfl ?_
        refine z_bipush C (pc := 20) (v := 40) dX3_isNoMarch_20 (by decide) ?_
        refine z_icmp_le C (pc := 22) (tgt := 29) dX3_isNoMarch_22 (by decide) (fun c_6 => ?_) (fun c_6 => ?_)
        · refine z_iconst C (pc := 29) (v := 0) dX3_isNoMarch_29 (by decide) ?_
          refine z_zret C (pc := 30) () dX3_isNoMarch_30 rfl ?_ rfl
          simp [b2, noMarch, noFood, *]
        · refine z_iconst C (pc := 25) (v := 1) dX3_isNoMarch_25 (by decide) ?_
          refine z_goto C (pc := 26) (tgt := 30) dX3_isNoMarch_26 (by decide) ?_
          refine z_zret C (pc := 30) () dX3_isNoMarch_30 rfl ?_ rfl
          simp [b2, noMarch, noFood, *]

set_option maxHeartbeats 4000000 in
set_option maxRecDepth 100000 in
theorem c_isNoCairn (l : Launch) (D : va_G) (cI : ClassId) (tt : Nat × Nat × Nat) (a : Nat → Nat) (i : Nat → Int32) (r : Nat → Nat → Int32) (x : Int32) (n : Nat) (hn : i 4 = nI n) (hn6 : n ≤ 6) : MetI (S := Unit) l yX3_isNoCairn cX3_isNoCairn 2 (some .boolean) (rm 0 0) D cI tt [.ref (a 0), .int x] (cW cI a i r) (fun q _ => q = b2 (noCairn n x)) (fun _ => cW cI a i r) := by
  refine met_ofI (by decide) (Nat.le_of_ble_eq_true rfl) ?_
  intro pP eE sS mM aV bB mE cC AA C hin
  refine z_conv (lv' := [(0, .ref (a 0)), (1, .int x)]) ⟨rfl, rfl, trivial⟩ rfl rfl ?_
  refine z_iload_n C (pc := 0) dX3_isNoCairn_0 rfl ?_
  refine z_iconst C (pc := 1) (v := 1) dX3_isNoCairn_1 (by decide) ?_
  refine z_icmp_lt C (pc := 2) (tgt := 20) dX3_isNoCairn_2 (by decide) (fun c_1 => ?_) (fun c_1 => ?_)
  · refine z_iconst C (pc := 20) (v := 1) dX3_isNoCairn_20 (by decide) ?_
    refine z_goto C (pc := 21) (tgt := 25) dX3_isNoCairn_21 (by decide) ?_
    refine z_zret C (pc := 25) () dX3_isNoCairn_25 rfl ?_ rfl
    first | (simp [b2, noCairn, c_1]; done) | (have hn0 : n = 0 := nI_z (by omega) (hn ▸ c_1); simp [b2, noCairn, hn0]; done) | (have hn0 : n ≠ 0 := nI_nz (hn ▸ c_1); simp [b2, noCairn, hn0, c_1])
  · refine z_iload_n C (pc := 5) dX3_isNoCairn_5 rfl ?_
    refine z_iconst C (pc := 6) (v := 5) dX3_isNoCairn_6 (by decide) ?_
    refine z_icmp_gt C (pc := 7) (tgt := 20) dX3_isNoCairn_7 (by decide) (fun c_2 => ?_) (fun c_2 => ?_)
    · refine z_iconst C (pc := 20) (v := 1) dX3_isNoCairn_20 (by decide) ?_
      refine z_goto C (pc := 21) (tgt := 25) dX3_isNoCairn_21 (by decide) ?_
      refine z_zret C (pc := 25) () dX3_isNoCairn_25 rfl ?_ rfl
      first | (simp [b2, noCairn, c_1, c_2]; done) | (have hn0 : n = 0 := nI_z (by omega) (hn ▸ c_2); simp [b2, noCairn, hn0]; done) | (have hn0 : n ≠ 0 := nI_nz (hn ▸ c_2); simp [b2, noCairn, hn0, c_1])
    · refine z_aload_n C (pc := 10) dX3_isNoCairn_10 rfl ?_
      refine z_get C (pc := 11) 0 rfl rfl wf_X3 1 (by decide) rfl wl_X3_19 (v := .ref (a 3)) rfl dX3_isNoCairn_11 ?_
      refine z_getN C (pc := 14) 3 rfl rfl wf_X1 1 (by decide) rfl wl_X3_53 (v := .int (i 4)) rfl dX3_isNoCairn_14 ?_
      refine z_if_ne C (pc := 17) (tgt := 24) dX3_isNoCairn_17 (by decide) (fun c_3 => ?_) (fun c_3 => ?_)
      · refine z_iconst C (pc := 24) (v := 0) dX3_isNoCairn_24 (by decide) ?_
        refine z_zret C (pc := 25) () dX3_isNoCairn_25 rfl ?_ rfl
        first | (simp [b2, noCairn, c_1, c_2, c_3]; done) | (have hn0 : n = 0 := nI_z (by omega) (hn ▸ c_3); simp [b2, noCairn, hn0]; done) | (have hn0 : n ≠ 0 := nI_nz (hn ▸ c_3); simp [b2, noCairn, hn0, c_1, c_2])
      · refine z_iconst C (pc := 20) (v := 1) dX3_isNoCairn_20 (by decide) ?_
        refine z_goto C (pc := 21) (tgt := 25) dX3_isNoCairn_21 (by decide) ?_
        refine z_zret C (pc := 25) () dX3_isNoCairn_25 rfl ?_ rfl
        first | (simp [b2, noCairn, c_1, c_2, c_3]; done) | (have hn0 : n = 0 := nI_z (by omega) (hn ▸ c_3); simp [b2, noCairn, hn0]; done) | (have hn0 : n ≠ 0 := nI_nz (hn ▸ c_3); simp [b2, noCairn, hn0, c_1, c_2])

set_option maxHeartbeats 4000000 in
set_option maxRecDepth 100000 in
theorem c_anyIsDead (l : Launch) (D : va_G) (cI : ClassId) (tt : Nat × Nat × Nat) (a : Nat → Nat) (i : Nat → Int32) (r : Nat → Nat → Int32) (x : Int32) : MetI (S := Unit) l yX3_anyIsDead cX3_anyIsDead 2 (some .boolean) (rm 0 0) D cI tt [.ref (a 0), .int x] (cW cI a i r) (fun q _ => q = b2 (decide (deadv x (i 10) ≠ 0))) (fun _ => cW cI a i r) := by
  refine met_ofI (by decide) (Nat.le_of_ble_eq_true rfl) ?_
  intro pP eE sS mM aV bB mE cC AA C hin
  refine z_conv (lv' := [(0, .ref (a 0)), (1, .int x)]) ⟨rfl, rfl, trivial⟩ rfl rfl ?_
  refine z_iload_n C (pc := 0) dX3_anyIsDead_0 rfl ?_
  refine z_aload_n C (pc := 1) dX3_anyIsDead_1 rfl ?_
  refine z_get C (pc := 2) 0 rfl rfl wf_X3 2 (by decide) rfl wl_X3_26 (v := .ref (a 6)) rfl dX3_anyIsDead_2 ?_
  refine z_getN C (pc := 5) 6 rfl rfl wf_X2 0 (by decide) rfl wl_X3_100 (v := .int (i 10)) rfl dX3_anyIsDead_5 ?_
  refine z_iconst C (pc := 8) (v := (-1)) dX3_anyIsDead_8 (by decide) ?_
  refine z_ixor C (pc := 9) dX3_anyIsDead_9 ?_
  refine z_iand C (pc := 10) dX3_anyIsDead_10 ?_
  refine z_if_eq C (pc := 11) (tgt := 18) dX3_anyIsDead_11 (by decide) (fun c_1 => ?_) (fun c_1 => ?_)
  · refine z_iconst C (pc := 18) (v := 0) dX3_anyIsDead_18 (by decide) ?_
    refine z_zret C (pc := 19) () dX3_anyIsDead_19 rfl ?_ rfl
    first | (have hd : deadv x (i 10) = 0 := c_1; simp [b2, hd]; done) | (have hd : ¬ deadv x (i 10) = 0 := c_1; simp [b2, hd])
  · refine z_iconst C (pc := 14) (v := 1) dX3_anyIsDead_14 (by decide) ?_
    refine z_goto C (pc := 15) (tgt := 19) dX3_anyIsDead_15 (by decide) ?_
    refine z_zret C (pc := 19) () dX3_anyIsDead_19 rfl ?_ rfl
    first | (have hd : deadv x (i 10) = 0 := c_1; simp [b2, hd]; done) | (have hd : ¬ deadv x (i 10) = 0 := c_1; simp [b2, hd])

set_option maxHeartbeats 4000000 in
set_option maxRecDepth 100000 in
theorem c_mostFoodOf (l : Launch) (D : va_G) (cI : ClassId) (tt : Nat × Nat × Nat) (a : Nat → Nat) (i : Nat → Int32) (r : Nat → Nat → Int32) (kd : Nat → Nat) (n : Nat) (hv : PV i r kd n) (x : Nat) (hx : x < 64) : MetI (S := Unit) l yX3_mostFoodOf cX3_mostFoodOf 2 (some .int) (rm 2 45) D cI tt [.ref (a 0), .int (nI x)] (cW cI a i r) (fun q _ => q = nI (min 40 (sumk pls kd x n))) (fun _ => cW cI a i r) := by
  have hn6 := hv.2.1
  have hx6 := pow_le6 hn6
  refine met_ofI (by decide) (Nat.le_of_ble_eq_true rfl) ?_
  intro pP eE sS mM aV bB mE cC AA C hin
  refine z_conv (lv' := [(0, .ref (a 0)), (1, .int (nI x))]) ⟨rfl, rfl, trivial⟩ rfl rfl ?_
  refine z_bipush C (pc := 0) (v := 40) dX3_mostFoodOf_0 (by decide) ?_
  refine z_aload_n C (pc := 2) dX3_mostFoodOf_2 rfl ?_
  refine z_get C (pc := 3) 0 rfl rfl wf_X3 1 (by decide) rfl wl_X3_19 (v := .ref (a 3)) rfl dX3_mostFoodOf_3 ?_
  refine z_iload_n C (pc := 6) dX3_mostFoodOf_6 rfl ?_
  refine z_gets C (pc := 7) C.2.2.2.2.2.2.2.1.1.1 wl_X3_91 dX3_mostFoodOf_7 ?_
  refine z_calliF C (by exact fun _ => cW_ad) (runVN C (wc := (cW cI a i r)) (pc := 10) (rY' := rm 1 21) (nn := 2) (As := [.int (nI x), .ref tt.1]) (rest := [.int 40]) (c_togetherP l D cI tt a i r kd n x hv (by omega)) (full_hC _) (full_nd _) ⟨rfl, rfl, ⟨Nat.le_of_ble_eq_true rfl, Nat.le_of_ble_eq_true rfl⟩, Nat.le_of_ble_eq_true rfl, Nat.le_of_ble_eq_true rfl⟩ wl_X3_192 wm_X1_together we_X1_together wi_X1 wc_X1_together (by decide +kernel) rfl 3 rfl rfl rfl rfl (Nat.le_of_ble_eq_true rfl) dX3_mostFoodOf_10) (fun q_1 u_1 h_1 => ?_)
  subst h_1
  refine z_ws (st' := [.int (nI (sumk pls kd x n)), .int 40]) (ws' := (cW cI a i r)) rfl rfl ?_
  refine z_mmin C (pc := 13) wl_X3_209 (Nat.le_of_ble_eq_true rfl) (Nat.le_of_ble_eq_true rfl) (Nat.zero_le _) (Nat.zero_le _) dX3_mostFoodOf_13 ?_
  refine z_iret C (pc := 16) () dX3_mostFoodOf_16 ?_ rfl
  exact min_nI (x := 40) (by omega) (by have := pl_le (kd := kd) (x := x) hn6; omega)

set_option maxHeartbeats 4000000 in
set_option maxRecDepth 100000 in
theorem c_leastFoodN (l : Launch) (D : va_G) (cI : ClassId) (tt : Nat × Nat × Nat) (a : Nat → Nat) (i : Nat → Int32) (r : Nat → Nat → Int32) (kd : Nat → Nat) (n : Nat) (hv : PV i r kd n) (x st : Nat) (hx : x < 2 ^ n) (hst : st ≤ 6) (c : Nat → Nat) (hc : ∀ k, k < 5 → r 3 k = nI (c k) ∧ c k ≤ 9) : MetI (S := ((Nat → Int32) × (Nat → Nat → Int32))) l yX3_leastFood cX3_leastFood 6 (some .int) (rm 4 92) D cI tt [.ref (a 0), .int (nI x), .int (nI st), .ref (a 7)] (cW cI a i r) (fun q u => q = needv kd n x st c ∧ SP i u.1 ∧ SR r u.2) (fun u => cW cI a u.1 u.2) := by
  have hn6 := hv.2.1
  have hx6 := pow_le6 hn6
  refine met_ofI (by decide) (Nat.le_of_ble_eq_true rfl) ?_
  intro pP eE sS mM aV bB mE cC AA C hin
  refine z_conv (lv' := [(0, .ref (a 0)), (1, .int (nI x)), (2, .int (nI st)), (3, .ref (a 7))]) ⟨rfl, rfl, rfl, rfl, trivial⟩ rfl rfl ?_
  refine z_aload_n C (pc := 0) dX3_leastFood_0 rfl ?_
  refine z_iload_n C (pc := 1) dX3_leastFood_1 rfl ?_
  refine z_calliF C (by exact fun _ => cW_ad) (runV C (wc := (cW cI a i r)) (pc := 2) (rY' := rm 2 45) (nn := 1) (As := [.int (nI x)]) (rest := []) (c_mostFoodOf l D cI tt a i r kd n hv x (by omega)) (full_hC _) (full_nd _) ⟨rfl, rfl, ⟨Nat.le_of_ble_eq_true rfl, Nat.le_of_ble_eq_true rfl⟩, Nat.le_of_ble_eq_true rfl, Nat.le_of_ble_eq_true rfl⟩ wl_X3_214 wm_X3_mostFoodOf we_X3_mostFoodOf wi_X3 wc_X3_mostFoodOf (by decide +kernel) rfl 0 rfl rfl rfl rfl (Nat.le_of_ble_eq_true rfl) dX3_leastFood_2) (fun q_1 u_1 h_1 => ?_)
  subst h_1
  refine z_ws (st' := [.int (nI (min 40 (sumk pls kd x n)))]) (ws' := (cW cI a i r)) rfl rfl ?_
  refine z_istore C (pc := 5) (lv' := [(0, .ref (a 0)), (1, .int (nI x)), (2, .int (nI st)), (3, .ref (a 7)), (4, .int (nI (min 40 (sumk pls kd x n))))]) dX3_leastFood_5 (Nat.le_of_ble_eq_true rfl) rfl rfl ?_
  refine z_iconst C (pc := 7) (v := 0) dX3_leastFood_7 (by decide) ?_
  refine z_istore C (pc := 8) (lv' := [(0, .ref (a 0)), (1, .int (nI x)), (2, .int (nI st)), (3, .ref (a 7)), (4, .int (nI (min 40 (sumk pls kd x n)))), (5, .int 0)]) dX3_leastFood_8 (Nat.le_of_ble_eq_true rfl) rfl rfl ?_
  have key10 : ∀ (fu10 : Nat) (f : Nat) (i' : Nat → Int32) (r' : Nat → Nat → Int32), (min 40 (sumk pls kd x n)) + 1 - f < fu10 → (f ≤ (min 40 (sumk pls kd x n)) + 1) → (SP i i') → (SR r r') → (ndv (homeb kd n x st c) ((min 40 (sumk pls kd x n)) + 1 - f) f = needv kd n x st c) → Z pP l eE (rm 4 92) sS mM aV bB mE cC D AA 6 0 0 (MQ bB (va_Qi (S := ((Nat → Int32) × (Nat → Nat → Int32))) (fun q u => q = needv kd n x st c ∧ SP i u.1 ∧ SR r u.2) (fun u t => va_P D vwCl ((fun u => cW cI a u.1 u.2) u) t.heap) AA) aV sS 0 0 AA) 10 [(0, .ref (a 0)), (1, .int (nI x)), (2, .int (nI st)), (3, .ref (a 7)), (4, .int (nI (min 40 (sumk pls kd x n)))), (5, .int (nI f))] [] (cW cI a i' r') := by
    intro fu10
    induction fu10 with
    | zero => intro f i' r' hfu10; exact absurd hfu10 (Nat.not_lt_zero _)
    | succ fu10 ih10 =>
      intro f i' r' hfu10 hfm hsp hsr heq
      refine z_iload C (pc := 10) dX3_leastFood_10 rfl ?_
      refine z_iload C (pc := 12) dX3_leastFood_12 rfl ?_
      refine z_icmp_gt C (pc := 14) (tgt := 48) dX3_leastFood_14 (by decide) (fun c_2 => ?_) (fun c_2 => ?_)
      · refine z_iconst C (pc := 48) (v := (-1)) dX3_leastFood_48 (by decide) ?_
        refine z_iret C (pc := 49) (i', r') dX3_leastFood_49 ?_ rfl
        have hfe : f = (min 40 (sumk pls kd x n)) + 1 := by
          have := Nat.lt_of_not_le (fun h => nI_nlt (a := (min 40 (sumk pls kd x n))) (b := f) h (by omega) c_2)
          omega
        refine ⟨?_, hsp, hsr⟩
        rw [← heq, hfe, Nat.sub_self]
        rfl
      · have hfl : f ≤ (min 40 (sumk pls kd x n)) := Nat.le_of_not_lt (fun h => c_2 (nI_lt h (by omega)))
        refine z_aload_n C (pc := 17) dX3_leastFood_17 rfl ?_
        refine z_get C (pc := 18) 0 rfl rfl wf_X3 1 (by decide) rfl wl_X3_19 (v := .ref (a 3)) rfl dX3_leastFood_18 ?_
        refine z_aload_n C (pc := 21) dX3_leastFood_21 rfl ?_
        refine z_callvF C (by exact fun _ => cW_ad) (runVN C (wc := (cW cI a i' r')) (pc := 22) (rY' := rm 2 44) (nn := 1) (As := [.ref (a 7)]) (rest := []) (c_setCairnsN l D cI tt a i' r') (full_hC _) (full_nd _) ⟨rfl, rfl, ⟨Nat.le_of_ble_eq_true rfl, Nat.le_of_ble_eq_true rfl⟩, Nat.le_of_ble_eq_true rfl, Nat.le_of_ble_eq_true rfl⟩ wl_X3_124 wm_X1_setCairns we_X1_setCairns wi_X1 wc_X1_setCairns (by decide +kernel) rfl 3 rfl rfl rfl rfl (Nat.le_of_ble_eq_true rfl) dX3_leastFood_22) (fun u_3 h_3 => ?_)
        generalize u_3 = r3 at h_3 ⊢
        obtain ⟨g1, g2⟩ := h_3
        have hsr2 := hsr.tr g1
        have hv2 := hv.sp hsp hsr2
        have hc2 : ∀ k, k < 5 → r3 2 k = nI (c k) ∧ c k ≤ 9 := fun k hk => ⟨(g2 k hk).trans ((congrFun (hsr 3 (by decide)) k).trans (hc k hk).1), (hc k hk).2⟩
        refine z_ws (st' := []) (ws' := (cW cI a i' r3)) rfl rfl ?_
        refine z_aload_n C (pc := 25) dX3_leastFood_25 rfl ?_
        refine z_get C (pc := 26) 0 rfl rfl wf_X3 1 (by decide) rfl wl_X3_19 (v := .ref (a 3)) rfl dX3_leastFood_26 ?_
        refine z_iload_n C (pc := 29) dX3_leastFood_29 rfl ?_
        refine z_iload_n C (pc := 30) dX3_leastFood_30 rfl ?_
        refine z_iload C (pc := 31) dX3_leastFood_31 rfl ?_
        refine z_calliF C (by exact fun _ => cW_ad) (runVN C (wc := (cW cI a i' r3)) (pc := 33) (rY' := rm 3 67) (nn := 3) (As := [.int (nI x), .int (nI st), .int (nI f)]) (rest := []) (c_go l D cI tt a i' r3 kd n x st f hv2 hx hst (by omega) c hc2) (full_hC _) (full_nd _) ⟨rfl, rfl, ⟨Nat.le_of_ble_eq_true rfl, Nat.le_of_ble_eq_true rfl⟩, Nat.le_of_ble_eq_true rfl, Nat.le_of_ble_eq_true rfl⟩ wl_X3_128 wm_X1_go we_X1_go wi_X1 wc_X1_go (by decide +kernel) rfl 3 rfl rfl rfl rfl (Nat.le_of_ble_eq_true rfl) dX3_leastFood_33) (fun q_4 u_4 h_4 => ?_)
        obtain ⟨i4, r4⟩ := u_4
        try dsimp only at h_4
        obtain ⟨k0, k1, k2, -⟩ := h_4
        refine z_ws (st' := [.int q_4]) (ws' := (cW cI a i4 r4)) rfl rfl ?_
        refine z_if_eq C (pc := 36) (tgt := 42) dX3_leastFood_36 (by decide) (fun c_5 => ?_) (fun c_5 => ?_)
        · have hne : (homeb kd n x st c) f = false := by
            unfold homeb
            by_cases e : (marv kd n x st f c).2.2.2 = 0
            · rw [k0, if_pos e] at c_5; exact absurd c_5 (by decide)
            · exact decide_eq_false e
          refine z_iinc C (pc := 42) (v := ((nI f) + 1)) (lv' := [(0, .ref (a 0)), (1, .int (nI x)), (2, .int (nI st)), (3, .ref (a 7)), (4, .int (nI (min 40 (sumk pls kd x n)))), (5, .int ((nI f) + 1))]) dX3_leastFood_42 rfl rfl (Nat.le_of_ble_eq_true rfl) rfl rfl ?_
          refine z_goto C (pc := 45) (tgt := 10) dX3_leastFood_45 (by decide) ?_
          refine z_lv (lv' := [(0, .ref (a 0)), (1, .int (nI x)), (2, .int (nI st)), (3, .ref (a 7)), (4, .int (nI (min 40 (sumk pls kd x n)))), (5, .int (nI (f + 1)))]) ⟨rfl, rfl, rfl, rfl, rfl, lki (nI_1 f), trivial⟩ ?_
          exact ih10 (f + 1) i4 r4 (by omega) (by omega) (hsp.tr k1) (hsr2.tr k2) (by rw [← heq, show (min 40 (sumk pls kd x n)) + 1 - f = ((min 40 (sumk pls kd x n)) + 1 - (f + 1)) + 1 by omega, show ((min 40 (sumk pls kd x n)) + 1 - (f + 1)) = ((min 40 (sumk pls kd x n)) - f) by omega]; show _ = (if _ then _ else _); rw [if_neg (by rw [hne]; decide)])
        · have hho : (homeb kd n x st c) f = true := by
            unfold homeb
            by_cases e : (marv kd n x st f c).2.2.2 = 0
            · exact decide_eq_true e
            · rw [k0, if_neg e] at c_5; exact absurd rfl c_5
          refine z_iload C (pc := 39) dX3_leastFood_39 rfl ?_
          refine z_iret C (pc := 41) (i4, r4) dX3_leastFood_41 ?_ rfl
          refine ⟨?_, hsp.tr k1, hsr2.tr k2⟩
          rw [← heq, show (min 40 (sumk pls kd x n)) + 1 - f = ((min 40 (sumk pls kd x n)) - f) + 1 by omega]
          unfold ndv
          rw [if_pos hho]
  refine z_lv (lv' := [(0, .ref (a 0)), (1, .int (nI x)), (2, .int (nI st)), (3, .ref (a 7)), (4, .int (nI (min 40 (sumk pls kd x n)))), (5, .int (nI 0))]) ⟨rfl, rfl, rfl, rfl, rfl, rfl, trivial⟩ ?_
  exact key10 (_ + 1) 0 i r (Nat.lt_succ_self _) (Nat.zero_le _) SP.rf SR.rf need_cap

set_option maxHeartbeats 4000000 in
set_option maxRecDepth 100000 in
theorem c_leastFoodW (l : Launch) (D : va_G) (cI : ClassId) (tt : Nat × Nat × Nat) (a : Nat → Nat) (i : Nat → Int32) (r : Nat → Nat → Int32) (kd : Nat → Nat) (n : Nat) (hv : PV i r kd n) (x st : Nat) (hx : x < 2 ^ n) (hst : st ≤ 6) (c : Nat → Nat) (hc : ∀ k, k < 5 → r 13 k = nI (c k) ∧ c k ≤ 9) : MetI (S := ((Nat → Int32) × (Nat → Nat → Int32))) l yX3_leastFood cX3_leastFood 6 (some .int) (rm 4 92) D cI tt [.ref (a 0), .int (nI x), .int (nI st), .ref (a 18)] (cW cI a i r) (fun q u => q = needv kd n x st c ∧ SP i u.1 ∧ SR r u.2) (fun u => cW cI a u.1 u.2) := by
  have hn6 := hv.2.1
  have hx6 := pow_le6 hn6
  refine met_ofI (by decide) (Nat.le_of_ble_eq_true rfl) ?_
  intro pP eE sS mM aV bB mE cC AA C hin
  refine z_conv (lv' := [(0, .ref (a 0)), (1, .int (nI x)), (2, .int (nI st)), (3, .ref (a 18))]) ⟨rfl, rfl, rfl, rfl, trivial⟩ rfl rfl ?_
  refine z_aload_n C (pc := 0) dX3_leastFood_0 rfl ?_
  refine z_iload_n C (pc := 1) dX3_leastFood_1 rfl ?_
  refine z_calliF C (by exact fun _ => cW_ad) (runV C (wc := (cW cI a i r)) (pc := 2) (rY' := rm 2 45) (nn := 1) (As := [.int (nI x)]) (rest := []) (c_mostFoodOf l D cI tt a i r kd n hv x (by omega)) (full_hC _) (full_nd _) ⟨rfl, rfl, ⟨Nat.le_of_ble_eq_true rfl, Nat.le_of_ble_eq_true rfl⟩, Nat.le_of_ble_eq_true rfl, Nat.le_of_ble_eq_true rfl⟩ wl_X3_214 wm_X3_mostFoodOf we_X3_mostFoodOf wi_X3 wc_X3_mostFoodOf (by decide +kernel) rfl 0 rfl rfl rfl rfl (Nat.le_of_ble_eq_true rfl) dX3_leastFood_2) (fun q_1 u_1 h_1 => ?_)
  subst h_1
  refine z_ws (st' := [.int (nI (min 40 (sumk pls kd x n)))]) (ws' := (cW cI a i r)) rfl rfl ?_
  refine z_istore C (pc := 5) (lv' := [(0, .ref (a 0)), (1, .int (nI x)), (2, .int (nI st)), (3, .ref (a 18)), (4, .int (nI (min 40 (sumk pls kd x n))))]) dX3_leastFood_5 (Nat.le_of_ble_eq_true rfl) rfl rfl ?_
  refine z_iconst C (pc := 7) (v := 0) dX3_leastFood_7 (by decide) ?_
  refine z_istore C (pc := 8) (lv' := [(0, .ref (a 0)), (1, .int (nI x)), (2, .int (nI st)), (3, .ref (a 18)), (4, .int (nI (min 40 (sumk pls kd x n)))), (5, .int 0)]) dX3_leastFood_8 (Nat.le_of_ble_eq_true rfl) rfl rfl ?_
  have key10 : ∀ (fu10 : Nat) (f : Nat) (i' : Nat → Int32) (r' : Nat → Nat → Int32), (min 40 (sumk pls kd x n)) + 1 - f < fu10 → (f ≤ (min 40 (sumk pls kd x n)) + 1) → (SP i i') → (SR r r') → (ndv (homeb kd n x st c) ((min 40 (sumk pls kd x n)) + 1 - f) f = needv kd n x st c) → Z pP l eE (rm 4 92) sS mM aV bB mE cC D AA 6 0 0 (MQ bB (va_Qi (S := ((Nat → Int32) × (Nat → Nat → Int32))) (fun q u => q = needv kd n x st c ∧ SP i u.1 ∧ SR r u.2) (fun u t => va_P D vwCl ((fun u => cW cI a u.1 u.2) u) t.heap) AA) aV sS 0 0 AA) 10 [(0, .ref (a 0)), (1, .int (nI x)), (2, .int (nI st)), (3, .ref (a 18)), (4, .int (nI (min 40 (sumk pls kd x n)))), (5, .int (nI f))] [] (cW cI a i' r') := by
    intro fu10
    induction fu10 with
    | zero => intro f i' r' hfu10; exact absurd hfu10 (Nat.not_lt_zero _)
    | succ fu10 ih10 =>
      intro f i' r' hfu10 hfm hsp hsr heq
      refine z_iload C (pc := 10) dX3_leastFood_10 rfl ?_
      refine z_iload C (pc := 12) dX3_leastFood_12 rfl ?_
      refine z_icmp_gt C (pc := 14) (tgt := 48) dX3_leastFood_14 (by decide) (fun c_2 => ?_) (fun c_2 => ?_)
      · refine z_iconst C (pc := 48) (v := (-1)) dX3_leastFood_48 (by decide) ?_
        refine z_iret C (pc := 49) (i', r') dX3_leastFood_49 ?_ rfl
        have hfe : f = (min 40 (sumk pls kd x n)) + 1 := by
          have := Nat.lt_of_not_le (fun h => nI_nlt (a := (min 40 (sumk pls kd x n))) (b := f) h (by omega) c_2)
          omega
        refine ⟨?_, hsp, hsr⟩
        rw [← heq, hfe, Nat.sub_self]
        rfl
      · have hfl : f ≤ (min 40 (sumk pls kd x n)) := Nat.le_of_not_lt (fun h => c_2 (nI_lt h (by omega)))
        refine z_aload_n C (pc := 17) dX3_leastFood_17 rfl ?_
        refine z_get C (pc := 18) 0 rfl rfl wf_X3 1 (by decide) rfl wl_X3_19 (v := .ref (a 3)) rfl dX3_leastFood_18 ?_
        refine z_aload_n C (pc := 21) dX3_leastFood_21 rfl ?_
        refine z_callvF C (by exact fun _ => cW_ad) (runVN C (wc := (cW cI a i' r')) (pc := 22) (rY' := rm 2 44) (nn := 1) (As := [.ref (a 18)]) (rest := []) (c_setCairnsW l D cI tt a i' r') (full_hC _) (full_nd _) ⟨rfl, rfl, ⟨Nat.le_of_ble_eq_true rfl, Nat.le_of_ble_eq_true rfl⟩, Nat.le_of_ble_eq_true rfl, Nat.le_of_ble_eq_true rfl⟩ wl_X3_124 wm_X1_setCairns we_X1_setCairns wi_X1 wc_X1_setCairns (by decide +kernel) rfl 3 rfl rfl rfl rfl (Nat.le_of_ble_eq_true rfl) dX3_leastFood_22) (fun u_3 h_3 => ?_)
        generalize u_3 = r3 at h_3 ⊢
        obtain ⟨g1, g2⟩ := h_3
        have hsr2 := hsr.tr g1
        have hv2 := hv.sp hsp hsr2
        have hc2 : ∀ k, k < 5 → r3 2 k = nI (c k) ∧ c k ≤ 9 := fun k hk => ⟨(g2 k hk).trans ((congrFun (hsr 13 (by decide)) k).trans (hc k hk).1), (hc k hk).2⟩
        refine z_ws (st' := []) (ws' := (cW cI a i' r3)) rfl rfl ?_
        refine z_aload_n C (pc := 25) dX3_leastFood_25 rfl ?_
        refine z_get C (pc := 26) 0 rfl rfl wf_X3 1 (by decide) rfl wl_X3_19 (v := .ref (a 3)) rfl dX3_leastFood_26 ?_
        refine z_iload_n C (pc := 29) dX3_leastFood_29 rfl ?_
        refine z_iload_n C (pc := 30) dX3_leastFood_30 rfl ?_
        refine z_iload C (pc := 31) dX3_leastFood_31 rfl ?_
        refine z_calliF C (by exact fun _ => cW_ad) (runVN C (wc := (cW cI a i' r3)) (pc := 33) (rY' := rm 3 67) (nn := 3) (As := [.int (nI x), .int (nI st), .int (nI f)]) (rest := []) (c_go l D cI tt a i' r3 kd n x st f hv2 hx hst (by omega) c hc2) (full_hC _) (full_nd _) ⟨rfl, rfl, ⟨Nat.le_of_ble_eq_true rfl, Nat.le_of_ble_eq_true rfl⟩, Nat.le_of_ble_eq_true rfl, Nat.le_of_ble_eq_true rfl⟩ wl_X3_128 wm_X1_go we_X1_go wi_X1 wc_X1_go (by decide +kernel) rfl 3 rfl rfl rfl rfl (Nat.le_of_ble_eq_true rfl) dX3_leastFood_33) (fun q_4 u_4 h_4 => ?_)
        obtain ⟨i4, r4⟩ := u_4
        try dsimp only at h_4
        obtain ⟨k0, k1, k2, -⟩ := h_4
        refine z_ws (st' := [.int q_4]) (ws' := (cW cI a i4 r4)) rfl rfl ?_
        refine z_if_eq C (pc := 36) (tgt := 42) dX3_leastFood_36 (by decide) (fun c_5 => ?_) (fun c_5 => ?_)
        · have hne : (homeb kd n x st c) f = false := by
            unfold homeb
            by_cases e : (marv kd n x st f c).2.2.2 = 0
            · rw [k0, if_pos e] at c_5; exact absurd c_5 (by decide)
            · exact decide_eq_false e
          refine z_iinc C (pc := 42) (v := ((nI f) + 1)) (lv' := [(0, .ref (a 0)), (1, .int (nI x)), (2, .int (nI st)), (3, .ref (a 18)), (4, .int (nI (min 40 (sumk pls kd x n)))), (5, .int ((nI f) + 1))]) dX3_leastFood_42 rfl rfl (Nat.le_of_ble_eq_true rfl) rfl rfl ?_
          refine z_goto C (pc := 45) (tgt := 10) dX3_leastFood_45 (by decide) ?_
          refine z_lv (lv' := [(0, .ref (a 0)), (1, .int (nI x)), (2, .int (nI st)), (3, .ref (a 18)), (4, .int (nI (min 40 (sumk pls kd x n)))), (5, .int (nI (f + 1)))]) ⟨rfl, rfl, rfl, rfl, rfl, lki (nI_1 f), trivial⟩ ?_
          exact ih10 (f + 1) i4 r4 (by omega) (by omega) (hsp.tr k1) (hsr2.tr k2) (by rw [← heq, show (min 40 (sumk pls kd x n)) + 1 - f = ((min 40 (sumk pls kd x n)) + 1 - (f + 1)) + 1 by omega, show ((min 40 (sumk pls kd x n)) + 1 - (f + 1)) = ((min 40 (sumk pls kd x n)) - f) by omega]; show _ = (if _ then _ else _); rw [if_neg (by rw [hne]; decide)])
        · have hho : (homeb kd n x st c) f = true := by
            unfold homeb
            by_cases e : (marv kd n x st f c).2.2.2 = 0
            · exact decide_eq_true e
            · rw [k0, if_neg e] at c_5; exact absurd rfl c_5
          refine z_iload C (pc := 39) dX3_leastFood_39 rfl ?_
          refine z_iret C (pc := 41) (i4, r4) dX3_leastFood_41 ?_ rfl
          refine ⟨?_, hsp.tr k1, hsr2.tr k2⟩
          rw [← heq, show (min 40 (sumk pls kd x n)) + 1 - f = ((min 40 (sumk pls kd x n)) - f) + 1 by omega]
          unfold ndv
          rw [if_pos hho]
  refine z_lv (lv' := [(0, .ref (a 0)), (1, .int (nI x)), (2, .int (nI st)), (3, .ref (a 18)), (4, .int (nI (min 40 (sumk pls kd x n)))), (5, .int (nI 0))]) ⟨rfl, rfl, rfl, rfl, rfl, rfl, trivial⟩ ?_
  exact key10 (_ + 1) 0 i r (Nat.lt_succ_self _) (Nat.zero_le _) SP.rf SR.rf need_cap
end
section
theorem need_ne {x : Int32} (h : ¬ x = -1) : decide (x ≠ -1) = true := decide_eq_true h
theorem frv_s {P : Nat → Bool} {s : Nat} (h : P (s + 1) = true) : frv P (s + 1) = s + 1 := by show (if _ then _ else _) = _; rw [if_pos h]
theorem frv_n {P : Nat → Bool} {s : Nat} (h : P (s + 1) = false) : frv P (s + 1) = frv P s := by show (if _ then _ else _) = _; rw [if_neg (by rw [h]; decide)]
theorem tmv_s {ok : Nat → Bool} {s : Nat} (h : ok (s + 1) = true ∧ pcn (s + 1) < (tmv ok s).2) : tmv ok (s + 1) = (s + 1, pcn (s + 1)) := by show (if _ then _ else _) = _; rw [if_pos h]
theorem tmv_n {ok : Nat → Bool} {s : Nat} (h : ¬ (ok (s + 1) = true ∧ pcn (s + 1) < (tmv ok s).2)) : tmv ok (s + 1) = tmv ok s := by show (if _ then _ else _) = _; rw [if_neg h]
theorem noneI_s {b : Nat} (h : b ≠ 0) : noneI b = nI b := if_neg h
theorem lt_nI_of {x y : Nat} (hx : x < 2 ^ 31) (hy : y < 2 ^ 31) : nI x < nI y ↔ x < y := nI_ltI hx hy
set_option maxHeartbeats 4000000 in
set_option maxRecDepth 100000 in
theorem c_farthestN (l : Launch) (D : va_G) (cI : ClassId) (tt : Nat × Nat × Nat) (a : Nat → Nat) (i : Nat → Int32) (r : Nat → Nat → Int32) (kd : Nat → Nat) (n : Nat) (hv : PV i r kd n) (x : Nat) (hx : x < 2 ^ n) (c : Nat → Nat) (hc : ∀ k, k < 5 → r 3 k = nI (c k) ∧ c k ≤ 9) : MetI (S := ((Nat → Int32) × (Nat → Nat → Int32))) l yX3_farthest cX3_farthest 4 (some .int) (rm 5 117) D cI tt [.ref (a 0), .int (nI x), .ref (a 7)] (cW cI a i r) (fun q u => q = nI (farv kd n x c) ∧ SP i u.1 ∧ SR r u.2) (fun u => cW cI a u.1 u.2) := by
  have hn6 := hv.2.1
  have hx6 := pow_le6 hn6
  refine met_ofI (by decide) (Nat.le_of_ble_eq_true rfl) ?_
  intro pP eE sS mM aV bB mE cC AA C hin
  refine z_conv (lv' := [(0, .ref (a 0)), (1, .int (nI x)), (2, .ref (a 7))]) ⟨rfl, rfl, rfl, trivial⟩ rfl rfl ?_
  refine z_bipush C (pc := 0) (v := 6) dX3_farthest_0 (by decide) ?_
  refine z_istore_n C (pc := 2) (lv' := [(0, .ref (a 0)), (1, .int (nI x)), (2, .ref (a 7)), (3, .int 6)]) dX3_farthest_2 (Nat.le_of_ble_eq_true rfl) rfl rfl ?_
  have key3 : ∀ (fu3 : Nat) (st : Nat) (i' : Nat → Int32) (r' : Nat → Nat → Int32), st < fu3 → (st ≤ 6) → (SP i i') → (SR r r') → (frv (farb kd n x c) st = farv kd n x c) → Z pP l eE (rm 5 117) sS mM aV bB mE cC D AA 4 0 0 (MQ bB (va_Qi (S := ((Nat → Int32) × (Nat → Nat → Int32))) (fun q u => q = nI (farv kd n x c) ∧ SP i u.1 ∧ SR r u.2) (fun u t => va_P D vwCl ((fun u => cW cI a u.1 u.2) u) t.heap) AA) aV sS 0 0 AA) 3 [(0, .ref (a 0)), (1, .int (nI x)), (2, .ref (a 7)), (3, .int (nI st))] [] (cW cI a i' r') := by
    intro fu3
    induction fu3 with
    | zero => intro st i' r' hfu3; exact absurd hfu3 (Nat.not_lt_zero _)
    | succ fu3 ih3 =>
      intro st i' r' hfu3 hs6 hsp hsr heq
      refine z_iload_n C (pc := 3) dX3_farthest_3 rfl ?_
      refine z_iconst C (pc := 4) (v := 1) dX3_farthest_4 (by decide) ?_
      refine z_icmp_lt C (pc := 5) (tgt := 31) dX3_farthest_5 (by decide) (fun c_1 => ?_) (fun c_1 => ?_)
      · have h0 : st = 0 := by
          have := lt_of_nI (n := 1) (i_nle.mpr c_1) (by omega)
          omega
        subst h0
        refine z_iconst C (pc := 31) (v := 0) dX3_farthest_31 (by decide) ?_
        refine z_iret C (pc := 32) (i', r') dX3_farthest_32 ?_ rfl
        exact ⟨by rw [← heq]; rfl, hsp, hsr⟩
      · obtain ⟨k, rfl⟩ : ∃ k, st = k + 1 := ⟨st - 1, by have h0 : st ≠ 0 := (fun h => c_1 (by rw [h]; decide)); omega⟩
        have hv2 := hv.sp hsp hsr
        have hc2 : ∀ k, k < 5 → r' 3 k = nI (c k) ∧ c k ≤ 9 := fun k hk => ⟨(congrFun (hsr 3 (by decide)) k).trans (hc k hk).1, (hc k hk).2⟩
        refine z_iload_n C (pc := 8) dX3_farthest_8 rfl ?_
        refine z_if_eq C (pc := 9) (tgt := 25) dX3_farthest_9 (by decide) (fun c_2 => ?_) (fun c_2 => ?_)
        · have hx0 : x = 0 := nI_z (by omega) c_2
          have hP : (farb kd n x c) (k + 1) = false := by unfold farb; rw [decide_eq_false (fun h => h hx0)]; rfl
          refine z_iinc C (pc := 25) (v := ((nI (k + 1)) + (-1))) (lv' := [(0, .ref (a 0)), (1, .int (nI x)), (2, .ref (a 7)), (3, .int ((nI (k + 1)) + (-1)))]) dX3_farthest_25 rfl rfl (Nat.le_of_ble_eq_true rfl) rfl rfl ?_
          refine z_goto C (pc := 28) (tgt := 3) dX3_farthest_28 (by decide) ?_
          refine z_lv (lv' := [(0, .ref (a 0)), (1, .int (nI x)), (2, .ref (a 7)), (3, .int (nI k))]) ⟨rfl, rfl, rfl, lki (pk_m1 k), trivial⟩ ?_
          exact ih3 k i' r' (by omega) (by omega) hsp hsr ((frv_n hP).symm.trans heq)
        · have hx0 : x ≠ 0 := nI_nz c_2
          refine z_aload_n C (pc := 12) dX3_farthest_12 rfl ?_
          refine z_iload_n C (pc := 13) dX3_farthest_13 rfl ?_
          refine z_iload_n C (pc := 14) dX3_farthest_14 rfl ?_
          refine z_aload_n C (pc := 15) dX3_farthest_15 rfl ?_
          refine z_calliF C (by exact fun _ => cW_ad) (runV C (wc := (cW cI a i' r')) (pc := 16) (rY' := rm 4 92) (nn := 3) (As := [.int (nI x), .int (nI (k + 1)), .ref (a 7)]) (rest := []) (c_leastFoodN l D cI tt a i' r' kd n hv2 x (k + 1) hx hs6 c hc2) (full_hC _) (full_nd _) ⟨rfl, rfl, ⟨Nat.le_of_ble_eq_true rfl, Nat.le_of_ble_eq_true rfl⟩, Nat.le_of_ble_eq_true rfl, Nat.le_of_ble_eq_true rfl⟩ wl_X3_159 wm_X3_leastFood we_X3_leastFood wi_X3 wc_X3_leastFood (by decide +kernel) rfl 0 rfl rfl rfl rfl (Nat.le_of_ble_eq_true rfl) dX3_farthest_16) (fun q_3 u_3 h_3 => ?_)
          obtain ⟨i3, r3⟩ := u_3
          try dsimp only at h_3
          obtain ⟨k0, k1, k2⟩ := h_3
          refine z_ws (st' := [.int q_3]) (ws' := (cW cI a i3 r3)) rfl rfl ?_
          refine z_iconst C (pc := 19) (v := (-1)) dX3_farthest_19 (by decide) ?_
          refine z_icmp_eq C (pc := 20) (tgt := 25) dX3_farthest_20 (by decide) (fun c_4 => ?_) (fun c_4 => ?_)
          · have hP : (farb kd n x c) (k + 1) = false := by unfold farb; rw [decide_eq_false (p := needv kd n x (k + 1) c ≠ -1) (fun h => h (k0 ▸ c_4)), Bool.and_false]
            refine z_iinc C (pc := 25) (v := ((nI (k + 1)) + (-1))) (lv' := [(0, .ref (a 0)), (1, .int (nI x)), (2, .ref (a 7)), (3, .int ((nI (k + 1)) + (-1)))]) dX3_farthest_25 rfl rfl (Nat.le_of_ble_eq_true rfl) rfl rfl ?_
            refine z_goto C (pc := 28) (tgt := 3) dX3_farthest_28 (by decide) ?_
            refine z_lv (lv' := [(0, .ref (a 0)), (1, .int (nI x)), (2, .ref (a 7)), (3, .int (nI k))]) ⟨rfl, rfl, rfl, lki (pk_m1 k), trivial⟩ ?_
            exact ih3 k i3 r3 (by omega) (by omega) (hsp.tr k1) (hsr.tr k2) ((frv_n hP).symm.trans heq)
          · have hP : (farb kd n x c) (k + 1) = true := by unfold farb; rw [decide_eq_true hx0, decide_eq_true (p := needv kd n x (k + 1) c ≠ -1) (fun h => c_4 (k0.trans h))]; rfl
            refine z_iload_n C (pc := 23) dX3_farthest_23 rfl ?_
            refine z_iret C (pc := 24) (i3, r3) dX3_farthest_24 ?_ rfl
            exact ⟨by rw [← heq, frv_s hP], hsp.tr k1, hsr.tr k2⟩
  refine z_lv (lv' := [(0, .ref (a 0)), (1, .int (nI x)), (2, .ref (a 7)), (3, .int (nI 6))]) ⟨rfl, rfl, rfl, rfl, trivial⟩ ?_
  exact key3 (_ + 1) 6 i r (Nat.lt_succ_self _) (Nat.le_refl _) SP.rf SR.rf rfl

set_option maxHeartbeats 4000000 in
set_option maxRecDepth 100000 in
theorem c_farthestW (l : Launch) (D : va_G) (cI : ClassId) (tt : Nat × Nat × Nat) (a : Nat → Nat) (i : Nat → Int32) (r : Nat → Nat → Int32) (kd : Nat → Nat) (n : Nat) (hv : PV i r kd n) (x : Nat) (hx : x < 2 ^ n) (c : Nat → Nat) (hc : ∀ k, k < 5 → r 13 k = nI (c k) ∧ c k ≤ 9) : MetI (S := ((Nat → Int32) × (Nat → Nat → Int32))) l yX3_farthest cX3_farthest 4 (some .int) (rm 5 117) D cI tt [.ref (a 0), .int (nI x), .ref (a 18)] (cW cI a i r) (fun q u => q = nI (farv kd n x c) ∧ SP i u.1 ∧ SR r u.2) (fun u => cW cI a u.1 u.2) := by
  have hn6 := hv.2.1
  have hx6 := pow_le6 hn6
  refine met_ofI (by decide) (Nat.le_of_ble_eq_true rfl) ?_
  intro pP eE sS mM aV bB mE cC AA C hin
  refine z_conv (lv' := [(0, .ref (a 0)), (1, .int (nI x)), (2, .ref (a 18))]) ⟨rfl, rfl, rfl, trivial⟩ rfl rfl ?_
  refine z_bipush C (pc := 0) (v := 6) dX3_farthest_0 (by decide) ?_
  refine z_istore_n C (pc := 2) (lv' := [(0, .ref (a 0)), (1, .int (nI x)), (2, .ref (a 18)), (3, .int 6)]) dX3_farthest_2 (Nat.le_of_ble_eq_true rfl) rfl rfl ?_
  have key3 : ∀ (fu3 : Nat) (st : Nat) (i' : Nat → Int32) (r' : Nat → Nat → Int32), st < fu3 → (st ≤ 6) → (SP i i') → (SR r r') → (frv (farb kd n x c) st = farv kd n x c) → Z pP l eE (rm 5 117) sS mM aV bB mE cC D AA 4 0 0 (MQ bB (va_Qi (S := ((Nat → Int32) × (Nat → Nat → Int32))) (fun q u => q = nI (farv kd n x c) ∧ SP i u.1 ∧ SR r u.2) (fun u t => va_P D vwCl ((fun u => cW cI a u.1 u.2) u) t.heap) AA) aV sS 0 0 AA) 3 [(0, .ref (a 0)), (1, .int (nI x)), (2, .ref (a 18)), (3, .int (nI st))] [] (cW cI a i' r') := by
    intro fu3
    induction fu3 with
    | zero => intro st i' r' hfu3; exact absurd hfu3 (Nat.not_lt_zero _)
    | succ fu3 ih3 =>
      intro st i' r' hfu3 hs6 hsp hsr heq
      refine z_iload_n C (pc := 3) dX3_farthest_3 rfl ?_
      refine z_iconst C (pc := 4) (v := 1) dX3_farthest_4 (by decide) ?_
      refine z_icmp_lt C (pc := 5) (tgt := 31) dX3_farthest_5 (by decide) (fun c_1 => ?_) (fun c_1 => ?_)
      · have h0 : st = 0 := by
          have := lt_of_nI (n := 1) (i_nle.mpr c_1) (by omega)
          omega
        subst h0
        refine z_iconst C (pc := 31) (v := 0) dX3_farthest_31 (by decide) ?_
        refine z_iret C (pc := 32) (i', r') dX3_farthest_32 ?_ rfl
        exact ⟨by rw [← heq]; rfl, hsp, hsr⟩
      · obtain ⟨k, rfl⟩ : ∃ k, st = k + 1 := ⟨st - 1, by have h0 : st ≠ 0 := (fun h => c_1 (by rw [h]; decide)); omega⟩
        have hv2 := hv.sp hsp hsr
        have hc2 : ∀ k, k < 5 → r' 13 k = nI (c k) ∧ c k ≤ 9 := fun k hk => ⟨(congrFun (hsr 13 (by decide)) k).trans (hc k hk).1, (hc k hk).2⟩
        refine z_iload_n C (pc := 8) dX3_farthest_8 rfl ?_
        refine z_if_eq C (pc := 9) (tgt := 25) dX3_farthest_9 (by decide) (fun c_2 => ?_) (fun c_2 => ?_)
        · have hx0 : x = 0 := nI_z (by omega) c_2
          have hP : (farb kd n x c) (k + 1) = false := by unfold farb; rw [decide_eq_false (fun h => h hx0)]; rfl
          refine z_iinc C (pc := 25) (v := ((nI (k + 1)) + (-1))) (lv' := [(0, .ref (a 0)), (1, .int (nI x)), (2, .ref (a 18)), (3, .int ((nI (k + 1)) + (-1)))]) dX3_farthest_25 rfl rfl (Nat.le_of_ble_eq_true rfl) rfl rfl ?_
          refine z_goto C (pc := 28) (tgt := 3) dX3_farthest_28 (by decide) ?_
          refine z_lv (lv' := [(0, .ref (a 0)), (1, .int (nI x)), (2, .ref (a 18)), (3, .int (nI k))]) ⟨rfl, rfl, rfl, lki (pk_m1 k), trivial⟩ ?_
          exact ih3 k i' r' (by omega) (by omega) hsp hsr ((frv_n hP).symm.trans heq)
        · have hx0 : x ≠ 0 := nI_nz c_2
          refine z_aload_n C (pc := 12) dX3_farthest_12 rfl ?_
          refine z_iload_n C (pc := 13) dX3_farthest_13 rfl ?_
          refine z_iload_n C (pc := 14) dX3_farthest_14 rfl ?_
          refine z_aload_n C (pc := 15) dX3_farthest_15 rfl ?_
          refine z_calliF C (by exact fun _ => cW_ad) (runV C (wc := (cW cI a i' r')) (pc := 16) (rY' := rm 4 92) (nn := 3) (As := [.int (nI x), .int (nI (k + 1)), .ref (a 18)]) (rest := []) (c_leastFoodW l D cI tt a i' r' kd n hv2 x (k + 1) hx hs6 c hc2) (full_hC _) (full_nd _) ⟨rfl, rfl, ⟨Nat.le_of_ble_eq_true rfl, Nat.le_of_ble_eq_true rfl⟩, Nat.le_of_ble_eq_true rfl, Nat.le_of_ble_eq_true rfl⟩ wl_X3_159 wm_X3_leastFood we_X3_leastFood wi_X3 wc_X3_leastFood (by decide +kernel) rfl 0 rfl rfl rfl rfl (Nat.le_of_ble_eq_true rfl) dX3_farthest_16) (fun q_3 u_3 h_3 => ?_)
          obtain ⟨i3, r3⟩ := u_3
          try dsimp only at h_3
          obtain ⟨k0, k1, k2⟩ := h_3
          refine z_ws (st' := [.int q_3]) (ws' := (cW cI a i3 r3)) rfl rfl ?_
          refine z_iconst C (pc := 19) (v := (-1)) dX3_farthest_19 (by decide) ?_
          refine z_icmp_eq C (pc := 20) (tgt := 25) dX3_farthest_20 (by decide) (fun c_4 => ?_) (fun c_4 => ?_)
          · have hP : (farb kd n x c) (k + 1) = false := by unfold farb; rw [decide_eq_false (p := needv kd n x (k + 1) c ≠ -1) (fun h => h (k0 ▸ c_4)), Bool.and_false]
            refine z_iinc C (pc := 25) (v := ((nI (k + 1)) + (-1))) (lv' := [(0, .ref (a 0)), (1, .int (nI x)), (2, .ref (a 18)), (3, .int ((nI (k + 1)) + (-1)))]) dX3_farthest_25 rfl rfl (Nat.le_of_ble_eq_true rfl) rfl rfl ?_
            refine z_goto C (pc := 28) (tgt := 3) dX3_farthest_28 (by decide) ?_
            refine z_lv (lv' := [(0, .ref (a 0)), (1, .int (nI x)), (2, .ref (a 18)), (3, .int (nI k))]) ⟨rfl, rfl, rfl, lki (pk_m1 k), trivial⟩ ?_
            exact ih3 k i3 r3 (by omega) (by omega) (hsp.tr k1) (hsr.tr k2) ((frv_n hP).symm.trans heq)
          · have hP : (farb kd n x c) (k + 1) = true := by unfold farb; rw [decide_eq_true hx0, decide_eq_true (p := needv kd n x (k + 1) c ≠ -1) (fun h => c_4 (k0.trans h))]; rfl
            refine z_iload_n C (pc := 23) dX3_farthest_23 rfl ?_
            refine z_iret C (pc := 24) (i3, r3) dX3_farthest_24 ?_ rfl
            exact ⟨by rw [← heq, frv_s hP], hsp.tr k1, hsr.tr k2⟩
  refine z_lv (lv' := [(0, .ref (a 0)), (1, .int (nI x)), (2, .ref (a 18)), (3, .int (nI 6))]) ⟨rfl, rfl, rfl, rfl, trivial⟩ ?_
  exact key3 (_ + 1) 6 i r (Nat.lt_succ_self _) (Nat.le_refl _) SP.rf SR.rf rfl

set_option maxHeartbeats 4000000 in
set_option maxRecDepth 100000 in
theorem c_fewest (l : Launch) (D : va_G) (cI : ClassId) (tt : Nat × Nat × Nat) (a : Nat → Nat) (i : Nat → Int32) (r : Nat → Nat → Int32) (kd : Nat → Nat) (n : Nat) (hv : PV i r kd n) (al st : Nat) (hal : i 10 = nI al) (hst : st ≤ 6) (c : Nat → Nat) (hc : ∀ k, k < 5 → r 3 k = nI (c k) ∧ c k ≤ 9) : MetI (S := ((Nat → Int32) × (Nat → Nat → Int32))) l yX3_fewest cX3_fewest 6 (some .int) (rm 5 117) D cI tt [.ref (a 0), .int (nI st)] (cW cI a i r) (fun q u => q = teamv kd n al st c ∧ SP i u.1 ∧ SR r u.2) (fun u => cW cI a u.1 u.2) := by
  have hn6 := hv.2.1
  have hx6 := pow_le6 hn6
  refine met_ofI (by decide) (Nat.le_of_ble_eq_true rfl) ?_
  intro pP eE sS mM aV bB mE cC AA C hin
  refine z_conv (lv' := [(0, .ref (a 0)), (1, .int (nI st))]) ⟨rfl, rfl, trivial⟩ rfl rfl ?_
  refine z_iconst C (pc := 0) (v := (-1)) dX3_fewest_0 (by decide) ?_
  refine z_istore_n C (pc := 1) (lv' := [(0, .ref (a 0)), (1, .int (nI st)), (2, .int (-1))]) dX3_fewest_1 (Nat.le_of_ble_eq_true rfl) rfl rfl ?_
  refine z_bipush C (pc := 2) (v := 7) dX3_fewest_2 (by decide) ?_
  refine z_istore_n C (pc := 4) (lv' := [(0, .ref (a 0)), (1, .int (nI st)), (2, .int (-1)), (3, .int 7)]) dX3_fewest_4 (Nat.le_of_ble_eq_true rfl) rfl rfl ?_
  refine z_iconst C (pc := 5) (v := 1) dX3_fewest_5 (by decide) ?_
  refine z_istore C (pc := 6) (lv' := [(0, .ref (a 0)), (1, .int (nI st)), (2, .int (-1)), (3, .int 7), (4, .int 1)]) dX3_fewest_6 (Nat.le_of_ble_eq_true rfl) rfl rfl ?_
  have key8 : ∀ (fu8 : Nat) (s : Nat) (i' : Nat → Int32) (r' : Nat → Nat → Int32), 2 ^ n - s < fu8 → (s ≤ 2 ^ n - 1) → (SP i i') → (SR r r') → Z pP l eE (rm 5 117) sS mM aV bB mE cC D AA 6 0 0 (MQ bB (va_Qi (S := ((Nat → Int32) × (Nat → Nat → Int32))) (fun q u => q = teamv kd n al st c ∧ SP i u.1 ∧ SR r u.2) (fun u t => va_P D vwCl ((fun u => cW cI a u.1 u.2) u) t.heap) AA) aV sS 0 0 AA) 8 [(0, .ref (a 0)), (1, .int (nI st)), (2, .int (noneI (tmv (okb kd n al st c) s).1)), (3, .int (nI (tmv (okb kd n al st c) s).2)), (4, .int (nI (s + 1)))] [] (cW cI a i' r') := by
    intro fu8
    induction fu8 with
    | zero => intro s i' r' hfu8; exact absurd hfu8 (Nat.not_lt_zero _)
    | succ fu8 ih8 =>
      intro s i' r' hfu8 hsm hsp hsr
      refine z_iload C (pc := 8) dX3_fewest_8 rfl ?_
      refine z_aload_n C (pc := 10) dX3_fewest_10 rfl ?_
      have hv2 := hv.sp hsp hsr
      refine z_get C (pc := 11) 0 rfl rfl wf_X3 1 (by decide) rfl wl_X3_19 (v := .ref (a 3)) rfl dX3_fewest_11 ?_
      refine z_calliF C (by exact fun _ => cW_ad) (runVN C (wc := (cW cI a i' r')) (pc := 14) (rY' := rm 0 0) (nn := 0) (As := []) (rest := [.int (nI (s + 1))]) (c_all l D cI tt a i' r' n hv2.1 hn6) (full_hC _) (full_nd _) ⟨rfl, rfl, ⟨Nat.le_of_ble_eq_true rfl, Nat.le_of_ble_eq_true rfl⟩, Nat.le_of_ble_eq_true rfl, Nat.le_of_ble_eq_true rfl⟩ wl_X3_70 wm_X1_all we_X1_all wi_X1 wc_X1_all (by decide +kernel) rfl 3 rfl rfl rfl rfl (Nat.le_of_ble_eq_true rfl) dX3_fewest_14) (fun q_1 u_1 h_1 => ?_)
      subst h_1
      refine z_ws (st' := [.int (nI (2 ^ n - 1)), .int (nI (s + 1))]) (ws' := (cW cI a i' r')) rfl rfl ?_
      refine z_icmp_gt C (pc := 17) (tgt := 83) dX3_fewest_17 (by decide) (fun c_2 => ?_) (fun c_2 => ?_)
      · refine z_iload_n C (pc := 83) dX3_fewest_83 rfl ?_
        refine z_iret C (pc := 84) (i', r') dX3_fewest_84 ?_ rfl
        have hse : s = 2 ^ n - 1 := by
          have := Nat.lt_of_not_le (fun h => nI_nlt (a := 2 ^ n - 1) (b := s + 1) h (by omega) c_2)
          omega
        subst hse
        exact ⟨rfl, hsp, hsr⟩
      · have hsl : s + 1 ≤ 2 ^ n - 1 := Nat.le_of_not_lt (fun h => c_2 (nI_lt h (by omega)))
        have hx : s + 1 < 2 ^ n := by omega
        have hc2 : ∀ k, k < 5 → r' 3 k = nI (c k) ∧ c k ≤ 9 := fun k hk => ⟨(congrFun (hsr 3 (by decide)) k).trans (hc k hk).1, (hc k hk).2⟩
        have hal2 : i' 10 = nI al := (hsp 10 (by omega)).trans hal
        refine z_aload_n C (pc := 20) dX3_fewest_20 rfl ?_
        refine z_iload C (pc := 21) dX3_fewest_21 rfl ?_
        refine z_calliF C (by exact fun _ => cW_ad) (runV C (wc := (cW cI a i' r')) (pc := 23) (rY' := rm 0 0) (nn := 1) (As := [.int (nI (s + 1))]) (rest := []) (c_anyIsDead l D cI tt a i' r' (nI (s + 1))) (full_hC _) (full_nd _) ⟨rfl, rfl, ⟨Nat.le_of_ble_eq_true rfl, Nat.le_of_ble_eq_true rfl⟩, Nat.le_of_ble_eq_true rfl, Nat.le_of_ble_eq_true rfl⟩ wl_X3_121 wm_X3_anyIsDead we_X3_anyIsDead wi_X3 wc_X3_anyIsDead (by decide +kernel) rfl 0 rfl rfl rfl rfl (Nat.le_of_ble_eq_true rfl) dX3_fewest_23) (fun q_3 u_3 h_3 => ?_)
        refine z_ws (st' := [.int q_3]) (ws' := (cW cI a i' r')) rfl rfl ?_
        refine z_if_ne C (pc := 26) (tgt := 42) dX3_fewest_26 (by decide) (fun c_4 => ?_) (fun c_4 => ?_)
        · have hno : ¬ (okb kd n al st c (s + 1) = true ∧ pcn (s + 1) < (tmv (okb kd n al st c) s).2) := fun h => by
            have h1 := b2_t (h_3 ▸ c_4)
            rw [hal2] at h1
            have h2 := h.1
            unfold okb at h2
            rw [decide_eq_false (of_decide_eq_true h1)] at h2
            exact absurd h2 (by simp)
          refine z_iconst C (pc := 42) (v := 0) dX3_fewest_42 (by decide) ?_
          refine z_istore C (pc := 43) (lv' := [(0, .ref (a 0)), (1, .int (nI st)), (2, .int (noneI (tmv (okb kd n al st c) s).1)), (3, .int (nI (tmv (okb kd n al st c) s).2)), (4, .int (nI (s + 1))), (5, .int 0)]) dX3_fewest_43 (Nat.le_of_ble_eq_true rfl) rfl rfl ?_
          refine z_iload C (pc := 45) dX3_fewest_45 rfl ?_
          refine z_if_eq C (pc := 47) (tgt := 77) dX3_fewest_47 (by decide) (fun c_5 => ?_) (fun c_5 => ?_)
          · refine z_iinc C (pc := 77) (v := ((nI (s + 1)) + 1)) (lv' := [(0, .ref (a 0)), (1, .int (nI st)), (2, .int (noneI (tmv (okb kd n al st c) s).1)), (3, .int (nI (tmv (okb kd n al st c) s).2)), (4, .int ((nI (s + 1)) + 1)), (5, .int 0)]) dX3_fewest_77 rfl rfl (Nat.le_of_ble_eq_true rfl) rfl rfl ?_
            refine z_goto C (pc := 80) (tgt := 8) dX3_fewest_80 (by decide) ?_
            refine z_lv (lv' := [(0, .ref (a 0)), (1, .int (nI st)), (2, .int (noneI (tmv (okb kd n al st c) (s + 1)).1)), (3, .int (nI (tmv (okb kd n al st c) (s + 1)).2)), (4, .int (nI ((s + 1) + 1)))]) ⟨rfl, rfl, lki (by rw [tmv_n hno]), lki (by rw [tmv_n hno]), lki (nI_1 _), trivial⟩ ?_
            exact ih8 (s + 1) i' r' (by omega) hsl hsp hsr
          · exact absurd c_5 (by decide)
        · have hda : deadv (nI (s + 1)) (nI al) = 0 := by
            have h1 := b2_f (h_3 ▸ c_4)
            rw [hal2] at h1
            exact Classical.not_not.mp (of_decide_eq_false h1)
          refine z_iload C (pc := 29) dX3_fewest_29 rfl ?_
          refine z_calli C (isC := []) rfl (by exact fun _ => rfl) (runS C (wc := []) (pc := 31) (rY' := rm 0 0) (nn := 1) (As := [.int (nI (s + 1))]) (rest := []) (c_bitCount l D cI tt (nI (s + 1))) rfl rfl ⟨rfl, rfl, ⟨Nat.le_of_ble_eq_true rfl, Nat.le_of_ble_eq_true rfl⟩, Nat.le_of_ble_eq_true rfl, Nat.le_of_ble_eq_true rfl⟩ wl_X3_187 ws_J6_bitCount_0f7a4 wi_J6 wc_J6_bitCount_0f7a4 (by decide +kernel) rfl rfl (Nat.le_of_ble_eq_true rfl) dX3_fewest_31) (fun r_6 u_6 h_6 => ?_)
          have h_6 : r_6 = nI (pcn (s + 1)) := h_6.trans (bc_pcn _ (by omega))
          subst h_6
          refine z_ws (st' := [.int (nI (pcn (s + 1)))]) (ws' := (cW cI a i' r')) rfl rfl ?_
          refine z_iload_n C (pc := 34) dX3_fewest_34 rfl ?_
          refine z_icmp_ge C (pc := 35) (tgt := 42) dX3_fewest_35 (by decide) (fun c_7 => ?_) (fun c_7 => ?_)
          · have hno : ¬ (okb kd n al st c (s + 1) = true ∧ pcn (s + 1) < (tmv (okb kd n al st c) s).2) := fun h => nI_ge h.2 (by have := tmv_7 (okb kd n al st c) s; omega) c_7
            refine z_iconst C (pc := 42) (v := 0) dX3_fewest_42 (by decide) ?_
            refine z_istore C (pc := 43) (lv' := [(0, .ref (a 0)), (1, .int (nI st)), (2, .int (noneI (tmv (okb kd n al st c) s).1)), (3, .int (nI (tmv (okb kd n al st c) s).2)), (4, .int (nI (s + 1))), (5, .int 0)]) dX3_fewest_43 (Nat.le_of_ble_eq_true rfl) rfl rfl ?_
            refine z_iload C (pc := 45) dX3_fewest_45 rfl ?_
            refine z_if_eq C (pc := 47) (tgt := 77) dX3_fewest_47 (by decide) (fun c_8 => ?_) (fun c_8 => ?_)
            · refine z_iinc C (pc := 77) (v := ((nI (s + 1)) + 1)) (lv' := [(0, .ref (a 0)), (1, .int (nI st)), (2, .int (noneI (tmv (okb kd n al st c) s).1)), (3, .int (nI (tmv (okb kd n al st c) s).2)), (4, .int ((nI (s + 1)) + 1)), (5, .int 0)]) dX3_fewest_77 rfl rfl (Nat.le_of_ble_eq_true rfl) rfl rfl ?_
              refine z_goto C (pc := 80) (tgt := 8) dX3_fewest_80 (by decide) ?_
              refine z_lv (lv' := [(0, .ref (a 0)), (1, .int (nI st)), (2, .int (noneI (tmv (okb kd n al st c) (s + 1)).1)), (3, .int (nI (tmv (okb kd n al st c) (s + 1)).2)), (4, .int (nI ((s + 1) + 1)))]) ⟨rfl, rfl, lki (by rw [tmv_n hno]), lki (by rw [tmv_n hno]), lki (nI_1 _), trivial⟩ ?_
              exact ih8 (s + 1) i' r' (by omega) hsl hsp hsr
            · exact absurd c_8 (by decide)
          · have hpc : pcn (s + 1) < (tmv (okb kd n al st c) s).2 := lt_of_nI c_7 (by have := pcn_le (s + 1); omega)
            refine z_iconst C (pc := 38) (v := 1) dX3_fewest_38 (by decide) ?_
            refine z_goto C (pc := 39) (tgt := 43) dX3_fewest_39 (by decide) ?_
            refine z_istore C (pc := 43) (lv' := [(0, .ref (a 0)), (1, .int (nI st)), (2, .int (noneI (tmv (okb kd n al st c) s).1)), (3, .int (nI (tmv (okb kd n al st c) s).2)), (4, .int (nI (s + 1))), (5, .int 1)]) dX3_fewest_43 (Nat.le_of_ble_eq_true rfl) rfl rfl ?_
            refine z_iload C (pc := 45) dX3_fewest_45 rfl ?_
            refine z_if_eq C (pc := 47) (tgt := 77) dX3_fewest_47 (by decide) (fun c_9 => ?_) (fun c_9 => ?_)
            · exact absurd c_9 (by decide)
            · refine z_aload_n C (pc := 50) dX3_fewest_50 rfl ?_
              refine z_iload C (pc := 51) dX3_fewest_51 rfl ?_
              refine z_iload_n C (pc := 53) dX3_fewest_53 rfl ?_
              refine z_aload_n C (pc := 54) dX3_fewest_54 rfl ?_
              refine z_get C (pc := 55) 0 rfl rfl wf_X3 2 (by decide) rfl wl_X3_26 (v := .ref (a 6)) rfl dX3_fewest_55 ?_
              refine z_getN C (pc := 58) 6 rfl rfl wf_X2 1 (by decide) rfl wl_X3_77 (v := .ref (a 7)) rfl dX3_fewest_58 ?_
              refine z_calliF C (by exact fun _ => cW_ad) (runV C (wc := (cW cI a i' r')) (pc := 61) (rY' := rm 4 92) (nn := 3) (As := [.int (nI (s + 1)), .int (nI st), .ref (a 7)]) (rest := []) (c_leastFoodN l D cI tt a i' r' kd n hv2 (s + 1) st hx hst c hc2) (full_hC _) (full_nd _) ⟨rfl, rfl, ⟨Nat.le_of_ble_eq_true rfl, Nat.le_of_ble_eq_true rfl⟩, Nat.le_of_ble_eq_true rfl, Nat.le_of_ble_eq_true rfl⟩ wl_X3_159 wm_X3_leastFood we_X3_leastFood wi_X3 wc_X3_leastFood (by decide +kernel) rfl 0 rfl rfl rfl rfl (Nat.le_of_ble_eq_true rfl) dX3_fewest_61) (fun q_10 u_10 h_10 => ?_)
              obtain ⟨i10, r10⟩ := u_10
              try dsimp only at h_10
              obtain ⟨k0, k1, k2⟩ := h_10
              refine z_ws (st' := [.int q_10]) (ws' := (cW cI a i10 r10)) rfl rfl ?_
              refine z_iconst C (pc := 64) (v := (-1)) dX3_fewest_64 (by decide) ?_
              refine z_icmp_eq C (pc := 65) (tgt := 77) dX3_fewest_65 (by decide) (fun c_11 => ?_) (fun c_11 => ?_)
              · have hno : ¬ (okb kd n al st c (s + 1) = true ∧ pcn (s + 1) < (tmv (okb kd n al st c) s).2) := fun h => by
                  have h2 := h.1
                  unfold okb at h2
                  rw [decide_eq_false (p := needv kd n (s + 1) st c ≠ -1) (fun h => h (k0 ▸ c_11)), Bool.and_false] at h2
                  exact absurd h2 (by decide)
                refine z_iinc C (pc := 77) (v := ((nI (s + 1)) + 1)) (lv' := [(0, .ref (a 0)), (1, .int (nI st)), (2, .int (noneI (tmv (okb kd n al st c) s).1)), (3, .int (nI (tmv (okb kd n al st c) s).2)), (4, .int ((nI (s + 1)) + 1)), (5, .int 1)]) dX3_fewest_77 rfl rfl (Nat.le_of_ble_eq_true rfl) rfl rfl ?_
                refine z_goto C (pc := 80) (tgt := 8) dX3_fewest_80 (by decide) ?_
                refine z_lv (lv' := [(0, .ref (a 0)), (1, .int (nI st)), (2, .int (noneI (tmv (okb kd n al st c) (s + 1)).1)), (3, .int (nI (tmv (okb kd n al st c) (s + 1)).2)), (4, .int (nI ((s + 1) + 1)))]) ⟨rfl, rfl, lki (by rw [tmv_n hno]), lki (by rw [tmv_n hno]), lki (nI_1 _), trivial⟩ ?_
                exact ih8 (s + 1) i10 r10 (by omega) hsl (hsp.tr k1) (hsr.tr k2)
              · have hok : okb kd n al st c (s + 1) = true ∧ pcn (s + 1) < (tmv (okb kd n al st c) s).2 := ⟨by unfold okb; rw [decide_eq_true hda, decide_eq_true (p := needv kd n (s + 1) st c ≠ -1) (fun h => c_11 (k0.trans h))]; rfl, hpc⟩
                refine z_iload C (pc := 68) dX3_fewest_68 rfl ?_
                refine z_istore_n C (pc := 70) (lv' := [(0, .ref (a 0)), (1, .int (nI st)), (2, .int (nI (s + 1))), (3, .int (nI (tmv (okb kd n al st c) s).2)), (4, .int (nI (s + 1))), (5, .int 1)]) dX3_fewest_70 (Nat.le_of_ble_eq_true rfl) rfl rfl ?_
                refine z_iload C (pc := 71) dX3_fewest_71 rfl ?_
                refine z_calli C (isC := []) rfl (by exact fun _ => rfl) (runS C (wc := []) (pc := 73) (rY' := rm 0 0) (nn := 1) (As := [.int (nI (s + 1))]) (rest := []) (c_bitCount l D cI tt (nI (s + 1))) rfl rfl ⟨rfl, rfl, ⟨Nat.le_of_ble_eq_true rfl, Nat.le_of_ble_eq_true rfl⟩, Nat.le_of_ble_eq_true rfl, Nat.le_of_ble_eq_true rfl⟩ wl_X3_187 ws_J6_bitCount_0f7a4 wi_J6 wc_J6_bitCount_0f7a4 (by decide +kernel) rfl rfl (Nat.le_of_ble_eq_true rfl) dX3_fewest_73) (fun r_12 u_12 h_12 => ?_)
                have h_12 : r_12 = nI (pcn (s + 1)) := h_12.trans (bc_pcn _ (by omega))
                subst h_12
                refine z_ws (st' := [.int (nI (pcn (s + 1)))]) (ws' := (cW cI a i10 r10)) rfl rfl ?_
                refine z_istore_n C (pc := 76) (lv' := [(0, .ref (a 0)), (1, .int (nI st)), (2, .int (nI (s + 1))), (3, .int (nI (pcn (s + 1)))), (4, .int (nI (s + 1))), (5, .int 1)]) dX3_fewest_76 (Nat.le_of_ble_eq_true rfl) rfl rfl ?_
                refine z_iinc C (pc := 77) (v := ((nI (s + 1)) + 1)) (lv' := [(0, .ref (a 0)), (1, .int (nI st)), (2, .int (nI (s + 1))), (3, .int (nI (pcn (s + 1)))), (4, .int ((nI (s + 1)) + 1)), (5, .int 1)]) dX3_fewest_77 rfl rfl (Nat.le_of_ble_eq_true rfl) rfl rfl ?_
                refine z_goto C (pc := 80) (tgt := 8) dX3_fewest_80 (by decide) ?_
                refine z_lv (lv' := [(0, .ref (a 0)), (1, .int (nI st)), (2, .int (noneI (tmv (okb kd n al st c) (s + 1)).1)), (3, .int (nI (tmv (okb kd n al st c) (s + 1)).2)), (4, .int (nI ((s + 1) + 1)))]) ⟨rfl, rfl, lki (by rw [tmv_s hok]; exact (noneI_s (by omega)).symm), lki (by rw [tmv_s hok]), lki (nI_1 _), trivial⟩ ?_
                exact ih8 (s + 1) i10 r10 (by omega) hsl (hsp.tr k1) (hsr.tr k2)
  refine z_lv (lv' := [(0, .ref (a 0)), (1, .int (nI st)), (2, .int (noneI (tmv (okb kd n al st c) 0).1)), (3, .int (nI (tmv (okb kd n al st c) 0).2)), (4, .int (nI (0 + 1)))]) ⟨rfl, rfl, rfl, rfl, rfl, trivial⟩ ?_
  exact key8 (_ + 1) 0 i r (Nat.lt_succ_self _) (Nat.zero_le _) SP.rf SR.rf
end
section
/-- what is heard -/
def HV (i : Nat → Int32) (r : Nat → Nat → Int32) (n hn : Nat) (hm hs hf hh : Nat → Nat) : Prop := i 13 = nI hn ∧ hn ≤ 6 ∧ ∀ k, k < hn → (r 4 k = nI (hm k) ∧ hm k < 2 ^ n) ∧ (r 5 k = nI (hs k) ∧ hs k ≤ 6) ∧ (r 6 k = nI (hf k) ∧ hf k ≤ 40) ∧ r 7 k = nI (hh k) ∧ hh k ≤ 1
theorem HV.sp {i i' : Nat → Int32} {r r' : Nat → Nat → Int32} {n hn : Nat} {hm hs hf hh : Nat → Nat} (h : HV i r n hn hm hs hf hh) (hi : SP i i') (hr : SR r r') : HV i' r' n hn hm hs hf hh := ⟨(hi 13 (by omega)).trans h.1, h.2.1, fun k hk => by rw [hr 4 (by decide), hr 5 (by decide), hr 6 (by decide), hr 7 (by decide)]; exact h.2.2 k hk⟩
theorem upN_le {c : Nat → Nat} {q v : Nat} (hc : ∀ k, k < 5 → c k ≤ 9) (hv : v ≤ 9) : ∀ k, k < 5 → upN c q v k ≤ 9 := fun k hk => by unfold upN; split <;> first | exact hv | exact hc k hk
theorem put_up {f : Nat → Int32} {c : Nat → Nat} {q v : Nat} (h0 : 1 ≤ q) (h5 : q < 6) (hf : ∀ k, k < 5 → f k = nI (c k)) : ∀ k, k < 5 → putv 5 f (nI q - 1) (nI v) k = nI (upN c (q - 1) v k) := fun k hk => by
  rw [put_c h5, if_neg (by omega)]
  unfold upd upN
  by_cases e : k = q - 1
  · rw [if_pos e, if_pos e]
  · rw [if_neg e, if_neg e]; exact hf k hk
theorem b2_1 {b : Bool} (h : b2 b = 1) : b = true := b2_t (by rw [h]; decide)
theorem b2_n1 {b : Bool} (h : ¬ b2 b = 1) : b = false := by cases b <;> first | rfl | exact absurd rfl h
theorem mar_b2 {d : Nat} : (if d = 0 then (1 : Int32) else 0) = b2 (decide (d = 0)) := by unfold b2; by_cases h : d = 0 <;> simp [h]
theorem mar_home {kd : Nat → Nat} {n x st f : Nat} {c : Nat → Nat} : (if (marv kd n x st f c).2.2.2 = 0 then (1 : Int32) else 0) = b2 (homeb kd n x st c f) := mar_b2
theorem alls_s {S : Nat → Bool} {p : Nat} (h : alls S p = true) (h2 : S p = true) : alls S (p + 1) = true := by show (alls S p && S p) = true; rw [h, h2]; rfl
theorem alls_n {S : Nat → Bool} {p m : Nat} (h2 : S p = false) (hm : p < m) : alls S m = false := by
  have h1 : alls S (p + 1) = false := by show (alls S p && S p) = false; rw [h2, Bool.and_false]
  have := alls_f h1 (m - (p + 1))
  rwa [show p + 1 + (m - (p + 1)) = m by omega] at this
theorem lyv_t {P : Nat → Bool} {v : Nat} (h : P v = true) : lyv P (v + 1) = lyv P v + 2 ^ v := by show lyv P v + (if _ then _ else _) = _; rw [if_pos h]
theorem lyv_f {P : Nat → Bool} {v : Nat} (h : P v = false) : lyv P (v + 1) = lyv P v := by show lyv P v + (if _ then _ else _) = _; rw [if_neg (by rw [h]; decide)]; rfl
theorem hcv_t {H : Nat → Bool} {b v : Nat} (h : bt b v = 1) (h2 : H v = true) : hcv H b (v + 1) = hcv H b v + 1 := by show hcv H b v + (if _ then _ else _) = _; rw [if_pos ⟨h, h2⟩]
theorem hcv_f {H : Nat → Bool} {b v : Nat} (h : ¬ (bt b v = 1 ∧ H v = true)) : hcv H b (v + 1) = hcv H b v := by show hcv H b v + (if _ then _ else _) = _; rw [if_neg h]; rfl
theorem trv_s {w : Nat → Nat} {l f : Nat} (h : w f < (trv w l f).2) : trv w l (f + 1) = (nI f, w f) := by show (if _ then _ else _) = _; rw [if_pos h]
theorem trv_n {w : Nat → Nat} {l f : Nat} (h : ¬ w f < (trv w l f).2) : trv w l (f + 1) = trv w l f := by show (if _ then _ else _) = _; rw [if_neg h]
theorem trv_b {w : Nat → Nat} {l B : Nat} (hl : l ≤ B) (hw : ∀ f, w f ≤ B) : ∀ f, (trv w l f).2 ≤ B
  | 0 => hl
  | f + 1 => by
    by_cases h : w f < (trv w l f).2
    · rw [trv_s h]; exact hw f
    · rw [trv_n h]; exact trv_b hl hw f
theorem max_nI {x y : Nat} (hx : x < 2 ^ 31) (hy : y < 2 ^ 31) : (if nI x < nI y then nI y else nI x) = nI (max x y) := by
  by_cases h : x < y
  · rw [if_pos (nI_lt h hy), Nat.max_eq_right (by omega)]
  · rw [if_neg (nI_nlt (by omega) hx), Nat.max_eq_left (by omega)]
set_option maxHeartbeats 4000000 in
set_option maxRecDepth 100000 in
theorem c_isAllSo (l : Launch) (D : va_G) (cI : ClassId) (tt : Nat × Nat × Nat) (a : Nat → Nat) (i : Nat → Int32) (r : Nat → Nat → Int32) (kd : Nat → Nat) (n : Nat) (hv : PV i r kd n) (c : Nat → Nat) (hc : ∀ k, k < 5 → r 3 k = nI (c k) ∧ c k ≤ 9) (hn : Nat) (hm hs hf hh : Nat → Nat) (hh0 : HV i r n hn hm hs hf hh) (q v : Nat) (hq1 : 1 ≤ q) (hq5 : q < 6) (hv9 : v ≤ 9) : MetI (S := ((Nat → Int32) × (Nat → Nat → Int32))) l yX3_isAllSo cX3_isAllSo 6 (some .boolean) (rm 4 92) D cI tt [.ref (a 0), .int (nI q), .int (nI v)] (cW cI a i r) (fun z u => z = b2 (alls (sob kd n hm hs hf hh (upN c (q - 1) v)) hn) ∧ SP i u.1 ∧ SR r u.2) (fun u => cW cI a u.1 u.2) := by
  have hn6 := hv.2.1
  have hx6 := pow_le6 hn6
  refine met_ofI (by decide) (Nat.le_of_ble_eq_true rfl) ?_
  intro pP eE sS mM aV bB mE cC AA C hin
  refine z_conv (lv' := [(0, .ref (a 0)), (1, .int (nI q)), (2, .int (nI v))]) ⟨rfl, rfl, rfl, trivial⟩ rfl rfl ?_
  refine z_iconst C (pc := 0) (v := 0) dX3_isAllSo_0 (by decide) ?_
  refine z_istore_n C (pc := 1) (lv' := [(0, .ref (a 0)), (1, .int (nI q)), (2, .int (nI v)), (3, .int 0)]) dX3_isAllSo_1 (Nat.le_of_ble_eq_true rfl) rfl rfl ?_
  have key2 : ∀ (fu2 : Nat) (k : Nat) (i' : Nat → Int32) (r' : Nat → Nat → Int32), hn - k < fu2 → (k ≤ hn) → (SP i i') → (SR r r') → (alls (sob kd n hm hs hf hh (upN c (q - 1) v)) k = true) → Z pP l eE (rm 4 92) sS mM aV bB mE cC D AA 6 0 0 (MQ bB (va_Qi (S := ((Nat → Int32) × (Nat → Nat → Int32))) (fun z u => z = b2 (alls (sob kd n hm hs hf hh (upN c (q - 1) v)) hn) ∧ SP i u.1 ∧ SR r u.2) (fun u t => va_P D vwCl ((fun u => cW cI a u.1 u.2) u) t.heap) AA) aV sS 0 0 AA) 2 [(0, .ref (a 0)), (1, .int (nI q)), (2, .int (nI v)), (3, .int (nI k))] [] (cW cI a i' r') := by
    intro fu2
    induction fu2 with
    | zero => intro k i' r' hfu2; exact absurd hfu2 (Nat.not_lt_zero _)
    | succ fu2 ih2 =>
      intro k i' r' hfu2 hkn hsp hsr hal
      refine z_iload_n C (pc := 2) dX3_isAllSo_2 rfl ?_
      refine z_aload_n C (pc := 3) dX3_isAllSo_3 rfl ?_
      refine z_get C (pc := 4) 0 rfl rfl wf_X3 2 (by decide) rfl wl_X3_26 (v := .ref (a 6)) rfl dX3_isAllSo_4 ?_
      refine z_getN C (pc := 7) 6 rfl rfl wf_X2 4 (by decide) rfl wl_X3_173 (v := .int (i' 13)) rfl dX3_isAllSo_7 ?_
      refine z_icmp_ge C (pc := 10) (tgt := 120) dX3_isAllSo_10 (by decide) (fun c_1 => ?_) (fun c_1 => ?_)
      · refine z_iconst C (pc := 120) (v := 1) dX3_isAllSo_120 (by decide) ?_
        refine z_zret C (pc := 121) (i', r') dX3_isAllSo_121 rfl ?_ rfl
        have hhn := hh0.2.1
        rw [(hsp 13 (by omega)).trans hh0.1] at c_1
        have hke : k = hn := by
          have := ge_of_nI c_1 (by have := hh0.2.1; omega)
          omega
        subst hke
        exact ⟨by rw [hal]; rfl, hsp, hsr⟩
      · have hhn := hh0.2.1
        rw [(hsp 13 (by omega)).trans hh0.1] at c_1
        have hk : k < hn := lt_of_nI c_1 (by omega)
        have hq0 := (hh0.2.2 k hk)
        refine z_aload_n C (pc := 13) dX3_isAllSo_13 rfl ?_
        refine z_get C (pc := 14) 0 rfl rfl wf_X3 1 (by decide) rfl wl_X3_19 (v := .ref (a 3)) rfl dX3_isAllSo_14 ?_
        refine z_aload_n C (pc := 17) dX3_isAllSo_17 rfl ?_
        refine z_get C (pc := 18) 0 rfl rfl wf_X3 2 (by decide) rfl wl_X3_26 (v := .ref (a 6)) rfl dX3_isAllSo_18 ?_
        refine z_getN C (pc := 21) 6 rfl rfl wf_X2 1 (by decide) rfl wl_X3_77 (v := .ref (a 7)) rfl dX3_isAllSo_21 ?_
        refine z_callvF C (by exact fun _ => cW_ad) (runVN C (wc := (cW cI a i' r')) (pc := 24) (rY' := rm 2 44) (nn := 1) (As := [.ref (a 7)]) (rest := []) (c_setCairnsN l D cI tt a i' r') (full_hC _) (full_nd _) ⟨rfl, rfl, ⟨Nat.le_of_ble_eq_true rfl, Nat.le_of_ble_eq_true rfl⟩, Nat.le_of_ble_eq_true rfl, Nat.le_of_ble_eq_true rfl⟩ wl_X3_124 wm_X1_setCairns we_X1_setCairns wi_X1 wc_X1_setCairns (by decide +kernel) rfl 3 rfl rfl rfl rfl (Nat.le_of_ble_eq_true rfl) dX3_isAllSo_24) (fun u_2 h_2 => ?_)
        generalize u_2 = r2 at h_2 ⊢
        obtain ⟨g1, g2⟩ := h_2
        have hsr2 := hsr.tr g1
        have hc2 : ∀ k, k < 5 → r2 2 k = nI (c k) := fun k hk => (g2 k hk).trans ((congrFun (hsr 3 (by decide)) k).trans (hc k hk).1)
        refine z_ws (st' := []) (ws' := (cW cI a i' r2)) rfl rfl ?_
        refine z_aload_n C (pc := 27) dX3_isAllSo_27 rfl ?_
        refine z_get C (pc := 28) 0 rfl rfl wf_X3 1 (by decide) rfl wl_X3_19 (v := .ref (a 3)) rfl dX3_isAllSo_28 ?_
        refine z_getN C (pc := 31) 3 rfl rfl wf_X1 2 (by decide) rfl wl_X3_132 (v := .ref (a 5)) rfl dX3_isAllSo_31 ?_
        refine z_iload_n C (pc := 34) dX3_isAllSo_34 rfl ?_
        refine z_iconst C (pc := 35) (v := 1) dX3_isAllSo_35 (by decide) ?_
        refine z_isub C (pc := 36) dX3_isAllSo_36 ?_
        refine z_iload_n C (pc := 37) dX3_isAllSo_37 rfl ?_
        refine z_callv C (isC := [5]) rfl (by exact fun _ => rfl) (runS C (wc := [(a 5, .inl (cI, 5, .inl (r2 2)))]) (pc := 38) (rY' := rm 0 0) (nn := 3) (As := [.ref (a 5), .int ((nI q) - 1), .int (nI v)]) (rest := []) (c_put l D cI tt (a 5) 5 (r2 2) ((nI q) - 1) (nI v) (by decide)) rfl rfl ⟨rfl, rfl, ⟨Nat.le_of_ble_eq_true rfl, Nat.le_of_ble_eq_true rfl⟩, Nat.le_of_ble_eq_true rfl, Nat.le_of_ble_eq_true rfl⟩ wl_X3_66 ws_X3_put wi_X3 wc_X3_put (by decide +kernel) rfl rfl (Nat.le_of_ble_eq_true rfl) dX3_isAllSo_38) (fun u_3 h_3 => ?_)
        subst h_3
        refine z_ws (st' := []) (ws' := (cW cI a i' (va_up r2 2 (putv 5 (r2 2) ((nI q) - 1) (nI v))))) rfl rfl ?_
        have hv3 := hv.sp hsp (hsr2.up (v := putv 5 (r2 2) (nI q - 1) (nI v)))
        have hc3 : ∀ k, k < 5 → va_up r2 2 (putv 5 (r2 2) (nI q - 1) (nI v)) 2 k = nI (upN c (q - 1) v k) ∧ upN c (q - 1) v k ≤ 9 := fun k hk => ⟨by rw [vup_s]; exact put_up hq1 hq5 hc2 k hk, upN_le (fun k hk => (hc k hk).2) hv9 k hk⟩
        refine z_aload_n C (pc := 41) dX3_isAllSo_41 rfl ?_
        refine z_get C (pc := 42) 0 rfl rfl wf_X3 2 (by decide) rfl wl_X3_26 (v := .ref (a 6)) rfl dX3_isAllSo_42 ?_
        refine z_getN C (pc := 45) 6 rfl rfl wf_X2 6 (by decide) rfl wl_X3_220 (v := .ref (a 9)) rfl dX3_isAllSo_45 ?_
        refine z_iload_n C (pc := 48) dX3_isAllSo_48 rfl ?_
        refine z_calli C (isC := [9]) rfl (by exact fun _ => rfl) (runS C (wc := [(a 9, .inl (cI, 6, .inl (r2 5)))]) (pc := 49) (rY' := rm 0 0) (nn := 2) (As := [.ref (a 9), .int (nI k)]) (rest := []) (c_at l D cI tt (a 9) 6 (r2 5) (nI k) (by decide)) rfl rfl ⟨rfl, rfl, ⟨Nat.le_of_ble_eq_true rfl, Nat.le_of_ble_eq_true rfl⟩, Nat.le_of_ble_eq_true rfl, Nat.le_of_ble_eq_true rfl⟩ wl_X3_87 ws_X3_at wi_X3 wc_X3_at (by decide +kernel) rfl rfl (Nat.le_of_ble_eq_true rfl) dX3_isAllSo_49) (fun r_4 u_4 h_4 => ?_)
        have h_4 : r_4 = (nI (hs k)) := h_4.trans ((atv_nI (by omega) (by decide)).trans ((congrFun (hsr2 5 (by decide)) k).trans hq0.2.1.1))
        subst h_4
        refine z_ws (st' := [.int (nI (hs k))]) (ws' := (cW cI a i' (va_up r2 2 (putv 5 (r2 2) ((nI q) - 1) (nI v))))) rfl rfl ?_
        refine z_istore C (pc := 52) (lv' := [(0, .ref (a 0)), (1, .int (nI q)), (2, .int (nI v)), (3, .int (nI k)), (4, .int (nI (hs k)))]) dX3_isAllSo_52 (Nat.le_of_ble_eq_true rfl) rfl rfl ?_
        refine z_aload_n C (pc := 54) dX3_isAllSo_54 rfl ?_
        refine z_get C (pc := 55) 0 rfl rfl wf_X3 1 (by decide) rfl wl_X3_19 (v := .ref (a 3)) rfl dX3_isAllSo_55 ?_
        refine z_aload_n C (pc := 58) dX3_isAllSo_58 rfl ?_
        refine z_get C (pc := 59) 0 rfl rfl wf_X3 2 (by decide) rfl wl_X3_26 (v := .ref (a 6)) rfl dX3_isAllSo_59 ?_
        refine z_getN C (pc := 62) 6 rfl rfl wf_X2 5 (by decide) rfl wl_X3_223 (v := .ref (a 8)) rfl dX3_isAllSo_62 ?_
        refine z_iload_n C (pc := 65) dX3_isAllSo_65 rfl ?_
        refine z_calli C (isC := [8]) rfl (by exact fun _ => rfl) (runS C (wc := [(a 8, .inl (cI, 6, .inl (r2 4)))]) (pc := 66) (rY' := rm 0 0) (nn := 2) (As := [.ref (a 8), .int (nI k)]) (rest := [.ref (a 3)]) (c_at l D cI tt (a 8) 6 (r2 4) (nI k) (by decide)) rfl rfl ⟨rfl, rfl, ⟨Nat.le_of_ble_eq_true rfl, Nat.le_of_ble_eq_true rfl⟩, Nat.le_of_ble_eq_true rfl, Nat.le_of_ble_eq_true rfl⟩ wl_X3_87 ws_X3_at wi_X3 wc_X3_at (by decide +kernel) rfl rfl (Nat.le_of_ble_eq_true rfl) dX3_isAllSo_66) (fun r_5 u_5 h_5 => ?_)
        have h_5 : r_5 = (nI (hm k)) := h_5.trans ((atv_nI (by omega) (by decide)).trans ((congrFun (hsr2 4 (by decide)) k).trans hq0.1.1))
        subst h_5
        refine z_ws (st' := [.int (nI (hm k)), .ref (a 3)]) (ws' := (cW cI a i' (va_up r2 2 (putv 5 (r2 2) ((nI q) - 1) (nI v))))) rfl rfl ?_
        refine z_iload C (pc := 69) dX3_isAllSo_69 rfl ?_
        refine z_aload_n C (pc := 71) dX3_isAllSo_71 rfl ?_
        refine z_get C (pc := 72) 0 rfl rfl wf_X3 2 (by decide) rfl wl_X3_26 (v := .ref (a 6)) rfl dX3_isAllSo_72 ?_
        refine z_getN C (pc := 75) 6 rfl rfl wf_X2 7 (by decide) rfl wl_X3_226 (v := .ref (a 10)) rfl dX3_isAllSo_75 ?_
        refine z_iload_n C (pc := 78) dX3_isAllSo_78 rfl ?_
        refine z_calli C (isC := [10]) rfl (by exact fun _ => rfl) (runS C (wc := [(a 10, .inl (cI, 6, .inl (r2 6)))]) (pc := 79) (rY' := rm 0 0) (nn := 2) (As := [.ref (a 10), .int (nI k)]) (rest := [.int (nI (hs k)), .int (nI (hm k)), .ref (a 3)]) (c_at l D cI tt (a 10) 6 (r2 6) (nI k) (by decide)) rfl rfl ⟨rfl, rfl, ⟨Nat.le_of_ble_eq_true rfl, Nat.le_of_ble_eq_true rfl⟩, Nat.le_of_ble_eq_true rfl, Nat.le_of_ble_eq_true rfl⟩ wl_X3_87 ws_X3_at wi_X3 wc_X3_at (by decide +kernel) rfl rfl (Nat.le_of_ble_eq_true rfl) dX3_isAllSo_79) (fun r_6 u_6 h_6 => ?_)
        have h_6 : r_6 = (nI (hf k)) := h_6.trans ((atv_nI (by omega) (by decide)).trans ((congrFun (hsr2 6 (by decide)) k).trans hq0.2.2.1.1))
        subst h_6
        refine z_ws (st' := [.int (nI (hf k)), .int (nI (hs k)), .int (nI (hm k)), .ref (a 3)]) (ws' := (cW cI a i' (va_up r2 2 (putv 5 (r2 2) ((nI q) - 1) (nI v))))) rfl rfl ?_
        refine z_calliF C (by exact fun _ => cW_ad) (runVN C (wc := (cW cI a i' (va_up r2 2 (putv 5 (r2 2) ((nI q) - 1) (nI v))))) (pc := 82) (rY' := rm 3 67) (nn := 3) (As := [.int (nI (hm k)), .int (nI (hs k)), .int (nI (hf k))]) (rest := []) (c_go l D cI tt a i' (va_up r2 2 (putv 5 (r2 2) ((nI q) - 1) (nI v))) kd n (hm k) (hs k) (hf k) hv3 hq0.1.2 hq0.2.1.2 hq0.2.2.1.2 (upN c (q - 1) v) hc3) (full_hC _) (full_nd _) ⟨rfl, rfl, ⟨Nat.le_of_ble_eq_true rfl, Nat.le_of_ble_eq_true rfl⟩, Nat.le_of_ble_eq_true rfl, Nat.le_of_ble_eq_true rfl⟩ wl_X3_128 wm_X1_go we_X1_go wi_X1 wc_X1_go (by decide +kernel) rfl 3 rfl rfl rfl rfl (Nat.le_of_ble_eq_true rfl) dX3_isAllSo_82) (fun q_7 u_7 h_7 => ?_)
        obtain ⟨i7, r7⟩ := u_7
        try dsimp only at h_7
        obtain ⟨k0, k1, k2, -⟩ := h_7
        rw [mar_home] at k0
        subst k0
        refine z_ws (st' := [.int (b2 (homeb kd n (hm k) (hs k) (upN c (q - 1) v) (hf k)))]) (ws' := (cW cI a i7 r7)) rfl rfl ?_
        refine z_istore C (pc := 85) (lv' := [(0, .ref (a 0)), (1, .int (nI q)), (2, .int (nI v)), (3, .int (nI k)), (4, .int (nI (hs k))), (5, .int (b2 (homeb kd n (hm k) (hs k) (upN c (q - 1) v) (hf k))))]) dX3_isAllSo_85 (Nat.le_of_ble_eq_true rfl) rfl rfl ?_
        refine z_iload C (pc := 87) dX3_isAllSo_87 rfl ?_
        refine z_aload_n C (pc := 89) dX3_isAllSo_89 rfl ?_
        refine z_get C (pc := 90) 0 rfl rfl wf_X3 2 (by decide) rfl wl_X3_26 (v := .ref (a 6)) rfl dX3_isAllSo_90 ?_
        refine z_getN C (pc := 93) 6 rfl rfl wf_X2 8 (by decide) rfl wl_X3_229 (v := .ref (a 11)) rfl dX3_isAllSo_93 ?_
        refine z_iload_n C (pc := 96) dX3_isAllSo_96 rfl ?_
        refine z_calli C (isC := [11]) rfl (by exact fun _ => rfl) (runS C (wc := [(a 11, .inl (cI, 6, .inl (r7 7)))]) (pc := 97) (rY' := rm 0 0) (nn := 2) (As := [.ref (a 11), .int (nI k)]) (rest := [.int (b2 (homeb kd n (hm k) (hs k) (upN c (q - 1) v) (hf k)))]) (c_at l D cI tt (a 11) 6 (r7 7) (nI k) (by decide)) rfl rfl ⟨rfl, rfl, ⟨Nat.le_of_ble_eq_true rfl, Nat.le_of_ble_eq_true rfl⟩, Nat.le_of_ble_eq_true rfl, Nat.le_of_ble_eq_true rfl⟩ wl_X3_87 ws_X3_at wi_X3 wc_X3_at (by decide +kernel) rfl rfl (Nat.le_of_ble_eq_true rfl) dX3_isAllSo_97) (fun r_8 u_8 h_8 => ?_)
        have h_8 : r_8 = (nI (hh k)) := h_8.trans ((atv_nI (by omega) (by decide)).trans ((congrFun ((hsr2.up.tr k2) 7 (by decide)) k).trans hq0.2.2.2.1))
        subst h_8
        refine z_ws (st' := [.int (nI (hh k)), .int (b2 (homeb kd n (hm k) (hs k) (upN c (q - 1) v) (hf k)))]) (ws' := (cW cI a i7 r7)) rfl rfl ?_
        refine z_iconst C (pc := 100) (v := 1) dX3_isAllSo_100 (by decide) ?_
        refine z_icmp_ne C (pc := 101) (tgt := 108) dX3_isAllSo_101 (by decide) (fun c_9 => ?_) (fun c_9 => ?_)
        · have hh1 : ¬ hh k = 1 := fun h => c_9 ((nI_eq1 (by have := hq0.2.2.2.2; omega)).mpr h)
          refine z_iconst C (pc := 108) (v := 0) dX3_isAllSo_108 (by decide) ?_
          refine z_icmp_eq C (pc := 109) (tgt := 114) dX3_isAllSo_109 (by decide) (fun c_10 => ?_) (fun c_10 => ?_)
          · have hso : (sob kd n hm hs hf hh (upN c (q - 1) v)) k = true := by
              unfold sob
              rw [decide_eq_false hh1]
              exact by rw [b2_f c_10]; rfl
            refine z_iinc C (pc := 114) (v := ((nI k) + 1)) (lv' := [(0, .ref (a 0)), (1, .int (nI q)), (2, .int (nI v)), (3, .int ((nI k) + 1)), (4, .int (nI (hs k))), (5, .int (b2 (homeb kd n (hm k) (hs k) (upN c (q - 1) v) (hf k))))]) dX3_isAllSo_114 rfl rfl (Nat.le_of_ble_eq_true rfl) rfl rfl ?_
            refine z_goto C (pc := 117) (tgt := 2) dX3_isAllSo_117 (by decide) ?_
            refine z_lv (lv' := [(0, .ref (a 0)), (1, .int (nI q)), (2, .int (nI v)), (3, .int (nI (k + 1)))]) ⟨rfl, rfl, rfl, lki (nI_1 k), trivial⟩ ?_
            exact ih2 (k + 1) i7 r7 (by omega) hk (hsp.tr k1) (hsr2.up.tr k2) (alls_s hal hso)
          · have hso : (sob kd n hm hs hf hh (upN c (q - 1) v)) k = false := by
              unfold sob
              rw [decide_eq_false hh1]
              exact by rw [b2_t c_10]; rfl
            refine z_iconst C (pc := 112) (v := 0) dX3_isAllSo_112 (by decide) ?_
            refine z_zret C (pc := 113) (i7, r7) dX3_isAllSo_113 rfl ?_ rfl
            exact ⟨by rw [alls_n hso hk]; rfl, hsp.tr k1, hsr2.up.tr k2⟩
        · have hh1 : hh k = 1 := (nI_eq1 (by have := hq0.2.2.2.2; omega)).mp c_9
          refine z_iconst C (pc := 104) (v := 1) dX3_isAllSo_104 (by decide) ?_
          refine z_goto C (pc := 105) (tgt := 109) dX3_isAllSo_105 (by decide) ?_
          refine z_icmp_eq C (pc := 109) (tgt := 114) dX3_isAllSo_109 (by decide) (fun c_11 => ?_) (fun c_11 => ?_)
          · have hso : (sob kd n hm hs hf hh (upN c (q - 1) v)) k = true := by
              unfold sob
              rw [decide_eq_true hh1]
              exact by rw [b2_1 c_11]; rfl
            refine z_iinc C (pc := 114) (v := ((nI k) + 1)) (lv' := [(0, .ref (a 0)), (1, .int (nI q)), (2, .int (nI v)), (3, .int ((nI k) + 1)), (4, .int (nI (hs k))), (5, .int (b2 (homeb kd n (hm k) (hs k) (upN c (q - 1) v) (hf k))))]) dX3_isAllSo_114 rfl rfl (Nat.le_of_ble_eq_true rfl) rfl rfl ?_
            refine z_goto C (pc := 117) (tgt := 2) dX3_isAllSo_117 (by decide) ?_
            refine z_lv (lv' := [(0, .ref (a 0)), (1, .int (nI q)), (2, .int (nI v)), (3, .int (nI (k + 1)))]) ⟨rfl, rfl, rfl, lki (nI_1 k), trivial⟩ ?_
            exact ih2 (k + 1) i7 r7 (by omega) hk (hsp.tr k1) (hsr2.up.tr k2) (alls_s hal hso)
          · have hso : (sob kd n hm hs hf hh (upN c (q - 1) v)) k = false := by
              unfold sob
              rw [decide_eq_true hh1]
              exact by rw [b2_n1 c_11]; rfl
            refine z_iconst C (pc := 112) (v := 0) dX3_isAllSo_112 (by decide) ?_
            refine z_zret C (pc := 113) (i7, r7) dX3_isAllSo_113 rfl ?_ rfl
            exact ⟨by rw [alls_n hso hk]; rfl, hsp.tr k1, hsr2.up.tr k2⟩
  refine z_lv (lv' := [(0, .ref (a 0)), (1, .int (nI q)), (2, .int (nI v)), (3, .int (nI 0))]) ⟨rfl, rfl, rfl, rfl, trivial⟩ ?_
  exact key2 (_ + 1) 0 i r (Nat.lt_succ_self _) (Nat.zero_le _) SP.rf SR.rf rfl
end
section
set_option maxHeartbeats 4000000 in
set_option maxRecDepth 100000 in
theorem c_amountsAt (l : Launch) (D : va_G) (cI : ClassId) (tt : Nat × Nat × Nat) (a : Nat → Nat) (i : Nat → Int32) (r : Nat → Nat → Int32) (kd : Nat → Nat) (n : Nat) (hv : PV i r kd n) (c : Nat → Nat) (hc : ∀ k, k < 5 → r 3 k = nI (c k) ∧ c k ≤ 9) (hn : Nat) (hm hs hf hh : Nat → Nat) (hh0 : HV i r n hn hm hs hf hh) (q : Nat) (hq1 : 1 ≤ q) (hq5 : q < 6) : MetI (S := ((Nat → Int32) × (Nat → Nat → Int32))) l yX3_amountsAt cX3_amountsAt 4 (some .int) (rm 5 117) D cI tt [.ref (a 0), .int (nI q)] (cW cI a i r) (fun z u => z = nI (layv kd n c hn hm hs hf hh q) ∧ SP i u.1 ∧ SR r u.2) (fun u => cW cI a u.1 u.2) := by
  have hn6 := hv.2.1
  have hx6 := pow_le6 hn6
  refine met_ofI (by decide) (Nat.le_of_ble_eq_true rfl) ?_
  intro pP eE sS mM aV bB mE cC AA C hin
  refine z_conv (lv' := [(0, .ref (a 0)), (1, .int (nI q))]) ⟨rfl, rfl, trivial⟩ rfl rfl ?_
  refine z_iconst C (pc := 0) (v := 0) dX3_amountsAt_0 (by decide) ?_
  refine z_istore_n C (pc := 1) (lv' := [(0, .ref (a 0)), (1, .int (nI q)), (2, .int 0)]) dX3_amountsAt_1 (Nat.le_of_ble_eq_true rfl) rfl rfl ?_
  refine z_iconst C (pc := 2) (v := 0) dX3_amountsAt_2 (by decide) ?_
  refine z_istore_n C (pc := 3) (lv' := [(0, .ref (a 0)), (1, .int (nI q)), (2, .int 0), (3, .int 0)]) dX3_amountsAt_3 (Nat.le_of_ble_eq_true rfl) rfl rfl ?_
  have key4 : ∀ (fu4 : Nat) (v : Nat) (i' : Nat → Int32) (r' : Nat → Nat → Int32), 10 - v < fu4 → (v ≤ 10) → (SP i i') → (SR r r') → Z pP l eE (rm 5 117) sS mM aV bB mE cC D AA 4 0 0 (MQ bB (va_Qi (S := ((Nat → Int32) × (Nat → Nat → Int32))) (fun z u => z = nI (layv kd n c hn hm hs hf hh q) ∧ SP i u.1 ∧ SR r u.2) (fun u t => va_P D vwCl ((fun u => cW cI a u.1 u.2) u) t.heap) AA) aV sS 0 0 AA) 4 [(0, .ref (a 0)), (1, .int (nI q)), (2, .int (nI (lyv (fun v => alls (sob kd n hm hs hf hh (upN c (q - 1) v)) hn) v))), (3, .int (nI v))] [] (cW cI a i' r') := by
    intro fu4
    induction fu4 with
    | zero => intro v i' r' hfu4; exact absurd hfu4 (Nat.not_lt_zero _)
    | succ fu4 ih4 =>
      intro v i' r' hfu4 hv10 hsp hsr
      refine z_iload_n C (pc := 4) dX3_amountsAt_4 rfl ?_
      refine z_bipush C (pc := 5) (v := 9) dX3_amountsAt_5 (by decide) ?_
      refine z_icmp_gt C (pc := 7) (tgt := 31) dX3_amountsAt_7 (by decide) (fun c_1 => ?_) (fun c_1 => ?_)
      · refine z_iload_n C (pc := 31) dX3_amountsAt_31 rfl ?_
        refine z_iret C (pc := 32) (i', r') dX3_amountsAt_32 ?_ rfl
        have hve : v = 10 := by
          have := Nat.lt_of_not_le (fun h => nI_nlt (a := 9) (b := v) h (by omega) c_1)
          omega
        subst hve
        exact ⟨rfl, hsp, hsr⟩
      · have hv9 : v ≤ 9 := Nat.le_of_not_lt (fun h => c_1 (nI_lt (a := 9) h (by omega)))
        have hc2 : ∀ k, k < 5 → r' 3 k = nI (c k) ∧ c k ≤ 9 := fun k hk => ⟨(congrFun (hsr 3 (by decide)) k).trans (hc k hk).1, (hc k hk).2⟩
        refine z_aload_n C (pc := 10) dX3_amountsAt_10 rfl ?_
        refine z_iload_n C (pc := 11) dX3_amountsAt_11 rfl ?_
        refine z_iload_n C (pc := 12) dX3_amountsAt_12 rfl ?_
        refine z_calliF C (by exact fun _ => cW_ad) (runV C (wc := (cW cI a i' r')) (pc := 13) (rY' := rm 4 92) (nn := 2) (As := [.int (nI q), .int (nI v)]) (rest := []) (c_isAllSo l D cI tt a i' r' kd n (hv.sp hsp hsr) c hc2 hn hm hs hf hh (hh0.sp hsp hsr) q v hq1 hq5 hv9) (full_hC _) (full_nd _) ⟨rfl, rfl, ⟨Nat.le_of_ble_eq_true rfl, Nat.le_of_ble_eq_true rfl⟩, Nat.le_of_ble_eq_true rfl, Nat.le_of_ble_eq_true rfl⟩ wl_X3_217 wm_X3_isAllSo we_X3_isAllSo wi_X3 wc_X3_isAllSo (by decide +kernel) rfl 0 rfl rfl rfl rfl (Nat.le_of_ble_eq_true rfl) dX3_amountsAt_13) (fun z_2 u_2 h_2 => ?_)
        obtain ⟨i2, r2⟩ := u_2
        try dsimp only at h_2
        obtain ⟨k0, k1, k2⟩ := h_2
        refine z_ws (st' := [.int z_2]) (ws' := (cW cI a i2 r2)) rfl rfl ?_
        refine z_if_eq C (pc := 16) (tgt := 25) dX3_amountsAt_16 (by decide) (fun c_3 => ?_) (fun c_3 => ?_)
        · have hP : alls (sob kd n hm hs hf hh (upN c (q - 1) v)) hn = false := b2_f (by rw [← k0]; exact c_3)
          refine z_iinc C (pc := 25) (v := ((nI v) + 1)) (lv' := [(0, .ref (a 0)), (1, .int (nI q)), (2, .int (nI (lyv (fun v => alls (sob kd n hm hs hf hh (upN c (q - 1) v)) hn) v))), (3, .int ((nI v) + 1))]) dX3_amountsAt_25 rfl rfl (Nat.le_of_ble_eq_true rfl) rfl rfl ?_
          refine z_goto C (pc := 28) (tgt := 4) dX3_amountsAt_28 (by decide) ?_
          refine z_lv (lv' := [(0, .ref (a 0)), (1, .int (nI q)), (2, .int (nI (lyv (fun v => alls (sob kd n hm hs hf hh (upN c (q - 1) v)) hn) (v + 1)))), (3, .int (nI (v + 1)))]) ⟨rfl, rfl, lki (by rw [lyv_f (P := (fun v => alls (sob kd n hm hs hf hh (upN c (q - 1) v)) hn)) hP]), lki (nI_1 v), trivial⟩ ?_
          exact ih4 (v + 1) i2 r2 (by omega) (by omega) (hsp.tr k1) (hsr.tr k2)
        · have hP : alls (sob kd n hm hs hf hh (upN c (q - 1) v)) hn = true := b2_t (by rw [← k0]; exact c_3)
          refine z_iload_n C (pc := 19) dX3_amountsAt_19 rfl ?_
          refine z_iconst C (pc := 20) (v := 1) dX3_amountsAt_20 (by decide) ?_
          refine z_iload_n C (pc := 21) dX3_amountsAt_21 rfl ?_
          refine z_ishl C (pc := 22) dX3_amountsAt_22 ?_
          refine z_ior C (pc := 23) dX3_amountsAt_23 ?_
          refine z_istore_n C (pc := 24) (lv' := [(0, .ref (a 0)), (1, .int (nI q)), (2, .int ((nI (lyv (fun v => alls (sob kd n hm hs hf hh (upN c (q - 1) v)) hn) v)) ||| (1 <<< ((nI v) &&& 31)))), (3, .int (nI v))]) dX3_amountsAt_24 (Nat.le_of_ble_eq_true rfl) rfl rfl ?_
          refine z_iinc C (pc := 25) (v := ((nI v) + 1)) (lv' := [(0, .ref (a 0)), (1, .int (nI q)), (2, .int ((nI (lyv (fun v => alls (sob kd n hm hs hf hh (upN c (q - 1) v)) hn) v)) ||| (1 <<< ((nI v) &&& 31)))), (3, .int ((nI v) + 1))]) dX3_amountsAt_25 rfl rfl (Nat.le_of_ble_eq_true rfl) rfl rfl ?_
          refine z_goto C (pc := 28) (tgt := 4) dX3_amountsAt_28 (by decide) ?_
          refine z_lv (lv' := [(0, .ref (a 0)), (1, .int (nI q)), (2, .int (nI (lyv (fun v => alls (sob kd n hm hs hf hh (upN c (q - 1) v)) hn) (v + 1)))), (3, .int (nI (v + 1)))]) ⟨rfl, rfl, lki (by rw [lyv_t (P := (fun v => alls (sob kd n hm hs hf hh (upN c (q - 1) v)) hn)) hP]; exact or_bit v (by omega) _ (lyv_lt _ v)), lki (nI_1 v), trivial⟩ ?_
          exact ih4 (v + 1) i2 r2 (by omega) (by omega) (hsp.tr k1) (hsr.tr k2)
  refine z_lv (lv' := [(0, .ref (a 0)), (1, .int (nI q)), (2, .int (nI (lyv (fun v => alls (sob kd n hm hs hf hh (upN c (q - 1) v)) hn) 0))), (3, .int (nI 0))]) ⟨rfl, rfl, rfl, rfl, trivial⟩ ?_
  exact key4 (_ + 1) 0 i r (Nat.lt_succ_self _) (Nat.zero_le _) SP.rf SR.rf
end
section
set_option maxHeartbeats 4000000 in
set_option maxRecDepth 100000 in
theorem c_leftAtWorst (l : Launch) (D : va_G) (cI : ClassId) (tt : Nat × Nat × Nat) (a : Nat → Nat) (i : Nat → Int32) (r : Nat → Nat → Int32) (kd : Nat → Nat) (n : Nat) (hv : PV i r kd n) (c : Nat → Nat) (hc : ∀ k, k < 5 → r 3 k = nI (c k) ∧ c k ≤ 9) (q b f : Nat) (hq1 : 1 ≤ q) (hq5 : q < 6) (hb10 : b < 1024) (hf : f ≤ 40) : MetI (S := ((Nat → Int32) × (Nat → Nat → Int32))) l yX3_leftAtWorst cX3_leftAtWorst 6 (some .int) (rm 4 92) D cI tt [.ref (a 0), .int (nI q), .int (nI b), .int (nI f)] (cW cI a i r) (fun z u => z = nI (wov kd n c q b f) ∧ SP i u.1 ∧ SR r u.2) (fun u => cW cI a u.1 u.2) := by
  have hn6 := hv.2.1
  have hx6 := pow_le6 hn6
  refine met_ofI (by decide) (Nat.le_of_ble_eq_true rfl) ?_
  intro pP eE sS mM aV bB mE cC AA C hin
  refine z_conv (lv' := [(0, .ref (a 0)), (1, .int (nI q)), (2, .int (nI b)), (3, .int (nI f))]) ⟨rfl, rfl, rfl, rfl, trivial⟩ rfl rfl ?_
  refine z_iconst C (pc := 0) (v := 0) dX3_leftAtWorst_0 (by decide) ?_
  refine z_istore C (pc := 1) (lv' := [(0, .ref (a 0)), (1, .int (nI q)), (2, .int (nI b)), (3, .int (nI f)), (4, .int 0)]) dX3_leftAtWorst_1 (Nat.le_of_ble_eq_true rfl) rfl rfl ?_
  refine z_iconst C (pc := 3) (v := 0) dX3_leftAtWorst_3 (by decide) ?_
  refine z_istore C (pc := 4) (lv' := [(0, .ref (a 0)), (1, .int (nI q)), (2, .int (nI b)), (3, .int (nI f)), (4, .int 0), (5, .int 0)]) dX3_leftAtWorst_4 (Nat.le_of_ble_eq_true rfl) rfl rfl ?_
  have key6 : ∀ (fu6 : Nat) (v : Nat) (i' : Nat → Int32) (r' : Nat → Nat → Int32), 10 - v < fu6 → (v ≤ 10) → (SP i i') → (SR r r') → Z pP l eE (rm 4 92) sS mM aV bB mE cC D AA 6 0 0 (MQ bB (va_Qi (S := ((Nat → Int32) × (Nat → Nat → Int32))) (fun z u => z = nI (wov kd n c q b f) ∧ SP i u.1 ∧ SR r u.2) (fun u t => va_P D vwCl ((fun u => cW cI a u.1 u.2) u) t.heap) AA) aV sS 0 0 AA) 6 [(0, .ref (a 0)), (1, .int (nI q)), (2, .int (nI b)), (3, .int (nI f)), (4, .int (nI (hcv (fun v => homeb kd n (2 ^ n - 1) 6 (upN c (q - 1) v) f) b v))), (5, .int (nI v))] [] (cW cI a i' r') := by
    intro fu6
    induction fu6 with
    | zero => intro v i' r' hfu6; exact absurd hfu6 (Nat.not_lt_zero _)
    | succ fu6 ih6 =>
      intro v i' r' hfu6 hv10 hsp hsr
      refine z_iload C (pc := 6) dX3_leftAtWorst_6 rfl ?_
      refine z_bipush C (pc := 8) (v := 9) dX3_leftAtWorst_8 (by decide) ?_
      refine z_icmp_gt C (pc := 10) (tgt := 88) dX3_leftAtWorst_10 (by decide) (fun c_1 => ?_) (fun c_1 => ?_)
      · have hve : v = 10 := by
          have := Nat.lt_of_not_le (fun h => nI_nlt (a := 9) (b := v) h (by omega) c_1)
          omega
        subst hve
        have hle := hcv_le (fun v => homeb kd n (2 ^ n - 1) 6 (upN c (q - 1) v) f) b 10
        have hpc := pcn_le b
        refine z_iload C (pc := 88) dX3_leftAtWorst_88 rfl ?_
        refine z_iload_n C (pc := 90) dX3_leftAtWorst_90 rfl ?_
        refine z_calli C (isC := []) rfl (by exact fun _ => rfl) (runS C (wc := []) (pc := 91) (rY' := rm 0 0) (nn := 1) (As := [.int (nI b)]) (rest := [.int (nI (hcv (fun v => homeb kd n (2 ^ n - 1) 6 (upN c (q - 1) v) f) b 10))]) (c_bitCount l D cI tt (nI b)) rfl rfl ⟨rfl, rfl, ⟨Nat.le_of_ble_eq_true rfl, Nat.le_of_ble_eq_true rfl⟩, Nat.le_of_ble_eq_true rfl, Nat.le_of_ble_eq_true rfl⟩ wl_X3_187 ws_J6_bitCount_0f7a4 wi_J6 wc_J6_bitCount_0f7a4 (by decide +kernel) rfl rfl (Nat.le_of_ble_eq_true rfl) dX3_leftAtWorst_91) (fun r_2 u_2 h_2 => ?_)
        have h_2 : r_2 = nI (pcn b) := h_2.trans (bc_pcn _ hb10)
        subst h_2
        refine z_ws (st' := [.int (nI (pcn b)), .int (nI (hcv (fun v => homeb kd n (2 ^ n - 1) 6 (upN c (q - 1) v) f) b 10))]) (ws' := (cW cI a i' r')) rfl rfl ?_
        refine z_iload C (pc := 94) dX3_leftAtWorst_94 rfl ?_
        refine z_isub C (pc := 96) dX3_leftAtWorst_96 ?_
        refine z_mmax C (pc := 97) wl_X3_236 (Nat.le_of_ble_eq_true rfl) (Nat.le_of_ble_eq_true rfl) (Nat.zero_le _) (Nat.zero_le _) dX3_leftAtWorst_97 ?_
        refine z_iret C (pc := 100) (i', r') dX3_leftAtWorst_100 ?_ rfl
        refine ⟨?_, hsp, hsr⟩
        have e1 : nI (pcn b) - nI (hcv (fun v => homeb kd n (2 ^ n - 1) 6 (upN c (q - 1) v) f) b 10) = nI (pcn b - hcv (fun v => homeb kd n (2 ^ n - 1) 6 (upN c (q - 1) v) f) b 10) := pk_sub (show hcv (fun v => homeb kd n (2 ^ n - 1) 6 (upN c (q - 1) v) f) b 10 ≤ pcn b from hle)
        rw [e1]
        exact max_nI (by unfold pcn at hpc; omega) (by omega)
      · have hv9 : v ≤ 9 := Nat.le_of_not_lt (fun h => c_1 (nI_lt (a := 9) h (by omega)))
        refine z_iload_n C (pc := 13) dX3_leftAtWorst_13 rfl ?_
        refine z_iload C (pc := 14) dX3_leftAtWorst_14 rfl ?_
        refine z_ishr C (pc := 16) dX3_leftAtWorst_16 ?_
        refine z_iconst C (pc := 17) (v := 1) dX3_leftAtWorst_17 (by decide) ?_
        refine z_iand C (pc := 18) dX3_leftAtWorst_18 ?_
        refine z_iconst C (pc := 19) (v := 1) dX3_leftAtWorst_19 (by decide) ?_
        refine z_icmp_ne C (pc := 20) (tgt := 82) dX3_leftAtWorst_20 (by decide) (fun c_3 => ?_) (fun c_3 => ?_)
        · have hb := bt0 (by omega) (by omega) c_3
          have hno : ¬ (bt b v = 1 ∧ homeb kd n (2 ^ n - 1) 6 (upN c (q - 1) v) f = true) := fun h => by have := h.1; omega
          refine z_iinc C (pc := 82) (v := ((nI v) + 1)) (lv' := [(0, .ref (a 0)), (1, .int (nI q)), (2, .int (nI b)), (3, .int (nI f)), (4, .int (nI (hcv (fun v => homeb kd n (2 ^ n - 1) 6 (upN c (q - 1) v) f) b v))), (5, .int ((nI v) + 1))]) dX3_leftAtWorst_82 rfl rfl (Nat.le_of_ble_eq_true rfl) rfl rfl ?_
          refine z_goto C (pc := 85) (tgt := 6) dX3_leftAtWorst_85 (by decide) ?_
          refine z_lv (lv' := [(0, .ref (a 0)), (1, .int (nI q)), (2, .int (nI b)), (3, .int (nI f)), (4, .int (nI (hcv (fun v => homeb kd n (2 ^ n - 1) 6 (upN c (q - 1) v) f) b (v + 1)))), (5, .int (nI (v + 1)))]) ⟨rfl, rfl, rfl, rfl, lki (by rw [hcv_f (H := (fun v => homeb kd n (2 ^ n - 1) 6 (upN c (q - 1) v) f)) hno]), lki (nI_1 v), trivial⟩ ?_
          exact ih6 (v + 1) i' r' (by omega) (by omega) hsp hsr
        · have hb := bt1 (by omega) (by omega) c_3
          refine z_aload_n C (pc := 23) dX3_leftAtWorst_23 rfl ?_
          refine z_get C (pc := 24) 0 rfl rfl wf_X3 1 (by decide) rfl wl_X3_19 (v := .ref (a 3)) rfl dX3_leftAtWorst_24 ?_
          refine z_aload_n C (pc := 27) dX3_leftAtWorst_27 rfl ?_
          refine z_get C (pc := 28) 0 rfl rfl wf_X3 2 (by decide) rfl wl_X3_26 (v := .ref (a 6)) rfl dX3_leftAtWorst_28 ?_
          refine z_getN C (pc := 31) 6 rfl rfl wf_X2 1 (by decide) rfl wl_X3_77 (v := .ref (a 7)) rfl dX3_leftAtWorst_31 ?_
          refine z_callvF C (by exact fun _ => cW_ad) (runVN C (wc := (cW cI a i' r')) (pc := 34) (rY' := rm 2 44) (nn := 1) (As := [.ref (a 7)]) (rest := []) (c_setCairnsN l D cI tt a i' r') (full_hC _) (full_nd _) ⟨rfl, rfl, ⟨Nat.le_of_ble_eq_true rfl, Nat.le_of_ble_eq_true rfl⟩, Nat.le_of_ble_eq_true rfl, Nat.le_of_ble_eq_true rfl⟩ wl_X3_124 wm_X1_setCairns we_X1_setCairns wi_X1 wc_X1_setCairns (by decide +kernel) rfl 3 rfl rfl rfl rfl (Nat.le_of_ble_eq_true rfl) dX3_leftAtWorst_34) (fun u_4 h_4 => ?_)
          generalize u_4 = r4 at h_4 ⊢
          obtain ⟨g1, g2⟩ := h_4
          have hsr2 := hsr.tr g1
          have hc2 : ∀ k, k < 5 → r4 2 k = nI (c k) := fun k hk => (g2 k hk).trans ((congrFun (hsr 3 (by decide)) k).trans (hc k hk).1)
          refine z_ws (st' := []) (ws' := (cW cI a i' r4)) rfl rfl ?_
          refine z_aload_n C (pc := 37) dX3_leftAtWorst_37 rfl ?_
          refine z_get C (pc := 38) 0 rfl rfl wf_X3 1 (by decide) rfl wl_X3_19 (v := .ref (a 3)) rfl dX3_leftAtWorst_38 ?_
          refine z_getN C (pc := 41) 3 rfl rfl wf_X1 2 (by decide) rfl wl_X3_132 (v := .ref (a 5)) rfl dX3_leftAtWorst_41 ?_
          refine z_iload_n C (pc := 44) dX3_leftAtWorst_44 rfl ?_
          refine z_iconst C (pc := 45) (v := 1) dX3_leftAtWorst_45 (by decide) ?_
          refine z_isub C (pc := 46) dX3_leftAtWorst_46 ?_
          refine z_iload C (pc := 47) dX3_leftAtWorst_47 rfl ?_
          refine z_callv C (isC := [5]) rfl (by exact fun _ => rfl) (runS C (wc := [(a 5, .inl (cI, 5, .inl (r4 2)))]) (pc := 49) (rY' := rm 0 0) (nn := 3) (As := [.ref (a 5), .int ((nI q) - 1), .int (nI v)]) (rest := []) (c_put l D cI tt (a 5) 5 (r4 2) ((nI q) - 1) (nI v) (by decide)) rfl rfl ⟨rfl, rfl, ⟨Nat.le_of_ble_eq_true rfl, Nat.le_of_ble_eq_true rfl⟩, Nat.le_of_ble_eq_true rfl, Nat.le_of_ble_eq_true rfl⟩ wl_X3_66 ws_X3_put wi_X3 wc_X3_put (by decide +kernel) rfl rfl (Nat.le_of_ble_eq_true rfl) dX3_leftAtWorst_49) (fun u_5 h_5 => ?_)
          subst h_5
          refine z_ws (st' := []) (ws' := (cW cI a i' (va_up r4 2 (putv 5 (r4 2) ((nI q) - 1) (nI v))))) rfl rfl ?_
          have hv3 := hv.sp hsp (hsr2.up (v := putv 5 (r4 2) (nI q - 1) (nI v)))
          have hc3 : ∀ k, k < 5 → va_up r4 2 (putv 5 (r4 2) (nI q - 1) (nI v)) 2 k = nI (upN c (q - 1) v k) ∧ upN c (q - 1) v k ≤ 9 := fun k hk => ⟨by rw [vup_s]; exact put_up hq1 hq5 hc2 k hk, upN_le (fun k hk => (hc k hk).2) hv9 k hk⟩
          refine z_iload C (pc := 52) dX3_leftAtWorst_52 rfl ?_
          refine z_aload_n C (pc := 54) dX3_leftAtWorst_54 rfl ?_
          refine z_get C (pc := 55) 0 rfl rfl wf_X3 1 (by decide) rfl wl_X3_19 (v := .ref (a 3)) rfl dX3_leftAtWorst_55 ?_
          refine z_aload_n C (pc := 58) dX3_leftAtWorst_58 rfl ?_
          refine z_get C (pc := 59) 0 rfl rfl wf_X3 1 (by decide) rfl wl_X3_19 (v := .ref (a 3)) rfl dX3_leftAtWorst_59 ?_
          refine z_calliF C (by exact fun _ => cW_ad) (runVN C (wc := (cW cI a i' (va_up r4 2 (putv 5 (r4 2) ((nI q) - 1) (nI v))))) (pc := 62) (rY' := rm 0 0) (nn := 0) (As := []) (rest := [.ref (a 3), .int (nI (hcv (fun v => homeb kd n (2 ^ n - 1) 6 (upN c (q - 1) v) f) b v))]) (c_all l D cI tt a i' (va_up r4 2 (putv 5 (r4 2) ((nI q) - 1) (nI v))) n hv3.1 hn6) (full_hC _) (full_nd _) ⟨rfl, rfl, ⟨Nat.le_of_ble_eq_true rfl, Nat.le_of_ble_eq_true rfl⟩, Nat.le_of_ble_eq_true rfl, Nat.le_of_ble_eq_true rfl⟩ wl_X3_70 wm_X1_all we_X1_all wi_X1 wc_X1_all (by decide +kernel) rfl 3 rfl rfl rfl rfl (Nat.le_of_ble_eq_true rfl) dX3_leftAtWorst_62) (fun q_6 u_6 h_6 => ?_)
          subst h_6
          refine z_ws (st' := [.int (nI (2 ^ n - 1)), .ref (a 3), .int (nI (hcv (fun v => homeb kd n (2 ^ n - 1) 6 (upN c (q - 1) v) f) b v))]) (ws' := (cW cI a i' (va_up r4 2 (putv 5 (r4 2) ((nI q) - 1) (nI v))))) rfl rfl ?_
          refine z_bipush C (pc := 65) (v := 6) dX3_leftAtWorst_65 (by decide) ?_
          refine z_iload_n C (pc := 67) dX3_leftAtWorst_67 rfl ?_
          refine z_calliF C (by exact fun _ => cW_ad) (runVN C (wc := (cW cI a i' (va_up r4 2 (putv 5 (r4 2) ((nI q) - 1) (nI v))))) (pc := 68) (rY' := rm 3 67) (nn := 3) (As := [.int (nI (2 ^ n - 1)), .int 6, .int (nI f)]) (rest := [.int (nI (hcv (fun v => homeb kd n (2 ^ n - 1) 6 (upN c (q - 1) v) f) b v))]) (c_go l D cI tt a i' (va_up r4 2 (putv 5 (r4 2) ((nI q) - 1) (nI v))) kd n (2 ^ n - 1) 6 f hv3 (by have := Nat.pow_pos (n := n) (show 0 < 2 by decide); omega) (by decide) hf (upN c (q - 1) v) hc3) (full_hC _) (full_nd _) ⟨rfl, rfl, ⟨Nat.le_of_ble_eq_true rfl, Nat.le_of_ble_eq_true rfl⟩, Nat.le_of_ble_eq_true rfl, Nat.le_of_ble_eq_true rfl⟩ wl_X3_128 wm_X1_go we_X1_go wi_X1 wc_X1_go (by decide +kernel) rfl 3 rfl rfl rfl rfl (Nat.le_of_ble_eq_true rfl) dX3_leftAtWorst_68) (fun q_7 u_7 h_7 => ?_)
          obtain ⟨i7, r7⟩ := u_7
          try dsimp only at h_7
          obtain ⟨k0, k1, k2, -⟩ := h_7
          rw [mar_home] at k0
          refine z_ws (st' := [.int q_7, .int (nI (hcv (fun v => homeb kd n (2 ^ n - 1) 6 (upN c (q - 1) v) f) b v))]) (ws' := (cW cI a i7 r7)) rfl rfl ?_
          refine z_if_eq C (pc := 71) (tgt := 78) dX3_leftAtWorst_71 (by decide) (fun c_8 => ?_) (fun c_8 => ?_)
          · have hhf : homeb kd n (2 ^ n - 1) 6 (upN c (q - 1) v) f = false := b2_f (by rw [← k0]; exact c_8)
            have hno : ¬ (bt b v = 1 ∧ homeb kd n (2 ^ n - 1) 6 (upN c (q - 1) v) f = true) := fun h => by rw [hhf] at h; exact absurd h.2 (by decide)
            refine z_iconst C (pc := 78) (v := 0) dX3_leftAtWorst_78 (by decide) ?_
            refine z_iadd C (pc := 79) dX3_leftAtWorst_79 ?_
            refine z_istore C (pc := 80) (lv' := [(0, .ref (a 0)), (1, .int (nI q)), (2, .int (nI b)), (3, .int (nI f)), (4, .int ((nI (hcv (fun v => homeb kd n (2 ^ n - 1) 6 (upN c (q - 1) v) f) b v)) + 0)), (5, .int (nI v))]) dX3_leftAtWorst_80 (Nat.le_of_ble_eq_true rfl) rfl rfl ?_
            refine z_iinc C (pc := 82) (v := ((nI v) + 1)) (lv' := [(0, .ref (a 0)), (1, .int (nI q)), (2, .int (nI b)), (3, .int (nI f)), (4, .int ((nI (hcv (fun v => homeb kd n (2 ^ n - 1) 6 (upN c (q - 1) v) f) b v)) + 0)), (5, .int ((nI v) + 1))]) dX3_leftAtWorst_82 rfl rfl (Nat.le_of_ble_eq_true rfl) rfl rfl ?_
            refine z_goto C (pc := 85) (tgt := 6) dX3_leftAtWorst_85 (by decide) ?_
            refine z_lv (lv' := [(0, .ref (a 0)), (1, .int (nI q)), (2, .int (nI b)), (3, .int (nI f)), (4, .int (nI (hcv (fun v => homeb kd n (2 ^ n - 1) 6 (upN c (q - 1) v) f) b (v + 1)))), (5, .int (nI (v + 1)))]) ⟨rfl, rfl, rfl, rfl, lki (by rw [hcv_f (H := (fun v => homeb kd n (2 ^ n - 1) 6 (upN c (q - 1) v) f)) hno]; exact nI_add _ 0), lki (nI_1 v), trivial⟩ ?_
            exact ih6 (v + 1) i7 r7 (by omega) (by omega) (hsp.tr k1) (hsr2.up.tr k2)
          · have hho : homeb kd n (2 ^ n - 1) 6 (upN c (q - 1) v) f = true := b2_t (by rw [← k0]; exact c_8)
            refine z_iconst C (pc := 74) (v := 1) dX3_leftAtWorst_74 (by decide) ?_
            refine z_goto C (pc := 75) (tgt := 79) dX3_leftAtWorst_75 (by decide) ?_
            refine z_iadd C (pc := 79) dX3_leftAtWorst_79 ?_
            refine z_istore C (pc := 80) (lv' := [(0, .ref (a 0)), (1, .int (nI q)), (2, .int (nI b)), (3, .int (nI f)), (4, .int ((nI (hcv (fun v => homeb kd n (2 ^ n - 1) 6 (upN c (q - 1) v) f) b v)) + 1)), (5, .int (nI v))]) dX3_leftAtWorst_80 (Nat.le_of_ble_eq_true rfl) rfl rfl ?_
            refine z_iinc C (pc := 82) (v := ((nI v) + 1)) (lv' := [(0, .ref (a 0)), (1, .int (nI q)), (2, .int (nI b)), (3, .int (nI f)), (4, .int ((nI (hcv (fun v => homeb kd n (2 ^ n - 1) 6 (upN c (q - 1) v) f) b v)) + 1)), (5, .int ((nI v) + 1))]) dX3_leftAtWorst_82 rfl rfl (Nat.le_of_ble_eq_true rfl) rfl rfl ?_
            refine z_goto C (pc := 85) (tgt := 6) dX3_leftAtWorst_85 (by decide) ?_
            refine z_lv (lv' := [(0, .ref (a 0)), (1, .int (nI q)), (2, .int (nI b)), (3, .int (nI f)), (4, .int (nI (hcv (fun v => homeb kd n (2 ^ n - 1) 6 (upN c (q - 1) v) f) b (v + 1)))), (5, .int (nI (v + 1)))]) ⟨rfl, rfl, rfl, rfl, lki (by rw [hcv_t (H := (fun v => homeb kd n (2 ^ n - 1) 6 (upN c (q - 1) v) f)) hb hho]; exact nI_1 _), lki (nI_1 v), trivial⟩ ?_
            exact ih6 (v + 1) i7 r7 (by omega) (by omega) (hsp.tr k1) (hsr2.up.tr k2)
  refine z_lv (lv' := [(0, .ref (a 0)), (1, .int (nI q)), (2, .int (nI b)), (3, .int (nI f)), (4, .int (nI (hcv (fun v => homeb kd n (2 ^ n - 1) 6 (upN c (q - 1) v) f) b 0))), (5, .int (nI 0))]) ⟨rfl, rfl, rfl, rfl, rfl, rfl, trivial⟩ ?_
  exact key6 (_ + 1) 0 i r (Nat.lt_succ_self _) (Nat.zero_le _) SP.rf SR.rf
end
section
def gdb (f : Nat → Int32) (p en : Nat) : Bool := if en ≠ 0 then decide (p < en + 5) && (decide (48 ≤ f p) && decide (f p ≤ 57)) else (decide (f p = 59) && decide (2 ≤ p)) || (decide (p < 6) && decide (kindOfv (f p) ≠ -1))
def gde (f : Nat → Int32) (p en : Nat) : Nat := if en ≠ 0 then en else if f p = 59 ∧ 2 ≤ p then p + 1 else 0
def scv (f : Nat → Int32) : Nat → Nat → Nat → Nat × Nat
  | 0, p, en => (p, en)
  | fu + 1, p, en => if gdb f p en = true then scv f fu (p + 1) (gde f p en) else (p, en)
def SI (f : Nat → Int32) (p en : Nat) : Prop := (∀ j, j < p → (f j = 59 ↔ en = j + 1)) ∧ (en ≠ 0 → 3 ≤ en ∧ en ≤ p ∧ p ≤ en + 5) ∧ (en = 0 → p ≤ 6) ∧ en ≤ 7 ∧ (∀ j, j < p → j + 1 < en ∨ en = 0 → kindOfv (f j) ≠ -1) ∧ (∀ j, j < p → en ≠ 0 → en ≤ j → 48 ≤ f j ∧ f j ≤ 57)
theorem SI_0 {f : Nat → Int32} : SI f 0 0 := ⟨fun j h => absurd h (Nat.not_lt_zero j), fun h => absurd rfl h, fun _ => by omega, by omega, fun j h => absurd h (Nat.not_lt_zero j), fun j h => absurd h (Nat.not_lt_zero j)⟩
theorem SI_s {f : Nat → Int32} {p en : Nat} (h : SI f p en) (g : gdb f p en = true) : SI f (p + 1) (gde f p en) := by
  unfold gdb at g
  unfold gde
  by_cases e : en ≠ 0
  · rw [if_pos e] at g ⊢
    simp only [Bool.and_eq_true, decide_eq_true_eq] at g
    obtain ⟨h1, h2, h3, h4, h5, h6⟩ := h
    refine ⟨fun j hj => ?_, fun _ => ⟨(h2 e).1, by have := (h2 e).2.1; omega, by omega⟩, fun h => absurd h e, h4, fun j hj hd => ?_, fun j hj he hle => ?_⟩
    · by_cases ej : j = p
      · subst ej
        refine ⟨fun h59 => ?_, fun h => by have := (h2 e).2.1; omega⟩
        rw [h59] at g
        exact absurd g.2.2 (by decide)
      · exact h1 j (by omega)
    · exact h5 j (by have := (h2 e).2.1; omega) hd
    · by_cases ej : j = p
      · subst ej; exact ⟨g.2.1, g.2.2⟩
      · exact h6 j (by omega) he hle
  · rw [if_neg e] at g ⊢
    have e0 : en = 0 := Classical.not_not.mp e
    subst e0
    obtain ⟨h1, h2, h3, h4, h5, h6⟩ := h
    have hp6 := h3 rfl
    by_cases hs : f p = 59 ∧ 2 ≤ p
    · rw [if_pos hs]
      refine ⟨fun j hj => ?_, fun _ => ⟨by omega, by omega, by omega⟩, fun h => by omega, by omega, fun j hj hd => h5 j (by omega) (Or.inr rfl), fun j hj he hle => by omega⟩
      by_cases ej : j = p
      · subst ej; exact ⟨fun _ => rfl, fun _ => hs.1⟩
      · have := h1 j (by omega)
        exact ⟨fun h => by have := this.mp h; omega, fun h => by omega⟩
    · rw [if_neg hs]
      have g2 : p < 6 ∧ kindOfv (f p) ≠ -1 := by
        simp only [Bool.or_eq_true, Bool.and_eq_true, decide_eq_true_eq] at g
        rcases g with g | g
        · exact absurd g hs
        · exact g
      refine ⟨fun j hj => ?_, fun h => absurd rfl h, fun _ => by omega, by omega, fun j hj hd => ?_, fun j hj he => absurd rfl he⟩
      · by_cases ej : j = p
        · subst ej
          refine ⟨fun h => ?_, fun h => by omega⟩
          rw [h] at g2
          exact absurd g2.2 (by decide)
        · exact h1 j (by omega)
      · by_cases ej : j = p
        · subst ej; exact g2.2
        · exact h5 j (by omega) (Or.inr rfl)
theorem scv_SI {f : Nat → Int32} : ∀ (fu p en : Nat), SI f p en → SI f (scv f fu p en).1 (scv f fu p en).2
  | 0, _, _, h => h
  | fu + 1, p, en, h => by
    unfold scv
    by_cases g : gdb f p en = true
    · rw [if_pos g]; exact scv_SI fu _ _ (SI_s h g)
    · rw [if_neg g]; exact h
theorem scv_le {f : Nat → Int32} : ∀ (fu p en : Nat), (scv f fu p en).1 ≤ p + fu
  | 0, _, _ => Nat.le_refl _
  | fu + 1, p, en => by
    unfold scv
    by_cases g : gdb f p en = true
    · rw [if_pos g]; have := scv_le (f := f) fu (p + 1) (gde f p en); omega
    · rw [if_neg g]; show p ≤ p + (fu + 1); omega
theorem scv_t {f : Nat → Int32} {fu p en : Nat} (g : gdb f p en = true) : scv f (fu + 1) p en = scv f fu (p + 1) (gde f p en) := by show (if _ then _ else _) = _; rw [if_pos g]
theorem scv_f {f : Nat → Int32} {fu p en : Nat} (g : gdb f p en = false) : scv f (fu + 1) p en = (p, en) := by show (if _ then _ else _) = _; rw [if_neg (by rw [g]; decide)]
theorem scv_congr {f g : Nat → Int32} {L : Nat} (h : ∀ j, j < L → f j = g j) : ∀ (fu p en : Nat), p + fu ≤ L → scv f fu p en = scv g fu p en
  | 0, _, _, _ => rfl
  | fu + 1, p, en, hp => by
    have e := h p (by omega)
    have e1 : gdb f p en = gdb g p en := by unfold gdb; rw [e]
    have e2 : gde f p en = gde g p en := by unfold gde; rw [e]
    unfold scv
    rw [e1, e2, scv_congr h fu (p + 1) (gde g p en) (by omega)]
def krv (p en : Nat) : Nat := if en = 0 then p else en - 1
def drv (p en : Nat) : Int32 := if en = 0 then -1 else nI (p - en)
def campb (f : Nat → Int32) (L : Nat) : Bool := decide ((scv f L 0 0).1 = L) && (decide ((scv f L 0 0).2 ≠ 0) && decide (L = (scv f L 0 0).2 + 5))
theorem drv_ne {p en : Nat} (h : p - en < 2 ^ 31) : drv p en = -1 ↔ en = 0 := by
  unfold drv
  by_cases e : en = 0
  · rw [if_pos e]; simp [e]
  · rw [if_neg e]
    refine ⟨fun h2 => ?_, fun h2 => absurd h2 e⟩
    have h3 := congrArg Int32.toInt h2
    rw [nI_toInt h] at h3
    have : (-1 : Int32).toInt = -1 := rfl
    omega
set_option maxHeartbeats 4000000 in
set_option maxRecDepth 100000 in
theorem c_bestTrial (l : Launch) (D : va_G) (cI : ClassId) (tt : Nat × Nat × Nat) (a : Nat → Nat) (i : Nat → Int32) (r : Nat → Nat → Int32) (kd : Nat → Nat) (n : Nat) (hv : PV i r kd n) (c : Nat → Nat) (hc : ∀ k, k < 5 → r 3 k = nI (c k) ∧ c k ≤ 9) (q b : Nat) (hq1 : 1 ≤ q) (hq5 : q < 6) (hb10 : b < 1024) : MetI (S := ((Nat → Int32) × (Nat → Nat → Int32))) l yX3_bestTrial cX3_bestTrial 8 (some .int) (rm 5 117) D cI tt [.ref (a 0), .int (nI q), .int (nI b)] (cW cI a i r) (fun z u => z = tryv kd n c q b ∧ SP i u.1 ∧ SR r u.2) (fun u => cW cI a u.1 u.2) := by
  have hn6 := hv.2.1
  have hx6 := pow_le6 hn6
  have hp2 := Nat.pow_pos (n := n) (show 0 < 2 by decide)
  refine met_ofI (by decide) (Nat.le_of_ble_eq_true rfl) ?_
  intro pP eE sS mM aV bB mE cC AA C hin
  refine z_conv (lv' := [(0, .ref (a 0)), (1, .int (nI q)), (2, .int (nI b))]) ⟨rfl, rfl, rfl, trivial⟩ rfl rfl ?_
  refine z_iconst C (pc := 0) (v := (-1)) dX3_bestTrial_0 (by decide) ?_
  refine z_istore_n C (pc := 1) (lv' := [(0, .ref (a 0)), (1, .int (nI q)), (2, .int (nI b)), (3, .int (-1))]) dX3_bestTrial_1 (Nat.le_of_ble_eq_true rfl) rfl rfl ?_
  refine z_iload_n C (pc := 2) dX3_bestTrial_2 rfl ?_
  refine z_calli C (isC := []) rfl (by exact fun _ => rfl) (runS C (wc := []) (pc := 3) (rY' := rm 0 0) (nn := 1) (As := [.int (nI b)]) (rest := []) (c_bitCount l D cI tt (nI b)) rfl rfl ⟨rfl, rfl, ⟨Nat.le_of_ble_eq_true rfl, Nat.le_of_ble_eq_true rfl⟩, Nat.le_of_ble_eq_true rfl, Nat.le_of_ble_eq_true rfl⟩ wl_X3_187 ws_J6_bitCount_0f7a4 wi_J6 wc_J6_bitCount_0f7a4 (by decide +kernel) rfl rfl (Nat.le_of_ble_eq_true rfl) dX3_bestTrial_3) (fun r_1 u_1 h_1 => ?_)
  have h_1 : r_1 = nI (pcn b) := h_1.trans (bc_pcn _ hb10)
  subst h_1
  refine z_ws (st' := [.int (nI (pcn b))]) (ws' := (cW cI a i r)) rfl rfl ?_
  refine z_iconst C (pc := 6) (v := 1) dX3_bestTrial_6 (by decide) ?_
  refine z_iadd C (pc := 7) dX3_bestTrial_7 ?_
  refine z_istore C (pc := 8) (lv' := [(0, .ref (a 0)), (1, .int (nI q)), (2, .int (nI b)), (3, .int (-1)), (4, .int ((nI (pcn b)) + 1))]) dX3_bestTrial_8 (Nat.le_of_ble_eq_true rfl) rfl rfl ?_
  refine z_aload_n C (pc := 10) dX3_bestTrial_10 rfl ?_
  refine z_aload_n C (pc := 11) dX3_bestTrial_11 rfl ?_
  refine z_get C (pc := 12) 0 rfl rfl wf_X3 1 (by decide) rfl wl_X3_19 (v := .ref (a 3)) rfl dX3_bestTrial_12 ?_
  refine z_calliF C (by exact fun _ => cW_ad) (runVN C (wc := (cW cI a i r)) (pc := 15) (rY' := rm 0 0) (nn := 0) (As := []) (rest := [.ref (a 0)]) (c_all l D cI tt a i r n hv.1 hn6) (full_hC _) (full_nd _) ⟨rfl, rfl, ⟨Nat.le_of_ble_eq_true rfl, Nat.le_of_ble_eq_true rfl⟩, Nat.le_of_ble_eq_true rfl, Nat.le_of_ble_eq_true rfl⟩ wl_X3_70 wm_X1_all we_X1_all wi_X1 wc_X1_all (by decide +kernel) rfl 3 rfl rfl rfl rfl (Nat.le_of_ble_eq_true rfl) dX3_bestTrial_15) (fun q_2 u_2 h_2 => ?_)
  subst h_2
  refine z_ws (st' := [.int (nI (2 ^ n - 1)), .ref (a 0)]) (ws' := (cW cI a i r)) rfl rfl ?_
  refine z_calliF C (by exact fun _ => cW_ad) (runV C (wc := (cW cI a i r)) (pc := 18) (rY' := rm 2 45) (nn := 1) (As := [.int (nI (2 ^ n - 1))]) (rest := []) (c_mostFoodOf l D cI tt a i r kd n hv (2 ^ n - 1) (by omega)) (full_hC _) (full_nd _) ⟨rfl, rfl, ⟨Nat.le_of_ble_eq_true rfl, Nat.le_of_ble_eq_true rfl⟩, Nat.le_of_ble_eq_true rfl, Nat.le_of_ble_eq_true rfl⟩ wl_X3_214 wm_X3_mostFoodOf we_X3_mostFoodOf wi_X3 wc_X3_mostFoodOf (by decide +kernel) rfl 0 rfl rfl rfl rfl (Nat.le_of_ble_eq_true rfl) dX3_bestTrial_18) (fun q_3 u_3 h_3 => ?_)
  subst h_3
  refine z_ws (st' := [.int (nI (min 40 (sumk pls kd (2 ^ n - 1) n)))]) (ws' := (cW cI a i r)) rfl rfl ?_
  refine z_istore C (pc := 21) (lv' := [(0, .ref (a 0)), (1, .int (nI q)), (2, .int (nI b)), (3, .int (-1)), (4, .int ((nI (pcn b)) + 1)), (5, .int (nI (min 40 (sumk pls kd (2 ^ n - 1) n))))]) dX3_bestTrial_21 (Nat.le_of_ble_eq_true rfl) rfl rfl ?_
  refine z_iconst C (pc := 23) (v := 0) dX3_bestTrial_23 (by decide) ?_
  refine z_istore C (pc := 24) (lv' := [(0, .ref (a 0)), (1, .int (nI q)), (2, .int (nI b)), (3, .int (-1)), (4, .int ((nI (pcn b)) + 1)), (5, .int (nI (min 40 (sumk pls kd (2 ^ n - 1) n)))), (6, .int 0)]) dX3_bestTrial_24 (Nat.le_of_ble_eq_true rfl) rfl rfl ?_
  have key26 : ∀ (fu26 : Nat) (f : Nat) (i' : Nat → Int32) (r' : Nat → Nat → Int32), (min 40 (sumk pls kd (2 ^ n - 1) n)) + 1 - f < fu26 → (f ≤ (min 40 (sumk pls kd (2 ^ n - 1) n)) + 1) → (b = 0 → f = 0) → (SP i i') → (SR r r') → Z pP l eE (rm 5 117) sS mM aV bB mE cC D AA 8 0 0 (MQ bB (va_Qi (S := ((Nat → Int32) × (Nat → Nat → Int32))) (fun z u => z = tryv kd n c q b ∧ SP i u.1 ∧ SR r u.2) (fun u t => va_P D vwCl ((fun u => cW cI a u.1 u.2) u) t.heap) AA) aV sS 0 0 AA) 26 [(0, .ref (a 0)), (1, .int (nI q)), (2, .int (nI b)), (3, .int ((trv (wov kd n c q b) (pcn b + 1) f).1)), (4, .int (nI (trv (wov kd n c q b) (pcn b + 1) f).2)), (5, .int (nI (min 40 (sumk pls kd (2 ^ n - 1) n)))), (6, .int (nI f))] [] (cW cI a i' r') := by
    intro fu26
    induction fu26 with
    | zero => intro f i' r' hfu26; exact absurd hfu26 (Nat.not_lt_zero _)
    | succ fu26 ih26 =>
      intro f i' r' hfu26 hfm hb0 hsp hsr
      refine z_iload_n C (pc := 26) dX3_bestTrial_26 rfl ?_
      refine z_if_eq C (pc := 27) (tgt := 67) dX3_bestTrial_27 (by decide) (fun c_4 => ?_) (fun c_4 => ?_)
      · refine z_iload_n C (pc := 67) dX3_bestTrial_67 rfl ?_
        refine z_iret C (pc := 68) (i', r') dX3_bestTrial_68 ?_ rfl
        have hbz : b = 0 := nI_z (by omega) c_4
        have hfz := hb0 hbz
        subst hfz
        exact ⟨by unfold tryv; rw [if_pos hbz]; rfl, hsp, hsr⟩
      · have hbn : b ≠ 0 := nI_nz c_4
        refine z_iload C (pc := 30) dX3_bestTrial_30 rfl ?_
        refine z_iload C (pc := 32) dX3_bestTrial_32 rfl ?_
        refine z_icmp_gt C (pc := 34) (tgt := 67) dX3_bestTrial_34 (by decide) (fun c_5 => ?_) (fun c_5 => ?_)
        · refine z_iload_n C (pc := 67) dX3_bestTrial_67 rfl ?_
          refine z_iret C (pc := 68) (i', r') dX3_bestTrial_68 ?_ rfl
          have hfe : f = (min 40 (sumk pls kd (2 ^ n - 1) n)) + 1 := by
            have := Nat.lt_of_not_le (fun h => nI_nlt (a := (min 40 (sumk pls kd (2 ^ n - 1) n))) (b := f) h (by omega) c_5)
            omega
          refine ⟨?_, hsp, hsr⟩
          unfold tryv
          rw [if_neg hbn, hfe]
          exact try_cap
        · have hfl : f ≤ (min 40 (sumk pls kd (2 ^ n - 1) n)) := Nat.le_of_not_lt (fun h => c_5 (nI_lt h (by omega)))
          have hc2 : ∀ k, k < 5 → r' 3 k = nI (c k) ∧ c k ≤ 9 := fun k hk => ⟨(congrFun (hsr 3 (by decide)) k).trans (hc k hk).1, (hc k hk).2⟩
          have hwl : ∀ f, (wov kd n c q b) f ≤ pcn b + 1 := fun f => Nat.le_succ_of_le wov_le
          have htl := trv_b (w := (wov kd n c q b)) (l := (pcn b + 1)) (B := pcn b + 1) (Nat.le_refl _) hwl f
          have hpc := pcn_le b
          have hwf := hwl f
          refine z_aload_n C (pc := 37) dX3_bestTrial_37 rfl ?_
          refine z_iload_n C (pc := 38) dX3_bestTrial_38 rfl ?_
          refine z_iload_n C (pc := 39) dX3_bestTrial_39 rfl ?_
          refine z_iload C (pc := 40) dX3_bestTrial_40 rfl ?_
          refine z_calliF C (by exact fun _ => cW_ad) (runV C (wc := (cW cI a i' r')) (pc := 42) (rY' := rm 4 92) (nn := 3) (As := [.int (nI q), .int (nI b), .int (nI f)]) (rest := []) (c_leftAtWorst l D cI tt a i' r' kd n (hv.sp hsp hsr) c hc2 q b f hq1 hq5 hb10 (by omega)) (full_hC _) (full_nd _) ⟨rfl, rfl, ⟨Nat.le_of_ble_eq_true rfl, Nat.le_of_ble_eq_true rfl⟩, Nat.le_of_ble_eq_true rfl, Nat.le_of_ble_eq_true rfl⟩ wl_X3_232 wm_X3_leftAtWorst we_X3_leftAtWorst wi_X3 wc_X3_leftAtWorst (by decide +kernel) rfl 0 rfl rfl rfl rfl (Nat.le_of_ble_eq_true rfl) dX3_bestTrial_42) (fun z_6 u_6 h_6 => ?_)
          obtain ⟨i6, r6⟩ := u_6
          try dsimp only at h_6
          obtain ⟨k0, k1, k2⟩ := h_6
          subst k0
          refine z_ws (st' := [.int (nI ((wov kd n c q b) f))]) (ws' := (cW cI a i6 r6)) rfl rfl ?_
          refine z_istore C (pc := 45) (lv' := [(0, .ref (a 0)), (1, .int (nI q)), (2, .int (nI b)), (3, .int ((trv (wov kd n c q b) (pcn b + 1) f).1)), (4, .int (nI (trv (wov kd n c q b) (pcn b + 1) f).2)), (5, .int (nI (min 40 (sumk pls kd (2 ^ n - 1) n)))), (6, .int (nI f)), (7, .int (nI ((wov kd n c q b) f)))]) dX3_bestTrial_45 (Nat.le_of_ble_eq_true rfl) rfl rfl ?_
          refine z_iload C (pc := 47) dX3_bestTrial_47 rfl ?_
          refine z_iload C (pc := 49) dX3_bestTrial_49 rfl ?_
          refine z_icmp_ge C (pc := 51) (tgt := 61) dX3_bestTrial_51 (by decide) (fun c_7 => ?_) (fun c_7 => ?_)
          · have hno : ¬ (wov kd n c q b) f < (trv (wov kd n c q b) (pcn b + 1) f).2 := fun h => nI_ge h (by omega) c_7
            refine z_iinc C (pc := 61) (v := ((nI f) + 1)) (lv' := [(0, .ref (a 0)), (1, .int (nI q)), (2, .int (nI b)), (3, .int ((trv (wov kd n c q b) (pcn b + 1) f).1)), (4, .int (nI (trv (wov kd n c q b) (pcn b + 1) f).2)), (5, .int (nI (min 40 (sumk pls kd (2 ^ n - 1) n)))), (6, .int ((nI f) + 1)), (7, .int (nI ((wov kd n c q b) f)))]) dX3_bestTrial_61 rfl rfl (Nat.le_of_ble_eq_true rfl) rfl rfl ?_
            refine z_goto C (pc := 64) (tgt := 26) dX3_bestTrial_64 (by decide) ?_
            refine z_lv (lv' := [(0, .ref (a 0)), (1, .int (nI q)), (2, .int (nI b)), (3, .int ((trv (wov kd n c q b) (pcn b + 1) (f + 1)).1)), (4, .int (nI (trv (wov kd n c q b) (pcn b + 1) (f + 1)).2)), (5, .int (nI (min 40 (sumk pls kd (2 ^ n - 1) n)))), (6, .int (nI (f + 1)))]) ⟨rfl, rfl, rfl, lki (by rw [trv_n hno]), lki (by rw [trv_n hno]), rfl, lki (nI_1 f), trivial⟩ ?_
            exact ih26 (f + 1) i6 r6 (by omega) (by omega) (fun h => absurd h hbn) (hsp.tr k1) (hsr.tr k2)
          · have hlt : (wov kd n c q b) f < (trv (wov kd n c q b) (pcn b + 1) f).2 := lt_of_nI c_7 (by omega)
            refine z_iload C (pc := 54) dX3_bestTrial_54 rfl ?_
            refine z_istore_n C (pc := 56) (lv' := [(0, .ref (a 0)), (1, .int (nI q)), (2, .int (nI b)), (3, .int (nI f)), (4, .int (nI (trv (wov kd n c q b) (pcn b + 1) f).2)), (5, .int (nI (min 40 (sumk pls kd (2 ^ n - 1) n)))), (6, .int (nI f)), (7, .int (nI ((wov kd n c q b) f)))]) dX3_bestTrial_56 (Nat.le_of_ble_eq_true rfl) rfl rfl ?_
            refine z_iload C (pc := 57) dX3_bestTrial_57 rfl ?_
            refine z_istore C (pc := 59) (lv' := [(0, .ref (a 0)), (1, .int (nI q)), (2, .int (nI b)), (3, .int (nI f)), (4, .int (nI ((wov kd n c q b) f))), (5, .int (nI (min 40 (sumk pls kd (2 ^ n - 1) n)))), (6, .int (nI f)), (7, .int (nI ((wov kd n c q b) f)))]) dX3_bestTrial_59 (Nat.le_of_ble_eq_true rfl) rfl rfl ?_
            refine z_iinc C (pc := 61) (v := ((nI f) + 1)) (lv' := [(0, .ref (a 0)), (1, .int (nI q)), (2, .int (nI b)), (3, .int (nI f)), (4, .int (nI ((wov kd n c q b) f))), (5, .int (nI (min 40 (sumk pls kd (2 ^ n - 1) n)))), (6, .int ((nI f) + 1)), (7, .int (nI ((wov kd n c q b) f)))]) dX3_bestTrial_61 rfl rfl (Nat.le_of_ble_eq_true rfl) rfl rfl ?_
            refine z_goto C (pc := 64) (tgt := 26) dX3_bestTrial_64 (by decide) ?_
            refine z_lv (lv' := [(0, .ref (a 0)), (1, .int (nI q)), (2, .int (nI b)), (3, .int ((trv (wov kd n c q b) (pcn b + 1) (f + 1)).1)), (4, .int (nI (trv (wov kd n c q b) (pcn b + 1) (f + 1)).2)), (5, .int (nI (min 40 (sumk pls kd (2 ^ n - 1) n)))), (6, .int (nI (f + 1)))]) ⟨rfl, rfl, rfl, lki (by rw [trv_s hlt]), lki (by rw [trv_s hlt]), rfl, lki (nI_1 f), trivial⟩ ?_
            exact ih26 (f + 1) i6 r6 (by omega) (by omega) (fun h => absurd h hbn) (hsp.tr k1) (hsr.tr k2)
  refine z_lv (lv' := [(0, .ref (a 0)), (1, .int (nI q)), (2, .int (nI b)), (3, .int ((trv (wov kd n c q b) (pcn b + 1) 0).1)), (4, .int (nI (trv (wov kd n c q b) (pcn b + 1) 0).2)), (5, .int (nI (min 40 (sumk pls kd (2 ^ n - 1) n)))), (6, .int (nI 0))]) ⟨rfl, rfl, rfl, rfl, lki (nI_1 _), rfl, rfl, trivial⟩ ?_
  exact key26 (_ + 1) 0 i r (Nat.lt_succ_self _) (Nat.zero_le _) (fun _ => rfl) SP.rf SR.rf

set_option maxHeartbeats 4000000 in
set_option maxRecDepth 100000 in
theorem c_sum (l : Launch) (D : va_G) (cI : ClassId) (tt : Nat × Nat × Nat) (b N : Nat) (f : Nat → Int32) (hN : N < 2 ^ 31) : MetI (S := Unit) l yX3_sum cX3_sum 3 (some .int) (rm 0 0) D cI tt [.ref b] [(b, .inl (cI, N, .inl f))] (fun q _ => q = sumv f N) (fun _ => [(b, .inl (cI, N, .inl f))]) := by
  refine met_ofI (by decide) (Nat.le_of_ble_eq_true rfl) ?_
  intro pP eE sS mM aV bB mE cC AA C hin
  refine z_conv (lv' := [(0, .ref b)]) ⟨rfl, trivial⟩ rfl rfl ?_
  refine z_iconst C (pc := 0) (v := 0) dX3_sum_0 (by decide) ?_
  refine z_istore_n C (pc := 1) (lv' := [(0, .ref b), (1, .int 0)]) dX3_sum_1 (Nat.le_of_ble_eq_true rfl) rfl rfl ?_
  refine z_iconst C (pc := 2) (v := 0) dX3_sum_2 (by decide) ?_
  refine z_istore_n C (pc := 3) (lv' := [(0, .ref b), (1, .int 0), (2, .int 0)]) dX3_sum_3 (Nat.le_of_ble_eq_true rfl) rfl rfl ?_
  have key4 : ∀ (fu4 : Nat) (k : Nat), N - k < fu4 → (k ≤ N) → Z pP l eE (rm 0 0) sS mM aV bB mE cC D AA 3 0 0 (MQ bB (va_Qi (S := Unit) (fun q _ => q = sumv f N) (fun u t => va_P D vwCl ((fun _ => [(b, .inl (cI, N, .inl f))]) u) t.heap) AA) aV sS 0 0 AA) 4 [(0, .ref b), (1, .int (sumv f k)), (2, .int (nI k))] [] [(b, .inl (cI, N, .inl f))] := by
    intro fu4
    induction fu4 with
    | zero => intro k hfu4; exact absurd hfu4 (Nat.not_lt_zero _)
    | succ fu4 ih4 =>
      intro k hfu4 hkn
      refine z_aload_n C (pc := 4) dX3_sum_4 rfl ?_
      refine z_ifnull C (pc := 5) dX3_sum_5 ?_
      refine z_iload_n C (pc := 8) dX3_sum_8 rfl ?_
      refine z_aload_n C (pc := 9) dX3_sum_9 rfl ?_
      refine z_alen C (pc := 10) 0 rfl (v := (nI N)) rfl dX3_sum_10 ?_
      refine z_icmp_ge C (pc := 11) (tgt := 26) dX3_sum_11 (by decide) (fun c_1 => ?_) (fun c_1 => ?_)
      · refine z_iload_n C (pc := 26) dX3_sum_26 rfl ?_
        refine z_iret C (pc := 27) () dX3_sum_27 ?_ rfl
        have hke : k = N := by
          have := ge_of_nI c_1 hN
          omega
        rw [hke]
      · have hk : k < N := lt_of_nI c_1 (by omega)
        refine z_iload_n C (pc := 14) dX3_sum_14 rfl ?_
        refine z_aload_n C (pc := 15) dX3_sum_15 rfl ?_
        refine z_iload_n C (pc := 16) dX3_sum_16 rfl ?_
        have h_2 : vp_in (nI k) N := by exact vp_in_nI hk hN
        refine z_iald C (pc := 17) 0 rfl h_2 dX3_sum_17 ?_
        refine z_seti (y := f k) (by rw [nI_clamp (by omega)]) ?_
        refine z_iadd C (pc := 18) dX3_sum_18 ?_
        refine z_istore_n C (pc := 19) (lv' := [(0, .ref b), (1, .int ((sumv f k) + (f k))), (2, .int (nI k))]) dX3_sum_19 (Nat.le_of_ble_eq_true rfl) rfl rfl ?_
        refine z_iinc C (pc := 20) (v := ((nI k) + 1)) (lv' := [(0, .ref b), (1, .int ((sumv f k) + (f k))), (2, .int ((nI k) + 1))]) dX3_sum_20 rfl rfl (Nat.le_of_ble_eq_true rfl) rfl rfl ?_
        refine z_goto C (pc := 23) (tgt := 4) dX3_sum_23 (by decide) ?_
        refine z_lv (lv' := [(0, .ref b), (1, .int (sumv f (k + 1))), (2, .int (nI (k + 1)))]) ⟨rfl, rfl, lki (nI_1 k), trivial⟩ ?_
        exact ih4 (k + 1) (by omega) hk
  refine z_lv (lv' := [(0, .ref b), (1, .int (sumv f 0)), (2, .int (nI 0))]) ⟨rfl, rfl, rfl, trivial⟩ ?_
  exact key4 (_ + 1) 0 (Nat.lt_succ_self _) (Nat.zero_le _)

set_option maxHeartbeats 4000000 in
set_option maxRecDepth 100000 in
theorem c_add (l : Launch) (D : va_G) (cI : ClassId) (tt : Nat × Nat × Nat) (a : Nat → Nat) (i : Nat → Int32) (r : Nat → Nat → Int32) (x : Int32) : MetI (S := ((Nat → Int32) × (Nat → Nat → Int32))) l yX0_add cX0_add 2 (some .boolean) (rm 1 22) D cI tt [.ref (a 1), .int x] (cW cI a i r) (fun q u => (nI 15 ≤ i 3 ∧ q = 0 ∧ u = (i, r)) ∨ (¬ nI 15 ≤ i 3 ∧ q = 1 ∧ u = (upd i 3 (i 3 + 1), va_up r 0 (putv 15 (r 0) (i 3) x)))) (fun u => cW cI a u.1 u.2) := by
  refine met_ofI (by decide) (Nat.le_of_ble_eq_true rfl) ?_
  intro pP eE sS mM aV bB mE cC AA C hin
  refine z_conv (lv' := [(0, .ref (a 1)), (1, .int x)]) ⟨rfl, rfl, trivial⟩ rfl rfl ?_
  refine z_aload_n C (pc := 0) dX0_add_0 rfl ?_
  refine z_get C (pc := 1) 1 rfl rfl wf_X0 1 (by decide) rfl wl_X0_15 (v := .int (i 3)) rfl dX0_add_1 ?_
  refine z_bipush C (pc := 4) (v := 15) dX0_add_4 (by decide) ?_
  refine z_icmp_lt C (pc := 6) (tgt := 11) dX0_add_6 (by decide) (fun c_1 => ?_) (fun c_1 => ?_)
  · refine z_aload_n C (pc := 11) dX0_add_11 rfl ?_
    refine z_get C (pc := 12) 1 rfl rfl wf_X0 0 (by decide) rfl wl_X0_9 (v := .ref (a 2)) rfl dX0_add_12 ?_
    refine z_aload_n C (pc := 15) dX0_add_15 rfl ?_
    refine z_get C (pc := 16) 1 rfl rfl wf_X0 1 (by decide) rfl wl_X0_15 (v := .int (i 3)) rfl dX0_add_16 ?_
    refine z_iload_n C (pc := 19) dX0_add_19 rfl ?_
    refine z_callv C (isC := [2]) rfl (by exact fun _ => rfl) (runSN C (wc := [(a 2, .inl (cI, 15, .inl (r 0)))]) (pc := 20) (rY' := rm 0 0) (nn := 3) (As := [.ref (a 2), .int (i 3), .int x]) (rest := []) (c_put l D cI tt (a 2) 15 (r 0) (i 3) x (by decide)) rfl rfl ⟨rfl, rfl, ⟨Nat.le_of_ble_eq_true rfl, Nat.le_of_ble_eq_true rfl⟩, Nat.le_of_ble_eq_true rfl, Nat.le_of_ble_eq_true rfl⟩ wl_X0_19 ws_X3_put wi_X3 wc_X3_put (by decide +kernel) rfl rfl (Nat.le_of_ble_eq_true rfl) dX0_add_20) (fun u_2 h_2 => ?_)
    subst h_2
    refine z_ws (st' := []) (ws' := (cW cI a i (va_up r 0 (putv 15 (r 0) (i 3) x)))) rfl rfl ?_
    refine z_aload_n C (pc := 23) dX0_add_23 rfl ?_
    refine z_dup C (pc := 24) dX0_add_24 rfl ?_
    refine z_get C (pc := 25) 1 rfl rfl wf_X0 1 (by decide) rfl wl_X0_15 (v := .int (i 3)) rfl dX0_add_25 ?_
    refine z_iconst C (pc := 28) (v := 1) dX0_add_28 (by decide) ?_
    refine z_iadd C (pc := 29) dX0_add_29 ?_
    refine z_put C (pc := 30) 1 rfl rfl wf_X0 1 (by decide) rfl tyX0 tyX0_ok nmX0 rfl rfl rfl (Nat.le_of_ble_eq_true rfl) (ws' := (cW cI a (upd i 3 ((i 3) + 1)) (va_up r 0 (putv 15 (r 0) (i 3) x)))) rfl wl_X0_15 dX0_add_30 ?_
    refine z_iconst C (pc := 33) (v := 1) dX0_add_33 (by decide) ?_
    refine z_zret C (pc := 34) ((upd i 3 ((i 3) + 1)), (va_up r 0 (putv 15 (r 0) (i 3) x))) dX0_add_34 rfl ?_ rfl
    first | exact Or.inl ⟨i_nlt.mp c_1, rfl, rfl⟩ | exact Or.inr ⟨i_nle.mpr c_1, rfl, rfl⟩
  · refine z_iconst C (pc := 9) (v := 0) dX0_add_9 (by decide) ?_
    refine z_zret C (pc := 10) (i, r) dX0_add_10 rfl ?_ rfl
    first | exact Or.inl ⟨i_nlt.mp c_1, rfl, rfl⟩ | exact Or.inr ⟨i_nle.mpr c_1, rfl, rfl⟩

set_option maxHeartbeats 4000000 in
set_option maxRecDepth 100000 in
theorem c_codeAt (l : Launch) (D : va_G) (cI : ClassId) (tt : Nat × Nat × Nat) (a : Nat → Nat) (i : Nat → Int32) (r : Nat → Nat → Int32) (x : Int32) : MetI (S := Unit) l yX0_codeAt cX0_codeAt 2 (some .int) (rm 1 21) D cI tt [.ref (a 1), .int x] (cW cI a i r) (fun q _ => q = atv 15 (r 0) x) (fun _ => cW cI a i r) := by
  refine met_ofI (by decide) (Nat.le_of_ble_eq_true rfl) ?_
  intro pP eE sS mM aV bB mE cC AA C hin
  refine z_conv (lv' := [(0, .ref (a 1)), (1, .int x)]) ⟨rfl, rfl, trivial⟩ rfl rfl ?_
  refine z_aload_n C (pc := 0) dX0_codeAt_0 rfl ?_
  refine z_get C (pc := 1) 1 rfl rfl wf_X0 0 (by decide) rfl wl_X0_9 (v := .ref (a 2)) rfl dX0_codeAt_1 ?_
  refine z_iload_n C (pc := 4) dX0_codeAt_4 rfl ?_
  refine z_calli C (isC := [2]) rfl (by exact fun _ => rfl) (runSN C (wc := [(a 2, .inl (cI, 15, .inl (r 0)))]) (pc := 5) (rY' := rm 0 0) (nn := 2) (As := [.ref (a 2), .int x]) (rest := []) (c_at l D cI tt (a 2) 15 (r 0) x (by decide)) rfl rfl ⟨rfl, rfl, ⟨Nat.le_of_ble_eq_true rfl, Nat.le_of_ble_eq_true rfl⟩, Nat.le_of_ble_eq_true rfl, Nat.le_of_ble_eq_true rfl⟩ wl_X0_23 ws_X3_at wi_X3 wc_X3_at (by decide +kernel) rfl rfl (Nat.le_of_ble_eq_true rfl) dX0_codeAt_5) (fun r_1 u_1 h_1 => ?_)
  subst h_1
  refine z_ws (st' := [.int (atv 15 (r 0) x)]) (ws' := (cW cI a i r)) rfl rfl ?_
  refine z_iret C (pc := 8) () dX0_codeAt_8 ?_ rfl
  rfl

set_option maxHeartbeats 4000000 in
set_option maxRecDepth 100000 in
theorem c_firstWrong (l : Launch) (D : va_G) (cI : ClassId) (tt : Nat × Nat × Nat) (a : Nat → Nat) (i : Nat → Int32) (r : Nat → Nat → Int32) (L : Nat) (hl : i 3 = nI L) (hL : L ≤ 15) : MetI (S := Unit) l yX0_firstWrong cX0_firstWrong 5 (some .int) (rm 2 42) D cI tt [.ref (a 1)] (cW cI a i r) (fun q _ => q = nI (scv (r 0) L 0 0).1) (fun _ => cW cI a i r) := by
  refine met_ofI (by decide) (Nat.le_of_ble_eq_true rfl) ?_
  intro pP eE sS mM aV bB mE cC AA C hin
  refine z_conv (lv' := [(0, .ref (a 1))]) ⟨rfl, trivial⟩ rfl rfl ?_
  refine z_iconst C (pc := 0) (v := 0) dX0_firstWrong_0 (by decide) ?_
  refine z_istore_n C (pc := 1) (lv' := [(0, .ref (a 1)), (1, .int 0)]) dX0_firstWrong_1 (Nat.le_of_ble_eq_true rfl) rfl rfl ?_
  refine z_iconst C (pc := 2) (v := (-1)) dX0_firstWrong_2 (by decide) ?_
  refine z_istore_n C (pc := 3) (lv' := [(0, .ref (a 1)), (1, .int 0), (2, .int (-1))]) dX0_firstWrong_3 (Nat.le_of_ble_eq_true rfl) rfl rfl ?_
  refine z_iconst C (pc := 4) (v := 0) dX0_firstWrong_4 (by decide) ?_
  refine z_istore_n C (pc := 5) (lv' := [(0, .ref (a 1)), (1, .int 0), (2, .int (-1)), (3, .int 0)]) dX0_firstWrong_5 (Nat.le_of_ble_eq_true rfl) rfl rfl ?_
  have key6 : ∀ (fu6 : Nat) (p en : Nat), L - p < fu6 → (p ≤ L) → (SI (r 0) p en) → (scv (r 0) (L - p) p en = scv (r 0) L 0 0) → Z pP l eE (rm 2 42) sS mM aV bB mE cC D AA 5 0 0 (MQ bB (va_Qi (S := Unit) (fun q _ => q = nI (scv (r 0) L 0 0).1) (fun u t => va_P D vwCl ((fun _ => cW cI a i r) u) t.heap) AA) aV sS 0 0 AA) 6 [(0, .ref (a 1)), (1, .int (nI (krv p en))), (2, .int (drv p en)), (3, .int (nI p))] [] (cW cI a i r) := by
    intro fu6
    induction fu6 with
    | zero => intro p en hfu6; exact absurd hfu6 (Nat.not_lt_zero _)
    | succ fu6 ih6 =>
      intro p en hfu6 hpl hsi heq
      refine z_iload_n C (pc := 6) dX0_firstWrong_6 rfl ?_
      refine z_aload_n C (pc := 7) dX0_firstWrong_7 rfl ?_
      refine z_get C (pc := 8) 1 rfl rfl wf_X0 1 (by decide) rfl wl_X0_15 (v := .int (i 3)) rfl dX0_firstWrong_8 ?_
      refine z_icmp_ge C (pc := 11) (tgt := 99) dX0_firstWrong_11 (by decide) (fun c_1 => ?_) (fun c_1 => ?_)
      · refine z_aload_n C (pc := 99) dX0_firstWrong_99 rfl ?_
        refine z_get C (pc := 100) 1 rfl rfl wf_X0 1 (by decide) rfl wl_X0_15 (v := .int (i 3)) rfl dX0_firstWrong_100 ?_
        refine z_iret C (pc := 103) () dX0_firstWrong_103 ?_ rfl
        rw [hl] at c_1
        have hpe : p = L := by
          have := ge_of_nI c_1 (by omega)
          omega
        rw [hl, ← heq, hpe, Nat.sub_self]
        rfl
      · rw [hl] at c_1
        have hp : p < L := lt_of_nI c_1 (by omega)
        have hsc : scv (r 0) ((L - (p + 1)) + 1) p en = scv (r 0) L 0 0 := by rw [← heq, show L - p = (L - (p + 1)) + 1 by omega]
        refine z_aload_n C (pc := 14) dX0_firstWrong_14 rfl ?_
        refine z_iload_n C (pc := 15) dX0_firstWrong_15 rfl ?_
        refine z_calliF C (by exact fun _ => cW_ad) (runV C (wc := (cW cI a i r)) (pc := 16) (rY' := rm 1 21) (nn := 1) (As := [.int (nI p)]) (rest := []) (c_codeAt l D cI tt a i r (nI p)) (full_hC _) (full_nd _) ⟨rfl, rfl, ⟨Nat.le_of_ble_eq_true rfl, Nat.le_of_ble_eq_true rfl⟩, Nat.le_of_ble_eq_true rfl, Nat.le_of_ble_eq_true rfl⟩ wl_X0_27 wm_X0_codeAt we_X0_codeAt wi_X0 wc_X0_codeAt (by decide +kernel) rfl 1 rfl rfl rfl rfl (Nat.le_of_ble_eq_true rfl) dX0_firstWrong_16) (fun q_2 u_2 h_2 => ?_)
        have h_2 : q_2 = r 0 p := h_2.trans (atv_nI (by omega) (by decide))
        subst h_2
        refine z_ws (st' := [.int (r 0 p)]) (ws' := (cW cI a i r)) rfl rfl ?_
        refine z_istore C (pc := 19) (lv' := [(0, .ref (a 1)), (1, .int (nI (krv p en))), (2, .int (drv p en)), (3, .int (nI p)), (4, .int (r 0 p))]) dX0_firstWrong_19 (Nat.le_of_ble_eq_true rfl) rfl rfl ?_
        refine z_iload_n C (pc := 21) dX0_firstWrong_21 rfl ?_
        refine z_iconst C (pc := 22) (v := (-1)) dX0_firstWrong_22 (by decide) ?_
        refine z_icmp_eq C (pc := 23) (tgt := 53) dX0_firstWrong_23 (by decide) (fun c_3 => ?_) (fun c_3 => ?_)
        · have he0 : en = 0 := (drv_ne (by omega)).mp c_3
          subst he0
          refine z_iload C (pc := 53) dX0_firstWrong_53 rfl ?_
          refine z_bipush C (pc := 55) (v := 59) dX0_firstWrong_55 (by decide) ?_
          refine z_icmp_ne C (pc := 57) (tgt := 70) dX0_firstWrong_57 (by decide) (fun c_4 => ?_) (fun c_4 => ?_)
          · have hns : ¬ (r 0 p = 59 ∧ 2 ≤ p) := fun h => c_4 h.1
            refine z_iload C (pc := 70) dX0_firstWrong_70 rfl ?_
            refine z_calli C (isC := []) rfl (by exact fun _ => rfl) (runSN C (wc := []) (pc := 72) (rY' := rm 0 0) (nn := 1) (As := [.int (r 0 p)]) (rest := []) (c_kindOf l D cI tt (r 0 p)) rfl rfl ⟨rfl, rfl, ⟨Nat.le_of_ble_eq_true rfl, Nat.le_of_ble_eq_true rfl⟩, Nat.le_of_ble_eq_true rfl, Nat.le_of_ble_eq_true rfl⟩ wl_X0_31 ws_X3_kindOf wi_X3 wc_X3_kindOf (by decide +kernel) rfl rfl (Nat.le_of_ble_eq_true rfl) dX0_firstWrong_72) (fun r_5 u_5 h_5 => ?_)
            subst h_5
            refine z_ws (st' := [.int (kindOfv (r 0 p))]) (ws' := (cW cI a i r)) rfl rfl ?_
            refine z_iconst C (pc := 75) (v := (-1)) dX0_firstWrong_75 (by decide) ?_
            refine z_icmp_eq C (pc := 76) (tgt := 91) dX0_firstWrong_76 (by decide) (fun c_6 => ?_) (fun c_6 => ?_)
            · have hbad : gdb (r 0) p 0 = false := by
                unfold gdb
                have h59' : ¬ r 0 p = 59 ∨ ¬ 2 ≤ p := by
                  rcases Classical.em (r 0 p = 59) with h | h
                  · exact Or.inr (fun h2 => hns ⟨h, h2⟩)
                  · exact Or.inl h
                rcases h59' with h | h <;> simp [h, c_6]
              refine z_iload_n C (pc := 91) dX0_firstWrong_91 rfl ?_
              refine z_iret C (pc := 92) () dX0_firstWrong_92 ?_ rfl
              rw [← hsc, scv_f hbad]
            · have hkn : kindOfv (r 0 p) ≠ -1 := c_6
              refine z_iload_n C (pc := 79) dX0_firstWrong_79 rfl ?_
              refine z_bipush C (pc := 80) (v := 6) dX0_firstWrong_80 (by decide) ?_
              refine z_icmp_ge C (pc := 82) (tgt := 91) dX0_firstWrong_82 (by decide) (fun c_7 => ?_) (fun c_7 => ?_)
              · have hp6 : ¬ p < 6 := fun h => nI_ge (a := p) (b := 6) h (by decide) c_7
                have hbad : gdb (r 0) p 0 = false := by
                  unfold gdb
                  have h59' : ¬ r 0 p = 59 ∨ ¬ 2 ≤ p := by
                    rcases Classical.em (r 0 p = 59) with h | h
                    · exact Or.inr (fun h2 => hns ⟨h, h2⟩)
                    · exact Or.inl h
                  rcases h59' with h | h <;> simp [h, hp6]
                refine z_iload_n C (pc := 91) dX0_firstWrong_91 rfl ?_
                refine z_iret C (pc := 92) () dX0_firstWrong_92 ?_ rfl
                rw [← hsc, scv_f hbad]
              · have hp6 : p < 6 := lt_of_nI c_7 (by omega)
                have hgo : gdb (r 0) p 0 = true := by unfold gdb; simp [hp6, hkn]
                have hge : gde (r 0) p 0 = 0 := by unfold gde; rw [if_neg (by simp), if_neg hns]
                refine z_iinc C (pc := 85) (v := ((nI (krv p 0)) + 1)) (lv' := [(0, .ref (a 1)), (1, .int ((nI (krv p 0)) + 1)), (2, .int (drv p 0)), (3, .int (nI p)), (4, .int (r 0 p))]) dX0_firstWrong_85 rfl rfl (Nat.le_of_ble_eq_true rfl) rfl rfl ?_
                refine z_goto C (pc := 88) (tgt := 93) dX0_firstWrong_88 (by decide) ?_
                refine z_iinc C (pc := 93) (v := ((nI p) + 1)) (lv' := [(0, .ref (a 1)), (1, .int ((nI (krv p 0)) + 1)), (2, .int (drv p 0)), (3, .int ((nI p) + 1)), (4, .int (r 0 p))]) dX0_firstWrong_93 rfl rfl (Nat.le_of_ble_eq_true rfl) rfl rfl ?_
                refine z_goto C (pc := 96) (tgt := 6) dX0_firstWrong_96 (by decide) ?_
                refine z_lv (lv' := [(0, .ref (a 1)), (1, .int (nI (krv (p + 1) 0))), (2, .int (drv (p + 1) 0)), (3, .int (nI (p + 1)))]) ⟨rfl, lki (by unfold krv; rw [if_pos rfl, if_pos rfl]; exact nI_1 p), rfl, lki (nI_1 p), trivial⟩ ?_
                exact ih6 (p + 1) 0 (by omega) hp (by have := SI_s hsi hgo; rw [hge] at this; exact this) (by rw [scv_t hgo, hge] at hsc; exact hsc)
          · have h59 : r 0 p = 59 := c_4
            refine z_iload_n C (pc := 60) dX0_firstWrong_60 rfl ?_
            refine z_iconst C (pc := 61) (v := 2) dX0_firstWrong_61 (by decide) ?_
            refine z_icmp_lt C (pc := 62) (tgt := 70) dX0_firstWrong_62 (by decide) (fun c_8 => ?_) (fun c_8 => ?_)
            · have hns : ¬ (r 0 p = 59 ∧ 2 ≤ p) := fun h => nI_nlt (a := p) (b := 2) h.2 (by omega) c_8
              refine z_iload C (pc := 70) dX0_firstWrong_70 rfl ?_
              refine z_calli C (isC := []) rfl (by exact fun _ => rfl) (runSN C (wc := []) (pc := 72) (rY' := rm 0 0) (nn := 1) (As := [.int (r 0 p)]) (rest := []) (c_kindOf l D cI tt (r 0 p)) rfl rfl ⟨rfl, rfl, ⟨Nat.le_of_ble_eq_true rfl, Nat.le_of_ble_eq_true rfl⟩, Nat.le_of_ble_eq_true rfl, Nat.le_of_ble_eq_true rfl⟩ wl_X0_31 ws_X3_kindOf wi_X3 wc_X3_kindOf (by decide +kernel) rfl rfl (Nat.le_of_ble_eq_true rfl) dX0_firstWrong_72) (fun r_9 u_9 h_9 => ?_)
              subst h_9
              refine z_ws (st' := [.int (kindOfv (r 0 p))]) (ws' := (cW cI a i r)) rfl rfl ?_
              refine z_iconst C (pc := 75) (v := (-1)) dX0_firstWrong_75 (by decide) ?_
              refine z_icmp_eq C (pc := 76) (tgt := 91) dX0_firstWrong_76 (by decide) (fun c_10 => ?_) (fun c_10 => ?_)
              · have hbad : gdb (r 0) p 0 = false := by
                  unfold gdb
                  have h59' : ¬ r 0 p = 59 ∨ ¬ 2 ≤ p := by
                    rcases Classical.em (r 0 p = 59) with h | h
                    · exact Or.inr (fun h2 => hns ⟨h, h2⟩)
                    · exact Or.inl h
                  rcases h59' with h | h <;> simp [h, c_10]
                refine z_iload_n C (pc := 91) dX0_firstWrong_91 rfl ?_
                refine z_iret C (pc := 92) () dX0_firstWrong_92 ?_ rfl
                rw [← hsc, scv_f hbad]
              · have hkn : kindOfv (r 0 p) ≠ -1 := c_10
                refine z_iload_n C (pc := 79) dX0_firstWrong_79 rfl ?_
                refine z_bipush C (pc := 80) (v := 6) dX0_firstWrong_80 (by decide) ?_
                refine z_icmp_ge C (pc := 82) (tgt := 91) dX0_firstWrong_82 (by decide) (fun c_11 => ?_) (fun c_11 => ?_)
                · have hp6 : ¬ p < 6 := fun h => nI_ge (a := p) (b := 6) h (by decide) c_11
                  have hbad : gdb (r 0) p 0 = false := by
                    unfold gdb
                    have h59' : ¬ r 0 p = 59 ∨ ¬ 2 ≤ p := by
                      rcases Classical.em (r 0 p = 59) with h | h
                      · exact Or.inr (fun h2 => hns ⟨h, h2⟩)
                      · exact Or.inl h
                    rcases h59' with h | h <;> simp [h, hp6]
                  refine z_iload_n C (pc := 91) dX0_firstWrong_91 rfl ?_
                  refine z_iret C (pc := 92) () dX0_firstWrong_92 ?_ rfl
                  rw [← hsc, scv_f hbad]
                · have hp6 : p < 6 := lt_of_nI c_11 (by omega)
                  have hgo : gdb (r 0) p 0 = true := by unfold gdb; simp [hp6, hkn]
                  have hge : gde (r 0) p 0 = 0 := by unfold gde; rw [if_neg (by simp), if_neg hns]
                  refine z_iinc C (pc := 85) (v := ((nI (krv p 0)) + 1)) (lv' := [(0, .ref (a 1)), (1, .int ((nI (krv p 0)) + 1)), (2, .int (drv p 0)), (3, .int (nI p)), (4, .int (r 0 p))]) dX0_firstWrong_85 rfl rfl (Nat.le_of_ble_eq_true rfl) rfl rfl ?_
                  refine z_goto C (pc := 88) (tgt := 93) dX0_firstWrong_88 (by decide) ?_
                  refine z_iinc C (pc := 93) (v := ((nI p) + 1)) (lv' := [(0, .ref (a 1)), (1, .int ((nI (krv p 0)) + 1)), (2, .int (drv p 0)), (3, .int ((nI p) + 1)), (4, .int (r 0 p))]) dX0_firstWrong_93 rfl rfl (Nat.le_of_ble_eq_true rfl) rfl rfl ?_
                  refine z_goto C (pc := 96) (tgt := 6) dX0_firstWrong_96 (by decide) ?_
                  refine z_lv (lv' := [(0, .ref (a 1)), (1, .int (nI (krv (p + 1) 0))), (2, .int (drv (p + 1) 0)), (3, .int (nI (p + 1)))]) ⟨rfl, lki (by unfold krv; rw [if_pos rfl, if_pos rfl]; exact nI_1 p), rfl, lki (nI_1 p), trivial⟩ ?_
                  exact ih6 (p + 1) 0 (by omega) hp (by have := SI_s hsi hgo; rw [hge] at this; exact this) (by rw [scv_t hgo, hge] at hsc; exact hsc)
            · have h2p : 2 ≤ p := Nat.le_of_not_lt (fun h => c_8 (nI_lt h (by decide)))
              have hgo : gdb (r 0) p 0 = true := by unfold gdb; simp [h59, h2p]
              have hge : gde (r 0) p 0 = p + 1 := by unfold gde; simp [h59, h2p]
              refine z_iconst C (pc := 65) (v := 0) dX0_firstWrong_65 (by decide) ?_
              refine z_istore_n C (pc := 66) (lv' := [(0, .ref (a 1)), (1, .int (nI (krv p 0))), (2, .int 0), (3, .int (nI p)), (4, .int (r 0 p))]) dX0_firstWrong_66 (Nat.le_of_ble_eq_true rfl) rfl rfl ?_
              refine z_goto C (pc := 67) (tgt := 93) dX0_firstWrong_67 (by decide) ?_
              refine z_iinc C (pc := 93) (v := ((nI p) + 1)) (lv' := [(0, .ref (a 1)), (1, .int (nI (krv p 0))), (2, .int 0), (3, .int ((nI p) + 1)), (4, .int (r 0 p))]) dX0_firstWrong_93 rfl rfl (Nat.le_of_ble_eq_true rfl) rfl rfl ?_
              refine z_goto C (pc := 96) (tgt := 6) dX0_firstWrong_96 (by decide) ?_
              refine z_lv (lv' := [(0, .ref (a 1)), (1, .int (nI (krv (p + 1) (p + 1)))), (2, .int (drv (p + 1) (p + 1))), (3, .int (nI (p + 1)))]) ⟨rfl, lki (by unfold krv; rw [if_pos rfl, if_neg (by omega)]; rfl), lki (by unfold drv; rw [if_neg (by omega), Nat.sub_self]; rfl), lki (nI_1 p), trivial⟩ ?_
              exact ih6 (p + 1) (p + 1) (by omega) hp (by have := SI_s hsi hgo; rw [hge] at this; exact this) (by rw [scv_t hgo, hge] at hsc; exact hsc)
        · have he1 : en ≠ 0 := fun h => c_3 ((drv_ne (by omega)).mpr h)
          have hs2 := hsi.2.1 he1
          have hdr : drv p en = nI (p - en) := if_neg he1
          refine z_iload_n C (pc := 26) dX0_firstWrong_26 rfl ?_
          refine z_iconst C (pc := 27) (v := 5) dX0_firstWrong_27 (by decide) ?_
          refine z_icmp_eq C (pc := 28) (tgt := 45) dX0_firstWrong_28 (by decide) (fun c_12 => ?_) (fun c_12 => ?_)
          · have h5 : p - en = 5 := by rw [hdr] at c_12; exact (nI_eq (b := 5) (by omega) (by decide)).mp c_12
            have hbad : gdb (r 0) p en = false := by
              unfold gdb
              rw [if_pos he1]
              simp [show ¬ p < en + 5 by omega]
            refine z_iload_n C (pc := 45) dX0_firstWrong_45 rfl ?_
            refine z_iret C (pc := 46) () dX0_firstWrong_46 ?_ rfl
            rw [← hsc, scv_f hbad]
          · have h5 : p < en + 5 := by
              have : p - en ≠ 5 := fun h => c_12 (by rw [hdr, h]; rfl)
              omega
            refine z_iload C (pc := 31) dX0_firstWrong_31 rfl ?_
            refine z_bipush C (pc := 33) (v := 48) dX0_firstWrong_33 (by decide) ?_
            refine z_icmp_lt C (pc := 35) (tgt := 45) dX0_firstWrong_35 (by decide) (fun c_13 => ?_) (fun c_13 => ?_)
            · have hbad : gdb (r 0) p en = false := by
                unfold gdb
                rw [if_pos he1]
                simp [i_nle.mpr c_13]
              refine z_iload_n C (pc := 45) dX0_firstWrong_45 rfl ?_
              refine z_iret C (pc := 46) () dX0_firstWrong_46 ?_ rfl
              rw [← hsc, scv_f hbad]
            · have h48 := i_nlt.mp c_13
              refine z_iload C (pc := 38) dX0_firstWrong_38 rfl ?_
              refine z_bipush C (pc := 40) (v := 57) dX0_firstWrong_40 (by decide) ?_
              refine z_icmp_le C (pc := 42) (tgt := 47) dX0_firstWrong_42 (by decide) (fun c_14 => ?_) (fun c_14 => ?_)
              · have hgo : gdb (r 0) p en = true := by
                  unfold gdb
                  rw [if_pos he1]
                  simp [h5, h48, c_14]
                have hge : gde (r 0) p en = en := if_pos he1
                refine z_iinc C (pc := 47) (v := ((drv p en) + 1)) (lv' := [(0, .ref (a 1)), (1, .int (nI (krv p en))), (2, .int ((drv p en) + 1)), (3, .int (nI p)), (4, .int (r 0 p))]) dX0_firstWrong_47 rfl rfl (Nat.le_of_ble_eq_true rfl) rfl rfl ?_
                refine z_goto C (pc := 50) (tgt := 93) dX0_firstWrong_50 (by decide) ?_
                refine z_iinc C (pc := 93) (v := ((nI p) + 1)) (lv' := [(0, .ref (a 1)), (1, .int (nI (krv p en))), (2, .int ((drv p en) + 1)), (3, .int ((nI p) + 1)), (4, .int (r 0 p))]) dX0_firstWrong_93 rfl rfl (Nat.le_of_ble_eq_true rfl) rfl rfl ?_
                refine z_goto C (pc := 96) (tgt := 6) dX0_firstWrong_96 (by decide) ?_
                refine z_lv (lv' := [(0, .ref (a 1)), (1, .int (nI (krv (p + 1) en))), (2, .int (drv (p + 1) en)), (3, .int (nI (p + 1)))]) ⟨rfl, lki (by unfold krv; rw [if_neg he1, if_neg he1]), lki (by rw [hdr, nI_1]; unfold drv; rw [if_neg he1, show p + 1 - en = p - en + 1 by omega]), lki (nI_1 p), trivial⟩ ?_
                exact ih6 (p + 1) en (by omega) hp (by have := SI_s hsi hgo; rw [hge] at this; exact this) (by rw [scv_t hgo, hge] at hsc; exact hsc)
              · have hbad : gdb (r 0) p en = false := by
                  unfold gdb
                  rw [if_pos he1]
                  simp [c_14]
                refine z_iload_n C (pc := 45) dX0_firstWrong_45 rfl ?_
                refine z_iret C (pc := 46) () dX0_firstWrong_46 ?_ rfl
                rw [← hsc, scv_f hbad]
  refine z_lv (lv' := [(0, .ref (a 1)), (1, .int (nI (krv 0 0))), (2, .int (drv 0 0)), (3, .int (nI 0))]) ⟨rfl, rfl, rfl, rfl, trivial⟩ ?_
  exact key6 (_ + 1) 0 0 (Nat.lt_succ_self _) (Nat.zero_le _) SI_0 rfl
end
section
theorem camp_at {f : Nat → Int32} {L : Nat} (hL : L ≤ 15) (h : (scv f L 0 0).1 = L) : atv 15 f (nI L - 5 - 1) = 59 ↔ ((scv f L 0 0).2 ≠ 0 ∧ L = (scv f L 0 0).2 + 5) := by
  have hs := scv_SI (f := f) L 0 0 SI_0
  rw [h] at hs
  obtain ⟨h1, h2, h3, -⟩ := hs
  by_cases h6 : 6 ≤ L
  · have e : nI L - 5 - 1 = nI (L - 6) := by
      rw [show (5 : Int32) = nI 5 from rfl, pk_sub (by omega), show (1 : Int32) = nI 1 from rfl, pk_sub (by omega)]
      rfl
    rw [e, atv_nI (by omega) (by decide), h1 (L - 6) (by omega)]
    omega
  · have hneg : (nI L - 5 - 1) < 0 := (show ∀ L, L < 6 → nI L - 5 - 1 < 0 by decide +kernel) L (by omega)
    have e : atv 15 f (nI L - 5 - 1) = 0 := by unfold atv; rw [if_pos hneg]
    rw [e]
    refine ⟨fun h => absurd h (by decide), fun h => ?_⟩
    have := h2 h.1
    omega
theorem crn_eq {t : Nat} (h : t < 2147483648) : nI t >>> ((16 : Int32) &&& 31) - nI t >>> ((16 : Int32) &&& 31) / 3 * 3 = nI (crn t) := by
  have e : nI t >>> ((16 : Int32) &&& 31) = nI (t / 2 ^ 16) := pk_shrN h _ 16 (by decide)
  rw [e]
  have e2 := pk_rem (a := t / 2 ^ 16) (d := 3) (by omega) (by decide) (by decide)
  have e3 : (3 : Int32) = nI 3 := rfl
  rw [e3, e2]
  unfold crn
  rw [show (2 : Nat) ^ 16 = 65536 from rfl]
theorem crw_s (j : Nat) (z : Nat × (Nat → Nat)) : crw (j + 1) z = crp 5 (crw j z) := rfl
theorem crp_1 (k : Nat) (z : Nat × (Nat → Nat)) : (crp (k + 1) z).1 = nxt (crp k z).1 := rfl
theorem crp_2 (k : Nat) (z : Nat × (Nat → Nat)) : (crp (k + 1) z).2 = upN (crp k z).2 k ((crp k z).2 k - crn (nxt (crp k z).1)) := rfl
def CRO (z : Nat × (Nat → Nat)) : Prop := z.1 < 2147483648 ∧ ∀ k, k < 5 → z.2 k ≤ 9
theorem crp_ok {z : Nat × (Nat → Nat)} (h : CRO z) : ∀ k, CRO (crp k z)
  | 0 => h
  | k + 1 => by
    have h1 := crp_ok h k
    refine ⟨nxt_lt _, fun q hq => ?_⟩
    show upN _ k _ q ≤ 9
    unfold upN
    by_cases e : q = k
    · rw [if_pos e]; exact Nat.le_trans (Nat.sub_le _ _) (h1.2 k (by omega))
    · rw [if_neg e]; exact h1.2 q hq
theorem crw_ok {t : Nat} {c : Nat → Nat} (ht : t < 2147483648) (hc : ∀ k, k < 5 → c k ≤ 9) : ∀ j, CRO (crw j (t, c))
  | 0 => ⟨ht, hc⟩
  | j + 1 => crp_ok (crw_ok ht hc j) 5
set_option maxHeartbeats 4000000 in
set_option maxRecDepth 100000 in
theorem c_begin (l : Launch) (D : va_G) (cI : ClassId) (tt : Nat × Nat × Nat) (a : Nat → Nat) (i : Nat → Int32) (r : Nat → Nat → Int32) (x : Int32) : MetV (S := ((Nat → Int32) × (Nat → Nat → Int32))) l yX2_begin cX2_begin 2 none (rm 0 0) D cI tt [.ref (a 6), .int x] (cW cI a i r) (fun u => u = ((upd (upd (upd (upd i 10 x) 11 0) 12 0) 13 0), r)) (fun u => cW cI a u.1 u.2) := by
  refine met_ofV (by decide) (Nat.le_of_ble_eq_true rfl) ?_
  intro pP eE sS mM aV bB mE cC AA C hin
  refine z_conv (lv' := [(0, .ref (a 6)), (1, .int x)]) ⟨rfl, rfl, trivial⟩ rfl rfl ?_
  refine z_aload_n C (pc := 0) dX2_begin_0 rfl ?_
  refine z_iload_n C (pc := 1) dX2_begin_1 rfl ?_
  refine z_put C (pc := 2) 6 rfl rfl wf_X2 0 (by decide) rfl tyX2 tyX2_ok nmX2 rfl rfl rfl (Nat.le_of_ble_eq_true rfl) (ws' := (cW cI a (upd i 10 x) r)) rfl wl_X2_27 dX2_begin_2 ?_
  refine z_aload_n C (pc := 5) dX2_begin_5 rfl ?_
  refine z_iconst C (pc := 6) (v := 0) dX2_begin_6 (by decide) ?_
  refine z_put C (pc := 7) 6 rfl rfl wf_X2 2 (by decide) rfl tyX2 tyX2_ok nmX2 rfl rfl rfl (Nat.le_of_ble_eq_true rfl) (ws' := (cW cI a (upd (upd i 10 x) 11 0) r)) rfl wl_X2_31 dX2_begin_7 ?_
  refine z_aload_n C (pc := 10) dX2_begin_10 rfl ?_
  refine z_iconst C (pc := 11) (v := 0) dX2_begin_11 (by decide) ?_
  refine z_put C (pc := 12) 6 rfl rfl wf_X2 3 (by decide) rfl tyX2 tyX2_ok nmX2 rfl rfl rfl (Nat.le_of_ble_eq_true rfl) (ws' := (cW cI a (upd (upd (upd i 10 x) 11 0) 12 0) r)) rfl wl_X2_34 dX2_begin_12 ?_
  refine z_aload_n C (pc := 15) dX2_begin_15 rfl ?_
  refine z_iconst C (pc := 16) (v := 0) dX2_begin_16 (by decide) ?_
  refine z_put C (pc := 17) 6 rfl rfl wf_X2 4 (by decide) rfl tyX2 tyX2_ok nmX2 rfl rfl rfl (Nat.le_of_ble_eq_true rfl) (ws' := (cW cI a (upd (upd (upd (upd i 10 x) 11 0) 12 0) 13 0) r)) rfl wl_X2_37 dX2_begin_17 ?_
  refine z_vret C (pc := 20) ((upd (upd (upd (upd i 10 x) 11 0) 12 0) 13 0), r) dX2_begin_20 ?_ rfl
  rfl

set_option maxHeartbeats 4000000 in
set_option maxRecDepth 100000 in
theorem c_note (l : Launch) (D : va_G) (cI : ClassId) (tt : Nat × Nat × Nat) (a : Nat → Nat) (i : Nat → Int32) (r : Nat → Nat → Int32) (x y f h : Int32) : MetV (S := ((Nat → Int32) × (Nat → Nat → Int32))) l yX2_note cX2_note 5 none (rm 1 22) D cI tt [.ref (a 6), .int x, .int y, .int f, .int h] (cW cI a i r) (fun u => u = (upd i 13 (i 13 + 1), va_up (va_up (va_up (va_up r 4 (putv 6 (r 4) (i 13) x)) 5 (putv 6 (r 5) (i 13) y)) 6 (putv 6 (r 6) (i 13) f)) 7 (putv 6 (r 7) (i 13) (if h = 0 then 0 else 1)))) (fun u => cW cI a u.1 u.2) := by
  refine met_ofV (by decide) (Nat.le_of_ble_eq_true rfl) ?_
  intro pP eE sS mM aV bB mE cC AA C hin
  refine z_conv (lv' := [(0, .ref (a 6)), (1, .int x), (2, .int y), (3, .int f), (4, .int h)]) ⟨rfl, rfl, rfl, rfl, rfl, trivial⟩ rfl rfl ?_
  refine z_aload_n C (pc := 0) dX2_note_0 rfl ?_
  refine z_get C (pc := 1) 6 rfl rfl wf_X2 5 (by decide) rfl wl_X2_15 (v := .ref (a 8)) rfl dX2_note_1 ?_
  refine z_aload_n C (pc := 4) dX2_note_4 rfl ?_
  refine z_get C (pc := 5) 6 rfl rfl wf_X2 4 (by decide) rfl wl_X2_37 (v := .int (i 13)) rfl dX2_note_5 ?_
  refine z_iload_n C (pc := 8) dX2_note_8 rfl ?_
  refine z_callv C (isC := [8]) rfl (by exact fun _ => rfl) (runSN C (wc := [(a 8, .inl (cI, 6, .inl (r 4)))]) (pc := 9) (rY' := rm 0 0) (nn := 3) (As := [.ref (a 8), .int (i 13), .int x]) (rest := []) (c_put l D cI tt (a 8) 6 (r 4) (i 13) x (by decide)) rfl rfl ⟨rfl, rfl, ⟨Nat.le_of_ble_eq_true rfl, Nat.le_of_ble_eq_true rfl⟩, Nat.le_of_ble_eq_true rfl, Nat.le_of_ble_eq_true rfl⟩ wl_X2_40 ws_X3_put wi_X3 wc_X3_put (by decide +kernel) rfl rfl (Nat.le_of_ble_eq_true rfl) dX2_note_9) (fun u_1 h_1 => ?_)
  subst h_1
  refine z_ws (st' := []) (ws' := (cW cI a i (va_up r 4 (putv 6 (r 4) (i 13) x)))) rfl rfl ?_
  refine z_aload_n C (pc := 12) dX2_note_12 rfl ?_
  refine z_get C (pc := 13) 6 rfl rfl wf_X2 6 (by decide) rfl wl_X2_18 (v := .ref (a 9)) rfl dX2_note_13 ?_
  refine z_aload_n C (pc := 16) dX2_note_16 rfl ?_
  refine z_get C (pc := 17) 6 rfl rfl wf_X2 4 (by decide) rfl wl_X2_37 (v := .int (i 13)) rfl dX2_note_17 ?_
  refine z_iload_n C (pc := 20) dX2_note_20 rfl ?_
  refine z_callv C (isC := [9]) rfl (by exact fun _ => rfl) (runSN C (wc := [(a 9, .inl (cI, 6, .inl (r 5)))]) (pc := 21) (rY' := rm 0 0) (nn := 3) (As := [.ref (a 9), .int (i 13), .int y]) (rest := []) (c_put l D cI tt (a 9) 6 (r 5) (i 13) y (by decide)) rfl rfl ⟨rfl, rfl, ⟨Nat.le_of_ble_eq_true rfl, Nat.le_of_ble_eq_true rfl⟩, Nat.le_of_ble_eq_true rfl, Nat.le_of_ble_eq_true rfl⟩ wl_X2_40 ws_X3_put wi_X3 wc_X3_put (by decide +kernel) rfl rfl (Nat.le_of_ble_eq_true rfl) dX2_note_21) (fun u_2 h_2 => ?_)
  subst h_2
  refine z_ws (st' := []) (ws' := (cW cI a i (va_up (va_up r 4 (putv 6 (r 4) (i 13) x)) 5 (putv 6 (r 5) (i 13) y)))) rfl rfl ?_
  refine z_aload_n C (pc := 24) dX2_note_24 rfl ?_
  refine z_get C (pc := 25) 6 rfl rfl wf_X2 7 (by decide) rfl wl_X2_21 (v := .ref (a 10)) rfl dX2_note_25 ?_
  refine z_aload_n C (pc := 28) dX2_note_28 rfl ?_
  refine z_get C (pc := 29) 6 rfl rfl wf_X2 4 (by decide) rfl wl_X2_37 (v := .int (i 13)) rfl dX2_note_29 ?_
  refine z_iload_n C (pc := 32) dX2_note_32 rfl ?_
  refine z_callv C (isC := [10]) rfl (by exact fun _ => rfl) (runSN C (wc := [(a 10, .inl (cI, 6, .inl (r 6)))]) (pc := 33) (rY' := rm 0 0) (nn := 3) (As := [.ref (a 10), .int (i 13), .int f]) (rest := []) (c_put l D cI tt (a 10) 6 (r 6) (i 13) f (by decide)) rfl rfl ⟨rfl, rfl, ⟨Nat.le_of_ble_eq_true rfl, Nat.le_of_ble_eq_true rfl⟩, Nat.le_of_ble_eq_true rfl, Nat.le_of_ble_eq_true rfl⟩ wl_X2_40 ws_X3_put wi_X3 wc_X3_put (by decide +kernel) rfl rfl (Nat.le_of_ble_eq_true rfl) dX2_note_33) (fun u_3 h_3 => ?_)
  subst h_3
  refine z_ws (st' := []) (ws' := (cW cI a i (va_up (va_up (va_up r 4 (putv 6 (r 4) (i 13) x)) 5 (putv 6 (r 5) (i 13) y)) 6 (putv 6 (r 6) (i 13) f)))) rfl rfl ?_
  refine z_aload_n C (pc := 36) dX2_note_36 rfl ?_
  refine z_get C (pc := 37) 6 rfl rfl wf_X2 8 (by decide) rfl wl_X2_24 (v := .ref (a 11)) rfl dX2_note_37 ?_
  refine z_aload_n C (pc := 40) dX2_note_40 rfl ?_
  refine z_get C (pc := 41) 6 rfl rfl wf_X2 4 (by decide) rfl wl_X2_37 (v := .int (i 13)) rfl dX2_note_41 ?_
  refine z_iload C (pc := 44) dX2_note_44 rfl ?_
  refine z_if_eq C (pc := 46) (tgt := 53) dX2_note_46 (by decide) (fun c_4 => ?_) (fun c_4 => ?_)
  · refine z_iconst C (pc := 53) (v := 0) dX2_note_53 (by decide) ?_
    refine z_callv C (isC := [11]) rfl (by exact fun _ => rfl) (runSN C (wc := [(a 11, .inl (cI, 6, .inl (r 7)))]) (pc := 54) (rY' := rm 0 0) (nn := 3) (As := [.ref (a 11), .int (i 13), .int 0]) (rest := []) (c_put l D cI tt (a 11) 6 (r 7) (i 13) 0 (by decide)) rfl rfl ⟨rfl, rfl, ⟨Nat.le_of_ble_eq_true rfl, Nat.le_of_ble_eq_true rfl⟩, Nat.le_of_ble_eq_true rfl, Nat.le_of_ble_eq_true rfl⟩ wl_X2_40 ws_X3_put wi_X3 wc_X3_put (by decide +kernel) rfl rfl (Nat.le_of_ble_eq_true rfl) dX2_note_54) (fun u_5 h_5 => ?_)
    subst h_5
    refine z_ws (st' := []) (ws' := (cW cI a i (va_up (va_up (va_up (va_up r 4 (putv 6 (r 4) (i 13) x)) 5 (putv 6 (r 5) (i 13) y)) 6 (putv 6 (r 6) (i 13) f)) 7 (putv 6 (r 7) (i 13) 0)))) rfl rfl ?_
    refine z_aload_n C (pc := 57) dX2_note_57 rfl ?_
    refine z_dup C (pc := 58) dX2_note_58 rfl ?_
    refine z_get C (pc := 59) 6 rfl rfl wf_X2 4 (by decide) rfl wl_X2_37 (v := .int (i 13)) rfl dX2_note_59 ?_
    refine z_iconst C (pc := 62) (v := 1) dX2_note_62 (by decide) ?_
    refine z_iadd C (pc := 63) dX2_note_63 ?_
    refine z_put C (pc := 64) 6 rfl rfl wf_X2 4 (by decide) rfl tyX2 tyX2_ok nmX2 rfl rfl rfl (Nat.le_of_ble_eq_true rfl) (ws' := (cW cI a (upd i 13 ((i 13) + 1)) (va_up (va_up (va_up (va_up r 4 (putv 6 (r 4) (i 13) x)) 5 (putv 6 (r 5) (i 13) y)) 6 (putv 6 (r 6) (i 13) f)) 7 (putv 6 (r 7) (i 13) 0)))) rfl wl_X2_37 dX2_note_64 ?_
    refine z_vret C (pc := 67) ((upd i 13 ((i 13) + 1)), (va_up (va_up (va_up (va_up r 4 (putv 6 (r 4) (i 13) x)) 5 (putv 6 (r 5) (i 13) y)) 6 (putv 6 (r 6) (i 13) f)) 7 (putv 6 (r 7) (i 13) 0))) dX2_note_67 ?_ rfl
    rw [if_pos c_4]
  · refine z_iconst C (pc := 49) (v := 1) dX2_note_49 (by decide) ?_
    refine z_goto C (pc := 50) (tgt := 54) dX2_note_50 (by decide) ?_
    refine z_callv C (isC := [11]) rfl (by exact fun _ => rfl) (runSN C (wc := [(a 11, .inl (cI, 6, .inl (r 7)))]) (pc := 54) (rY' := rm 0 0) (nn := 3) (As := [.ref (a 11), .int (i 13), .int 1]) (rest := []) (c_put l D cI tt (a 11) 6 (r 7) (i 13) 1 (by decide)) rfl rfl ⟨rfl, rfl, ⟨Nat.le_of_ble_eq_true rfl, Nat.le_of_ble_eq_true rfl⟩, Nat.le_of_ble_eq_true rfl, Nat.le_of_ble_eq_true rfl⟩ wl_X2_40 ws_X3_put wi_X3 wc_X3_put (by decide +kernel) rfl rfl (Nat.le_of_ble_eq_true rfl) dX2_note_54) (fun u_6 h_6 => ?_)
    subst h_6
    refine z_ws (st' := []) (ws' := (cW cI a i (va_up (va_up (va_up (va_up r 4 (putv 6 (r 4) (i 13) x)) 5 (putv 6 (r 5) (i 13) y)) 6 (putv 6 (r 6) (i 13) f)) 7 (putv 6 (r 7) (i 13) 1)))) rfl rfl ?_
    refine z_aload_n C (pc := 57) dX2_note_57 rfl ?_
    refine z_dup C (pc := 58) dX2_note_58 rfl ?_
    refine z_get C (pc := 59) 6 rfl rfl wf_X2 4 (by decide) rfl wl_X2_37 (v := .int (i 13)) rfl dX2_note_59 ?_
    refine z_iconst C (pc := 62) (v := 1) dX2_note_62 (by decide) ?_
    refine z_iadd C (pc := 63) dX2_note_63 ?_
    refine z_put C (pc := 64) 6 rfl rfl wf_X2 4 (by decide) rfl tyX2 tyX2_ok nmX2 rfl rfl rfl (Nat.le_of_ble_eq_true rfl) (ws' := (cW cI a (upd i 13 ((i 13) + 1)) (va_up (va_up (va_up (va_up r 4 (putv 6 (r 4) (i 13) x)) 5 (putv 6 (r 5) (i 13) y)) 6 (putv 6 (r 6) (i 13) f)) 7 (putv 6 (r 7) (i 13) 1)))) rfl wl_X2_37 dX2_note_64 ?_
    refine z_vret C (pc := 67) ((upd i 13 ((i 13) + 1)), (va_up (va_up (va_up (va_up r 4 (putv 6 (r 4) (i 13) x)) 5 (putv 6 (r 5) (i 13) y)) 6 (putv 6 (r 6) (i 13) f)) 7 (putv 6 (r 7) (i 13) 1))) dX2_note_67 ?_ rfl
    rw [if_neg c_4]

set_option maxHeartbeats 4000000 in
set_option maxRecDepth 100000 in
theorem c_takeNow (l : Launch) (D : va_G) (cI : ClassId) (tt : Nat × Nat × Nat) (a : Nat → Nat) (i : Nat → Int32) (r : Nat → Nat → Int32) : MetV (S := ((Nat → Int32) × (Nat → Nat → Int32))) l yX2_takeFrom cX2_takeFrom 2 none (rm 2 44) D cI tt [.ref (a 6), .ref (a 12)] (cW cI a i r) (fun u => u = ((upd (upd (upd (upd i 10 (i 14)) 11 (i 15)) 12 (i 16)) 13 (i 17)), (va_up (va_up (va_up (va_up (va_up r 3 (cpv 5 (r 8) 5 (r 3) 5)) 4 (cpv 6 (r 9) 6 (r 4) 6)) 5 (cpv 6 (r 10) 6 (r 5) 6)) 6 (cpv 6 (r 11) 6 (r 6) 6)) 7 (cpv 6 (r 12) 6 (r 7) 6)))) (fun u => cW cI a u.1 u.2) := by
  refine met_ofV (by decide) (Nat.le_of_ble_eq_true rfl) ?_
  intro pP eE sS mM aV bB mE cC AA C hin
  refine z_conv (lv' := [(0, .ref (a 6)), (1, .ref (a 12))]) ⟨rfl, rfl, trivial⟩ rfl rfl ?_
  refine z_aload_n C (pc := 0) dX2_takeFrom_0 rfl ?_
  refine z_ifnonnull C (pc := 1) (tgt := 5) dX2_takeFrom_1 (by decide) ?_
  refine z_aload_n C (pc := 5) dX2_takeFrom_5 rfl ?_
  refine z_aload_n C (pc := 6) dX2_takeFrom_6 rfl ?_
  refine z_get C (pc := 7) 12 rfl rfl wf_X2 0 (by decide) rfl wl_X2_27 (v := .int (i 14)) rfl dX2_takeFrom_7 ?_
  refine z_put C (pc := 10) 6 rfl rfl wf_X2 0 (by decide) rfl tyX2 tyX2_ok nmX2 rfl rfl rfl (Nat.le_of_ble_eq_true rfl) (ws' := (cW cI a (upd i 10 (i 14)) r)) rfl wl_X2_27 dX2_takeFrom_10 ?_
  refine z_aload_n C (pc := 13) dX2_takeFrom_13 rfl ?_
  refine z_aload_n C (pc := 14) dX2_takeFrom_14 rfl ?_
  refine z_get C (pc := 15) 12 rfl rfl wf_X2 2 (by decide) rfl wl_X2_31 (v := .int (i 15)) rfl dX2_takeFrom_15 ?_
  refine z_put C (pc := 18) 6 rfl rfl wf_X2 2 (by decide) rfl tyX2 tyX2_ok nmX2 rfl rfl rfl (Nat.le_of_ble_eq_true rfl) (ws' := (cW cI a (upd (upd i 10 (i 14)) 11 (i 15)) r)) rfl wl_X2_31 dX2_takeFrom_18 ?_
  refine z_aload_n C (pc := 21) dX2_takeFrom_21 rfl ?_
  refine z_aload_n C (pc := 22) dX2_takeFrom_22 rfl ?_
  refine z_get C (pc := 23) 12 rfl rfl wf_X2 3 (by decide) rfl wl_X2_34 (v := .int (i 16)) rfl dX2_takeFrom_23 ?_
  refine z_put C (pc := 26) 6 rfl rfl wf_X2 3 (by decide) rfl tyX2 tyX2_ok nmX2 rfl rfl rfl (Nat.le_of_ble_eq_true rfl) (ws' := (cW cI a (upd (upd (upd i 10 (i 14)) 11 (i 15)) 12 (i 16)) r)) rfl wl_X2_34 dX2_takeFrom_26 ?_
  refine z_aload_n C (pc := 29) dX2_takeFrom_29 rfl ?_
  refine z_aload_n C (pc := 30) dX2_takeFrom_30 rfl ?_
  refine z_get C (pc := 31) 12 rfl rfl wf_X2 4 (by decide) rfl wl_X2_37 (v := .int (i 17)) rfl dX2_takeFrom_31 ?_
  refine z_put C (pc := 34) 6 rfl rfl wf_X2 4 (by decide) rfl tyX2 tyX2_ok nmX2 rfl rfl rfl (Nat.le_of_ble_eq_true rfl) (ws' := (cW cI a (upd (upd (upd (upd i 10 (i 14)) 11 (i 15)) 12 (i 16)) 13 (i 17)) r)) rfl wl_X2_37 dX2_takeFrom_34 ?_
  refine z_aload_n C (pc := 37) dX2_takeFrom_37 rfl ?_
  refine z_get C (pc := 38) 12 rfl rfl wf_X2 1 (by decide) rfl wl_X2_9 (v := .ref (a 13)) rfl dX2_takeFrom_38 ?_
  refine z_aload_n C (pc := 41) dX2_takeFrom_41 rfl ?_
  refine z_get C (pc := 42) 6 rfl rfl wf_X2 1 (by decide) rfl wl_X2_9 (v := .ref (a 7)) rfl dX2_takeFrom_42 ?_
  refine z_callv C (isC := [13, 7]) rfl (by exact fun _ => rfl) (runSN C (wc := [(a 13, .inl (cI, 5, .inl (r 8))), (a 7, .inl (cI, 5, .inl (r 3)))]) (pc := 45) (rY' := rm 1 22) (nn := 2) (As := [.ref (a 13), .ref (a 7)]) (rest := []) (c_copy l D cI tt (a 13) 5 (a 7) 5 (r 8) (r 3) (by decide) (by decide)) rfl rfl ⟨rfl, rfl, ⟨Nat.le_of_ble_eq_true rfl, Nat.le_of_ble_eq_true rfl⟩, Nat.le_of_ble_eq_true rfl, Nat.le_of_ble_eq_true rfl⟩ wl_X2_44 ws_X3_copy wi_X3 wc_X3_copy (by decide +kernel) rfl rfl (Nat.le_of_ble_eq_true rfl) dX2_takeFrom_45) (fun u_1 h_1 => ?_)
  subst h_1
  refine z_ws (st' := []) (ws' := (cW cI a (upd (upd (upd (upd i 10 (i 14)) 11 (i 15)) 12 (i 16)) 13 (i 17)) (va_up r 3 (cpv 5 (r 8) 5 (r 3) 5)))) rfl rfl ?_
  refine z_aload_n C (pc := 48) dX2_takeFrom_48 rfl ?_
  refine z_get C (pc := 49) 12 rfl rfl wf_X2 5 (by decide) rfl wl_X2_15 (v := .ref (a 14)) rfl dX2_takeFrom_49 ?_
  refine z_aload_n C (pc := 52) dX2_takeFrom_52 rfl ?_
  refine z_get C (pc := 53) 6 rfl rfl wf_X2 5 (by decide) rfl wl_X2_15 (v := .ref (a 8)) rfl dX2_takeFrom_53 ?_
  refine z_callv C (isC := [14, 8]) rfl (by exact fun _ => rfl) (runSN C (wc := [(a 14, .inl (cI, 6, .inl (r 9))), (a 8, .inl (cI, 6, .inl (r 4)))]) (pc := 56) (rY' := rm 1 22) (nn := 2) (As := [.ref (a 14), .ref (a 8)]) (rest := []) (c_copy l D cI tt (a 14) 6 (a 8) 6 (r 9) (r 4) (by decide) (by decide)) rfl rfl ⟨rfl, rfl, ⟨Nat.le_of_ble_eq_true rfl, Nat.le_of_ble_eq_true rfl⟩, Nat.le_of_ble_eq_true rfl, Nat.le_of_ble_eq_true rfl⟩ wl_X2_44 ws_X3_copy wi_X3 wc_X3_copy (by decide +kernel) rfl rfl (Nat.le_of_ble_eq_true rfl) dX2_takeFrom_56) (fun u_2 h_2 => ?_)
  subst h_2
  refine z_ws (st' := []) (ws' := (cW cI a (upd (upd (upd (upd i 10 (i 14)) 11 (i 15)) 12 (i 16)) 13 (i 17)) (va_up (va_up r 3 (cpv 5 (r 8) 5 (r 3) 5)) 4 (cpv 6 (r 9) 6 (r 4) 6)))) rfl rfl ?_
  refine z_aload_n C (pc := 59) dX2_takeFrom_59 rfl ?_
  refine z_get C (pc := 60) 12 rfl rfl wf_X2 6 (by decide) rfl wl_X2_18 (v := .ref (a 15)) rfl dX2_takeFrom_60 ?_
  refine z_aload_n C (pc := 63) dX2_takeFrom_63 rfl ?_
  refine z_get C (pc := 64) 6 rfl rfl wf_X2 6 (by decide) rfl wl_X2_18 (v := .ref (a 9)) rfl dX2_takeFrom_64 ?_
  refine z_callv C (isC := [15, 9]) rfl (by exact fun _ => rfl) (runSN C (wc := [(a 15, .inl (cI, 6, .inl (r 10))), (a 9, .inl (cI, 6, .inl (r 5)))]) (pc := 67) (rY' := rm 1 22) (nn := 2) (As := [.ref (a 15), .ref (a 9)]) (rest := []) (c_copy l D cI tt (a 15) 6 (a 9) 6 (r 10) (r 5) (by decide) (by decide)) rfl rfl ⟨rfl, rfl, ⟨Nat.le_of_ble_eq_true rfl, Nat.le_of_ble_eq_true rfl⟩, Nat.le_of_ble_eq_true rfl, Nat.le_of_ble_eq_true rfl⟩ wl_X2_44 ws_X3_copy wi_X3 wc_X3_copy (by decide +kernel) rfl rfl (Nat.le_of_ble_eq_true rfl) dX2_takeFrom_67) (fun u_3 h_3 => ?_)
  subst h_3
  refine z_ws (st' := []) (ws' := (cW cI a (upd (upd (upd (upd i 10 (i 14)) 11 (i 15)) 12 (i 16)) 13 (i 17)) (va_up (va_up (va_up r 3 (cpv 5 (r 8) 5 (r 3) 5)) 4 (cpv 6 (r 9) 6 (r 4) 6)) 5 (cpv 6 (r 10) 6 (r 5) 6)))) rfl rfl ?_
  refine z_aload_n C (pc := 70) dX2_takeFrom_70 rfl ?_
  refine z_get C (pc := 71) 12 rfl rfl wf_X2 7 (by decide) rfl wl_X2_21 (v := .ref (a 16)) rfl dX2_takeFrom_71 ?_
  refine z_aload_n C (pc := 74) dX2_takeFrom_74 rfl ?_
  refine z_get C (pc := 75) 6 rfl rfl wf_X2 7 (by decide) rfl wl_X2_21 (v := .ref (a 10)) rfl dX2_takeFrom_75 ?_
  refine z_callv C (isC := [16, 10]) rfl (by exact fun _ => rfl) (runSN C (wc := [(a 16, .inl (cI, 6, .inl (r 11))), (a 10, .inl (cI, 6, .inl (r 6)))]) (pc := 78) (rY' := rm 1 22) (nn := 2) (As := [.ref (a 16), .ref (a 10)]) (rest := []) (c_copy l D cI tt (a 16) 6 (a 10) 6 (r 11) (r 6) (by decide) (by decide)) rfl rfl ⟨rfl, rfl, ⟨Nat.le_of_ble_eq_true rfl, Nat.le_of_ble_eq_true rfl⟩, Nat.le_of_ble_eq_true rfl, Nat.le_of_ble_eq_true rfl⟩ wl_X2_44 ws_X3_copy wi_X3 wc_X3_copy (by decide +kernel) rfl rfl (Nat.le_of_ble_eq_true rfl) dX2_takeFrom_78) (fun u_4 h_4 => ?_)
  subst h_4
  refine z_ws (st' := []) (ws' := (cW cI a (upd (upd (upd (upd i 10 (i 14)) 11 (i 15)) 12 (i 16)) 13 (i 17)) (va_up (va_up (va_up (va_up r 3 (cpv 5 (r 8) 5 (r 3) 5)) 4 (cpv 6 (r 9) 6 (r 4) 6)) 5 (cpv 6 (r 10) 6 (r 5) 6)) 6 (cpv 6 (r 11) 6 (r 6) 6)))) rfl rfl ?_
  refine z_aload_n C (pc := 81) dX2_takeFrom_81 rfl ?_
  refine z_get C (pc := 82) 12 rfl rfl wf_X2 8 (by decide) rfl wl_X2_24 (v := .ref (a 17)) rfl dX2_takeFrom_82 ?_
  refine z_aload_n C (pc := 85) dX2_takeFrom_85 rfl ?_
  refine z_get C (pc := 86) 6 rfl rfl wf_X2 8 (by decide) rfl wl_X2_24 (v := .ref (a 11)) rfl dX2_takeFrom_86 ?_
  refine z_callv C (isC := [17, 11]) rfl (by exact fun _ => rfl) (runSN C (wc := [(a 17, .inl (cI, 6, .inl (r 12))), (a 11, .inl (cI, 6, .inl (r 7)))]) (pc := 89) (rY' := rm 1 22) (nn := 2) (As := [.ref (a 17), .ref (a 11)]) (rest := []) (c_copy l D cI tt (a 17) 6 (a 11) 6 (r 12) (r 7) (by decide) (by decide)) rfl rfl ⟨rfl, rfl, ⟨Nat.le_of_ble_eq_true rfl, Nat.le_of_ble_eq_true rfl⟩, Nat.le_of_ble_eq_true rfl, Nat.le_of_ble_eq_true rfl⟩ wl_X2_44 ws_X3_copy wi_X3 wc_X3_copy (by decide +kernel) rfl rfl (Nat.le_of_ble_eq_true rfl) dX2_takeFrom_89) (fun u_5 h_5 => ?_)
  subst h_5
  refine z_ws (st' := []) (ws' := (cW cI a (upd (upd (upd (upd i 10 (i 14)) 11 (i 15)) 12 (i 16)) 13 (i 17)) (va_up (va_up (va_up (va_up (va_up r 3 (cpv 5 (r 8) 5 (r 3) 5)) 4 (cpv 6 (r 9) 6 (r 4) 6)) 5 (cpv 6 (r 10) 6 (r 5) 6)) 6 (cpv 6 (r 11) 6 (r 6) 6)) 7 (cpv 6 (r 12) 6 (r 7) 6)))) rfl rfl ?_
  refine z_vret C (pc := 92) ((upd (upd (upd (upd i 10 (i 14)) 11 (i 15)) 12 (i 16)) 13 (i 17)), (va_up (va_up (va_up (va_up (va_up r 3 (cpv 5 (r 8) 5 (r 3) 5)) 4 (cpv 6 (r 9) 6 (r 4) 6)) 5 (cpv 6 (r 10) 6 (r 5) 6)) 6 (cpv 6 (r 11) 6 (r 6) 6)) 7 (cpv 6 (r 12) 6 (r 7) 6))) dX2_takeFrom_92 ?_ rfl
  rfl

set_option maxHeartbeats 4000000 in
set_option maxRecDepth 100000 in
theorem c_takeKept (l : Launch) (D : va_G) (cI : ClassId) (tt : Nat × Nat × Nat) (a : Nat → Nat) (i : Nat → Int32) (r : Nat → Nat → Int32) : MetV (S := ((Nat → Int32) × (Nat → Nat → Int32))) l yX2_takeFrom cX2_takeFrom 2 none (rm 2 44) D cI tt [.ref (a 12), .ref (a 6)] (cW cI a i r) (fun u => u = ((upd (upd (upd (upd i 14 (i 10)) 15 (i 11)) 16 (i 12)) 17 (i 13)), (va_up (va_up (va_up (va_up (va_up r 8 (cpv 5 (r 3) 5 (r 8) 5)) 9 (cpv 6 (r 4) 6 (r 9) 6)) 10 (cpv 6 (r 5) 6 (r 10) 6)) 11 (cpv 6 (r 6) 6 (r 11) 6)) 12 (cpv 6 (r 7) 6 (r 12) 6)))) (fun u => cW cI a u.1 u.2) := by
  refine met_ofV (by decide) (Nat.le_of_ble_eq_true rfl) ?_
  intro pP eE sS mM aV bB mE cC AA C hin
  refine z_conv (lv' := [(0, .ref (a 12)), (1, .ref (a 6))]) ⟨rfl, rfl, trivial⟩ rfl rfl ?_
  refine z_aload_n C (pc := 0) dX2_takeFrom_0 rfl ?_
  refine z_ifnonnull C (pc := 1) (tgt := 5) dX2_takeFrom_1 (by decide) ?_
  refine z_aload_n C (pc := 5) dX2_takeFrom_5 rfl ?_
  refine z_aload_n C (pc := 6) dX2_takeFrom_6 rfl ?_
  refine z_get C (pc := 7) 6 rfl rfl wf_X2 0 (by decide) rfl wl_X2_27 (v := .int (i 10)) rfl dX2_takeFrom_7 ?_
  refine z_put C (pc := 10) 12 rfl rfl wf_X2 0 (by decide) rfl tyX2 tyX2_ok nmX2 rfl rfl rfl (Nat.le_of_ble_eq_true rfl) (ws' := (cW cI a (upd i 14 (i 10)) r)) rfl wl_X2_27 dX2_takeFrom_10 ?_
  refine z_aload_n C (pc := 13) dX2_takeFrom_13 rfl ?_
  refine z_aload_n C (pc := 14) dX2_takeFrom_14 rfl ?_
  refine z_get C (pc := 15) 6 rfl rfl wf_X2 2 (by decide) rfl wl_X2_31 (v := .int (i 11)) rfl dX2_takeFrom_15 ?_
  refine z_put C (pc := 18) 12 rfl rfl wf_X2 2 (by decide) rfl tyX2 tyX2_ok nmX2 rfl rfl rfl (Nat.le_of_ble_eq_true rfl) (ws' := (cW cI a (upd (upd i 14 (i 10)) 15 (i 11)) r)) rfl wl_X2_31 dX2_takeFrom_18 ?_
  refine z_aload_n C (pc := 21) dX2_takeFrom_21 rfl ?_
  refine z_aload_n C (pc := 22) dX2_takeFrom_22 rfl ?_
  refine z_get C (pc := 23) 6 rfl rfl wf_X2 3 (by decide) rfl wl_X2_34 (v := .int (i 12)) rfl dX2_takeFrom_23 ?_
  refine z_put C (pc := 26) 12 rfl rfl wf_X2 3 (by decide) rfl tyX2 tyX2_ok nmX2 rfl rfl rfl (Nat.le_of_ble_eq_true rfl) (ws' := (cW cI a (upd (upd (upd i 14 (i 10)) 15 (i 11)) 16 (i 12)) r)) rfl wl_X2_34 dX2_takeFrom_26 ?_
  refine z_aload_n C (pc := 29) dX2_takeFrom_29 rfl ?_
  refine z_aload_n C (pc := 30) dX2_takeFrom_30 rfl ?_
  refine z_get C (pc := 31) 6 rfl rfl wf_X2 4 (by decide) rfl wl_X2_37 (v := .int (i 13)) rfl dX2_takeFrom_31 ?_
  refine z_put C (pc := 34) 12 rfl rfl wf_X2 4 (by decide) rfl tyX2 tyX2_ok nmX2 rfl rfl rfl (Nat.le_of_ble_eq_true rfl) (ws' := (cW cI a (upd (upd (upd (upd i 14 (i 10)) 15 (i 11)) 16 (i 12)) 17 (i 13)) r)) rfl wl_X2_37 dX2_takeFrom_34 ?_
  refine z_aload_n C (pc := 37) dX2_takeFrom_37 rfl ?_
  refine z_get C (pc := 38) 6 rfl rfl wf_X2 1 (by decide) rfl wl_X2_9 (v := .ref (a 7)) rfl dX2_takeFrom_38 ?_
  refine z_aload_n C (pc := 41) dX2_takeFrom_41 rfl ?_
  refine z_get C (pc := 42) 12 rfl rfl wf_X2 1 (by decide) rfl wl_X2_9 (v := .ref (a 13)) rfl dX2_takeFrom_42 ?_
  refine z_callv C (isC := [7, 13]) rfl (by exact fun _ => rfl) (runSN C (wc := [(a 7, .inl (cI, 5, .inl (r 3))), (a 13, .inl (cI, 5, .inl (r 8)))]) (pc := 45) (rY' := rm 1 22) (nn := 2) (As := [.ref (a 7), .ref (a 13)]) (rest := []) (c_copy l D cI tt (a 7) 5 (a 13) 5 (r 3) (r 8) (by decide) (by decide)) rfl rfl ⟨rfl, rfl, ⟨Nat.le_of_ble_eq_true rfl, Nat.le_of_ble_eq_true rfl⟩, Nat.le_of_ble_eq_true rfl, Nat.le_of_ble_eq_true rfl⟩ wl_X2_44 ws_X3_copy wi_X3 wc_X3_copy (by decide +kernel) rfl rfl (Nat.le_of_ble_eq_true rfl) dX2_takeFrom_45) (fun u_1 h_1 => ?_)
  subst h_1
  refine z_ws (st' := []) (ws' := (cW cI a (upd (upd (upd (upd i 14 (i 10)) 15 (i 11)) 16 (i 12)) 17 (i 13)) (va_up r 8 (cpv 5 (r 3) 5 (r 8) 5)))) rfl rfl ?_
  refine z_aload_n C (pc := 48) dX2_takeFrom_48 rfl ?_
  refine z_get C (pc := 49) 6 rfl rfl wf_X2 5 (by decide) rfl wl_X2_15 (v := .ref (a 8)) rfl dX2_takeFrom_49 ?_
  refine z_aload_n C (pc := 52) dX2_takeFrom_52 rfl ?_
  refine z_get C (pc := 53) 12 rfl rfl wf_X2 5 (by decide) rfl wl_X2_15 (v := .ref (a 14)) rfl dX2_takeFrom_53 ?_
  refine z_callv C (isC := [8, 14]) rfl (by exact fun _ => rfl) (runSN C (wc := [(a 8, .inl (cI, 6, .inl (r 4))), (a 14, .inl (cI, 6, .inl (r 9)))]) (pc := 56) (rY' := rm 1 22) (nn := 2) (As := [.ref (a 8), .ref (a 14)]) (rest := []) (c_copy l D cI tt (a 8) 6 (a 14) 6 (r 4) (r 9) (by decide) (by decide)) rfl rfl ⟨rfl, rfl, ⟨Nat.le_of_ble_eq_true rfl, Nat.le_of_ble_eq_true rfl⟩, Nat.le_of_ble_eq_true rfl, Nat.le_of_ble_eq_true rfl⟩ wl_X2_44 ws_X3_copy wi_X3 wc_X3_copy (by decide +kernel) rfl rfl (Nat.le_of_ble_eq_true rfl) dX2_takeFrom_56) (fun u_2 h_2 => ?_)
  subst h_2
  refine z_ws (st' := []) (ws' := (cW cI a (upd (upd (upd (upd i 14 (i 10)) 15 (i 11)) 16 (i 12)) 17 (i 13)) (va_up (va_up r 8 (cpv 5 (r 3) 5 (r 8) 5)) 9 (cpv 6 (r 4) 6 (r 9) 6)))) rfl rfl ?_
  refine z_aload_n C (pc := 59) dX2_takeFrom_59 rfl ?_
  refine z_get C (pc := 60) 6 rfl rfl wf_X2 6 (by decide) rfl wl_X2_18 (v := .ref (a 9)) rfl dX2_takeFrom_60 ?_
  refine z_aload_n C (pc := 63) dX2_takeFrom_63 rfl ?_
  refine z_get C (pc := 64) 12 rfl rfl wf_X2 6 (by decide) rfl wl_X2_18 (v := .ref (a 15)) rfl dX2_takeFrom_64 ?_
  refine z_callv C (isC := [9, 15]) rfl (by exact fun _ => rfl) (runSN C (wc := [(a 9, .inl (cI, 6, .inl (r 5))), (a 15, .inl (cI, 6, .inl (r 10)))]) (pc := 67) (rY' := rm 1 22) (nn := 2) (As := [.ref (a 9), .ref (a 15)]) (rest := []) (c_copy l D cI tt (a 9) 6 (a 15) 6 (r 5) (r 10) (by decide) (by decide)) rfl rfl ⟨rfl, rfl, ⟨Nat.le_of_ble_eq_true rfl, Nat.le_of_ble_eq_true rfl⟩, Nat.le_of_ble_eq_true rfl, Nat.le_of_ble_eq_true rfl⟩ wl_X2_44 ws_X3_copy wi_X3 wc_X3_copy (by decide +kernel) rfl rfl (Nat.le_of_ble_eq_true rfl) dX2_takeFrom_67) (fun u_3 h_3 => ?_)
  subst h_3
  refine z_ws (st' := []) (ws' := (cW cI a (upd (upd (upd (upd i 14 (i 10)) 15 (i 11)) 16 (i 12)) 17 (i 13)) (va_up (va_up (va_up r 8 (cpv 5 (r 3) 5 (r 8) 5)) 9 (cpv 6 (r 4) 6 (r 9) 6)) 10 (cpv 6 (r 5) 6 (r 10) 6)))) rfl rfl ?_
  refine z_aload_n C (pc := 70) dX2_takeFrom_70 rfl ?_
  refine z_get C (pc := 71) 6 rfl rfl wf_X2 7 (by decide) rfl wl_X2_21 (v := .ref (a 10)) rfl dX2_takeFrom_71 ?_
  refine z_aload_n C (pc := 74) dX2_takeFrom_74 rfl ?_
  refine z_get C (pc := 75) 12 rfl rfl wf_X2 7 (by decide) rfl wl_X2_21 (v := .ref (a 16)) rfl dX2_takeFrom_75 ?_
  refine z_callv C (isC := [10, 16]) rfl (by exact fun _ => rfl) (runSN C (wc := [(a 10, .inl (cI, 6, .inl (r 6))), (a 16, .inl (cI, 6, .inl (r 11)))]) (pc := 78) (rY' := rm 1 22) (nn := 2) (As := [.ref (a 10), .ref (a 16)]) (rest := []) (c_copy l D cI tt (a 10) 6 (a 16) 6 (r 6) (r 11) (by decide) (by decide)) rfl rfl ⟨rfl, rfl, ⟨Nat.le_of_ble_eq_true rfl, Nat.le_of_ble_eq_true rfl⟩, Nat.le_of_ble_eq_true rfl, Nat.le_of_ble_eq_true rfl⟩ wl_X2_44 ws_X3_copy wi_X3 wc_X3_copy (by decide +kernel) rfl rfl (Nat.le_of_ble_eq_true rfl) dX2_takeFrom_78) (fun u_4 h_4 => ?_)
  subst h_4
  refine z_ws (st' := []) (ws' := (cW cI a (upd (upd (upd (upd i 14 (i 10)) 15 (i 11)) 16 (i 12)) 17 (i 13)) (va_up (va_up (va_up (va_up r 8 (cpv 5 (r 3) 5 (r 8) 5)) 9 (cpv 6 (r 4) 6 (r 9) 6)) 10 (cpv 6 (r 5) 6 (r 10) 6)) 11 (cpv 6 (r 6) 6 (r 11) 6)))) rfl rfl ?_
  refine z_aload_n C (pc := 81) dX2_takeFrom_81 rfl ?_
  refine z_get C (pc := 82) 6 rfl rfl wf_X2 8 (by decide) rfl wl_X2_24 (v := .ref (a 11)) rfl dX2_takeFrom_82 ?_
  refine z_aload_n C (pc := 85) dX2_takeFrom_85 rfl ?_
  refine z_get C (pc := 86) 12 rfl rfl wf_X2 8 (by decide) rfl wl_X2_24 (v := .ref (a 17)) rfl dX2_takeFrom_86 ?_
  refine z_callv C (isC := [11, 17]) rfl (by exact fun _ => rfl) (runSN C (wc := [(a 11, .inl (cI, 6, .inl (r 7))), (a 17, .inl (cI, 6, .inl (r 12)))]) (pc := 89) (rY' := rm 1 22) (nn := 2) (As := [.ref (a 11), .ref (a 17)]) (rest := []) (c_copy l D cI tt (a 11) 6 (a 17) 6 (r 7) (r 12) (by decide) (by decide)) rfl rfl ⟨rfl, rfl, ⟨Nat.le_of_ble_eq_true rfl, Nat.le_of_ble_eq_true rfl⟩, Nat.le_of_ble_eq_true rfl, Nat.le_of_ble_eq_true rfl⟩ wl_X2_44 ws_X3_copy wi_X3 wc_X3_copy (by decide +kernel) rfl rfl (Nat.le_of_ble_eq_true rfl) dX2_takeFrom_89) (fun u_5 h_5 => ?_)
  subst h_5
  refine z_ws (st' := []) (ws' := (cW cI a (upd (upd (upd (upd i 14 (i 10)) 15 (i 11)) 16 (i 12)) 17 (i 13)) (va_up (va_up (va_up (va_up (va_up r 8 (cpv 5 (r 3) 5 (r 8) 5)) 9 (cpv 6 (r 4) 6 (r 9) 6)) 10 (cpv 6 (r 5) 6 (r 10) 6)) 11 (cpv 6 (r 6) 6 (r 11) 6)) 12 (cpv 6 (r 7) 6 (r 12) 6)))) rfl rfl ?_
  refine z_vret C (pc := 92) ((upd (upd (upd (upd i 14 (i 10)) 15 (i 11)) 16 (i 12)) 17 (i 13)), (va_up (va_up (va_up (va_up (va_up r 8 (cpv 5 (r 3) 5 (r 8) 5)) 9 (cpv 6 (r 4) 6 (r 9) 6)) 10 (cpv 6 (r 5) 6 (r 10) 6)) 11 (cpv 6 (r 6) 6 (r 11) 6)) 12 (cpv 6 (r 7) 6 (r 12) 6))) dX2_takeFrom_92 ?_ rfl
  rfl

set_option maxHeartbeats 4000000 in
set_option maxRecDepth 100000 in
theorem c_isCamp (l : Launch) (D : va_G) (cI : ClassId) (tt : Nat × Nat × Nat) (a : Nat → Nat) (i : Nat → Int32) (r : Nat → Nat → Int32) (L : Nat) (hl : i 3 = nI L) (hL : L ≤ 15) : MetI (S := Unit) l yX0_isCamp cX0_isCamp 1 (some .boolean) (rm 3 66) D cI tt [.ref (a 1)] (cW cI a i r) (fun q _ => q = b2 (campb (r 0) L)) (fun _ => cW cI a i r) := by
  refine met_ofI (by decide) (Nat.le_of_ble_eq_true rfl) ?_
  intro pP eE sS mM aV bB mE cC AA C hin
  refine z_conv (lv' := [(0, .ref (a 1))]) ⟨rfl, trivial⟩ rfl rfl ?_
  refine z_aload_n C (pc := 0) dX0_isCamp_0 rfl ?_
  refine z_calliF C (by exact fun _ => cW_ad) (runV C (wc := (cW cI a i r)) (pc := 1) (rY' := rm 2 42) (nn := 0) (As := []) (rest := []) (c_firstWrong l D cI tt a i r L hl hL) (full_hC _) (full_nd _) ⟨rfl, rfl, ⟨Nat.le_of_ble_eq_true rfl, Nat.le_of_ble_eq_true rfl⟩, Nat.le_of_ble_eq_true rfl, Nat.le_of_ble_eq_true rfl⟩ wl_X0_34 wm_X0_firstWrong we_X0_firstWrong wi_X0 wc_X0_firstWrong (by decide +kernel) rfl 1 rfl rfl rfl rfl (Nat.le_of_ble_eq_true rfl) dX0_isCamp_1) (fun q_1 u_1 h_1 => ?_)
  subst h_1
  refine z_ws (st' := [.int (nI (scv (r 0) L 0 0).1)]) (ws' := (cW cI a i r)) rfl rfl ?_
  refine z_aload_n C (pc := 4) dX0_isCamp_4 rfl ?_
  refine z_get C (pc := 5) 1 rfl rfl wf_X0 1 (by decide) rfl wl_X0_15 (v := .int (i 3)) rfl dX0_isCamp_5 ?_
  refine z_icmp_ne C (pc := 8) (tgt := 32) dX0_isCamp_8 (by decide) (fun c_2 => ?_) (fun c_2 => ?_)
  · rw [hl] at c_2
    have hsl := scv_le (f := r 0) L 0 0
    have hx : ¬ (scv (r 0) L 0 0).1 = L := fun h => c_2 (by rw [h])
    refine z_iconst C (pc := 32) (v := 0) dX0_isCamp_32 (by decide) ?_
    refine z_zret C (pc := 33) () dX0_isCamp_33 rfl ?_ rfl
    unfold campb b2
    rw [decide_eq_false hx]
    rfl
  · rw [hl] at c_2
    have hsl := scv_le (f := r 0) L 0 0
    have hx : (scv (r 0) L 0 0).1 = L := (nI_eq (by omega) (by omega)).mp c_2
    refine z_aload_n C (pc := 11) dX0_isCamp_11 rfl ?_
    refine z_aload_n C (pc := 12) dX0_isCamp_12 rfl ?_
    refine z_get C (pc := 13) 1 rfl rfl wf_X0 1 (by decide) rfl wl_X0_15 (v := .int (i 3)) rfl dX0_isCamp_13 ?_
    refine z_iconst C (pc := 16) (v := 5) dX0_isCamp_16 (by decide) ?_
    refine z_isub C (pc := 17) dX0_isCamp_17 ?_
    refine z_iconst C (pc := 18) (v := 1) dX0_isCamp_18 (by decide) ?_
    refine z_isub C (pc := 19) dX0_isCamp_19 ?_
    refine z_calliF C (by exact fun _ => cW_ad) (runV C (wc := (cW cI a i r)) (pc := 20) (rY' := rm 1 21) (nn := 1) (As := [.int (((i 3) - 5) - 1)]) (rest := []) (c_codeAt l D cI tt a i r (((i 3) - 5) - 1)) (full_hC _) (full_nd _) ⟨rfl, rfl, ⟨Nat.le_of_ble_eq_true rfl, Nat.le_of_ble_eq_true rfl⟩, Nat.le_of_ble_eq_true rfl, Nat.le_of_ble_eq_true rfl⟩ wl_X0_27 wm_X0_codeAt we_X0_codeAt wi_X0 wc_X0_codeAt (by decide +kernel) rfl 1 rfl rfl rfl rfl (Nat.le_of_ble_eq_true rfl) dX0_isCamp_20) (fun q_3 u_3 h_3 => ?_)
    subst h_3
    refine z_ws (st' := [.int (atv 15 (r 0) (((i 3) - 5) - 1))]) (ws' := (cW cI a i r)) rfl rfl ?_
    refine z_bipush C (pc := 23) (v := 59) dX0_isCamp_23 (by decide) ?_
    refine z_icmp_ne C (pc := 25) (tgt := 32) dX0_isCamp_25 (by decide) (fun c_4 => ?_) (fun c_4 => ?_)
    · refine z_iconst C (pc := 32) (v := 0) dX0_isCamp_32 (by decide) ?_
      refine z_zret C (pc := 33) () dX0_isCamp_33 rfl ?_ rfl
      rw [hl] at c_4
      have hy : ¬ ((scv (r 0) L 0 0).2 ≠ 0 ∧ L = (scv (r 0) L 0 0).2 + 5) := fun h => c_4 ((camp_at hL hx).mpr h)
      unfold campb b2
      rw [decide_eq_true hx, Bool.true_and, ← Bool.decide_and, decide_eq_false hy]
      rfl
    · refine z_iconst C (pc := 28) (v := 1) dX0_isCamp_28 (by decide) ?_
      refine z_goto C (pc := 29) (tgt := 33) dX0_isCamp_29 (by decide) ?_
      refine z_zret C (pc := 33) () dX0_isCamp_33 rfl ?_ rfl
      rw [hl] at c_4
      have hy := (camp_at hL hx).mp c_4
      unfold campb b2
      rw [decide_eq_true hx, decide_eq_true hy.1, decide_eq_true hy.2]
      rfl
end
section
set_option maxHeartbeats 4000000 in
set_option maxRecDepth 100000 in
theorem c_letCreep (l : Launch) (D : va_G) (cI : ClassId) (tt : Nat × Nat × Nat) (a : Nat → Nat) (i : Nat → Int32) (r : Nat → Nat → Int32) (c : Nat → Nat) (hc : ∀ k, k < 5 → r 3 k = nI (c k) ∧ c k ≤ 9) (mn t : Nat) (hmn : mn ≤ 20) (ht : t < 2147483648) : MetI (S := (Nat → Nat → Int32)) l yX3_letCreep cX3_letCreep 7 (some .int) (rm 2 44) D cI tt [.ref (a 0), .int (nI mn), .int (nI t)] (cW cI a i r) (fun q r' => q = nI (crw mn (t, c)).1 ∧ (∀ q, q ≠ 13 → r' q = r q) ∧ ∀ q, q < 5 → r' 13 q = nI ((crw mn (t, c)).2 q)) (fun r' => cW cI a i r') := by
  have hcc : ∀ k, k < 5 → c k ≤ 9 := fun k hk => (hc k hk).2
  refine met_ofI (by decide) (Nat.le_of_ble_eq_true rfl) ?_
  intro pP eE sS mM aV bB mE cC AA C hin
  refine z_conv (lv' := [(0, .ref (a 0)), (1, .int (nI mn)), (2, .int (nI t))]) ⟨rfl, rfl, rfl, trivial⟩ rfl rfl ?_
  refine z_aload_n C (pc := 0) dX3_letCreep_0 rfl ?_
  refine z_get C (pc := 1) 0 rfl rfl wf_X3 2 (by decide) rfl wl_X3_26 (v := .ref (a 6)) rfl dX3_letCreep_1 ?_
  refine z_getN C (pc := 4) 6 rfl rfl wf_X2 1 (by decide) rfl wl_X3_77 (v := .ref (a 7)) rfl dX3_letCreep_4 ?_
  refine z_aload_n C (pc := 7) dX3_letCreep_7 rfl ?_
  refine z_get C (pc := 8) 0 rfl rfl wf_X3 4 (by decide) rfl wl_X3_33 (v := .ref (a 18)) rfl dX3_letCreep_8 ?_
  refine z_callv C (isC := [7, 18]) rfl (by exact fun _ => rfl) (runS C (wc := [(a 7, .inl (cI, 5, .inl (r 3))), (a 18, .inl (cI, 5, .inl (r 13)))]) (pc := 11) (rY' := rm 1 22) (nn := 2) (As := [.ref (a 7), .ref (a 18)]) (rest := []) (c_copy l D cI tt (a 7) 5 (a 18) 5 (r 3) (r 13) (by decide) (by decide)) rfl rfl ⟨rfl, rfl, ⟨Nat.le_of_ble_eq_true rfl, Nat.le_of_ble_eq_true rfl⟩, Nat.le_of_ble_eq_true rfl, Nat.le_of_ble_eq_true rfl⟩ wl_X3_133 ws_X3_copy wi_X3 wc_X3_copy (by decide +kernel) rfl rfl (Nat.le_of_ble_eq_true rfl) dX3_letCreep_11) (fun u_1 h_1 => ?_)
  subst h_1
  refine z_ws (st' := []) (ws' := (cW cI a i (va_up r 13 (cpv 5 (r 3) 5 (r 13) 5)))) rfl rfl ?_
  refine z_iload_n C (pc := 14) dX3_letCreep_14 rfl ?_
  refine z_istore_n C (pc := 15) (lv' := [(0, .ref (a 0)), (1, .int (nI mn)), (2, .int (nI t)), (3, .int (nI t))]) dX3_letCreep_15 (Nat.le_of_ble_eq_true rfl) rfl rfl ?_
  refine z_iconst C (pc := 16) (v := 0) dX3_letCreep_16 (by decide) ?_
  refine z_istore C (pc := 17) (lv' := [(0, .ref (a 0)), (1, .int (nI mn)), (2, .int (nI t)), (3, .int (nI t)), (4, .int 0)]) dX3_letCreep_17 (Nat.le_of_ble_eq_true rfl) rfl rfl ?_
  have key19 : ∀ (fu19 : Nat) (j : Nat) (r' : Nat → Nat → Int32), mn - j < fu19 → (j ≤ mn) → (∀ q, q ≠ 13 → r' q = r q) → (∀ q, q < 5 → r' 13 q = nI ((crw j (t, c)).2 q)) → Z pP l eE (rm 2 44) sS mM aV bB mE cC D AA 7 0 0 (MQ bB (va_Qi (S := (Nat → Nat → Int32)) (fun q r' => q = nI (crw mn (t, c)).1 ∧ (∀ q, q ≠ 13 → r' q = r q) ∧ ∀ q, q < 5 → r' 13 q = nI ((crw mn (t, c)).2 q)) (fun u t => va_P D vwCl ((fun r' => cW cI a i r') u) t.heap) AA) aV sS 0 0 AA) 19 [(0, .ref (a 0)), (1, .int (nI mn)), (2, .int (nI t)), (3, .int (nI (crw j (t, c)).1)), (4, .int (nI j))] [] (cW cI a i r') := by
    intro fu19
    induction fu19 with
    | zero => intro j r' hfu19; exact absurd hfu19 (Nat.not_lt_zero _)
    | succ fu19 ih19 =>
      intro j r' hfu19 hjm hr' hw'
      refine z_iload C (pc := 19) dX3_letCreep_19 rfl ?_
      refine z_iload_n C (pc := 21) dX3_letCreep_21 rfl ?_
      refine z_icmp_ge C (pc := 22) (tgt := 84) dX3_letCreep_22 (by decide) (fun c_2 => ?_) (fun c_2 => ?_)
      · refine z_iload_n C (pc := 84) dX3_letCreep_84 rfl ?_
        refine z_iret C (pc := 85) r' dX3_letCreep_85 ?_ rfl
        have hje : j = mn := by
          have := ge_of_nI c_2 (by omega)
          omega
        subst hje
        exact ⟨rfl, hr', hw'⟩
      · have hj : j < mn := lt_of_nI c_2 (by omega)
        have hokj := crw_ok ht hcc j
        refine z_iconst C (pc := 25) (v := 0) dX3_letCreep_25 (by decide) ?_
        refine z_istore C (pc := 26) (lv' := [(0, .ref (a 0)), (1, .int (nI mn)), (2, .int (nI t)), (3, .int (nI (crw j (t, c)).1)), (4, .int (nI j)), (5, .int 0)]) dX3_letCreep_26 (Nat.le_of_ble_eq_true rfl) rfl rfl ?_
        have key28 : ∀ (fu28 : Nat) (k : Nat) (r2 : Nat → Nat → Int32), 5 - k < fu28 → (k ≤ 5) → (∀ q, q ≠ 13 → r2 q = r q) → (∀ q, q < 5 → r2 13 q = nI ((crp k (crw j (t, c))).2 q)) → Z pP l eE (rm 2 44) sS mM aV bB mE cC D AA 7 0 0 (MQ bB (va_Qi (S := (Nat → Nat → Int32)) (fun q r' => q = nI (crw mn (t, c)).1 ∧ (∀ q, q ≠ 13 → r' q = r q) ∧ ∀ q, q < 5 → r' 13 q = nI ((crw mn (t, c)).2 q)) (fun u t => va_P D vwCl ((fun r' => cW cI a i r') u) t.heap) AA) aV sS 0 0 AA) 28 [(0, .ref (a 0)), (1, .int (nI mn)), (2, .int (nI t)), (3, .int (nI (crp k (crw j (t, c))).1)), (4, .int (nI j)), (5, .int (nI k))] [] (cW cI a i r2) := by
          intro fu28
          induction fu28 with
          | zero => intro k r2 hfu28; exact absurd hfu28 (Nat.not_lt_zero _)
          | succ fu28 ih28 =>
            intro k r2 hfu28 hk5 hr2 hw2
            refine z_iload C (pc := 28) dX3_letCreep_28 rfl ?_
            refine z_iconst C (pc := 30) (v := 5) dX3_letCreep_30 (by decide) ?_
            refine z_icmp_ge C (pc := 31) (tgt := 78) dX3_letCreep_31 (by decide) (fun c_3 => ?_) (fun c_3 => ?_)
            · have hk5e : k = 5 := by
                have := ge_of_nI (n := 5) c_3 (by decide)
                omega
              subst hk5e
              refine z_iinc C (pc := 78) (v := ((nI j) + 1)) (lv' := [(0, .ref (a 0)), (1, .int (nI mn)), (2, .int (nI t)), (3, .int (nI (crp 5 (crw j (t, c))).1)), (4, .int ((nI j) + 1)), (5, .int (nI 5))]) dX3_letCreep_78 rfl rfl (Nat.le_of_ble_eq_true rfl) rfl rfl ?_
              refine z_goto C (pc := 81) (tgt := 19) dX3_letCreep_81 (by decide) ?_
              refine z_lv (lv' := [(0, .ref (a 0)), (1, .int (nI mn)), (2, .int (nI t)), (3, .int (nI (crw (j + 1) (t, c)).1)), (4, .int (nI (j + 1)))]) ⟨rfl, rfl, rfl, lki (by rw [crw_s]), lki (nI_1 j), trivial⟩ ?_
              exact ih19 (j + 1) r2 (by omega) hj hr2 (by rw [crw_s]; exact hw2)
            · have hk : k < 5 := lt_of_nI (n := 5) c_3 (by omega)
              have hok := crp_ok hokj k
              refine z_iload_n C (pc := 34) dX3_letCreep_34 rfl ?_
              refine z_calli C (isC := []) rfl (by exact fun _ => rfl) (runS C (wc := []) (pc := 35) (rY' := rm 0 0) (nn := 1) (As := [.int (nI (crp k (crw j (t, c))).1)]) (rest := []) (c_nextSeed l D cI tt (nI (crp k (crw j (t, c))).1)) rfl rfl ⟨rfl, rfl, ⟨Nat.le_of_ble_eq_true rfl, Nat.le_of_ble_eq_true rfl⟩, Nat.le_of_ble_eq_true rfl, Nat.le_of_ble_eq_true rfl⟩ wl_X3_239 ws_X3_nextSeed wi_X3 wc_X3_nextSeed (by decide +kernel) rfl rfl (Nat.le_of_ble_eq_true rfl) dX3_letCreep_35) (fun r_4 u_4 h_4 => ?_)
              have h_4 : r_4 = nI (nxt (crp k (crw j (t, c))).1) := h_4.trans (nextSeed_nI hok.1)
              subst h_4
              refine z_ws (st' := [.int (nI (nxt (crp k (crw j (t, c))).1))]) (ws' := (cW cI a i r2)) rfl rfl ?_
              refine z_istore_n C (pc := 38) (lv' := [(0, .ref (a 0)), (1, .int (nI mn)), (2, .int (nI t)), (3, .int (nI (nxt (crp k (crw j (t, c))).1))), (4, .int (nI j)), (5, .int (nI k))]) dX3_letCreep_38 (Nat.le_of_ble_eq_true rfl) rfl rfl ?_
              refine z_iload_n C (pc := 39) dX3_letCreep_39 rfl ?_
              refine z_bipush C (pc := 40) (v := 16) dX3_letCreep_40 (by decide) ?_
              refine z_ishr C (pc := 42) dX3_letCreep_42 ?_
              refine z_iconst C (pc := 43) (v := 3) dX3_letCreep_43 (by decide) ?_
              refine z_irem C (pc := 44) dX3_letCreep_44 (by decide) ?_
              refine z_seti (y := nI (crn (nxt (crp k (crw j (t, c))).1))) (crn_eq (nxt_lt _)) ?_
              refine z_istore C (pc := 45) (lv' := [(0, .ref (a 0)), (1, .int (nI mn)), (2, .int (nI t)), (3, .int (nI (nxt (crp k (crw j (t, c))).1))), (4, .int (nI j)), (5, .int (nI k)), (6, .int (nI (crn (nxt (crp k (crw j (t, c))).1))))]) dX3_letCreep_45 (Nat.le_of_ble_eq_true rfl) rfl rfl ?_
              refine z_aload_n C (pc := 47) dX3_letCreep_47 rfl ?_
              refine z_get C (pc := 48) 0 rfl rfl wf_X3 4 (by decide) rfl wl_X3_33 (v := .ref (a 18)) rfl dX3_letCreep_48 ?_
              refine z_iload C (pc := 51) dX3_letCreep_51 rfl ?_
              refine z_iconst C (pc := 53) (v := 0) dX3_letCreep_53 (by decide) ?_
              refine z_aload_n C (pc := 54) dX3_letCreep_54 rfl ?_
              refine z_get C (pc := 55) 0 rfl rfl wf_X3 4 (by decide) rfl wl_X3_33 (v := .ref (a 18)) rfl dX3_letCreep_55 ?_
              refine z_iload C (pc := 58) dX3_letCreep_58 rfl ?_
              refine z_calli C (isC := [18]) rfl (by exact fun _ => rfl) (runS C (wc := [(a 18, .inl (cI, 5, .inl (r2 13)))]) (pc := 60) (rY' := rm 0 0) (nn := 2) (As := [.ref (a 18), .int (nI k)]) (rest := [.int 0, .int (nI k), .ref (a 18)]) (c_at l D cI tt (a 18) 5 (r2 13) (nI k) (by decide)) rfl rfl ⟨rfl, rfl, ⟨Nat.le_of_ble_eq_true rfl, Nat.le_of_ble_eq_true rfl⟩, Nat.le_of_ble_eq_true rfl, Nat.le_of_ble_eq_true rfl⟩ wl_X3_87 ws_X3_at wi_X3 wc_X3_at (by decide +kernel) rfl rfl (Nat.le_of_ble_eq_true rfl) dX3_letCreep_60) (fun r_5 u_5 h_5 => ?_)
              have h_5 : r_5 = (nI ((crp k (crw j (t, c))).2 k)) := h_5.trans ((atv_nI (by omega) (by decide)).trans (hw2 k (by omega)))
              subst h_5
              refine z_ws (st' := [.int (nI ((crp k (crw j (t, c))).2 k)), .int 0, .int (nI k), .ref (a 18)]) (ws' := (cW cI a i r2)) rfl rfl ?_
              refine z_iload C (pc := 63) dX3_letCreep_63 rfl ?_
              refine z_isub C (pc := 65) dX3_letCreep_65 ?_
              refine z_mmax C (pc := 66) wl_X3_236 (Nat.le_of_ble_eq_true rfl) (Nat.le_of_ble_eq_true rfl) (Nat.zero_le _) (Nat.zero_le _) dX3_letCreep_66 ?_
              refine z_seti (y := nI ((crp k (crw j (t, c))).2 k - crn (nxt (crp k (crw j (t, c))).1))) (max_sub _ (by have := hok.2 k (by omega); omega) _ (crn_lt _)) ?_
              refine z_callv C (isC := [18]) rfl (by exact fun _ => rfl) (runS C (wc := [(a 18, .inl (cI, 5, .inl (r2 13)))]) (pc := 69) (rY' := rm 0 0) (nn := 3) (As := [.ref (a 18), .int (nI k), .int (nI ((crp k (crw j (t, c))).2 k - crn (nxt (crp k (crw j (t, c))).1)))]) (rest := []) (c_put l D cI tt (a 18) 5 (r2 13) (nI k) (nI ((crp k (crw j (t, c))).2 k - crn (nxt (crp k (crw j (t, c))).1))) (by decide)) rfl rfl ⟨rfl, rfl, ⟨Nat.le_of_ble_eq_true rfl, Nat.le_of_ble_eq_true rfl⟩, Nat.le_of_ble_eq_true rfl, Nat.le_of_ble_eq_true rfl⟩ wl_X3_66 ws_X3_put wi_X3 wc_X3_put (by decide +kernel) rfl rfl (Nat.le_of_ble_eq_true rfl) dX3_letCreep_69) (fun u_6 h_6 => ?_)
              subst h_6
              refine z_ws (st' := []) (ws' := (cW cI a i (va_up r2 13 (putv 5 (r2 13) (nI k) (nI ((crp k (crw j (t, c))).2 k - crn (nxt (crp k (crw j (t, c))).1))))))) rfl rfl ?_
              refine z_iinc C (pc := 72) (v := ((nI k) + 1)) (lv' := [(0, .ref (a 0)), (1, .int (nI mn)), (2, .int (nI t)), (3, .int (nI (nxt (crp k (crw j (t, c))).1))), (4, .int (nI j)), (5, .int ((nI k) + 1)), (6, .int (nI (crn (nxt (crp k (crw j (t, c))).1))))]) dX3_letCreep_72 rfl rfl (Nat.le_of_ble_eq_true rfl) rfl rfl ?_
              refine z_goto C (pc := 75) (tgt := 28) dX3_letCreep_75 (by decide) ?_
              refine z_lv (lv' := [(0, .ref (a 0)), (1, .int (nI mn)), (2, .int (nI t)), (3, .int (nI (crp (k + 1) (crw j (t, c))).1)), (4, .int (nI j)), (5, .int (nI (k + 1)))]) ⟨rfl, rfl, rfl, lki (by rw [crp_1]), rfl, lki (nI_1 k), trivial⟩ ?_
              exact ih28 (k + 1) (va_up r2 13 (putv 5 (r2 13) (nI k) (nI ((crp k (crw j (t, c))).2 k - crn (nxt (crp k (crw j (t, c))).1))))) (by omega) hk (fun q hq => (vup_n (by omega)).trans (hr2 q hq)) (fun q hq => by rw [vup_s, putv_nI hk (by decide), crp_2]; unfold upd upN; by_cases e : q = k <;> simp [e, hw2 q hq])
        refine z_lv (lv' := [(0, .ref (a 0)), (1, .int (nI mn)), (2, .int (nI t)), (3, .int (nI (crp 0 (crw j (t, c))).1)), (4, .int (nI j)), (5, .int (nI 0))]) ⟨rfl, rfl, rfl, rfl, rfl, rfl, trivial⟩ ?_
        exact key28 (_ + 1) 0 r' (Nat.lt_succ_self _) (Nat.zero_le _) hr' hw'
  refine z_lv (lv' := [(0, .ref (a 0)), (1, .int (nI mn)), (2, .int (nI t)), (3, .int (nI (crw 0 (t, c)).1)), (4, .int (nI 0))]) ⟨rfl, rfl, rfl, rfl, rfl, trivial⟩ ?_
  exact key19 (_ + 1) 0 (va_up r 13 (cpv 5 (r 3) 5 (r 13) 5)) (Nat.lt_succ_self _) (Nat.zero_le _) (fun q hq => vup_n hq) (fun q hq => by rw [vup_s, cpv_at (by decide) (by decide) 5 (by decide) (by decide), if_pos hq]; exact (hc q hq).1)
end
section
/-! the state that calls show: numbers g, rows w, the page pg.
g: 0 an image is kept, 1 camps read, 2 teams done, 3 letters, 4 members, 5 alive, 6 marches, 7 of which home, 8 heard, 9 to 12 the image's 5 to 8, 13 when the image was kept (camps read and 1)
w: 1 kinds, 2 cairns, 3 to 6 heard, 7 to 11 the image's 2 to 6 -/
abbrev SG : Type := (Nat → Nat) × (Nat → Nat → Nat) × (Nat → Int32)
def HB (n hn : Nat) (hm hs hf hh : Nat → Nat) : Prop := ∀ k, k < hn → hm k < 2 ^ n ∧ hs k ≤ 6 ∧ hf k ≤ 40 ∧ hh k ≤ 1
/-- what holds of every state that is reached -/
def VS (z : SG) : Prop := z.1 0 ≤ 1 ∧ z.1 2 ≤ 20 ∧ z.1 3 ≤ 15 ∧ z.1 4 ≤ 6 ∧ z.1 5 < 2 ^ z.1 4 ∧ z.1 8 ≤ 6 ∧ (∀ k, k < z.1 4 → z.2.1 1 k ≤ 4) ∧ (∀ k, k < 5 → z.2.1 2 k ≤ 9) ∧ HB (z.1 4) (z.1 8) (z.2.1 3) (z.2.1 4) (z.2.1 5) (z.2.1 6) ∧
  (z.1 0 = 1 → z.1 9 < 2 ^ z.1 4 ∧ z.1 12 ≤ 6 ∧ (∀ k, k < 5 → z.2.1 7 k ≤ 9) ∧ HB (z.1 4) (z.1 12) (z.2.1 8) (z.2.1 9) (z.2.1 10) (z.2.1 11)) ∧ z.1 13 ≤ z.1 1 + 1 ∧ (z.1 0 = 1 ↔ z.1 13 = z.1 1 + 1)
def CN (g : Nat → Nat) (i : Nat → Int32) : Prop := i 0 = nI (g 0) ∧ i 1 = nI (g 1) ∧ i 2 = nI (g 2) ∧ i 3 = nI (g 3) ∧ i 4 = nI (g 4) ∧ i 10 = nI (g 5) ∧ i 11 = nI (g 6) ∧ i 12 = nI (g 7) ∧ i 13 = nI (g 8)
def CR (z : SG) (r : Nat → Nat → Int32) : Prop := (∀ k, k < z.1 3 → r 0 k = z.2.2 k) ∧ (∀ k, k < z.1 4 → r 1 k = nI (z.2.1 1 k)) ∧ (∀ k, k < 5 → r 3 k = nI (z.2.1 2 k)) ∧ (∀ k, k < z.1 8 → r 4 k = nI (z.2.1 3 k) ∧ r 5 k = nI (z.2.1 4 k) ∧ r 6 k = nI (z.2.1 5 k) ∧ r 7 k = nI (z.2.1 6 k))
def CK (z : SG) (i : Nat → Int32) (r : Nat → Nat → Int32) : Prop := z.1 0 = 1 → (i 14 = nI (z.1 9) ∧ i 15 = nI (z.1 10) ∧ i 16 = nI (z.1 11) ∧ i 17 = nI (z.1 12)) ∧ (∀ k, k < 5 → r 8 k = nI (z.2.1 7 k)) ∧ (∀ k, k < z.1 12 → r 9 k = nI (z.2.1 8 k) ∧ r 10 k = nI (z.2.1 9 k) ∧ r 11 k = nI (z.2.1 10 k) ∧ r 12 k = nI (z.2.1 11 k))
/-- the class's object holds the state -/
def Cls (z : SG) (i : Nat → Int32) (r : Nat → Nat → Int32) : Prop := CN z.1 i ∧ CR z r ∧ CK z i r
theorem Cls.sp {z : SG} {i i' : Nat → Int32} {r r' : Nat → Nat → Int32} (h : Cls z i r) (hi : SP i i') (hr : SR r r') : Cls z i' r' := by
  obtain ⟨⟨h0, h1, h2, h3, h4, h5, h6, h7, h8⟩, ⟨p0, p1, p2, p3⟩, hk⟩ := h
  refine ⟨⟨?_, ?_, ?_, ?_, ?_, ?_, ?_, ?_, ?_⟩, ⟨?_, ?_, ?_, ?_⟩, ?_⟩
  · rw [hi 0 (by omega)]; exact h0
  · rw [hi 1 (by omega)]; exact h1
  · rw [hi 2 (by omega)]; exact h2
  · rw [hi 3 (by omega)]; exact h3
  · rw [hi 4 (by omega)]; exact h4
  · rw [hi 10 (by omega)]; exact h5
  · rw [hi 11 (by omega)]; exact h6
  · rw [hi 12 (by omega)]; exact h7
  · rw [hi 13 (by omega)]; exact h8
  · rw [hr 0 (by decide)]; exact p0
  · rw [hr 1 (by decide)]; exact p1
  · rw [hr 3 (by decide)]; exact p2
  · rw [hr 4 (by decide), hr 5 (by decide), hr 6 (by decide), hr 7 (by decide)]; exact p3
  · intro g
    rw [hi 14 (by omega), hi 15 (by omega), hi 16 (by omega), hi 17 (by omega), hr 8 (by decide), hr 9 (by decide), hr 10 (by decide), hr 11 (by decide), hr 12 (by decide)]
    exact hk g
theorem Cls.pv {z : SG} {i : Nat → Int32} {r : Nat → Nat → Int32} (h : Cls z i r) (v : VS z) : PV i r (z.2.1 1) (z.1 4) := ⟨h.1.2.2.2.2.1, v.2.2.2.1, fun k hk => ⟨h.2.1.2.1 k hk, v.2.2.2.2.2.2.1 k hk⟩⟩
theorem Cls.c {z : SG} {i : Nat → Int32} {r : Nat → Nat → Int32} (h : Cls z i r) (v : VS z) : ∀ k, k < 5 → r 3 k = nI (z.2.1 2 k) ∧ z.2.1 2 k ≤ 9 := fun k hk => ⟨h.2.1.2.2.1 k hk, v.2.2.2.2.2.2.2.1 k hk⟩
theorem Cls.hv {z : SG} {i : Nat → Int32} {r : Nat → Nat → Int32} (h : Cls z i r) (v : VS z) : HV i r (z.1 4) (z.1 8) (z.2.1 3) (z.2.1 4) (z.2.1 5) (z.2.1 6) := ⟨h.1.2.2.2.2.2.2.2.2, v.2.2.2.2.2.1, fun k hk => by
  obtain ⟨a1, a2, a3, a4⟩ := h.2.1.2.2.2 k hk
  obtain ⟨b1, b2, b3, b4⟩ := v.2.2.2.2.2.2.2.2.1 k hk
  exact ⟨⟨a1, b1⟩, ⟨a2, b2⟩, ⟨a3, b3⟩, a4, b4⟩⟩
/-! what each call answers, and the state behind it -/
def upG (f : Nat → Nat) (k x : Nat) : Nat → Nat := fun j => if j = k then x else f j
def tn (x : Int32) : Nat := x.toNatClampNeg
def letterF (z : SG) (x : Int32) : Int32 × SG := if x < 1 ∨ ¬ x ≤ 126 then (-102, z) else if 15 ≤ z.1 3 then (-104, z) else (nI (z.1 3 + 1), (upG z.1 3 (z.1 3 + 1), z.2.1, upd z.2.2 (z.1 3) x))
def blankF (z : SG) : Int32 × SG := (nI (z.1 3), (upG z.1 3 0, z.2))
def faultF (z : SG) : Int32 := nI (scv z.2.2 (z.1 3) 0 0).1
def kdn (x : Int32) : Nat := tn (kindOfv x)
def fdn (x : Int32) : Nat := tn (x - 48)
def campG (z : SG) : Nat → Nat := fun k => match k with
  | 0 => 0
  | 1 => z.1 1 + 1
  | 3 => 0
  | 4 => z.1 3 - 6
  | 5 => 2 ^ (z.1 3 - 6) - 1
  | 6 => 0
  | 7 => 0
  | 8 => 0
  | k => z.1 k
def campF (z : SG) : Int32 × SG := if campb z.2.2 (z.1 3) = true then (nI (z.1 3 - 6), (campG z, va_up (va_up z.2.1 1 (fun k => kdn (z.2.2 k))) 2 (fun k => fdn (z.2.2 (z.1 3 - 5 + k))), z.2.2)) else (-103, z)
def tellF (z : SG) (k : Nat) (what : Int32) : Int32 := if what = 0 then nI (z.2.1 1 k) else if what = 1 then nI (pls (z.2.1 1 k)) else if what = 2 then nI (ets (z.2.1 1 k)) else if what = 3 then nI (fds (z.2.1 1 k)) else if what = 4 then nI (bt (z.1 5) k) else -102
def noMember (z : SG) (m : Int32) : Bool := decide (m < 0) || !decide (m < nI (z.1 4))
def memberF (z : SG) (m what : Int32) : Int32 := if noMember z m = true then -101 else tellF z (tn m) what
def asF (z : SG) (m kind : Int32) : Int32 := if noMember z m = true then -101 else if kind < 0 ∨ ¬ kind < 5 then -102 else if isOfv (nI (z.2.1 1 (tn m))) kind = 0 then -1 else m
def layS (z : SG) (q : Nat) : Nat := layv (z.2.1 1) (z.1 4) (z.2.1 2) (z.1 8) (z.2.1 3) (z.2.1 4) (z.2.1 5) (z.2.1 6) q
def tryS (z : SG) (q : Nat) : Int32 := tryv (z.2.1 1) (z.1 4) (z.2.1 2) q (layS z q)
def cairnF (z : SG) (x what : Int32) : Int32 := if noCairn (z.1 4) x = true then -101 else if what = 0 then nI (z.2.1 2 (tn x - 1)) else if what = 1 then nI (layS z (tn x)) else if what = 2 then tryS z (tn x) else -102
def layF (z : SG) (x f : Int32) : Int32 × SG := if noCairn (z.1 4) x = true then (-101, z) else if f < 0 ∨ ¬ f ≤ 9 then (-102, z) else (nI (z.2.1 2 (tn x - 1)), (z.1, va_up z.2.1 2 (upN (z.2.1 2) (tn x - 1) (tn f)), z.2.2))
def marS (z : SG) (x y f : Nat) : MS := marv (z.2.1 1) (z.1 4) x y f (z.2.1 2)
def alv (al x b : Nat) : Nat := (al - (al &&& x)) ||| b
def marchF (z : SG) (x y f : Int32) : Int32 × SG := if noMarch (z.1 4) x y f = true then (-102, z) else if deadv x (nI (z.1 5)) ≠ 0 then (-103, z) else
  (nI (marS z (tn x) (tn y) (tn f)).1, (upG (upG (upG z.1 5 (alv (z.1 5) (tn x) (marS z (tn x) (tn y) (tn f)).1)) 6 (z.1 6 + 1)) 7 (z.1 7 + (if (marS z (tn x) (tn y) (tn f)).1 = 0 then 0 else 1)), va_up z.2.1 2 (marS z (tn x) (tn y) (tn f)).2.2.1, z.2.2))
def sumN (c : Nat → Nat) : Nat := c 0 + c 1 + c 2 + c 3 + c 4
def tellM (m : MS) (what : Int32) : Int32 := if what = 0 then nI m.1 else if what = 1 then nI m.2.1 else if what = 2 then nI (sumN m.2.2.1) else nI m.2.2.2
def wouldF (z : SG) (x y f what : Int32) : Int32 := if noMarch (z.1 4) x y f = true ∨ what < 0 ∨ ¬ what ≤ 3 then -102 else if deadv x (nI (z.1 5)) ≠ 0 then -103 else tellM (marS z (tn x) (tn y) (tn f)) what
def needF (z : SG) (x y : Int32) : Int32 := if noPeople (z.1 4) x = true ∨ noStage y = true then -102 else if deadv x (nI (z.1 5)) ≠ 0 then -103 else needv (z.2.1 1) (z.1 4) (tn x) (tn y) (z.2.1 2)
def farF (z : SG) (x : Int32) : Int32 := if noPeople (z.1 4) x = true then -102 else if deadv x (nI (z.1 5)) ≠ 0 then -103 else nI (farv (z.2.1 1) (z.1 4) (tn x) (z.2.1 2))
def teamF (z : SG) (y : Int32) : Int32 × SG := if noStage y = true then (-102, z) else if z.1 4 = 0 ∨ 20 ≤ z.1 2 then (-103, z) else (teamv (z.2.1 1) (z.1 4) (z.1 5) (tn y) (z.2.1 2), (upG z.1 2 (z.1 2 + 1), z.2))
def hearW (z : SG) (x y f h : Nat) : Nat → Nat → Nat := va_up (va_up (va_up (va_up z.2.1 3 (upN (z.2.1 3) (z.1 8) x)) 4 (upN (z.2.1 4) (z.1 8) y)) 5 (upN (z.2.1 5) (z.1 8) f)) 6 (upN (z.2.1 6) (z.1 8) h)
def hearF (z : SG) (x y f h : Int32) : Int32 × SG := if noMarch (z.1 4) x y f = true then (-102, z) else if 6 ≤ z.1 8 then (-104, z) else (nI (z.1 8 + 1), (upG z.1 8 (z.1 8 + 1), hearW z (tn x) (tn y) (tn f) (if h = 0 then 0 else 1), z.2.2))
def forgetF (z : SG) : Int32 × SG := (nI (z.1 8), (upG z.1 8 0, z.2))
def winS (z : SG) (mn sd : Nat) : Nat × (Nat → Nat) := crw mn (sd, z.2.1 2)
def wintersF (z : SG) (m sd what : Int32) : Int32 := if m < 1 ∨ ¬ m ≤ 20 ∨ sd < 0 ∨ what < 0 ∨ ¬ what ≤ 2 then -102 else if z.1 4 = 0 then -103 else if what = 2 then nI (winS z (tn m) (tn sd)).1 else if what = 0 then nI (sumN (winS z (tn m) (tn sd)).2) else nI (farv (z.2.1 1) (z.1 4) (z.1 5) (winS z (tn m) (tn sd)).2)
def imageG (z : SG) : Nat → Nat := fun k => match k with
  | 0 => 1
  | 9 => z.1 5
  | 10 => z.1 6
  | 11 => z.1 7
  | 12 => z.1 8
  | 13 => z.1 1 + 1
  | k => z.1 k
def imageW (z : SG) : Nat → Nat → Nat := fun k => match k with
  | 7 => z.2.1 2
  | 8 => z.2.1 3
  | 9 => z.2.1 4
  | 10 => z.2.1 5
  | 11 => z.2.1 6
  | k => z.2.1 k
def imageF (z : SG) : Int32 × SG := if z.1 4 = 0 then (-103, z) else (nI (z.1 6), (imageG z, imageW z, z.2.2))
def restoreG (z : SG) : Nat → Nat := fun k => match k with
  | 5 => z.1 9
  | 6 => z.1 10
  | 7 => z.1 11
  | 8 => z.1 12
  | k => z.1 k
def restoreW (z : SG) : Nat → Nat → Nat := fun k => match k with
  | 2 => z.2.1 7
  | 3 => z.2.1 8
  | 4 => z.2.1 9
  | 5 => z.2.1 10
  | 6 => z.2.1 11
  | k => z.2.1 k
def restoreF (z : SG) : Int32 × SG := if z.1 0 = 1 then (nI (z.1 10), (restoreG z, restoreW z, z.2.2)) else (-103, z)
def countN (z : SG) (k : Nat) : Nat := match k with
  | 0 => z.1 4
  | 1 => pcn (z.1 5)
  | 2 => sumN (z.2.1 2)
  | 3 => z.1 6
  | 4 => z.1 7
  | 5 => sumk pls (z.2.1 1) (z.1 5) (z.1 4)
  | 6 => sumk ets (z.2.1 1) (z.1 5) (z.1 4)
  | 7 => z.1 8
  | 8 => z.1 3
  | 9 => z.1 1
  | _ => z.1 2
def countF (z : SG) (what : Int32) : Int32 := if what < 0 ∨ ¬ what ≤ 10 then -102 else nI (countN z (tn what))
def sayv (h : Int64) (v : Int32) : Int64 := 31 * h + v.toInt64
def sayM (z : SG) (m : Nat) (h : Int64) : Nat → Int64
  | 0 => h
  | k + 1 => sayv (sayM z m h k) (tellF z m (nI k))
def sayMs (z : SG) (h : Int64) : Nat → Int64
  | 0 => h
  | m + 1 => sayM z m (sayMs z h m) 5
def sayC (z : SG) (h : Int64) : Nat → Int64
  | 0 => h
  | q + 1 => sayv (sayv (sayC z h q) (nI (z.2.1 2 q))) (nI (layS z (q + 1)))
def sayW (z : SG) (h : Int64) : Nat → Int64
  | 0 => h
  | k + 1 => sayv (sayW z h k) (tellM (marS z (z.1 5) 5 12) (nI k))
def sayP (z : SG) (h : Int64) : Nat → Int64
  | 0 => h
  | k + 1 => sayv (sayP z h k) (z.2.2 k)
def sayN (z : SG) (h : Int64) : Nat → Int64
  | 0 => h
  | k + 1 => sayv (sayN z h k) (nI (countN z k))
def sayCs (z : SG) (h : Int64) : Int64 := if z.1 4 = 0 then h else sayv (sayC z h 5) (tryS z 3)
def sayL (z : SG) (h : Int64) : Int64 := if z.1 5 = 0 then h else sayW z (sayv (sayv (sayv h (nI (farv (z.2.1 1) (z.1 4) (z.1 5) (z.2.1 2)))) (needv (z.2.1 1) (z.1 4) (z.1 5) 1 (z.2.1 2))) (needv (z.2.1 1) (z.1 4) (z.1 5) 4 (z.2.1 2))) 4
def digestF (z : SG) : Int64 := sayN z (sayP z (sayL z (sayCs z (sayMs z 1051 (z.1 4)))) (z.1 3)) 11
/-! arguments read as whole numbers -/
theorem tn_nI {k : Nat} (h : k < 2 ^ 31) : tn (nI k) = k := nI_clamp h
theorem tn_of {x : Int32} {M : Nat} (hM : M < 2 ^ 31) (h : ¬ x < 0) (h2 : x ≤ nI M) : ∃ k, k ≤ M ∧ x = nI k ∧ tn x = k := by
  obtain ⟨j, hj, e⟩ := nI_of2 (nI_toInt hM) h h2
  exact ⟨j, hj, e, by rw [e]; exact tn_nI (by omega)⟩
theorem neg_1 {x : Int32} (h : ¬ x < 1) : ¬ x < 0 := by
  simp only [Int32.lt_iff_toInt_lt] at h ⊢
  have h1 : (1 : Int32).toInt = 1 := rfl
  have h0 : (0 : Int32).toInt = 0 := rfl
  omega
theorem ge_1 {k : Nat} (hk : k < 2 ^ 31) (h : ¬ nI k < 1) : 1 ≤ k := by
  rcases Nat.eq_zero_or_pos k with e | e
  · subst e; exact absurd (by decide) h
  · exact e
theorem people_of {n : Nat} {x : Int32} (hn : n ≤ 6) (h : noPeople n x = false) : ∃ k, 1 ≤ k ∧ k < 2 ^ n ∧ x = nI k ∧ tn x = k := by
  unfold noPeople at h
  simp only [Bool.or_eq_false_iff, Bool.not_eq_false', decide_eq_false_iff_not, decide_eq_true_eq] at h
  have hp := pow_le6 hn
  have hp1 := Nat.pow_pos (n := n) (show 0 < 2 by decide)
  obtain ⟨k, h1, h2, h3⟩ := tn_of (by omega) (neg_1 h.1) h.2
  refine ⟨k, ge_1 (by omega) (h2 ▸ h.1), by omega, h2, h3⟩
theorem stage_of {y : Int32} (h : noStage y = false) : ∃ k, 1 ≤ k ∧ k ≤ 6 ∧ y = nI k ∧ tn y = k := by
  unfold noStage at h
  simp only [Bool.or_eq_false_iff, Bool.not_eq_false', decide_eq_false_iff_not, decide_eq_true_eq] at h
  obtain ⟨k, h1, h2, h3⟩ := tn_of (M := 6) (by decide) (neg_1 h.1) h.2
  exact ⟨k, ge_1 (by omega) (h2 ▸ h.1), h1, h2, h3⟩
theorem food_of {f : Int32} (h : noFood f = false) : ∃ k, k ≤ 40 ∧ f = nI k ∧ tn f = k := by
  unfold noFood at h
  simp only [Bool.or_eq_false_iff, Bool.not_eq_false', decide_eq_false_iff_not, decide_eq_true_eq] at h
  exact tn_of (M := 40) (by decide) h.1 h.2
theorem march_of {n : Nat} {x y f : Int32} (h : noMarch n x y f = false) : noPeople n x = false ∧ noStage y = false ∧ noFood f = false := by
  unfold noMarch at h
  simpa only [Bool.or_eq_false_iff] using h
theorem cairn_of {n : Nat} {x : Int32} (h : noCairn n x = false) : n ≠ 0 ∧ ∃ k, 1 ≤ k ∧ k < 6 ∧ x = nI k ∧ tn x = k := by
  unfold noCairn at h
  simp only [Bool.or_eq_false_iff, Bool.not_eq_false', decide_eq_false_iff_not, decide_eq_true_eq] at h
  obtain ⟨k, h1, h2, h3⟩ := tn_of (M := 5) (by decide) (neg_1 h.1) h.2.1
  exact ⟨h.2.2, k, ge_1 (by omega) (h2 ▸ h.1), by omega, h2, h3⟩
theorem member_of {z : SG} {m : Int32} (v : VS z) (h : noMember z m = false) : ∃ k, k < z.1 4 ∧ m = nI k ∧ tn m = k := by
  unfold noMember at h
  simp only [Bool.or_eq_false_iff, Bool.not_eq_false', decide_eq_false_iff_not, decide_eq_true_eq] at h
  have hn := v.2.2.2.1
  obtain ⟨k, h1, h2, h3⟩ := tn_of (M := z.1 4) (by omega) h.1 (by
    have := h.2
    simp only [Int32.lt_iff_toInt_lt, Int32.le_iff_toInt_le] at this ⊢
    omega)
  refine ⟨k, ?_, h2, h3⟩
  have h4 := h.2
  rw [h2] at h4
  exact (nI_ltI (by omega) (by omega)).mp h4
end
section
theorem and_not2 : ∀ x, x < 64 → ∀ y, y < 64 → nI x &&& (nI y ^^^ (-1)) = nI (x - (x &&& y)) := by decide +kernel
theorem or_nI : ∀ x, x < 64 → ∀ y, y < 64 → nI x ||| nI y = nI (x ||| y) := by decide +kernel
theorem alv_lt {x y b n : Nat} (hx : x < 2 ^ n) (hb : b < 2 ^ n) : alv x y b < 2 ^ n := Nat.or_lt_two_pow (Nat.lt_of_le_of_lt (Nat.sub_le _ _) hx) hb
theorem march_al {x y b n : Nat} (hn : n ≤ 6) (hx : x < 2 ^ n) (hy : y < 2 ^ n) (hb : b < 2 ^ n) : (nI x &&& (nI y ^^^ (-1))) ||| nI b = nI (alv x y b) := by
  have := pow_le6 hn
  rw [and_not2 x (by omega) y (by omega), or_nI _ (by omega) _ (by omega)]
  rfl
theorem mar_ok {kd : Nat → Nat} {n x st f : Nat} {c : Nat → Nat} (hn : n ≤ 6) (hx : x < 2 ^ n) (hc : ∀ k, k < 5 → c k ≤ 9) : MOK kd n (marv kd n x st f c) := runv_ok hn _ _ (mok0 hx hc)
theorem kind_ok {x : Int32} (h : kindOfv x ≠ -1) : kindOfv x = nI (kdn x) ∧ kdn x ≤ 4 := by
  have key : kindOfv x = nI 0 ∨ kindOfv x = nI 1 ∨ kindOfv x = nI 2 ∨ kindOfv x = nI 3 ∨ kindOfv x = nI 4 := by
    unfold kindOfv at h ⊢
    by_cases e1 : x = 109
    · rw [if_pos e1]; exact Or.inl rfl
    rw [if_neg e1] at h ⊢
    by_cases e2 : x = 112
    · rw [if_pos e2]; exact Or.inr (Or.inl rfl)
    rw [if_neg e2] at h ⊢
    by_cases e3 : x = 100
    · rw [if_pos e3]; exact Or.inr (Or.inr (Or.inl rfl))
    rw [if_neg e3] at h ⊢
    by_cases e4 : x = 98
    · rw [if_pos e4]; exact Or.inr (Or.inr (Or.inr (Or.inl rfl)))
    rw [if_neg e4] at h ⊢
    by_cases e5 : x = 104
    · rw [if_pos e5]; exact Or.inr (Or.inr (Or.inr (Or.inr rfl)))
    rw [if_neg e5] at h
    exact absurd rfl h
  unfold kdn
  rcases key with e | e | e | e | e <;> rw [e] <;> exact ⟨rfl, by decide⟩
theorem digit_ok {x : Int32} (h1 : 48 ≤ x) (h2 : x ≤ 57) : x - 48 = nI (fdn x) ∧ fdn x ≤ 9 := by
  have h0 : ¬ x < 0 := by
    simp only [Int32.lt_iff_toInt_lt, Int32.le_iff_toInt_le] at h1 ⊢
    have a1 : (48 : Int32).toInt = 48 := rfl
    have a0 : (0 : Int32).toInt = 0 := rfl
    omega
  obtain ⟨k, hk, e, -⟩ := tn_of (M := 57) (by decide) h0 h2
  subst e
  have h3 : 48 ≤ k := (nI_leI (a := 48) (by decide) (by omega)).mp h1
  have e2 : nI k - 48 = nI (k - 48) := pk_sub (b := 48) h3
  unfold fdn
  rw [e2, tn_nI (by omega)]
  exact ⟨rfl, by omega⟩
/-- what a camp of the page is -/
theorem camp_facts {f : Nat → Int32} {L : Nat} (h : campb f L = true) : 8 ≤ L ∧ L ≤ 12 ∧ (∀ k, k < L - 6 → kindOfv (f k) = nI (kdn (f k)) ∧ kdn (f k) ≤ 4) ∧ (∀ k, k < 5 → f (L - 5 + k) - 48 = nI (fdn (f (L - 5 + k))) ∧ fdn (f (L - 5 + k)) ≤ 9) := by
  unfold campb at h
  simp only [Bool.and_eq_true, decide_eq_true_eq] at h
  have hs := scv_SI (f := f) L 0 0 SI_0
  obtain ⟨e1, e2, e3⟩ := h
  rw [e1] at hs
  obtain ⟨h1, h2, h3, h4, h5, h6⟩ := hs
  have h2' := h2 e2
  refine ⟨by omega, by omega, fun k hk => kind_ok (h5 k (by omega) (Or.inl (by omega))), fun k hk => ?_⟩
  obtain ⟨d1, d2⟩ := h6 (L - 5 + k) (by omega) e2 (by omega)
  exact digit_ok d1 d2
theorem campb_congr {f g : Nat → Int32} {L : Nat} (h : ∀ j, j < L → f j = g j) : campb f L = campb g L := by
  unfold campb
  rw [scv_congr h L 0 0 (by omega)]
/-! VS stays -/
theorem vs_letter {z : SG} (v : VS z) (x : Int32) : VS (letterF z x).2 := by
  unfold letterF
  split
  · exact v
  · split
    · exact v
    · rename_i h1 h2
      obtain ⟨v0, v2, v3, v4, v5, v8, vk, vc, vh, vi, v13, vb⟩ := v
      exact ⟨v0, v2, show z.1 3 + 1 ≤ 15 by omega, v4, v5, v8, vk, vc, vh, vi, v13, vb⟩
theorem vs_blank {z : SG} (v : VS z) : VS (blankF z).2 := by
  obtain ⟨v0, v2, v3, v4, v5, v8, vk, vc, vh, vi, v13, vb⟩ := v
  exact ⟨v0, v2, Nat.zero_le _, v4, v5, v8, vk, vc, vh, vi, v13, vb⟩
theorem vs_forget {z : SG} (v : VS z) : VS (forgetF z).2 := by
  obtain ⟨v0, v2, v3, v4, v5, v8, vk, vc, vh, vi, v13, vb⟩ := v
  exact ⟨v0, v2, v3, v4, v5, Nat.zero_le _, vk, vc, fun k hk => absurd hk (Nat.not_lt_zero k), vi, v13, vb⟩
theorem vs_camp {z : SG} (v : VS z) : VS (campF z).2 := by
  unfold campF
  split
  · rename_i h
    obtain ⟨f1, f2, f3, f4⟩ := camp_facts h
    obtain ⟨v0, v2, v3, v4, v5, v8, vk, vc, vh, vi, v13, vb⟩ := v
    have hp := Nat.pow_pos (n := z.1 3 - 6) (show 0 < 2 by decide)
    refine ⟨Nat.zero_le _, v2, Nat.zero_le _, show z.1 3 - 6 ≤ 6 by omega, show 2 ^ (z.1 3 - 6) - 1 < 2 ^ (z.1 3 - 6) by omega, Nat.zero_le _, fun k hk => (f3 k hk).2, fun k hk => (f4 k hk).2, fun k hk => absurd hk (Nat.not_lt_zero k), fun h => absurd h (show ¬ (0 : Nat) = 1 by decide), show z.1 13 ≤ z.1 1 + 1 + 1 by omega, ?_⟩
    show (0 : Nat) = 1 ↔ z.1 13 = z.1 1 + 1 + 1
    omega
  · exact v
theorem vs_lay {z : SG} (v : VS z) (x f : Int32) : VS (layF z x f).2 := by
  unfold layF
  split
  · exact v
  · split
    · exact v
    · rename_i h1 h2
      obtain ⟨v0, v2, v3, v4, v5, v8, vk, vc, vh, vi, v13, vb⟩ := v
      obtain ⟨k, hk, -, e⟩ := tn_of (x := f) (M := 9) (by decide) (fun h => h2 (Or.inl h)) (Classical.not_not.mp (fun h => h2 (Or.inr h)))
      refine ⟨v0, v2, v3, v4, v5, v8, vk, ?_, vh, vi, v13, vb⟩
      rw [e]
      exact upN_le vc hk
theorem vs_march {z : SG} (v : VS z) (x y f : Int32) : VS (marchF z x y f).2 := by
  unfold marchF
  split
  · exact v
  · split
    · exact v
    · rename_i h1 h2
      obtain ⟨v0, v2, v3, v4, v5, v8, vk, vc, vh, vi, v13, vb⟩ := v
      have h3 := march_of (by simpa using h1)
      obtain ⟨k, k1, k2, -, e⟩ := people_of v4 h3.1
      have hm : MOK (z.2.1 1) (z.1 4) (marS z (tn x) (tn y) (tn f)) := mar_ok v4 (by rw [e]; exact k2) vc
      exact ⟨v0, v2, v3, v4, alv_lt v5 hm.1.1, v8, vk, hm.2.1, vh, vi, v13, vb⟩
theorem vs_team {z : SG} (v : VS z) (y : Int32) : VS (teamF z y).2 := by
  unfold teamF
  split
  · exact v
  · split
    · exact v
    · rename_i h1 h2
      obtain ⟨v0, v2, v3, v4, v5, v8, vk, vc, vh, vi, v13, vb⟩ := v
      exact ⟨v0, show z.1 2 + 1 ≤ 20 by omega, v3, v4, v5, v8, vk, vc, vh, vi, v13, vb⟩
theorem vs_hear {z : SG} (v : VS z) (x y f h : Int32) : VS (hearF z x y f h).2 := by
  unfold hearF
  split
  · exact v
  · split
    · exact v
    · rename_i h1 h2
      obtain ⟨v0, v2, v3, v4, v5, v8, vk, vc, vh, vi, v13, vb⟩ := v
      have h3 := march_of (by simpa using h1)
      obtain ⟨a, a1, a2, -, ea⟩ := people_of v4 h3.1
      obtain ⟨b, b1, b2, -, eb⟩ := stage_of h3.2.1
      obtain ⟨d, d1, -, ed⟩ := food_of h3.2.2
      refine ⟨v0, v2, v3, v4, v5, show z.1 8 + 1 ≤ 6 by omega, vk, vc, fun k hk => ?_, vi, v13, vb⟩
      show upN (z.2.1 3) (z.1 8) (tn x) k < 2 ^ z.1 4 ∧ upN (z.2.1 4) (z.1 8) (tn y) k ≤ 6 ∧ upN (z.2.1 5) (z.1 8) (tn f) k ≤ 40 ∧ upN (z.2.1 6) (z.1 8) (if h = 0 then 0 else 1) k ≤ 1
      unfold upN
      by_cases e : k = z.1 8
      · simp only [if_pos e]
        refine ⟨by omega, by omega, by omega, ?_⟩
        split <;> omega
      · simp only [if_neg e]
        exact vh k (by have hk' : k < z.1 8 + 1 := hk; omega)
theorem vs_image {z : SG} (v : VS z) : VS (imageF z).2 := by
  unfold imageF
  split
  · exact v
  · obtain ⟨v0, v2, v3, v4, v5, v8, vk, vc, vh, vi, v13, vb⟩ := v
    exact ⟨Nat.le_refl _, v2, v3, v4, v5, v8, vk, vc, vh, fun _ => ⟨v5, v8, vc, vh⟩, Nat.le_refl _, ⟨fun _ => rfl, fun _ => rfl⟩⟩
theorem vs_restore {z : SG} (v : VS z) : VS (restoreF z).2 := by
  unfold restoreF
  split
  · rename_i h
    obtain ⟨v0, v2, v3, v4, v5, v8, vk, vc, vh, vi, v13, vb⟩ := v
    obtain ⟨w1, w2, w3, w4⟩ := vi h
    exact ⟨v0, v2, v3, v4, w1, w2, vk, w3, w4, vi, v13, vb⟩
  · exact v
/-! the class's object behind each change -/
theorem cl_letter {z : SG} {i : Nat → Int32} {r : Nat → Nat → Int32} {x : Int32} (h : Cls z i r) (h15 : z.1 3 < 15) : Cls (upG z.1 3 (z.1 3 + 1), z.2.1, upd z.2.2 (z.1 3) x) (upd i 3 (i 3 + 1)) (va_up r 0 (putv 15 (r 0) (i 3) x)) := by
  obtain ⟨⟨h0, h1, h2, h3, h4, h5, h6, h7, h8⟩, ⟨p0, p1, p2, p3⟩, hk⟩ := h
  refine ⟨⟨h0, h1, h2, ?_, h4, h5, h6, h7, h8⟩, ⟨fun k hk => ?_, p1, p2, p3⟩, hk⟩
  · show i 3 + 1 = nI (z.1 3 + 1)
    rw [h3, nI_1]
  · show putv 15 (r 0) (i 3) x k = upd z.2.2 (z.1 3) x k
    rw [h3, putv_nI h15 (by decide)]
    unfold upd
    by_cases e : k = z.1 3
    · rw [if_pos e, if_pos e]
    · rw [if_neg e, if_neg e]; exact p0 k (by have hk' : k < z.1 3 + 1 := hk; omega)
theorem cl_blank {z : SG} {i : Nat → Int32} {r : Nat → Nat → Int32} (h : Cls z i r) : Cls (blankF z).2 (upd i 3 0) r := by
  obtain ⟨⟨h0, h1, h2, h3, h4, h5, h6, h7, h8⟩, ⟨p0, p1, p2, p3⟩, hk⟩ := h
  exact ⟨⟨h0, h1, h2, rfl, h4, h5, h6, h7, h8⟩, ⟨fun k hk => absurd hk (Nat.not_lt_zero k), p1, p2, p3⟩, hk⟩
theorem cl_forget {z : SG} {i : Nat → Int32} {r : Nat → Nat → Int32} (h : Cls z i r) : Cls (forgetF z).2 (upd i 13 0) r := by
  obtain ⟨⟨h0, h1, h2, h3, h4, h5, h6, h7, h8⟩, ⟨p0, p1, p2, p3⟩, hk⟩ := h
  exact ⟨⟨h0, h1, h2, h3, h4, h5, h6, h7, rfl⟩, ⟨p0, p1, p2, fun k hk => absurd hk (Nat.not_lt_zero k)⟩, hk⟩
theorem cl_lay {z : SG} {i : Nat → Int32} {r : Nat → Nat → Int32} {q f : Nat} (h : Cls z i r) (h1 : 1 ≤ q) (h6 : q < 6) : Cls (z.1, va_up z.2.1 2 (upN (z.2.1 2) (q - 1) f), z.2.2) i (va_up r 3 (putv 5 (r 3) (nI q - 1) (nI f))) := by
  obtain ⟨hn, ⟨p0, p1, p2, p3⟩, hk⟩ := h
  exact ⟨hn, ⟨p0, p1, put_up h1 h6 p2, p3⟩, hk⟩
theorem cl_team {z : SG} {i : Nat → Int32} {r : Nat → Nat → Int32} (h : Cls z i r) : Cls (upG z.1 2 (z.1 2 + 1), z.2) (upd i 2 (i 2 + 1)) r := by
  obtain ⟨⟨h0, h1, h2, h3, h4, h5, h6, h7, h8⟩, ⟨p0, p1, p2, p3⟩, hk⟩ := h
  refine ⟨⟨h0, h1, ?_, h3, h4, h5, h6, h7, h8⟩, ⟨p0, p1, p2, p3⟩, hk⟩
  show i 2 + 1 = nI (z.1 2 + 1)
  rw [h2, nI_1]
theorem cl_march {z : SG} {i : Nat → Int32} {r : Nat → Nat → Int32} {x b a7 : Nat} {c : Nat → Nat} {v10 v12 : Int32} (h : Cls z i r) (h10 : v10 = nI (alv (z.1 5) x b)) (h12 : v12 = nI (z.1 7 + a7)) {r3 : Nat → Int32} (hc : ∀ k, k < 5 → r3 k = nI (c k)) :
    Cls (upG (upG (upG z.1 5 (alv (z.1 5) x b)) 6 (z.1 6 + 1)) 7 (z.1 7 + a7), va_up z.2.1 2 c, z.2.2) (upd (upd (upd i 10 v10) 11 (i 11 + 1)) 12 v12) (va_up r 3 r3) := by
  obtain ⟨⟨h0, h1, h2, h3, h4, h5, h6, h7, h8⟩, ⟨p0, p1, p2, p3⟩, hk⟩ := h
  refine ⟨⟨h0, h1, h2, h3, h4, h10, ?_, h12, h8⟩, ⟨p0, p1, hc, p3⟩, hk⟩
  show i 11 + 1 = nI (z.1 6 + 1)
  rw [h6, nI_1]
theorem cl_hear {z : SG} {i : Nat → Int32} {r : Nat → Nat → Int32} {x y f : Nat} {h' : Int32} (h : Cls z i r) (h6' : z.1 8 < 6) :
    Cls (upG z.1 8 (z.1 8 + 1), hearW z x y f (if h' = 0 then 0 else 1), z.2.2) (upd i 13 (i 13 + 1)) (va_up (va_up (va_up (va_up r 4 (putv 6 (r 4) (i 13) (nI x))) 5 (putv 6 (r 5) (i 13) (nI y))) 6 (putv 6 (r 6) (i 13) (nI f))) 7 (putv 6 (r 7) (i 13) (if h' = 0 then 0 else 1))) := by
  obtain ⟨⟨h0, h1, h2, h3, h4, h5, h6, h7, h8⟩, ⟨p0, p1, p2, p3⟩, hk⟩ := h
  refine ⟨⟨h0, h1, h2, h3, h4, h5, h6, h7, ?_⟩, ⟨p0, p1, p2, fun k hk => ?_⟩, hk⟩
  · show i 13 + 1 = nI (z.1 8 + 1)
    rw [h8, nI_1]
  · show putv 6 (r 4) (i 13) (nI x) k = nI (upN (z.2.1 3) (z.1 8) x k) ∧ putv 6 (r 5) (i 13) (nI y) k = nI (upN (z.2.1 4) (z.1 8) y k) ∧ putv 6 (r 6) (i 13) (nI f) k = nI (upN (z.2.1 5) (z.1 8) f k) ∧ putv 6 (r 7) (i 13) (if h' = 0 then 0 else 1) k = nI (upN (z.2.1 6) (z.1 8) (if h' = 0 then 0 else 1) k)
    rw [h8, putv_nI h6' (by decide), putv_nI h6' (by decide), putv_nI h6' (by decide), putv_nI h6' (by decide)]
    unfold upd upN
    by_cases e : k = z.1 8
    · simp only [if_pos e]
      refine ⟨trivial, trivial, trivial, ?_⟩
      by_cases e2 : h' = 0
      · rw [if_pos e2, if_pos e2]; rfl
      · rw [if_neg e2, if_neg e2]; rfl
    · simp only [if_neg e]
      exact p3 k (by have hk' : k < z.1 8 + 1 := hk; omega)
theorem cpv_k {n : Nat} {f g : Nat → Int32} {k : Nat} (hn : n < 2 ^ 31) (hk : k < n) : cpv n f n g n k = f k := by
  rw [cpv_at hn hn n (Nat.le_refl _) (Nat.le_refl _), if_pos hk]
theorem cl_image {z : SG} {i : Nat → Int32} {r : Nat → Nat → Int32} (v : VS z) (h : Cls z i r) : Cls (imageG z, imageW z, z.2.2) (upd (upd (upd (upd (upd i 14 (i 10)) 15 (i 11)) 16 (i 12)) 17 (i 13)) 0 1) (va_up (va_up (va_up (va_up (va_up r 8 (cpv 5 (r 3) 5 (r 8) 5)) 9 (cpv 6 (r 4) 6 (r 9) 6)) 10 (cpv 6 (r 5) 6 (r 10) 6)) 11 (cpv 6 (r 6) 6 (r 11) 6)) 12 (cpv 6 (r 7) 6 (r 12) 6)) := by
  obtain ⟨⟨h0, h1, h2, h3, h4, h5, h6, h7, h8⟩, ⟨p0, p1, p2, p3⟩, hk⟩ := h
  have v8 := v.2.2.2.2.2.1
  refine ⟨⟨rfl, h1, h2, h3, h4, h5, h6, h7, h8⟩, ⟨p0, p1, p2, p3⟩, fun _ => ⟨⟨h5, h6, h7, h8⟩, fun k hk => ?_, fun k hk => ?_⟩⟩
  · show cpv 5 (r 3) 5 (r 8) 5 k = _
    rw [cpv_k (by decide) hk]; exact p2 k hk
  · have hk' : k < z.1 8 := hk
    show cpv 6 (r 4) 6 (r 9) 6 k = _ ∧ cpv 6 (r 5) 6 (r 10) 6 k = _ ∧ cpv 6 (r 6) 6 (r 11) 6 k = _ ∧ cpv 6 (r 7) 6 (r 12) 6 k = _
    rw [cpv_k (by decide) (by omega), cpv_k (by decide) (by omega), cpv_k (by decide) (by omega), cpv_k (by decide) (by omega)]
    exact p3 k hk'
theorem cl_restore {z : SG} {i : Nat → Int32} {r : Nat → Nat → Int32} (v : VS z) (h : Cls z i r) (hi : z.1 0 = 1) : Cls (restoreG z, restoreW z, z.2.2) (upd (upd (upd (upd i 10 (i 14)) 11 (i 15)) 12 (i 16)) 13 (i 17)) (va_up (va_up (va_up (va_up (va_up r 3 (cpv 5 (r 8) 5 (r 3) 5)) 4 (cpv 6 (r 9) 6 (r 4) 6)) 5 (cpv 6 (r 10) 6 (r 5) 6)) 6 (cpv 6 (r 11) 6 (r 6) 6)) 7 (cpv 6 (r 12) 6 (r 7) 6)) := by
  obtain ⟨⟨h0, h1, h2, h3, h4, h5, h6, h7, h8⟩, ⟨p0, p1, p2, p3⟩, hk⟩ := h
  obtain ⟨⟨k1, k2, k3, k4⟩, k5, k6⟩ := hk hi
  have v12 := (v.2.2.2.2.2.2.2.2.2.1 hi).2.1
  refine ⟨⟨h0, h1, h2, h3, h4, k1, k2, k3, k4⟩, ⟨p0, p1, fun k hk => ?_, fun k hk => ?_⟩, fun _ => ⟨⟨k1, k2, k3, k4⟩, k5, k6⟩⟩
  · show cpv 5 (r 8) 5 (r 3) 5 k = _
    rw [cpv_k (by decide) hk]; exact k5 k hk
  · have hk' : k < z.1 12 := hk
    show cpv 6 (r 9) 6 (r 4) 6 k = _ ∧ cpv 6 (r 10) 6 (r 5) 6 k = _ ∧ cpv 6 (r 11) 6 (r 6) 6 k = _ ∧ cpv 6 (r 12) 6 (r 7) 6 k = _
    rw [cpv_k (by decide) (by omega), cpv_k (by decide) (by omega), cpv_k (by decide) (by omega), cpv_k (by decide) (by omega)]
    exact k6 k hk'
theorem lay_lt {z : SG} {q : Nat} : layS z q < 1024 := lyv_lt _ 10
theorem sum_nI {f : Nat → Int32} {c : Nat → Nat} (h : ∀ k, k < 5 → f k = nI (c k)) : sumv f 5 = nI (sumN c) := by
  show (((((0 + f 0) + f 1) + f 2) + f 3) + f 4) = _
  rw [h 0 (by decide), h 1 (by decide), h 2 (by decide), h 3 (by decide), h 4 (by decide), show (0 : Int32) = nI 0 from rfl, nI_add, nI_add, nI_add, nI_add, nI_add]
  unfold sumN
  rw [Nat.zero_add]
end
section
set_option maxHeartbeats 4000000 in
set_option maxRecDepth 100000 in
theorem c_letter (l : Launch) (D : va_G) (cI : ClassId) (tt : Nat × Nat × Nat) (a : Nat → Nat) (i : Nat → Int32) (r : Nat → Nat → Int32) (x : Int32) (z : SG) (hz : Cls z i r) (vz : VS z) : MetI (S := ((Nat → Int32) × (Nat → Nat → Int32))) l yX3_letter cX3_letter 2 (some .int) (rm 2 43) D cI tt [.ref (a 0), .int x] (cW cI a i r) (fun q u => q = (letterF z x).1 ∧ Cls (letterF z x).2 u.1 u.2) (fun u => cW cI a u.1 u.2) := by
  refine met_ofI (by decide) (Nat.le_of_ble_eq_true rfl) ?_
  intro pP eE sS mM aV bB mE cC AA C hin
  refine z_conv (lv' := [(0, .ref (a 0)), (1, .int x)]) ⟨rfl, rfl, trivial⟩ rfl rfl ?_
  refine z_iload_n C (pc := 0) dX3_letter_0 rfl ?_
  refine z_iconst C (pc := 1) (v := 1) dX3_letter_1 (by decide) ?_
  refine z_icmp_lt C (pc := 2) (tgt := 11) dX3_letter_2 (by decide) (fun c_1 => ?_) (fun c_1 => ?_)
  · refine z_bipush C (pc := 11) (v := (-102)) dX3_letter_11 (by decide) ?_
    refine z_iret C (pc := 13) (i, r) dX3_letter_13 ?_ rfl
    rw [show letterF z x = (-102, z) from if_pos (Or.inl c_1)]
    exact ⟨rfl, hz⟩
  · refine z_iload_n C (pc := 5) dX3_letter_5 rfl ?_
    refine z_bipush C (pc := 6) (v := 126) dX3_letter_6 (by decide) ?_
    refine z_icmp_le C (pc := 8) (tgt := 14) dX3_letter_8 (by decide) (fun c_2 => ?_) (fun c_2 => ?_)
    · refine z_aload_n C (pc := 14) dX3_letter_14 rfl ?_
      refine z_get C (pc := 15) 0 rfl rfl wf_X3 0 (by decide) rfl wl_X3_10 (v := .ref (a 1)) rfl dX3_letter_15 ?_
      refine z_iload_n C (pc := 18) dX3_letter_18 rfl ?_
      refine z_calliF C (by exact fun _ => cW_ad) (runVN C (wc := (cW cI a i r)) (pc := 19) (rY' := rm 1 22) (nn := 1) (As := [.int x]) (rest := []) (c_add l D cI tt a i r x) (full_hC _) (full_nd _) ⟨rfl, rfl, ⟨Nat.le_of_ble_eq_true rfl, Nat.le_of_ble_eq_true rfl⟩, Nat.le_of_ble_eq_true rfl, Nat.le_of_ble_eq_true rfl⟩ wl_X3_37 wm_X0_add we_X0_add wi_X0 wc_X0_add (by decide +kernel) rfl 1 rfl rfl rfl rfl (Nat.le_of_ble_eq_true rfl) dX3_letter_19) (fun q_3 u_3 h_3 => ?_)
      obtain ⟨i3, r3⟩ := u_3
      try dsimp only at h_3
      refine z_ws (st' := [.int q_3]) (ws' := (cW cI a i3 r3)) rfl rfl ?_
      refine z_if_eq C (pc := 22) (tgt := 35) dX3_letter_22 (by decide) (fun c_4 => ?_) (fun c_4 => ?_)
      · have hA : nI 15 ≤ i 3 ∧ (i3, r3) = (i, r) := by
          rcases h_3 with ⟨h1, h2, h3⟩ | ⟨h1, h2, h3⟩
          · exact ⟨h1, h3⟩
          · exact absurd (h2 ▸ c_4) (by decide)
        obtain ⟨hA1, hA2⟩ := hA
        obtain ⟨e1, e2⟩ := Prod.mk.inj hA2
        rw [hz.1.2.2.2.1] at hA1
        have hF := ge_of_nI hA1 (by decide)
        refine z_bipush C (pc := 35) (v := (-104)) dX3_letter_35 (by decide) ?_
        refine z_iret C (pc := 37) (i3, r3) dX3_letter_37 ?_ rfl
        rw [show letterF z x = (-104, z) from (if_neg (fun h => h.elim (fun h => c_1 h) (fun h => h c_2))).trans (if_pos hF), e1, e2]
        exact ⟨rfl, hz⟩
      · have hA : ¬ nI 15 ≤ i 3 ∧ (i3, r3) = (upd i 3 (i 3 + 1), va_up r 0 (putv 15 (r 0) (i 3) x)) := by
          rcases h_3 with ⟨h1, h2, h3⟩ | ⟨h1, h2, h3⟩
          · exact absurd h2 c_4
          · exact ⟨h1, h3⟩
        obtain ⟨hA1, hA2⟩ := hA
        obtain ⟨e1, e2⟩ := Prod.mk.inj hA2
        rw [hz.1.2.2.2.1] at hA1
        have hF : z.1 3 < 15 := lt_of_nI hA1 (by have := vz.2.2.1; omega)
        refine z_aload_n C (pc := 25) dX3_letter_25 rfl ?_
        refine z_get C (pc := 26) 0 rfl rfl wf_X3 0 (by decide) rfl wl_X3_10 (v := .ref (a 1)) rfl dX3_letter_26 ?_
        refine z_getN C (pc := 29) 1 rfl rfl wf_X0 1 (by decide) rfl wl_X3_41 (v := .int (i3 3)) rfl dX3_letter_29 ?_
        refine z_goto C (pc := 32) (tgt := 37) dX3_letter_32 (by decide) ?_
        refine z_iret C (pc := 37) (i3, r3) dX3_letter_37 ?_ rfl
        rw [show letterF z x = (nI (z.1 3 + 1), (upG z.1 3 (z.1 3 + 1), z.2.1, upd z.2.2 (z.1 3) x)) from (if_neg (fun h => h.elim (fun h => c_1 h) (fun h => h c_2))).trans (if_neg (by omega)), e1, e2]
        exact ⟨by rw [upd_s, hz.1.2.2.2.1, nI_1], cl_letter hz hF⟩
    · refine z_bipush C (pc := 11) (v := (-102)) dX3_letter_11 (by decide) ?_
      refine z_iret C (pc := 13) (i, r) dX3_letter_13 ?_ rfl
      rw [show letterF z x = (-102, z) from if_pos (Or.inr c_2)]
      exact ⟨rfl, hz⟩

set_option maxHeartbeats 4000000 in
set_option maxRecDepth 100000 in
theorem c_blank (l : Launch) (D : va_G) (cI : ClassId) (tt : Nat × Nat × Nat) (a : Nat → Nat) (i : Nat → Int32) (r : Nat → Nat → Int32) (z : SG) (hz : Cls z i r) (vz : VS z) : MetI (S := ((Nat → Int32) × (Nat → Nat → Int32))) l yX3_blank cX3_blank 2 (some .int) (rm 0 0) D cI tt [.ref (a 0)] (cW cI a i r) (fun q u => q = (blankF z).1 ∧ Cls (blankF z).2 u.1 u.2) (fun u => cW cI a u.1 u.2) := by
  refine met_ofI (by decide) (Nat.le_of_ble_eq_true rfl) ?_
  intro pP eE sS mM aV bB mE cC AA C hin
  refine z_conv (lv' := [(0, .ref (a 0))]) ⟨rfl, trivial⟩ rfl rfl ?_
  refine z_aload_n C (pc := 0) dX3_blank_0 rfl ?_
  refine z_get C (pc := 1) 0 rfl rfl wf_X3 0 (by decide) rfl wl_X3_10 (v := .ref (a 1)) rfl dX3_blank_1 ?_
  refine z_getN C (pc := 4) 1 rfl rfl wf_X0 1 (by decide) rfl wl_X3_41 (v := .int (i 3)) rfl dX3_blank_4 ?_
  refine z_istore_n C (pc := 7) (lv' := [(0, .ref (a 0)), (1, .int (i 3))]) dX3_blank_7 (Nat.le_of_ble_eq_true rfl) rfl rfl ?_
  refine z_aload_n C (pc := 8) dX3_blank_8 rfl ?_
  refine z_get C (pc := 9) 0 rfl rfl wf_X3 0 (by decide) rfl wl_X3_10 (v := .ref (a 1)) rfl dX3_blank_9 ?_
  refine z_iconst C (pc := 12) (v := 0) dX3_blank_12 (by decide) ?_
  refine z_putN C (pc := 13) 1 rfl rfl wf_X0 1 (by decide) rfl tyX0 tyX0_ok nmX0 rfl rfl rfl (Nat.le_of_ble_eq_true rfl) (ws' := (cW cI a (upd i 3 0) r)) rfl wl_X3_41 dX3_blank_13 ?_
  refine z_iload_n C (pc := 16) dX3_blank_16 rfl ?_
  refine z_iret C (pc := 17) ((upd i 3 0), r) dX3_blank_17 ?_ rfl
  exact ⟨hz.1.2.2.2.1, cl_blank hz⟩

set_option maxHeartbeats 4000000 in
set_option maxRecDepth 100000 in
theorem c_fault (l : Launch) (D : va_G) (cI : ClassId) (tt : Nat × Nat × Nat) (a : Nat → Nat) (i : Nat → Int32) (r : Nat → Nat → Int32) (z : SG) (hz : Cls z i r) (vz : VS z) : MetI (S := ((Nat → Int32) × (Nat → Nat → Int32))) l yX3_fault cX3_fault 1 (some .int) (rm 3 66) D cI tt [.ref (a 0)] (cW cI a i r) (fun q u => q = faultF z ∧ Cls z u.1 u.2) (fun u => cW cI a u.1 u.2) := by
  refine met_ofI (by decide) (Nat.le_of_ble_eq_true rfl) ?_
  intro pP eE sS mM aV bB mE cC AA C hin
  refine z_conv (lv' := [(0, .ref (a 0))]) ⟨rfl, trivial⟩ rfl rfl ?_
  refine z_aload_n C (pc := 0) dX3_fault_0 rfl ?_
  refine z_get C (pc := 1) 0 rfl rfl wf_X3 0 (by decide) rfl wl_X3_10 (v := .ref (a 1)) rfl dX3_fault_1 ?_
  refine z_calliF C (by exact fun _ => cW_ad) (runVN C (wc := (cW cI a i r)) (pc := 4) (rY' := rm 2 42) (nn := 0) (As := []) (rest := []) (c_firstWrong l D cI tt a i r (z.1 3) hz.1.2.2.2.1 vz.2.2.1) (full_hC _) (full_nd _) ⟨rfl, rfl, ⟨Nat.le_of_ble_eq_true rfl, Nat.le_of_ble_eq_true rfl⟩, Nat.le_of_ble_eq_true rfl, Nat.le_of_ble_eq_true rfl⟩ wl_X3_45 wm_X0_firstWrong we_X0_firstWrong wi_X0 wc_X0_firstWrong (by decide +kernel) rfl 1 rfl rfl rfl rfl (Nat.le_of_ble_eq_true rfl) dX3_fault_4) (fun q_1 u_1 h_1 => ?_)
  subst h_1
  refine z_ws (st' := [.int (nI (scv (r 0) (z.1 3) 0 0).1)]) (ws' := (cW cI a i r)) rfl rfl ?_
  refine z_iret C (pc := 7) (i, r) dX3_fault_7 ?_ rfl
  exact ⟨by unfold faultF; rw [scv_congr hz.2.1.1 _ 0 0 (by omega)], hz⟩

set_option maxHeartbeats 4000000 in
set_option maxRecDepth 100000 in
theorem c_forget (l : Launch) (D : va_G) (cI : ClassId) (tt : Nat × Nat × Nat) (a : Nat → Nat) (i : Nat → Int32) (r : Nat → Nat → Int32) (z : SG) (hz : Cls z i r) (vz : VS z) : MetI (S := ((Nat → Int32) × (Nat → Nat → Int32))) l yX3_forget cX3_forget 2 (some .int) (rm 0 0) D cI tt [.ref (a 0)] (cW cI a i r) (fun q u => q = (forgetF z).1 ∧ Cls (forgetF z).2 u.1 u.2) (fun u => cW cI a u.1 u.2) := by
  refine met_ofI (by decide) (Nat.le_of_ble_eq_true rfl) ?_
  intro pP eE sS mM aV bB mE cC AA C hin
  refine z_conv (lv' := [(0, .ref (a 0))]) ⟨rfl, trivial⟩ rfl rfl ?_
  refine z_aload_n C (pc := 0) dX3_forget_0 rfl ?_
  refine z_get C (pc := 1) 0 rfl rfl wf_X3 2 (by decide) rfl wl_X3_26 (v := .ref (a 6)) rfl dX3_forget_1 ?_
  refine z_getN C (pc := 4) 6 rfl rfl wf_X2 4 (by decide) rfl wl_X3_173 (v := .int (i 13)) rfl dX3_forget_4 ?_
  refine z_istore_n C (pc := 7) (lv' := [(0, .ref (a 0)), (1, .int (i 13))]) dX3_forget_7 (Nat.le_of_ble_eq_true rfl) rfl rfl ?_
  refine z_aload_n C (pc := 8) dX3_forget_8 rfl ?_
  refine z_get C (pc := 9) 0 rfl rfl wf_X3 2 (by decide) rfl wl_X3_26 (v := .ref (a 6)) rfl dX3_forget_9 ?_
  refine z_iconst C (pc := 12) (v := 0) dX3_forget_12 (by decide) ?_
  refine z_putN C (pc := 13) 6 rfl rfl wf_X2 4 (by decide) rfl tyX2 tyX2_ok nmX2 rfl rfl rfl (Nat.le_of_ble_eq_true rfl) (ws' := (cW cI a (upd i 13 0) r)) rfl wl_X3_173 dX3_forget_13 ?_
  refine z_iload_n C (pc := 16) dX3_forget_16 rfl ?_
  refine z_iret C (pc := 17) ((upd i 13 0), r) dX3_forget_17 ?_ rfl
  exact ⟨hz.1.2.2.2.2.2.2.2.2, cl_forget hz⟩

set_option maxHeartbeats 4000000 in
set_option maxRecDepth 100000 in
theorem c_member (l : Launch) (D : va_G) (cI : ClassId) (tt : Nat × Nat × Nat) (a : Nat → Nat) (i : Nat → Int32) (r : Nat → Nat → Int32) (m what : Int32) (z : SG) (hz : Cls z i r) (vz : VS z) : MetI (S := ((Nat → Int32) × (Nat → Nat → Int32))) l yX3_member cX3_member 4 (some .int) (rm 1 21) D cI tt [.ref (a 0), .int m, .int what] (cW cI a i r) (fun q u => q = memberF z m what ∧ Cls z u.1 u.2) (fun u => cW cI a u.1 u.2) := by
  have hv := hz.pv vz
  have hc := hz.c vz
  have hh := hz.hv vz
  have hn6 := vz.2.2.2.1
  have hx6 := pow_le6 hn6
  refine met_ofI (by decide) (Nat.le_of_ble_eq_true rfl) ?_
  intro pP eE sS mM aV bB mE cC AA C hin
  refine z_conv (lv' := [(0, .ref (a 0)), (1, .int m), (2, .int what)]) ⟨rfl, rfl, rfl, trivial⟩ rfl rfl ?_
  refine z_iload_n C (pc := 0) dX3_member_0 rfl ?_
  refine z_if_lt C (pc := 1) (tgt := 15) dX3_member_1 (by decide) (fun c_1 => ?_) (fun c_1 => ?_)
  · refine z_bipush C (pc := 15) (v := (-101)) dX3_member_15 (by decide) ?_
    refine z_iret C (pc := 17) (i, r) dX3_member_17 ?_ rfl
    rw [show memberF z m what = -101 from if_pos (by unfold noMember; simp [c_1])]
    exact ⟨rfl, hz⟩
  · refine z_iload_n C (pc := 4) dX3_member_4 rfl ?_
    refine z_aload_n C (pc := 5) dX3_member_5 rfl ?_
    refine z_get C (pc := 6) 0 rfl rfl wf_X3 1 (by decide) rfl wl_X3_19 (v := .ref (a 3)) rfl dX3_member_6 ?_
    refine z_getN C (pc := 9) 3 rfl rfl wf_X1 1 (by decide) rfl wl_X3_53 (v := .int (i 4)) rfl dX3_member_9 ?_
    refine z_icmp_lt C (pc := 12) (tgt := 18) dX3_member_12 (by decide) (fun c_2 => ?_) (fun c_2 => ?_)
    · rw [hz.1.2.2.2.2.1] at c_2
      have hm : noMember z m = false := by unfold noMember; simp [c_1, c_2]
      obtain ⟨k, hk, hmk, htk⟩ := member_of vz hm
      subst hmk
      refine z_aload_n C (pc := 18) dX3_member_18 rfl ?_
      refine z_get C (pc := 19) 0 rfl rfl wf_X3 1 (by decide) rfl wl_X3_19 (v := .ref (a 3)) rfl dX3_member_19 ?_
      refine z_getN C (pc := 22) 3 rfl rfl wf_X1 0 (by decide) rfl wl_X3_56 (v := .ref (a 4)) rfl dX3_member_22 ?_
      refine z_iload_n C (pc := 25) dX3_member_25 rfl ?_
      refine z_calli C (isC := [4]) rfl (by exact fun _ => rfl) (runS C (wc := [(a 4, .inl (cI, 6, .inl (r 1)))]) (pc := 26) (rY' := rm 0 0) (nn := 2) (As := [.ref (a 4), .int (nI k)]) (rest := []) (c_at l D cI tt (a 4) 6 (r 1) (nI k) (by decide)) rfl rfl ⟨rfl, rfl, ⟨Nat.le_of_ble_eq_true rfl, Nat.le_of_ble_eq_true rfl⟩, Nat.le_of_ble_eq_true rfl, Nat.le_of_ble_eq_true rfl⟩ wl_X3_87 ws_X3_at wi_X3 wc_X3_at (by decide +kernel) rfl rfl (Nat.le_of_ble_eq_true rfl) dX3_member_26) (fun r_3 u_3 h_3 => ?_)
      have h_3 : r_3 = (nI (z.2.1 1 k)) := h_3.trans (kind_at hv hk)
      subst h_3
      refine z_ws (st' := [.int (nI (z.2.1 1 k))]) (ws' := (cW cI a i r)) rfl rfl ?_
      refine z_istore_n C (pc := 29) (lv' := [(0, .ref (a 0)), (1, .int (nI k)), (2, .int what), (3, .int (nI (z.2.1 1 k)))]) dX3_member_29 (Nat.le_of_ble_eq_true rfl) rfl rfl ?_
      refine z_iload_n C (pc := 30) dX3_member_30 rfl ?_
      by_cases c_4 : what = 0
      · refine z_tableIn C (pc := 31) (tgt := 64) (off := 33) dX3_member_31 (by rw [c_4]; decide) (by rw [c_4]; decide) (by rw [c_4]; rfl) (by decide) ?_
        refine z_iload_n C (pc := 64) dX3_member_64 rfl ?_
        refine z_iret C (pc := 65) (i, r) dX3_member_65 ?_ rfl
        refine ⟨?_, hz⟩
        rw [show memberF z (nI k) what = tellF z k what from (if_neg (by rw [hm]; decide)).trans (by rw [htk])]
        unfold tellF
        subst c_4
        rfl
      by_cases c_5 : what = 1
      · refine z_tableIn C (pc := 31) (tgt := 66) (off := 35) dX3_member_31 (by rw [c_5]; decide) (by rw [c_5]; decide) (by rw [c_5]; rfl) (by decide) ?_
        refine z_gets C (pc := 66) C.2.2.2.2.2.2.2.1.1.1 wl_X3_91 dX3_member_66 ?_
        refine z_iload_n C (pc := 69) dX3_member_69 rfl ?_
        refine z_calli C (isC := []) rfl (by exact fun _ => rfl) (runS C (wc := []) (pc := 70) (rY' := rm 0 0) (nn := 2) (As := [.ref tt.1, .int (nI (z.2.1 1 k))]) (rest := []) (c_atP l D cI tt (nI (z.2.1 1 k))) rfl rfl ⟨rfl, rfl, ⟨Nat.le_of_ble_eq_true rfl, Nat.le_of_ble_eq_true rfl⟩, Nat.le_of_ble_eq_true rfl, Nat.le_of_ble_eq_true rfl⟩ wl_X3_87 ws_X3_at wi_X3 wc_X3_at (by decide +kernel) rfl rfl (Nat.le_of_ble_eq_true rfl) dX3_member_70) (fun r_6 u_6 h_6 => ?_)
        have h_6 : r_6 = (nI (pls (z.2.1 1 k))) := h_6.trans (tabP (hv.2.2 k hk).2)
        subst h_6
        refine z_ws (st' := [.int (nI (pls (z.2.1 1 k)))]) (ws' := (cW cI a i r)) rfl rfl ?_
        refine z_iret C (pc := 73) (i, r) dX3_member_73 ?_ rfl
        refine ⟨?_, hz⟩
        rw [show memberF z (nI k) what = tellF z k what from (if_neg (by rw [hm]; decide)).trans (by rw [htk])]
        unfold tellF
        subst c_5
        rfl
      by_cases c_7 : what = 2
      · refine z_tableIn C (pc := 31) (tgt := 74) (off := 43) dX3_member_31 (by rw [c_7]; decide) (by rw [c_7]; decide) (by rw [c_7]; rfl) (by decide) ?_
        refine z_gets C (pc := 74) C.2.2.2.2.2.2.2.1.2.1.1 wl_X3_94 dX3_member_74 ?_
        refine z_iload_n C (pc := 77) dX3_member_77 rfl ?_
        refine z_calli C (isC := []) rfl (by exact fun _ => rfl) (runS C (wc := []) (pc := 78) (rY' := rm 0 0) (nn := 2) (As := [.ref tt.2.1, .int (nI (z.2.1 1 k))]) (rest := []) (c_atE l D cI tt (nI (z.2.1 1 k))) rfl rfl ⟨rfl, rfl, ⟨Nat.le_of_ble_eq_true rfl, Nat.le_of_ble_eq_true rfl⟩, Nat.le_of_ble_eq_true rfl, Nat.le_of_ble_eq_true rfl⟩ wl_X3_87 ws_X3_at wi_X3 wc_X3_at (by decide +kernel) rfl rfl (Nat.le_of_ble_eq_true rfl) dX3_member_78) (fun r_8 u_8 h_8 => ?_)
        have h_8 : r_8 = (nI (ets (z.2.1 1 k))) := h_8.trans (tabE (hv.2.2 k hk).2)
        subst h_8
        refine z_ws (st' := [.int (nI (ets (z.2.1 1 k)))]) (ws' := (cW cI a i r)) rfl rfl ?_
        refine z_iret C (pc := 81) (i, r) dX3_member_81 ?_ rfl
        refine ⟨?_, hz⟩
        rw [show memberF z (nI k) what = tellF z k what from (if_neg (by rw [hm]; decide)).trans (by rw [htk])]
        unfold tellF
        subst c_7
        rfl
      by_cases c_9 : what = 3
      · refine z_tableIn C (pc := 31) (tgt := 82) (off := 51) dX3_member_31 (by rw [c_9]; decide) (by rw [c_9]; decide) (by rw [c_9]; rfl) (by decide) ?_
        refine z_gets C (pc := 82) C.2.2.2.2.2.2.2.1.2.2.1 wl_X3_97 dX3_member_82 ?_
        refine z_iload_n C (pc := 85) dX3_member_85 rfl ?_
        refine z_calli C (isC := []) rfl (by exact fun _ => rfl) (runS C (wc := []) (pc := 86) (rY' := rm 0 0) (nn := 2) (As := [.ref tt.2.2, .int (nI (z.2.1 1 k))]) (rest := []) (c_atF l D cI tt (nI (z.2.1 1 k))) rfl rfl ⟨rfl, rfl, ⟨Nat.le_of_ble_eq_true rfl, Nat.le_of_ble_eq_true rfl⟩, Nat.le_of_ble_eq_true rfl, Nat.le_of_ble_eq_true rfl⟩ wl_X3_87 ws_X3_at wi_X3 wc_X3_at (by decide +kernel) rfl rfl (Nat.le_of_ble_eq_true rfl) dX3_member_86) (fun r_10 u_10 h_10 => ?_)
        have h_10 : r_10 = (nI (fds (z.2.1 1 k))) := h_10.trans (tabF (hv.2.2 k hk).2)
        subst h_10
        refine z_ws (st' := [.int (nI (fds (z.2.1 1 k)))]) (ws' := (cW cI a i r)) rfl rfl ?_
        refine z_iret C (pc := 89) (i, r) dX3_member_89 ?_ rfl
        refine ⟨?_, hz⟩
        rw [show memberF z (nI k) what = tellF z k what from (if_neg (by rw [hm]; decide)).trans (by rw [htk])]
        unfold tellF
        subst c_9
        rfl
      by_cases c_11 : what = 4
      · refine z_tableIn C (pc := 31) (tgt := 90) (off := 59) dX3_member_31 (by rw [c_11]; decide) (by rw [c_11]; decide) (by rw [c_11]; rfl) (by decide) ?_
        refine z_aload_n C (pc := 90) dX3_member_90 rfl ?_
        refine z_get C (pc := 91) 0 rfl rfl wf_X3 2 (by decide) rfl wl_X3_26 (v := .ref (a 6)) rfl dX3_member_91 ?_
        refine z_getN C (pc := 94) 6 rfl rfl wf_X2 0 (by decide) rfl wl_X3_100 (v := .int (i 10)) rfl dX3_member_94 ?_
        refine z_iload_n C (pc := 97) dX3_member_97 rfl ?_
        refine z_ishr C (pc := 98) dX3_member_98 ?_
        refine z_iconst C (pc := 99) (v := 1) dX3_member_99 (by decide) ?_
        refine z_iand C (pc := 100) dX3_member_100 ?_
        refine z_iret C (pc := 101) (i, r) dX3_member_101 ?_ rfl
        refine ⟨?_, hz⟩
        rw [show memberF z (nI k) what = tellF z k what from (if_neg (by rw [hm]; decide)).trans (by rw [htk])]
        unfold tellF
        subst c_11
        rw [hz.1.2.2.2.2.2.1]
        exact shr_bt (by omega) (by have := vz.2.2.2.2.1; omega)
      refine z_tableOut C (pc := 31) (tgt := 102) dX3_member_31 (by have q0 := lv_neT c_4 (a := 0) rfl; have q1 := lv_neT c_5 (a := 1) rfl; have q2 := lv_neT c_7 (a := 2) rfl; have q3 := lv_neT c_9 (a := 3) rfl; have q4 := lv_neT c_11 (a := 4) rfl; omega) (by decide) ?_
      refine z_bipush C (pc := 102) (v := (-102)) dX3_member_102 (by decide) ?_
      refine z_iret C (pc := 104) (i, r) dX3_member_104 ?_ rfl
      refine ⟨?_, hz⟩
      rw [show memberF z (nI k) what = tellF z k what from (if_neg (by rw [hm]; decide)).trans (by rw [htk])]
      unfold tellF
      simp [*]
    · refine z_bipush C (pc := 15) (v := (-101)) dX3_member_15 (by decide) ?_
      refine z_iret C (pc := 17) (i, r) dX3_member_17 ?_ rfl
      rw [hz.1.2.2.2.2.1] at c_2
      rw [show memberF z m what = -101 from if_pos (by unfold noMember; simp [c_2])]
      exact ⟨rfl, hz⟩

set_option maxHeartbeats 4000000 in
set_option maxRecDepth 100000 in
theorem c_as (l : Launch) (D : va_G) (cI : ClassId) (tt : Nat × Nat × Nat) (a : Nat → Nat) (i : Nat → Int32) (r : Nat → Nat → Int32) (m kind : Int32) (z : SG) (hz : Cls z i r) (vz : VS z) : MetI (S := ((Nat → Int32) × (Nat → Nat → Int32))) l yX3_as cX3_as 3 (some .int) (rm 1 21) D cI tt [.ref (a 0), .int m, .int kind] (cW cI a i r) (fun q u => q = asF z m kind ∧ Cls z u.1 u.2) (fun u => cW cI a u.1 u.2) := by
  have hv := hz.pv vz
  have hc := hz.c vz
  have hh := hz.hv vz
  have hn6 := vz.2.2.2.1
  have hx6 := pow_le6 hn6
  refine met_ofI (by decide) (Nat.le_of_ble_eq_true rfl) ?_
  intro pP eE sS mM aV bB mE cC AA C hin
  refine z_conv (lv' := [(0, .ref (a 0)), (1, .int m), (2, .int kind)]) ⟨rfl, rfl, rfl, trivial⟩ rfl rfl ?_
  refine z_iload_n C (pc := 0) dX3_as_0 rfl ?_
  refine z_if_lt C (pc := 1) (tgt := 15) dX3_as_1 (by decide) (fun c_1 => ?_) (fun c_1 => ?_)
  · refine z_bipush C (pc := 15) (v := (-101)) dX3_as_15 (by decide) ?_
    refine z_iret C (pc := 17) (i, r) dX3_as_17 ?_ rfl
    rw [show asF z m kind = -101 from if_pos (by unfold noMember; simp [c_1])]
    exact ⟨rfl, hz⟩
  · refine z_iload_n C (pc := 4) dX3_as_4 rfl ?_
    refine z_aload_n C (pc := 5) dX3_as_5 rfl ?_
    refine z_get C (pc := 6) 0 rfl rfl wf_X3 1 (by decide) rfl wl_X3_19 (v := .ref (a 3)) rfl dX3_as_6 ?_
    refine z_getN C (pc := 9) 3 rfl rfl wf_X1 1 (by decide) rfl wl_X3_53 (v := .int (i 4)) rfl dX3_as_9 ?_
    refine z_icmp_lt C (pc := 12) (tgt := 18) dX3_as_12 (by decide) (fun c_2 => ?_) (fun c_2 => ?_)
    · rw [hz.1.2.2.2.2.1] at c_2
      have hm : noMember z m = false := by unfold noMember; simp [c_1, c_2]
      obtain ⟨k, hk, hmk, htk⟩ := member_of vz hm
      subst hmk
      refine z_iload_n C (pc := 18) dX3_as_18 rfl ?_
      refine z_if_lt C (pc := 19) (tgt := 27) dX3_as_19 (by decide) (fun c_3 => ?_) (fun c_3 => ?_)
      · refine z_bipush C (pc := 27) (v := (-102)) dX3_as_27 (by decide) ?_
        refine z_iret C (pc := 29) (i, r) dX3_as_29 ?_ rfl
        rw [show asF z (nI k) kind = -102 from (if_neg (by rw [hm]; decide)).trans (if_pos (Or.inl c_3))]
        exact ⟨rfl, hz⟩
      · refine z_iload_n C (pc := 22) dX3_as_22 rfl ?_
        refine z_iconst C (pc := 23) (v := 5) dX3_as_23 (by decide) ?_
        refine z_icmp_lt C (pc := 24) (tgt := 30) dX3_as_24 (by decide) (fun c_4 => ?_) (fun c_4 => ?_)
        · refine z_aload_n C (pc := 30) dX3_as_30 rfl ?_
          refine z_get C (pc := 31) 0 rfl rfl wf_X3 1 (by decide) rfl wl_X3_19 (v := .ref (a 3)) rfl dX3_as_31 ?_
          refine z_getN C (pc := 34) 3 rfl rfl wf_X1 0 (by decide) rfl wl_X3_56 (v := .ref (a 4)) rfl dX3_as_34 ?_
          refine z_iload_n C (pc := 37) dX3_as_37 rfl ?_
          refine z_calli C (isC := [4]) rfl (by exact fun _ => rfl) (runS C (wc := [(a 4, .inl (cI, 6, .inl (r 1)))]) (pc := 38) (rY' := rm 0 0) (nn := 2) (As := [.ref (a 4), .int (nI k)]) (rest := []) (c_at l D cI tt (a 4) 6 (r 1) (nI k) (by decide)) rfl rfl ⟨rfl, rfl, ⟨Nat.le_of_ble_eq_true rfl, Nat.le_of_ble_eq_true rfl⟩, Nat.le_of_ble_eq_true rfl, Nat.le_of_ble_eq_true rfl⟩ wl_X3_87 ws_X3_at wi_X3 wc_X3_at (by decide +kernel) rfl rfl (Nat.le_of_ble_eq_true rfl) dX3_as_38) (fun r_5 u_5 h_5 => ?_)
          have h_5 : r_5 = (nI (z.2.1 1 k)) := h_5.trans (kind_at hv hk)
          subst h_5
          refine z_ws (st' := [.int (nI (z.2.1 1 k))]) (ws' := (cW cI a i r)) rfl rfl ?_
          refine z_iload_n C (pc := 41) dX3_as_41 rfl ?_
          refine z_calli C (isC := []) rfl (by exact fun _ => rfl) (runS C (wc := []) (pc := 42) (rY' := rm 0 0) (nn := 2) (As := [.int (nI (z.2.1 1 k)), .int kind]) (rest := []) (c_isOf l D cI tt (nI (z.2.1 1 k)) kind) rfl rfl ⟨rfl, rfl, ⟨Nat.le_of_ble_eq_true rfl, Nat.le_of_ble_eq_true rfl⟩, Nat.le_of_ble_eq_true rfl, Nat.le_of_ble_eq_true rfl⟩ wl_X3_103 ws_X3_isOf wi_X3 wc_X3_isOf (by decide +kernel) rfl rfl (Nat.le_of_ble_eq_true rfl) dX3_as_42) (fun r_6 u_6 h_6 => ?_)
          subst h_6
          refine z_ws (st' := [.int (isOfv (nI (z.2.1 1 k)) kind)]) (ws' := (cW cI a i r)) rfl rfl ?_
          refine z_if_eq C (pc := 45) (tgt := 52) dX3_as_45 (by decide) (fun c_7 => ?_) (fun c_7 => ?_)
          · refine z_iconst C (pc := 52) (v := (-1)) dX3_as_52 (by decide) ?_
            refine z_iret C (pc := 53) (i, r) dX3_as_53 ?_ rfl
            rw [show asF z (nI k) kind = -1 from (if_neg (by rw [hm]; decide)).trans ((if_neg (fun h => h.elim (fun h => c_3 h) (fun h => h c_4))).trans (if_pos (by rw [htk]; exact c_7)))]
            exact ⟨rfl, hz⟩
          · refine z_iload_n C (pc := 48) dX3_as_48 rfl ?_
            refine z_goto C (pc := 49) (tgt := 53) dX3_as_49 (by decide) ?_
            refine z_iret C (pc := 53) (i, r) dX3_as_53 ?_ rfl
            rw [show asF z (nI k) kind = nI k from (if_neg (by rw [hm]; decide)).trans ((if_neg (fun h => h.elim (fun h => c_3 h) (fun h => h c_4))).trans (if_neg (by rw [htk]; exact c_7)))]
            exact ⟨rfl, hz⟩
        · refine z_bipush C (pc := 27) (v := (-102)) dX3_as_27 (by decide) ?_
          refine z_iret C (pc := 29) (i, r) dX3_as_29 ?_ rfl
          rw [show asF z (nI k) kind = -102 from (if_neg (by rw [hm]; decide)).trans (if_pos (Or.inr c_4))]
          exact ⟨rfl, hz⟩
    · refine z_bipush C (pc := 15) (v := (-101)) dX3_as_15 (by decide) ?_
      refine z_iret C (pc := 17) (i, r) dX3_as_17 ?_ rfl
      rw [hz.1.2.2.2.2.1] at c_2
      rw [show asF z m kind = -101 from if_pos (by unfold noMember; simp [c_2])]
      exact ⟨rfl, hz⟩

set_option maxHeartbeats 4000000 in
set_option maxRecDepth 100000 in
theorem c_cairn (l : Launch) (D : va_G) (cI : ClassId) (tt : Nat × Nat × Nat) (a : Nat → Nat) (i : Nat → Int32) (r : Nat → Nat → Int32) (x what : Int32) (z : SG) (hz : Cls z i r) (vz : VS z) : MetI (S := ((Nat → Int32) × (Nat → Nat → Int32))) l yX3_cairn cX3_cairn 3 (some .int) (rm 6 144) D cI tt [.ref (a 0), .int x, .int what] (cW cI a i r) (fun q u => q = cairnF z x what ∧ Cls z u.1 u.2) (fun u => cW cI a u.1 u.2) := by
  have hv := hz.pv vz
  have hc := hz.c vz
  have hh := hz.hv vz
  have hn6 := vz.2.2.2.1
  have hx6 := pow_le6 hn6
  refine met_ofI (by decide) (Nat.le_of_ble_eq_true rfl) ?_
  intro pP eE sS mM aV bB mE cC AA C hin
  refine z_conv (lv' := [(0, .ref (a 0)), (1, .int x), (2, .int what)]) ⟨rfl, rfl, rfl, trivial⟩ rfl rfl ?_
  refine z_aload_n C (pc := 0) dX3_cairn_0 rfl ?_
  refine z_iload_n C (pc := 1) dX3_cairn_1 rfl ?_
  refine z_calliF C (by exact fun _ => cW_ad) (runV C (wc := (cW cI a i r)) (pc := 2) (rY' := rm 0 0) (nn := 1) (As := [.int x]) (rest := []) (c_isNoCairn l D cI tt a i r x (z.1 4) hv.1 hn6) (full_hC _) (full_nd _) ⟨rfl, rfl, ⟨Nat.le_of_ble_eq_true rfl, Nat.le_of_ble_eq_true rfl⟩, Nat.le_of_ble_eq_true rfl, Nat.le_of_ble_eq_true rfl⟩ wl_X3_107 wm_X3_isNoCairn we_X3_isNoCairn wi_X3 wc_X3_isNoCairn (by decide +kernel) rfl 0 rfl rfl rfl rfl (Nat.le_of_ble_eq_true rfl) dX3_cairn_2) (fun q_1 u_1 h_1 => ?_)
  refine z_ws (st' := [.int q_1]) (ws' := (cW cI a i r)) rfl rfl ?_
  refine z_if_eq C (pc := 5) (tgt := 11) dX3_cairn_5 (by decide) (fun c_2 => ?_) (fun c_2 => ?_)
  · have hb := b2_f (h_1 ▸ c_2)
    obtain ⟨hn0, q, hq1, hq6, hxq, htq⟩ := cairn_of hb
    subst hxq
    refine z_iload_n C (pc := 11) dX3_cairn_11 rfl ?_
    by_cases c_3 : what = 0
    · refine z_tableIn C (pc := 12) (tgt := 40) (off := 28) dX3_cairn_12 (by rw [c_3]; decide) (by rw [c_3]; decide) (by rw [c_3]; rfl) (by decide) ?_
      refine z_aload_n C (pc := 40) dX3_cairn_40 rfl ?_
      refine z_get C (pc := 41) 0 rfl rfl wf_X3 2 (by decide) rfl wl_X3_26 (v := .ref (a 6)) rfl dX3_cairn_41 ?_
      refine z_getN C (pc := 44) 6 rfl rfl wf_X2 1 (by decide) rfl wl_X3_77 (v := .ref (a 7)) rfl dX3_cairn_44 ?_
      refine z_iload_n C (pc := 47) dX3_cairn_47 rfl ?_
      refine z_iconst C (pc := 48) (v := 1) dX3_cairn_48 (by decide) ?_
      refine z_isub C (pc := 49) dX3_cairn_49 ?_
      refine z_calli C (isC := [7]) rfl (by exact fun _ => rfl) (runS C (wc := [(a 7, .inl (cI, 5, .inl (r 3)))]) (pc := 50) (rY' := rm 0 0) (nn := 2) (As := [.ref (a 7), .int ((nI q) - 1)]) (rest := []) (c_at l D cI tt (a 7) 5 (r 3) ((nI q) - 1) (by decide)) rfl rfl ⟨rfl, rfl, ⟨Nat.le_of_ble_eq_true rfl, Nat.le_of_ble_eq_true rfl⟩, Nat.le_of_ble_eq_true rfl, Nat.le_of_ble_eq_true rfl⟩ wl_X3_87 ws_X3_at wi_X3 wc_X3_at (by decide +kernel) rfl rfl (Nat.le_of_ble_eq_true rfl) dX3_cairn_50) (fun r_4 u_4 h_4 => ?_)
      have h_4 : r_4 = (nI (z.2.1 2 (q - 1))) := h_4.trans ((at_c hq6 hc).trans (by unfold cav; rw [if_neg (by omega)]))
      subst h_4
      refine z_ws (st' := [.int (nI (z.2.1 2 (q - 1)))]) (ws' := (cW cI a i r)) rfl rfl ?_
      refine z_iret C (pc := 53) (i, r) dX3_cairn_53 ?_ rfl
      rw [show cairnF z (nI q) what = (if what = 0 then nI (z.2.1 2 (q - 1)) else if what = 1 then nI (layS z q) else if what = 2 then tryS z q else -102) from (if_neg (by rw [hb]; decide)).trans (by rw [htq])]
      subst c_3
      exact ⟨rfl, hz⟩
    by_cases c_5 : what = 1
    · refine z_tableIn C (pc := 12) (tgt := 54) (off := 42) dX3_cairn_12 (by rw [c_5]; decide) (by rw [c_5]; decide) (by rw [c_5]; rfl) (by decide) ?_
      refine z_aload_n C (pc := 54) dX3_cairn_54 rfl ?_
      refine z_iload_n C (pc := 55) dX3_cairn_55 rfl ?_
      refine z_calliF C (by exact fun _ => cW_ad) (runV C (wc := (cW cI a i r)) (pc := 56) (rY' := rm 5 117) (nn := 1) (As := [.int (nI q)]) (rest := []) (c_amountsAt l D cI tt a i r (z.2.1 1) (z.1 4) hv (z.2.1 2) hc (z.1 8) (z.2.1 3) (z.2.1 4) (z.2.1 5) (z.2.1 6) hh q hq1 hq6) (full_hC _) (full_nd _) ⟨rfl, rfl, ⟨Nat.le_of_ble_eq_true rfl, Nat.le_of_ble_eq_true rfl⟩, Nat.le_of_ble_eq_true rfl, Nat.le_of_ble_eq_true rfl⟩ wl_X3_110 wm_X3_amountsAt we_X3_amountsAt wi_X3 wc_X3_amountsAt (by decide +kernel) rfl 0 rfl rfl rfl rfl (Nat.le_of_ble_eq_true rfl) dX3_cairn_56) (fun q_6 u_6 h_6 => ?_)
      obtain ⟨i6, r6⟩ := u_6
      try dsimp only at h_6
      obtain ⟨k0, k1, k2⟩ := h_6
      subst k0
      refine z_ws (st' := [.int (nI (layS z q))]) (ws' := (cW cI a i6 r6)) rfl rfl ?_
      refine z_iret C (pc := 59) (i6, r6) dX3_cairn_59 ?_ rfl
      rw [show cairnF z (nI q) what = (if what = 0 then nI (z.2.1 2 (q - 1)) else if what = 1 then nI (layS z q) else if what = 2 then tryS z q else -102) from (if_neg (by rw [hb]; decide)).trans (by rw [htq])]
      subst c_5
      exact ⟨rfl, hz.sp k1 k2⟩
    by_cases c_7 : what = 2
    · refine z_tableIn C (pc := 12) (tgt := 60) (off := 48) dX3_cairn_12 (by rw [c_7]; decide) (by rw [c_7]; decide) (by rw [c_7]; rfl) (by decide) ?_
      refine z_aload_n C (pc := 60) dX3_cairn_60 rfl ?_
      refine z_iload_n C (pc := 61) dX3_cairn_61 rfl ?_
      refine z_aload_n C (pc := 62) dX3_cairn_62 rfl ?_
      refine z_iload_n C (pc := 63) dX3_cairn_63 rfl ?_
      refine z_calliF C (by exact fun _ => cW_ad) (runV C (wc := (cW cI a i r)) (pc := 64) (rY' := rm 5 117) (nn := 1) (As := [.int (nI q)]) (rest := [.int (nI q), .ref (a 0)]) (c_amountsAt l D cI tt a i r (z.2.1 1) (z.1 4) hv (z.2.1 2) hc (z.1 8) (z.2.1 3) (z.2.1 4) (z.2.1 5) (z.2.1 6) hh q hq1 hq6) (full_hC _) (full_nd _) ⟨rfl, rfl, ⟨Nat.le_of_ble_eq_true rfl, Nat.le_of_ble_eq_true rfl⟩, Nat.le_of_ble_eq_true rfl, Nat.le_of_ble_eq_true rfl⟩ wl_X3_110 wm_X3_amountsAt we_X3_amountsAt wi_X3 wc_X3_amountsAt (by decide +kernel) rfl 0 rfl rfl rfl rfl (Nat.le_of_ble_eq_true rfl) dX3_cairn_64) (fun q_8 u_8 h_8 => ?_)
      obtain ⟨i8, r8⟩ := u_8
      try dsimp only at h_8
      obtain ⟨k0, k1, k2⟩ := h_8
      subst k0
      refine z_ws (st' := [.int (nI (layS z q)), .int (nI q), .ref (a 0)]) (ws' := (cW cI a i8 r8)) rfl rfl ?_
      refine z_calliF C (by exact fun _ => cW_ad) (runV C (wc := (cW cI a i8 r8)) (pc := 67) (rY' := rm 5 117) (nn := 2) (As := [.int (nI q), .int (nI (layS z q))]) (rest := []) (c_bestTrial l D cI tt a i8 r8 (z.2.1 1) (z.1 4) ((hz.sp k1 k2).pv vz) (z.2.1 2) ((hz.sp k1 k2).c vz) q (layS z q) hq1 hq6 lay_lt) (full_hC _) (full_nd _) ⟨rfl, rfl, ⟨Nat.le_of_ble_eq_true rfl, Nat.le_of_ble_eq_true rfl⟩, Nat.le_of_ble_eq_true rfl, Nat.le_of_ble_eq_true rfl⟩ wl_X3_113 wm_X3_bestTrial we_X3_bestTrial wi_X3 wc_X3_bestTrial (by decide +kernel) rfl 0 rfl rfl rfl rfl (Nat.le_of_ble_eq_true rfl) dX3_cairn_67) (fun q_9 u_9 h_9 => ?_)
      obtain ⟨i9, r9⟩ := u_9
      try dsimp only at h_9
      obtain ⟨j0, j1, j2⟩ := h_9
      subst j0
      refine z_ws (st' := [.int (tryS z q)]) (ws' := (cW cI a i9 r9)) rfl rfl ?_
      refine z_iret C (pc := 70) (i9, r9) dX3_cairn_70 ?_ rfl
      rw [show cairnF z (nI q) what = (if what = 0 then nI (z.2.1 2 (q - 1)) else if what = 1 then nI (layS z q) else if what = 2 then tryS z q else -102) from (if_neg (by rw [hb]; decide)).trans (by rw [htq])]
      subst c_7
      exact ⟨rfl, (hz.sp k1 k2).sp j1 j2⟩
    refine z_tableOut C (pc := 12) (tgt := 71) dX3_cairn_12 (by have q0 := lv_neT c_3 (a := 0) rfl; have q1 := lv_neT c_5 (a := 1) rfl; have q2 := lv_neT c_7 (a := 2) rfl; omega) (by decide) ?_
    refine z_bipush C (pc := 71) (v := (-102)) dX3_cairn_71 (by decide) ?_
    refine z_iret C (pc := 73) (i, r) dX3_cairn_73 ?_ rfl
    rw [show cairnF z (nI q) what = (if what = 0 then nI (z.2.1 2 (q - 1)) else if what = 1 then nI (layS z q) else if what = 2 then tryS z q else -102) from (if_neg (by rw [hb]; decide)).trans (by rw [htq])]
    exact ⟨by simp [*], hz⟩
  · have hb := b2_t (h_1 ▸ c_2)
    refine z_bipush C (pc := 8) (v := (-101)) dX3_cairn_8 (by decide) ?_
    refine z_iret C (pc := 10) (i, r) dX3_cairn_10 ?_ rfl
    rw [show cairnF z x what = -101 from if_pos hb]
    exact ⟨rfl, hz⟩

set_option maxHeartbeats 4000000 in
set_option maxRecDepth 100000 in
theorem c_lay (l : Launch) (D : va_G) (cI : ClassId) (tt : Nat × Nat × Nat) (a : Nat → Nat) (i : Nat → Int32) (r : Nat → Nat → Int32) (x f : Int32) (z : SG) (hz : Cls z i r) (vz : VS z) : MetI (S := ((Nat → Int32) × (Nat → Nat → Int32))) l yX3_lay cX3_lay 4 (some .int) (rm 1 22) D cI tt [.ref (a 0), .int x, .int f] (cW cI a i r) (fun q u => q = (layF z x f).1 ∧ Cls (layF z x f).2 u.1 u.2) (fun u => cW cI a u.1 u.2) := by
  have hv := hz.pv vz
  have hc := hz.c vz
  have hh := hz.hv vz
  have hn6 := vz.2.2.2.1
  have hx6 := pow_le6 hn6
  refine met_ofI (by decide) (Nat.le_of_ble_eq_true rfl) ?_
  intro pP eE sS mM aV bB mE cC AA C hin
  refine z_conv (lv' := [(0, .ref (a 0)), (1, .int x), (2, .int f)]) ⟨rfl, rfl, rfl, trivial⟩ rfl rfl ?_
  refine z_aload_n C (pc := 0) dX3_lay_0 rfl ?_
  refine z_iload_n C (pc := 1) dX3_lay_1 rfl ?_
  refine z_calliF C (by exact fun _ => cW_ad) (runV C (wc := (cW cI a i r)) (pc := 2) (rY' := rm 0 0) (nn := 1) (As := [.int x]) (rest := []) (c_isNoCairn l D cI tt a i r x (z.1 4) hv.1 hn6) (full_hC _) (full_nd _) ⟨rfl, rfl, ⟨Nat.le_of_ble_eq_true rfl, Nat.le_of_ble_eq_true rfl⟩, Nat.le_of_ble_eq_true rfl, Nat.le_of_ble_eq_true rfl⟩ wl_X3_107 wm_X3_isNoCairn we_X3_isNoCairn wi_X3 wc_X3_isNoCairn (by decide +kernel) rfl 0 rfl rfl rfl rfl (Nat.le_of_ble_eq_true rfl) dX3_lay_2) (fun q_1 u_1 h_1 => ?_)
  refine z_ws (st' := [.int q_1]) (ws' := (cW cI a i r)) rfl rfl ?_
  refine z_if_eq C (pc := 5) (tgt := 11) dX3_lay_5 (by decide) (fun c_2 => ?_) (fun c_2 => ?_)
  · have hb := b2_f (h_1 ▸ c_2)
    obtain ⟨hn0, q, hq1, hq6, hxq, htq⟩ := cairn_of hb
    subst hxq
    refine z_iload_n C (pc := 11) dX3_lay_11 rfl ?_
    refine z_if_lt C (pc := 12) (tgt := 21) dX3_lay_12 (by decide) (fun c_3 => ?_) (fun c_3 => ?_)
    · refine z_bipush C (pc := 21) (v := (-102)) dX3_lay_21 (by decide) ?_
      refine z_iret C (pc := 23) (i, r) dX3_lay_23 ?_ rfl
      rw [show layF z (nI q) f = (-102, z) from (if_neg (by rw [hb]; decide)).trans (if_pos (Or.inl c_3))]
      exact ⟨rfl, hz⟩
    · refine z_iload_n C (pc := 15) dX3_lay_15 rfl ?_
      refine z_bipush C (pc := 16) (v := 9) dX3_lay_16 (by decide) ?_
      refine z_icmp_le C (pc := 18) (tgt := 24) dX3_lay_18 (by decide) (fun c_4 => ?_) (fun c_4 => ?_)
      · obtain ⟨fk, hfk, hff, htf⟩ := tn_of (M := 9) (by decide) c_3 c_4
        subst hff
        refine z_aload_n C (pc := 24) dX3_lay_24 rfl ?_
        refine z_get C (pc := 25) 0 rfl rfl wf_X3 2 (by decide) rfl wl_X3_26 (v := .ref (a 6)) rfl dX3_lay_25 ?_
        refine z_getN C (pc := 28) 6 rfl rfl wf_X2 1 (by decide) rfl wl_X3_77 (v := .ref (a 7)) rfl dX3_lay_28 ?_
        refine z_iload_n C (pc := 31) dX3_lay_31 rfl ?_
        refine z_iconst C (pc := 32) (v := 1) dX3_lay_32 (by decide) ?_
        refine z_isub C (pc := 33) dX3_lay_33 ?_
        refine z_calli C (isC := [7]) rfl (by exact fun _ => rfl) (runS C (wc := [(a 7, .inl (cI, 5, .inl (r 3)))]) (pc := 34) (rY' := rm 0 0) (nn := 2) (As := [.ref (a 7), .int ((nI q) - 1)]) (rest := []) (c_at l D cI tt (a 7) 5 (r 3) ((nI q) - 1) (by decide)) rfl rfl ⟨rfl, rfl, ⟨Nat.le_of_ble_eq_true rfl, Nat.le_of_ble_eq_true rfl⟩, Nat.le_of_ble_eq_true rfl, Nat.le_of_ble_eq_true rfl⟩ wl_X3_87 ws_X3_at wi_X3 wc_X3_at (by decide +kernel) rfl rfl (Nat.le_of_ble_eq_true rfl) dX3_lay_34) (fun r_5 u_5 h_5 => ?_)
        have h_5 : r_5 = (nI (z.2.1 2 (q - 1))) := h_5.trans ((at_c hq6 hc).trans (by unfold cav; rw [if_neg (by omega)]))
        subst h_5
        refine z_ws (st' := [.int (nI (z.2.1 2 (q - 1)))]) (ws' := (cW cI a i r)) rfl rfl ?_
        refine z_istore_n C (pc := 37) (lv' := [(0, .ref (a 0)), (1, .int (nI q)), (2, .int (nI fk)), (3, .int (nI (z.2.1 2 (q - 1))))]) dX3_lay_37 (Nat.le_of_ble_eq_true rfl) rfl rfl ?_
        refine z_aload_n C (pc := 38) dX3_lay_38 rfl ?_
        refine z_get C (pc := 39) 0 rfl rfl wf_X3 2 (by decide) rfl wl_X3_26 (v := .ref (a 6)) rfl dX3_lay_39 ?_
        refine z_getN C (pc := 42) 6 rfl rfl wf_X2 1 (by decide) rfl wl_X3_77 (v := .ref (a 7)) rfl dX3_lay_42 ?_
        refine z_iload_n C (pc := 45) dX3_lay_45 rfl ?_
        refine z_iconst C (pc := 46) (v := 1) dX3_lay_46 (by decide) ?_
        refine z_isub C (pc := 47) dX3_lay_47 ?_
        refine z_iload_n C (pc := 48) dX3_lay_48 rfl ?_
        refine z_callv C (isC := [7]) rfl (by exact fun _ => rfl) (runS C (wc := [(a 7, .inl (cI, 5, .inl (r 3)))]) (pc := 49) (rY' := rm 0 0) (nn := 3) (As := [.ref (a 7), .int ((nI q) - 1), .int (nI fk)]) (rest := []) (c_put l D cI tt (a 7) 5 (r 3) ((nI q) - 1) (nI fk) (by decide)) rfl rfl ⟨rfl, rfl, ⟨Nat.le_of_ble_eq_true rfl, Nat.le_of_ble_eq_true rfl⟩, Nat.le_of_ble_eq_true rfl, Nat.le_of_ble_eq_true rfl⟩ wl_X3_66 ws_X3_put wi_X3 wc_X3_put (by decide +kernel) rfl rfl (Nat.le_of_ble_eq_true rfl) dX3_lay_49) (fun u_6 h_6 => ?_)
        subst h_6
        refine z_ws (st' := []) (ws' := (cW cI a i (va_up r 3 (putv 5 (r 3) ((nI q) - 1) (nI fk))))) rfl rfl ?_
        refine z_iload_n C (pc := 52) dX3_lay_52 rfl ?_
        refine z_iret C (pc := 53) (i, (va_up r 3 (putv 5 (r 3) ((nI q) - 1) (nI fk)))) dX3_lay_53 ?_ rfl
        rw [show layF z (nI q) (nI fk) = (nI (z.2.1 2 (q - 1)), (z.1, va_up z.2.1 2 (upN (z.2.1 2) (q - 1) fk), z.2.2)) from (if_neg (by rw [hb]; decide)).trans ((if_neg (fun h => h.elim (fun h => c_3 h) (fun h => h c_4))).trans (by rw [htq, htf]))]
        exact ⟨rfl, cl_lay hz hq1 hq6⟩
      · refine z_bipush C (pc := 21) (v := (-102)) dX3_lay_21 (by decide) ?_
        refine z_iret C (pc := 23) (i, r) dX3_lay_23 ?_ rfl
        rw [show layF z (nI q) f = (-102, z) from (if_neg (by rw [hb]; decide)).trans (if_pos (Or.inr c_4))]
        exact ⟨rfl, hz⟩
  · have hb := b2_t (h_1 ▸ c_2)
    refine z_bipush C (pc := 8) (v := (-101)) dX3_lay_8 (by decide) ?_
    refine z_iret C (pc := 10) (i, r) dX3_lay_10 ?_ rfl
    rw [show layF z x f = (-101, z) from if_pos hb]
    exact ⟨rfl, hz⟩
end
section
set_option maxHeartbeats 4000000 in
set_option maxRecDepth 100000 in
theorem c_march (l : Launch) (D : va_G) (cI : ClassId) (tt : Nat × Nat × Nat) (a : Nat → Nat) (i : Nat → Int32) (r : Nat → Nat → Int32) (x y f : Int32) (z : SG) (hz : Cls z i r) (vz : VS z) : MetI (S := ((Nat → Int32) × (Nat → Nat → Int32))) l yX3_march cX3_march 4 (some .int) (rm 4 92) D cI tt [.ref (a 0), .int x, .int y, .int f] (cW cI a i r) (fun q u => q = (marchF z x y f).1 ∧ Cls (marchF z x y f).2 u.1 u.2) (fun u => cW cI a u.1 u.2) := by
  have hv := hz.pv vz
  have hc := hz.c vz
  have hh := hz.hv vz
  have hn6 := vz.2.2.2.1
  have hx6 := pow_le6 hn6
  refine met_ofI (by decide) (Nat.le_of_ble_eq_true rfl) ?_
  intro pP eE sS mM aV bB mE cC AA C hin
  refine z_conv (lv' := [(0, .ref (a 0)), (1, .int x), (2, .int y), (3, .int f)]) ⟨rfl, rfl, rfl, rfl, trivial⟩ rfl rfl ?_
  refine z_aload_n C (pc := 0) dX3_march_0 rfl ?_
  refine z_iload_n C (pc := 1) dX3_march_1 rfl ?_
  refine z_iload_n C (pc := 2) dX3_march_2 rfl ?_
  refine z_iload_n C (pc := 3) dX3_march_3 rfl ?_
  refine z_calliF C (by exact fun _ => cW_ad) (runV C (wc := (cW cI a i r)) (pc := 4) (rY' := rm 2 41) (nn := 3) (As := [.int x, .int y, .int f]) (rest := []) (c_isNoMarch l D cI tt a i r x y f (z.1 4) hv.1 hn6) (full_hC _) (full_nd _) ⟨rfl, rfl, ⟨Nat.le_of_ble_eq_true rfl, Nat.le_of_ble_eq_true rfl⟩, Nat.le_of_ble_eq_true rfl, Nat.le_of_ble_eq_true rfl⟩ wl_X3_117 wm_X3_isNoMarch we_X3_isNoMarch wi_X3 wc_X3_isNoMarch (by decide +kernel) rfl 0 rfl rfl rfl rfl (Nat.le_of_ble_eq_true rfl) dX3_march_4) (fun q_1 u_1 h_1 => ?_)
  refine z_ws (st' := [.int q_1]) (ws' := (cW cI a i r)) rfl rfl ?_
  refine z_if_eq C (pc := 7) (tgt := 13) dX3_march_7 (by decide) (fun c_2 => ?_) (fun c_2 => ?_)
  · have hb := b2_f (h_1 ▸ c_2)
    obtain ⟨hb1, hb2, hb3⟩ := march_of hb
    obtain ⟨xk, hx1, hx2, hxx, htx⟩ := people_of hn6 hb1
    obtain ⟨yk, hy1, hy2, hyy, hty⟩ := stage_of hb2
    obtain ⟨fk, hf1, hff, htf⟩ := food_of hb3
    subst hxx hyy hff
    refine z_aload_n C (pc := 13) dX3_march_13 rfl ?_
    refine z_iload_n C (pc := 14) dX3_march_14 rfl ?_
    refine z_calliF C (by exact fun _ => cW_ad) (runV C (wc := (cW cI a i r)) (pc := 15) (rY' := rm 0 0) (nn := 1) (As := [.int (nI xk)]) (rest := []) (c_anyIsDead l D cI tt a i r (nI xk)) (full_hC _) (full_nd _) ⟨rfl, rfl, ⟨Nat.le_of_ble_eq_true rfl, Nat.le_of_ble_eq_true rfl⟩, Nat.le_of_ble_eq_true rfl, Nat.le_of_ble_eq_true rfl⟩ wl_X3_121 wm_X3_anyIsDead we_X3_anyIsDead wi_X3 wc_X3_anyIsDead (by decide +kernel) rfl 0 rfl rfl rfl rfl (Nat.le_of_ble_eq_true rfl) dX3_march_15) (fun q_3 u_3 h_3 => ?_)
    refine z_ws (st' := [.int q_3]) (ws' := (cW cI a i r)) rfl rfl ?_
    refine z_if_eq C (pc := 18) (tgt := 24) dX3_march_18 (by decide) (fun c_4 => ?_) (fun c_4 => ?_)
    · have hda := b2_f (h_3 ▸ c_4)
      rw [hz.1.2.2.2.2.2.1] at hda
      have hdd := of_decide_eq_false hda
      refine z_aload_n C (pc := 24) dX3_march_24 rfl ?_
      refine z_get C (pc := 25) 0 rfl rfl wf_X3 1 (by decide) rfl wl_X3_19 (v := .ref (a 3)) rfl dX3_march_25 ?_
      refine z_aload_n C (pc := 28) dX3_march_28 rfl ?_
      refine z_get C (pc := 29) 0 rfl rfl wf_X3 2 (by decide) rfl wl_X3_26 (v := .ref (a 6)) rfl dX3_march_29 ?_
      refine z_getN C (pc := 32) 6 rfl rfl wf_X2 1 (by decide) rfl wl_X3_77 (v := .ref (a 7)) rfl dX3_march_32 ?_
      refine z_callvF C (by exact fun _ => cW_ad) (runVN C (wc := (cW cI a i r)) (pc := 35) (rY' := rm 2 44) (nn := 1) (As := [.ref (a 7)]) (rest := []) (c_setCairnsN l D cI tt a i r) (full_hC _) (full_nd _) ⟨rfl, rfl, ⟨Nat.le_of_ble_eq_true rfl, Nat.le_of_ble_eq_true rfl⟩, Nat.le_of_ble_eq_true rfl, Nat.le_of_ble_eq_true rfl⟩ wl_X3_124 wm_X1_setCairns we_X1_setCairns wi_X1 wc_X1_setCairns (by decide +kernel) rfl 3 rfl rfl rfl rfl (Nat.le_of_ble_eq_true rfl) dX3_march_35) (fun u_5 h_5 => ?_)
      generalize u_5 = r5 at h_5 ⊢
      obtain ⟨g1, g2⟩ := h_5
      have hc2 : ∀ k, k < 5 → r5 2 k = nI (z.2.1 2 k) ∧ z.2.1 2 k ≤ 9 := fun k hk => ⟨(g2 k hk).trans (hc k hk).1, (hc k hk).2⟩
      refine z_ws (st' := []) (ws' := (cW cI a i r5)) rfl rfl ?_
      refine z_aload_n C (pc := 38) dX3_march_38 rfl ?_
      refine z_get C (pc := 39) 0 rfl rfl wf_X3 1 (by decide) rfl wl_X3_19 (v := .ref (a 3)) rfl dX3_march_39 ?_
      refine z_iload_n C (pc := 42) dX3_march_42 rfl ?_
      refine z_iload_n C (pc := 43) dX3_march_43 rfl ?_
      refine z_iload_n C (pc := 44) dX3_march_44 rfl ?_
      refine z_calliF C (by exact fun _ => cW_ad) (runVN C (wc := (cW cI a i r5)) (pc := 45) (rY' := rm 3 67) (nn := 3) (As := [.int (nI xk), .int (nI yk), .int (nI fk)]) (rest := []) (c_go l D cI tt a i r5 (z.2.1 1) (z.1 4) xk yk fk (hv.sp SP.rf g1) hx2 hy2 hf1 (z.2.1 2) hc2) (full_hC _) (full_nd _) ⟨rfl, rfl, ⟨Nat.le_of_ble_eq_true rfl, Nat.le_of_ble_eq_true rfl⟩, Nat.le_of_ble_eq_true rfl, Nat.le_of_ble_eq_true rfl⟩ wl_X3_128 wm_X1_go we_X1_go wi_X1 wc_X1_go (by decide +kernel) rfl 3 rfl rfl rfl rfl (Nat.le_of_ble_eq_true rfl) dX3_march_45) (fun q_6 u_6 h_6 => ?_)
      obtain ⟨i6, r6⟩ := u_6
      try dsimp only at h_6
      obtain ⟨m0, m1, m2, m5, m6, m9, mc⟩ := h_6
      have hzm := (hz.sp SP.rf g1).sp m1 m2
      refine z_ws (st' := [.int q_6]) (ws' := (cW cI a i6 r6)) rfl rfl ?_
      refine z_pop C (pc := 48) dX3_march_48 rfl ?_
      refine z_aload_n C (pc := 49) dX3_march_49 rfl ?_
      refine z_get C (pc := 50) 0 rfl rfl wf_X3 2 (by decide) rfl wl_X3_26 (v := .ref (a 6)) rfl dX3_march_50 ?_
      refine z_aload_n C (pc := 53) dX3_march_53 rfl ?_
      refine z_get C (pc := 54) 0 rfl rfl wf_X3 2 (by decide) rfl wl_X3_26 (v := .ref (a 6)) rfl dX3_march_54 ?_
      refine z_getN C (pc := 57) 6 rfl rfl wf_X2 0 (by decide) rfl wl_X3_100 (v := .int (i6 10)) rfl dX3_march_57 ?_
      refine z_iload_n C (pc := 60) dX3_march_60 rfl ?_
      refine z_iconst C (pc := 61) (v := (-1)) dX3_march_61 (by decide) ?_
      refine z_ixor C (pc := 62) dX3_march_62 ?_
      refine z_iand C (pc := 63) dX3_march_63 ?_
      refine z_aload_n C (pc := 64) dX3_march_64 rfl ?_
      refine z_get C (pc := 65) 0 rfl rfl wf_X3 1 (by decide) rfl wl_X3_19 (v := .ref (a 3)) rfl dX3_march_65 ?_
      refine z_getN C (pc := 68) 3 rfl rfl wf_X1 3 (by decide) rfl wl_X3_131 (v := .int (i6 5)) rfl dX3_march_68 ?_
      refine z_ior C (pc := 71) dX3_march_71 ?_
      refine z_putN C (pc := 72) 6 rfl rfl wf_X2 0 (by decide) rfl tyX2 tyX2_ok nmX2 rfl rfl rfl (Nat.le_of_ble_eq_true rfl) (ws' := (cW cI a (upd i6 10 (((i6 10) &&& ((nI xk) ^^^ (-1))) ||| (i6 5))) r6)) rfl wl_X3_100 dX3_march_72 ?_
      refine z_aload_n C (pc := 75) dX3_march_75 rfl ?_
      refine z_get C (pc := 76) 0 rfl rfl wf_X3 1 (by decide) rfl wl_X3_19 (v := .ref (a 3)) rfl dX3_march_76 ?_
      refine z_getN C (pc := 79) 3 rfl rfl wf_X1 2 (by decide) rfl wl_X3_132 (v := .ref (a 5)) rfl dX3_march_79 ?_
      refine z_aload_n C (pc := 82) dX3_march_82 rfl ?_
      refine z_get C (pc := 83) 0 rfl rfl wf_X3 2 (by decide) rfl wl_X3_26 (v := .ref (a 6)) rfl dX3_march_83 ?_
      refine z_getN C (pc := 86) 6 rfl rfl wf_X2 1 (by decide) rfl wl_X3_77 (v := .ref (a 7)) rfl dX3_march_86 ?_
      refine z_callv C (isC := [5, 7]) rfl (by exact fun _ => rfl) (runS C (wc := [(a 5, .inl (cI, 5, .inl (r6 2))), (a 7, .inl (cI, 5, .inl (r6 3)))]) (pc := 89) (rY' := rm 1 22) (nn := 2) (As := [.ref (a 5), .ref (a 7)]) (rest := []) (c_copy l D cI tt (a 5) 5 (a 7) 5 (r6 2) (r6 3) (by decide) (by decide)) rfl rfl ⟨rfl, rfl, ⟨Nat.le_of_ble_eq_true rfl, Nat.le_of_ble_eq_true rfl⟩, Nat.le_of_ble_eq_true rfl, Nat.le_of_ble_eq_true rfl⟩ wl_X3_133 ws_X3_copy wi_X3 wc_X3_copy (by decide +kernel) rfl rfl (Nat.le_of_ble_eq_true rfl) dX3_march_89) (fun u_7 h_7 => ?_)
      subst h_7
      refine z_ws (st' := []) (ws' := (cW cI a (upd i6 10 (((i6 10) &&& ((nI xk) ^^^ (-1))) ||| (i6 5))) (va_up r6 3 (cpv 5 (r6 2) 5 (r6 3) 5)))) rfl rfl ?_
      refine z_aload_n C (pc := 92) dX3_march_92 rfl ?_
      refine z_get C (pc := 93) 0 rfl rfl wf_X3 2 (by decide) rfl wl_X3_26 (v := .ref (a 6)) rfl dX3_march_93 ?_
      refine z_dup C (pc := 96) dX3_march_96 rfl ?_
      refine z_getN C (pc := 97) 6 rfl rfl wf_X2 2 (by decide) rfl wl_X3_137 (v := .int (i6 11)) rfl dX3_march_97 ?_
      refine z_iconst C (pc := 100) (v := 1) dX3_march_100 (by decide) ?_
      refine z_iadd C (pc := 101) dX3_march_101 ?_
      refine z_putN C (pc := 102) 6 rfl rfl wf_X2 2 (by decide) rfl tyX2 tyX2_ok nmX2 rfl rfl rfl (Nat.le_of_ble_eq_true rfl) (ws' := (cW cI a (upd (upd i6 10 (((i6 10) &&& ((nI xk) ^^^ (-1))) ||| (i6 5))) 11 ((i6 11) + 1)) (va_up r6 3 (cpv 5 (r6 2) 5 (r6 3) 5)))) rfl wl_X3_137 dX3_march_102 ?_
      refine z_aload_n C (pc := 105) dX3_march_105 rfl ?_
      refine z_get C (pc := 106) 0 rfl rfl wf_X3 1 (by decide) rfl wl_X3_19 (v := .ref (a 3)) rfl dX3_march_106 ?_
      refine z_getN C (pc := 109) 3 rfl rfl wf_X1 3 (by decide) rfl wl_X3_131 (v := .int (i6 5)) rfl dX3_march_109 ?_
      refine z_if_eq C (pc := 112) (tgt := 128) dX3_march_112 (by decide) (fun c_8 => ?_) (fun c_8 => ?_)
      · have hmz : (marS z xk yk fk).1 = 0 := nI_z (by have h1 : MOK (z.2.1 1) (z.1 4) (marS z xk yk fk) := mar_ok hn6 hx2 (fun k hk => (hc k hk).2); have := h1.1.1; omega) (m5 ▸ c_8)
        refine z_aload_n C (pc := 128) dX3_march_128 rfl ?_
        refine z_get C (pc := 129) 0 rfl rfl wf_X3 1 (by decide) rfl wl_X3_19 (v := .ref (a 3)) rfl dX3_march_129 ?_
        refine z_getN C (pc := 132) 3 rfl rfl wf_X1 3 (by decide) rfl wl_X3_131 (v := .int (i6 5)) rfl dX3_march_132 ?_
        refine z_iret C (pc := 135) ((upd (upd (upd i6 10 (((i6 10) &&& ((nI xk) ^^^ (-1))) ||| (i6 5))) 11 ((i6 11) + 1)) 12 (i6 12)), (va_up r6 3 (cpv 5 (r6 2) 5 (r6 3) 5))) dX3_march_135 ?_ rfl
        rw [show marchF z (nI xk) (nI yk) (nI fk) = (nI (marS z xk yk fk).1, (upG (upG (upG z.1 5 (alv (z.1 5) xk (marS z xk yk fk).1)) 6 (z.1 6 + 1)) 7 (z.1 7 + 0), va_up z.2.1 2 (marS z xk yk fk).2.2.1, z.2.2)) from (if_neg (by rw [hb]; decide)).trans ((if_neg hdd).trans (by rw [htx, hty, htf, if_pos hmz]))]
        have hmk : MOK (z.2.1 1) (z.1 4) (marS z xk yk fk) := mar_ok hn6 hx2 (fun k hk => (hc k hk).2)
        refine ⟨m5, cl_march hzm ?_ ?_ (fun k hk => (cpv_k (by decide) hk).trans (mc k hk))⟩
        · rw [hzm.1.2.2.2.2.2.1, m5]; exact march_al hn6 vz.2.2.2.2.1 hx2 hmk.1.1
        · rw [hzm.1.2.2.2.2.2.2.2.1, Nat.add_zero]
      · have hmz : (marS z xk yk fk).1 ≠ 0 := nI_nz (m5 ▸ c_8)
        refine z_aload_n C (pc := 115) dX3_march_115 rfl ?_
        refine z_get C (pc := 116) 0 rfl rfl wf_X3 2 (by decide) rfl wl_X3_26 (v := .ref (a 6)) rfl dX3_march_116 ?_
        refine z_dup C (pc := 119) dX3_march_119 rfl ?_
        refine z_getN C (pc := 120) 6 rfl rfl wf_X2 3 (by decide) rfl wl_X3_140 (v := .int (i6 12)) rfl dX3_march_120 ?_
        refine z_iconst C (pc := 123) (v := 1) dX3_march_123 (by decide) ?_
        refine z_iadd C (pc := 124) dX3_march_124 ?_
        refine z_putN C (pc := 125) 6 rfl rfl wf_X2 3 (by decide) rfl tyX2 tyX2_ok nmX2 rfl rfl rfl (Nat.le_of_ble_eq_true rfl) (ws' := (cW cI a (upd (upd (upd i6 10 (((i6 10) &&& ((nI xk) ^^^ (-1))) ||| (i6 5))) 11 ((i6 11) + 1)) 12 ((i6 12) + 1)) (va_up r6 3 (cpv 5 (r6 2) 5 (r6 3) 5)))) rfl wl_X3_140 dX3_march_125 ?_
        refine z_aload_n C (pc := 128) dX3_march_128 rfl ?_
        refine z_get C (pc := 129) 0 rfl rfl wf_X3 1 (by decide) rfl wl_X3_19 (v := .ref (a 3)) rfl dX3_march_129 ?_
        refine z_getN C (pc := 132) 3 rfl rfl wf_X1 3 (by decide) rfl wl_X3_131 (v := .int (i6 5)) rfl dX3_march_132 ?_
        refine z_iret C (pc := 135) ((upd (upd (upd i6 10 (((i6 10) &&& ((nI xk) ^^^ (-1))) ||| (i6 5))) 11 ((i6 11) + 1)) 12 ((i6 12) + 1)), (va_up r6 3 (cpv 5 (r6 2) 5 (r6 3) 5))) dX3_march_135 ?_ rfl
        rw [show marchF z (nI xk) (nI yk) (nI fk) = (nI (marS z xk yk fk).1, (upG (upG (upG z.1 5 (alv (z.1 5) xk (marS z xk yk fk).1)) 6 (z.1 6 + 1)) 7 (z.1 7 + 1), va_up z.2.1 2 (marS z xk yk fk).2.2.1, z.2.2)) from (if_neg (by rw [hb]; decide)).trans ((if_neg hdd).trans (by rw [htx, hty, htf, if_neg hmz]))]
        have hmk : MOK (z.2.1 1) (z.1 4) (marS z xk yk fk) := mar_ok hn6 hx2 (fun k hk => (hc k hk).2)
        refine ⟨m5, cl_march hzm ?_ ?_ (fun k hk => (cpv_k (by decide) hk).trans (mc k hk))⟩
        · rw [hzm.1.2.2.2.2.2.1, m5]; exact march_al hn6 vz.2.2.2.2.1 hx2 hmk.1.1
        · rw [hzm.1.2.2.2.2.2.2.2.1]; exact nI_1 _
    · have hda := b2_t (h_3 ▸ c_4)
      rw [hz.1.2.2.2.2.2.1] at hda
      have hdd := of_decide_eq_true hda
      refine z_bipush C (pc := 21) (v := (-103)) dX3_march_21 (by decide) ?_
      refine z_iret C (pc := 23) (i, r) dX3_march_23 ?_ rfl
      rw [show marchF z (nI xk) (nI yk) (nI fk) = (-103, z) from (if_neg (by rw [hb]; decide)).trans (if_pos hdd)]
      exact ⟨rfl, hz⟩
  · have hb := b2_t (h_1 ▸ c_2)
    refine z_bipush C (pc := 10) (v := (-102)) dX3_march_10 (by decide) ?_
    refine z_iret C (pc := 12) (i, r) dX3_march_12 ?_ rfl
    rw [show marchF z x y f = (-102, z) from if_pos hb]
    exact ⟨rfl, hz⟩

set_option maxHeartbeats 4000000 in
set_option maxRecDepth 100000 in
theorem c_would (l : Launch) (D : va_G) (cI : ClassId) (tt : Nat × Nat × Nat) (a : Nat → Nat) (i : Nat → Int32) (r : Nat → Nat → Int32) (x y f what : Int32) (z : SG) (hz : Cls z i r) (vz : VS z) : MetI (S := ((Nat → Int32) × (Nat → Nat → Int32))) l yX3_would cX3_would 5 (some .int) (rm 4 92) D cI tt [.ref (a 0), .int x, .int y, .int f, .int what] (cW cI a i r) (fun q u => q = wouldF z x y f what ∧ Cls z u.1 u.2) (fun u => cW cI a u.1 u.2) := by
  have hv := hz.pv vz
  have hc := hz.c vz
  have hh := hz.hv vz
  have hn6 := vz.2.2.2.1
  have hx6 := pow_le6 hn6
  refine met_ofI (by decide) (Nat.le_of_ble_eq_true rfl) ?_
  intro pP eE sS mM aV bB mE cC AA C hin
  refine z_conv (lv' := [(0, .ref (a 0)), (1, .int x), (2, .int y), (3, .int f), (4, .int what)]) ⟨rfl, rfl, rfl, rfl, rfl, trivial⟩ rfl rfl ?_
  refine z_aload_n C (pc := 0) dX3_would_0 rfl ?_
  refine z_iload_n C (pc := 1) dX3_would_1 rfl ?_
  refine z_iload_n C (pc := 2) dX3_would_2 rfl ?_
  refine z_iload_n C (pc := 3) dX3_would_3 rfl ?_
  refine z_calliF C (by exact fun _ => cW_ad) (runV C (wc := (cW cI a i r)) (pc := 4) (rY' := rm 2 41) (nn := 3) (As := [.int x, .int y, .int f]) (rest := []) (c_isNoMarch l D cI tt a i r x y f (z.1 4) hv.1 hn6) (full_hC _) (full_nd _) ⟨rfl, rfl, ⟨Nat.le_of_ble_eq_true rfl, Nat.le_of_ble_eq_true rfl⟩, Nat.le_of_ble_eq_true rfl, Nat.le_of_ble_eq_true rfl⟩ wl_X3_117 wm_X3_isNoMarch we_X3_isNoMarch wi_X3 wc_X3_isNoMarch (by decide +kernel) rfl 0 rfl rfl rfl rfl (Nat.le_of_ble_eq_true rfl) dX3_would_4) (fun q_1 u_1 h_1 => ?_)
  refine z_ws (st' := [.int q_1]) (ws' := (cW cI a i r)) rfl rfl ?_
  refine z_if_ne C (pc := 7) (tgt := 21) dX3_would_7 (by decide) (fun c_2 => ?_) (fun c_2 => ?_)
  · have hb := b2_t (h_1 ▸ c_2)
    have hbb : noMarch (z.1 4) x y f = true ∨ what < 0 ∨ ¬ what ≤ 3 := Or.inl hb
    refine z_bipush C (pc := 21) (v := (-102)) dX3_would_21 (by decide) ?_
    refine z_iret C (pc := 23) (i, r) dX3_would_23 ?_ rfl
    rw [show wouldF z x y f what = -102 from if_pos hbb]
    exact ⟨rfl, hz⟩
  · have hb := b2_f (h_1 ▸ c_2)
    obtain ⟨hb1, hb2, hb3⟩ := march_of hb
    obtain ⟨xk, hx1, hx2, hxx, htx⟩ := people_of hn6 hb1
    obtain ⟨yk, hy1, hy2, hyy, hty⟩ := stage_of hb2
    obtain ⟨fk, hf1, hff, htf⟩ := food_of hb3
    subst hxx hyy hff
    refine z_iload C (pc := 10) dX3_would_10 rfl ?_
    refine z_if_lt C (pc := 12) (tgt := 21) dX3_would_12 (by decide) (fun c_3 => ?_) (fun c_3 => ?_)
    · have hbb : noMarch (z.1 4) (nI xk) (nI yk) (nI fk) = true ∨ what < 0 ∨ ¬ what ≤ 3 := Or.inr (Or.inl c_3)
      refine z_bipush C (pc := 21) (v := (-102)) dX3_would_21 (by decide) ?_
      refine z_iret C (pc := 23) (i, r) dX3_would_23 ?_ rfl
      rw [show wouldF z (nI xk) (nI yk) (nI fk) what = -102 from if_pos hbb]
      exact ⟨rfl, hz⟩
    · refine z_iload C (pc := 15) dX3_would_15 rfl ?_
      refine z_iconst C (pc := 17) (v := 3) dX3_would_17 (by decide) ?_
      refine z_icmp_le C (pc := 18) (tgt := 24) dX3_would_18 (by decide) (fun c_4 => ?_) (fun c_4 => ?_)
      · have hbb : ¬ (noMarch (z.1 4) (nI xk) (nI yk) (nI fk) = true ∨ what < 0 ∨ ¬ what ≤ 3) := fun h => h.elim (fun h => by rw [hb] at h; exact absurd h (by decide)) (fun h => h.elim (fun h => c_3 h) (fun h => h c_4))
        refine z_aload_n C (pc := 24) dX3_would_24 rfl ?_
        refine z_iload_n C (pc := 25) dX3_would_25 rfl ?_
        refine z_calliF C (by exact fun _ => cW_ad) (runV C (wc := (cW cI a i r)) (pc := 26) (rY' := rm 0 0) (nn := 1) (As := [.int (nI xk)]) (rest := []) (c_anyIsDead l D cI tt a i r (nI xk)) (full_hC _) (full_nd _) ⟨rfl, rfl, ⟨Nat.le_of_ble_eq_true rfl, Nat.le_of_ble_eq_true rfl⟩, Nat.le_of_ble_eq_true rfl, Nat.le_of_ble_eq_true rfl⟩ wl_X3_121 wm_X3_anyIsDead we_X3_anyIsDead wi_X3 wc_X3_anyIsDead (by decide +kernel) rfl 0 rfl rfl rfl rfl (Nat.le_of_ble_eq_true rfl) dX3_would_26) (fun q_5 u_5 h_5 => ?_)
        refine z_ws (st' := [.int q_5]) (ws' := (cW cI a i r)) rfl rfl ?_
        refine z_if_eq C (pc := 29) (tgt := 35) dX3_would_29 (by decide) (fun c_6 => ?_) (fun c_6 => ?_)
        · have hda := b2_f (h_5 ▸ c_6)
          rw [hz.1.2.2.2.2.2.1] at hda
          have hdd := of_decide_eq_false hda
          refine z_aload_n C (pc := 35) dX3_would_35 rfl ?_
          refine z_get C (pc := 36) 0 rfl rfl wf_X3 1 (by decide) rfl wl_X3_19 (v := .ref (a 3)) rfl dX3_would_36 ?_
          refine z_aload_n C (pc := 39) dX3_would_39 rfl ?_
          refine z_get C (pc := 40) 0 rfl rfl wf_X3 2 (by decide) rfl wl_X3_26 (v := .ref (a 6)) rfl dX3_would_40 ?_
          refine z_getN C (pc := 43) 6 rfl rfl wf_X2 1 (by decide) rfl wl_X3_77 (v := .ref (a 7)) rfl dX3_would_43 ?_
          refine z_callvF C (by exact fun _ => cW_ad) (runVN C (wc := (cW cI a i r)) (pc := 46) (rY' := rm 2 44) (nn := 1) (As := [.ref (a 7)]) (rest := []) (c_setCairnsN l D cI tt a i r) (full_hC _) (full_nd _) ⟨rfl, rfl, ⟨Nat.le_of_ble_eq_true rfl, Nat.le_of_ble_eq_true rfl⟩, Nat.le_of_ble_eq_true rfl, Nat.le_of_ble_eq_true rfl⟩ wl_X3_124 wm_X1_setCairns we_X1_setCairns wi_X1 wc_X1_setCairns (by decide +kernel) rfl 3 rfl rfl rfl rfl (Nat.le_of_ble_eq_true rfl) dX3_would_46) (fun u_7 h_7 => ?_)
          generalize u_7 = r7 at h_7 ⊢
          obtain ⟨g1, g2⟩ := h_7
          have hc2 : ∀ k, k < 5 → r7 2 k = nI (z.2.1 2 k) ∧ z.2.1 2 k ≤ 9 := fun k hk => ⟨(g2 k hk).trans (hc k hk).1, (hc k hk).2⟩
          refine z_ws (st' := []) (ws' := (cW cI a i r7)) rfl rfl ?_
          refine z_aload_n C (pc := 49) dX3_would_49 rfl ?_
          refine z_get C (pc := 50) 0 rfl rfl wf_X3 1 (by decide) rfl wl_X3_19 (v := .ref (a 3)) rfl dX3_would_50 ?_
          refine z_iload_n C (pc := 53) dX3_would_53 rfl ?_
          refine z_iload_n C (pc := 54) dX3_would_54 rfl ?_
          refine z_iload_n C (pc := 55) dX3_would_55 rfl ?_
          refine z_calliF C (by exact fun _ => cW_ad) (runVN C (wc := (cW cI a i r7)) (pc := 56) (rY' := rm 3 67) (nn := 3) (As := [.int (nI xk), .int (nI yk), .int (nI fk)]) (rest := []) (c_go l D cI tt a i r7 (z.2.1 1) (z.1 4) xk yk fk (hv.sp SP.rf g1) hx2 hy2 hf1 (z.2.1 2) hc2) (full_hC _) (full_nd _) ⟨rfl, rfl, ⟨Nat.le_of_ble_eq_true rfl, Nat.le_of_ble_eq_true rfl⟩, Nat.le_of_ble_eq_true rfl, Nat.le_of_ble_eq_true rfl⟩ wl_X3_128 wm_X1_go we_X1_go wi_X1 wc_X1_go (by decide +kernel) rfl 3 rfl rfl rfl rfl (Nat.le_of_ble_eq_true rfl) dX3_would_56) (fun q_8 u_8 h_8 => ?_)
          obtain ⟨i8, r8⟩ := u_8
          try dsimp only at h_8
          obtain ⟨m0, m1, m2, m5, m6, m9, mc⟩ := h_8
          have hzm := (hz.sp SP.rf g1).sp m1 m2
          refine z_ws (st' := [.int q_8]) (ws' := (cW cI a i8 r8)) rfl rfl ?_
          refine z_pop C (pc := 59) dX3_would_59 rfl ?_
          refine z_iload C (pc := 60) dX3_would_60 rfl ?_
          by_cases c_9 : what = 0
          · refine z_tableIn C (pc := 62) (tgt := 88) (off := 26) dX3_would_62 (by rw [c_9]; decide) (by rw [c_9]; decide) (by rw [c_9]; rfl) (by decide) ?_
            refine z_aload_n C (pc := 88) dX3_would_88 rfl ?_
            refine z_get C (pc := 89) 0 rfl rfl wf_X3 1 (by decide) rfl wl_X3_19 (v := .ref (a 3)) rfl dX3_would_89 ?_
            refine z_getN C (pc := 92) 3 rfl rfl wf_X1 3 (by decide) rfl wl_X3_131 (v := .int (i8 5)) rfl dX3_would_92 ?_
            refine z_iret C (pc := 95) (i8, r8) dX3_would_95 ?_ rfl
            rw [show wouldF z (nI xk) (nI yk) (nI fk) what = tellM (marS z xk yk fk) what from (if_neg hbb).trans ((if_neg hdd).trans (by rw [htx, hty, htf]))]
            refine ⟨?_, hzm⟩
            unfold tellM
            rw [if_pos c_9]; exact m5
          by_cases c_10 : what = 1
          · refine z_tableIn C (pc := 62) (tgt := 96) (off := 34) dX3_would_62 (by rw [c_10]; decide) (by rw [c_10]; decide) (by rw [c_10]; rfl) (by decide) ?_
            refine z_aload_n C (pc := 96) dX3_would_96 rfl ?_
            refine z_get C (pc := 97) 0 rfl rfl wf_X3 1 (by decide) rfl wl_X3_19 (v := .ref (a 3)) rfl dX3_would_97 ?_
            refine z_getN C (pc := 100) 3 rfl rfl wf_X1 4 (by decide) rfl wl_X3_143 (v := .int (i8 6)) rfl dX3_would_100 ?_
            refine z_iret C (pc := 103) (i8, r8) dX3_would_103 ?_ rfl
            rw [show wouldF z (nI xk) (nI yk) (nI fk) what = tellM (marS z xk yk fk) what from (if_neg hbb).trans ((if_neg hdd).trans (by rw [htx, hty, htf]))]
            refine ⟨?_, hzm⟩
            unfold tellM
            rw [if_neg c_9, if_pos c_10]; exact m6
          by_cases c_11 : what = 2
          · refine z_tableIn C (pc := 62) (tgt := 104) (off := 42) dX3_would_62 (by rw [c_11]; decide) (by rw [c_11]; decide) (by rw [c_11]; rfl) (by decide) ?_
            refine z_aload_n C (pc := 104) dX3_would_104 rfl ?_
            refine z_get C (pc := 105) 0 rfl rfl wf_X3 1 (by decide) rfl wl_X3_19 (v := .ref (a 3)) rfl dX3_would_105 ?_
            refine z_getN C (pc := 108) 3 rfl rfl wf_X1 2 (by decide) rfl wl_X3_132 (v := .ref (a 5)) rfl dX3_would_108 ?_
            refine z_calli C (isC := [5]) rfl (by exact fun _ => rfl) (runS C (wc := [(a 5, .inl (cI, 5, .inl (r8 2)))]) (pc := 111) (rY' := rm 0 0) (nn := 1) (As := [.ref (a 5)]) (rest := []) (c_sum l D cI tt (a 5) 5 (r8 2) (by decide)) rfl rfl ⟨rfl, rfl, ⟨Nat.le_of_ble_eq_true rfl, Nat.le_of_ble_eq_true rfl⟩, Nat.le_of_ble_eq_true rfl, Nat.le_of_ble_eq_true rfl⟩ wl_X3_146 ws_X3_sum wi_X3 wc_X3_sum (by decide +kernel) rfl rfl (Nat.le_of_ble_eq_true rfl) dX3_would_111) (fun r_12 u_12 h_12 => ?_)
            subst h_12
            refine z_ws (st' := [.int (sumv (r8 2) 5)]) (ws' := (cW cI a i8 r8)) rfl rfl ?_
            refine z_iret C (pc := 114) (i8, r8) dX3_would_114 ?_ rfl
            rw [show wouldF z (nI xk) (nI yk) (nI fk) what = tellM (marS z xk yk fk) what from (if_neg hbb).trans ((if_neg hdd).trans (by rw [htx, hty, htf]))]
            refine ⟨?_, hzm⟩
            unfold tellM
            rw [if_neg c_9, if_neg c_10, if_pos c_11]; exact sum_nI mc
          refine z_tableOut C (pc := 62) (tgt := 115) dX3_would_62 (by have q0 := lv_neT c_9 (a := 0) rfl; have q1 := lv_neT c_10 (a := 1) rfl; have q2 := lv_neT c_11 (a := 2) rfl; omega) (by decide) ?_
          refine z_aload_n C (pc := 115) dX3_would_115 rfl ?_
          refine z_get C (pc := 116) 0 rfl rfl wf_X3 1 (by decide) rfl wl_X3_19 (v := .ref (a 3)) rfl dX3_would_116 ?_
          refine z_getN C (pc := 119) 3 rfl rfl wf_X1 7 (by decide) rfl wl_X3_150 (v := .int (i8 9)) rfl dX3_would_119 ?_
          refine z_iret C (pc := 122) (i8, r8) dX3_would_122 ?_ rfl
          rw [show wouldF z (nI xk) (nI yk) (nI fk) what = tellM (marS z xk yk fk) what from (if_neg hbb).trans ((if_neg hdd).trans (by rw [htx, hty, htf]))]
          refine ⟨?_, hzm⟩
          unfold tellM
          rw [if_neg c_9, if_neg c_10, if_neg c_11]; exact m9
        · have hda := b2_t (h_5 ▸ c_6)
          rw [hz.1.2.2.2.2.2.1] at hda
          have hdd := of_decide_eq_true hda
          refine z_bipush C (pc := 32) (v := (-103)) dX3_would_32 (by decide) ?_
          refine z_iret C (pc := 34) (i, r) dX3_would_34 ?_ rfl
          rw [show wouldF z (nI xk) (nI yk) (nI fk) what = -103 from (if_neg hbb).trans (if_pos hdd)]
          exact ⟨rfl, hz⟩
      · have hbb : noMarch (z.1 4) (nI xk) (nI yk) (nI fk) = true ∨ what < 0 ∨ ¬ what ≤ 3 := Or.inr (Or.inr c_4)
        refine z_bipush C (pc := 21) (v := (-102)) dX3_would_21 (by decide) ?_
        refine z_iret C (pc := 23) (i, r) dX3_would_23 ?_ rfl
        rw [show wouldF z (nI xk) (nI yk) (nI fk) what = -102 from if_pos hbb]
        exact ⟨rfl, hz⟩

set_option maxHeartbeats 4000000 in
set_option maxRecDepth 100000 in
theorem c_need (l : Launch) (D : va_G) (cI : ClassId) (tt : Nat × Nat × Nat) (a : Nat → Nat) (i : Nat → Int32) (r : Nat → Nat → Int32) (x y : Int32) (z : SG) (hz : Cls z i r) (vz : VS z) : MetI (S := ((Nat → Int32) × (Nat → Nat → Int32))) l yX3_need cX3_need 3 (some .int) (rm 5 117) D cI tt [.ref (a 0), .int x, .int y] (cW cI a i r) (fun q u => q = needF z x y ∧ Cls z u.1 u.2) (fun u => cW cI a u.1 u.2) := by
  have hv := hz.pv vz
  have hc := hz.c vz
  have hh := hz.hv vz
  have hn6 := vz.2.2.2.1
  have hx6 := pow_le6 hn6
  refine met_ofI (by decide) (Nat.le_of_ble_eq_true rfl) ?_
  intro pP eE sS mM aV bB mE cC AA C hin
  refine z_conv (lv' := [(0, .ref (a 0)), (1, .int x), (2, .int y)]) ⟨rfl, rfl, rfl, trivial⟩ rfl rfl ?_
  refine z_aload_n C (pc := 0) dX3_need_0 rfl ?_
  refine z_iload_n C (pc := 1) dX3_need_1 rfl ?_
  refine z_calliF C (by exact fun _ => cW_ad) (runV C (wc := (cW cI a i r)) (pc := 2) (rY' := rm 1 20) (nn := 1) (As := [.int x]) (rest := []) (c_isNobody l D cI tt a i r x (z.1 4) hv.1 hn6) (full_hC _) (full_nd _) ⟨rfl, rfl, ⟨Nat.le_of_ble_eq_true rfl, Nat.le_of_ble_eq_true rfl⟩, Nat.le_of_ble_eq_true rfl, Nat.le_of_ble_eq_true rfl⟩ wl_X3_153 wm_X3_isNobody we_X3_isNobody wi_X3 wc_X3_isNobody (by decide +kernel) rfl 0 rfl rfl rfl rfl (Nat.le_of_ble_eq_true rfl) dX3_need_2) (fun q_1 u_1 h_1 => ?_)
  refine z_ws (st' := [.int q_1]) (ws' := (cW cI a i r)) rfl rfl ?_
  refine z_if_ne C (pc := 5) (tgt := 15) dX3_need_5 (by decide) (fun c_2 => ?_) (fun c_2 => ?_)
  · have hbb : noPeople (z.1 4) x = true ∨ noStage y = true := Or.inl (b2_t (h_1 ▸ c_2))
    refine z_bipush C (pc := 15) (v := (-102)) dX3_need_15 (by decide) ?_
    refine z_iret C (pc := 17) (i, r) dX3_need_17 ?_ rfl
    rw [show needF z x y = -102 from if_pos hbb]
    exact ⟨rfl, hz⟩
  · have hb1 := b2_f (h_1 ▸ c_2)
    refine z_iload_n C (pc := 8) dX3_need_8 rfl ?_
    refine z_calli C (isC := []) rfl (by exact fun _ => rfl) (runS C (wc := []) (pc := 9) (rY' := rm 0 0) (nn := 1) (As := [.int y]) (rest := []) (c_isNoStage l D cI tt y) rfl rfl ⟨rfl, rfl, ⟨Nat.le_of_ble_eq_true rfl, Nat.le_of_ble_eq_true rfl⟩, Nat.le_of_ble_eq_true rfl, Nat.le_of_ble_eq_true rfl⟩ wl_X3_156 ws_X3_isNoStage wi_X3 wc_X3_isNoStage (by decide +kernel) rfl rfl (Nat.le_of_ble_eq_true rfl) dX3_need_9) (fun q_3 u_3 h_3 => ?_)
    refine z_ws (st' := [.int q_3]) (ws' := (cW cI a i r)) rfl rfl ?_
    refine z_if_eq C (pc := 12) (tgt := 18) dX3_need_12 (by decide) (fun c_4 => ?_) (fun c_4 => ?_)
    · have hb2 := b2_f (h_3 ▸ c_4)
      have hbb : ¬ (noPeople (z.1 4) x = true ∨ noStage y = true) := by rw [hb1, hb2]; decide
      obtain ⟨xk, hx1, hx2, hxx, htx⟩ := people_of hn6 hb1
      obtain ⟨yk, hy1, hy2, hyy, hty⟩ := stage_of hb2
      subst hxx hyy
      refine z_aload_n C (pc := 18) dX3_need_18 rfl ?_
      refine z_iload_n C (pc := 19) dX3_need_19 rfl ?_
      refine z_calliF C (by exact fun _ => cW_ad) (runV C (wc := (cW cI a i r)) (pc := 20) (rY' := rm 0 0) (nn := 1) (As := [.int (nI xk)]) (rest := []) (c_anyIsDead l D cI tt a i r (nI xk)) (full_hC _) (full_nd _) ⟨rfl, rfl, ⟨Nat.le_of_ble_eq_true rfl, Nat.le_of_ble_eq_true rfl⟩, Nat.le_of_ble_eq_true rfl, Nat.le_of_ble_eq_true rfl⟩ wl_X3_121 wm_X3_anyIsDead we_X3_anyIsDead wi_X3 wc_X3_anyIsDead (by decide +kernel) rfl 0 rfl rfl rfl rfl (Nat.le_of_ble_eq_true rfl) dX3_need_20) (fun q_5 u_5 h_5 => ?_)
      refine z_ws (st' := [.int q_5]) (ws' := (cW cI a i r)) rfl rfl ?_
      refine z_if_eq C (pc := 23) (tgt := 31) dX3_need_23 (by decide) (fun c_6 => ?_) (fun c_6 => ?_)
      · have hda := b2_f (h_5 ▸ c_6)
        rw [hz.1.2.2.2.2.2.1] at hda
        have hdd := of_decide_eq_false hda
        refine z_aload_n C (pc := 31) dX3_need_31 rfl ?_
        refine z_iload_n C (pc := 32) dX3_need_32 rfl ?_
        refine z_iload_n C (pc := 33) dX3_need_33 rfl ?_
        refine z_aload_n C (pc := 34) dX3_need_34 rfl ?_
        refine z_get C (pc := 35) 0 rfl rfl wf_X3 2 (by decide) rfl wl_X3_26 (v := .ref (a 6)) rfl dX3_need_35 ?_
        refine z_getN C (pc := 38) 6 rfl rfl wf_X2 1 (by decide) rfl wl_X3_77 (v := .ref (a 7)) rfl dX3_need_38 ?_
        refine z_calliF C (by exact fun _ => cW_ad) (runV C (wc := (cW cI a i r)) (pc := 41) (rY' := rm 4 92) (nn := 3) (As := [.int (nI xk), .int (nI yk), .ref (a 7)]) (rest := []) (c_leastFoodN l D cI tt a i r (z.2.1 1) (z.1 4) hv xk yk hx2 hy2 (z.2.1 2) hc) (full_hC _) (full_nd _) ⟨rfl, rfl, ⟨Nat.le_of_ble_eq_true rfl, Nat.le_of_ble_eq_true rfl⟩, Nat.le_of_ble_eq_true rfl, Nat.le_of_ble_eq_true rfl⟩ wl_X3_159 wm_X3_leastFood we_X3_leastFood wi_X3 wc_X3_leastFood (by decide +kernel) rfl 0 rfl rfl rfl rfl (Nat.le_of_ble_eq_true rfl) dX3_need_41) (fun q_7 u_7 h_7 => ?_)
        obtain ⟨i7, r7⟩ := u_7
        try dsimp only at h_7
        obtain ⟨k0, k1, k2⟩ := h_7
        refine z_ws (st' := [.int q_7]) (ws' := (cW cI a i7 r7)) rfl rfl ?_
        refine z_iret C (pc := 44) (i7, r7) dX3_need_44 ?_ rfl
        rw [show needF z (nI xk) (nI yk) = needv (z.2.1 1) (z.1 4) xk yk (z.2.1 2) from (if_neg hbb).trans ((if_neg hdd).trans (by rw [htx, hty]))]
        exact ⟨k0, hz.sp k1 k2⟩
      · have hda := b2_t (h_5 ▸ c_6)
        rw [hz.1.2.2.2.2.2.1] at hda
        have hdd := of_decide_eq_true hda
        refine z_bipush C (pc := 26) (v := (-103)) dX3_need_26 (by decide) ?_
        refine z_goto C (pc := 28) (tgt := 44) dX3_need_28 (by decide) ?_
        refine z_iret C (pc := 44) (i, r) dX3_need_44 ?_ rfl
        rw [show needF z (nI xk) (nI yk) = -103 from (if_neg hbb).trans (if_pos hdd)]
        exact ⟨rfl, hz⟩
    · have hbb : noPeople (z.1 4) x = true ∨ noStage y = true := Or.inr (b2_t (h_3 ▸ c_4))
      refine z_bipush C (pc := 15) (v := (-102)) dX3_need_15 (by decide) ?_
      refine z_iret C (pc := 17) (i, r) dX3_need_17 ?_ rfl
      rw [show needF z x y = -102 from if_pos hbb]
      exact ⟨rfl, hz⟩

set_option maxHeartbeats 4000000 in
set_option maxRecDepth 100000 in
theorem c_far (l : Launch) (D : va_G) (cI : ClassId) (tt : Nat × Nat × Nat) (a : Nat → Nat) (i : Nat → Int32) (r : Nat → Nat → Int32) (x : Int32) (z : SG) (hz : Cls z i r) (vz : VS z) : MetI (S := ((Nat → Int32) × (Nat → Nat → Int32))) l yX3_far cX3_far 2 (some .int) (rm 6 140) D cI tt [.ref (a 0), .int x] (cW cI a i r) (fun q u => q = farF z x ∧ Cls z u.1 u.2) (fun u => cW cI a u.1 u.2) := by
  have hv := hz.pv vz
  have hc := hz.c vz
  have hh := hz.hv vz
  have hn6 := vz.2.2.2.1
  have hx6 := pow_le6 hn6
  refine met_ofI (by decide) (Nat.le_of_ble_eq_true rfl) ?_
  intro pP eE sS mM aV bB mE cC AA C hin
  refine z_conv (lv' := [(0, .ref (a 0)), (1, .int x)]) ⟨rfl, rfl, trivial⟩ rfl rfl ?_
  refine z_aload_n C (pc := 0) dX3_far_0 rfl ?_
  refine z_iload_n C (pc := 1) dX3_far_1 rfl ?_
  refine z_calliF C (by exact fun _ => cW_ad) (runV C (wc := (cW cI a i r)) (pc := 2) (rY' := rm 1 20) (nn := 1) (As := [.int x]) (rest := []) (c_isNobody l D cI tt a i r x (z.1 4) hv.1 hn6) (full_hC _) (full_nd _) ⟨rfl, rfl, ⟨Nat.le_of_ble_eq_true rfl, Nat.le_of_ble_eq_true rfl⟩, Nat.le_of_ble_eq_true rfl, Nat.le_of_ble_eq_true rfl⟩ wl_X3_153 wm_X3_isNobody we_X3_isNobody wi_X3 wc_X3_isNobody (by decide +kernel) rfl 0 rfl rfl rfl rfl (Nat.le_of_ble_eq_true rfl) dX3_far_2) (fun q_1 u_1 h_1 => ?_)
  refine z_ws (st' := [.int q_1]) (ws' := (cW cI a i r)) rfl rfl ?_
  refine z_if_eq C (pc := 5) (tgt := 11) dX3_far_5 (by decide) (fun c_2 => ?_) (fun c_2 => ?_)
  · have hb := b2_f (h_1 ▸ c_2)
    obtain ⟨xk, hx1, hx2, hxx, htx⟩ := people_of hn6 hb
    subst hxx
    refine z_aload_n C (pc := 11) dX3_far_11 rfl ?_
    refine z_iload_n C (pc := 12) dX3_far_12 rfl ?_
    refine z_calliF C (by exact fun _ => cW_ad) (runV C (wc := (cW cI a i r)) (pc := 13) (rY' := rm 0 0) (nn := 1) (As := [.int (nI xk)]) (rest := []) (c_anyIsDead l D cI tt a i r (nI xk)) (full_hC _) (full_nd _) ⟨rfl, rfl, ⟨Nat.le_of_ble_eq_true rfl, Nat.le_of_ble_eq_true rfl⟩, Nat.le_of_ble_eq_true rfl, Nat.le_of_ble_eq_true rfl⟩ wl_X3_121 wm_X3_anyIsDead we_X3_anyIsDead wi_X3 wc_X3_anyIsDead (by decide +kernel) rfl 0 rfl rfl rfl rfl (Nat.le_of_ble_eq_true rfl) dX3_far_13) (fun q_3 u_3 h_3 => ?_)
    refine z_ws (st' := [.int q_3]) (ws' := (cW cI a i r)) rfl rfl ?_
    refine z_if_eq C (pc := 16) (tgt := 24) dX3_far_16 (by decide) (fun c_4 => ?_) (fun c_4 => ?_)
    · have hda := b2_f (h_3 ▸ c_4)
      rw [hz.1.2.2.2.2.2.1] at hda
      have hdd := of_decide_eq_false hda
      refine z_aload_n C (pc := 24) dX3_far_24 rfl ?_
      refine z_iload_n C (pc := 25) dX3_far_25 rfl ?_
      refine z_aload_n C (pc := 26) dX3_far_26 rfl ?_
      refine z_get C (pc := 27) 0 rfl rfl wf_X3 2 (by decide) rfl wl_X3_26 (v := .ref (a 6)) rfl dX3_far_27 ?_
      refine z_getN C (pc := 30) 6 rfl rfl wf_X2 1 (by decide) rfl wl_X3_77 (v := .ref (a 7)) rfl dX3_far_30 ?_
      refine z_calliF C (by exact fun _ => cW_ad) (runV C (wc := (cW cI a i r)) (pc := 33) (rY' := rm 5 117) (nn := 2) (As := [.int (nI xk), .ref (a 7)]) (rest := []) (c_farthestN l D cI tt a i r (z.2.1 1) (z.1 4) hv xk hx2 (z.2.1 2) hc) (full_hC _) (full_nd _) ⟨rfl, rfl, ⟨Nat.le_of_ble_eq_true rfl, Nat.le_of_ble_eq_true rfl⟩, Nat.le_of_ble_eq_true rfl, Nat.le_of_ble_eq_true rfl⟩ wl_X3_163 wm_X3_farthest we_X3_farthest wi_X3 wc_X3_farthest (by decide +kernel) rfl 0 rfl rfl rfl rfl (Nat.le_of_ble_eq_true rfl) dX3_far_33) (fun q_5 u_5 h_5 => ?_)
      obtain ⟨i5, r5⟩ := u_5
      try dsimp only at h_5
      obtain ⟨k0, k1, k2⟩ := h_5
      refine z_ws (st' := [.int q_5]) (ws' := (cW cI a i5 r5)) rfl rfl ?_
      refine z_iret C (pc := 36) (i5, r5) dX3_far_36 ?_ rfl
      rw [show farF z (nI xk) = nI (farv (z.2.1 1) (z.1 4) xk (z.2.1 2)) from (if_neg (by rw [hb]; decide)).trans ((if_neg hdd).trans (by rw [htx]))]
      exact ⟨k0, hz.sp k1 k2⟩
    · have hda := b2_t (h_3 ▸ c_4)
      rw [hz.1.2.2.2.2.2.1] at hda
      have hdd := of_decide_eq_true hda
      refine z_bipush C (pc := 19) (v := (-103)) dX3_far_19 (by decide) ?_
      refine z_goto C (pc := 21) (tgt := 36) dX3_far_21 (by decide) ?_
      refine z_iret C (pc := 36) (i, r) dX3_far_36 ?_ rfl
      rw [show farF z (nI xk) = -103 from (if_neg (by rw [hb]; decide)).trans (if_pos hdd)]
      exact ⟨rfl, hz⟩
  · have hb := b2_t (h_1 ▸ c_2)
    refine z_bipush C (pc := 8) (v := (-102)) dX3_far_8 (by decide) ?_
    refine z_iret C (pc := 10) (i, r) dX3_far_10 ?_ rfl
    rw [show farF z x = -102 from if_pos hb]
    exact ⟨rfl, hz⟩

set_option maxHeartbeats 4000000 in
set_option maxRecDepth 100000 in
theorem c_team (l : Launch) (D : va_G) (cI : ClassId) (tt : Nat × Nat × Nat) (a : Nat → Nat) (i : Nat → Int32) (r : Nat → Nat → Int32) (y : Int32) (z : SG) (hz : Cls z i r) (vz : VS z) : MetI (S := ((Nat → Int32) × (Nat → Nat → Int32))) l yX3_team cX3_team 2 (some .int) (rm 6 142) D cI tt [.ref (a 0), .int y] (cW cI a i r) (fun q u => q = (teamF z y).1 ∧ Cls (teamF z y).2 u.1 u.2) (fun u => cW cI a u.1 u.2) := by
  have hv := hz.pv vz
  have hc := hz.c vz
  have hh := hz.hv vz
  have hn6 := vz.2.2.2.1
  have hx6 := pow_le6 hn6
  refine met_ofI (by decide) (Nat.le_of_ble_eq_true rfl) ?_
  intro pP eE sS mM aV bB mE cC AA C hin
  refine z_conv (lv' := [(0, .ref (a 0)), (1, .int y)]) ⟨rfl, rfl, trivial⟩ rfl rfl ?_
  refine z_iload_n C (pc := 0) dX3_team_0 rfl ?_
  refine z_calli C (isC := []) rfl (by exact fun _ => rfl) (runS C (wc := []) (pc := 1) (rY' := rm 0 0) (nn := 1) (As := [.int y]) (rest := []) (c_isNoStage l D cI tt y) rfl rfl ⟨rfl, rfl, ⟨Nat.le_of_ble_eq_true rfl, Nat.le_of_ble_eq_true rfl⟩, Nat.le_of_ble_eq_true rfl, Nat.le_of_ble_eq_true rfl⟩ wl_X3_156 ws_X3_isNoStage wi_X3 wc_X3_isNoStage (by decide +kernel) rfl rfl (Nat.le_of_ble_eq_true rfl) dX3_team_1) (fun q_1 u_1 h_1 => ?_)
  refine z_ws (st' := [.int q_1]) (ws' := (cW cI a i r)) rfl rfl ?_
  refine z_if_eq C (pc := 4) (tgt := 10) dX3_team_4 (by decide) (fun c_2 => ?_) (fun c_2 => ?_)
  · have hb := b2_f (h_1 ▸ c_2)
    obtain ⟨yk, hy1, hy2, hyy, hty⟩ := stage_of hb
    subst hyy
    refine z_aload_n C (pc := 10) dX3_team_10 rfl ?_
    refine z_get C (pc := 11) 0 rfl rfl wf_X3 1 (by decide) rfl wl_X3_19 (v := .ref (a 3)) rfl dX3_team_11 ?_
    refine z_getN C (pc := 14) 3 rfl rfl wf_X1 1 (by decide) rfl wl_X3_53 (v := .int (i 4)) rfl dX3_team_14 ?_
    refine z_if_eq C (pc := 17) (tgt := 29) dX3_team_17 (by decide) (fun c_3 => ?_) (fun c_3 => ?_)
    · rw [hz.1.2.2.2.2.1] at c_3
      have hs : z.1 4 = 0 ∨ 20 ≤ z.1 2 := Or.inl (nI_z (by omega) c_3)
      refine z_bipush C (pc := 29) (v := (-103)) dX3_team_29 (by decide) ?_
      refine z_iret C (pc := 31) (i, r) dX3_team_31 ?_ rfl
      rw [show teamF z (nI yk) = (-103, z) from (if_neg (by rw [hb]; decide)).trans (if_pos hs)]
      exact ⟨rfl, hz⟩
    · rw [hz.1.2.2.2.2.1] at c_3
      have hn0 := nI_nz c_3
      refine z_aload_n C (pc := 20) dX3_team_20 rfl ?_
      refine z_get C (pc := 21) 0 rfl rfl wf_X3 7 (by decide) rfl wl_X3_167 (v := .int (i 2)) rfl dX3_team_21 ?_
      refine z_bipush C (pc := 24) (v := 20) dX3_team_24 (by decide) ?_
      refine z_icmp_lt C (pc := 26) (tgt := 32) dX3_team_26 (by decide) (fun c_4 => ?_) (fun c_4 => ?_)
      · rw [hz.1.2.2.1] at c_4
        have hs : ¬ (z.1 4 = 0 ∨ 20 ≤ z.1 2) := fun h => h.elim hn0 (fun h => nI_nlt (b := 20) h (by have := vz.2.1; omega) c_4)
        refine z_aload_n C (pc := 32) dX3_team_32 rfl ?_
        refine z_dup C (pc := 33) dX3_team_33 rfl ?_
        refine z_get C (pc := 34) 0 rfl rfl wf_X3 7 (by decide) rfl wl_X3_167 (v := .int (i 2)) rfl dX3_team_34 ?_
        refine z_iconst C (pc := 37) (v := 1) dX3_team_37 (by decide) ?_
        refine z_iadd C (pc := 38) dX3_team_38 ?_
        refine z_put C (pc := 39) 0 rfl rfl wf_X3 7 (by decide) rfl tyX3 tyX3_ok nmX3 rfl rfl rfl (Nat.le_of_ble_eq_true rfl) (ws' := (cW cI a (upd i 2 ((i 2) + 1)) r)) rfl wl_X3_167 dX3_team_39 ?_
        have vz' : VS (upG z.1 2 (z.1 2 + 1), z.2) := by
          have h1 := vs_team vz (nI yk)
          rw [show teamF z (nI yk) = (teamv (z.2.1 1) (z.1 4) (z.1 5) yk (z.2.1 2), (upG z.1 2 (z.1 2 + 1), z.2)) from (if_neg (by rw [hb]; decide)).trans ((if_neg hs).trans (by rw [hty]))] at h1
          exact h1
        refine z_aload_n C (pc := 42) dX3_team_42 rfl ?_
        refine z_iload_n C (pc := 43) dX3_team_43 rfl ?_
        refine z_calliF C (by exact fun _ => cW_ad) (runV C (wc := (cW cI a (upd i 2 ((i 2) + 1)) r)) (pc := 44) (rY' := rm 5 117) (nn := 1) (As := [.int (nI yk)]) (rest := []) (c_fewest l D cI tt a (upd i 2 ((i 2) + 1)) r (z.2.1 1) (z.1 4) ((cl_team hz).pv (vz' : VS (upG z.1 2 (z.1 2 + 1), z.2))) (z.1 5) yk hz.1.2.2.2.2.2.1 hy2 (z.2.1 2) hc) (full_hC _) (full_nd _) ⟨rfl, rfl, ⟨Nat.le_of_ble_eq_true rfl, Nat.le_of_ble_eq_true rfl⟩, Nat.le_of_ble_eq_true rfl, Nat.le_of_ble_eq_true rfl⟩ wl_X3_170 wm_X3_fewest we_X3_fewest wi_X3 wc_X3_fewest (by decide +kernel) rfl 0 rfl rfl rfl rfl (Nat.le_of_ble_eq_true rfl) dX3_team_44) (fun q_5 u_5 h_5 => ?_)
        obtain ⟨i5, r5⟩ := u_5
        try dsimp only at h_5
        obtain ⟨k0, k1, k2⟩ := h_5
        refine z_ws (st' := [.int q_5]) (ws' := (cW cI a i5 r5)) rfl rfl ?_
        refine z_iret C (pc := 47) (i5, r5) dX3_team_47 ?_ rfl
        rw [show teamF z (nI yk) = (teamv (z.2.1 1) (z.1 4) (z.1 5) yk (z.2.1 2), (upG z.1 2 (z.1 2 + 1), z.2)) from (if_neg (by rw [hb]; decide)).trans ((if_neg hs).trans (by rw [hty]))]
        exact ⟨k0, (cl_team hz).sp k1 k2⟩
      · rw [hz.1.2.2.1] at c_4
        have hs : z.1 4 = 0 ∨ 20 ≤ z.1 2 := Or.inr (Nat.le_of_not_lt (fun h => c_4 (nI_lt (b := 20) h (by decide))))
        refine z_bipush C (pc := 29) (v := (-103)) dX3_team_29 (by decide) ?_
        refine z_iret C (pc := 31) (i, r) dX3_team_31 ?_ rfl
        rw [show teamF z (nI yk) = (-103, z) from (if_neg (by rw [hb]; decide)).trans (if_pos hs)]
        exact ⟨rfl, hz⟩
  · have hb := b2_t (h_1 ▸ c_2)
    refine z_bipush C (pc := 7) (v := (-102)) dX3_team_7 (by decide) ?_
    refine z_iret C (pc := 9) (i, r) dX3_team_9 ?_ rfl
    rw [show teamF z y = (-102, z) from if_pos hb]
    exact ⟨rfl, hz⟩
end
